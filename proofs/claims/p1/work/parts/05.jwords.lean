/-! the classes' words among the tables' -/
theorem jW_of {w : Cond} (h : w ∈ lw_tbl) (g : goodWord w = true) : w ∈ jW := List.mem_filter.mpr ⟨h, g⟩
theorem jvw {ci : Nat} (h : ci < 13) : vwCl[ci]? = some (jRN ci, jTX ci, jNf ci) := by
  match ci, h with
  | 0, _ => rfl
  | 1, _ => rfl
  | 2, _ => rfl
  | 3, _ => rfl
  | 4, _ => rfl
  | 5, _ => rfl
  | 6, _ => rfl
  | 7, _ => rfl
  | 8, _ => rfl
  | 9, _ => rfl
  | 10, _ => rfl
  | 11, _ => rfl
  | 12, _ => rfl
theorem jlay0 : (u_ws RX0 TX0 13).all (fun w => decide (w ∈ lw_tbl) && goodWord w) = true := by decide +kernel
theorem jlay1 : (u_ws RX1 TX1 5).all (fun w => decide (w ∈ lw_tbl) && goodWord w) = true := by decide +kernel
theorem jlay2 : (u_ws RX2 TX2 15).all (fun w => decide (w ∈ lw_tbl) && goodWord w) = true := by decide +kernel
theorem jlay3 : (u_ws RX3 TX3 3).all (fun w => decide (w ∈ lw_tbl) && goodWord w) = true := by decide +kernel
theorem jlay4 : (u_ws RX4 TX4 10).all (fun w => decide (w ∈ lw_tbl) && goodWord w) = true := by decide +kernel
theorem jlay5 : (u_ws RX5 TX5 18).all (fun w => decide (w ∈ lw_tbl) && goodWord w) = true := by decide +kernel
theorem jlay6 : (u_ws RX6 TX6 7).all (fun w => decide (w ∈ lw_tbl) && goodWord w) = true := by decide +kernel
theorem jlay7 : (u_ws RX7 TX7 8).all (fun w => decide (w ∈ lw_tbl) && goodWord w) = true := by decide +kernel
theorem jlay8 : (u_ws RX8 TX8 16).all (fun w => decide (w ∈ lw_tbl) && goodWord w) = true := by decide +kernel
theorem jlay9 : (u_ws RX9 TX9 13).all (fun w => decide (w ∈ lw_tbl) && goodWord w) = true := by decide +kernel
theorem jlay10 : (u_ws RX10 TX10 14).all (fun w => decide (w ∈ lw_tbl) && goodWord w) = true := by decide +kernel
theorem jlay11 : (u_ws RX11 TX11 6).all (fun w => decide (w ∈ lw_tbl) && goodWord w) = true := by decide +kernel
theorem jlay12_0 : ((List.range' 0 10).map (u_lay RX12 TX12)).all (fun w => decide (w ∈ tables_1_1 ++ (tables_1_9 ++ (tables_1_10 ++ tables_1_11))) && goodWord w) = true := by decide +kernel
theorem jlay12_1 : ((List.range' 10 10).map (u_lay RX12 TX12)).all (fun w => decide (w ∈ tables_1_1 ++ (tables_1_9 ++ (tables_1_10 ++ tables_1_11))) && goodWord w) = true := by decide +kernel
theorem jlay12_2 : ((List.range' 20 10).map (u_lay RX12 TX12)).all (fun w => decide (w ∈ tables_1_1 ++ (tables_1_9 ++ (tables_1_10 ++ tables_1_11))) && goodWord w) = true := by decide +kernel
theorem jlay12_3 : ((List.range' 30 10).map (u_lay RX12 TX12)).all (fun w => decide (w ∈ tables_1_1 ++ (tables_1_9 ++ (tables_1_10 ++ tables_1_11))) && goodWord w) = true := by decide +kernel
theorem jlay12_4 : ((List.range' 40 10).map (u_lay RX12 TX12)).all (fun w => decide (w ∈ tables_1_1 ++ (tables_1_9 ++ (tables_1_10 ++ tables_1_11))) && goodWord w) = true := by decide +kernel
theorem jlay12_5 : ((List.range' 50 10).map (u_lay RX12 TX12)).all (fun w => decide (w ∈ tables_1_1 ++ (tables_1_9 ++ (tables_1_10 ++ tables_1_11))) && goodWord w) = true := by decide +kernel
theorem jlay12_6 : ((List.range' 60 10).map (u_lay RX12 TX12)).all (fun w => decide (w ∈ tables_1_1 ++ (tables_1_9 ++ (tables_1_10 ++ tables_1_11))) && goodWord w) = true := by decide +kernel
theorem jlay12_7 : ((List.range' 70 10).map (u_lay RX12 TX12)).all (fun w => decide (w ∈ tables_1_1 ++ (tables_1_9 ++ (tables_1_10 ++ tables_1_11))) && goodWord w) = true := by decide +kernel
theorem jlay12_8 : ((List.range' 80 10).map (u_lay RX12 TX12)).all (fun w => decide (w ∈ tables_1_1 ++ (tables_1_9 ++ (tables_1_10 ++ tables_1_11))) && goodWord w) = true := by decide +kernel
theorem jlay12_9 : ((List.range' 90 10).map (u_lay RX12 TX12)).all (fun w => decide (w ∈ tables_1_1 ++ (tables_1_9 ++ (tables_1_10 ++ tables_1_11))) && goodWord w) = true := by decide +kernel
theorem jlay12_10 : ((List.range' 100 1).map (u_lay RX12 TX12)).all (fun w => decide (w ∈ tables_1_1 ++ (tables_1_9 ++ (tables_1_10 ++ tables_1_11))) && goodWord w) = true := by decide +kernel
theorem jlay12 : ∀ w ∈ u_ws RX12 TX12 101, w ∈ tables_1_1 ++ (tables_1_9 ++ (tables_1_10 ++ tables_1_11)) ∧ goodWord w = true := by
  intro w hw
  obtain ⟨k, hk, rfl⟩ := List.mem_map.mp hw
  have hk := List.mem_range.mp hk
  have key : ∀ (a n : Nat), ((List.range' a n).map (u_lay RX12 TX12)).all (fun w => decide (w ∈ tables_1_1 ++ (tables_1_9 ++ (tables_1_10 ++ tables_1_11))) && goodWord w) = true → a ≤ k → k < a + n → u_lay RX12 TX12 k ∈ tables_1_1 ++ (tables_1_9 ++ (tables_1_10 ++ tables_1_11)) ∧ goodWord (u_lay RX12 TX12 k) = true := by
    intro a n h h1 h2
    have h3 := List.all_eq_true.mp h _ (List.mem_map.mpr ⟨k, List.mem_range'_1.mpr ⟨h1, h2⟩, rfl⟩)
    simp only [Bool.and_eq_true, decide_eq_true_eq] at h3
    exact h3
  by_cases c0 : k < 10
  · exact key 0 10 jlay12_0 (by omega) (by omega)
  by_cases c1 : k < 20
  · exact key 10 10 jlay12_1 (by omega) (by omega)
  by_cases c2 : k < 30
  · exact key 20 10 jlay12_2 (by omega) (by omega)
  by_cases c3 : k < 40
  · exact key 30 10 jlay12_3 (by omega) (by omega)
  by_cases c4 : k < 50
  · exact key 40 10 jlay12_4 (by omega) (by omega)
  by_cases c5 : k < 60
  · exact key 50 10 jlay12_5 (by omega) (by omega)
  by_cases c6 : k < 70
  · exact key 60 10 jlay12_6 (by omega) (by omega)
  by_cases c7 : k < 80
  · exact key 70 10 jlay12_7 (by omega) (by omega)
  by_cases c8 : k < 90
  · exact key 80 10 jlay12_8 (by omega) (by omega)
  by_cases c9 : k < 100
  · exact key 90 10 jlay12_9 (by omega) (by omega)
  exact key 100 1 jlay12_10 (by omega) (by omega)
theorem jlays {ci : Nat} (h : ci < 13) : ∀ w ∈ u_ws (jRN ci) (jTX ci) (jNf ci), w ∈ jW := by
  intro w hw
  by_cases h12 : ci = 12
  · subst h12
    obtain ⟨h1, h2⟩ := jlay12 w hw
    refine jW_of ?_ h2
    simp only [lw_tbl, tables_1, List.mem_append] at h1 ⊢
    rcases h1 with h1 | h1 | h1 | h1 <;> simp only [h1, true_or, or_true]
  have h : ci < 12 := by omega
  have key : (u_ws (jRN ci) (jTX ci) (jNf ci)).all (fun w => decide (w ∈ lw_tbl) && goodWord w) = true := by
    match ci, h with
    | 0, _ => exact jlay0
    | 1, _ => exact jlay1
    | 2, _ => exact jlay2
    | 3, _ => exact jlay3
    | 4, _ => exact jlay4
    | 5, _ => exact jlay5
    | 6, _ => exact jlay6
    | 7, _ => exact jlay7
    | 8, _ => exact jlay8
    | 9, _ => exact jlay9
    | 10, _ => exact jlay10
    | 11, _ => exact jlay11
  have h1 := List.all_eq_true.mp key w hw
  simp only [Bool.and_eq_true, decide_eq_true_eq] at h1
  exact jW_of h1.1 h1.2
theorem jtys {ci : Nat} (h : ci < 13) : ∀ k, k < jNf ci → parseFieldDescriptor (jTX ci k).2.2.1 = some (jTy ci k) := by
  match ci, h with
  | 0, _ => exact tyX0_ok
  | 1, _ => exact tyX1_ok
  | 2, _ => exact tyX2_ok
  | 3, _ => exact tyX3_ok
  | 4, _ => exact tyX4_ok
  | 5, _ => exact tyX5_ok
  | 6, _ => exact tyX6_ok
  | 7, _ => exact tyX7_ok
  | 8, _ => exact tyX8_ok
  | 9, _ => exact tyX9_ok
  | 10, _ => exact tyX10_ok
  | 11, _ => exact tyX11_ok
  | 12, _ => exact tyX12_ok
theorem jnms {ci : Nat} (h : ci < 13) : ∀ a, a < jNf ci → ∀ b, b < jNf ci → a ≠ b → (jTX ci a).2.1 ≠ (jTX ci b).2.1 := by
  match ci, h with
  | 0, _ => exact nmX0
  | 1, _ => exact nmX1
  | 2, _ => exact nmX2
  | 3, _ => exact nmX3
  | 4, _ => exact nmX4
  | 5, _ => exact nmX5
  | 6, _ => exact nmX6
  | 7, _ => exact nmX7
  | 8, _ => exact nmX8
  | 9, _ => exact nmX9
  | 10, _ => exact nmX10
  | 11, _ => exact nmX11
  | 12, _ => exact nmX12
theorem jNt_le (k : Nat) : jNt k ≤ jNf k := Nat.le_refl _
