set_option maxRecDepth 3000 in
set_option maxHeartbeats 400000 in
theorem inv_0 {L : Nat} {xs : Nat → Int32} : zInv (L, xs) 0 (zG0 L xs) zS0 := by
  have no : ∀ {p : Nat} {P : Prop}, p < (zG0 L xs).2.2.1 → P := fun h => absurd h (Nat.not_lt_zero _)
  refine ⟨⟨rfl, Nat.le_of_ble_eq_true rfl, Nat.le_of_ble_eq_true rfl⟩, 0, ⟨Nat.zero_le _, Nat.zero_le _, Nat.zero_le _, Nat.le_refl _, nI_0.symm, nI_0.symm, nI_0.symm, nI_0.symm, nI_0.symm, nI_0.symm, ⟨1, by omega, rfl, rfl⟩, nI_0.symm, nI_0.symm⟩, fun p h => absurd h (Nat.not_lt_zero p), fun p h => absurd h (Nat.not_lt_zero p), fun p h => absurd h (Nat.not_lt_zero p), fun p _ _ => ⟨rfl, rfl, rfl, rfl, fun _ _ => rfl⟩, fun p h => absurd h (Nat.not_lt_zero p), fun p _ _ => ⟨rfl, rfl⟩, fun p h => absurd h (Nat.not_lt_zero p), ⟨0, by omega, nI_0.symm, nI_0.symm, fun p h => absurd h (Nat.not_lt_zero p)⟩, ⟨0, by omega, nI_0.symm, nI_0.symm, fun p h => absurd h (Nat.not_lt_zero p)⟩, ⟨0, by omega, nI_0.symm, nI_0.symm, fun p h => absurd h (Nat.not_lt_zero p)⟩⟩
set_option maxRecDepth 3000 in
set_option maxHeartbeats 400000 in
theorem law_ok {L : Nat} {xs : Nat → Int32} (hL : L ≤ 2048) : ∃ h1 : zmH, zm_Calls 12 0 [.inr (.inr (some (0, 0)))] (zs_h0 L xs) (some (.inl 1), h1) ∧ h1.1.1 ≤ 600000 ∧ h1.1.2 ≤ 7302250 := by
  obtain ⟨h1, a, b, c⟩ := lw_loop hL (L / 4) 0 (Nat.zero_add _) (zG0 L xs) zS0 inv_0
  exact ⟨h1, (law_in (d := 9)).mpr a, b, c⟩
