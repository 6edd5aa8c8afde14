def zIa (G : zG) (k r : Nat) (b1 b3 b5 b10 b11 m1 m11 m28 m8 m21 : Int32) : Prop := G.2.2.1 ≤ 10 ∧ G.2.2.2.1 ≤ 60 ∧ G.2.2.2.2 ≤ 100 ∧ r ≤ k ∧ b1 = nI G.2.2.1 ∧ m1 = nI G.2.2.1 ∧ b3 = nI G.2.2.2.1 ∧ m11 = nI G.2.2.2.1 ∧ b5 = nI G.2.2.2.2 ∧ m28 = nI G.2.2.2.2 ∧ (∃ w, w ≤ 2 ∧ b10 = nI w ∧ m8 = nI w) ∧ b11 = nI r ∧ m21 = nI r
def zP0 (n : Nat) (C37 : Nat → Nat → Int32) : Prop := ∀ p, p < n → C37 p 0 = nI p
def zP1 (n r : Nat) (C37 C42 C44 : Nat → Nat → Int32) (c17 c18 c19 c20 c21 c30 : Nat → Int32) : Prop := ∀ p, p < n → C37 p 6 = c30 p ∧ C37 p 7 = c20 p ∧ C37 p 8 = c21 p ∧ (∀ k, k < 4 → C42 p k = c17 (4 * p + k)) ∧ (∃ m, m ≤ 99 + r ∧ c17 (4 * p) = nI m) ∧ (¬ c17 (4 * p + 3) = 0 → (∀ k, k < 3 → C44 p k = c18 (4 * p + k)) ∧ C37 p 5 = c19 p ∧ ∃ m, m ≤ 99 + r ∧ c18 (4 * p) = nI m)
def zP2 (n : Nat) (C41 : Nat → Nat → Int32) (c22 : Nat → Int32) : Prop := ∀ p, p < n → ∀ q, q < 10 → zRg (C41 p q) (c22 (10 * p + q))
def zP3 (n : Nat) (c17 c20 c21 c22 c30 : Nat → Int32) : Prop := ∀ p, n ≤ p → p < 10 → c17 (4 * p + 3) = 0 ∧ c20 p = 0 ∧ c21 p = 0 ∧ c30 p = 0 ∧ ∀ q, q < 10 → c22 (10 * p + q) = 0
def zC0 (n m r : Nat) (C45 : Nat → Nat → Int32) (c24 c25 c26 c27 c28 c29 : Nat → Int32) : Prop := ∀ c, c < m → C45 c 0 = nI c ∧ (∃ p, p < n ∧ C45 c 1 = nI p) ∧ c24 c = C45 c 1 ∧ (c25 c = -1 ∨ ∃ j, j < 6 ∧ c25 c = nI j) ∧ C45 c 2 = c25 c ∧ C45 c 3 = c27 c ∧ C45 c 4 = c26 c ∧ (∃ w, w ≤ 3 ∧ c26 c = nI w) ∧ C45 c 5 = c29 c ∧ C45 c 6 = c28 c ∧ ∃ u, u ≤ r ∧ c28 c = nI u
def zCz (m : Nat) (c28 c29 : Nat → Int32) : Prop := ∀ c, m ≤ c → c < 60 → c28 c = 0 ∧ c29 c = 0
def zTI (m : Nat) (C38 C46 : Nat → Nat → Int32) (c34 c35 : Nat → Int32) : Prop := ∀ t, t < m → C38 t 0 = c34 t ∧ ∀ k, k < 4 → C46 t k = c35 (4 * t + k)
def zTp (a : Int32) (c39 : Nat → Int32) (b : Int32) (c23 : Nat → Int32) : Prop := ∃ n, n ≤ 60 ∧ a = nI n ∧ b = nI n ∧ ∀ i, i < n → c39 i = c23 i ∧ ¬ c23 i < 32 ∧ ¬ 126 < c23 i
def zNo (N : Nat) (a : Int32) (c40 : Nat → Int32) (b : Int32) (c31 : Nat → Int32) : Prop := ∃ n, n ≤ N ∧ a = nI n ∧ b = nI n ∧ ∀ i, i < n → c40 i = c31 i
def zInr (k r : Nat) (G : zG) (σ : zR) : Prop := zIa G k r (σ 8 0 1) (σ 8 0 3) (σ 8 0 5) (σ 8 0 10) (σ 8 0 11) (σ 9 0 1) (σ 9 0 11) (σ 9 0 28) (σ 9 0 8) (σ 9 0 21) ∧ zP0 G.2.2.1 (σ 37) ∧ zP1 G.2.2.1 r (σ 37) (σ 42) (σ 44) (σ 17 0) (σ 18 0) (σ 19 0) (σ 20 0) (σ 21 0) (σ 30 0) ∧ zP2 G.2.2.1 (σ 41) (σ 22 0) ∧ zP3 G.2.2.1 (σ 17 0) (σ 20 0) (σ 21 0) (σ 22 0) (σ 30 0) ∧ zC0 G.2.2.1 G.2.2.2.1 r (σ 45) (σ 24 0) (σ 25 0) (σ 26 0) (σ 27 0) (σ 28 0) (σ 29 0) ∧ zCz G.2.2.2.1 (σ 28 0) (σ 29 0) ∧ zTI G.2.2.2.2 (σ 38) (σ 46) (σ 34 0) (σ 35 0) ∧ zTp (σ 13 0 1) (σ 39 0) (σ 9 0 10) (σ 23 0) ∧ zNo 60 (σ 15 0 1) (σ 40 0) (σ 9 0 23) (σ 31 0) ∧ zNo 10 (σ 16 0 1) (σ 40 1) (σ 9 0 25) (σ 32 0)
def zInv (X : Nat × (Nat → Int32)) (k : Nat) (G : zG) (σ : zR) : Prop := (G.1 = X ∧ G.2.1.1 ≤ 200 + 5 * k ∧ G.2.1.2 ≤ 3000 + 31 * k) ∧ ∃ r, zInr k r G σ
def zSim (X : Nat × (Nat → Int32)) (k : Nat) (G : zG) (σ : zR) (bi mi : Nat) (as : List zmV) : Prop := ∃ (v : Int32) (G2 : zG) (σ1 σ2 : zR), (∀ o, zm_Calls 11 bi (.inr (.inr (some (8, 0))) :: as) (zh G σ) o ↔ o = (some (.inl v), zh G2 σ1)) ∧ (∀ o, zm_Calls 11 mi (.inr (.inr (some (9, 0))) :: as) (zh G2 σ1) o ↔ o = (some (.inl v), zh G2 σ2)) ∧ zInv X (k + 1) G2 σ2
set_option maxRecDepth 3000 in
set_option maxHeartbeats 400000 in
theorem ia_up {G : zG} {k r : Nat} {a1 a2 a3 a4 a5 a6 a7 a8 a9 a10 : Int32} (h : zIa G k r a1 a2 a3 a4 a5 a6 a7 a8 a9 a10) : zIa G (k + 1) r a1 a2 a3 a4 a5 a6 a7 a8 a9 a10 := by
  obtain ⟨h1, h2, h3, h4, h5⟩ := h
  exact ⟨h1, h2, h3, by omega, h5⟩
set_option maxRecDepth 3000 in
set_option maxHeartbeats 400000 in
theorem ix_up {X : Nat × (Nat → Int32)} {G : zG} {k : Nat} (h : G.1 = X ∧ G.2.1.1 ≤ 200 + 5 * k ∧ G.2.1.2 ≤ 3000 + 31 * k) : G.1 = X ∧ G.2.1.1 ≤ 200 + 5 * (k + 1) ∧ G.2.1.2 ≤ 3000 + 31 * (k + 1) := ⟨h.1, by omega, by omega⟩
section ZO
variable {X : Nat × (Nat → Int32)} {k : Nat} {G : zG} {σ : zR}
set_option maxRecDepth 3000 in
set_option maxHeartbeats 400000 in
theorem inv_9 (h : zInv X k G σ) : zInv X (k + 1) G (zw σ 9 0 0 0) := by
  obtain ⟨hx, r, ha, h⟩ := h
  exact ⟨ix_up hx, r, ia_up ha, h⟩
set_option maxRecDepth 3000 in
set_option maxHeartbeats 400000 in
theorem sim_bump (h : zInv X k G σ) (v : Int32) : zSim X k G σ 23 24 [.inl v] := by
  have h9 := inv_9 h
  obtain ⟨-, r, ⟨np, nc, nt, -, b1, m1, -⟩, p0, p1, -⟩ := h
  by_cases hv : vp_in v G.2.2.1
  · obtain ⟨p, hp, rfl⟩ := z_vin hv (by omega)
    refine ⟨_, G, σ, _, fun o => b_bump_in (d := 9) hp np, fun o => ?_, h9⟩
    rw [m_bump_in (d := 8) m1 hp np, (p1 p hp).1]
  · exact ⟨_, G, σ, _, fun o => b_bump_out (d := 9) hv, fun o => m_bump_out (d := 8) m1 hv np, h9⟩
set_option maxRecDepth 3000 in
set_option maxHeartbeats 400000 in
theorem sim_version (h : zInv X k G σ) (u v : Int32) : zSim X k G σ 25 26 [.inl u, .inl v] := by
  have h9 := inv_9 h
  obtain ⟨-, r, ⟨np, nc, nt, -, b1, m1, -⟩, p0, p1, -⟩ := h
  by_cases hv : vp_in u G.2.2.1
  · obtain ⟨p, hp, rfl⟩ := z_vin hv (by omega)
    refine ⟨_, G, σ, _, fun o => b_version_in (d := 9) hp np, fun o => ?_, h9⟩
    rw [m_version_in (d := 8) m1 hp np]
    have e := (p1 p hp).2.2.2.1
    by_cases c : ¬ v < 0 ∧ ¬ 3 < v
    · rw [if_pos c]
      obtain ⟨j, hj, rfl⟩ := nI_of c.1
      have hj4 : j < 4 := by
        have := c.2
        rw [show (3 : Int32) = nI 3 from rfl, nI_ltI (by omega) hj] at this
        omega
      have e4 : (4 : Int32) * nI p + nI j = nI (4 * p + j) := by rw [show (4 : Int32) = nI 4 from rfl, pk_mul, nI_add]
      rw [e4, nI_clamp (by omega), ← e j hj4]
      have hin : vp_in (nI (4 * p + j)) 40 := z_nin (by omega) (by omega)
      have hj : j = 0 ∨ j = 1 ∨ j = 2 ∨ j = 3 := by omega
      have t : ∀ (a b : zmO), (vp_in (nI (4 * p + j)) 40 ∧ o = a) ↔ (o = a) := fun a b => ⟨fun x => x.2, fun x => ⟨hin, x⟩⟩
      rw [t _ (none, zh G σ)]
      rcases hj with rfl | rfl | rfl | rfl <;> rfl
    · rw [if_neg c]
      have : ∀ j, j < 4 → ¬ v = nI j := fun j hj e => c (by
        rw [e, show (3 : Int32) = nI 3 from rfl, nI_ltI (by omega) (by omega)]
        exact ⟨nI_pos (by omega), by omega⟩)
      rw [if_neg (show ¬ v = 0 from this 0 (by omega)), if_neg (show ¬ v = 1 from this 1 (by omega)), if_neg (show ¬ v = 2 from this 2 (by omega)), if_neg (show ¬ v = 3 from this 3 (by omega))]
  · exact ⟨_, G, σ, _, fun o => b_version_out (d := 9) hv, fun o => m_version_out (d := 8) m1 hv np, h9⟩
set_option maxRecDepth 3000 in
set_option maxHeartbeats 400000 in
theorem sim_about (h : zInv X k G σ) (u v : Int32) : zSim X k G σ 27 28 [.inl u, .inl v] := by
  have h9 := inv_9 h
  obtain ⟨-, r, ⟨np, nc, nt, -, b1, m1, b3, m11, -⟩, p0, p1, -, -, c0, -⟩ := h
  by_cases hv : vp_in u G.2.2.2.1
  · obtain ⟨p, hp, rfl⟩ := z_vin hv (by omega)
    refine ⟨_, G, σ, _, fun o => b_about_in (d := 9) hp nc, fun o => ?_, h9⟩
    rw [m_about_in (d := 8) m11 hp nc]
    obtain ⟨-, -, -, -, e2, e3, e4, -, e5, e6, -⟩ := c0 p hp
    rw [e2, e3, e4, e5, e6]
  · exact ⟨_, G, σ, _, fun o => b_about_out (d := 9) hv, fun o => m_about_out (d := 8) m11 hv nc, h9⟩
set_option maxRecDepth 3000 in
set_option maxHeartbeats 400000 in
theorem sim_note (h : zInv X k G σ) (v : Int32) : zSim X k G σ 29 30 [.inl v] := by
  have h9 := inv_9 h
  obtain ⟨-, r, -, -, -, -, -, -, -, -, -, ⟨n, hn, n1, n2, n3⟩, -⟩ := h
  have hc := z_cnt (v := v) n2 (by omega)
  by_cases c : vp_in v n
  · obtain ⟨j, hj, rfl⟩ := z_vin c (by omega)
    refine ⟨σ 40 0 j, G, σ, _, fun o => ?_, fun o => ?_, h9⟩
    · rw [b_note (d := 9), if_neg (z_not0 (by omega)), if_pos (z_ltn n1 hj (by omega)), if_pos (z_ltn (x := 60) (n := 60) rfl (by omega) (by omega)), z_cl (by omega)]
      exact ⟨fun x => x.2, fun x => ⟨z_nin (by omega) (by omega), x⟩⟩
    · rw [m_note (d := 9) n2 hn, if_pos (by rw [← n2]; exact hc.mpr c), z_cl (by omega), n3 j hj]
      exact ⟨fun x => x.2, fun x => ⟨z_nin (by omega) (by omega), x⟩⟩
  · refine ⟨-1, G, σ, _, fun o => ?_, fun o => ?_, h9⟩
    · rw [b_note (d := 9)]
      by_cases v0 : v < 0
      · rw [if_pos v0]
      · rw [if_neg v0, if_neg (fun x => c (z_inlt n1 (by omega) v0 x))]
    · rw [m_note (d := 9) n2 hn, if_neg (by rw [← n2]; exact fun x => c (hc.mp x))]
set_option maxRecDepth 3000 in
set_option maxHeartbeats 400000 in
theorem sim_told (h : zInv X k G σ) (v : Int32) : zSim X k G σ 31 32 [.inl v] := by
  have h9 := inv_9 h
  obtain ⟨-, r, -, -, -, -, -, -, -, -, -, -, ⟨n, hn, n1, n2, n3⟩⟩ := h
  have hc := z_cnt (v := v) n2 (by omega)
  by_cases c : vp_in v n
  · obtain ⟨j, hj, rfl⟩ := z_vin c (by omega)
    refine ⟨σ 40 1 j, G, σ, _, fun o => ?_, fun o => ?_, h9⟩
    · rw [b_told (d := 9), if_neg (z_not0 (by omega)), if_pos (z_ltn n1 hj (by omega)), if_pos (z_ltn (x := 10) (n := 10) rfl (by omega) (by omega)), z_cl (by omega)]
      exact ⟨fun x => x.2, fun x => ⟨z_nin (by omega) (by omega), x⟩⟩
    · rw [m_told (d := 9) n2 hn, if_pos (by rw [← n2]; exact hc.mpr c), z_cl (by omega), n3 j hj]
      exact ⟨fun x => x.2, fun x => ⟨z_nin (by omega) (by omega), x⟩⟩
  · refine ⟨-1, G, σ, _, fun o => ?_, fun o => ?_, h9⟩
    · rw [b_told (d := 9)]
      by_cases v0 : v < 0
      · rw [if_pos v0]
      · rw [if_neg v0, if_neg (fun x => c (z_inlt n1 (by omega) v0 x))]
    · rw [m_told (d := 9) n2 hn, if_neg (by rw [← n2]; exact fun x => c (hc.mp x))]
end ZO
