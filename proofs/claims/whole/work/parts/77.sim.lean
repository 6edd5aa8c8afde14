section ZO3
variable {X : Nat × (Nat → Int32)} {k : Nat} {G : zG} {σ : zR}
set_option maxRecDepth 3000 in
set_option maxHeartbeats 400000 in
theorem z_u0 {x : Int32} {n : Nat} (h : x = nI n) (hn : n < 2147483648) : (¬ 0 < x) ↔ x = 0 := by
  have := z_p0 (w := x) (by rw [h]; exact nI_pos hn)
  rw [this]
  exact Classical.not_not
set_option maxRecDepth 3000 in
set_option maxHeartbeats 400000 in
theorem sim_squash (hk : k ≤ 512) (h : zInv X k G σ) (u v : Int32) : zSim X k G σ 17 18 [.inl u, .inl v] := by
  have h9 := inv_9 h
  obtain ⟨hx, r, ⟨np, nc, nt, hr, b1, m1, b3, m11, ha⟩, p0, p1, p2, p3, c0, cz, h⟩ := h
  by_cases c : vp_in u G.2.2.2.1
  · obtain ⟨p, hp, rfl⟩ := z_vin c (by omega)
    by_cases c2 : vp_in v G.2.2.2.1
    · obtain ⟨q, hq, rfl⟩ := z_vin c2 (by omega)
      obtain ⟨-, -, e1, -, -, -, e4, ⟨w, hw, ew⟩, e5, e6, u, hu, eu⟩ := c0 p hp
      obtain ⟨-, -, f1, -, -, -, f4, ⟨y, hy, fy⟩, f5, f6, z, hz, fz⟩ := c0 q hq
      have o1 := z_u0 eu (by omega)
      have o2 := z_u0 fz (by omega)
      have B := fun o => b_squash_3 (d := 8) (σ := σ) (o := o) hp hq nc
      rw [e5, e6, f5, f6, ← e1, ← f1, e4, f4] at B
      simp only [o1, o2] at B
      have hM : ∀ τ : zR, (τ 9 0 11 = nI G.2.2.2.1) → ∀ o, _ := fun τ ht o => m_squash_3 (d := 7) (σ := τ) (o := o) ht hp hq nc
      by_cases d1 : nI p = nI q
      · simp only [if_pos d1] at B
        refine ⟨0, G, σ, _, B, fun o => ?_, h9⟩
        rw [hM σ m11]
        simp only [if_pos d1, ite_self]
      · simp only [if_neg d1] at B
        by_cases d2 : σ 24 0 p = σ 24 0 q
        · simp only [if_pos d2] at B
          by_cases d3 : σ 29 0 p = 0 ∧ σ 28 0 p = 0
          · by_cases d4 : σ 29 0 q = 0 ∧ σ 28 0 q = 0
            · simp only [if_neg (not_not_intro d3), if_neg (not_not_intro d4)] at B
              have hpq : ¬ p = q := fun x => d1 (by rw [x])
              have key : ∃ z, z ≤ 3 ∧ (if σ 26 0 p < σ 26 0 q then σ 26 0 q else σ 26 0 p) = nI z := by
                split
                · exact ⟨y, hy, fy⟩
                · exact ⟨w, hw, ew⟩
              obtain ⟨σ2, M, s2a, s2b, s2c, s2d⟩ : ∃ σ2 : zR, (∀ o, zm_Calls 11 18 [.inr (.inr (some (9, 0))), .inl (nI p), .inl (nI q)] (zh G (zw (zw σ 45 p 5 1) 45 q 4 (if σ 26 0 p < σ 26 0 q then σ 26 0 q else σ 26 0 p))) o ↔ o = (some (.inl 1), zh G σ2)) ∧ (∀ s, ¬ s = 9 → ¬ s = 29 → ¬ s = 26 → ¬ s = 45 → σ2 s = σ s) ∧ (∀ f, ¬ f = 0 → σ2 9 0 f = σ 9 0 f) ∧ σ2 45 = zw (zw σ 45 p 5 1) 45 q 4 (if σ 26 0 p < σ 26 0 q then σ 26 0 q else σ 26 0 p) 45 ∧ ((∀ c, σ2 29 0 c = if c = p then 1 else σ 29 0 c) ∧ ∀ c, σ2 26 0 c = if c = q then (if σ 26 0 p < σ 26 0 q then σ 26 0 q else σ 26 0 p) else σ 26 0 c) := by
                generalize hx : (if σ 26 0 p < σ 26 0 q then σ 26 0 q else σ 26 0 p) = x
                have hM := hM (zw (zw σ 45 p 5 1) 45 q 4 x) m11
                have t26 : zw (zw σ 45 p 5 1) 45 q 4 x 26 = σ 26 := rfl
                have t24 : zw (zw σ 45 p 5 1) 45 q 4 x 24 = σ 24 := rfl
                have t28 : zw (zw σ 45 p 5 1) 45 q 4 x 28 = σ 28 := rfl
                have t29 : zw (zw σ 45 p 5 1) 45 q 4 x 29 = σ 29 := rfl
                rw [t26, t24, t28, t29] at hM
                simp only [if_neg (not_not_intro d3), if_neg (not_not_intro d4), if_neg d1, if_pos d2] at hM
                by_cases d5 : σ 26 0 q < σ 26 0 p
                · simp only [if_pos d5] at hM
                  have ex : x = σ 26 0 p := by rw [← hx, if_neg (fun y => Int32.lt_irrefl (Int32.lt_trans y d5))]
                  refine ⟨_, hM, fun s h9 h29 h26 h45 => ?_, fun f hf => ?_, rfl, fun c => ?_, fun c => ?_⟩
                  · rw [zw_s h26, zw_s h29, zw_s h9, zw_s h45, zw_s h45]
                  · rw [zw_s (by decide), zw_s (by decide), w_o _ _ _ _ _ (fun x => hf x.2.2)]; rfl
                  · rw [zw_s (by decide), zw_ap]
                    simp only [true_and]
                    rfl
                  · rw [zw_ap, ex]
                    simp only [true_and]
                    rfl
                · simp only [if_neg d5] at hM
                  have ex : x = σ 26 0 q := by
                    rw [← hx]
                    split
                    · rfl
                    · rename_i h3
                      exact Int32.le_antisymm (Int32.not_lt.mp d5) (Int32.not_lt.mp h3)
                  refine ⟨_, hM, fun s h9 h29 h26 h45 => ?_, fun f hf => ?_, rfl, fun c => ?_, fun c => ?_⟩
                  · rw [zw_s h29, zw_s h9, zw_s h45, zw_s h45]
                  · rw [zw_s (by decide), w_o _ _ _ _ _ (fun x => hf x.2.2)]; rfl
                  · rw [zw_ap]
                    simp only [true_and]
                    rfl
                  · rw [ex]
                    by_cases hc : c = q
                    · rw [if_pos hc, hc]; rfl
                    · rw [if_neg hc]; rfl
              generalize (if σ 26 0 p < σ 26 0 q then σ 26 0 q else σ 26 0 p) = x at *
              refine ⟨1, G, _, σ2, B, M, ix_up hx, r, ?_, ?_, ?_, ?_, ?_, ?_, ?_, ?_⟩
              · rw [s2a 8 (by decide) (by decide) (by decide) (by decide), s2b 1 (by decide), s2b 11 (by decide), s2b 28 (by decide), s2b 8 (by decide), s2b 21 (by decide)]
                exact ia_up ⟨np, nc, nt, hr, b1, m1, b3, m11, ha⟩
              · rw [s2a 37 (by decide) (by decide) (by decide) (by decide)]; exact p0
              · rw [s2a 37 (by decide) (by decide) (by decide) (by decide), s2a 42 (by decide) (by decide) (by decide) (by decide), s2a 44 (by decide) (by decide) (by decide) (by decide), s2a 17 (by decide) (by decide) (by decide) (by decide), s2a 18 (by decide) (by decide) (by decide) (by decide), s2a 19 (by decide) (by decide) (by decide) (by decide), s2a 20 (by decide) (by decide) (by decide) (by decide), s2a 21 (by decide) (by decide) (by decide) (by decide), s2a 30 (by decide) (by decide) (by decide) (by decide)]; exact p1
              · rw [s2a 41 (by decide) (by decide) (by decide) (by decide), s2a 22 (by decide) (by decide) (by decide) (by decide)]; exact p2
              · rw [s2a 17 (by decide) (by decide) (by decide) (by decide), s2a 20 (by decide) (by decide) (by decide) (by decide), s2a 21 (by decide) (by decide) (by decide) (by decide), s2a 22 (by decide) (by decide) (by decide) (by decide), s2a 30 (by decide) (by decide) (by decide) (by decide)]; exact p3
              · intro c hc
                obtain ⟨g0, g1, g2, g3, g4, g5, g6, g7, g8, g9⟩ := c0 c hc
                rw [s2c, s2d.1 c, s2d.2 c, s2a 24 (by decide) (by decide) (by decide) (by decide), s2a 25 (by decide) (by decide) (by decide) (by decide), s2a 27 (by decide) (by decide) (by decide) (by decide), s2a 28 (by decide) (by decide) (by decide) (by decide)]
                have o : ∀ f, ¬ f = 5 → ¬ f = 4 → zw (zw σ 45 p 5 1) 45 q 4 x 45 c f = σ 45 c f := fun f h5 h4 => by rw [w_o _ _ _ _ _ (fun x => h4 x.2.2), w_o _ _ _ _ _ (fun x => h5 x.2.2)]
                rw [o 0 (by decide) (by decide), o 1 (by decide) (by decide), o 2 (by decide) (by decide), o 3 (by decide) (by decide), o 6 (by decide) (by decide)]
                refine ⟨g0, g1, g2, g3, g4, g5, ?_, ?_, ?_, g9⟩
                · by_cases hcq : c = q
                  · rw [if_pos hcq, hcq, w_i]
                  · rw [if_neg hcq, w_o _ _ _ _ _ (fun x => hcq x.2.1), w_o _ _ _ _ _ (by simp)]; exact g6
                · by_cases hcq : c = q
                  · rw [if_pos hcq]; exact key
                  · rw [if_neg hcq]; exact g7
                · rw [w_o _ _ _ _ _ (by simp)]
                  by_cases hcp : c = p
                  · rw [if_pos hcp, hcp, w_i]
                  · rw [if_neg hcp, w_o _ _ _ _ _ (fun x => hcp x.2.1)]; exact g8
              · intro c h1 h2
                rw [s2a 28 (by decide) (by decide) (by decide) (by decide), s2d.1 c, if_neg (by omega)]
                exact cz c h1 h2
              · rw [s2a 38 (by decide) (by decide) (by decide) (by decide), s2a 46 (by decide) (by decide) (by decide) (by decide), s2a 34 (by decide) (by decide) (by decide) (by decide), s2a 35 (by decide) (by decide) (by decide) (by decide), s2a 13 (by decide) (by decide) (by decide) (by decide), s2a 39 (by decide) (by decide) (by decide) (by decide), s2a 23 (by decide) (by decide) (by decide) (by decide), s2a 15 (by decide) (by decide) (by decide) (by decide), s2a 16 (by decide) (by decide) (by decide) (by decide), s2a 40 (by decide) (by decide) (by decide) (by decide), s2a 31 (by decide) (by decide) (by decide) (by decide), s2a 32 (by decide) (by decide) (by decide) (by decide), s2b 10 (by decide), s2b 23 (by decide), s2b 25 (by decide)]
                exact h
            · simp only [if_neg (not_not_intro d3), if_pos d4] at B
              refine ⟨0, G, σ, _, B, fun o => ?_, h9⟩
              rw [hM σ m11, if_neg (not_not_intro d3), if_pos d4]
          · simp only [if_pos d3] at B
            refine ⟨0, G, σ, _, B, fun o => ?_, h9⟩
            rw [hM σ m11, if_pos d3]
        · simp only [if_neg d2] at B
          refine ⟨0, G, σ, _, B, fun o => ?_, h9⟩
          rw [hM σ m11, if_neg d1, if_neg d2]
          simp only [ite_self]
    · exact ⟨_, G, σ, _, fun o => b_squash_2 (d := 9) hp nc c2, fun o => m_squash_2 (d := 7) m11 hp c2 nc, h9⟩
  · exact ⟨_, G, σ, _, fun o => b_squash_1 (d := 9) nc c, fun o => m_squash_1 (d := 7) m11 c nc, h9⟩
end ZO3
