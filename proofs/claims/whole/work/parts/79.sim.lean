section ZO5
variable {X : Nat × (Nat → Int32)} {k : Nat} {G : zG} {σ : zR}
set_option maxRecDepth 3000 in
set_option maxHeartbeats 400000 in
theorem tg_tg {p t : Nat} (hp : σ 37 p 0 = nI p) (h4 : ∀ k, k < 4 → σ 42 p k = σ 17 0 (4 * p + k)) (h : σ 38 t 0 = σ 34 0 t ∧ ∀ k, k < 4 → σ 46 t k = σ 35 0 (4 * t + k)) : zTg σ p t ↔ zTgm σ p t := by
  obtain ⟨h1, h2⟩ := h
  unfold zTg zTgm
  rw [hp, h1, h2 0 (by omega), h2 1 (by omega), h2 2 (by omega), h2 3 (by omega), h4 0 (by omega), h4 1 (by omega), h4 2 (by omega), h4 3 (by omega)]
  constructor
  · rintro ⟨a, b, c, d, e⟩
    refine ⟨a, fun k hk => ?_⟩
    have hk : k = 0 ∨ k = 1 ∨ k = 2 ∨ k = 3 := by omega
    rcases hk with rfl | rfl | rfl | rfl <;> assumption
  · rintro ⟨a, b⟩
    exact ⟨a, b 0 (by omega), b 1 (by omega), b 2 (by omega), b 3 (by omega)⟩
set_option maxRecDepth 3000 in
set_option maxHeartbeats 400000 in
theorem sim_tag (h : zInv X k G σ) (v : Int32) : zSim X k G σ 33 34 [.inl v] := by
  have h9 := inv_9 h
  obtain ⟨hx, r, ⟨np, nc, nt, hr, b1, m1, b3, m11, b5, m28, ha⟩, p0, p1, p2, p3, c0, cz, ti, h⟩ := h
  by_cases c : vp_in v G.2.2.1
  · obtain ⟨p, hp, rfl⟩ := z_vin c (by omega)
    have tt : ∀ t, t < G.2.2.2.2 → (zTg σ p t ↔ zTgm σ p t) := fun t ht => tg_tg (p0 p hp) (p1 p hp).2.2.2.1 (ti t ht)
    by_cases ex : ∃ t, t < G.2.2.2.2 ∧ zTg σ p t
    · refine ⟨_, G, σ, _, fun o => b_tag_0 (d := 7) hp np nt ex, fun o => m_tag_0 (d := 8) np m1 hp nt m28 ?_, h9⟩
      obtain ⟨t, ht, e⟩ := ex
      exact ⟨t, ht, (tt t ht).mp e⟩
    · have nx : ∀ t, t < G.2.2.2.2 → ¬ zTgm σ p t := fun t ht e => ex ⟨t, ht, (tt t ht).mpr e⟩
      by_cases full : G.2.2.2.2 = 100
      · refine ⟨_, G, σ, _, fun o => b_tag_full (d := 7) hp np full b5 ex, fun o => m_tag_full (d := 8) np m1 hp ?_ ?_, h9⟩
        · rw [m28, full]
        · rw [full] at nx; exact nx
      · refine ⟨1, zGt G, zSt σ p G.2.2.2.2, zGm (zw (zSt σ p G.2.2.2.2) 9 0 0 0) p G.2.2.2.2, fun o => b_tag_1 (d := 7) hp np (by omega) b5 ex, fun o => ?_, ?_⟩
        · have e9 : zSt σ p G.2.2.2.2 9 0 = σ 9 0 := zSt_off (by simp) (by simp) (by simp)
          have e34 : zSt σ p G.2.2.2.2 34 0 = σ 34 0 := zSt_off (by simp) (by simp) (by simp)
          have e35 : zSt σ p G.2.2.2.2 35 0 = σ 35 0 := zSt_off (by simp) (by simp) (by simp)
          have e17 : zSt σ p G.2.2.2.2 17 0 = σ 17 0 := zSt_off (by simp) (by simp) (by simp)
          refine m_tag_1 (d := 8) (m := G.2.2.1) np ?_ hp (by omega) ?_ (fun q hq e => nx q hq ?_)
          · rw [e9]; exact m1
          · rw [e9]; exact m28
          · unfold zTgm at e ⊢
            rw [e34, e35, e17] at e
            exact e
        · have so : ∀ s i, ¬ (s = 8 ∧ i = 0) → ¬ (s = 46 ∧ i = G.2.2.2.2) → ¬ (s = 38 ∧ i = G.2.2.2.2) → zSt σ p G.2.2.2.2 s i = σ s i := fun s i a b c => zSt_off a b c
          have s8 : ∀ f, ¬ f = 5 → zSt σ p G.2.2.2.2 8 0 f = σ 8 0 f := fun f hf => by
            unfold zSt
            rw [w_o _ _ _ _ _ (fun q => hf q.2.2), zcp_off (by decide), zw_s (by decide)]
          have s85 : zSt σ p G.2.2.2.2 8 0 5 = nI (G.2.2.2.2 + 1) := by
            unfold zSt
            rw [w_i]
          have s38 : zSt σ p G.2.2.2.2 38 G.2.2.2.2 0 = σ 37 p 0 := by
            unfold zSt
            rw [zw_s (by decide), zcp_off (by decide), w_i]
          have s46 : ∀ k, k < 4 → zSt σ p G.2.2.2.2 46 G.2.2.2.2 k = σ 42 p k := fun k hk => by
            unfold zSt zcp
            rw [zw_s (by decide)]
            have hk : k = 0 ∨ k = 1 ∨ k = 2 ∨ k = 3 := by omega
            rcases hk with rfl | rfl | rfl | rfl <;> simp [zw_ap]
          have es : ∀ s, ¬ s = 8 → ¬ s = 46 → ¬ s = 38 → zSt σ p G.2.2.2.2 s = σ s := fun s a b c => by
            funext i
            exact so s i (fun q => a q.1) (fun q => b q.1) (fun q => c q.1)
          generalize zSt σ p G.2.2.2.2 = σ1 at *
          have ds : ∀ s, ¬ s = 9 → ¬ s = 34 → ¬ s = 35 → zGm (zw σ1 9 0 0 0) p G.2.2.2.2 s = σ1 s := fun s a b c => by
            unfold zGm
            rw [zw_s a, zUt_s c, zw_s b, zw_s a]
          have d9 : ∀ f, ¬ f = 0 → ¬ f = 28 → zGm (zw σ1 9 0 0 0) p G.2.2.2.2 9 0 f = σ 9 0 f := fun f a b => by
            unfold zGm
            rw [w_o _ _ _ _ _ (fun q => b q.2.2), zUt_s (by decide), zw_s (by decide), w_o _ _ _ _ _ (fun q => a q.2.2), es 9 (by decide) (by decide) (by decide)]
          have d28 : zGm (zw σ1 9 0 0 0) p G.2.2.2.2 9 0 28 = nI (G.2.2.2.2 + 1) := by
            unfold zGm
            rw [w_i]
          have d34 : ∀ t, zGm (zw σ1 9 0 0 0) p G.2.2.2.2 34 0 t = if t = G.2.2.2.2 then nI p else σ 34 0 t := fun t => by
            unfold zGm
            rw [zw_s (by decide), zUt_s (by decide), zw_ap]
            simp only [true_and]
            rw [zw_s (by decide), es 34 (by decide) (by decide) (by decide)]
          have d35 : ∀ i, (∀ k, k < 4 → ¬ i = 4 * G.2.2.2.2 + k) → zGm (zw σ1 9 0 0 0) p G.2.2.2.2 35 0 i = σ 35 0 i := fun i hi => by
            unfold zGm
            rw [zw_s (by decide), zUt, zUt, zUt, zUt, zUt, w_o _ _ _ _ _ (fun q => hi 3 (by omega) q.2.2), w_o _ _ _ _ _ (fun q => hi 2 (by omega) q.2.2), w_o _ _ _ _ _ (fun q => hi 1 (by omega) q.2.2), w_o _ _ _ _ _ (fun q => hi 0 (by omega) q.2.2), zw_s (by decide), zw_s (by decide), es 35 (by decide) (by decide) (by decide)]
          have d35i : ∀ k, k < 4 → zGm (zw σ1 9 0 0 0) p G.2.2.2.2 35 0 (4 * G.2.2.2.2 + k) = σ 17 0 (4 * p + k) := fun k hk => by
            have e17 : ∀ j, zw (zw σ1 9 0 0 0) 34 0 G.2.2.2.2 (nI p) 17 0 j = σ 17 0 j := fun j => by rw [zw_s (by decide), zw_s (by decide), es 17 (by decide) (by decide) (by decide)]
            unfold zGm
            rw [zw_s (by decide), zUt, zUt, zUt, zUt, zUt, e17, e17, e17, e17]
            have hk : k = 0 ∨ k = 1 ∨ k = 2 ∨ k = 3 := by omega
            rcases hk with rfl | rfl | rfl | rfl <;> simp [zw_ap]
          generalize zGm (zw σ1 9 0 0 0) p G.2.2.2.2 = σ2 at *
          obtain ⟨hw, a11, a21⟩ := ha
          refine ⟨⟨hx.1, ?_, ?_⟩, r, ⟨np, nc, ?_, by omega, ?_, ?_, ?_, ?_, ?_, d28, ?_, ?_, ?_⟩, ?_, ?_, ?_, ?_, ?_, ?_, ?_, ?_⟩
          · show G.2.1.1 + 2 ≤ _
            omega
          · show G.2.1.2 + 6 ≤ _
            omega
          · show G.2.2.2.2 + 1 ≤ 100
            omega
          · rw [ds 8 (by decide) (by decide) (by decide), s8 1 (by decide)]; exact b1
          · rw [d9 1 (by decide) (by decide)]; exact m1
          · rw [ds 8 (by decide) (by decide) (by decide), s8 3 (by decide)]; exact b3
          · rw [d9 11 (by decide) (by decide)]; exact m11
          · rw [ds 8 (by decide) (by decide) (by decide), s85]; rfl
          · rw [ds 8 (by decide) (by decide) (by decide), s8 10 (by decide), d9 8 (by decide) (by decide)]; exact hw
          · rw [ds 8 (by decide) (by decide) (by decide), s8 11 (by decide)]; exact a11
          · rw [d9 21 (by decide) (by decide)]; exact a21
          · rw [ds 37 (by decide) (by decide) (by decide), es 37 (by decide) (by decide) (by decide)]; exact p0
          · rw [ds 37 (by decide) (by decide) (by decide), ds 42 (by decide) (by decide) (by decide), ds 44 (by decide) (by decide) (by decide), ds 17 (by decide) (by decide) (by decide), ds 18 (by decide) (by decide) (by decide), ds 19 (by decide) (by decide) (by decide), ds 20 (by decide) (by decide) (by decide), ds 21 (by decide) (by decide) (by decide), ds 30 (by decide) (by decide) (by decide), es 37 (by decide) (by decide) (by decide), es 42 (by decide) (by decide) (by decide), es 44 (by decide) (by decide) (by decide), es 17 (by decide) (by decide) (by decide), es 18 (by decide) (by decide) (by decide), es 19 (by decide) (by decide) (by decide), es 20 (by decide) (by decide) (by decide), es 21 (by decide) (by decide) (by decide), es 30 (by decide) (by decide) (by decide)]; exact p1
          · rw [ds 41 (by decide) (by decide) (by decide), ds 22 (by decide) (by decide) (by decide), es 41 (by decide) (by decide) (by decide), es 22 (by decide) (by decide) (by decide)]; exact p2
          · rw [ds 17 (by decide) (by decide) (by decide), ds 20 (by decide) (by decide) (by decide), ds 21 (by decide) (by decide) (by decide), ds 22 (by decide) (by decide) (by decide), ds 30 (by decide) (by decide) (by decide), es 17 (by decide) (by decide) (by decide), es 20 (by decide) (by decide) (by decide), es 21 (by decide) (by decide) (by decide), es 22 (by decide) (by decide) (by decide), es 30 (by decide) (by decide) (by decide)]; exact p3
          · rw [ds 45 (by decide) (by decide) (by decide), ds 24 (by decide) (by decide) (by decide), ds 25 (by decide) (by decide) (by decide), ds 26 (by decide) (by decide) (by decide), ds 27 (by decide) (by decide) (by decide), ds 28 (by decide) (by decide) (by decide), ds 29 (by decide) (by decide) (by decide), es 45 (by decide) (by decide) (by decide), es 24 (by decide) (by decide) (by decide), es 25 (by decide) (by decide) (by decide), es 26 (by decide) (by decide) (by decide), es 27 (by decide) (by decide) (by decide), es 28 (by decide) (by decide) (by decide), es 29 (by decide) (by decide) (by decide)]; exact c0
          · rw [ds 28 (by decide) (by decide) (by decide), ds 29 (by decide) (by decide) (by decide), es 28 (by decide) (by decide) (by decide), es 29 (by decide) (by decide) (by decide)]; exact cz
          · intro t ht
            rw [ds 38 (by decide) (by decide) (by decide), ds 46 (by decide) (by decide) (by decide), d34]
            by_cases e : t = G.2.2.2.2
            · subst e
              rw [if_pos rfl, s38]
              exact ⟨p0 p hp, fun k hk => by rw [s46 k hk, d35i k hk]; exact (p1 p hp).2.2.2.1 k hk⟩
            · have ht : t < G.2.2.2.2 := by have : t < G.2.2.2.2 + 1 := ht; omega
              rw [if_neg e, so 38 t (by simp) (by simp) (fun q => e q.2), so 46 t (by simp) (fun q => e q.2) (by simp)]
              exact ⟨(ti t ht).1, fun k hk => by rw [d35 _ (fun j hj => by omega)]; exact (ti t ht).2 k hk⟩
          · rw [ds 13 (by decide) (by decide) (by decide), ds 39 (by decide) (by decide) (by decide), ds 23 (by decide) (by decide) (by decide), ds 15 (by decide) (by decide) (by decide), ds 16 (by decide) (by decide) (by decide), ds 40 (by decide) (by decide) (by decide), ds 31 (by decide) (by decide) (by decide), ds 32 (by decide) (by decide) (by decide), es 13 (by decide) (by decide) (by decide), es 39 (by decide) (by decide) (by decide), es 23 (by decide) (by decide) (by decide), es 15 (by decide) (by decide) (by decide), es 16 (by decide) (by decide) (by decide), es 40 (by decide) (by decide) (by decide), es 31 (by decide) (by decide) (by decide), es 32 (by decide) (by decide) (by decide), d9 10 (by decide) (by decide), d9 23 (by decide) (by decide), d9 25 (by decide) (by decide)]
            exact h
  · exact ⟨_, G, σ, _, fun o => b_tag_out (d := 7) c, fun o => m_tag_out (d := 8) np m1 c, h9⟩
end ZO5
