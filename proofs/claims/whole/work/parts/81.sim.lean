section ZO7
variable {X : Nat × (Nat → Int32)} {k : Nat} {G : zG} {σ : zR}
set_option maxRecDepth 3000 in
set_option maxHeartbeats 400000 in
theorem add_c {σ2 : zR} {n m r : Nat} {v K S W : Int32} (hv : ∃ p, p < n ∧ v = nI p) (hK : K = -1 ∨ ∃ j, j < 6 ∧ K = nI j) (hW : ∃ w, w ≤ 3 ∧ W = nI w) (c0 : zC0 n m r (σ 45) (σ 24 0) (σ 25 0) (σ 26 0) (σ 27 0) (σ 28 0) (σ 29 0)) (cz : zCz m (σ 28 0) (σ 29 0)) (h60 : m < 60)
    (a45 : ∀ c f, ¬ c = m → σ2 45 c f = σ 45 c f) (i0 : σ2 45 m 0 = nI m) (i1 : σ2 45 m 1 = v) (i2 : σ2 45 m 2 = K) (i3 : σ2 45 m 3 = S) (i4 : σ2 45 m 4 = W) (i5 : σ2 45 m 5 = 0) (i6 : σ2 45 m 6 = 0)
    (d24 : ∀ c, σ2 24 0 c = if c = m then v else σ 24 0 c) (d25 : ∀ c, σ2 25 0 c = if c = m then K else σ 25 0 c) (d26 : ∀ c, σ2 26 0 c = if c = m then W else σ 26 0 c) (d27 : ∀ c, σ2 27 0 c = if c = m then S else σ 27 0 c) (d28 : ∀ c, σ2 28 0 c = σ 28 0 c) (d29 : ∀ c, σ2 29 0 c = σ 29 0 c) :
    zC0 n (m + 1) r (σ2 45) (σ2 24 0) (σ2 25 0) (σ2 26 0) (σ2 27 0) (σ2 28 0) (σ2 29 0) ∧ zCz (m + 1) (σ2 28 0) (σ2 29 0) := by
  refine ⟨fun c hc => ?_, fun c h1 h2 => ?_⟩
  · rw [d24, d25, d26, d27, d28, d29]
    by_cases e : c = m
    · subst e
      rw [if_pos rfl, if_pos rfl, if_pos rfl, if_pos rfl, i0, i1, i2, i3, i4, i5, i6]
      obtain ⟨z1, z2⟩ := cz c (Nat.le_refl c) h60
      rw [z1, z2]
      exact ⟨rfl, hv, rfl, hK, rfl, rfl, rfl, hW, rfl, rfl, 0, by omega, nI_0.symm⟩
    · rw [if_neg e, if_neg e, if_neg e, if_neg e, a45 c 0 e, a45 c 1 e, a45 c 2 e, a45 c 3 e, a45 c 4 e, a45 c 5 e, a45 c 6 e]
      exact c0 c (by omega)
  · rw [d28, d29]
    exact cz c (by omega) h2
set_option maxRecDepth 3000 in
set_option maxHeartbeats 400000 in
theorem add_f {m : Nat} {v K S W : Int32} {σ1 ρ : zR} (ss : ∀ s, ¬ s = 8 → ¬ s = 14 → ¬ s = 45 → σ1 s = σ s) (s8 : ∀ f, ¬ f = 3 → σ1 8 0 f = σ 8 0 f) (s83 : σ1 8 0 3 = nI (m + 1)) (hρ : ρ = zAm (zk4 (zw (zw σ1 13 0 1 0) 9 0 0 0) K S W) v m) :
    (∀ s, ¬ s = 8 → ¬ s = 9 → ¬ s = 13 → ¬ s = 14 → ¬ (24 ≤ s ∧ s ≤ 29) → ¬ s = 45 → ρ s = σ s) ∧ (∀ f, ¬ f = 3 → ρ 8 0 f = σ 8 0 f) ∧ ρ 8 0 3 = nI (m + 1) ∧ (∀ f, ¬ (f = 0 ∨ f = 10 ∨ f = 11 ∨ f = 18 ∨ f = 19 ∨ f = 20) → ρ 9 0 f = σ 9 0 f) ∧ ρ 9 0 10 = 0 ∧ ρ 9 0 11 = nI (m + 1) ∧ ρ 13 0 1 = 0 ∧ ρ 45 = σ1 45 ∧ (∀ c, ρ 24 0 c = if c = m then v else σ 24 0 c) ∧ (∀ c, ρ 25 0 c = if c = m then K else σ 25 0 c) ∧ (∀ c, ρ 26 0 c = if c = m then W else σ 26 0 c) ∧ (∀ c, ρ 27 0 c = if c = m then S else σ 27 0 c) ∧ (∀ c, ρ 28 0 c = σ 28 0 c) ∧ (∀ c, ρ 29 0 c = σ 29 0 c) := by
  subst hρ
  have k18 : ∀ ρ : zR, zk4 ρ K S W 9 0 18 = K := fun _ => rfl
  have k19 : ∀ ρ : zR, zk4 ρ K S W 9 0 19 = W := fun _ => rfl
  have k20 : ∀ ρ : zR, zk4 ρ K S W 9 0 20 = S := fun _ => rfl
  have k10 : ∀ ρ : zR, zk4 ρ K S W 9 0 10 = 0 := fun _ => rfl
  have ks : ∀ (ρ : zR) s, ¬ s = 9 → zk4 ρ K S W s = ρ s := fun ρ s hs => by
    unfold zk4
    rw [zw_s hs, zw_s hs, zw_s hs, zw_s hs]
  have k9 : ∀ (ρ : zR) f, ¬ (f = 10 ∨ f = 18 ∨ f = 19 ∨ f = 20) → zk4 ρ K S W 9 0 f = ρ 9 0 f := fun ρ f hf => by
    unfold zk4
    rw [w_o _ _ _ _ _ (fun q => hf (Or.inl q.2.2)), w_o _ _ _ _ _ (fun q => hf (Or.inr (Or.inr (Or.inl q.2.2)))), w_o _ _ _ _ _ (fun q => hf (Or.inr (Or.inr (Or.inr q.2.2)))), w_o _ _ _ _ _ (fun q => hf (Or.inr (Or.inl q.2.2)))]
  have r : ∀ s, ¬ s = 9 → ¬ s = 13 → zk4 (zw (zw σ1 13 0 1 0) 9 0 0 0) K S W s = σ1 s := fun s a b => by rw [ks _ _ a, zw_s a, zw_s b]
  have r13 : zk4 (zw (zw σ1 13 0 1 0) 9 0 0 0) K S W 13 0 1 = 0 := by rw [ks _ _ (by decide), zw_s (by decide), w_i]
  have r9 : ∀ f, ¬ (f = 0 ∨ f = 10 ∨ f = 18 ∨ f = 19 ∨ f = 20) → zk4 (zw (zw σ1 13 0 1 0) 9 0 0 0) K S W 9 0 f = σ 9 0 f := fun f hf => by
    rw [k9 _ f (fun q => hf (Or.inr q)), w_o _ _ _ _ _ (fun q => hf (Or.inl q.2.2)), zw_s (by decide), ss 9 (by decide) (by decide) (by decide)]
  have k18 := k18 (zw (zw σ1 13 0 1 0) 9 0 0 0)
  have k19 := k19 (zw (zw σ1 13 0 1 0) 9 0 0 0)
  have k20 := k20 (zw (zw σ1 13 0 1 0) 9 0 0 0)
  have k10 := k10 (zw (zw σ1 13 0 1 0) 9 0 0 0)
  generalize zk4 (zw (zw σ1 13 0 1 0) 9 0 0 0) K S W = α at *
  have as : ∀ s, ¬ s = 9 → ¬ s = 24 → ¬ s = 25 → ¬ s = 26 → ¬ s = 27 → zAm α v m s = α s := fun s a b c d e => by
    unfold zAm
    rw [zw_s a, zw_s e, zw_s d, zw_s c, zw_s b]
  have A : ∀ s, ¬ s = 9 → ¬ s = 13 → ¬ (24 ≤ s ∧ s ≤ 27) → zAm α v m s = σ1 s := fun s a b c => by rw [as s a (by omega) (by omega) (by omega) (by omega), r s a b]
  have old : ∀ s, ¬ s = 8 → ¬ s = 9 → ¬ s = 13 → ¬ s = 14 → ¬ s = 45 → α s = σ s := fun s a b c d e => by rw [r s b c, ss s a d e]
  refine ⟨fun s a b c d e f => ?_, fun f hf => ?_, ?_, fun f hf => ?_, ?_, ?_, ?_, ?_, fun c => ?_, fun c => ?_, fun c => ?_, fun c => ?_, fun c => ?_, fun c => ?_⟩
  · rw [A s b c (by omega), ss s a d f]
  · rw [A 8 (by decide) (by decide) (by decide)]; exact s8 f hf
  · rw [A 8 (by decide) (by decide) (by decide)]; exact s83
  · unfold zAm
    rw [w_o _ _ _ _ _ (fun q => hf (by have := q.2.2; omega)), zw_s (by decide), zw_s (by decide), zw_s (by decide), zw_s (by decide)]
    exact r9 f (by omega)
  · unfold zAm
    rw [w_o _ _ _ _ _ (by decide), zw_s (by decide), zw_s (by decide), zw_s (by decide), zw_s (by decide)]
    exact k10
  · rfl
  · rw [as 13 (by decide) (by decide) (by decide) (by decide) (by decide)]; exact r13
  · exact A 45 (by decide) (by decide) (by decide)
  · unfold zAm
    rw [zw_s (by decide), zw_s (by decide), zw_s (by decide), zw_s (by decide), zw_ap, old 24 (by decide) (by decide) (by decide) (by decide) (by decide)]
    simp only [true_and]
  · unfold zAm
    rw [zw_s (by decide), zw_s (by decide), zw_s (by decide), zw_ap, zw_s (by decide), old 25 (by decide) (by decide) (by decide) (by decide) (by decide), k18]
    simp only [true_and]
  · unfold zAm
    rw [zw_s (by decide), zw_s (by decide), zw_ap, zw_s (by decide), zw_s (by decide), old 26 (by decide) (by decide) (by decide) (by decide) (by decide), k19]
    simp only [true_and]
  · unfold zAm
    rw [zw_s (by decide), zw_ap, zw_s (by decide), zw_s (by decide), zw_s (by decide), old 27 (by decide) (by decide) (by decide) (by decide) (by decide), k20]
    simp only [true_and]
  · rw [as 28 (by decide) (by decide) (by decide) (by decide) (by decide), old 28 (by decide) (by decide) (by decide) (by decide) (by decide)]
  · rw [as 29 (by decide) (by decide) (by decide) (by decide) (by decide), old 29 (by decide) (by decide) (by decide) (by decide) (by decide)]
set_option maxRecDepth 3000 in
set_option maxHeartbeats 400000 in
theorem sc_f {τ : zR} {m : Nat} {v K S W : Int32} (hτ : ∀ s, ¬ s = 14 → τ s = σ s) (t0 : τ 14 0 0 = K) (t1 : τ 14 0 1 = S) (t2 : τ 14 0 2 = W) : (∀ s, ¬ s = 8 → ¬ s = 14 → ¬ s = 45 → zSc τ v m s = σ s) ∧ (∀ f, ¬ f = 3 → zSc τ v m 8 0 f = σ 8 0 f) ∧ zSc τ v m 8 0 3 = nI (m + 1) ∧ (∀ c f, ¬ c = m → zSc τ v m 45 c f = σ 45 c f) ∧ zSc τ v m 45 m 0 = nI m ∧ zSc τ v m 45 m 1 = v ∧ zSc τ v m 45 m 2 = K ∧ zSc τ v m 45 m 3 = S ∧ zSc τ v m 45 m 4 = W ∧ zSc τ v m 45 m 5 = 0 ∧ zSc τ v m 45 m 6 = 0 := by
  refine ⟨fun s a b c => ?_, fun f hf => ?_, rfl, fun c f hc => ?_, ?_⟩
  · funext i
    rw [zSc_off (fun q => a q.1) (fun q => c q.1), hτ s b]
  · unfold zSc
    rw [w_o _ _ _ _ _ (fun q => hf q.2.2), zw_s (by decide), zw_s (by decide), zw_s (by decide), zw_s (by decide), zw_s (by decide), zw_s (by decide), zw_s (by decide), hτ 8 (by decide)]
  · rw [zSc_off (by simp) (fun q => hc q.2), hτ 45 (by decide)]
  · subst t0 t1 t2
    unfold zSc
    simp [zw_ap]
set_option maxRecDepth 3000 in
set_option maxHeartbeats 400000 in
theorem sim_change (h : zInv X k G σ) (v : Int32) : zSim X k G σ 13 14 [.inl v] := by
  have h0 := h
  obtain ⟨hx, r, ⟨np, nc, nt, hr, b1, m1, b3, m11, b5, m28, hw, ha⟩, p0, p1, p2, p3, c0, cz, ti, tp, no, nu⟩ := h
  obtain ⟨K, S, W, τ, hK, hW, hR, hτ, t0, t1, t2, hF⟩ := zrdT (G := G) tp hw
  by_cases c : vp_in v G.2.2.1
  · obtain ⟨p, hp, rfl⟩ := z_vin c (by omega)
    by_cases full : G.2.2.2.1 = 60
    · exact ⟨_, G, _, _, fun o => b_change_full (d := 2) hp np full b3, fun o => m_change_0 (d := 6) np nc (hF G (zw (zw σ 13 0 1 0) 9 0 0 0) rfl rfl rfl 6) m1 m11 (Or.inr full), inv_tape h0⟩
    · have h60 : G.2.2.2.1 < 60 := by omega
      obtain ⟨ρ, hρ⟩ : ∃ ρ, ρ = zAm (zk4 (zw (zw (zSc τ (nI p) G.2.2.2.1) 13 0 1 0) 9 0 0 0) K S W) (nI p) G.2.2.2.1 := ⟨_, rfl⟩
      obtain ⟨g1, g2, g3, f8, i0, i1, i2, i3, i4, i5, i6⟩ := sc_f (v := nI p) (m := G.2.2.2.1) hτ t0 t1 t2
      obtain ⟨f1, f2, f3, f4, f5, f6, f7, f9, f10, f11, f12, f13, f14, f15⟩ := add_f g1 g2 g3 hρ
      rw [← f9] at f8 i0 i1 i2 i3 i4 i5 i6
      have e9 := g1 9 (by decide) (by decide) (by decide)
      have e23 := g1 23 (by decide) (by decide) (by decide)
      refine ⟨nI G.2.2.2.1, zGc G, _, ρ, fun o => b_change_1 (d := 2) hp np h60 b3 (by rw [hτ 8 (by decide)]) (hR 2), fun o => ?_, inv_add h0 h60 f1 f2 f3 f4 f5 f6 f7 (fun r _ c0 cz => add_c ⟨p, hp, rfl⟩ hK hW c0 cz h60 f8 i0 i1 i2 i3 i4 i5 i6 f10 f11 f12 f13 f14 f15)⟩
      rw [hρ]
      have q : ∀ f, ¬ f = 0 → zw (zw (zSc τ (nI p) G.2.2.2.1) 13 0 1 0) 9 0 0 0 9 0 f = σ 9 0 f := fun f hf => by rw [w_o _ _ _ _ _ (fun x => hf x.2.2), zw_s (by decide), e9]
      refine m_change_1 (d := 6) (m := G.2.2.1) np h60 hp (hF (zGc G) (zw (zw (zSc τ (nI p) G.2.2.2.1) 13 0 1 0) 9 0 0 0) (q 10 (by decide)) ?_ (q 8 (by decide)) 6) ?_ ?_
      · rw [zw_s (by decide), zw_s (by decide), e23]
      · exact (q 1 (by decide)).trans m1
      · exact (q 11 (by decide)).trans m11
  · exact ⟨_, G, _, _, fun o => b_change_0 (d := 2) c, fun o => m_change_0 (d := 6) np nc (hF G (zw (zw σ 13 0 1 0) 9 0 0 0) rfl rfl rfl 6) m1 m11 (Or.inl c), inv_tape h0⟩
set_option maxRecDepth 3000 in
set_option maxHeartbeats 400000 in
theorem sim_revert (h : zInv X k G σ) (v : Int32) : zSim X k G σ 15 16 [.inl v] := by
  have h0 := h
  obtain ⟨hx, r, ⟨np, nc, nt, hr, b1, m1, b3, m11, b5, m28, hw, ha⟩, p0, p1, p2, p3, c0, cz, ti, tp, no, nu⟩ := h
  obtain ⟨K, S, W, τ, hK, hW, hR, hτ, t0, t1, t2, hF⟩ := zrdT (G := G) tp hw
  by_cases c : vp_in v G.2.2.2.1
  · obtain ⟨p, hp, rfl⟩ := z_vin c (by omega)
    by_cases full : G.2.2.2.1 = 60
    · exact ⟨_, G, _, _, fun o => b_revert_full (d := 1) hp full b3, fun o => m_revert_0 (d := 6) nc (hF G (zw (zw σ 13 0 1 0) 9 0 0 0) rfl rfl rfl 6) m11 (Or.inr full), inv_tape h0⟩
    · have h60 : G.2.2.2.1 < 60 := by omega
      obtain ⟨-, hpk, e1, -, -, -, -, -, e5, e6, u, hu, eu⟩ := c0 p hp
      by_cases ho : σ 45 p 5 = 0
      · obtain ⟨g1, g2, g3, f8, i0, i1, i2, i3, i4, i5, i6⟩ := sc_f (v := σ 45 p 1) (m := G.2.2.2.1) hτ t0 t1 t2
        have hpm : ¬ p = G.2.2.2.1 := by omega
        have zt : ∀ s, ¬ s = 45 → zTb (zSc τ (σ 45 p 1) G.2.2.2.1) p G.2.2.2.1 s = zSc τ (σ 45 p 1) G.2.2.2.1 s := fun s hs => by
          unfold zTb
          split
          · rw [zw_s hs]
          · rw [zw_s hs, zw_s hs]
        obtain ⟨ρ, hρ⟩ : ∃ ρ, ρ = zAm (zk4 (zw (zw (zTb (zSc τ (σ 45 p 1) G.2.2.2.1) p G.2.2.2.1) 13 0 1 0) 9 0 0 0) K S W) (σ 45 p 1) G.2.2.2.1 := ⟨_, rfl⟩
        have z1 : ∀ s, ¬ s = 8 → ¬ s = 14 → ¬ s = 45 → zTb (zSc τ (σ 45 p 1) G.2.2.2.1) p G.2.2.2.1 s = σ s := fun s a b c => by rw [zt s c, g1 s a b c]
        obtain ⟨f1, f2, f3, f4, f5, f6, f7, f9, f10, f11, f12, f13, f14, f15⟩ := add_f z1 (fun f hf => by rw [zt 8 (by decide)]; exact g2 f hf) (by rw [zt 8 (by decide)]; exact g3) hρ
        have e9 := z1 9 (by decide) (by decide) (by decide)
        have e23 := z1 23 (by decide) (by decide) (by decide)
        refine ⟨nI G.2.2.2.1, zGc G, _, zRm ρ p G.2.2.2.1, fun o => b_revert_1 (d := 1) hp h60 b3 ho (by rw [hτ 8 (by decide)]) (hR 1), fun o => ?_, ?_⟩
        · have q : ∀ f, ¬ f = 0 → zw (zw (zTb (zSc τ (σ 45 p 1) G.2.2.2.1) p G.2.2.2.1) 13 0 1 0) 9 0 0 0 9 0 f = σ 9 0 f := fun f hf => by rw [w_o _ _ _ _ _ (fun x => hf x.2.2), zw_s (by decide), e9]
          have qs : ∀ s, ¬ s = 9 → zk4 (zw (zw (zTb (zSc τ (σ 45 p 1) G.2.2.2.1) p G.2.2.2.1) 13 0 1 0) 9 0 0 0) K S W s = zw (zw (zTb (zSc τ (σ 45 p 1) G.2.2.2.1) p G.2.2.2.1) 13 0 1 0) 9 0 0 0 s := fun s hs => by
            unfold zk4
            rw [zw_s hs, zw_s hs, zw_s hs, zw_s hs]
          have M := m_revert_1 (G := zGc G) (σ := zw (zTb (zSc τ (σ 45 p 1) G.2.2.2.1) p G.2.2.2.1) 13 0 1 0) (o := o) (d := 6) (n := G.2.2.2.1) (c := p) h60 hp (hF (zGc G) (zw (zw (zTb (zSc τ (σ 45 p 1) G.2.2.2.1) p G.2.2.2.1) 13 0 1 0) 9 0 0 0) (q 10 (by decide)) (by rw [zw_s (by decide), zw_s (by decide), e23]) (q 8 (by decide)) 6) ((q 11 (by decide)).trans m11) (by
            rw [qs 29 (by decide), zw_s (by decide), zw_s (by decide), z1 29 (by decide) (by decide) (by decide), ← e5]
            exact ho)
          rw [qs 24 (by decide), zw_s (by decide), zw_s (by decide), z1 24 (by decide) (by decide) (by decide), e1, ← hρ] at M
          exact M
        · have c28 : ρ 28 0 p = σ 28 0 p := f14 p
          have c45 : zSc τ (σ 45 p 1) G.2.2.2.1 45 p 6 = σ 28 0 p := by rw [f8 p 6 hpm, e6]
          by_cases rel : 0 < σ 28 0 p
          · have er : zRm ρ p G.2.2.2.1 = zw ρ 26 0 G.2.2.2.1 1 := by
              unfold zRm
              rw [c28, if_pos rel]
            have et : zTb (zSc τ (σ 45 p 1) G.2.2.2.1) p G.2.2.2.1 = zw (zSc τ (σ 45 p 1) G.2.2.2.1) 45 G.2.2.2.1 4 1 := by
              unfold zTb
              rw [c45, if_pos rel]
            rw [er]
            rw [et] at f9
            have o45 : ∀ c f, ¬ f = 4 → ρ 45 c f = zSc τ (σ 45 p 1) G.2.2.2.1 45 c f := fun c f hf => by rw [f9, w_o _ _ _ _ _ (fun x => hf x.2.2)]
            have o454 : ρ 45 G.2.2.2.1 4 = 1 := by rw [f9, w_i]
            have o45c : ∀ c f, ¬ c = G.2.2.2.1 → ρ 45 c f = σ 45 c f := fun c f hc => by rw [f9, w_o _ _ _ _ _ (fun x => hc x.2.1), f8 c f hc]
            have w26 : ∀ s, ¬ s = 26 → zw ρ 26 0 G.2.2.2.1 1 s = ρ s := fun s hs => zw_s hs
            refine inv_add h0 h60 (fun s a b c d e f => by rw [w26 s (by omega)]; exact f1 s a b c d e f) (by rw [w26 8 (by decide)]; exact f2) (by rw [w26 8 (by decide)]; exact f3) (by rw [w26 9 (by decide)]; exact f4) (by rw [w26 9 (by decide)]; exact f5) (by rw [w26 9 (by decide)]; exact f6) (by rw [w26 13 (by decide)]; exact f7) (fun r _ c0 cz => ?_)
            refine add_c (v := σ 45 p 1) (K := K) (S := S) (W := 1) hpk hK ⟨1, by omega, rfl⟩ c0 cz h60 ?_ ?_ ?_ ?_ ?_ ?_ ?_ ?_ ?_ ?_ ?_ ?_ ?_ ?_
            · rw [w26 45 (by decide)]; exact o45c
            · rw [w26 45 (by decide), o45 _ _ (by decide)]; exact i0
            · rw [w26 45 (by decide), o45 _ _ (by decide)]; exact i1
            · rw [w26 45 (by decide), o45 _ _ (by decide)]; exact i2
            · rw [w26 45 (by decide), o45 _ _ (by decide)]; exact i3
            · rw [w26 45 (by decide)]; exact o454
            · rw [w26 45 (by decide), o45 _ _ (by decide)]; exact i5
            · rw [w26 45 (by decide), o45 _ _ (by decide)]; exact i6
            · rw [w26 24 (by decide)]; exact f10
            · rw [w26 25 (by decide)]; exact f11
            · intro c
              rw [zw_ap, f12]
              simp only [true_and]
              by_cases e : c = G.2.2.2.1
              · rw [if_pos e, if_pos e]
              · rw [if_neg e, if_neg e, if_neg e]
            · rw [w26 27 (by decide)]; exact f13
            · rw [w26 28 (by decide)]; exact f14
            · rw [w26 29 (by decide)]; exact f15
          · have er : zRm ρ p G.2.2.2.1 = zw (zw ρ 29 0 p 1) 29 0 G.2.2.2.1 1 := by
              unfold zRm
              rw [c28, if_neg rel]
            have et : zTb (zSc τ (σ 45 p 1) G.2.2.2.1) p G.2.2.2.1 = zw (zw (zSc τ (σ 45 p 1) G.2.2.2.1) 45 p 5 1) 45 G.2.2.2.1 5 1 := by
              unfold zTb
              rw [c45, if_neg rel]
            rw [er]
            rw [et] at f9
            have o45 : ∀ c f, ¬ f = 5 → ρ 45 c f = zSc τ (σ 45 p 1) G.2.2.2.1 45 c f := fun c f hf => by rw [f9, w_o _ _ _ _ _ (fun x => hf x.2.2), w_o _ _ _ _ _ (fun x => hf x.2.2)]
            have o5 : ∀ c, ρ 45 c 5 = if c = G.2.2.2.1 then 1 else if c = p then 1 else σ 45 c 5 := fun c => by
              rw [f9]
              by_cases a : c = G.2.2.2.1
              · rw [if_pos a, a, w_i]
              · rw [if_neg a, w_o _ _ _ _ _ (fun x => a x.2.1)]
                by_cases b : c = p
                · rw [if_pos b, b, w_i]
                · rw [if_neg b, w_o _ _ _ _ _ (fun x => b x.2.1), f8 c 5 a]
            have o29 : ∀ c, zw (zw ρ 29 0 p 1) 29 0 G.2.2.2.1 1 29 0 c = if c = G.2.2.2.1 then 1 else if c = p then 1 else σ 29 0 c := fun c => by
              rw [zw_ap, zw_ap, f15]
              simp only [true_and]
            have w29 : ∀ s, ¬ s = 29 → zw (zw ρ 29 0 p 1) 29 0 G.2.2.2.1 1 s = ρ s := fun s hs => by rw [zw_s hs, zw_s hs]
            refine inv_add h0 h60 (fun s a b c d e f => by rw [w29 s (by omega)]; exact f1 s a b c d e f) (by rw [w29 8 (by decide)]; exact f2) (by rw [w29 8 (by decide)]; exact f3) (by rw [w29 9 (by decide)]; exact f4) (by rw [w29 9 (by decide)]; exact f5) (by rw [w29 9 (by decide)]; exact f6) (by rw [w29 13 (by decide)]; exact f7) (fun r _ c0 cz => ⟨fun c hc => ?_, fun c h1 h2 => ?_⟩)
            · rw [w29 45 (by decide), w29 24 (by decide), w29 25 (by decide), w29 26 (by decide), w29 27 (by decide), w29 28 (by decide), o29, o5, f10, f11, f12, f13, f14, o45 _ _ (by decide), o45 _ _ (by decide), o45 _ _ (by decide), o45 _ _ (by decide), o45 _ _ (by decide), o45 _ _ (by decide)]
              by_cases e : c = G.2.2.2.1
              · subst e
                rw [if_pos rfl, if_pos rfl, if_pos rfl, if_pos rfl, if_pos rfl, if_pos rfl, i0, i1, i2, i3, i4, i6, (cz G.2.2.2.1 (Nat.le_refl _) h60).1]
                exact ⟨rfl, hpk, rfl, hK, rfl, rfl, rfl, hW, rfl, rfl, 0, by omega, nI_0.symm⟩
              · simp only [if_neg e]
                rw [f8 c 0 e, f8 c 1 e, f8 c 2 e, f8 c 3 e, f8 c 4 e, f8 c 6 e]
                obtain ⟨q0, q1, q2, q3, q4, q5, q6, q7, q8, q9⟩ := c0 c (by omega)
                refine ⟨q0, q1, q2, q3, q4, q5, q6, q7, ?_, q9⟩
                rw [q8]
            · rw [w29 28 (by decide), f14, o29, if_neg (by omega), if_neg (by omega)]
              exact cz c (by omega) h2
      · refine ⟨_, G, _, _, fun o => b_revert_out (d := 1) hp h60 b3 ho, fun o => m_revert_out (d := 6) h60 hp (hF G (zw (zw σ 13 0 1 0) 9 0 0 0) rfl rfl rfl 6) m11 ?_, inv_tape h0⟩
        show ¬ σ 29 0 p = 0
        rw [← e5]
        exact ho
  · exact ⟨_, G, _, _, fun o => b_revert_0 (d := 1) c, fun o => m_revert_0 (d := 6) nc (hF G (zw (zw σ 13 0 1 0) 9 0 0 0) rfl rfl rfl 6) m11 (Or.inl c), inv_tape h0⟩
end ZO7
