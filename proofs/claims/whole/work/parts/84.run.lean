section ZOa
variable {X : Nat × (Nat → Int32)} {k : Nat} {G : zG} {σ : zR}
set_option maxRecDepth 3000 in
set_option maxHeartbeats 400000 in
theorem run_m {r : Nat} (h : zInr k r G σ) {bF : Nat → Int32} {σ1 : zR} (hb1 : ∃ q, bF = zIt σ G.2.2.1 (zF2 σ G.2.2.2.1) q) (hb2 : zfr σ G.2.2.1 bF G.2.2.1 = bF) (s1 : ∀ s, ¬ s = 8 → ¬ s = 15 → ¬ s = 16 → ¬ s = 37 → ¬ s = 40 → ¬ s = 42 → ¬ s = 43 → ¬ s = 44 → ¬ s = 45 → σ1 s = σ s) :
    ∃ τ : zR, (∀ o, zm_Calls 11 22 [.inr (.inr (some (9, 0)))] (zh G σ1) o ↔ o = (some (.inl (zQc τ G.2.2.1)), zh G (zNT (zQs τ G.2.2.1) (zQt τ G.2.2.1) (zQn τ G.2.2.2.1 G.2.2.1)))) ∧ (∀ p, p < G.2.2.1 → τ 30 0 p = bF p) ∧ (∀ p, G.2.2.1 ≤ p → τ 30 0 p = σ 30 0 p) ∧ (∀ s, ¬ s = 9 → ¬ s = 28 → ¬ s = 30 → ¬ s = 31 → ¬ s = 32 → ¬ s = 33 → ¬ s = 36 → τ s = σ1 s) ∧ (∀ f, ¬ f = 0 → ¬ f = 21 → ¬ f = 23 → ¬ f = 25 → τ 9 0 f = σ 9 0 f) ∧ τ 9 0 21 = nI (r + 1) ∧ (∀ c, c < G.2.2.2.1 → τ 28 0 c = if σ 28 0 c = 0 ∧ 0 < bF (σ 24 0 c).toNatClampNeg then nI (r + 1) else σ 28 0 c) ∧ (∀ c, G.2.2.2.1 ≤ c → τ 28 0 c = σ 28 0 c) := by
  obtain ⟨⟨np, nc, nt, hr, b1, m1, b3, m11, b5, m28, hw, a11, a21⟩, p0, p1, p2, p3, c0, cz, ti, tp, no, nu⟩ := h
  have e9 : σ1 9 = σ 9 := s1 9 (by decide) (by decide) (by decide) (by decide) (by decide) (by decide) (by decide) (by decide) (by decide)
  obtain ⟨σm, hσ⟩ : ∃ σm, σm = zw (zw σ1 9 0 0 0) 9 0 21 (σ1 9 0 21 + 1) := ⟨_, rfl⟩
  have hs : ∀ s, ¬ s = 9 → σm s = σ1 s := fun s hs => by rw [hσ, zw_s hs, zw_s hs]
  have h9 : ∀ f, ¬ f = 0 → ¬ f = 21 → σm 9 0 f = σ 9 0 f := fun f a b => by rw [hσ, w_o _ _ _ _ _ (fun x => b x.2.2), w_o _ _ _ _ _ (fun x => a x.2.2), e9]
  have h21 : σm 9 0 21 = nI (r + 1) := by rw [hσ, w_i, e9, a21, nI_1]
  have hm : ∀ s, 17 ≤ s → s ≤ 36 → σm s = σ s := fun s a b => by rw [hs s (by omega), s1 s (by omega) (by omega) (by omega) (by omega) (by omega) (by omega) (by omega) (by omega) (by omega)]
  have cF : zF2 σm G.2.2.2.1 = zF2 σ G.2.2.2.1 := zF2_c (hm 24 (by decide) (by decide)) (hm 26 (by decide) (by decide)) (hm 28 (by decide) (by decide)) (hm 29 (by decide) (by decide)) _
  have cI : ∀ b q, zIt σm G.2.2.1 b q = zIt σ G.2.2.1 b q := fun b q => zIt_c (hm 17 (by decide) (by decide)) (hm 18 (by decide) (by decide)) (hm 19 (by decide) (by decide)) (hm 20 (by decide) (by decide)) (hm 22 (by decide) (by decide)) _ b q
  have cf : ∀ b, zfr σm G.2.2.1 b G.2.2.1 = zfr σ G.2.2.1 b G.2.2.1 := fun b => zfr_c (hm 17 (by decide) (by decide)) (hm 18 (by decide) (by decide)) (hm 19 (by decide) (by decide)) (hm 20 (by decide) (by decide)) (hm 22 (by decide) (by decide)) _ b _
  obtain ⟨r2, y, cn2, fx, hM⟩ := m_run (G := G) (σ := σm) (σ0 := σ1) (d := 6) (m := G.2.2.1) hσ np nc (by rw [e9]; exact m1) (by rw [e9]; exact m11) (fun p hp q hq => by
    rw [hm 22 (by decide) (by decide)]
    rcases p2 p hp q (by omega) with x | ⟨r, hr, x, -⟩
    · exact Or.inl x.1
    · exact Or.inr ⟨r, hr, x⟩) (fun c hc => by
    rw [hm 24 (by decide) (by decide), (c0 c hc).2.2.1]
    exact (c0 c hc).2.1) (fun p hp => by
    rw [cF]
    exact F2_pos c0 _ (Nat.le_refl _) p) (fun r y cn => Nat.le_trans (zQn_len np) nc)
  have eb : zIt σm G.2.2.1 (zF2 σm G.2.2.2.1) r2 = bF := by
    obtain ⟨q, hq⟩ := hb1
    rw [cf, cI, cF] at fx
    rw [cI, cF, hq]
    exact It_one fx (hq ▸ hb2)
  rw [eb] at hM
  simp only [exists_eq_left] at hM
  have v3 : ∀ s, ¬ s = 30 → ¬ s = 33 → ¬ s = 36 → zV3 σm G.2.2.1 bF y cn2 s = σm s := fun s a b c => zV3_s a b c
  have v30 : ∀ p, zV3 σm G.2.2.1 bF y cn2 30 0 p = if p < G.2.2.1 then bF p else σm 30 0 p := fun p => by
    unfold zV3
    simp only [true_and, Nat.reduceEqDiff, false_and, if_false]
  generalize zV3 σm G.2.2.1 bF y cn2 = α at *
  have n9 : ∀ f, ¬ f = 23 → ¬ f = 25 → zNT α [] [] 9 0 f = α 9 0 f := fun f a b => zNT_9 a b
  have ns : ∀ s, ¬ s = 9 → ¬ s = 31 → ¬ s = 32 → zNT α [] [] s = α s := fun s a b c => zNT_s a b c
  generalize zNT α [] [] = β at *
  have ms : ∀ s, ¬ s = 28 → zMR β G.2.2.2.1 s = β s := fun s hs => zMR_s hs _
  have mlo := fun c hc => zMR_lo (σ := β) G.2.2.2.1 c hc
  have mhi := fun c hc => zMR_hi (σ := β) G.2.2.2.1 c hc
  generalize zMR β G.2.2.2.1 = τ at *
  refine ⟨τ, hM, fun p hp => ?_, fun p hp => ?_, fun s a b c d e f g => ?_, fun f a b c d => ?_, ?_, fun c hc => ?_, fun c hc => ?_⟩
  · rw [ms 30 (by decide), ns 30 (by decide) (by decide) (by decide), v30, if_pos hp]
  · rw [ms 30 (by decide), ns 30 (by decide) (by decide) (by decide), v30, if_neg (by omega), hm 30 (by decide) (by decide)]
  · rw [ms s b, ns s a d e, v3 s c f g, hs s a]
  · rw [ms 9 (by decide), n9 f c d, v3 9 (by decide) (by decide) (by decide), h9 f a b]
  · rw [ms 9 (by decide), n9 21 (by decide) (by decide), v3 9 (by decide) (by decide) (by decide), h21]
  · rw [mlo c hc, ns 28 (by decide) (by decide) (by decide), ns 30 (by decide) (by decide) (by decide), ns 24 (by decide) (by decide) (by decide), n9 21 (by decide) (by decide), v3 9 (by decide) (by decide) (by decide), h21, v3 28 (by decide) (by decide) (by decide), v3 24 (by decide) (by decide) (by decide), hm 28 (by decide) (by decide), hm 24 (by decide) (by decide), v30]
    obtain ⟨-, ⟨p, hp, ep⟩, e24, -⟩ := c0 c hc
    rw [e24, ep, z_cl (by omega), if_pos hp]
  · rw [mhi c hc, ns 28 (by decide) (by decide) (by decide), v3 28 (by decide) (by decide) (by decide), hm 28 (by decide) (by decide)]
set_option maxRecDepth 3000 in
set_option maxHeartbeats 400000 in
theorem n18_0 {p r : Nat} {w : Int32} (h : ∃ m, m ≤ 99 + r ∧ σ 17 0 (4 * p) = nI m) (h8 : ¬ σ 17 0 (4 * p + 3) = 0 → ∃ m, m ≤ 99 + r ∧ σ 18 0 (4 * p) = nI m) (hq : ¬ zrq σ p w 3 = 0) : ∃ m, m ≤ 99 + (r + 1) ∧ zY18 σ p w 0 = nI m := by
  have up : ∀ a : Int32, (∃ m, m ≤ 99 + r ∧ a = nI m) → ∃ m, m ≤ 99 + (r + 1) ∧ a = nI m := fun a ⟨m, hm, e⟩ => ⟨m, by omega, e⟩
  unfold zY18
  split
  · exact up _ h
  · rename_i hn
    refine up _ (h8 (fun x => hn ?_))
    by_cases w0 : w = 0
    · rw [w0, zrq_0 (by omega)] at hq
      exact absurd x hq
    · refine ⟨w0, fun m0 => hq ?_, x⟩
      unfold zrq
      rw [if_neg w0, if_pos x, if_pos m0]
      rfl
end ZOa
