section ZO9
variable {X : Nat × (Nat → Int32)} {k : Nat} {G : zG} {σ : zR}
set_option maxRecDepth 3000 in
set_option maxHeartbeats 400000 in
theorem Tt_s {l : List Nat} {m s : Nat} (h1 : ¬ s = 16) (h2 : ¬ s = 40) (h3 : ¬ s = 37) : zTt σ l m s = σ s := by
  funext i f
  unfold zTt
  rw [if_neg (fun x => h1 x.1), if_neg (fun x => h2 x.1), if_neg (fun x => h3 x.1)]
set_option maxRecDepth 3000 in
set_option maxHeartbeats 400000 in
theorem pk_of {p r : Nat} (hr : r ≤ 512) (p1 : zP1 G.2.2.1 r (σ 37) (σ 42) (σ 44) (σ 17 0) (σ 18 0) (σ 19 0) (σ 20 0) (σ 21 0) (σ 30 0)) (hp : p < G.2.2.1) : zPk σ σ p := by
  obtain ⟨-, h7, -, h4, ⟨m, hm, em⟩, hA⟩ := p1 p hp
  refine ⟨h4, h7, ?_, fun x => ?_⟩
  · rw [em]; exact nI_pos (by omega)
  · obtain ⟨a, b, m2, hm2, em2⟩ := hA x
    refine ⟨a, b, ?_⟩
    rw [em2]; exact nI_pos (by omega)
set_option maxRecDepth 3000 in
set_option maxHeartbeats 400000 in
theorem run_b (hk : k ≤ 512) {r : Nat} (h : zInr k r G σ) : ∃ (bF : Nat → Int32) (σ1 : zR) (P : Nat → Nat → Int32), ((∃ q, bF = zIt σ G.2.2.1 (zF2 σ G.2.2.2.1) q) ∧ zfr σ G.2.2.1 bF G.2.2.1 = bF) ∧ (∀ o, zm_Calls 11 21 [.inr (.inr (some (8, 0)))] (zh G σ) o ↔ o = (some (.inl (zcB P G.2.2.1)), zh G σ1)) ∧ (∀ p, p < G.2.2.1 → P p 6 = bF p ∧ P p 8 = σ 21 0 p) ∧ (∀ s, ¬ s = 8 → ¬ s = 15 → ¬ s = 16 → ¬ s = 37 → ¬ s = 40 → ¬ s = 42 → ¬ s = 43 → ¬ s = 44 → ¬ s = 45 → σ1 s = σ s) ∧ (∀ f, ¬ f = 11 → σ1 8 0 f = σ 8 0 f) ∧ σ1 8 0 11 = nI (r + 1) ∧ (∀ p, p < G.2.2.1 → σ1 37 p 0 = nI p ∧ σ1 37 p 6 = bF p ∧ σ1 37 p 7 = σ 20 0 p ∧ σ1 37 p 8 = (if 0 < bF p then 0 else σ 21 0 p) ∧ (∀ k, k < 4 → σ1 42 p k = zrq σ p (bF p) k) ∧ (¬ zrq σ p (bF p) 3 = 0 → (∀ k, k < 3 → σ1 44 p k = zY18 σ p (bF p) k) ∧ σ1 37 p 5 = zY19 σ p (bF p))) ∧ (∀ c, c < G.2.2.2.1 → (∀ f, ¬ f = 6 → σ1 45 c f = σ 45 c f) ∧ σ1 45 c 6 = if 0 < bF (σ 45 c 1).toNatClampNeg ∧ ¬ 0 < σ 45 c 6 then nI (r + 1) else σ 45 c 6) ∧ (∃ l, l = zPl P (σ1 45) (nI (r + 1)) G.2.2.2.1 G.2.2.1 ∧ σ1 15 0 1 = nI l.length ∧ ∀ i, i < l.length → σ1 40 0 i = nI (l.getD i 0)) ∧ (∃ l, l = zTl P G.2.2.1 ∧ σ1 16 0 1 = nI l.length ∧ ∀ i, i < l.length → σ1 40 1 i = nI (l.getD i 0)) := by
  obtain ⟨⟨np, nc, nt, hr, b1, m1, b3, m11, b5, m28, hw, a11, a21⟩, p0, p1, p2, p3, c0, cz, ti, tp, no, nu⟩ := h
  have hs : ∀ s, ¬ s = 8 → zw σ 8 0 11 (σ 8 0 11 + 1) s = σ s := fun s hs => zw_s hs
  have h8 : ∀ f, ¬ f = 11 → zw σ 8 0 11 (σ 8 0 11 + 1) 8 0 f = σ 8 0 f := fun f hf => w_o _ _ _ _ _ (fun x => hf x.2.2)
  have h11 : zw σ 8 0 11 (σ 8 0 11 + 1) 8 0 11 = nI (r + 1) := by rw [w_i, a11, nI_1]
  obtain ⟨σc, hσ⟩ : ∃ σc, σc = zw σ 8 0 11 (σ 8 0 11 + 1) := ⟨_, rfl⟩
  rw [← hσ] at hs h8 h11
  obtain ⟨r1, hr1, hfix, hB⟩ := b_run (G := G) (σ := σc) (σ0 := σ) (d := 4) hσ np nc (fun q hq => by rw [hs 37 (by decide)]; exact p0 q hq) (fun c hc => by rw [hs 45 (by decide)]; exact (c0 c hc).1) (fun c hc => by rw [hs 45 (by decide)]; exact (c0 c hc).2.1) (fun r => Nat.le_trans (zPl_len np) nc)
  have c0c : zC0 G.2.2.1 G.2.2.2.1 r (σc 45) (σc 24 0) (σc 25 0) (σc 26 0) (σc 27 0) (σc 28 0) (σc 29 0) := by
    rw [hs 45 (by decide), hs 24 (by decide), hs 25 (by decide), hs 26 (by decide), hs 27 (by decide), hs 28 (by decide), hs 29 (by decide)]; exact c0
  have p1c : zP1 G.2.2.1 r (σc 37) (σc 42) (σc 44) (σc 17 0) (σc 18 0) (σc 19 0) (σc 20 0) (σc 21 0) (σc 30 0) := by
    rw [hs 37 (by decide), hs 42 (by decide), hs 44 (by decide), hs 17 (by decide), hs 18 (by decide), hs 19 (by decide), hs 20 (by decide), hs 21 (by decide), hs 30 (by decide)]; exact p1
  have gF : ∀ q, q < G.2.2.1 → zgp (σc 45) (nI q) G.2.2.2.1 = zF2 σc G.2.2.2.1 q := fun q hq => gp_F2 np (by omega) c0c (by omega) _ (Nat.le_refl _)
  have fp : ∀ q, ¬ zF2 σc G.2.2.2.1 q < 0 := F2_pos c0c _ (Nat.le_refl _)
  have BC : ∀ q, q < G.2.2.1 → zRq σc (zBC G.2.2.2.1 σc G.2.2.1) q (zF2 σc G.2.2.2.1 q) := fun q hq => by
    have := zBC_in (m := G.2.2.2.1) (n := G.2.2.1) (σ := σc) (fun q hq => pk_of (by omega) p1c hq) (fun q hq => (p1c q hq).2.2.1) (fun q hq => by rw [gF q hq]; exact fp q) G.2.2.1 (Nat.le_refl _) q hq
    rw [gF q hq] at this
    exact this
  have e41 : zBC G.2.2.2.1 σc G.2.2.1 41 = σ 41 := by rw [zBC_45 (by decide) (by decide) (by decide) (by decide), hs 41 (by decide)]
  have rg : ∀ p, p < G.2.2.1 → ∀ q, q < G.2.2.1 → zRg (zBC G.2.2.2.1 σc G.2.2.1 41 p q) (σc 22 0 (10 * p + q)) := fun p hp q hq => by
    rw [e41, hs 22 (by decide)]
    exact p2 p hp q (by omega)
  have RQ := Rn_It BC rg r1
  have fx : zfr σc G.2.2.1 (zIt σc G.2.2.1 (zF2 σc G.2.2.2.1) r1) G.2.2.1 = zIt σc G.2.2.1 (zF2 σc G.2.2.2.1) r1 := by
    rcases hfix with e | e
    · rw [e]; exact It_10 np
    · have e2 : zRn G.2.2.1 (zBC G.2.2.2.1 σc G.2.2.1) r1 41 = zBC G.2.2.2.1 σc G.2.2.1 41 := zRn_s (by decide) (by decide) (by decide) r1
      exact (C1_fr RQ (fun p hp q hq => by rw [e2]; exact rg p hp q hq) G.2.2.1 (Nat.le_refl _)).2 e
  have cI : ∀ b q, zIt σc G.2.2.1 b q = zIt σ G.2.2.1 b q := fun b q => zIt_c (hs 17 (by decide)) (hs 18 (by decide)) (hs 19 (by decide)) (hs 20 (by decide)) (hs 22 (by decide)) _ b q
  have cF : zF2 σc G.2.2.2.1 = zF2 σ G.2.2.2.1 := zF2_c (hs 24 (by decide)) (hs 26 (by decide)) (hs 28 (by decide)) (hs 29 (by decide)) _
  have cf : ∀ b, zfr σc G.2.2.1 b G.2.2.1 = zfr σ G.2.2.1 b G.2.2.1 := fun b => zfr_c (hs 17 (by decide)) (hs 18 (by decide)) (hs 19 (by decide)) (hs 20 (by decide)) (hs 22 (by decide)) _ b _
  rw [cf, cI, cF] at fx
  have RQ : ∀ q, q < G.2.2.1 → zRq σc (zRn G.2.2.1 (zBC G.2.2.2.1 σc G.2.2.1) r1) q (zIt σ G.2.2.1 (zF2 σ G.2.2.2.1) r1 q) := fun q hq => by
    have := RQ q hq
    rw [cI, cF] at this
    exact this
  have ρs : ∀ s, ¬ s = 8 → ¬ s = 37 → ¬ s = 42 → ¬ s = 43 → ¬ s = 44 → zRn G.2.2.1 (zBC G.2.2.2.1 σc G.2.2.1) r1 s = σ s := fun s a b c d e => by
    rw [zRn_s c e b r1, zBC_45 c d e b, hs s a]
  have ρ8 : zRn G.2.2.1 (zBC G.2.2.2.1 σc G.2.2.1) r1 8 = σc 8 := by
    rw [zRn_s (by decide) (by decide) (by decide) r1, zBC_45 (by decide) (by decide) (by decide) (by decide)]
  have ρ0 : ∀ q, q < G.2.2.1 → zRn G.2.2.1 (zBC G.2.2.2.1 σc G.2.2.1) r1 37 q 0 = nI q := fun q hq => by
    rw [zRn_n r1, zBC_n, hs 37 (by decide)]; exact p0 q hq
  generalize hbF : zIt σ G.2.2.1 (zF2 σ G.2.2.2.1) r1 = bF at *
  generalize zRn G.2.2.1 (zBC G.2.2.2.1 σc G.2.2.1) r1 = ρ at *
  have τs : ∀ s, ¬ s = 45 → zRC ρ G.2.2.2.1 s = ρ s := fun s hs => zRC_s hs _
  have τf : ∀ c f, ¬ f = 6 → zRC ρ G.2.2.2.1 45 c f = σ 45 c f := fun c f hf => by rw [zRC_f hf, ρs 45 (by decide) (by decide) (by decide) (by decide) (by decide)]
  have τ6 : ∀ c, c < G.2.2.2.1 → zRC ρ G.2.2.2.1 45 c 6 = if 0 < ρ 37 (σ 45 c 1).toNatClampNeg 6 ∧ ¬ 0 < σ 45 c 6 then nI (r + 1) else σ 45 c 6 := fun c hc => by
    rw [zRC_6 _ _ hc, ρ8, h11, ρs 45 (by decide) (by decide) (by decide) (by decide) (by decide)]
  have zq : ∀ q w, zrq σc q w = zrq σ q w := fun q w => zrq_c (hs 17 (by decide)) (hs 18 (by decide)) (hs 19 (by decide)) (hs 20 (by decide)) q w
  have z18 : ∀ q w k, zY18 σc q w k = zY18 σ q w k := fun q w k => by
    unfold zY18
    rw [hs 17 (by decide), hs 18 (by decide), hs 20 (by decide)]
  have z19 : ∀ q w, zY19 σc q w = zY19 σ q w := fun q w => by
    unfold zY19
    rw [hs 17 (by decide), hs 19 (by decide), hs 20 (by decide)]
  have ρq : ∀ p, p < G.2.2.1 → ρ 37 p 6 = bF p ∧ ρ 37 p 7 = σ 20 0 p ∧ ρ 37 p 8 = σ 21 0 p ∧ (∀ k, k < 4 → ρ 42 p k = zrq σ p (bF p) k) ∧ (¬ zrq σ p (bF p) 3 = 0 → (∀ k, k < 3 → ρ 44 p k = zY18 σ p (bF p) k) ∧ ρ 37 p 5 = zY19 σ p (bF p)) := fun p hp => by
    obtain ⟨-, q6, q7, q8, q42, q0, q1⟩ := RQ p hp
    rw [hs 20 (by decide)] at q7
    rw [hs 21 (by decide)] at q8
    simp only [zq, z18, z19] at q42 q1
    refine ⟨q6, q7, q8, q42, fun x => ?_⟩
    by_cases w0 : bF p = 0
    · have hP := (q0 w0).2.2.2
      rw [hs 17 (by decide), hs 18 (by decide), hs 19 (by decide)] at hP
      rw [w0, zrq_0 (by omega)] at x
      rw [w0]
      refine ⟨fun k hk => ?_, ?_⟩
      · unfold zY18
        rw [if_neg (fun y => y.1 rfl)]
        exact (hP x).1 k hk
      · unfold zY19
        rw [if_pos rfl]
        exact (hP x).2.1
    · exact q1 w0 x
  have hP37 : zRC ρ G.2.2.2.1 37 = ρ 37 := τs 37 (by decide)
  have τs2 : ∀ s, ¬ s = 8 → ¬ s = 37 → ¬ s = 42 → ¬ s = 43 → ¬ s = 44 → ¬ s = 45 → zRC ρ G.2.2.2.1 s = σ s := fun s a b c d e f => by rw [τs s f, ρs s a b c d e]
  have τ8 : zRC ρ G.2.2.2.1 8 = σc 8 := by rw [τs 8 (by decide), ρ8]
  have τ42 : zRC ρ G.2.2.2.1 42 = ρ 42 := τs 42 (by decide)
  have τ44 : zRC ρ G.2.2.2.1 44 = ρ 44 := τs 44 (by decide)
  simp only [exists_eq_left] at hB
  generalize zRC ρ G.2.2.2.1 = τ at *
  rw [h11] at hB
  refine ⟨bF, _, τ 37, ⟨⟨r1, hbF.symm⟩, fx⟩, hB, fun p hp => ?_, fun s n8 n15 n16 n37 n40 n42 n43 n44 n45 => ?_, fun f hf => ?_, ?_, fun p hp => ?_, fun c hc => ⟨fun f hf => ?_, ?_⟩, ⟨_, rfl, ?_, fun i hi => ?_⟩, ⟨_, rfl, ?_, fun i hi => ?_⟩⟩
  · rw [hP37]; exact ⟨(ρq p hp).1, (ρq p hp).2.2.1⟩
  · rw [Tt_s n16 n40 n37, zNt_s n15 n40, τs2 s n8 n37 n42 n43 n44 n45]
  · rw [Tt_s (by decide) (by decide) (by decide), zNt_s (by decide) (by decide), τ8]; exact h8 f hf
  · rw [Tt_s (by decide) (by decide) (by decide), zNt_s (by decide) (by decide), τ8]; exact h11
  · obtain ⟨q6, q7, q8, q42, q1⟩ := ρq p hp
    rw [zTt_37 (f := 0) (Or.inl (by decide)), zTt_37 (f := 6) (Or.inl (by decide)), zTt_37 (f := 7) (Or.inl (by decide)), zTt_37 (f := 5) (Or.inl (by decide)), Tt_s (s := 42) (by decide) (by decide) (by decide), Tt_s (s := 44) (by decide) (by decide) (by decide), zNt_s (s := 37) (by decide) (by decide), zNt_s (s := 42) (by decide) (by decide), zNt_s (s := 44) (by decide) (by decide), hP37, τ42, τ44]
    refine ⟨ρ0 p hp, q6, q7, ?_, q42, q1⟩
    unfold zTt
    rw [if_neg (by simp), if_neg (by simp), zNt_s (s := 37) (by decide) (by decide), hP37, q6, q8]
    simp only [true_and, hp]
  · rw [Tt_s (by decide) (by decide) (by decide), zNt_s (by decide) (by decide)]; exact τf c f hf
  · rw [Tt_s (by decide) (by decide) (by decide), zNt_s (by decide) (by decide), τ6 c hc]
    obtain ⟨-, ⟨p, hp, ep⟩, -⟩ := c0 c hc
    rw [ep, z_cl (by omega), (ρq p hp).1]
  · rw [Tt_s (s := 15) (by decide) (by decide) (by decide), zNt_15, Tt_s (s := 45) (by decide) (by decide) (by decide), zNt_s (s := 45) (by decide) (by decide)]
  · rw [Tt_s (s := 45) (by decide) (by decide) (by decide), zNt_s (s := 45) (by decide) (by decide)] at hi ⊢
    show zTt _ _ _ 40 0 i = _
    unfold zTt
    rw [if_neg (by simp), if_neg (by simp), if_neg (by simp)]
    unfold zNt
    rw [if_neg (by simp), if_pos ⟨rfl, rfl, hi⟩]
  · show zTt _ _ _ 16 0 1 = _
    unfold zTt
    rw [if_pos ⟨rfl, rfl, rfl⟩]
  · show zTt _ _ _ 40 1 i = _
    unfold zTt
    rw [if_neg (by simp), if_pos ⟨rfl, rfl, hi⟩]
end ZO9
