section ZOb
variable {X : Nat × (Nat → Int32)} {k : Nat} {G : zG} {σ : zR}
set_option maxRecDepth 3000 in
set_option maxHeartbeats 400000 in
theorem gr_gm {C : Nat → Nat → Int32} {τ : zR} {c : Nat} (h4 : C c 4 = τ 26 0 c) (h2 : C c 2 = τ 25 0 c) (hk : τ 25 0 c = -1 ∨ ∃ j, j < 6 ∧ τ 25 0 c = nI j) : zgr C c = zgm τ c := by
  unfold zgr zgm
  rw [h4, h2]
  rcases hk with e | ⟨j, hj, e⟩
  · rw [e]
    rw [if_pos (show (-1 : Int32) = -1 from rfl), if_pos (show (-1 : Int32) < 0 by decide)]
  · rw [e, if_neg (nI_pos (by omega))]
    have : ¬ nI j = -1 := fun x => nI_pos (n := j) (by omega) (by rw [x]; decide)
    rw [if_neg this, Int32.add_comm]
set_option maxRecDepth 3000 in
set_option maxHeartbeats 400000 in
theorem sim_run (hk : k ≤ 512) (h : zInv X k G σ) : zSim X k G σ 21 22 [] := by
  obtain ⟨hx, r, h⟩ := h
  obtain ⟨bF, σ1, P, ⟨hb1, hb2⟩, hB, hP, s1, s8, s811, s37, s45, ⟨l, hl, l15, l40⟩, ⟨lt, hlt, l16, l41⟩⟩ := run_b hk h
  obtain ⟨τ, hM, t30, t30h, ts, t9, t921, t28, t28h⟩ := run_m h hb1 hb2 s1
  obtain ⟨⟨np, nc, nt, hr, b1, m1, b3, m11, b5, m28, hw, a11, a21⟩, p0, p1, p2, p3, c0, cz, ti, tp, no, nu⟩ := h
  have bp : ∀ p, ¬ bF p < 0 := fun p => by
    obtain ⟨q, hq⟩ := hb1
    rw [hq]
    exact It_pos (F2_pos c0 _ (Nat.le_refl _)) q p
  have t1 : ∀ s, 17 ≤ s → s ≤ 29 → ¬ s = 28 → τ s = σ s := fun s a b c => by
    rw [ts s (by omega) c (by omega) (by omega) (by omega) (by omega) (by omega), s1 s (by omega) (by omega) (by omega) (by omega) (by omega) (by omega) (by omega) (by omega) (by omega)]
  have e45 : ∀ c, c < G.2.2.2.1 → σ1 45 c 6 = τ 28 0 c := fun c hc => by
    rw [(s45 c hc).2, t28 c hc]
    obtain ⟨-, -, e24, -, -, -, -, -, -, e6, u, hu, eu⟩ := c0 c hc
    rw [e6, ← e24]
    have z := z_u0 eu (by omega)
    by_cases x : 0 < bF (σ 24 0 c).toNatClampNeg ∧ ¬ 0 < σ 28 0 c
    · rw [if_pos x, if_pos ⟨z.mp x.2, x.1⟩]
    · rw [if_neg x, if_neg (fun y => x ⟨y.2, z.mpr y.1⟩)]
  have eN : zPl P (σ1 45) (nI (r + 1)) G.2.2.2.1 G.2.2.1 = zQn τ G.2.2.2.1 G.2.2.1 := by
    rw [zPl_eq, zQn_eq]
    refine zPP_c _ (fun p hp => ?_) (fun p hp g hg c hc => ?_)
    · rw [(hP p hp).1, t30 p hp]
      have := z_p0 (bp p)
      by_cases x : bF p = 0
      · simp [x]
      · simp [x, this.mpr x]
    · obtain ⟨-, -, e24, k25, e2, -, e4, -, e5, -⟩ := c0 c hc
      have f := (s45 c hc).1
      unfold zNf zMf
      rw [gr_gm (C := σ1 45) (τ := τ) (by rw [f 4 (by decide), t1 26 (by decide) (by decide) (by decide)]; exact e4) (by rw [f 2 (by decide), t1 25 (by decide) (by decide) (by decide)]; exact e2) (by rw [t1 25 (by decide) (by decide) (by decide)]; exact k25), e45 c hc, f 1 (by decide), f 5 (by decide), t1 24 (by decide) (by decide) (by decide), t1 29 (by decide) (by decide) (by decide), e24, e5, t921]
      refine decide_eq_decide.mpr ⟨fun ⟨a, ⟨b, c⟩, d⟩ => ⟨a, c, b, d⟩, fun ⟨a, c, b, d⟩ => ⟨a, ⟨b, c⟩, d⟩⟩
  have eT : zTl P G.2.2.1 = zQt τ G.2.2.1 := zTl_eq _ (fun p hp => ⟨by rw [(hP p hp).2, t1 21 (by decide) (by decide) (by decide)], by rw [(hP p hp).1, t30 p hp]⟩)
  have eC : zcB P G.2.2.1 = zQc τ G.2.2.1 := zcB_eq _ (fun p hp => ⟨by rw [(hP p hp).1, t30 p hp], by rw [t30 p hp]; exact bp p⟩)
  rw [← eN, ← hl, ← eT, ← hlt, ← eC] at hM
  have ll : l.length ≤ 60 := by rw [hl]; exact Nat.le_trans (zPl_len np) nc
  have llt : lt.length ≤ 10 := by rw [hlt]; exact Nat.le_trans (zTl_len _) np
  obtain ⟨Q1, Q2⟩ := Qs_at (σ := τ) G.2.2.1
  have Qs := fun s a b c d e => zQs_s (σ := τ) (s := s) a b c d e G.2.2.1
  have zr : ∀ q w, zrq τ q w = zrq σ q w := fun q w => zrq_c (t1 17 (by decide) (by decide) (by decide)) (t1 18 (by decide) (by decide) (by decide)) (t1 19 (by decide) (by decide) (by decide)) (t1 20 (by decide) (by decide) (by decide)) q w
  have z18 : ∀ q w k, zY18 τ q w k = zY18 σ q w k := fun q w k => by
    unfold zY18
    rw [t1 17 (by decide) (by decide) (by decide), t1 18 (by decide) (by decide) (by decide), t1 20 (by decide) (by decide) (by decide)]
  have z19 : ∀ q w, zY19 τ q w = zY19 σ q w := fun q w => by
    unfold zY19
    rw [t1 17 (by decide) (by decide) (by decide), t1 19 (by decide) (by decide) (by decide), t1 20 (by decide) (by decide) (by decide)]
  have N9 : ∀ (α : zR) f, ¬ f = 23 → ¬ f = 25 → zNT α lt l 9 0 f = α 9 0 f := fun α f a b => zNT_9 a b
  have N923 : ∀ α : zR, zNT α lt l 9 0 23 = nI l.length := fun _ => rfl
  have N925 : ∀ α : zR, zNT α lt l 9 0 25 = nI lt.length := fun _ => zNT_25
  have Ns : ∀ (α : zR) s, ¬ s = 9 → ¬ s = 31 → ¬ s = 32 → zNT α lt l s = α s := fun α s a b c => zNT_s a b c
  have N31 : ∀ (α : zR) i, i < l.length → zNT α lt l 31 0 i = nI (l.getD i 0) := fun α i hi => by
    unfold zNT zMn
    rw [if_neg (by simp), if_pos ⟨rfl, rfl, hi⟩]
  have N32 : ∀ (α : zR) i, i < lt.length → zNT α lt l 32 0 i = nI (lt.getD i 0) := fun α i hi => by
    unfold zNT
    rw [zMn_s (by decide) (by decide)]
    unfold zMt
    rw [if_neg (by simp), if_pos ⟨rfl, rfl, hi⟩]
  refine ⟨_, G, σ1, _, hB, hM, ix_up hx, r + 1, ?_⟩
  have q9 : ∀ f, ¬ f = 0 → ¬ f = 21 → ¬ f = 23 → ¬ f = 25 → zNT (zQs τ G.2.2.1) lt l 9 0 f = σ 9 0 f := fun f a b c d => by
    rw [N9 _ f c d, Qs 9 (by decide) (by decide) (by decide) (by decide) (by decide), t9 f a b c d]
  have q921 : zNT (zQs τ G.2.2.1) lt l 9 0 21 = nI (r + 1) := by
    rw [N9 _ 21 (by decide) (by decide), Qs 9 (by decide) (by decide) (by decide) (by decide) (by decide), t921]
  have qs : ∀ s, ¬ s = 9 → ¬ (17 ≤ s ∧ s ≤ 19) → ¬ s = 21 → ¬ s = 28 → ¬ (30 ≤ s ∧ s ≤ 33) → ¬ s = 36 → zNT (zQs τ G.2.2.1) lt l s = σ1 s := fun s a b c d e f => by
    rw [Ns _ s a (by omega) (by omega), Qs s c (by omega) (by omega) (by omega) (by omega), ts s a d (by omega) (by omega) (by omega) (by omega) f]
  have qq : ∀ s, ¬ s = 9 → ¬ s = 31 → ¬ s = 32 → zNT (zQs τ G.2.2.1) lt l s = zQs τ G.2.2.1 s := fun s a b c => Ns _ s a b c
  have q30 : zNT (zQs τ G.2.2.1) lt l 30 = τ 30 := by rw [qq 30 (by decide) (by decide) (by decide), Qs 30 (by decide) (by decide) (by decide) (by decide) (by decide)]
  have q28 : zNT (zQs τ G.2.2.1) lt l 28 = τ 28 := by rw [qq 28 (by decide) (by decide) (by decide), Qs 28 (by decide) (by decide) (by decide) (by decide) (by decide)]
  have q17 := qq 17 (by decide) (by decide) (by decide)
  have q18 := qq 18 (by decide) (by decide) (by decide)
  have q19 := qq 19 (by decide) (by decide) (by decide)
  have q21 := qq 21 (by decide) (by decide) (by decide)
  have n23 := N923 (zQs τ G.2.2.1)
  have n25 := N925 (zQs τ G.2.2.1)
  have n31 := N31 (zQs τ G.2.2.1)
  have n32 := N32 (zQs τ G.2.2.1)
  generalize zNT (zQs τ G.2.2.1) lt l = σ2 at *
  have s2 : ∀ s, ¬ s = 8 → ¬ s = 9 → ¬ s = 15 → ¬ s = 16 → ¬ (17 ≤ s ∧ s ≤ 19) → ¬ s = 21 → ¬ s = 28 → ¬ (30 ≤ s ∧ s ≤ 33) → ¬ s = 36 → ¬ s = 37 → ¬ s = 40 → ¬ (42 ≤ s ∧ s ≤ 45) → σ2 s = σ s := fun s a b c d e f g h i j k l => by
    rw [qs s b e f g h i, s1 s a c d j k (by omega) (by omega) (by omega) (by omega)]
  refine ⟨⟨np, nc, nt, by omega, ?_, ?_, ?_, ?_, ?_, ?_, ?_, ?_, q921⟩, fun p hp => ?_, fun p hp => ?_, ?_, fun p h1 h2 => ?_, fun c hc => ?_, fun c h1 h2 => ?_, ?_, ?_, ⟨l.length, ll, ?_, n23, fun i hi => ?_⟩, ⟨lt.length, llt, ?_, n25, fun i hi => ?_⟩⟩
  · rw [qs 8 (by decide) (by decide) (by decide) (by decide) (by decide) (by decide), s8 1 (by decide)]; exact b1
  · rw [q9 1 (by decide) (by decide) (by decide) (by decide)]; exact m1
  · rw [qs 8 (by decide) (by decide) (by decide) (by decide) (by decide) (by decide), s8 3 (by decide)]; exact b3
  · rw [q9 11 (by decide) (by decide) (by decide) (by decide)]; exact m11
  · rw [qs 8 (by decide) (by decide) (by decide) (by decide) (by decide) (by decide), s8 5 (by decide)]; exact b5
  · rw [q9 28 (by decide) (by decide) (by decide) (by decide)]; exact m28
  · rw [qs 8 (by decide) (by decide) (by decide) (by decide) (by decide) (by decide), s8 10 (by decide), q9 8 (by decide) (by decide) (by decide) (by decide)]; exact hw
  · rw [qs 8 (by decide) (by decide) (by decide) (by decide) (by decide) (by decide), s811]
  · rw [qs 37 (by decide) (by decide) (by decide) (by decide) (by decide) (by decide)]; exact (s37 p hp).1
  · obtain ⟨-, g6, g7, g8, g42, g44⟩ := s37 p hp
    obtain ⟨u17, u18, u19, u21⟩ := Q1 p hp
    rw [t30 p hp] at u17 u18 u19 u21
    obtain ⟨-, -, -, -, i5, i6⟩ := p1 p hp
    have j17 : ∀ k, k < 4 → σ2 17 0 (4 * p + k) = zrq σ p (bF p) k := fun k hk => by rw [q17, u17 k hk, zr]
    have j18 : ∀ k, k < 4 → σ2 18 0 (4 * p + k) = zY18 σ p (bF p) k := fun k hk => by rw [q18, u18 k hk, z18]
    have j170 := j17 0 (by omega)
    have j180 := j18 0 (by omega)
    rw [Nat.add_zero] at j170 j180
    rw [qs 37 (by decide) (by decide) (by decide) (by decide) (by decide) (by decide), qs 42 (by decide) (by decide) (by decide) (by decide) (by decide) (by decide), qs 44 (by decide) (by decide) (by decide) (by decide) (by decide) (by decide), s2 20 (by decide) (by decide) (by decide) (by decide) (by decide) (by decide) (by decide) (by decide) (by decide) (by decide) (by decide) (by decide), q30, t30 p hp, j170, j17 3 (by omega), j180, q19, u19, z19, q21, u21, t1 21 (by decide) (by decide) (by decide)]
    refine ⟨g6, g7, ?_, fun k hk => ?_, rq_0 i5 (fun x => (i6 x).2.2), fun x => ⟨fun k hk => ?_, (g44 x).2, n18_0 i5 (fun x => (i6 x).2.2) x⟩⟩
    · rw [g8]
      by_cases x : bF p = 0
      · rw [if_pos x, if_neg (fun y => (z_p0 (bp p)).mp y x)]
      · rw [if_neg x, if_pos ((z_p0 (bp p)).mpr x)]
    · rw [g42 k hk, j17 k hk]
    · rw [(g44 x).1 k hk, j18 k (by omega)]
  · rw [s2 41 (by decide) (by decide) (by decide) (by decide) (by decide) (by decide) (by decide) (by decide) (by decide) (by decide) (by decide) (by decide), s2 22 (by decide) (by decide) (by decide) (by decide) (by decide) (by decide) (by decide) (by decide) (by decide) (by decide) (by decide) (by decide)]; exact p2
  · obtain ⟨u17, u18, u19, u21⟩ := Q2 p h1
    rw [q17, u17 3 (by omega), t1 17 (by decide) (by decide) (by decide), s2 20 (by decide) (by decide) (by decide) (by decide) (by decide) (by decide) (by decide) (by decide) (by decide) (by decide) (by decide) (by decide), q21, u21, t1 21 (by decide) (by decide) (by decide), s2 22 (by decide) (by decide) (by decide) (by decide) (by decide) (by decide) (by decide) (by decide) (by decide) (by decide) (by decide) (by decide), q30, t30h p h1]
    exact p3 p h1 h2
  · obtain ⟨e0, e1, e24, k25, e2, e3, e4, ew, e5, e6, u, hu, eu⟩ := c0 c hc
    have f := (s45 c hc).1
    have g : ∀ s, 24 ≤ s → s ≤ 29 → ¬ s = 28 → σ2 s = σ s := fun s a b d => s2 s (by omega) (by omega) (by omega) (by omega) (by omega) (by omega) d (by omega) (by omega) (by omega) (by omega) (by omega)
    rw [qs 45 (by decide) (by decide) (by decide) (by decide) (by decide) (by decide), g 24 (by decide) (by decide) (by decide), g 25 (by decide) (by decide) (by decide), g 26 (by decide) (by decide) (by decide), g 27 (by decide) (by decide) (by decide), g 29 (by decide) (by decide) (by decide), q28, f 0 (by decide), f 1 (by decide), f 2 (by decide), f 3 (by decide), f 4 (by decide), f 5 (by decide), e45 c hc]
    refine ⟨e0, e1, e24, k25, e2, e3, e4, ew, e5, rfl, ?_⟩
    rw [t28 c hc]
    split
    · exact ⟨r + 1, by omega, rfl⟩
    · exact ⟨u, by omega, eu⟩
  · rw [q28, t28h c h1, s2 29 (by decide) (by decide) (by decide) (by decide) (by decide) (by decide) (by decide) (by decide) (by decide) (by decide) (by decide) (by decide)]
    exact cz c h1 h2
  · rw [s2 38 (by decide) (by decide) (by decide) (by decide) (by decide) (by decide) (by decide) (by decide) (by decide) (by decide) (by decide) (by decide), s2 46 (by decide) (by decide) (by decide) (by decide) (by decide) (by decide) (by decide) (by decide) (by decide) (by decide) (by decide) (by decide), s2 34 (by decide) (by decide) (by decide) (by decide) (by decide) (by decide) (by decide) (by decide) (by decide) (by decide) (by decide) (by decide), s2 35 (by decide) (by decide) (by decide) (by decide) (by decide) (by decide) (by decide) (by decide) (by decide) (by decide) (by decide) (by decide)]; exact ti
  · rw [s2 13 (by decide) (by decide) (by decide) (by decide) (by decide) (by decide) (by decide) (by decide) (by decide) (by decide) (by decide) (by decide), s2 39 (by decide) (by decide) (by decide) (by decide) (by decide) (by decide) (by decide) (by decide) (by decide) (by decide) (by decide) (by decide), s2 23 (by decide) (by decide) (by decide) (by decide) (by decide) (by decide) (by decide) (by decide) (by decide) (by decide) (by decide) (by decide), q9 10 (by decide) (by decide) (by decide) (by decide)]; exact tp
  · rw [qs 15 (by decide) (by decide) (by decide) (by decide) (by decide) (by decide)]; exact l15
  · rw [qs 40 (by decide) (by decide) (by decide) (by decide) (by decide) (by decide), l40 i hi, n31 i hi]
  · rw [qs 16 (by decide) (by decide) (by decide) (by decide) (by decide) (by decide)]; exact l16
  · rw [qs 40 (by decide) (by decide) (by decide) (by decide) (by decide) (by decide), l41 i hi, n32 i hi]
end ZOb
