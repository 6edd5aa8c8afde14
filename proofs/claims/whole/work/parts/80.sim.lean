section ZO6
variable {X : Nat × (Nat → Int32)} {k : Nat} {G : zG} {σ : zR}
set_option maxRecDepth 3000 in
set_option maxHeartbeats 400000 in
theorem zfit_c {x : Int32} (h1 : ¬ x < 32) (h2 : ¬ 126 < x) : zm_fit .char (.inl x) = true := by
  show (decide (0 ≤ x) && decide (x ≤ 65535)) = true
  rw [Bool.and_eq_true, decide_eq_true_eq, decide_eq_true_eq, Int32.le_iff_toInt_le, Int32.le_iff_toInt_le]
  rw [Int32.lt_iff_toInt_lt] at h1 h2
  have e1 : (32 : Int32).toInt = 32 := rfl
  have e2 : (126 : Int32).toInt = 126 := rfl
  have e3 : (65535 : Int32).toInt = 65535 := rfl
  have e4 : (0 : Int32).toInt = 0 := rfl
  omega
set_option maxRecDepth 3000 in
set_option maxHeartbeats 400000 in
theorem zWt_3 {t : Nat → Int32} {n e j : Nat} (hj : j < 6) : ∃ w, w ≤ 3 ∧ zWt t n e j = nI w := by
  unfold zWt
  split
  · exact ⟨3, by omega, rfl⟩
  · have hj : j = 0 ∨ j = 1 ∨ j = 2 ∨ j = 3 ∨ j = 4 ∨ j = 5 := by omega
    rcases hj with rfl | rfl | rfl | rfl | rfl | rfl
    · exact ⟨2, by omega, rfl⟩
    · exact ⟨1, by omega, rfl⟩
    · exact ⟨1, by omega, rfl⟩
    · exact ⟨0, by omega, rfl⟩
    · exact ⟨0, by omega, rfl⟩
    · exact ⟨0, by omega, rfl⟩
set_option maxRecDepth 3000 in
set_option maxHeartbeats 400000 in
theorem zrdT (hT : zTp (σ 13 0 1) (σ 39 0) (σ 9 0 10) (σ 23 0)) (hw : ∃ w, w ≤ 2 ∧ σ 8 0 10 = nI w ∧ σ 9 0 8 = nI w) : ∃ (K S W : Int32) (τ : zR), (K = -1 ∨ ∃ j, j < 6 ∧ K = nI j) ∧ (∃ w, w ≤ 3 ∧ W = nI w) ∧ (∀ (d : Nat) (o : zmO), zm_Calls (d + 7) 72 [.inr (.inr (some (14, 0))), .inr (.inr (some (13, 0))), .inl (σ 8 0 10)] (zh G σ) o ↔ o = (none, zh G τ)) ∧ (∀ s, ¬ s = 14 → τ s = σ s) ∧ τ 14 0 0 = K ∧ τ 14 0 1 = S ∧ τ 14 0 2 = W ∧ ∀ (H : zG) (ρ : zR), ρ 9 0 10 = σ 9 0 10 → ρ 23 0 = σ 23 0 → ρ 9 0 8 = σ 9 0 8 → ∀ (d : Nat) (o : zmO), zm_Calls (d + 4) 47 [.inr (.inr (some (9, 0)))] (zh H ρ) o ↔ o = (none, zh H (zk4 ρ K S W)) := by
  obtain ⟨n, hn, t1, t2, t3⟩ := hT
  obtain ⟨w, hw, w1, w2⟩ := hw
  have e39 : zat (σ 39 0) n = zat (σ 23 0) n := by
    funext a
    unfold zat
    split
    · rename_i h; exact (t3 a h).1
    · rfl
  have tp : zTape σ n := ⟨t1, hn, fun j hj => by rw [(t3 j hj).1]; exact zfit_c (t3 j hj).2.1 (t3 j hj).2.2⟩
  have tm : ∀ ρ : zR, ρ 9 0 10 = σ 9 0 10 → ρ 23 0 = σ 23 0 → zTm ρ n := fun ρ a b => ⟨a.trans t2, hn, fun i hi => by rw [b]; exact (t3 i hi).2⟩
  have q3 : ∀ (ρ : zR) (a b c : Int32), zk3 ρ a b c 14 0 0 = a ∧ zk3 ρ a b c 14 0 1 = b ∧ zk3 ρ a b c 14 0 2 = c := fun ρ a b c => ⟨rfl, rfl, rfl⟩
  have q4 : ∀ (ρ : zR) (a b c : Int32) (s : Nat), ¬ s = 14 → zk3 ρ a b c s = ρ s := fun ρ a b c s hs => by funext i; exact zk3_off hs
  by_cases g : ∃ j c e, zGood (zat (σ 23 0) n) n j c e
  · obtain ⟨j, c, e, g⟩ := g
    refine ⟨nI j, nI c, zWt (zat (σ 23 0) n) n e j, zk3 (zk3 σ (-1) 0 (σ 8 0 10)) (nI j) (nI c) (zWt (zat (σ 23 0) n) n e j), Or.inr ⟨j, g.1, rfl⟩, zWt_3 g.1, fun d o => ?_, fun s hs => ?_, (q3 _ _ _ _).1, (q3 _ _ _ _).2.1, (q3 _ _ _ _).2.2, fun H ρ r1 r2 r3 d o => ?_⟩
    · have := read_ok (G := G) (d := d) (o := o) (lw := σ 8 0 10) tp (e39 ▸ g)
      rw [e39] at this
      exact this
    · rw [q4 _ _ _ _ _ hs, q4 _ _ _ _ _ hs]
    · have := find_ok (G := H) (σ := ρ) (d := d) (o := o) (n := n) (j := j) (c := c) (e := e) (tm ρ r1 r2) (by rw [r2]; exact g)
      rw [r2] at this
      exact this
  · have g : ∀ j c e, ¬ zGood (zat (σ 23 0) n) n j c e := fun j c e x => g ⟨j, c, e, x⟩
    refine ⟨-1, 0, σ 8 0 10, zk3 σ (-1) 0 (σ 8 0 10), Or.inl rfl, ⟨w, by omega, w1⟩, fun d o => ?_, fun s hs => ?_, (q3 _ _ _ _).1, (q3 _ _ _ _).2.1, (q3 _ _ _ _).2.2, fun H ρ r1 r2 r3 d o => ?_⟩
    · exact read_no (G := G) (d := d) (o := o) (lw := σ 8 0 10) tp (e39 ▸ g)
    · rw [q4 _ _ _ _ _ hs]
    · have := find_no (G := H) (σ := ρ) (d := d) (o := o) (n := n) (tm ρ r1 r2) (by rw [r2]; exact g)
      rw [r3, w2, ← w1] at this
      exact this
set_option maxRecDepth 3000 in
set_option maxHeartbeats 400000 in
theorem inv_tape (h : zInv X k G σ) {K S W : Int32} : zInv X (k + 1) G (zk4 (zw (zw σ 13 0 1 0) 9 0 0 0) K S W) := by
  obtain ⟨hx, r, ha, p0, p1, p2, p3, c0, cz, ti, -, no, nu⟩ := h
  exact ⟨ix_up hx, r, ia_up ha, p0, p1, p2, p3, c0, cz, ti, ⟨0, by omega, nI_0.symm, nI_0.symm, fun i hi => absurd hi (Nat.not_lt_zero i)⟩, no, nu⟩
set_option maxRecDepth 3000 in
set_option maxHeartbeats 400000 in
theorem inv_add (h : zInv X k G σ) {σ2 : zR} (h60 : G.2.2.2.1 < 60) (s0 : ∀ s, ¬ s = 8 → ¬ s = 9 → ¬ s = 13 → ¬ s = 14 → ¬ (24 ≤ s ∧ s ≤ 29) → ¬ s = 45 → σ2 s = σ s) (s8 : ∀ f, ¬ f = 3 → σ2 8 0 f = σ 8 0 f) (s83 : σ2 8 0 3 = nI (G.2.2.2.1 + 1)) (s9 : ∀ f, ¬ (f = 0 ∨ f = 10 ∨ f = 11 ∨ f = 18 ∨ f = 19 ∨ f = 20) → σ2 9 0 f = σ 9 0 f) (s910 : σ2 9 0 10 = 0) (s911 : σ2 9 0 11 = nI (G.2.2.2.1 + 1)) (s13 : σ2 13 0 1 = 0)
    (hc : ∀ r, r ≤ k → zC0 G.2.2.1 G.2.2.2.1 r (σ 45) (σ 24 0) (σ 25 0) (σ 26 0) (σ 27 0) (σ 28 0) (σ 29 0) → zCz G.2.2.2.1 (σ 28 0) (σ 29 0) → zC0 G.2.2.1 (G.2.2.2.1 + 1) r (σ2 45) (σ2 24 0) (σ2 25 0) (σ2 26 0) (σ2 27 0) (σ2 28 0) (σ2 29 0) ∧ zCz (G.2.2.2.1 + 1) (σ2 28 0) (σ2 29 0)) : zInv X (k + 1) (zGc G) σ2 := by
  obtain ⟨hx, r, ⟨np, nc, nt, hr, b1, m1, b3, m11, b5, m28, hw, a11, a21⟩, p0, p1, p2, p3, c0, cz, ti, -, no, nu⟩ := h
  obtain ⟨c0, cz⟩ := hc r hr c0 cz
  have s : ∀ s, 15 ≤ s → ¬ (24 ≤ s ∧ s ≤ 29) → ¬ s = 45 → σ2 s = σ s := fun s a b c => s0 s (by omega) (by omega) (by omega) (by omega) b c
  refine ⟨⟨hx.1, ?_, ?_⟩, r, ⟨np, ?_, nt, by omega, ?_, ?_, s83, s911, ?_, ?_, ?_, ?_, ?_⟩, ?_, ?_, ?_, ?_, c0, cz, ?_, ⟨0, by omega, s13.trans nI_0.symm, s910.trans nI_0.symm, fun i hi => absurd hi (Nat.not_lt_zero i)⟩, ?_, ?_⟩
  · show G.2.1.1 + 1 ≤ _
    omega
  · show G.2.1.2 + 7 ≤ _
    omega
  · show G.2.2.2.1 + 1 ≤ 60
    omega
  · rw [s8 1 (by decide)]; exact b1
  · rw [s9 1 (by decide)]; exact m1
  · rw [s8 5 (by decide)]; exact b5
  · rw [s9 28 (by decide)]; exact m28
  · rw [s8 10 (by decide), s9 8 (by decide)]; exact hw
  · rw [s8 11 (by decide)]; exact a11
  · rw [s9 21 (by decide)]; exact a21
  · rw [s 37 (by decide) (by decide) (by decide)]; exact p0
  · rw [s 37 (by decide) (by decide) (by decide), s 42 (by decide) (by decide) (by decide), s 44 (by decide) (by decide) (by decide), s 17 (by decide) (by decide) (by decide), s 18 (by decide) (by decide) (by decide), s 19 (by decide) (by decide) (by decide), s 20 (by decide) (by decide) (by decide), s 21 (by decide) (by decide) (by decide), s 30 (by decide) (by decide) (by decide)]; exact p1
  · rw [s 41 (by decide) (by decide) (by decide), s 22 (by decide) (by decide) (by decide)]; exact p2
  · rw [s 17 (by decide) (by decide) (by decide), s 20 (by decide) (by decide) (by decide), s 21 (by decide) (by decide) (by decide), s 22 (by decide) (by decide) (by decide), s 30 (by decide) (by decide) (by decide)]; exact p3
  · rw [s 38 (by decide) (by decide) (by decide), s 46 (by decide) (by decide) (by decide), s 34 (by decide) (by decide) (by decide), s 35 (by decide) (by decide) (by decide)]; exact ti
  · rw [s 15 (by decide) (by decide) (by decide), s 40 (by decide) (by decide) (by decide), s 31 (by decide) (by decide) (by decide), s9 23 (by decide)]; exact no
  · rw [s 16 (by decide) (by decide) (by decide), s 40 (by decide) (by decide) (by decide), s 32 (by decide) (by decide) (by decide), s9 25 (by decide)]; exact nu
end ZO6
