set_option maxRecDepth 3000 in
set_option maxHeartbeats 400000 in
theorem zC1_s {n : Nat} {σ : zR} {s : Nat} (h2 : ¬ s = 42) (h4 : ¬ s = 44) (h7 : ¬ s = 37) : ∀ j, zC1 n σ j s = σ s
  | 0 => rfl
  | j + 1 => by
    by_cases h : zC1 n σ j 37 j 6 = 0 ∧ zBN (zC1 n σ j) n j
    · rw [zC1_t h, ztb_45 h2 h4 h7, zC1_s h2 h4 h7 j]
    · rw [zC1_f h, zC1_s h2 h4 h7 j]
set_option maxRecDepth 3000 in
set_option maxHeartbeats 400000 in
theorem zRn_s {n : Nat} {σ : zR} {s : Nat} (h2 : ¬ s = 42) (h4 : ¬ s = 44) (h7 : ¬ s = 37) : ∀ r, zRn n σ r s = σ s
  | 0 => rfl
  | r + 1 => by rw [zRn, zC1_s h2 h4 h7, zRn_s h2 h4 h7 r]
set_option maxRecDepth 3000 in
set_option maxHeartbeats 400000 in
theorem zcB_c {P Q : Nat → Nat → Int32} : ∀ n, (∀ p, p < n → P p 6 = Q p 6) → zcB P n = zcB Q n
  | 0, _ => rfl
  | n + 1, h => by rw [zcB, zcB, zcB_c n (fun p hp => h p (by omega)), h n (by omega)]
section ZB1
variable {G : zG} {σ σ0 : zR}
set_option maxRecDepth 3000 in
set_option maxHeartbeats 400000 in
theorem b_run {d : Nat} (hσ : σ = zw σ0 8 0 11 (σ0 8 0 11 + 1)) (hn : G.2.2.1 ≤ 10) (hc : G.2.2.2.1 ≤ 60) (hN : ∀ q, q < G.2.2.1 → σ 37 q 0 = nI q) (hM : ∀ c, c < G.2.2.2.1 → σ 45 c 0 = nI c) (hO : ∀ c, c < G.2.2.2.1 → ∃ p, p < G.2.2.1 ∧ σ 45 c 1 = nI p)
    (hB : ∀ r, (zPl (zRC (zRn G.2.2.1 (zBC G.2.2.2.1 σ G.2.2.1) r) G.2.2.2.1 37) (zRC (zRn G.2.2.1 (zBC G.2.2.2.1 σ G.2.2.1) r) G.2.2.2.1 45) (σ 8 0 11) G.2.2.2.1 G.2.2.1).length ≤ 60) :
    ∃ r, r ≤ 10 ∧ (r = 10 ∨ ¬ zCf G.2.2.1 (zRn G.2.2.1 (zBC G.2.2.2.1 σ G.2.2.1) r) G.2.2.1) ∧ ∀ o, zm_Calls (d + 7) 21 [.inr (.inr (some (8, 0)))] (zh G σ0) o ↔ ∃ τ, τ = zRC (zRn G.2.2.1 (zBC G.2.2.2.1 σ G.2.2.1) r) G.2.2.2.1 ∧ o = (some (.inl (zcB (τ 37) G.2.2.1)), zh G (zTt (zNt τ (zPl (τ 37) (τ 45) (σ 8 0 11) G.2.2.2.1 G.2.2.1)) (zTl (τ 37) G.2.2.1) G.2.2.1)) := by
  have n1 : ∀ q, q < G.2.2.1 → zBC G.2.2.2.1 σ G.2.2.1 37 q 0 = nI q := fun q hq => by rw [zBC_n]; exact hN q hq
  obtain ⟨r, r1, r2, r3⟩ := c55 (G := G) (σ := zBC G.2.2.2.1 σ G.2.2.1) (d := d) hn n1
  refine ⟨r, r1, r2, fun o => ?_⟩
  have bc := fun o => c54 (G := G) (σ := σ) (d := d + 2) (o := o) hn hc hN
  have hBr := hB r
  have s45 : zRn G.2.2.1 (zBC G.2.2.2.1 σ G.2.2.1) r 45 = σ 45 := by rw [zRn_s (by decide) (by decide) (by decide), zBC_45 (by decide) (by decide) (by decide) (by decide)]
  have s8 : zRn G.2.2.1 (zBC G.2.2.2.1 σ G.2.2.1) r 8 = σ 8 := by rw [zRn_s (by decide) (by decide) (by decide), zBC_45 (by decide) (by decide) (by decide) (by decide)]
  have n2 : ∀ q, q < G.2.2.1 → zRn G.2.2.1 (zBC G.2.2.2.1 σ G.2.2.1) r 37 q 0 = nI q := fun q hq => by rw [zRn_n]; exact n1 q hq
  generalize zRn G.2.2.1 (zBC G.2.2.2.1 σ G.2.2.1) r = ρ at *
  generalize zBC G.2.2.2.1 σ G.2.2.1 = β at *
  have rc := fun o => c56 (G := G) (σ := ρ) (d := d + 4) (o := o) hn hc (fun c h => by rw [s45]; exact hO c h)
  have n3 : ∀ q, q < G.2.2.1 → zRC ρ G.2.2.2.1 37 q 0 = nI q := fun q hq => by rw [zRC_s (by decide)]; exact n2 q hq
  have m3 : ∀ c, c < G.2.2.2.1 → zRC ρ G.2.2.2.1 45 c 0 = nI c := fun c h => by rw [zRC_f (by decide), s45]; exact hM c h
  have u3 : zRC ρ G.2.2.2.1 8 0 11 = σ 8 0 11 := by rw [zRC_s (by decide), s8]
  generalize zRC ρ G.2.2.2.1 = τ at *
  have wn := fun o => c57 (G := G) (σ := τ) (d := d + 3) (o := o) hn hc u3 n3 m3 hBr
  have n4 : ∀ q, q < G.2.2.1 → zNt τ (zPl (τ 37) (τ 45) (σ 8 0 11) G.2.2.2.1 G.2.2.1) 37 q 0 = nI q := fun q hq => by rw [zNt_s (by decide) (by decide)]; exact n3 q hq
  have e37 : zNt τ (zPl (τ 37) (τ 45) (σ 8 0 11) G.2.2.2.1 G.2.2.1) 37 = τ 37 := zNt_s (by decide) (by decide)
  obtain ⟨l, hl⟩ : ∃ l, l = zPl (τ 37) (τ 45) (σ 8 0 11) G.2.2.2.1 G.2.2.1 := ⟨_, rfl⟩
  rw [← hl] at n4 e37
  simp only [← hl] at wn
  have tb := fun o => c58 (G := G) (σ := zNt τ l) (d := d + 4) (o := o) hn n4
  rw [e37] at tb
  have cb := fun o => c59 (G := G) (σ := zTt (zNt τ l) (zTl (τ 37) G.2.2.1) G.2.2.1) (d := d + 5) (o := o) hn
  rw [zcB_c (Q := τ 37) G.2.2.1 (fun p _ => by rw [zTt_37 (Or.inl (by decide)), e37])] at cb
  subst hσ
  simp only [i21, x21_0, x21_1, x21_2, x21_5, x21_6, x21_7, x21_10, x21_11, x21_14, x21_15, x21_18, x21_19, x21_22, x21_23, x21_26, x21_27, x21_30, x21_31, x21_34, zf8_0, zf8_1, zf8_2, zf8_3, zf8_4, zf8_5, zf8_6, zf8_7, zf8_8, zf8_9, zf8_10, zf8_11, zq8_0, zq8_1, zq8_2, zq8_3, zq8_4, zq8_5, zq8_6, zq8_7, zq8_8, zq8_9, zq8_10, zq8_11, zp8_1, zp8_3, zp8_5, zp8_10, zp8_11, zo8, true_and, and_self, zf_i, z_8, Nat.reduceLeDiff, bc, r3, rc, wn, tb, cb, z_ex, Option.toList_none, Option.toList_some, List.nil_append, List.cons_append, exists_eq_left, ← hl]
end ZB1
