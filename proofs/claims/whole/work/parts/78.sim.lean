section ZO4
variable {X : Nat × (Nat → Int32)} {k : Nat} {G : zG} {σ : zR}
set_option maxRecDepth 3000 in
set_option maxHeartbeats 400000 in
theorem zls_ok {b : Nat → Int32} : ∀ m, (∀ k, k < m → zok b k) → ∀ x, x ∈ zls b m → ¬ x < 32 ∧ ¬ 126 < x
  | 0, _, x, hx => absurd hx (by rw [zls]; exact List.not_mem_nil)
  | m + 1, h, x, hx => by
    rw [zls] at hx
    rcases List.mem_append.mp hx with hx | hx
    · split at hx
      · exact absurd hx List.not_mem_nil
      · rename_i h0
        rw [List.mem_singleton] at hx
        rw [hx]
        rcases h m (by omega) with h1 | h1
        · exact absurd h1 h0
        · exact h1
    · exact zls_ok m (fun k hk => h k (by omega)) x hx
set_option maxRecDepth 3000 in
set_option maxHeartbeats 400000 in
theorem sim_text (h : zInv X k G σ) (w : Int64) : zSim X k G σ 11 12 [.inr (.inl w)] := by
  have h9 := inv_9 h
  obtain ⟨hx, r, ha, p0, p1, p2, p3, c0, cz, ti, ⟨n, hn, t1, t2, t3⟩, no, nu⟩ := h
  by_cases c : (∀ k, k < 8 → zok (zby w) k) ∧ n + (zls (zby w) 8).length ≤ 60
  · have hl := zls_ok 8 c.1
    refine ⟨1, G, _, _, fun o => b_text_1 (d := 7) t1 c.1 c.2, fun o => m_text_1 (d := 9) (n := n) ?_ c.1 c.2, ?_⟩
    · rw [zTG_s (by decide) (by decide)]; exact t2
    · generalize zls (zby w) 8 = l at *
      have s : ∀ s, ¬ s = 9 → ¬ s = 13 → ¬ s = 39 → ¬ s = 23 → zTG 9 10 23 (zw (zTG 13 1 39 σ n l) 9 0 0 0) n l s = σ s := fun s a b c e => by
        rw [zTG_s a e, zw_s a, zTG_s b c]
      have s9 : ∀ f, ¬ f = 0 → ¬ f = 10 → zTG 9 10 23 (zw (zTG 13 1 39 σ n l) 9 0 0 0) n l 9 0 f = σ 9 0 f := fun f a b => by
        rw [zTG_a (by decide) b, w_o _ _ _ _ _ (fun x => a x.2.2), zTG_s (by decide) (by decide)]
      have q1 : zTG 9 10 23 (zw (zTG 13 1 39 σ n l) 9 0 0 0) n l 9 0 10 = nI (n + l.length) := zTG_len
      have q2 : zTG 9 10 23 (zw (zTG 13 1 39 σ n l) 9 0 0 0) n l 13 0 1 = nI (n + l.length) := by
        rw [zTG_s (by decide) (by decide), zw_s (by decide)]; exact zTG_len
      have q3 : ∀ i, zTG 9 10 23 (zw (zTG 13 1 39 σ n l) 9 0 0 0) n l 39 0 i = if n ≤ i ∧ i < n + l.length then l.getD (i - n) 0 else σ 39 0 i := fun i => by
        rw [zTG_s (by decide) (by decide), zw_s (by decide)]
        unfold zTG
        rw [if_neg (by simp)]
        simp only [true_and]
      have q4 : ∀ i, zTG 9 10 23 (zw (zTG 13 1 39 σ n l) 9 0 0 0) n l 23 0 i = if n ≤ i ∧ i < n + l.length then l.getD (i - n) 0 else σ 23 0 i := fun i => by
        unfold zTG
        rw [if_neg (by simp)]
        simp only [true_and]
        rfl
      generalize zTG 9 10 23 (zw (zTG 13 1 39 σ n l) 9 0 0 0) n l = σ2 at *
      refine ⟨ix_up hx, r, ?_, ?_, ?_, ?_, ?_, ?_, ?_, ?_, ⟨n + l.length, c.2, q2, q1, fun i hi => ?_⟩, ?_, ?_⟩
      · rw [s 8 (by decide) (by decide) (by decide) (by decide), s9 1 (by decide) (by decide), s9 11 (by decide) (by decide), s9 28 (by decide) (by decide), s9 8 (by decide) (by decide), s9 21 (by decide) (by decide)]
        exact ia_up ha
      · rw [s 37 (by decide) (by decide) (by decide) (by decide)]; exact p0
      · rw [s 37 (by decide) (by decide) (by decide) (by decide), s 42 (by decide) (by decide) (by decide) (by decide), s 44 (by decide) (by decide) (by decide) (by decide), s 17 (by decide) (by decide) (by decide) (by decide), s 18 (by decide) (by decide) (by decide) (by decide), s 19 (by decide) (by decide) (by decide) (by decide), s 20 (by decide) (by decide) (by decide) (by decide), s 21 (by decide) (by decide) (by decide) (by decide), s 30 (by decide) (by decide) (by decide) (by decide)]; exact p1
      · rw [s 41 (by decide) (by decide) (by decide) (by decide), s 22 (by decide) (by decide) (by decide) (by decide)]; exact p2
      · rw [s 17 (by decide) (by decide) (by decide) (by decide), s 20 (by decide) (by decide) (by decide) (by decide), s 21 (by decide) (by decide) (by decide) (by decide), s 22 (by decide) (by decide) (by decide) (by decide), s 30 (by decide) (by decide) (by decide) (by decide)]; exact p3
      · rw [s 45 (by decide) (by decide) (by decide) (by decide), s 24 (by decide) (by decide) (by decide) (by decide), s 25 (by decide) (by decide) (by decide) (by decide), s 26 (by decide) (by decide) (by decide) (by decide), s 27 (by decide) (by decide) (by decide) (by decide), s 28 (by decide) (by decide) (by decide) (by decide), s 29 (by decide) (by decide) (by decide) (by decide)]; exact c0
      · rw [s 28 (by decide) (by decide) (by decide) (by decide), s 29 (by decide) (by decide) (by decide) (by decide)]; exact cz
      · rw [s 38 (by decide) (by decide) (by decide) (by decide), s 46 (by decide) (by decide) (by decide) (by decide), s 34 (by decide) (by decide) (by decide) (by decide), s 35 (by decide) (by decide) (by decide) (by decide)]; exact ti
      · rw [q3 i, q4 i]
        by_cases ci : n ≤ i ∧ i < n + l.length
        · rw [if_pos ci, if_pos ci]
          refine ⟨rfl, hl _ ?_⟩
          have : i - n < l.length := by omega
          rw [List.getD_eq_getElem?_getD, List.getElem?_eq_getElem this]
          exact List.getElem_mem this
        · rw [if_neg ci, if_neg ci]
          exact t3 i (by omega)
      · rw [s 15 (by decide) (by decide) (by decide) (by decide), s 40 (by decide) (by decide) (by decide) (by decide), s 31 (by decide) (by decide) (by decide) (by decide), s9 23 (by decide) (by decide)]; exact no
      · rw [s 16 (by decide) (by decide) (by decide) (by decide), s 40 (by decide) (by decide) (by decide) (by decide), s 32 (by decide) (by decide) (by decide) (by decide), s9 25 (by decide) (by decide)]; exact nu
  · have c2 : ¬ (∀ k, k < 8 → zok (zby w) k) ∨ 60 < n + (zls (zby w) 8).length := by
      by_cases c3 : ∀ k, k < 8 → zok (zby w) k
      · right
        have : ¬ n + (zls (zby w) 8).length ≤ 60 := fun y => c ⟨c3, y⟩
        omega
      · exact Or.inl c3
    exact ⟨0, G, σ, _, fun o => b_text_0 (d := 7) t1 hn c2, fun o => m_text_0 (d := 9) t2 hn c2, h9⟩
set_option maxRecDepth 3000 in
set_option maxHeartbeats 400000 in
theorem z_99 {x : Int32} (h : ¬ x < 0 ∧ ¬ 99 < x) : ∃ j, j ≤ 99 ∧ x = nI j := by
  obtain ⟨j, hj, rfl⟩ := nI_of h.1
  refine ⟨j, ?_, rfl⟩
  have := h.2
  rw [show (99 : Int32) = nI 99 from rfl, nI_ltI (by omega) hj] at this
  omega
set_option maxRecDepth 3000 in
set_option maxHeartbeats 400000 in
theorem sim_pack (h : zInv X k G σ) (x y z : Int32) : zSim X k G σ 3 4 [.inl x, .inl y, .inl z] := by
  have h9 := inv_9 h
  obtain ⟨hx, r, ⟨np, nc, nt, hr, b1, m1, ha⟩, p0, p1, p2, p3, c0, cz, h⟩ := h
  by_cases c : G.2.2.1 = 10 ∨ ¬ (¬ x < 0 ∧ ¬ 99 < x) ∨ ¬ (¬ y < 0 ∧ ¬ 99 < y) ∨ ¬ (¬ z < 0 ∧ ¬ 99 < z)
  · exact ⟨_, G, σ, _, fun o => b_pack_0 (d := 8) np b1 c, fun o => m_pack_0 (d := 9) np m1 c, h9⟩
  · have n10 : G.2.2.1 < 10 := by
      have : ¬ G.2.2.1 = 10 := fun q => c (Or.inl q)
      omega
    have cx : ¬ x < 0 ∧ ¬ 99 < x := Classical.not_not.mp (fun q => c (Or.inr (Or.inl q)))
    have cy : ¬ y < 0 ∧ ¬ 99 < y := Classical.not_not.mp (fun q => c (Or.inr (Or.inr (Or.inl q))))
    have c3 : ¬ z < 0 ∧ ¬ 99 < z := Classical.not_not.mp (fun q => c (Or.inr (Or.inr (Or.inr q))))
    have so : ∀ s i, ¬ (s = 8 ∧ i = 0) → ¬ ((s = 37 ∨ s = 41 ∨ s = 42 ∨ s = 43 ∨ s = 44) ∧ i = G.2.2.1) → zSp σ x y z G.2.2.1 s i = σ s i := fun s i a b => zSp_off a b
    refine ⟨_, zGp G, _, _, fun o => b_pack_1 (d := 8) n10 b1 cx cy c3, fun o => m_pack_1 (d := 9) (m := G.2.2.1) n10 ?_ cx cy c3, ?_⟩
    · rw [so _ _ (by decide) (by simp)]; exact m1
    · have e1 : zSp σ x y z G.2.2.1 8 0 1 = nI (G.2.2.1 + 1) := if_pos ⟨rfl, rfl, rfl⟩
      have e8 : ∀ f, ¬ f = 1 → zSp σ x y z G.2.2.1 8 0 f = σ 8 0 f := fun f hf => by
        unfold zSp
        rw [if_neg (by simp [hf]), if_neg (by simp), if_neg (by simp), if_neg (by simp)]
      have e37 : ∀ f, zSp σ x y z G.2.2.1 37 G.2.2.1 f = if f = 0 then nI G.2.2.1 else 0 := fun f => by
        unfold zSp
        rw [if_neg (by simp), if_pos ⟨rfl, rfl⟩]
      have e41 : ∀ f, f < 10 → zSp σ x y z G.2.2.1 41 G.2.2.1 f = 3 := fun f hf => by
        unfold zSp
        rw [if_neg (by simp), if_neg (by simp), if_pos ⟨rfl, rfl⟩]
        exact if_pos hf
      have e42 : ∀ f, zSp σ x y z G.2.2.1 42 G.2.2.1 f = if f = 0 then x else if f = 1 then y else if f = 2 then z else 0 := fun f => by
        unfold zSp
        rw [if_neg (by simp), if_neg (by simp), if_neg (by simp), if_pos (by simp)]
      have es : ∀ s, ¬ s = 8 → ¬ (s = 37 ∨ s = 41 ∨ s = 42 ∨ s = 43 ∨ s = 44) → zSp σ x y z G.2.2.1 s = σ s := fun s a b => by
        funext i
        exact so s i (fun q => a q.1) (fun q => b q.1)
      generalize zSp σ x y z G.2.2.1 = σ1 at *
      have d17 : ∀ i, ¬ i = 4 * G.2.2.1 → ¬ i = 4 * G.2.2.1 + 1 → ¬ i = 4 * G.2.2.1 + 2 → zPm σ1 x y z G.2.2.1 17 0 i = σ 17 0 i := fun i a b c => by
        unfold zPm
        rw [zw_s (by decide), w_o _ _ _ _ _ (fun q => c q.2.2), w_o _ _ _ _ _ (fun q => b q.2.2), w_o _ _ _ _ _ (fun q => a q.2.2), zw_s (by decide), es 17 (by decide) (by decide)]
      have d0 : zPm σ1 x y z G.2.2.1 17 0 (4 * G.2.2.1) = x := by
        unfold zPm
        rw [zw_s (by decide), w_o _ _ _ _ _ (fun q => by have := q.2.2; omega), w_o _ _ _ _ _ (fun q => by have := q.2.2; omega), w_i]
      have d1 : zPm σ1 x y z G.2.2.1 17 0 (4 * G.2.2.1 + 1) = y := by
        unfold zPm
        rw [zw_s (by decide), w_o _ _ _ _ _ (fun q => by have := q.2.2; omega), w_i]
      have d2 : zPm σ1 x y z G.2.2.1 17 0 (4 * G.2.2.1 + 2) = z := by
        unfold zPm
        rw [zw_s (by decide), w_i]
      have d9 : ∀ f, ¬ f = 0 → ¬ f = 1 → zPm σ1 x y z G.2.2.1 9 0 f = σ 9 0 f := fun f a b => by
        unfold zPm
        rw [w_o _ _ _ _ _ (fun q => b q.2.2), zw_s (by decide), zw_s (by decide), zw_s (by decide), w_o _ _ _ _ _ (fun q => a q.2.2), es 9 (by decide) (by decide)]
      have d91 : zPm σ1 x y z G.2.2.1 9 0 1 = nI (G.2.2.1 + 1) := by
        unfold zPm
        rw [w_i]
      have ds : ∀ s, ¬ s = 9 → ¬ s = 17 → zPm σ1 x y z G.2.2.1 s = σ1 s := fun s a b => by
        unfold zPm
        rw [zw_s a, zw_s b, zw_s b, zw_s b, zw_s a]
      have f17 : ∀ q, q < G.2.2.1 → ∀ k, k < 4 → zPm σ1 x y z G.2.2.1 17 0 (4 * q + k) = σ 17 0 (4 * q + k) := fun q hq k hk => d17 _ (by omega) (by omega) (by omega)
      generalize zPm σ1 x y z G.2.2.1 = σ2 at *
      have z3 := p3 G.2.2.1 (Nat.le_refl _) n10
      obtain ⟨a1, a2, a3, a4, ha⟩ := ha
      refine ⟨⟨hx.1, ?_, ?_⟩, r, ⟨?_, nc, nt, by omega, ?_, d91, ?_, ?_, ?_, ?_, ?_⟩, ?_, ?_, ?_, ?_, ?_, ?_, ?_⟩
      · show G.2.1.1 + 5 ≤ _
        omega
      · show G.2.1.2 + 31 ≤ _
        omega
      · show G.2.2.1 + 1 ≤ 10
        omega
      · rw [ds 8 (by decide) (by decide), e1]; rfl
      · rw [ds 8 (by decide) (by decide), e8 3 (by decide)]; exact a1
      · rw [d9 11 (by decide) (by decide)]; exact a2
      · rw [ds 8 (by decide) (by decide), e8 5 (by decide)]; exact a3
      · rw [d9 28 (by decide) (by decide)]; exact a4
      · rw [ds 8 (by decide) (by decide), e8 10 (by decide), e8 11 (by decide), d9 8 (by decide) (by decide), d9 21 (by decide) (by decide)]; exact ha
      · intro q hq
        rw [ds 37 (by decide) (by decide)]
        by_cases e : q = G.2.2.1
        · rw [e, e37, if_pos rfl]
        · have hq : q < G.2.2.1 := by have : q < G.2.2.1 + 1 := hq; omega
          rw [so _ _ (by simp) (fun q => e q.2)]
          exact p0 q hq
      · intro q hq
        rw [ds 37 (by decide) (by decide), ds 42 (by decide) (by decide), ds 44 (by decide) (by decide), ds 18 (by decide) (by decide), ds 19 (by decide) (by decide), ds 20 (by decide) (by decide), ds 21 (by decide) (by decide), ds 30 (by decide) (by decide), es 18 (by decide) (by decide), es 19 (by decide) (by decide), es 20 (by decide) (by decide), es 21 (by decide) (by decide), es 30 (by decide) (by decide)]
        by_cases e : q = G.2.2.1
        · subst e
          rw [e37, e37, e37, z3.2.1, z3.2.2.1, z3.2.2.2.1]
          have d3 : σ2 17 0 (4 * G.2.2.1 + 3) = 0 := by rw [d17 _ (by omega) (by omega) (by omega)]; exact z3.1
          refine ⟨rfl, rfl, rfl, fun k hk => ?_, ?_, fun q => absurd d3 q⟩
          · rw [e42]
            have hk : k = 0 ∨ k = 1 ∨ k = 2 ∨ k = 3 := by omega
            rcases hk with rfl | rfl | rfl | rfl
            · exact d0.symm
            · exact d1.symm
            · exact d2.symm
            · exact d3.symm
          · obtain ⟨j, hj, e⟩ := z_99 cx
            exact ⟨j, by omega, d0.trans e⟩
        · have hq : q < G.2.2.1 := by have : q < G.2.2.1 + 1 := hq; omega
          rw [so 37 q (by simp) (fun q => e q.2), so 42 q (by simp) (fun q => e q.2), so 44 q (by simp) (fun q => e q.2)]
          have g := f17 q hq
          have g0 := g 0 (by omega)
          rw [Nat.add_zero] at g0
          rw [g0, g 3 (by omega)]
          obtain ⟨i1, i2, i3, i4, i5⟩ := p1 q hq
          exact ⟨i1, i2, i3, fun k hk => (i4 k hk).trans (g k hk).symm, i5⟩
      · intro q hq j hj
        rw [ds 41 (by decide) (by decide), ds 22 (by decide) (by decide), es 22 (by decide) (by decide)]
        by_cases e : q = G.2.2.1
        · subst e
          rw [e41 j hj]
          exact Or.inl ⟨z3.2.2.2.2 j hj, rfl⟩
        · have hq : q < G.2.2.1 := by have : q < G.2.2.1 + 1 := hq; omega
          rw [so 41 q (by simp) (fun q => e q.2)]
          exact p2 q hq j hj
      · intro q h1 h2
        have h1 : G.2.2.1 + 1 ≤ q := h1
        rw [ds 20 (by decide) (by decide), ds 21 (by decide) (by decide), ds 22 (by decide) (by decide), ds 30 (by decide) (by decide), es 20 (by decide) (by decide), es 21 (by decide) (by decide), es 22 (by decide) (by decide), es 30 (by decide) (by decide), d17 _ (by omega) (by omega) (by omega)]
        exact p3 q (by omega) h2
      · intro c hc
        rw [ds 45 (by decide) (by decide), ds 24 (by decide) (by decide), ds 25 (by decide) (by decide), ds 26 (by decide) (by decide), ds 27 (by decide) (by decide), ds 28 (by decide) (by decide), ds 29 (by decide) (by decide), es 45 (by decide) (by decide), es 24 (by decide) (by decide), es 25 (by decide) (by decide), es 26 (by decide) (by decide), es 27 (by decide) (by decide), es 28 (by decide) (by decide), es 29 (by decide) (by decide)]
        obtain ⟨i1, ⟨p, hp, ip⟩, i2⟩ := c0 c hc
        exact ⟨i1, ⟨p, Nat.lt_succ_of_lt hp, ip⟩, i2⟩
      · rw [ds 28 (by decide) (by decide), ds 29 (by decide) (by decide), es 28 (by decide) (by decide), es 29 (by decide) (by decide)]; exact cz
      · rw [ds 38 (by decide) (by decide), ds 46 (by decide) (by decide), ds 34 (by decide) (by decide), ds 35 (by decide) (by decide), ds 13 (by decide) (by decide), ds 39 (by decide) (by decide), ds 23 (by decide) (by decide), ds 15 (by decide) (by decide), ds 16 (by decide) (by decide), ds 40 (by decide) (by decide), ds 31 (by decide) (by decide), ds 32 (by decide) (by decide), es 38 (by decide) (by decide), es 46 (by decide) (by decide), es 34 (by decide) (by decide), es 35 (by decide) (by decide), es 13 (by decide) (by decide), es 39 (by decide) (by decide), es 23 (by decide) (by decide), es 15 (by decide) (by decide), es 16 (by decide) (by decide), es 40 (by decide) (by decide), es 31 (by decide) (by decide), es 32 (by decide) (by decide), d9 10 (by decide) (by decide), d9 23 (by decide) (by decide), d9 25 (by decide) (by decide)]
        exact h
end ZO4
