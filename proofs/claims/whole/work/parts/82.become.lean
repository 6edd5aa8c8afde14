section ZO8
variable {X : Nat × (Nat → Int32)} {k : Nat} {G : zG} {σ : zR}
set_option maxRecDepth 3000 in
set_option maxHeartbeats 400000 in
theorem rk_rq (p : Nat) : zrk σ p = zrq σ p (σ 30 0 p) := rfl
set_option maxRecDepth 3000 in
set_option maxHeartbeats 400000 in
theorem bm_s {p s : Nat} (h1 : ¬ s = 17) (h2 : ¬ s = 18) (h3 : ¬ s = 19) (h4 : ¬ s = 33) : zbm σ p s = σ s := by
  unfold zbm
  split
  · unfold zb2
    rw [zw_s h3, zw_s h1, zw_s h2, zw_s h1, zw_s h2, zw_s h1, zw_s h2, zw_s h1, zw_s h2, zX_s h4]
  · unfold zb1
    rw [zw_s h3, zw_s h1, zw_s h1, zw_s h1, zw_s h1, zX_s h4]
set_option maxRecDepth 3000 in
set_option maxHeartbeats 400000 in
theorem b2_17 {p i : Nat} {n v : Nat → Int32} : zb2 σ p n v 17 0 i = if i = 4 * p + 3 then n 3 else if i = 4 * p + 2 then n 2 else if i = 4 * p + 1 then n 1 else if i = 4 * p then n 0 else σ 17 0 i := by
  unfold zb2
  simp only [zw_ap, true_and, Nat.reduceEqDiff, false_and, if_false]
set_option maxRecDepth 3000 in
set_option maxHeartbeats 400000 in
theorem b2_18 {p i : Nat} {n v : Nat → Int32} : zb2 σ p n v 18 0 i = if i = 4 * p + 3 then v 3 else if i = 4 * p + 2 then v 2 else if i = 4 * p + 1 then v 1 else if i = 4 * p then v 0 else σ 18 0 i := by
  unfold zb2
  simp only [zw_ap, true_and, Nat.reduceEqDiff, false_and, if_false]
set_option maxRecDepth 3000 in
set_option maxHeartbeats 400000 in
theorem b2_19 {p : Nat} {n v : Nat → Int32} : zb2 σ p n v 19 = σ 19 := by
  unfold zb2
  rw [zw_s (by decide), zw_s (by decide), zw_s (by decide), zw_s (by decide), zw_s (by decide), zw_s (by decide), zw_s (by decide), zw_s (by decide)]
set_option maxRecDepth 3000 in
set_option maxHeartbeats 400000 in
theorem b1_17 {p i : Nat} {n : Nat → Int32} : zb1 σ p n 17 0 i = if i = 4 * p + 3 then n 3 else if i = 4 * p + 2 then n 2 else if i = 4 * p + 1 then n 1 else if i = 4 * p then n 0 else σ 17 0 i := by
  unfold zb1
  simp only [zw_ap, true_and]
set_option maxRecDepth 3000 in
set_option maxHeartbeats 400000 in
theorem b1_s {p s : Nat} {n : Nat → Int32} (h : ¬ s = 17) : zb1 σ p n s = σ s := by
  unfold zb1
  rw [zw_s h, zw_s h, zw_s h, zw_s h]
set_option maxRecDepth 3000 in
set_option maxHeartbeats 400000 in
theorem if4 {α : Type} {p q k : Nat} {n : Nat → α} {x : α} (hk : k < 4) : (if 4 * q + k = 4 * p + 3 then n 3 else if 4 * q + k = 4 * p + 2 then n 2 else if 4 * q + k = 4 * p + 1 then n 1 else if 4 * q + k = 4 * p then n 0 else x) = if q = p then n k else x := by
  by_cases e : q = p
  · subst e
    rw [if_pos rfl]
    have hk : k = 0 ∨ k = 1 ∨ k = 2 ∨ k = 3 := by omega
    rcases hk with rfl | rfl | rfl | rfl
    · rw [if_neg (by omega), if_neg (by omega), if_neg (by omega), if_pos (by omega)]
    · rw [if_neg (by omega), if_neg (by omega), if_pos rfl]
    · rw [if_neg (by omega), if_pos rfl]
    · rw [if_pos rfl]
  · rw [if_neg e, if_neg (by omega), if_neg (by omega), if_neg (by omega), if_neg (by omega)]
set_option maxRecDepth 3000 in
set_option maxHeartbeats 400000 in
theorem bm_17 {p q k : Nat} (hk : k < 4) : zbm σ p 17 0 (4 * q + k) = if q = p then zrk σ p k else σ 17 0 (4 * q + k) := by
  unfold zbm
  split
  · rw [zw_s (by decide), b2_17, if4 hk, zX_s (by decide)]
  · rw [zw_s (by decide), b1_17, if4 hk, zX_s (by decide)]
set_option maxRecDepth 3000 in
set_option maxHeartbeats 400000 in
theorem bm_18 {p q k : Nat} (hk : k < 4) : zbm σ p 18 0 (4 * q + k) = if q = p ∧ ¬ σ 20 0 p = 0 ∧ σ 17 0 (4 * p + 3) = 0 then σ 17 0 (4 * p + k) else σ 18 0 (4 * q + k) := by
  unfold zbm
  split
  · rename_i h
    rw [zw_s (by decide), b2_18, if4 (n := fun k => σ 17 0 (4 * p + k)) hk, zX_s (by decide)]
    by_cases e : q = p
    · rw [if_pos e, if_pos ⟨e, h⟩]
    · rw [if_neg e, if_neg (fun x => e x.1)]
  · rename_i h
    rw [zw_s (by decide), b1_s (by decide), zX_s (by decide), if_neg (fun x => h x.2)]
set_option maxRecDepth 3000 in
set_option maxHeartbeats 400000 in
theorem bm_19 {p q : Nat} : zbm σ p 19 0 q = if q = p then (if ¬ σ 20 0 p = 0 ∧ σ 17 0 (4 * p + 3) = 0 then σ 30 0 p else if σ 19 0 p < σ 30 0 p then σ 30 0 p else σ 19 0 p) else σ 19 0 q := by
  unfold zbm
  split
  · rename_i h
    rw [zw_ap, b2_19, zX_s (by decide), if_pos (show ¬ σ 20 0 p = 0 ∧ σ 17 0 (4 * p + 3) = 0 from h)]
    simp only [true_and]
  · rename_i h
    rw [zw_ap, b1_s (by decide), zX_s (by decide), if_neg (show ¬ (¬ σ 20 0 p = 0 ∧ σ 17 0 (4 * p + 3) = 0) from h)]
    simp only [true_and]
set_option maxRecDepth 3000 in
set_option maxHeartbeats 400000 in
theorem Qs_at : ∀ j, (∀ p, p < j → (∀ k, k < 4 → zQs σ j 17 0 (4 * p + k) = zrq σ p (σ 30 0 p) k) ∧ (∀ k, k < 4 → zQs σ j 18 0 (4 * p + k) = zY18 σ p (σ 30 0 p) k) ∧ zQs σ j 19 0 p = zY19 σ p (σ 30 0 p) ∧ zQs σ j 21 0 p = if σ 30 0 p = 0 then σ 21 0 p else 0) ∧ (∀ p, j ≤ p → (∀ k, k < 4 → zQs σ j 17 0 (4 * p + k) = σ 17 0 (4 * p + k)) ∧ (∀ k, k < 4 → zQs σ j 18 0 (4 * p + k) = σ 18 0 (4 * p + k)) ∧ zQs σ j 19 0 p = σ 19 0 p ∧ zQs σ j 21 0 p = σ 21 0 p)
  | 0 => ⟨fun p hp => absurd hp (Nat.not_lt_zero p), fun _ _ => ⟨fun _ _ => rfl, fun _ _ => rfl, rfl, rfl⟩⟩
  | j + 1 => by
    obtain ⟨ih1, ih2⟩ := Qs_at j
    obtain ⟨j17, j18, j19, j21⟩ := ih2 j (Nat.le_refl j)
    by_cases w0 : σ 30 0 j = 0
    · have e : zQs σ (j + 1) = zQs σ j := by rw [zQs, if_pos w0]
      rw [e]
      refine ⟨fun p hp => ?_, fun p hp => ih2 p (by omega)⟩
      by_cases c : p = j
      · subst c
        rw [w0]
        refine ⟨fun k hk => ?_, fun k hk => ?_, ?_, ?_⟩
        · rw [zrq_0 hk]; exact j17 k hk
        · unfold zY18
          rw [if_neg (fun x => x.1 rfl)]; exact j18 k hk
        · unfold zY19
          rw [if_pos rfl]; exact j19
        · rw [if_pos rfl]; exact j21
      · exact ih1 p (by omega)
    · have e : zQs σ (j + 1) = zbm (zw (zQs σ j) 21 0 j 0) j := by rw [zQs, if_neg w0]
      rw [e]
      have a20 : zw (zQs σ j) 21 0 j 0 20 = σ 20 := by rw [zw_s (by decide), zQs_s (by decide) (by decide) (by decide) (by decide) (by decide)]
      have a30 : zw (zQs σ j) 21 0 j 0 30 = σ 30 := by rw [zw_s (by decide), zQs_s (by decide) (by decide) (by decide) (by decide) (by decide)]
      have a17 : zw (zQs σ j) 21 0 j 0 17 = zQs σ j 17 := zw_s (by decide)
      have a18 : zw (zQs σ j) 21 0 j 0 18 = zQs σ j 18 := zw_s (by decide)
      have a19 : zw (zQs σ j) 21 0 j 0 19 = zQs σ j 19 := zw_s (by decide)
      have a21 : ∀ p, zw (zQs σ j) 21 0 j 0 21 0 p = if p = j then 0 else zQs σ j 21 0 p := fun p => by
        rw [zw_ap]
        simp only [true_and]
      generalize zw (zQs σ j) 21 0 j 0 = α at *
      have k0 := j17 0 (by omega)
      have k1 := j17 1 (by omega)
      have k2 := j17 2 (by omega)
      have k3 := j17 3 (by omega)
      have l0 := j18 0 (by omega)
      have l1 := j18 1 (by omega)
      have l2 := j18 2 (by omega)
      rw [Nat.add_zero] at k0 l0
      have rk : zrk α j = zrq σ j (σ 30 0 j) := by
        rw [rk_rq, a30]
        unfold zrq
        rw [a17, a18, a19, a20, k0, k1, k2, k3, l0, l1, l2, j19]
      have b21 : zbm α j 21 = α 21 := bm_s (by decide) (by decide) (by decide) (by decide)
      refine ⟨fun p hp => ?_, fun p hp => ?_⟩
      · rw [b21, bm_19]
        by_cases c : p = j
        · subst c
          refine ⟨fun k hk => ?_, fun k hk => ?_, ?_, ?_⟩
          · rw [bm_17 hk, if_pos rfl, rk]
          · rw [bm_18 hk, a20, a17, k3, j17 k hk, a18, j18 k hk]
            unfold zY18
            simp only [w0, not_false_eq_true, true_and]
          · rw [if_pos rfl, a20, a17, k3, a30, a19, j19]
            unfold zY19
            rw [if_neg w0]
          · rw [a21, if_pos rfl, if_neg w0]
        · obtain ⟨i1, i2, i3, i4⟩ := ih1 p (by omega)
          refine ⟨fun k hk => ?_, fun k hk => ?_, ?_, ?_⟩
          · rw [bm_17 hk, if_neg c, a17]; exact i1 k hk
          · rw [bm_18 hk, if_neg (fun x => c x.1), a18]; exact i2 k hk
          · rw [if_neg c, a19]; exact i3
          · rw [a21, if_neg c]; exact i4
      · obtain ⟨i1, i2, i3, i4⟩ := ih2 p (by omega)
        have c : ¬ p = j := by omega
        rw [b21, bm_19]
        refine ⟨fun k hk => ?_, fun k hk => ?_, ?_, ?_⟩
        · rw [bm_17 hk, if_neg c, a17]; exact i1 k hk
        · rw [bm_18 hk, if_neg (fun x => c x.1), a18]; exact i2 k hk
        · rw [if_neg c, a19]; exact i3
        · rw [a21, if_neg c]; exact i4
set_option maxRecDepth 3000 in
set_option maxHeartbeats 400000 in
theorem gp_F2 {n m r : Nat} (hn : n ≤ 10) (hr : r < 2147483648) (c0 : zC0 n m r (σ 45) (σ 24 0) (σ 25 0) (σ 26 0) (σ 27 0) (σ 28 0) (σ 29 0)) {p : Nat} (hp : p < 10) : ∀ c, c ≤ m → zgp (σ 45) (nI p) c = zF2 σ c p
  | 0, _ => rfl
  | c + 1, hc => by
    have ih := gp_F2 hn hr c0 hp c (by omega)
    obtain ⟨-, ⟨q, hq, e1⟩, e2, -, -, -, e4, -, e5, e6, u, hu, eu⟩ := c0 c (by omega)
    have z := z_u0 eu (by omega)
    rw [zgp, zF2, e4, e5, e6, e2, e1, ih, z_cl (by omega)]
    have hpq : nI q = nI p ↔ q = p := nI_eq (by omega) (by omega)
    simp only [hpq, z]
    by_cases c1 : σ 29 0 c = 0 ∧ σ 28 0 c = 0
    · by_cases c2 : q = p
      · subst c2
        rw [if_pos ⟨rfl, c1⟩]
        by_cases c3 : zF2 σ c q < σ 26 0 c
        · rw [if_pos c3, if_pos ⟨c1, c3⟩]
          unfold upd
          rw [if_pos rfl]
        · rw [if_neg c3, if_neg (fun x => c3 x.2)]
      · rw [if_neg (fun x => c2 x.1)]
        split
        · unfold upd
          rw [if_neg (fun x => c2 x.symm)]
        · rfl
    · rw [if_neg (fun x => c1 x.2), if_neg (fun x => c1 x.1)]
set_option maxRecDepth 3000 in
set_option maxHeartbeats 400000 in
theorem F2_pos {n m r : Nat} (c0 : zC0 n m r (σ 45) (σ 24 0) (σ 25 0) (σ 26 0) (σ 27 0) (σ 28 0) (σ 29 0)) : ∀ c, c ≤ m → ∀ p, ¬ zF2 σ c p < 0
  | 0, _, _ => by show ¬ (0 : Int32) < 0; decide
  | c + 1, hc, p => by
    have ih := F2_pos c0 c (by omega)
    obtain ⟨-, -, -, -, -, -, -, ⟨w, hw, ew⟩, -⟩ := c0 c (by omega)
    rw [zF2]
    split
    · unfold upd
      split
      · rw [ew]; exact nI_pos (by omega)
      · exact ih p
    · exact ih p
set_option maxRecDepth 3000 in
set_option maxHeartbeats 400000 in
theorem rq_0 {p r : Nat} {w : Int32} (h : ∃ m, m ≤ 99 + r ∧ σ 17 0 (4 * p) = nI m) (h8 : ¬ σ 17 0 (4 * p + 3) = 0 → ∃ m, m ≤ 99 + r ∧ σ 18 0 (4 * p) = nI m) : ∃ m, m ≤ 99 + (r + 1) ∧ zrq σ p w 0 = nI m := by
  have z : ∀ (a b c w e : Int32), (∃ m, m ≤ 99 + r ∧ a = nI m) → ∃ m, m ≤ 99 + (r + 1) ∧ zrz a b c w e 0 = nI m := fun a b c w e h => by
    obtain ⟨m, hm, rfl⟩ := h
    show ∃ k, k ≤ 99 + (r + 1) ∧ (if w = 3 ∧ 0 < nI m then nI m + 1 else nI m) = nI k
    split
    · exact ⟨m + 1, by omega, nI_1 m⟩
    · exact ⟨m, by omega, rfl⟩
  have x : ∀ (a b c e : Int32), (∃ m, m ≤ 99 + r ∧ a = nI m) → ∃ m, m ≤ 99 + (r + 1) ∧ zx4 a b c e 0 = nI m := fun a b c e h => by
    obtain ⟨m, hm, rfl⟩ := h
    exact ⟨m, by omega, rfl⟩
  unfold zrq
  split
  · exact x _ _ _ _ h
  · split
    · exact z _ _ _ _ _ h
    · rename_i h3
      split
      · exact z _ _ _ _ _ (h8 h3)
      · split
        · exact z _ _ _ _ _ (h8 h3)
        · exact x _ _ _ _ h
end ZO8
