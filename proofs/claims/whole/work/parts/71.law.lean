set_option maxRecDepth 3000 in
set_option maxHeartbeats 400000 in
theorem zk_1 {L : Nat} {xs : Nat → Int32} {s i : Nat} (h : 9 ≤ s) : zm_get (zm_new (zs_h0 L xs) 8 zB0 12) (s, i) = none := by
  rw [zr_nn (zr_k (show ¬ s = 8 by omega))]
  exact zs_g8 (by omega)
set_option maxRecDepth 3000 in
set_option maxHeartbeats 400000 in
theorem zk_2 {L : Nat} {xs : Nat → Int32} {s i : Nat} (h : 9 ≤ s) (h10 : s = 9 ∨ (17 ≤ s ∧ s ≤ 36)) : zm_get (zHB (zm_new (zs_h0 L xs) 8 zB0 12)) (s, i) = none := by
  have e : ∀ k, k = 8 ∨ (10 ≤ k ∧ k ≤ 16) ∨ 39 ≤ k ∧ k ≤ 40 → (s = k) = False := fun k hk => eq_false (by omega)
  unfold zHB
  simp only [zm_get_set, zm_get_new, Prod.mk.injEq, e 8 (by decide), e 10 (by decide), e 11 (by decide), e 12 (by decide), e 13 (by decide), e 14 (by decide), e 15 (by decide), e 16 (by decide), e 39 (by decide), e 40 (by decide), false_and, if_false]
  exact zs_g8 (by omega)
set_option maxRecDepth 3000 in
set_option maxHeartbeats 400000 in
theorem law_in {d L : Nat} {xs : Nat → Int32} {o : zmO} : zm_Calls (d + 3) 0 [.inr (.inr (some (0, 0)))] (zs_h0 L xs) o ↔ zm_E (zm_Calls (d + 2)) 0 18 [some (.inr (.inr (some (0, 0)))), some (.inr (.inr (some (8, 0)))), some (.inr (.inr (some (9, 0)))), some (.inl 0)] [] (zh (zG0 L xs) zS0) o := by
  have hb := fun o => c1 (d := d) (h := zm_new (zs_h0 L xs) 8 zB0 12) (o := o) zr_ng rfl (zk_1 (by decide)) rfl (zk_1 (by decide)) rfl (zk_1 (by decide)) rfl (zk_1 (by decide)) rfl (zk_1 (by decide)) rfl (zk_1 (by decide)) rfl (zk_1 (by decide)) rfl (zk_1 (by decide)) rfl (zk_1 (by decide)) (zk_1 (by decide))
  have n9 : (zHB (zm_new (zs_h0 L xs) 8 zB0 12)).2.1 9 = 0 := rfl
  have hm := fun o => c2 (d := d + 1) (h := zm_new (zHB (zm_new (zs_h0 L xs) 8 zB0 12)) 9 zM0 32) (o := o) zr_ng rfl (by rw [zr_nn (zr_k (show ¬ 17 = 9 by decide))]; exact zk_2 (by decide) (by decide)) rfl (by rw [zr_nn (zr_k (show ¬ 18 = 9 by decide))]; exact zk_2 (by decide) (by decide)) rfl (by rw [zr_nn (zr_k (show ¬ 19 = 9 by decide))]; exact zk_2 (by decide) (by decide)) rfl (by rw [zr_nn (zr_k (show ¬ 20 = 9 by decide))]; exact zk_2 (by decide) (by decide)) rfl (by rw [zr_nn (zr_k (show ¬ 21 = 9 by decide))]; exact zk_2 (by decide) (by decide)) rfl (by rw [zr_nn (zr_k (show ¬ 22 = 9 by decide))]; exact zk_2 (by decide) (by decide)) rfl (by rw [zr_nn (zr_k (show ¬ 23 = 9 by decide))]; exact zk_2 (by decide) (by decide)) rfl (by rw [zr_nn (zr_k (show ¬ 24 = 9 by decide))]; exact zk_2 (by decide) (by decide)) rfl (by rw [zr_nn (zr_k (show ¬ 25 = 9 by decide))]; exact zk_2 (by decide) (by decide)) rfl (by rw [zr_nn (zr_k (show ¬ 26 = 9 by decide))]; exact zk_2 (by decide) (by decide)) rfl (by rw [zr_nn (zr_k (show ¬ 27 = 9 by decide))]; exact zk_2 (by decide) (by decide)) rfl (by rw [zr_nn (zr_k (show ¬ 28 = 9 by decide))]; exact zk_2 (by decide) (by decide)) rfl (by rw [zr_nn (zr_k (show ¬ 29 = 9 by decide))]; exact zk_2 (by decide) (by decide)) rfl (by rw [zr_nn (zr_k (show ¬ 30 = 9 by decide))]; exact zk_2 (by decide) (by decide)) rfl (by rw [zr_nn (zr_k (show ¬ 31 = 9 by decide))]; exact zk_2 (by decide) (by decide)) rfl (by rw [zr_nn (zr_k (show ¬ 32 = 9 by decide))]; exact zk_2 (by decide) (by decide)) rfl (by rw [zr_nn (zr_k (show ¬ 33 = 9 by decide))]; exact zk_2 (by decide) (by decide)) rfl (by rw [zr_nn (zr_k (show ¬ 34 = 9 by decide))]; exact zk_2 (by decide) (by decide)) rfl (by rw [zr_nn (zr_k (show ¬ 35 = 9 by decide))]; exact zk_2 (by decide) (by decide)) rfl (by rw [zr_nn (zr_k (show ¬ 36 = 9 by decide))]; exact zk_2 (by decide) (by decide))
  have f8 : zm_free (zs_h0 L xs) 8 = true := zr_fr (by decide) (zs_g8 (by decide))
  have f9 : zm_free (zHB (zm_new (zs_h0 L xs) 8 zB0 12)) 9 = true := zr_fr (by decide) (zk_2 (by decide) (by decide))
  rw [← zH0_eq]
  unfold zH0
  rw [i0, x0_0]
  simp only [↓reduceIte, true_and, and_true, zf_i, zf_0, zf_1, zb_fit, z_ex, Option.toList_some, Option.toList_none, List.cons_append, List.nil_append, zb_0, z_ie, z_iv, z_ih, z_iz, z_izn, z_i2, z_ia, z_io, z_ina, z_8, Classical.not_not, x0_3, x0_4, x0_7, f8, ← zB0.eq_1, zs_n0, z_8, Nat.reduceLeDiff, hb]
  simp only [↓reduceIte, true_and, and_true, zf_i, zf_0, zf_1, zb_fit, z_ex, Option.toList_some, Option.toList_none, List.cons_append, List.nil_append, zb_0, z_ie, z_iv, z_ih, z_iz, z_izn, z_i2, z_ia, z_io, z_ina, z_8, Classical.not_not, x0_8, x0_11, x0_12, x0_15, x0_16, x0_17, f9, ← zM0.eq_1, n9, z_8, Nat.reduceLeDiff, hm]
