section ZG3
variable {G : zG} {σ : zR} {o : zmO}
set_option maxRecDepth 3000 in
set_option maxHeartbeats 400000 in
theorem m_tag_0 {d m p n : Nat} (hm : m ≤ 10) (hx : σ 9 0 1 = nI m) (hp : p < m) (hn : n ≤ 100) (hy : σ 9 0 28 = nI n) (hex : ∃ q, q < n ∧ zTgm σ p q) : zm_Calls (d + 3) 34 [.inr (.inr (some (9, 0))), .inl (nI p)] (zh G σ) o ↔ o = (some (.inl 0), zh G (zw σ 9 0 0 0)) := by
  have e0 : zw σ 9 0 0 0 9 0 1 = nI m := by rw [zw_ap, if_neg (by decide)]; exact hx
  have e1 : zw σ 9 0 0 0 9 0 28 = nI n := by rw [zw_ap, if_neg (by decide)]; exact hy
  have e : ¬ nI p < 0 ∧ ¬ zw σ 9 0 0 0 9 0 1 - 1 < nI p := (z_cnt e0 (by omega)).mpr (z_nin hp (by omega))
  have h := l_tgY (G := G) (σ := zw σ 9 0 0 0) (o := o) (d := d + 2) (p := p) (by omega) hn e1 n 0 (by omega) (by
    obtain ⟨q, h1, h2⟩ := hex
    refine ⟨q, by omega, h1, ?_⟩
    unfold zTgm
    rw [zw_s (by decide), zw_s (by decide), zw_s (by decide)]
    exact h2) none none
  rw [nI_0] at h
  rw [← h]
  simp only [↓reduceIte, true_and, and_true, zf_i, zf_0, zf_1, zb_fit, z_ex, Option.toList_some, Option.toList_none, List.cons_append, List.nil_append, zb_0, z_ie, z_iv, z_ih, z_iz, z_izn, z_i2, z_ia, z_io, z_ina, z_8, Classical.not_not, i34, x34_0, x34_1, x34_2, x34_5, x34_6, x34_7, x34_10, x34_15, x34_16, zf9_0, zf9_1, zf9_2, zf9_3, zf9_4, zf9_5, zf9_6, zf9_7, zf9_8, zf9_9, zf9_10, zf9_11, zf9_12, zf9_13, zf9_14, zf9_15, zf9_16, zf9_17, zf9_18, zf9_19, zf9_20, zf9_21, zf9_22, zf9_23, zf9_24, zf9_25, zf9_26, zf9_27, zf9_28, zf9_29, zf9_30, zf9_31, zq9_0, zq9_1, zq9_2, zq9_3, zq9_4, zq9_5, zq9_6, zq9_7, zq9_8, zq9_9, zq9_10, zq9_11, zq9_12, zq9_13, zq9_14, zq9_15, zq9_16, zq9_17, zq9_18, zq9_19, zq9_20, zq9_21, zq9_22, zq9_23, zq9_24, zq9_25, zq9_26, zq9_27, zq9_28, zq9_29, zq9_30, zq9_31, zp9_0, zp9_1, zp9_8, zp9_10, zp9_11, zp9_18, zp9_19, zp9_20, zp9_21, zp9_23, zp9_25, zp9_28, zo9, z_8, Nat.reduceLeDiff, c43, e, not_true_eq_false, not_false_eq_true, and_self]
set_option maxRecDepth 3000 in
set_option maxHeartbeats 400000 in
theorem m_tag_full {d m p : Nat} (hm : m ≤ 10) (hx : σ 9 0 1 = nI m) (hp : p < m) (hy : σ 9 0 28 = nI 100) (hex : ∀ q, q < 100 → ¬ zTgm σ p q) : zm_Calls (d + 3) 34 [.inr (.inr (some (9, 0))), .inl (nI p)] (zh G σ) o ↔ o = (some (.inl (-1)), zh G (zw σ 9 0 0 0)) := by
  have e0 : zw σ 9 0 0 0 9 0 1 = nI m := by rw [zw_ap, if_neg (by decide)]; exact hx
  have e1 : zw σ 9 0 0 0 9 0 28 = nI 100 := by rw [zw_ap, if_neg (by decide)]; exact hy
  have e : ¬ nI p < 0 ∧ ¬ zw σ 9 0 0 0 9 0 1 - 1 < nI p := (z_cnt e0 (by omega)).mpr (z_nin hp (by omega))
  have h := l_tgN (G := G) (σ := zw σ 9 0 0 0) (o := o) (d := d + 2) (p := p) (Q := o = (some (.inl (-1)), zh G (zw σ 9 0 0 0))) (by omega) (Nat.le_refl 100) e1 (fun l3 l4 => by
    simp only [↓reduceIte, true_and, and_true, zf_i, zf_0, zf_1, zb_fit, z_ex, Option.toList_some, Option.toList_none, List.cons_append, List.nil_append, zb_0, z_ie, z_iv, z_ih, z_iz, z_izn, z_i2, z_ia, z_io, z_ina, z_8, Classical.not_not, x34_103, x34_104, x34_107, x34_109, x34_112, x34_113, zf9_0, zf9_1, zf9_2, zf9_3, zf9_4, zf9_5, zf9_6, zf9_7, zf9_8, zf9_9, zf9_10, zf9_11, zf9_12, zf9_13, zf9_14, zf9_15, zf9_16, zf9_17, zf9_18, zf9_19, zf9_20, zf9_21, zf9_22, zf9_23, zf9_24, zf9_25, zf9_26, zf9_27, zf9_28, zf9_29, zf9_30, zf9_31, zq9_0, zq9_1, zq9_2, zq9_3, zq9_4, zq9_5, zq9_6, zq9_7, zq9_8, zq9_9, zq9_10, zq9_11, zq9_12, zq9_13, zq9_14, zq9_15, zq9_16, zq9_17, zq9_18, zq9_19, zq9_20, zq9_21, zq9_22, zq9_23, zq9_24, zq9_25, zq9_26, zq9_27, zq9_28, zq9_29, zq9_30, zq9_31, zp9_0, zp9_1, zp9_8, zp9_10, zp9_11, zp9_18, zp9_19, zp9_20, zp9_21, zp9_23, zp9_25, zp9_28, zo9, e1, show nI 100 = 100 from rfl]) 100 0 (by omega) (fun q _ h1 h2 => hex q h1 (by
      unfold zTgm at h2
      rw [zw_s (by decide), zw_s (by decide), zw_s (by decide)] at h2
      exact h2)) none none
  rw [nI_0] at h
  rw [← h]
  simp only [↓reduceIte, true_and, and_true, zf_i, zf_0, zf_1, zb_fit, z_ex, Option.toList_some, Option.toList_none, List.cons_append, List.nil_append, zb_0, z_ie, z_iv, z_ih, z_iz, z_izn, z_i2, z_ia, z_io, z_ina, z_8, Classical.not_not, i34, x34_0, x34_1, x34_2, x34_5, x34_6, x34_7, x34_10, x34_15, x34_16, zf9_0, zf9_1, zf9_2, zf9_3, zf9_4, zf9_5, zf9_6, zf9_7, zf9_8, zf9_9, zf9_10, zf9_11, zf9_12, zf9_13, zf9_14, zf9_15, zf9_16, zf9_17, zf9_18, zf9_19, zf9_20, zf9_21, zf9_22, zf9_23, zf9_24, zf9_25, zf9_26, zf9_27, zf9_28, zf9_29, zf9_30, zf9_31, zq9_0, zq9_1, zq9_2, zq9_3, zq9_4, zq9_5, zq9_6, zq9_7, zq9_8, zq9_9, zq9_10, zq9_11, zq9_12, zq9_13, zq9_14, zq9_15, zq9_16, zq9_17, zq9_18, zq9_19, zq9_20, zq9_21, zq9_22, zq9_23, zq9_24, zq9_25, zq9_26, zq9_27, zq9_28, zq9_29, zq9_30, zq9_31, zp9_0, zp9_1, zp9_8, zp9_10, zp9_11, zp9_18, zp9_19, zp9_20, zp9_21, zp9_23, zp9_25, zp9_28, zo9, z_8, Nat.reduceLeDiff, c43, e, not_true_eq_false, not_false_eq_true, and_self]
set_option maxRecDepth 3000 in
set_option maxHeartbeats 400000 in
theorem m_tag_1 {d m p n : Nat} (hm : m ≤ 10) (hx : σ 9 0 1 = nI m) (hp : p < m) (hn : n < 100) (hy : σ 9 0 28 = nI n) (hex : ∀ q, q < n → ¬ zTgm σ p q) : zm_Calls (d + 3) 34 [.inr (.inr (some (9, 0))), .inl (nI p)] (zh G σ) o ↔ o = (some (.inl 1), zh G (zGm (zw σ 9 0 0 0) p n)) := by
  have e0 : zw σ 9 0 0 0 9 0 1 = nI m := by rw [zw_ap, if_neg (by decide)]; exact hx
  have e1 : zw σ 9 0 0 0 9 0 28 = nI n := by rw [zw_ap, if_neg (by decide)]; exact hy
  have e : ¬ nI p < 0 ∧ ¬ zw σ 9 0 0 0 9 0 1 - 1 < nI p := (z_cnt e0 (by omega)).mpr (z_nin hp (by omega))
  have v0 := z_nin hn (by omega : 100 ≤ 1000)
  have hS := fun l3 l4 => l_tgS (G := G) (σ := zw (zw σ 9 0 0 0) 34 0 n (nI p)) (o := o) (d := d + 2) (p := p) (n := n) (l3 := l3) (l4 := l4) (by omega) hn (by rw [zw_s (by decide)]; exact e1) 4 0 (by omega)
  simp only [zUt.eq_1, nI_0] at hS
  have h := l_tgN (G := G) (σ := zw σ 9 0 0 0) (o := o) (d := d + 2) (p := p) (Q := o = (some (.inl 1), zh G (zGm (zw σ 9 0 0 0) p n))) (by omega) (by omega : n ≤ 100) e1 (fun l3 l4 => by
    unfold zGm
    simp only [↓reduceIte, true_and, and_true, zf_i, zf_0, zf_1, zb_fit, z_ex, Option.toList_some, Option.toList_none, List.cons_append, List.nil_append, zb_0, z_ie, z_iv, z_ih, z_iz, z_izn, z_i2, z_ia, z_io, z_ina, z_8, Classical.not_not, x34_103, x34_104, x34_107, x34_109, x34_114, x34_115, x34_118, x34_119, x34_122, x34_123, x34_124, x34_125, zf9_0, zf9_1, zf9_2, zf9_3, zf9_4, zf9_5, zf9_6, zf9_7, zf9_8, zf9_9, zf9_10, zf9_11, zf9_12, zf9_13, zf9_14, zf9_15, zf9_16, zf9_17, zf9_18, zf9_19, zf9_20, zf9_21, zf9_22, zf9_23, zf9_24, zf9_25, zf9_26, zf9_27, zf9_28, zf9_29, zf9_30, zf9_31, zq9_0, zq9_1, zq9_2, zq9_3, zq9_4, zq9_5, zq9_6, zq9_7, zq9_8, zq9_9, zq9_10, zq9_11, zq9_12, zq9_13, zq9_14, zq9_15, zq9_16, zq9_17, zq9_18, zq9_19, zq9_20, zq9_21, zq9_22, zq9_23, zq9_24, zq9_25, zq9_26, zq9_27, zq9_28, zq9_29, zq9_30, zq9_31, zp9_0, zp9_1, zp9_8, zp9_10, zp9_11, zp9_18, zp9_19, zp9_20, zp9_21, zp9_23, zp9_25, zp9_28, zo9, za34, zn34, zi34, zl34, zt34, e1, z_n100 hn, v0, z_cl (show n < 1000 by omega), z_8, Nat.reduceLeDiff, hS]) n 0 (by omega) (fun q _ h1 h2 => hex q h1 (by
      unfold zTgm at h2
      rw [zw_s (by decide), zw_s (by decide), zw_s (by decide)] at h2
      exact h2)) none none
  rw [nI_0] at h
  rw [← h]
  simp only [↓reduceIte, true_and, and_true, zf_i, zf_0, zf_1, zb_fit, z_ex, Option.toList_some, Option.toList_none, List.cons_append, List.nil_append, zb_0, z_ie, z_iv, z_ih, z_iz, z_izn, z_i2, z_ia, z_io, z_ina, z_8, Classical.not_not, i34, x34_0, x34_1, x34_2, x34_5, x34_6, x34_7, x34_10, x34_15, x34_16, zf9_0, zf9_1, zf9_2, zf9_3, zf9_4, zf9_5, zf9_6, zf9_7, zf9_8, zf9_9, zf9_10, zf9_11, zf9_12, zf9_13, zf9_14, zf9_15, zf9_16, zf9_17, zf9_18, zf9_19, zf9_20, zf9_21, zf9_22, zf9_23, zf9_24, zf9_25, zf9_26, zf9_27, zf9_28, zf9_29, zf9_30, zf9_31, zq9_0, zq9_1, zq9_2, zq9_3, zq9_4, zq9_5, zq9_6, zq9_7, zq9_8, zq9_9, zq9_10, zq9_11, zq9_12, zq9_13, zq9_14, zq9_15, zq9_16, zq9_17, zq9_18, zq9_19, zq9_20, zq9_21, zq9_22, zq9_23, zq9_24, zq9_25, zq9_26, zq9_27, zq9_28, zq9_29, zq9_30, zq9_31, zp9_0, zp9_1, zp9_8, zp9_10, zp9_11, zp9_18, zp9_19, zp9_20, zp9_21, zp9_23, zp9_25, zp9_28, zo9, z_8, Nat.reduceLeDiff, c43, e, not_true_eq_false, not_false_eq_true, and_self]
end ZG3
