def zPm (σ : zR) (x y z : Int32) (m : Nat) : zR := zw (zw (zw (zw (zw σ 9 0 0 0) 17 0 (4 * m) x) 17 0 (4 * m + 1) y) 17 0 (4 * m + 2) z) 9 0 1 (nI (m + 1))
def zTgm (σ : zR) (p t : Nat) : Prop := σ 34 0 t = nI p ∧ ∀ k, k < 4 → σ 35 0 (4 * t + k) = σ 17 0 (4 * p + k)
def zUt (σ : zR) (p n : Nat) : Nat → zR
  | 0 => σ
  | k + 1 => zw (zUt σ p n k) 35 0 (4 * n + k) (σ 17 0 (4 * p + k))
set_option maxRecDepth 3000 in
set_option maxHeartbeats 400000 in
theorem zUt_s {σ : zR} {p n s : Nat} (h : ¬ s = 35) : ∀ k, zUt σ p n k s = σ s
  | 0 => rfl
  | k + 1 => by rw [zUt, zw_s h, zUt_s h k]
set_option maxRecDepth 3000 in
set_option maxHeartbeats 400000 in
theorem z_n10 {m : Nat} (h : m < 10) : ¬ nI m = 10 := fun q => by
  have := congrArg Int32.toNatClampNeg q
  rw [z_cl (by omega)] at this
  have e : (10 : Int32).toNatClampNeg = 10 := rfl
  omega
set_option maxRecDepth 3000 in
set_option maxHeartbeats 400000 in
theorem z_n100 {m : Nat} (h : m < 100) : ¬ nI m = 100 := fun q => by
  have := congrArg Int32.toNatClampNeg q
  rw [z_cl (by omega)] at this
  have e : (100 : Int32).toNatClampNeg = 100 := rfl
  omega
section ZG1
variable {G : zG} {σ : zR} {o : zmO}
set_option maxRecDepth 3000 in
set_option maxHeartbeats 400000 in
theorem m_pack_1 {d m : Nat} {x y z : Int32} (hm : m < 10) (hx : σ 9 0 1 = nI m) (cx : ¬ x < 0 ∧ ¬ 99 < x) (cy : ¬ y < 0 ∧ ¬ 99 < y) (cz : ¬ z < 0 ∧ ¬ 99 < z) : zm_Calls (d + 2) 4 [.inr (.inr (some (9, 0))), .inl x, .inl y, .inl z] (zh G σ) o ↔ o = (some (.inl (nI m)), zh G (zPm σ x y z m)) := by
  have e1 : ∀ (ρ : zR) f p, zw ρ 17 0 f p 9 0 1 = ρ 9 0 1 := fun ρ f p => by rw [zw_ap, if_neg (fun q => absurd q.1 (by decide))]
  have e0 : zw σ 9 0 0 0 9 0 1 = nI m := by rw [zw_ap, if_neg (by decide)]; exact hx
  have v0 := z_nin (show 4 * m < 40 by omega) (by omega : 40 ≤ 1000)
  have v1 := z_nin (show 4 * m + 1 < 40 by omega) (by omega : 40 ≤ 1000)
  have v2 := z_nin (show 4 * m + 2 < 40 by omega) (by omega : 40 ≤ 1000)
  unfold zPm
  simp only [↓reduceIte, true_and, and_true, zf_i, zf_0, zf_1, zb_fit, z_ex, Option.toList_some, Option.toList_none, List.cons_append, List.nil_append, zb_0, z_ie, z_iv, z_ih, z_iz, z_izn, z_i2, z_ia, z_io, z_ina, z_8, Classical.not_not, i4, x4_0, x4_1, x4_2, x4_5, x4_6, x4_9, x4_11, x4_14, x4_15, x4_16, x4_18, x4_21, x4_24, x4_25, x4_26, x4_28, x4_31, x4_34, x4_35, x4_36, x4_38, x4_41, x4_44, x4_45, x4_46, x4_47, x4_50, x4_51, x4_52, x4_55, x4_56, x4_57, x4_58, x4_59, x4_62, x4_63, x4_64, x4_67, x4_68, x4_69, x4_70, x4_71, x4_72, x4_73, x4_76, x4_77, x4_78, x4_81, x4_82, x4_83, x4_84, x4_85, x4_86, x4_87, x4_88, x4_91, x4_92, x4_93, x4_96, x4_97, x4_100, x4_101, x4_102, zf9_0, zf9_1, zf9_2, zf9_3, zf9_4, zf9_5, zf9_6, zf9_7, zf9_8, zf9_9, zf9_10, zf9_11, zf9_12, zf9_13, zf9_14, zf9_15, zf9_16, zf9_17, zf9_18, zf9_19, zf9_20, zf9_21, zf9_22, zf9_23, zf9_24, zf9_25, zf9_26, zf9_27, zf9_28, zf9_29, zf9_30, zf9_31, zq9_0, zq9_1, zq9_2, zq9_3, zq9_4, zq9_5, zq9_6, zq9_7, zq9_8, zq9_9, zq9_10, zq9_11, zq9_12, zq9_13, zq9_14, zq9_15, zq9_16, zq9_17, zq9_18, zq9_19, zq9_20, zq9_21, zq9_22, zq9_23, zq9_24, zq9_25, zq9_26, zq9_27, zq9_28, zq9_29, zq9_30, zq9_31, zp9_0, zp9_1, zp9_8, zp9_10, zp9_11, zp9_18, zp9_19, zp9_20, zp9_21, zp9_23, zp9_25, zp9_28, zo9, za17, zn17, zi17, zl17, zt17, z_8, Nat.reduceLeDiff, e0, e1, c40, cx, cy, cz, not_true_eq_false, not_false_eq_true, and_self, z_n10 hm, z_m4, nI_1, z_a2, v0, v1, v2, z_cl (show 4 * m < 1000 by omega), z_cl (show 4 * m + 1 < 1000 by omega), z_cl (show 4 * m + 2 < 1000 by omega)]
  simp only [zw_ap, and_self, if_true, nI_s1]
set_option maxRecDepth 3000 in
set_option maxHeartbeats 400000 in
theorem m_pack_0 {d m : Nat} {x y z : Int32} (hm : m ≤ 10) (hx : σ 9 0 1 = nI m) (hc : m = 10 ∨ ¬ (¬ x < 0 ∧ ¬ 99 < x) ∨ ¬ (¬ y < 0 ∧ ¬ 99 < y) ∨ ¬ (¬ z < 0 ∧ ¬ 99 < z)) : zm_Calls (d + 2) 4 [.inr (.inr (some (9, 0))), .inl x, .inl y, .inl z] (zh G σ) o ↔ o = (some (.inl (-1)), zh G (zw σ 9 0 0 0)) := by
  have e0 : zw σ 9 0 0 0 9 0 1 = nI m := by rw [zw_ap, if_neg (by decide)]; exact hx
  by_cases h0 : m < 10
  · by_cases cx : ¬ x < 0 ∧ ¬ 99 < x
    · by_cases cy : ¬ y < 0 ∧ ¬ 99 < y
      · have cz : ¬ (¬ z < 0 ∧ ¬ 99 < z) := by
          rcases hc with q | q | q | q
          · omega
          · exact absurd cx q
          · exact absurd cy q
          · exact q
        simp only [↓reduceIte, true_and, and_true, zf_i, zf_0, zf_1, zb_fit, z_ex, Option.toList_some, Option.toList_none, List.cons_append, List.nil_append, zb_0, z_ie, z_iv, z_ih, z_iz, z_izn, z_i2, z_ia, z_io, z_ina, z_8, Classical.not_not, i4, x4_0, x4_1, x4_2, x4_5, x4_6, x4_9, x4_11, x4_14, x4_15, x4_16, x4_18, x4_21, x4_24, x4_25, x4_26, x4_28, x4_31, x4_34, x4_35, x4_36, x4_38, x4_41, x4_44, x4_45, x4_46, x4_47, x4_50, x4_51, x4_52, x4_55, x4_56, x4_57, x4_58, x4_59, x4_62, x4_63, x4_64, x4_67, x4_68, x4_69, x4_70, x4_71, x4_72, x4_73, x4_76, x4_77, x4_78, x4_81, x4_82, x4_83, x4_84, x4_85, x4_86, x4_87, x4_88, x4_91, x4_92, x4_93, x4_96, x4_97, x4_100, x4_101, x4_102, zf9_0, zf9_1, zf9_2, zf9_3, zf9_4, zf9_5, zf9_6, zf9_7, zf9_8, zf9_9, zf9_10, zf9_11, zf9_12, zf9_13, zf9_14, zf9_15, zf9_16, zf9_17, zf9_18, zf9_19, zf9_20, zf9_21, zf9_22, zf9_23, zf9_24, zf9_25, zf9_26, zf9_27, zf9_28, zf9_29, zf9_30, zf9_31, zq9_0, zq9_1, zq9_2, zq9_3, zq9_4, zq9_5, zq9_6, zq9_7, zq9_8, zq9_9, zq9_10, zq9_11, zq9_12, zq9_13, zq9_14, zq9_15, zq9_16, zq9_17, zq9_18, zq9_19, zq9_20, zq9_21, zq9_22, zq9_23, zq9_24, zq9_25, zq9_26, zq9_27, zq9_28, zq9_29, zq9_30, zq9_31, zp9_0, zp9_1, zp9_8, zp9_10, zp9_11, zp9_18, zp9_19, zp9_20, zp9_21, zp9_23, zp9_25, zp9_28, zo9, z_8, Nat.reduceLeDiff, e0, c40, cx, cy, cz, not_true_eq_false, not_false_eq_true, and_self, z_n10 h0]
      · simp only [↓reduceIte, true_and, and_true, zf_i, zf_0, zf_1, zb_fit, z_ex, Option.toList_some, Option.toList_none, List.cons_append, List.nil_append, zb_0, z_ie, z_iv, z_ih, z_iz, z_izn, z_i2, z_ia, z_io, z_ina, z_8, Classical.not_not, i4, x4_0, x4_1, x4_2, x4_5, x4_6, x4_9, x4_11, x4_14, x4_15, x4_16, x4_18, x4_21, x4_24, x4_25, x4_26, x4_28, x4_31, x4_34, x4_35, x4_36, x4_38, x4_41, x4_44, x4_45, x4_46, x4_47, x4_50, x4_51, x4_52, x4_55, x4_56, x4_57, x4_58, x4_59, x4_62, x4_63, x4_64, x4_67, x4_68, x4_69, x4_70, x4_71, x4_72, x4_73, x4_76, x4_77, x4_78, x4_81, x4_82, x4_83, x4_84, x4_85, x4_86, x4_87, x4_88, x4_91, x4_92, x4_93, x4_96, x4_97, x4_100, x4_101, x4_102, zf9_0, zf9_1, zf9_2, zf9_3, zf9_4, zf9_5, zf9_6, zf9_7, zf9_8, zf9_9, zf9_10, zf9_11, zf9_12, zf9_13, zf9_14, zf9_15, zf9_16, zf9_17, zf9_18, zf9_19, zf9_20, zf9_21, zf9_22, zf9_23, zf9_24, zf9_25, zf9_26, zf9_27, zf9_28, zf9_29, zf9_30, zf9_31, zq9_0, zq9_1, zq9_2, zq9_3, zq9_4, zq9_5, zq9_6, zq9_7, zq9_8, zq9_9, zq9_10, zq9_11, zq9_12, zq9_13, zq9_14, zq9_15, zq9_16, zq9_17, zq9_18, zq9_19, zq9_20, zq9_21, zq9_22, zq9_23, zq9_24, zq9_25, zq9_26, zq9_27, zq9_28, zq9_29, zq9_30, zq9_31, zp9_0, zp9_1, zp9_8, zp9_10, zp9_11, zp9_18, zp9_19, zp9_20, zp9_21, zp9_23, zp9_25, zp9_28, zo9, z_8, Nat.reduceLeDiff, e0, c40, cx, cy, not_true_eq_false, not_false_eq_true, and_self, z_n10 h0]
    · simp only [↓reduceIte, true_and, and_true, zf_i, zf_0, zf_1, zb_fit, z_ex, Option.toList_some, Option.toList_none, List.cons_append, List.nil_append, zb_0, z_ie, z_iv, z_ih, z_iz, z_izn, z_i2, z_ia, z_io, z_ina, z_8, Classical.not_not, i4, x4_0, x4_1, x4_2, x4_5, x4_6, x4_9, x4_11, x4_14, x4_15, x4_16, x4_18, x4_21, x4_24, x4_25, x4_26, x4_28, x4_31, x4_34, x4_35, x4_36, x4_38, x4_41, x4_44, x4_45, x4_46, x4_47, x4_50, x4_51, x4_52, x4_55, x4_56, x4_57, x4_58, x4_59, x4_62, x4_63, x4_64, x4_67, x4_68, x4_69, x4_70, x4_71, x4_72, x4_73, x4_76, x4_77, x4_78, x4_81, x4_82, x4_83, x4_84, x4_85, x4_86, x4_87, x4_88, x4_91, x4_92, x4_93, x4_96, x4_97, x4_100, x4_101, x4_102, zf9_0, zf9_1, zf9_2, zf9_3, zf9_4, zf9_5, zf9_6, zf9_7, zf9_8, zf9_9, zf9_10, zf9_11, zf9_12, zf9_13, zf9_14, zf9_15, zf9_16, zf9_17, zf9_18, zf9_19, zf9_20, zf9_21, zf9_22, zf9_23, zf9_24, zf9_25, zf9_26, zf9_27, zf9_28, zf9_29, zf9_30, zf9_31, zq9_0, zq9_1, zq9_2, zq9_3, zq9_4, zq9_5, zq9_6, zq9_7, zq9_8, zq9_9, zq9_10, zq9_11, zq9_12, zq9_13, zq9_14, zq9_15, zq9_16, zq9_17, zq9_18, zq9_19, zq9_20, zq9_21, zq9_22, zq9_23, zq9_24, zq9_25, zq9_26, zq9_27, zq9_28, zq9_29, zq9_30, zq9_31, zp9_0, zp9_1, zp9_8, zp9_10, zp9_11, zp9_18, zp9_19, zp9_20, zp9_21, zp9_23, zp9_25, zp9_28, zo9, z_8, Nat.reduceLeDiff, e0, c40, cx, not_true_eq_false, not_false_eq_true, and_self, z_n10 h0]
  · have : m = 10 := by omega
    subst this
    simp only [↓reduceIte, true_and, and_true, zf_i, zf_0, zf_1, zb_fit, z_ex, Option.toList_some, Option.toList_none, List.cons_append, List.nil_append, zb_0, z_ie, z_iv, z_ih, z_iz, z_izn, z_i2, z_ia, z_io, z_ina, z_8, Classical.not_not, i4, x4_0, x4_1, x4_2, x4_5, x4_6, x4_9, x4_11, x4_14, x4_15, x4_16, x4_18, x4_21, x4_24, x4_25, x4_26, x4_28, x4_31, x4_34, x4_35, x4_36, x4_38, x4_41, x4_44, x4_45, x4_46, x4_47, x4_50, x4_51, x4_52, x4_55, x4_56, x4_57, x4_58, x4_59, x4_62, x4_63, x4_64, x4_67, x4_68, x4_69, x4_70, x4_71, x4_72, x4_73, x4_76, x4_77, x4_78, x4_81, x4_82, x4_83, x4_84, x4_85, x4_86, x4_87, x4_88, x4_91, x4_92, x4_93, x4_96, x4_97, x4_100, x4_101, x4_102, zf9_0, zf9_1, zf9_2, zf9_3, zf9_4, zf9_5, zf9_6, zf9_7, zf9_8, zf9_9, zf9_10, zf9_11, zf9_12, zf9_13, zf9_14, zf9_15, zf9_16, zf9_17, zf9_18, zf9_19, zf9_20, zf9_21, zf9_22, zf9_23, zf9_24, zf9_25, zf9_26, zf9_27, zf9_28, zf9_29, zf9_30, zf9_31, zq9_0, zq9_1, zq9_2, zq9_3, zq9_4, zq9_5, zq9_6, zq9_7, zq9_8, zq9_9, zq9_10, zq9_11, zq9_12, zq9_13, zq9_14, zq9_15, zq9_16, zq9_17, zq9_18, zq9_19, zq9_20, zq9_21, zq9_22, zq9_23, zq9_24, zq9_25, zq9_26, zq9_27, zq9_28, zq9_29, zq9_30, zq9_31, zp9_0, zp9_1, zp9_8, zp9_10, zp9_11, zp9_18, zp9_19, zp9_20, zp9_21, zp9_23, zp9_25, zp9_28, zo9, z_8, Nat.reduceLeDiff, e0, show nI 10 = 10 from rfl]
set_option maxRecDepth 3000 in
set_option maxHeartbeats 400000 in
theorem l_tgI {d p t : Nat} {Q : Prop} (hp : p < 10) (ht : t < 100) : ∀ (r k : Nat), k + r = 4 → ∀ (c : Prop), (zm_E (zm_Calls d) 34 91 [some (.inr (.inr (some (9, 0)))), some (.inl (nI p)), some (.inl (nI t)), some (.inl (zbc (c ∧ ∀ q, k ≤ q → q < 4 → σ 35 0 (4 * t + q) = σ 17 0 (4 * p + q)))), some (.inl (nI 4))] [] (zh G σ) o ↔ Q) → (zm_E (zm_Calls d) 34 44 [some (.inr (.inr (some (9, 0)))), some (.inl (nI p)), some (.inl (nI t)), some (.inl (zbc c)), some (.inl (nI k))] [] (zh G σ) o ↔ Q) := by
  intro r
  induction r with
  | zero =>
    intro k hk c hQ
    have hk : k = 4 := by omega
    subst hk
    rw [show (c ∧ ∀ q, 4 ≤ q → q < 4 → σ 35 0 (4 * t + q) = σ 17 0 (4 * p + q)) = c from propext ⟨fun q => q.1, fun q => ⟨q, fun i h1 h2 => by omega⟩⟩] at hQ
    rw [← hQ, x34_44]
    simp only [↓reduceIte, x34_46, x34_47, show (nI 4 < 4) = False from eq_false (by decide)]
  | succ r ih =>
    intro k hk c hQ
    have h4 : nI k < 4 := (nI_ltI (b := 4) (by omega) (by omega)).mpr (by omega)
    have v0 := z_nin (show 4 * t + k < 400 by omega) (by omega : 400 ≤ 1000)
    have v1 := z_nin (show 4 * p + k < 40 by omega) (by omega : 40 ≤ 1000)
    have h3 := ih (k + 1) (by omega) (c ∧ σ 35 0 (4 * t + k) = σ 17 0 (4 * p + k)) (by
      rw [← hQ]
      rw [show ((c ∧ σ 35 0 (4 * t + k) = σ 17 0 (4 * p + k)) ∧ ∀ q, k + 1 ≤ q → q < 4 → σ 35 0 (4 * t + q) = σ 17 0 (4 * p + q)) = (c ∧ ∀ q, k ≤ q → q < 4 → σ 35 0 (4 * t + q) = σ 17 0 (4 * p + q)) from propext ⟨fun q => ⟨q.1.1, fun i h1 h2 => by
        rcases Nat.lt_or_ge k i with h5 | h5
        · exact q.2 i h5 h2
        · have : i = k := by omega
          subst this; exact q.1.2⟩, fun q => ⟨⟨q.1, q.2 k (by omega) (by omega)⟩, fun i h1 h2 => q.2 i (by omega) h2⟩⟩])
    rw [x34_44]
    by_cases hc : c
    · by_cases he : σ 35 0 (4 * t + k) = σ 17 0 (4 * p + k)
      · rw [zbc_t ⟨hc, he⟩] at h3
        simp only [↓reduceIte, true_and, and_true, zf_i, zf_0, zf_1, zb_fit, z_ex, Option.toList_some, Option.toList_none, List.cons_append, List.nil_append, zb_0, z_ie, z_iv, z_ih, z_iz, z_izn, z_i2, z_ia, z_io, z_ina, z_8, Classical.not_not, x34_0, x34_1, x34_2, x34_5, x34_6, x34_7, x34_10, x34_13, x34_14, x34_15, x34_16, x34_18, x34_19, x34_22, x34_25, x34_26, x34_29, x34_30, x34_31, x34_32, x34_35, x34_36, x34_40, x34_41, x34_42, x34_46, x34_47, x34_50, x34_51, x34_54, x34_55, x34_58, x34_59, x34_60, x34_61, x34_63, x34_64, x34_65, x34_66, x34_69, x34_70, x34_71, x34_72, x34_74, x34_75, x34_76, x34_79, x34_80, x34_84, x34_85, x34_88, x34_83, x34_91, x34_92, x34_95, x34_96, x34_97, x34_100, x34_39, x34_103, x34_104, x34_107, x34_109, x34_112, x34_113, x34_114, x34_115, x34_118, x34_119, x34_122, x34_123, x34_124, x34_125, x34_127, x34_128, x34_131, x34_132, x34_135, x34_136, x34_137, x34_140, x34_141, x34_142, x34_143, x34_144, x34_147, x34_148, x34_149, x34_150, x34_151, x34_152, x34_153, x34_154, x34_157, x34_160, x34_161, x34_162, x34_165, x34_166, x34_167, x34_170, x34_171, zf9_0, zf9_1, zf9_2, zf9_3, zf9_4, zf9_5, zf9_6, zf9_7, zf9_8, zf9_9, zf9_10, zf9_11, zf9_12, zf9_13, zf9_14, zf9_15, zf9_16, zf9_17, zf9_18, zf9_19, zf9_20, zf9_21, zf9_22, zf9_23, zf9_24, zf9_25, zf9_26, zf9_27, zf9_28, zf9_29, zf9_30, zf9_31, zq9_0, zq9_1, zq9_2, zq9_3, zq9_4, zq9_5, zq9_6, zq9_7, zq9_8, zq9_9, zq9_10, zq9_11, zq9_12, zq9_13, zq9_14, zq9_15, zq9_16, zq9_17, zq9_18, zq9_19, zq9_20, zq9_21, zq9_22, zq9_23, zq9_24, zq9_25, zq9_26, zq9_27, zq9_28, zq9_29, zq9_30, zq9_31, zp9_0, zp9_1, zp9_8, zp9_10, zp9_11, zp9_18, zp9_19, zp9_20, zp9_21, zp9_23, zp9_25, zp9_28, zo9, za17, zn17, zi17, zl17, zt17, za35, zn35, zi35, zl35, zt35, h4, zbc_t hc, z_10, z_m4, nI_add, v0, v1, z_cl (show 4 * t + k < 1000 by omega), z_cl (show 4 * p + k < 1000 by omega), he, nI_1, h3]
      · rw [zbc_f (fun q => he q.2)] at h3
        simp only [↓reduceIte, true_and, and_true, zf_i, zf_0, zf_1, zb_fit, z_ex, Option.toList_some, Option.toList_none, List.cons_append, List.nil_append, zb_0, z_ie, z_iv, z_ih, z_iz, z_izn, z_i2, z_ia, z_io, z_ina, z_8, Classical.not_not, x34_0, x34_1, x34_2, x34_5, x34_6, x34_7, x34_10, x34_13, x34_14, x34_15, x34_16, x34_18, x34_19, x34_22, x34_25, x34_26, x34_29, x34_30, x34_31, x34_32, x34_35, x34_36, x34_40, x34_41, x34_42, x34_46, x34_47, x34_50, x34_51, x34_54, x34_55, x34_58, x34_59, x34_60, x34_61, x34_63, x34_64, x34_65, x34_66, x34_69, x34_70, x34_71, x34_72, x34_74, x34_75, x34_76, x34_79, x34_80, x34_84, x34_85, x34_88, x34_83, x34_91, x34_92, x34_95, x34_96, x34_97, x34_100, x34_39, x34_103, x34_104, x34_107, x34_109, x34_112, x34_113, x34_114, x34_115, x34_118, x34_119, x34_122, x34_123, x34_124, x34_125, x34_127, x34_128, x34_131, x34_132, x34_135, x34_136, x34_137, x34_140, x34_141, x34_142, x34_143, x34_144, x34_147, x34_148, x34_149, x34_150, x34_151, x34_152, x34_153, x34_154, x34_157, x34_160, x34_161, x34_162, x34_165, x34_166, x34_167, x34_170, x34_171, zf9_0, zf9_1, zf9_2, zf9_3, zf9_4, zf9_5, zf9_6, zf9_7, zf9_8, zf9_9, zf9_10, zf9_11, zf9_12, zf9_13, zf9_14, zf9_15, zf9_16, zf9_17, zf9_18, zf9_19, zf9_20, zf9_21, zf9_22, zf9_23, zf9_24, zf9_25, zf9_26, zf9_27, zf9_28, zf9_29, zf9_30, zf9_31, zq9_0, zq9_1, zq9_2, zq9_3, zq9_4, zq9_5, zq9_6, zq9_7, zq9_8, zq9_9, zq9_10, zq9_11, zq9_12, zq9_13, zq9_14, zq9_15, zq9_16, zq9_17, zq9_18, zq9_19, zq9_20, zq9_21, zq9_22, zq9_23, zq9_24, zq9_25, zq9_26, zq9_27, zq9_28, zq9_29, zq9_30, zq9_31, zp9_0, zp9_1, zp9_8, zp9_10, zp9_11, zp9_18, zp9_19, zp9_20, zp9_21, zp9_23, zp9_25, zp9_28, zo9, za17, zn17, zi17, zl17, zt17, za35, zn35, zi35, zl35, zt35, h4, zbc_t hc, z_10, z_m4, nI_add, v0, v1, z_cl (show 4 * t + k < 1000 by omega), z_cl (show 4 * p + k < 1000 by omega), he, nI_1, h3]
    · rw [zbc_f (fun q => hc q.1)] at h3
      simp only [↓reduceIte, true_and, and_true, zf_i, zf_0, zf_1, zb_fit, z_ex, Option.toList_some, Option.toList_none, List.cons_append, List.nil_append, zb_0, z_ie, z_iv, z_ih, z_iz, z_izn, z_i2, z_ia, z_io, z_ina, z_8, Classical.not_not, x34_0, x34_1, x34_2, x34_5, x34_6, x34_7, x34_10, x34_13, x34_14, x34_15, x34_16, x34_18, x34_19, x34_22, x34_25, x34_26, x34_29, x34_30, x34_31, x34_32, x34_35, x34_36, x34_40, x34_41, x34_42, x34_46, x34_47, x34_50, x34_51, x34_54, x34_55, x34_58, x34_59, x34_60, x34_61, x34_63, x34_64, x34_65, x34_66, x34_69, x34_70, x34_71, x34_72, x34_74, x34_75, x34_76, x34_79, x34_80, x34_84, x34_85, x34_88, x34_83, x34_91, x34_92, x34_95, x34_96, x34_97, x34_100, x34_39, x34_103, x34_104, x34_107, x34_109, x34_112, x34_113, x34_114, x34_115, x34_118, x34_119, x34_122, x34_123, x34_124, x34_125, x34_127, x34_128, x34_131, x34_132, x34_135, x34_136, x34_137, x34_140, x34_141, x34_142, x34_143, x34_144, x34_147, x34_148, x34_149, x34_150, x34_151, x34_152, x34_153, x34_154, x34_157, x34_160, x34_161, x34_162, x34_165, x34_166, x34_167, x34_170, x34_171, zf9_0, zf9_1, zf9_2, zf9_3, zf9_4, zf9_5, zf9_6, zf9_7, zf9_8, zf9_9, zf9_10, zf9_11, zf9_12, zf9_13, zf9_14, zf9_15, zf9_16, zf9_17, zf9_18, zf9_19, zf9_20, zf9_21, zf9_22, zf9_23, zf9_24, zf9_25, zf9_26, zf9_27, zf9_28, zf9_29, zf9_30, zf9_31, zq9_0, zq9_1, zq9_2, zq9_3, zq9_4, zq9_5, zq9_6, zq9_7, zq9_8, zq9_9, zq9_10, zq9_11, zq9_12, zq9_13, zq9_14, zq9_15, zq9_16, zq9_17, zq9_18, zq9_19, zq9_20, zq9_21, zq9_22, zq9_23, zq9_24, zq9_25, zq9_26, zq9_27, zq9_28, zq9_29, zq9_30, zq9_31, zp9_0, zp9_1, zp9_8, zp9_10, zp9_11, zp9_18, zp9_19, zp9_20, zp9_21, zp9_23, zp9_25, zp9_28, zo9, za17, zn17, zi17, zl17, zt17, za35, zn35, zi35, zl35, zt35, h4, zbc_f hc, nI_1, h3]
end ZG1
