def zV (G : zG) (s i : Nat) : Prop := 8 ≤ s ∧ ∀ r, zc G s i r = some (.inr (7, [.inl (r 0), .inl (r 1), .inl (r 2), .inl (r 3)]))
section ZV
variable {G : zG} {σ : zR} {s i t j : Nat}
theorem zV42 (h : i < G.2.2.1) : zV G 42 i := ⟨by decide, fun _ => if_pos h⟩
theorem zV43 (h : i < G.2.2.1) : zV G 43 i := ⟨by decide, fun _ => if_pos h⟩
theorem zV44 (h : i < G.2.2.1) : zV G 44 i := ⟨by decide, fun _ => if_pos h⟩
theorem zV46 (h : i < G.2.2.2.2) : zV G 46 i := ⟨by decide, fun _ => if_pos h⟩
theorem zv_8 (h : zV G s i) : 8 ≤ s := h.1
theorem zv_at (h : zV G s i) : zm_get (zh G σ) (s, i) = some (.inr (7, [.inl (σ s i 0), .inl (σ s i 1), .inl (σ s i 2), .inl (σ s i 3)])) := by
  rw [zh_get G σ s i h.1]
  exact h.2 _
theorem zv_o (h : zV G s i) : zm_isO (zh G σ) (s, i) 7 = true := by
  unfold zm_isO
  rw [zv_at h]
  rfl
theorem zv_f0 (h : zV G s i) : zm_isF (zh G σ) (s, i) 7 0 = true := by unfold zm_isF; rw [zv_at h]; rfl
theorem zv_f1 (h : zV G s i) : zm_isF (zh G σ) (s, i) 7 1 = true := by unfold zm_isF; rw [zv_at h]; rfl
theorem zv_f2 (h : zV G s i) : zm_isF (zh G σ) (s, i) 7 2 = true := by unfold zm_isF; rw [zv_at h]; rfl
theorem zv_f3 (h : zV G s i) : zm_isF (zh G σ) (s, i) 7 3 = true := by unfold zm_isF; rw [zv_at h]; rfl
theorem zv_g0 (h : zV G s i) : zm_getF (zh G σ) (s, i) 0 = .inl (σ s i 0) := by unfold zm_getF; rw [zv_at h]; rfl
theorem zv_g1 (h : zV G s i) : zm_getF (zh G σ) (s, i) 1 = .inl (σ s i 1) := by unfold zm_getF; rw [zv_at h]; rfl
theorem zv_g2 (h : zV G s i) : zm_getF (zh G σ) (s, i) 2 = .inl (σ s i 2) := by unfold zm_getF; rw [zv_at h]; rfl
theorem zv_g3 (h : zV G s i) : zm_getF (zh G σ) (s, i) 3 = .inl (σ s i 3) := by unfold zm_getF; rw [zv_at h]; rfl
theorem zv_p0 {x : Int32} (h : zV G s i) : zm_putF (zh G σ) (s, i) 0 (.inl x) = zh G (zw σ s i 0 x) := by unfold zm_putF; rw [zv_at h]; exact zh_set h.1 (h.2 _)
theorem zv_p1 {x : Int32} (h : zV G s i) : zm_putF (zh G σ) (s, i) 1 (.inl x) = zh G (zw σ s i 1 x) := by unfold zm_putF; rw [zv_at h]; exact zh_set h.1 (h.2 _)
theorem zv_p2 {x : Int32} (h : zV G s i) : zm_putF (zh G σ) (s, i) 2 (.inl x) = zh G (zw σ s i 2 x) := by unfold zm_putF; rw [zv_at h]; exact zh_set h.1 (h.2 _)
theorem zv_p3 {x : Int32} (h : zV G s i) : zm_putF (zh G σ) (s, i) 3 (.inl x) = zh G (zw σ s i 3 x) := by unfold zm_putF; rw [zv_at h]; exact zh_set h.1 (h.2 _)
end ZV
def zcp (σ : zR) (s i t j : Nat) : zR := zw (zw (zw (zw σ s i 0 (σ t j 0)) s i 1 (σ t j 1)) s i 2 (σ t j 2)) s i 3 (σ t j 3)
theorem c91 {d s i t j : Nat} {G : zG} {σ : zR} {o : zmO} (h1 : zV G s i) (h2 : zV G t j) : zm_Calls (d + 1) 91 [.inr (.inr (some (s, i))), .inr (.inr (some (t, j)))] (zh G σ) o ↔ o = (none, zh G (zcp σ s i t j)) := by
  simp only [i91, x91_0, x91_1, x91_2, x91_5, x91_8, x91_9, x91_10, x91_13, x91_16, x91_17, x91_18, x91_21, x91_24, x91_25, x91_26, x91_29, x91_32, zv_f0 h1, zv_f1 h1, zv_f2 h1, zv_f3 h1, zv_f0 h2, zv_f1 h2, zv_f2 h2, zv_f3 h2, zv_g0 h2, zv_g1 h2, zv_g2 h2, zv_g3 h2, zv_p0 h1, zv_p1 h1, zv_p2 h1, zv_p3 h1, true_and, and_true, zf_i, zf_0, zf_1, zb_fit, z_ex, Option.toList_some, Option.toList_none, List.cons_append, List.nil_append, zb_0, z_ie, z_iv, z_ih, z_iz, z_izn, z_i2, z_ia, z_io, z_ina, z_8, Classical.not_not, zv_8 h1, zw_ap, reduceCtorEq, Nat.reduceEqDiff, and_false, if_false, zcp]
theorem c106 {d s i t j : Nat} {G : zG} {σ : zR} {o : zmO} (h1 : zV G s i) (h2 : zV G t j) : zm_Calls (d + 1) 106 [.inr (.inr (some (s, i))), .inr (.inr (some (t, j)))] (zh G σ) o ↔ o = (some (.inl (zb (σ s i 0 = σ t j 0 ∧ σ s i 1 = σ t j 1 ∧ σ s i 2 = σ t j 2 ∧ σ s i 3 = σ t j 3))), zh G σ) := by
  simp only [i106, x106_0, x106_1, x106_4, x106_5, x106_8, x106_11, x106_12, x106_15, x106_16, x106_19, x106_22, x106_23, x106_26, x106_27, x106_30, x106_33, x106_34, x106_37, x106_38, x106_41, x106_44, x106_45, x106_49, x106_48, zv_f0 h1, zv_f1 h1, zv_f2 h1, zv_f3 h1, zv_f0 h2, zv_f1 h2, zv_f2 h2, zv_f3 h2, zv_g0 h1, zv_g1 h1, zv_g2 h1, zv_g3 h1, zv_g0 h2, zv_g1 h2, zv_g2 h2, zv_g3 h2, true_and, and_true, zf_i, zf_0, zf_1, zb_fit, z_ex, Option.toList_some, Option.toList_none, List.cons_append, List.nil_append, zb_0, z_ie, z_iv, z_ih, z_iz, z_izn, z_i2, z_ia, z_io, z_ina, z_8, Classical.not_not, zv_8 h1]
theorem c112 {d s i t j : Nat} {v : Int32} {G : zG} {σ : zR} {o : zmO} (h1 : zV G s i) (h2 : zV G t j) : zm_Calls (d + 2) 112 [.inr (.inr (some (s, i))), .inl v, .inr (.inr (some (t, j)))] (zh G σ) o ↔ o = (some (.inl (if v = 0 then zb (σ s i 0 = σ t j 0 ∧ σ s i 1 = σ t j 1 ∧ σ s i 2 = σ t j 2 ∧ σ s i 3 = σ t j 3) else if v = 1 then zb (σ s i 0 = σ t j 0 ∧ σ s i 1 = σ t j 1) else if v = 2 then zb (σ s i 0 = σ t j 0) else 1)), zh G σ) := by
  simp only [i112, x112_0, x112_1, x112_79, x112_80, x112_62, x112_63, x112_66, x112_67, x112_70, x112_73, x112_74, x112_78, x112_77, x112_34, x112_35, x112_38, x112_39, x112_42, x112_45, x112_46, x112_49, x112_50, x112_53, x112_56, x112_57, x112_61, x112_60, x112_28, x112_29, x112_30, x112_33, c106 h1 h2, zv_o h1, zv_f0 h1, zv_f1 h1, zv_f2 h1, zv_f3 h1, zv_f0 h2, zv_f1 h2, zv_f2 h2, zv_f3 h2, zv_g0 h1, zv_g1 h1, zv_g2 h1, zv_g3 h1, zv_g0 h2, zv_g1 h2, zv_g2 h2, zv_g3 h2, true_and, and_true, zf_i, zf_0, zf_1, zb_fit, z_ex, Option.toList_some, Option.toList_none, List.cons_append, List.nil_append, zb_0, z_ie, z_iv, z_ih, z_iz, z_izn, z_i2, z_ia, z_io, z_ina, z_8, Classical.not_not, zv_8 h1]
def zrs (σ : zR) (s i : Nat) (b : Int32) : zR := if b = 3 ∧ ¬ σ s i 0 = 0 then zw (zw (zw σ s i 0 (σ s i 0 + 1)) s i 1 0) s i 2 0 else if b < 2 then (if b = 1 then zw σ s i 2 (σ s i 2 + 1) else σ) else zw (zw σ s i 1 (σ s i 1 + 1)) s i 2 0
theorem c101 {d s i : Nat} {b : Int32} {G : zG} {σ : zR} {o : zmO} (h1 : zV G s i) : zm_Calls (d + 1) 101 [.inr (.inr (some (s, i))), .inl b] (zh G σ) o ↔ o = (none, zh G (zrs σ s i b)) := by
  simp only [i101, x101_0, x101_1, x101_2, x101_5, x101_6, x101_9, x101_12, x101_13, x101_14, x101_17, x101_18, x101_19, x101_22, x101_23, x101_24, x101_27, x101_28, x101_29, x101_32, x101_73, x101_35, x101_36, x101_37, x101_40, x101_41, x101_42, x101_45, x101_46, x101_47, x101_50, x101_51, x101_52, x101_55, x101_58, x101_59, x101_60, x101_63, x101_64, x101_65, x101_68, x101_69, x101_70, zv_o h1, zv_f0 h1, zv_f1 h1, zv_f2 h1, zv_f3 h1, zv_g0 h1, zv_g1 h1, zv_g2 h1, zv_p0 h1, zv_p1 h1, zv_p2 h1, true_and, and_true, zf_i, zf_0, zf_1, zb_fit, z_ex, Option.toList_some, Option.toList_none, List.cons_append, List.nil_append, zb_0, z_ie, z_iv, z_ih, z_iz, z_izn, z_i2, z_ia, z_io, z_ina, z_8, Classical.not_not, zv_8 h1]
  unfold zrs
  by_cases h3 : b = 3
  · by_cases h4 : σ s i 0 = 0
    · simp only [h3, h4, if_true, not_true_eq_false, and_false, if_false]
    · simp only [h3, h4, if_true, if_false, not_false_eq_true, and_true]
  · simp only [h3, if_false, false_and]
theorem z_n7 {s i : Nat} : zm_n7 (some (s, i)) = decide (s ≠ 7) := rfl
theorem z_n70 : zm_n7 none = true := rfl
theorem c42 {d i : Nat} {q v : Int32} {G : zG} {σ : zR} {o : zmO} (hi : i < G.2.2.1) : zm_Calls (d + 1) 42 [.inr (.inr (some (37, i))), .inl q, .inl v] (zh G σ) o ↔ if q < 0 then o = (none, zh G σ) else if q < 10 then vp_in q 10 ∧ o = (none, zh G (zw σ 41 i q.toNatClampNeg v)) else o = (none, zh G σ) := by
  simp only [i42, x42_0, x42_1, x42_4, x42_5, x42_6, x42_9, x42_10, x42_13, x42_14, x42_17, x42_18, x42_19, x42_20, zf37_0, zf37_1, zf37_2, zf37_3, zf37_4, zf37_5, zf37_6, zf37_7, zf37_8, zq37_0, zq37_1, zq37_2, zq37_3, zq37_4, zq37_5, zq37_6, zq37_7, zq37_8, zp37_0, zp37_5, zp37_6, zp37_7, zp37_8, zo37, za41, zn41, zi41, zl41, zt41, hi, true_and, and_true, zf_i, zf_0, zf_1, zb_fit, z_ex, Option.toList_some, Option.toList_none, List.cons_append, List.nil_append, zb_0, z_ie, z_iv, z_ih, z_iz, z_izn, z_i2, z_ia, z_io, z_ina, z_8, Classical.not_not, Nat.reduceLeDiff]
theorem c109 {d i : Nat} {q : Int32} {G : zG} {σ : zR} {o : zmO} (hi : i < G.2.2.1) : zm_Calls (d + 1) 109 [.inr (.inr (some (37, i))), .inl q] (zh G σ) o ↔ if q < 0 then o = (some (.inl 3), zh G σ) else if q < 10 then vp_in q 10 ∧ o = (some (.inl (σ 41 i q.toNatClampNeg)), zh G σ) else o = (some (.inl 3), zh G σ) := by
  simp only [i109, x109_0, x109_1, x109_4, x109_5, x109_6, x109_9, x109_10, x109_13, x109_14, x109_17, x109_18, x109_19, x109_23, x109_22, zf37_0, zf37_1, zf37_2, zf37_3, zf37_4, zf37_5, zf37_6, zf37_7, zf37_8, zq37_0, zq37_1, zq37_2, zq37_3, zq37_4, zq37_5, zq37_6, zq37_7, zq37_8, zp37_0, zp37_5, zp37_6, zp37_7, zp37_8, zo37, za41, zn41, zi41, zl41, zt41, hi, true_and, and_true, zf_i, zf_0, zf_1, zb_fit, z_ex, Option.toList_some, Option.toList_none, List.cons_append, List.nil_append, zb_0, z_ie, z_iv, z_ih, z_iz, z_izn, z_i2, z_ia, z_io, z_ina, z_8, Classical.not_not, Nat.reduceLeDiff]
