set_option maxRecDepth 3000 in
set_option maxHeartbeats 400000 in
theorem z_m8 {k : Nat} : (8 : Int32) * nI k = nI (8 * k) := by rw [show (8 : Int32) = nI 8 from rfl, pk_mul]
section ZT2
variable {G : zG} {σ : zR} {o : zmO}
set_option maxRecDepth 3000 in
set_option maxHeartbeats 400000 in
theorem l_take {d n : Nat} {w : Int64} {c : Int32} : ∀ (m : Nat), m ≤ 8 → ∀ (l : List Int32) (l5 : Option zmV), n + l.length + (zls (zby w) m).length ≤ 60 → (zm_E (zm_Calls (d + 1)) 44 30 [some (.inr (.inr (some (13, 0)))), some (.inr (.inl w)), none, some (.inl c), some (.inl (zsh m)), l5] [] (zh G (zTG 13 1 39 σ n l)) o ↔ o = (some (.inl 1), zh G (zTG 13 1 39 σ n (l ++ zls (zby w) m)))) := by
  intro m
  induction m with
  | zero =>
    intro hm l l5 hl
    rw [x44_30]
    simp only [↓reduceIte, x44_0, x44_1, x44_4, x44_5, x44_6, x44_7, x44_10, x44_11, x44_14, x44_15, x44_16, x44_17, x44_20, x44_21, x44_24, x44_25, x44_26, x44_28, x44_32, x44_35, x44_36, x44_38, x44_41, x44_43, x44_45, x44_48, x44_49, x44_52, x44_53, x44_56, x44_57, x44_60, x44_61, x44_64, x44_65, x44_68, x44_70, x44_71, x44_72, x44_73, x44_74, x44_77, x44_78, x44_79, x44_82, x44_85, x44_88, x44_89, show ((zsh 0 < 0) = True) from eq_true (by decide), zf_1, true_and, zls, List.append_nil]
  | succ m ih =>
    intro hm l l5 hl
    have e : ¬ zsh (m + 1) < 0 := zsh_pos (by omega)
    rw [zls] at hl ⊢
    rw [x44_30]
    by_cases h0 : zby w m = 0
    · rw [if_pos h0, List.nil_append] at hl ⊢
      have h3 := ih (by omega) l (some (.inl 0)) hl
      simp only [↓reduceIte, x44_0, x44_1, x44_4, x44_5, x44_6, x44_7, x44_10, x44_11, x44_14, x44_15, x44_16, x44_17, x44_20, x44_21, x44_24, x44_25, x44_26, x44_28, x44_32, x44_35, x44_36, x44_38, x44_41, x44_43, x44_45, x44_48, x44_49, x44_52, x44_53, x44_56, x44_57, x44_60, x44_61, x44_64, x44_65, x44_68, x44_70, x44_71, x44_72, x44_73, x44_74, x44_77, x44_78, x44_79, x44_82, x44_85, x44_88, x44_89, e, c71, zby_s, h0, z_ex, Option.toList_some, List.cons_append, List.nil_append, zsh_s, h3]
    · rw [if_neg h0] at hl ⊢
      rw [List.length_append, List.length_singleton] at hl
      have h3 := ih (by omega) (l ++ [zby w m]) (some (.inl (zby w m))) (by rw [List.length_append, List.length_singleton]; omega)
      rw [← zTG_add (by decide), List.append_assoc] at h3
      have q1 : nI (n + l.length) < 60 := z_l60 (by omega)
      have q2 : vp_in (nI (n + l.length)) 60 := z_nin (by omega) (by omega)
      have q3 : (nI (n + l.length)).toNatClampNeg = n + l.length := z_cl (by omega)
      simp only [↓reduceIte, x44_0, x44_1, x44_4, x44_5, x44_6, x44_7, x44_10, x44_11, x44_14, x44_15, x44_16, x44_17, x44_20, x44_21, x44_24, x44_25, x44_26, x44_28, x44_32, x44_35, x44_36, x44_38, x44_41, x44_43, x44_45, x44_48, x44_49, x44_52, x44_53, x44_56, x44_57, x44_60, x44_61, x44_64, x44_65, x44_68, x44_70, x44_71, x44_72, x44_73, x44_74, x44_77, x44_78, x44_79, x44_82, x44_85, x44_88, x44_89, e, c71, zby_s, h0, z_ex, Option.toList_some, List.cons_append, List.nil_append, zf13_0, zf13_1, zq13_0, zq13_1, zp13_1, zo13, za39, zn39, zi39, zl39, zt39, zTG_len, q1, q2, q3, zby_c, zw_ap, Nat.reduceEqDiff, false_and, true_and, and_self, zf_i, z_8, Nat.reduceLeDiff, nI_1, zsh_s]
      simp only [List.cons_append, List.nil_append] at h3
      exact h3
set_option maxRecDepth 3000 in
set_option maxHeartbeats 400000 in
theorem b_text_0 {d n : Nat} {w : Int64} (hx : σ 13 0 1 = nI n) (hn : n ≤ 60) (hc : ¬ (∀ k, k < 8 → zok (zby w) k) ∨ 60 < n + (zls (zby w) 8).length) : zm_Calls (d + 4) 11 [.inr (.inr (some (8, 0))), .inr (.inl w)] (zh G σ) o ↔ o = (some (.inl 0), zh G σ) := by
  by_cases hv : ∀ k, k < 8 → zok (zby w) k
  · have h1 : zct (zby w) 8 0 = nI (zls (zby w) 8).length := by
      have := zct_ok (b := zby w) 8 0 hv
      rwa [nI_0, Nat.zero_add] at this
    have h2 : 60 < n + (zls (zby w) 8).length := hc.resolve_left (fun q => q hv)
    have hl := zls_len (b := zby w) 8
    have h3 : ¬ nI (zls (zby w) 8).length = -1 := fun q => absurd (show nI (zls (zby w) 8).length < 0 from by rw [q]; decide) (nI_pos (by omega))
    have h4 : (60 : Int32) < nI (n + (zls (zby w) 8).length) := (nI_ltI (a := 60) (by omega) (by omega)).mpr h2
    simp only [↓reduceIte, true_and, and_true, zf_i, zf_0, zf_1, zb_fit, z_ex, Option.toList_some, Option.toList_none, List.cons_append, List.nil_append, zb_0, z_ie, z_iv, z_ih, z_iz, z_izn, z_i2, z_ia, z_io, z_ina, z_8, Classical.not_not, i11, x11_0, x11_1, x11_4, x11_5, x11_8, i44, x44_0, x44_1, x44_4, x44_5, x44_6, x44_7, x44_10, x44_11, x44_14, x44_15, x44_16, x44_17, x44_20, x44_21, x44_24, x44_25, x44_26, x44_28, x44_32, x44_35, x44_36, x44_38, x44_41, x44_43, x44_45, x44_48, x44_49, x44_52, x44_53, x44_56, x44_57, x44_60, x44_61, x44_64, x44_65, x44_68, x44_70, x44_71, x44_72, x44_73, x44_74, x44_77, x44_78, x44_79, x44_82, x44_85, x44_88, x44_89, zf8_0, zf8_1, zf8_2, zf8_3, zf8_4, zf8_5, zf8_6, zf8_7, zf8_8, zf8_9, zf8_10, zf8_11, zf13_0, zf13_1, zq8_0, zq8_1, zq8_2, zq8_3, zq8_4, zq8_5, zq8_6, zq8_7, zq8_8, zq8_9, zq8_10, zq8_11, zq13_0, zq13_1, zp8_1, zp8_3, zp8_5, zp8_10, zp8_11, zp13_1, zo8, zo13, za39, zn39, zi39, zl39, zt39, c70, h1, h3, hx, nI_add, h4]
  · have h1 : zct (zby w) 8 0 = -1 := zct_no 8 0 hv
    simp only [↓reduceIte, true_and, and_true, zf_i, zf_0, zf_1, zb_fit, z_ex, Option.toList_some, Option.toList_none, List.cons_append, List.nil_append, zb_0, z_ie, z_iv, z_ih, z_iz, z_izn, z_i2, z_ia, z_io, z_ina, z_8, Classical.not_not, i11, x11_0, x11_1, x11_4, x11_5, x11_8, i44, x44_0, x44_1, x44_4, x44_5, x44_6, x44_7, x44_10, x44_11, x44_14, x44_15, x44_16, x44_17, x44_20, x44_21, x44_24, x44_25, x44_26, x44_28, x44_32, x44_35, x44_36, x44_38, x44_41, x44_43, x44_45, x44_48, x44_49, x44_52, x44_53, x44_56, x44_57, x44_60, x44_61, x44_64, x44_65, x44_68, x44_70, x44_71, x44_72, x44_73, x44_74, x44_77, x44_78, x44_79, x44_82, x44_85, x44_88, x44_89, zf8_0, zf8_1, zf8_2, zf8_3, zf8_4, zf8_5, zf8_6, zf8_7, zf8_8, zf8_9, zf8_10, zf8_11, zf13_0, zf13_1, zq8_0, zq8_1, zq8_2, zq8_3, zq8_4, zq8_5, zq8_6, zq8_7, zq8_8, zq8_9, zq8_10, zq8_11, zq13_0, zq13_1, zp8_1, zp8_3, zp8_5, zp8_10, zp8_11, zp13_1, zo8, zo13, za39, zn39, zi39, zl39, zt39, c70, h1]
set_option maxRecDepth 3000 in
set_option maxHeartbeats 400000 in
theorem l_take8 {d n : Nat} {w : Int64} {c : Int32} (hx : σ 13 0 1 = nI n) (h2 : n + (zls (zby w) 8).length ≤ 60) : zm_E (zm_Calls (d + 1)) 44 30 [some (.inr (.inr (some (13, 0)))), some (.inr (.inl w)), none, some (.inl c), some (.inl 56), none] [] (zh G σ) o ↔ o = (some (.inl 1), zh G (zTG 13 1 39 σ n (zls (zby w) 8))) := by
  have h := l_take (G := G) (σ := σ) (o := o) (d := d) (n := n) (w := w) (c := c) 8 (by omega) [] none (by rw [List.length_nil]; omega)
  rw [zTG_0 hx, List.nil_append] at h
  exact h
set_option maxRecDepth 3000 in
set_option maxHeartbeats 400000 in
theorem b_text_1 {d n : Nat} {w : Int64} (hx : σ 13 0 1 = nI n) (hv : ∀ k, k < 8 → zok (zby w) k) (h2 : n + (zls (zby w) 8).length ≤ 60) : zm_Calls (d + 4) 11 [.inr (.inr (some (8, 0))), .inr (.inl w)] (zh G σ) o ↔ o = (some (.inl 1), zh G (zTG 13 1 39 σ n (zls (zby w) 8))) := by
  have h1 : zct (zby w) 8 0 = nI (zls (zby w) 8).length := by
    have := zct_ok (b := zby w) 8 0 hv
    rwa [nI_0, Nat.zero_add] at this
  have hl := zls_len (b := zby w) 8
  have h5 := fun o c => l_take8 (G := G) (σ := σ) (o := o) (d := d + 1) (n := n) (w := w) (c := c) hx h2
  have cc := fun h o => c70 (h := h) (o := o) (d := d) (w := w)
  simp only [h1] at cc
  clear h1
  generalize zls (zby w) 8 = LL at *
  have h3 : ¬ nI LL.length = -1 := fun q => absurd (show nI LL.length < 0 from by rw [q]; decide) (nI_pos (by omega))
  have h4 : ¬ (60 : Int32) < nI (n + LL.length) := fun q => by
    have := (nI_ltI (a := 60) (by omega) (by omega)).mp q
    omega
  simp only [↓reduceIte, true_and, and_true, zf_i, zf_0, zf_1, zb_fit, z_ex, Option.toList_some, Option.toList_none, List.cons_append, List.nil_append, zb_0, z_ie, z_iv, z_ih, z_iz, z_izn, z_i2, z_ia, z_io, z_ina, z_8, Classical.not_not, i11, x11_0, x11_1, x11_4, x11_5, x11_8, i44, x44_0, x44_1, x44_4, x44_5, x44_6, x44_7, x44_10, x44_11, x44_14, x44_15, x44_16, x44_17, x44_20, x44_21, x44_24, x44_25, x44_26, x44_28, x44_32, x44_35, x44_36, x44_38, x44_41, x44_43, x44_45, x44_48, x44_49, x44_52, x44_53, x44_56, x44_57, x44_60, x44_61, x44_64, x44_65, x44_68, x44_70, x44_71, x44_72, x44_73, x44_74, x44_77, x44_78, x44_79, x44_82, x44_85, x44_88, x44_89, zf8_0, zf8_1, zf8_2, zf8_3, zf8_4, zf8_5, zf8_6, zf8_7, zf8_8, zf8_9, zf8_10, zf8_11, zf13_0, zf13_1, zq8_0, zq8_1, zq8_2, zq8_3, zq8_4, zq8_5, zq8_6, zq8_7, zq8_8, zq8_9, zq8_10, zq8_11, zq13_0, zq13_1, zp8_1, zp8_3, zp8_5, zp8_10, zp8_11, zp13_1, zo8, zo13, za39, zn39, zi39, zl39, zt39, cc, h3, hx, nI_add, h4, h5]
set_option maxRecDepth 3000 in
set_option maxHeartbeats 400000 in
theorem l_mt1 {d : Nat} {w : Int64} {Q : Prop} (hQ : (∀ k, k < 8 → zok (zby w) k) → ∀ l5, (zm_E (zm_Calls (d + 1)) 12 69 [some (.inr (.inr (some (9, 0)))), some (.inr (.inl w)), none, some (.inl (nI (zls (zby w) 8).length)), some (.inl (nI 8)), l5] [] (zh G σ) o ↔ Q)) (hN : ¬ (∀ k, k < 8 → zok (zby w) k) → (o = (some (.inl 0), zh G σ) ↔ Q)) :
    ∀ (k j : Nat), j + k = 8 → (∀ i, i < j → zok (zby w) i) → ∀ l5, (zm_E (zm_Calls (d + 1)) 12 10 [some (.inr (.inr (some (9, 0)))), some (.inr (.inl w)), none, some (.inl (nI (zls (zby w) j).length)), some (.inl (nI j)), l5] [] (zh G σ) o ↔ Q) := by
  intro k
  induction k with
  | zero =>
    intro j hj hv l5
    have hj : j = 8 := by omega
    subst hj
    have h := hQ hv l5
    rw [x12_10]
    simp only [↓reduceIte, x12_12, x12_14, show ((nI 8 < 8) = False) from eq_false (by decide), h]
  | succ k ih =>
    intro j hj hv l5
    have h8 : nI j < 8 := (nI_ltI (b := 8) (by omega) (by omega)).mpr (by omega)
    have eb : (w.toUInt64 >>> ((nI (8 * j)).toInt64.toUInt64 &&& Int64.toUInt64 63)).toInt64.toInt32 &&& 255 = zby w j := rfl
    have h3 : zok (zby w) j → ∀ l5, (zm_E (zm_Calls (d + 1)) 12 10 [some (.inr (.inr (some (9, 0)))), some (.inr (.inl w)), none, some (.inl (nI (zls (zby w) (j + 1)).length)), some (.inl (nI (j + 1))), l5] [] (zh G σ) o ↔ Q) := fun hz => ih (j + 1) (by omega) (fun i hi => by
      rcases Nat.lt_or_ge i j with h4 | h4
      · exact hv i h4
      · have : i = j := by omega
        subst this; exact hz)
    rw [x12_10]
    by_cases h0 : zby w j = 0
    · have h4 := h3 (Or.inl h0) (some (.inl 0))
      rw [zls, if_pos h0, List.nil_append] at h4
      simp only [↓reduceIte, x12_0, x12_1, x12_2, x12_5, x12_6, x12_7, x12_8, x12_12, x12_14, x12_17, x12_18, x12_20, x12_22, x12_23, x12_24, x12_25, x12_28, x12_29, x12_31, x12_33, x12_36, x12_38, x12_40, x12_42, x12_45, x12_48, x12_49, x12_50, x12_51, x12_53, x12_56, x12_57, x12_61, x12_62, x12_63, x12_66, x12_60, x12_69, x12_70, x12_73, x12_74, x12_75, x12_77, x12_80, x12_81, x12_82, x12_84, x12_88, x12_91, x12_92, x12_94, x12_96, x12_97, x12_98, x12_99, x12_102, x12_103, x12_105, x12_107, x12_110, x12_134, x12_137, x12_113, x12_114, x12_117, x12_118, x12_121, x12_123, x12_124, x12_125, x12_126, x12_129, x12_130, x12_131, x12_140, x12_141, h8, z_m8, eb, h0, Int32.add_zero, nI_1, h4]
    · by_cases h1 : ¬ zby w j < 32 ∧ ¬ 126 < zby w j
      · have h4 := h3 (Or.inr h1) (some (.inl (zby w j)))
        rw [zls, if_neg h0, List.length_append, List.length_singleton, Nat.add_comm 1] at h4
        simp only [↓reduceIte, x12_0, x12_1, x12_2, x12_5, x12_6, x12_7, x12_8, x12_12, x12_14, x12_17, x12_18, x12_20, x12_22, x12_23, x12_24, x12_25, x12_28, x12_29, x12_31, x12_33, x12_36, x12_38, x12_40, x12_42, x12_45, x12_48, x12_49, x12_50, x12_51, x12_53, x12_56, x12_57, x12_61, x12_62, x12_63, x12_66, x12_60, x12_69, x12_70, x12_73, x12_74, x12_75, x12_77, x12_80, x12_81, x12_82, x12_84, x12_88, x12_91, x12_92, x12_94, x12_96, x12_97, x12_98, x12_99, x12_102, x12_103, x12_105, x12_107, x12_110, x12_134, x12_137, x12_113, x12_114, x12_117, x12_118, x12_121, x12_123, x12_124, x12_125, x12_126, x12_129, x12_130, x12_131, x12_140, x12_141, h8, z_m8, eb, h0, c40, h1, zb, z_10, not_false_eq_true, and_self, z_ex, Option.toList_some, List.cons_append, List.nil_append, nI_1, h4]
      · have hq := hN (fun q => by
          rcases q j (by omega) with z | z
          · exact h0 z
          · exact h1 z)
        simp only [↓reduceIte, x12_0, x12_1, x12_2, x12_5, x12_6, x12_7, x12_8, x12_12, x12_14, x12_17, x12_18, x12_20, x12_22, x12_23, x12_24, x12_25, x12_28, x12_29, x12_31, x12_33, x12_36, x12_38, x12_40, x12_42, x12_45, x12_48, x12_49, x12_50, x12_51, x12_53, x12_56, x12_57, x12_61, x12_62, x12_63, x12_66, x12_60, x12_69, x12_70, x12_73, x12_74, x12_75, x12_77, x12_80, x12_81, x12_82, x12_84, x12_88, x12_91, x12_92, x12_94, x12_96, x12_97, x12_98, x12_99, x12_102, x12_103, x12_105, x12_107, x12_110, x12_134, x12_137, x12_113, x12_114, x12_117, x12_118, x12_121, x12_123, x12_124, x12_125, x12_126, x12_129, x12_130, x12_131, x12_140, x12_141, h8, z_m8, eb, h0, c40, h1, zb, z_ex, Option.toList_some, List.cons_append, List.nil_append, zf_0, true_and, hq]
set_option maxRecDepth 3000 in
set_option maxHeartbeats 400000 in
theorem l_mt2 {d n : Nat} {w : Int64} {c : Int32} : ∀ (m : Nat), m ≤ 8 → ∀ (l : List Int32) (l5 : Option zmV), n + l.length + (zls (zby w) m).length ≤ 60 → (zm_E (zm_Calls d) 12 86 [some (.inr (.inr (some (9, 0)))), some (.inr (.inl w)), none, some (.inl c), some (.inl (nI m + (-1))), l5] [] (zh G (zTG 9 10 23 σ n l)) o ↔ o = (some (.inl 1), zh G (zTG 9 10 23 σ n (l ++ zls (zby w) m)))) := by
  intro m
  induction m with
  | zero =>
    intro hm l l5 hl
    rw [x12_86]
    simp only [↓reduceIte, x12_0, x12_1, x12_2, x12_5, x12_6, x12_7, x12_8, x12_12, x12_14, x12_17, x12_18, x12_20, x12_22, x12_23, x12_24, x12_25, x12_28, x12_29, x12_31, x12_33, x12_36, x12_38, x12_40, x12_42, x12_45, x12_48, x12_49, x12_50, x12_51, x12_53, x12_56, x12_57, x12_61, x12_62, x12_63, x12_66, x12_60, x12_69, x12_70, x12_73, x12_74, x12_75, x12_77, x12_80, x12_81, x12_82, x12_84, x12_88, x12_91, x12_92, x12_94, x12_96, x12_97, x12_98, x12_99, x12_102, x12_103, x12_105, x12_107, x12_110, x12_134, x12_137, x12_113, x12_114, x12_117, x12_118, x12_121, x12_123, x12_124, x12_125, x12_126, x12_129, x12_130, x12_131, x12_140, x12_141, show ((nI 0 + (-1) < 0) = True) from eq_true (by decide), zf_1, true_and, zls, List.append_nil]
  | succ m ih =>
    intro hm l l5 hl
    have e0 : nI (m + 1) + (-1) = nI m := pk_m1 m
    have e : ¬ nI m < 0 := nI_pos (by omega)
    have eb : (w.toUInt64 >>> ((nI (8 * m)).toInt64.toUInt64 &&& Int64.toUInt64 63)).toInt64.toInt32 &&& 255 = zby w m := rfl
    rw [zls] at hl ⊢
    rw [x12_86, e0]
    by_cases h0 : zby w m = 0
    · rw [if_pos h0, List.nil_append] at hl ⊢
      have h3 := ih (by omega) l (some (.inl 0)) hl
      simp only [↓reduceIte, x12_0, x12_1, x12_2, x12_5, x12_6, x12_7, x12_8, x12_12, x12_14, x12_17, x12_18, x12_20, x12_22, x12_23, x12_24, x12_25, x12_28, x12_29, x12_31, x12_33, x12_36, x12_38, x12_40, x12_42, x12_45, x12_48, x12_49, x12_50, x12_51, x12_53, x12_56, x12_57, x12_61, x12_62, x12_63, x12_66, x12_60, x12_69, x12_70, x12_73, x12_74, x12_75, x12_77, x12_80, x12_81, x12_82, x12_84, x12_88, x12_91, x12_92, x12_94, x12_96, x12_97, x12_98, x12_99, x12_102, x12_103, x12_105, x12_107, x12_110, x12_134, x12_137, x12_113, x12_114, x12_117, x12_118, x12_121, x12_123, x12_124, x12_125, x12_126, x12_129, x12_130, x12_131, x12_140, x12_141, e, z_m8, eb, h0, h3]
    · rw [if_neg h0] at hl ⊢
      rw [List.length_append, List.length_singleton] at hl
      have h3 := ih (by omega) (l ++ [zby w m]) (some (.inl (zby w m))) (by rw [List.length_append, List.length_singleton]; omega)
      rw [← zTG_add (by decide), List.append_assoc] at h3
      have q2 : vp_in (nI (n + l.length)) 60 := z_nin (by omega) (by omega)
      have q3 : (nI (n + l.length)).toNatClampNeg = n + l.length := z_cl (by omega)
      simp only [↓reduceIte, x12_0, x12_1, x12_2, x12_5, x12_6, x12_7, x12_8, x12_12, x12_14, x12_17, x12_18, x12_20, x12_22, x12_23, x12_24, x12_25, x12_28, x12_29, x12_31, x12_33, x12_36, x12_38, x12_40, x12_42, x12_45, x12_48, x12_49, x12_50, x12_51, x12_53, x12_56, x12_57, x12_61, x12_62, x12_63, x12_66, x12_60, x12_69, x12_70, x12_73, x12_74, x12_75, x12_77, x12_80, x12_81, x12_82, x12_84, x12_88, x12_91, x12_92, x12_94, x12_96, x12_97, x12_98, x12_99, x12_102, x12_103, x12_105, x12_107, x12_110, x12_134, x12_137, x12_113, x12_114, x12_117, x12_118, x12_121, x12_123, x12_124, x12_125, x12_126, x12_129, x12_130, x12_131, x12_140, x12_141, e, z_m8, eb, h0, zf9_0, zf9_1, zf9_2, zf9_3, zf9_4, zf9_5, zf9_6, zf9_7, zf9_8, zf9_9, zf9_10, zf9_11, zf9_12, zf9_13, zf9_14, zf9_15, zf9_16, zf9_17, zf9_18, zf9_19, zf9_20, zf9_21, zf9_22, zf9_23, zf9_24, zf9_25, zf9_26, zf9_27, zf9_28, zf9_29, zf9_30, zf9_31, zq9_0, zq9_1, zq9_2, zq9_3, zq9_4, zq9_5, zq9_6, zq9_7, zq9_8, zq9_9, zq9_10, zq9_11, zq9_12, zq9_13, zq9_14, zq9_15, zq9_16, zq9_17, zq9_18, zq9_19, zq9_20, zq9_21, zq9_22, zq9_23, zq9_24, zq9_25, zq9_26, zq9_27, zq9_28, zq9_29, zq9_30, zq9_31, zp9_0, zp9_1, zp9_8, zp9_10, zp9_11, zp9_18, zp9_19, zp9_20, zp9_21, zp9_23, zp9_25, zp9_28, zo9, za23, zn23, zi23, zl23, zt23, zTG_len, q2, q3, zw_ap, Nat.reduceEqDiff, false_and, true_and, and_self, zf_i, z_8, Nat.reduceLeDiff, nI_1]
      simp only [List.cons_append, List.nil_append] at h3
      exact h3
set_option maxRecDepth 3000 in
set_option maxHeartbeats 400000 in
theorem m_text_0 {d n : Nat} {w : Int64} (hx : σ 9 0 10 = nI n) (hn : n ≤ 60) (hc : ¬ (∀ k, k < 8 → zok (zby w) k) ∨ 60 < n + (zls (zby w) 8).length) : zm_Calls (d + 2) 12 [.inr (.inr (some (9, 0))), .inr (.inl w)] (zh G σ) o ↔ o = (some (.inl 0), zh G (zw σ 9 0 0 0)) := by
  have hl := zls_len (b := zby w) 8
  have hx2 : zw σ 9 0 0 0 9 0 10 = nI n := hx
  have h1 := l_mt1 (G := G) (σ := zw σ 9 0 0 0) (o := o) (d := d) (w := w) (Q := o = (some (.inl 0), zh G (zw σ 9 0 0 0))) (fun hv l5 => by
    have h2 : 60 < n + (zls (zby w) 8).length := hc.resolve_left (fun q => q hv)
    have h4 : (60 : Int32) < nI (n + (zls (zby w) 8).length) := (nI_ltI (a := 60) (by omega) (by omega)).mpr h2
    simp only [↓reduceIte, x12_0, x12_1, x12_2, x12_5, x12_6, x12_7, x12_8, x12_12, x12_14, x12_17, x12_18, x12_20, x12_22, x12_23, x12_24, x12_25, x12_28, x12_29, x12_31, x12_33, x12_36, x12_38, x12_40, x12_42, x12_45, x12_48, x12_49, x12_50, x12_51, x12_53, x12_56, x12_57, x12_61, x12_62, x12_63, x12_66, x12_60, x12_69, x12_70, x12_73, x12_74, x12_75, x12_77, x12_80, x12_81, x12_82, x12_84, x12_88, x12_91, x12_92, x12_94, x12_96, x12_97, x12_98, x12_99, x12_102, x12_103, x12_105, x12_107, x12_110, x12_134, x12_137, x12_113, x12_114, x12_117, x12_118, x12_121, x12_123, x12_124, x12_125, x12_126, x12_129, x12_130, x12_131, x12_140, x12_141, zf9_0, zf9_1, zf9_2, zf9_3, zf9_4, zf9_5, zf9_6, zf9_7, zf9_8, zf9_9, zf9_10, zf9_11, zf9_12, zf9_13, zf9_14, zf9_15, zf9_16, zf9_17, zf9_18, zf9_19, zf9_20, zf9_21, zf9_22, zf9_23, zf9_24, zf9_25, zf9_26, zf9_27, zf9_28, zf9_29, zf9_30, zf9_31, zq9_0, zq9_1, zq9_2, zq9_3, zq9_4, zq9_5, zq9_6, zq9_7, zq9_8, zq9_9, zq9_10, zq9_11, zq9_12, zq9_13, zq9_14, zq9_15, zq9_16, zq9_17, zq9_18, zq9_19, zq9_20, zq9_21, zq9_22, zq9_23, zq9_24, zq9_25, zq9_26, zq9_27, zq9_28, zq9_29, zq9_30, zq9_31, zp9_0, zp9_1, zp9_8, zp9_10, zp9_11, zp9_18, zp9_19, zp9_20, zp9_21, zp9_23, zp9_25, zp9_28, zo9, hx2, nI_add, h4, zf_0, true_and]) (fun _ => Iff.rfl) 8 0 (by omega) (fun i hi => absurd hi (Nat.not_lt_zero i)) none
  rw [show (zls (zby w) 0).length = 0 from rfl, nI_0] at h1
  simp only [i12, x12_0, x12_1, x12_2, x12_5, x12_6, x12_7, x12_8, zf9_0, zf9_1, zf9_2, zf9_3, zf9_4, zf9_5, zf9_6, zf9_7, zf9_8, zf9_9, zf9_10, zf9_11, zf9_12, zf9_13, zf9_14, zf9_15, zf9_16, zf9_17, zf9_18, zf9_19, zf9_20, zf9_21, zf9_22, zf9_23, zf9_24, zf9_25, zf9_26, zf9_27, zf9_28, zf9_29, zf9_30, zf9_31, zq9_0, zq9_1, zq9_2, zq9_3, zq9_4, zq9_5, zq9_6, zq9_7, zq9_8, zq9_9, zq9_10, zq9_11, zq9_12, zq9_13, zq9_14, zq9_15, zq9_16, zq9_17, zq9_18, zq9_19, zq9_20, zq9_21, zq9_22, zq9_23, zq9_24, zq9_25, zq9_26, zq9_27, zq9_28, zq9_29, zq9_30, zq9_31, zp9_0, zp9_1, zp9_8, zp9_10, zp9_11, zp9_18, zp9_19, zp9_20, zp9_21, zp9_23, zp9_25, zp9_28, zo9, true_and, and_self, zf_i, z_8, Nat.reduceLeDiff, h1]
set_option maxRecDepth 3000 in
set_option maxHeartbeats 400000 in
theorem l_mt28 {d n : Nat} {w : Int64} {c : Int32} {l5 : Option zmV} (hx : σ 9 0 10 = nI n) (h2 : n + (zls (zby w) 8).length ≤ 60) : zm_E (zm_Calls d) 12 86 [some (.inr (.inr (some (9, 0)))), some (.inr (.inl w)), none, some (.inl c), some (.inl 7), l5] [] (zh G σ) o ↔ o = (some (.inl 1), zh G (zTG 9 10 23 σ n (zls (zby w) 8))) := by
  have h := l_mt2 (G := G) (σ := σ) (o := o) (d := d) (n := n) (w := w) (c := c) 8 (by omega) [] l5 (by rw [List.length_nil]; omega)
  rw [zTG_0 hx, List.nil_append, pk_m1 7] at h
  exact h
set_option maxRecDepth 3000 in
set_option maxHeartbeats 400000 in
theorem m_text_1 {d n : Nat} {w : Int64} (hx : σ 9 0 10 = nI n) (hv : ∀ k, k < 8 → zok (zby w) k) (h2 : n + (zls (zby w) 8).length ≤ 60) : zm_Calls (d + 2) 12 [.inr (.inr (some (9, 0))), .inr (.inl w)] (zh G σ) o ↔ o = (some (.inl 1), zh G (zTG 9 10 23 (zw σ 9 0 0 0) n (zls (zby w) 8))) := by
  have hl := zls_len (b := zby w) 8
  have hx2 : zw σ 9 0 0 0 9 0 10 = nI n := hx
  have h5 := fun c l5 => l_mt28 (G := G) (σ := zw σ 9 0 0 0) (o := o) (d := d + 1) (n := n) (w := w) (c := c) (l5 := l5) hx2 h2
  have h1 := l_mt1 (G := G) (σ := zw σ 9 0 0 0) (o := o) (d := d) (w := w) (Q := o = (some (.inl 1), zh G (zTG 9 10 23 (zw σ 9 0 0 0) n (zls (zby w) 8)))) (fun hv l5 => by
    generalize zls (zby w) 8 = LL at *
    have h4 : ¬ (60 : Int32) < nI (n + LL.length) := fun q => by
      have := (nI_ltI (a := 60) (by omega) (by omega)).mp q
      omega
    simp only [↓reduceIte, x12_0, x12_1, x12_2, x12_5, x12_6, x12_7, x12_8, x12_12, x12_14, x12_17, x12_18, x12_20, x12_22, x12_23, x12_24, x12_25, x12_28, x12_29, x12_31, x12_33, x12_36, x12_38, x12_40, x12_42, x12_45, x12_48, x12_49, x12_50, x12_51, x12_53, x12_56, x12_57, x12_61, x12_62, x12_63, x12_66, x12_60, x12_69, x12_70, x12_73, x12_74, x12_75, x12_77, x12_80, x12_81, x12_82, x12_84, x12_88, x12_91, x12_92, x12_94, x12_96, x12_97, x12_98, x12_99, x12_102, x12_103, x12_105, x12_107, x12_110, x12_134, x12_137, x12_113, x12_114, x12_117, x12_118, x12_121, x12_123, x12_124, x12_125, x12_126, x12_129, x12_130, x12_131, x12_140, x12_141, zf9_0, zf9_1, zf9_2, zf9_3, zf9_4, zf9_5, zf9_6, zf9_7, zf9_8, zf9_9, zf9_10, zf9_11, zf9_12, zf9_13, zf9_14, zf9_15, zf9_16, zf9_17, zf9_18, zf9_19, zf9_20, zf9_21, zf9_22, zf9_23, zf9_24, zf9_25, zf9_26, zf9_27, zf9_28, zf9_29, zf9_30, zf9_31, zq9_0, zq9_1, zq9_2, zq9_3, zq9_4, zq9_5, zq9_6, zq9_7, zq9_8, zq9_9, zq9_10, zq9_11, zq9_12, zq9_13, zq9_14, zq9_15, zq9_16, zq9_17, zq9_18, zq9_19, zq9_20, zq9_21, zq9_22, zq9_23, zq9_24, zq9_25, zq9_26, zq9_27, zq9_28, zq9_29, zq9_30, zq9_31, zp9_0, zp9_1, zp9_8, zp9_10, zp9_11, zp9_18, zp9_19, zp9_20, zp9_21, zp9_23, zp9_25, zp9_28, zo9, hx2, nI_add, h4, true_and, h5]) (fun q => absurd hv q) 8 0 (by omega) (fun i hi => absurd hi (Nat.not_lt_zero i)) none
  rw [show (zls (zby w) 0).length = 0 from rfl, nI_0] at h1
  generalize zls (zby w) 8 = LL at *
  simp only [i12, x12_0, x12_1, x12_2, x12_5, x12_6, x12_7, x12_8, zf9_0, zf9_1, zf9_2, zf9_3, zf9_4, zf9_5, zf9_6, zf9_7, zf9_8, zf9_9, zf9_10, zf9_11, zf9_12, zf9_13, zf9_14, zf9_15, zf9_16, zf9_17, zf9_18, zf9_19, zf9_20, zf9_21, zf9_22, zf9_23, zf9_24, zf9_25, zf9_26, zf9_27, zf9_28, zf9_29, zf9_30, zf9_31, zq9_0, zq9_1, zq9_2, zq9_3, zq9_4, zq9_5, zq9_6, zq9_7, zq9_8, zq9_9, zq9_10, zq9_11, zq9_12, zq9_13, zq9_14, zq9_15, zq9_16, zq9_17, zq9_18, zq9_19, zq9_20, zq9_21, zq9_22, zq9_23, zq9_24, zq9_25, zq9_26, zq9_27, zq9_28, zq9_29, zq9_30, zq9_31, zp9_0, zp9_1, zp9_8, zp9_10, zp9_11, zp9_18, zp9_19, zp9_20, zp9_21, zp9_23, zp9_25, zp9_28, zo9, true_and, and_self, zf_i, z_8, Nat.reduceLeDiff, h1]
end ZT2
