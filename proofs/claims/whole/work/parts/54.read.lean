def zlc (t : Nat → Int32) : Nat → Nat → Nat
  | 0, _ => 0
  | k + 1, a => if t a < 97 then 0 else if 122 < t a then 0 else zlc t k (a + 1) + 1
set_option maxRecDepth 3000 in
set_option maxHeartbeats 400000 in
theorem zlc_le {t : Nat → Int32} : ∀ k a, zlc t k a ≤ k
  | 0, _ => Nat.le_refl _
  | k + 1, a => by
    rw [zlc]
    split
    · omega
    · split
      · omega
      · have := zlc_le (t := t) k (a + 1)
        omega
set_option maxRecDepth 3000 in
set_option maxHeartbeats 400000 in
theorem nI_s8 {m : Nat} : nI (m + 8) - 8 = nI m := by
  rw [← nI_add]; exact Int32.add_sub_cancel _ _
set_option maxRecDepth 3000 in
set_option maxHeartbeats 400000 in
theorem nI_s1 {m : Nat} : nI (m + 1) - 1 = nI m := by
  rw [← nI_add]; exact Int32.add_sub_cancel _ _
set_option maxRecDepth 3000 in
set_option maxHeartbeats 400000 in
theorem z_s8 : ∀ n, n < 8 → nI n - 8 < 0 := by decide +kernel
set_option maxRecDepth 3000 in
set_option maxHeartbeats 400000 in
theorem z_s8f {n f : Nat} (hn : n < 8) (hf : f < 1000) : nI n - 8 < nI f := by
  rcases Int32.lt_or_le (nI n - 8) (nI f) with h | h
  · exact h
  · exact absurd (Int32.lt_of_le_of_lt h (z_s8 n hn)) (z_not0 hf)
section ZS2
variable {G : zG} {σ : zR} {o : zmO}
set_option maxRecDepth 3000 in
set_option maxHeartbeats 400000 in
theorem l_cl {d n : Nat} {l1 : Option zmV} (ht : zTape σ n) : ∀ (k a c : Nat), a + k = n → (zm_E (zm_Calls (d + 1)) 96 4 [some (.inr (.inr (some (13, 0)))), l1, some (.inl (nI c)), some (.inl (nI a))] [] (zh G σ) o ↔ o = (some (.inl (nI (c + zlc (zat (σ 39 0) n) k a))), zh G σ)) := by
  have t2 := ht.2.1
  intro k
  induction k with
  | zero =>
    intro a c ha
    have e : ¬ nI a < nI n := z_nltI (by omega) (by omega) (by omega)
    rw [x96_4]
    simp only [↓reduceIte, true_and, and_true, zf_i, zf_0, zf_1, zb_fit, z_ex, Option.toList_some, Option.toList_none, List.cons_append, List.nil_append, zb_0, z_ie, z_iv, z_ih, z_iz, z_izn, z_i2, z_ia, z_io, z_ina, z_8, Classical.not_not, x96_0, x96_1, x96_2, x96_3, x96_5, x96_6, x96_9, x96_12, x96_13, x96_14, x96_17, x96_19, x96_22, x96_23, x96_24, x96_27, x96_29, x96_32, x96_44, x96_45, x96_35, x96_38, x96_41, zf13_0, zf13_1, zq13_0, zq13_1, zp13_1, zo13, ht.1, e, zlc, Nat.add_zero]
  | succ k ih =>
    intro a c ha
    have e : nI a < nI n := z_ltI (by omega) (by omega)
    have h3 := ih (a + 1) (c + 1) (by omega)
    have ht2 := fun o => t_at (G := G) (o := o) (d := d) ht (show a < 1000 by omega)
    rw [x96_4, zlc]
    generalize zat (σ 39 0) n = t at *
    by_cases h1 : t a < 97
    · simp only [↓reduceIte, true_and, and_true, zf_i, zf_0, zf_1, zb_fit, z_ex, Option.toList_some, Option.toList_none, List.cons_append, List.nil_append, zb_0, z_ie, z_iv, z_ih, z_iz, z_izn, z_i2, z_ia, z_io, z_ina, z_8, Classical.not_not, x96_0, x96_1, x96_2, x96_3, x96_5, x96_6, x96_9, x96_12, x96_13, x96_14, x96_17, x96_19, x96_22, x96_23, x96_24, x96_27, x96_29, x96_32, x96_44, x96_45, x96_35, x96_38, x96_41, zf13_0, zf13_1, zq13_0, zq13_1, zp13_1, zo13, ht.1, e, ht2, h1, Nat.add_zero]
    · by_cases h2 : 122 < t a
      · simp only [↓reduceIte, true_and, and_true, zf_i, zf_0, zf_1, zb_fit, z_ex, Option.toList_some, Option.toList_none, List.cons_append, List.nil_append, zb_0, z_ie, z_iv, z_ih, z_iz, z_izn, z_i2, z_ia, z_io, z_ina, z_8, Classical.not_not, x96_0, x96_1, x96_2, x96_3, x96_5, x96_6, x96_9, x96_12, x96_13, x96_14, x96_17, x96_19, x96_22, x96_23, x96_24, x96_27, x96_29, x96_32, x96_44, x96_45, x96_35, x96_38, x96_41, zf13_0, zf13_1, zq13_0, zq13_1, zp13_1, zo13, ht.1, e, ht2, h1, h2, Nat.add_zero]
      · simp only [↓reduceIte, true_and, and_true, zf_i, zf_0, zf_1, zb_fit, z_ex, Option.toList_some, Option.toList_none, List.cons_append, List.nil_append, zb_0, z_ie, z_iv, z_ih, z_iz, z_izn, z_i2, z_ia, z_io, z_ina, z_8, Classical.not_not, x96_0, x96_1, x96_2, x96_3, x96_5, x96_6, x96_9, x96_12, x96_13, x96_14, x96_17, x96_19, x96_22, x96_23, x96_24, x96_27, x96_29, x96_32, x96_44, x96_45, x96_35, x96_38, x96_41, zf13_0, zf13_1, zq13_0, zq13_1, zp13_1, zo13, ht.1, e, ht2, h1, h2, nI_1, h3]
        rw [show c + 1 + zlc t k (a + 1) = c + (zlc t k (a + 1) + 1) by omega]
set_option maxRecDepth 3000 in
set_option maxHeartbeats 400000 in
theorem c96 {d n a : Nat} (ht : zTape σ n) (ha : a < 1000) : zm_Calls (d + 2) 96 [.inr (.inr (some (13, 0))), .inl (nI a)] (zh G σ) o ↔ o = (some (.inl (nI (zlc (zat (σ 39 0) n) (n - a) a))), zh G σ) := by
  have t2 := ht.2.1
  by_cases h : a ≤ n
  · have h1 := l_cl (G := G) (o := o) (d := d) (l1 := some (.inl (nI a))) ht (n - a) a 0 (by omega)
    rw [nI_0, Nat.zero_add] at h1
    simp only [i96, x96_0, x96_1, x96_2, x96_3, x96_5, x96_6, x96_9, x96_12, x96_13, x96_14, x96_17, x96_19, x96_22, x96_23, x96_24, x96_27, x96_29, x96_32, x96_44, x96_45, x96_35, x96_38, x96_41, h1]
  · have e : ¬ nI a < nI n := z_nltI (by omega) (by omega) (by omega)
    rw [show n - a = 0 by omega]
    simp only [↓reduceIte, true_and, and_true, zf_i, zf_0, zf_1, zb_fit, z_ex, Option.toList_some, Option.toList_none, List.cons_append, List.nil_append, zb_0, z_ie, z_iv, z_ih, z_iz, z_izn, z_i2, z_ia, z_io, z_ina, z_8, Classical.not_not, i96, x96_0, x96_1, x96_2, x96_3, x96_4, x96_5, x96_6, x96_9, x96_12, x96_13, x96_14, x96_17, x96_19, x96_22, x96_23, x96_24, x96_27, x96_29, x96_32, x96_44, x96_45, x96_35, x96_38, x96_41, zf13_0, zf13_1, zq13_0, zq13_1, zp13_1, zo13, ht.1, e, zlc, nI_0]
def zEb (t : Nat → Int32) (n f : Nat) : Prop := f + 8 ≤ n ∧ zhs t 6 (n - 8) ∧ (n - 8 = f ∨ t (n - 8 - 1) = 32)
set_option maxRecDepth 3000 in
set_option maxHeartbeats 400000 in
theorem c98 {d n f : Nat} (ht : zTape σ n) (hf : f < 1000) : zm_Calls (d + 6) 98 [.inr (.inr (some (13, 0))), .inl (nI f)] (zh G σ) o ↔ o = (some (.inl (zbc (zEb (zat (σ 39 0) n) n f))), zh G σ) := by
  have t2 := ht.2.1
  have hl : ∀ d o, zm_Calls (d + 2) 94 [.inr (.inr (some (1, 6)))] (zh G σ) o ↔ o = (some (.inl 8), zh G σ) := fun d o => c94 (show 6 < 7 by omega)
  by_cases h8 : n < 8
  · rw [zbc_f (fun q => by have := q.1; omega)]
    simp only [↓reduceIte, true_and, and_true, zf_i, zf_0, zf_1, zb_fit, z_ex, Option.toList_some, Option.toList_none, List.cons_append, List.nil_append, zb_0, z_ie, z_iv, z_ih, z_iz, z_izn, z_i2, z_ia, z_io, z_ina, z_8, Classical.not_not, i98, x98_0, x98_1, x98_4, x98_6, x98_9, x98_10, x98_11, x98_12, x98_13, x98_16, x98_17, x98_19, x98_20, x98_23, x98_26, x98_27, x98_28, x98_29, x98_30, x98_33, x98_34, x98_35, x98_36, x98_37, x98_40, x98_42, x98_45, x98_46, x98_50, x98_49, zf13_0, zf13_1, zq13_0, zq13_1, zp13_1, zo13, c97, ht.1, zo1 (show 6 < 7 by omega), hl, z_s8f h8 hf]
  · obtain ⟨m, rfl⟩ : ∃ m, n = m + 8 := ⟨n - 8, by omega⟩
    by_cases h1 : m < f
    · rw [zbc_f (fun q => by have := q.1; omega)]
      simp only [↓reduceIte, true_and, and_true, zf_i, zf_0, zf_1, zb_fit, z_ex, Option.toList_some, Option.toList_none, List.cons_append, List.nil_append, zb_0, z_ie, z_iv, z_ih, z_iz, z_izn, z_i2, z_ia, z_io, z_ina, z_8, Classical.not_not, i98, x98_0, x98_1, x98_4, x98_6, x98_9, x98_10, x98_11, x98_12, x98_13, x98_16, x98_17, x98_19, x98_20, x98_23, x98_26, x98_27, x98_28, x98_29, x98_30, x98_33, x98_34, x98_35, x98_36, x98_37, x98_40, x98_42, x98_45, x98_46, x98_50, x98_49, zf13_0, zf13_1, zq13_0, zq13_1, zp13_1, zo13, c97, ht.1, zo1 (show 6 < 7 by omega), hl, nI_s8, z_ltI h1 hf]
    · have e1 : ¬ nI m < nI f := z_nltI h1 (by omega) hf
      have hh := fun o => t_has (G := G) (o := o) (d := d) ht (show 6 < 7 by omega) (show m < 100 by omega)
      by_cases h2 : zhs (zat (σ 39 0) (m + 8)) 6 m
      · by_cases h3 : m = f
        · subst h3
          rw [zbc_t ⟨by omega, by rw [Nat.add_sub_cancel]; exact h2, Or.inl (by omega)⟩]
          simp only [↓reduceIte, true_and, and_true, zf_i, zf_0, zf_1, zb_fit, z_ex, Option.toList_some, Option.toList_none, List.cons_append, List.nil_append, zb_0, z_ie, z_iv, z_ih, z_iz, z_izn, z_i2, z_ia, z_io, z_ina, z_8, Classical.not_not, i98, x98_0, x98_1, x98_4, x98_6, x98_9, x98_10, x98_11, x98_12, x98_13, x98_16, x98_17, x98_19, x98_20, x98_23, x98_26, x98_27, x98_28, x98_29, x98_30, x98_33, x98_34, x98_35, x98_36, x98_37, x98_40, x98_42, x98_45, x98_46, x98_50, x98_49, zf13_0, zf13_1, zq13_0, zq13_1, zp13_1, zo13, c97, ht.1, zo1 (show 6 < 7 by omega), hl, nI_s8, e1, hh, zbc_t h2, z_10]
        · have e3 : ¬ nI m = nI f := fun q => h3 (by
            have := congrArg Int32.toNatClampNeg q
            rwa [z_cl (by omega), z_cl hf] at this)
          obtain ⟨g, rfl⟩ : ∃ g, m = g + 1 := ⟨m - 1, by omega⟩
          have hg := fun o => t_at (G := G) (o := o) (d := d + 4) ht (show g < 1000 by omega)
          by_cases h4 : zat (σ 39 0) (g + 1 + 8) g = 32
          · rw [zbc_t ⟨by omega, by rw [Nat.add_sub_cancel]; exact h2, Or.inr (by rw [Nat.add_sub_cancel, Nat.add_sub_cancel]; exact h4)⟩]
            simp only [↓reduceIte, true_and, and_true, zf_i, zf_0, zf_1, zb_fit, z_ex, Option.toList_some, Option.toList_none, List.cons_append, List.nil_append, zb_0, z_ie, z_iv, z_ih, z_iz, z_izn, z_i2, z_ia, z_io, z_ina, z_8, Classical.not_not, i98, x98_0, x98_1, x98_4, x98_6, x98_9, x98_10, x98_11, x98_12, x98_13, x98_16, x98_17, x98_19, x98_20, x98_23, x98_26, x98_27, x98_28, x98_29, x98_30, x98_33, x98_34, x98_35, x98_36, x98_37, x98_40, x98_42, x98_45, x98_46, x98_50, x98_49, zf13_0, zf13_1, zq13_0, zq13_1, zp13_1, zo13, c97, ht.1, zo1 (show 6 < 7 by omega), hl, nI_s8, e1, hh, zbc_t h2, z_10, e3, nI_s1, hg, h4]
          · rw [zbc_f (fun q => by
              have q2 := q.2.2
              rw [Nat.add_sub_cancel, Nat.add_sub_cancel] at q2
              exact q2.elim h3 h4)]
            simp only [↓reduceIte, true_and, and_true, zf_i, zf_0, zf_1, zb_fit, z_ex, Option.toList_some, Option.toList_none, List.cons_append, List.nil_append, zb_0, z_ie, z_iv, z_ih, z_iz, z_izn, z_i2, z_ia, z_io, z_ina, z_8, Classical.not_not, i98, x98_0, x98_1, x98_4, x98_6, x98_9, x98_10, x98_11, x98_12, x98_13, x98_16, x98_17, x98_19, x98_20, x98_23, x98_26, x98_27, x98_28, x98_29, x98_30, x98_33, x98_34, x98_35, x98_36, x98_37, x98_40, x98_42, x98_45, x98_46, x98_50, x98_49, zf13_0, zf13_1, zq13_0, zq13_1, zp13_1, zo13, c97, ht.1, zo1 (show 6 < 7 by omega), hl, nI_s8, e1, hh, zbc_t h2, z_10, e3, nI_s1, hg, h4]
      · rw [zbc_f (fun q => h2 (by have := q.2.1; rwa [Nat.add_sub_cancel] at this))]
        simp only [↓reduceIte, true_and, and_true, zf_i, zf_0, zf_1, zb_fit, z_ex, Option.toList_some, Option.toList_none, List.cons_append, List.nil_append, zb_0, z_ie, z_iv, z_ih, z_iz, z_izn, z_i2, z_ia, z_io, z_ina, z_8, Classical.not_not, i98, x98_0, x98_1, x98_4, x98_6, x98_9, x98_10, x98_11, x98_12, x98_13, x98_16, x98_17, x98_19, x98_20, x98_23, x98_26, x98_27, x98_28, x98_29, x98_30, x98_33, x98_34, x98_35, x98_36, x98_37, x98_40, x98_42, x98_45, x98_46, x98_50, x98_49, zf13_0, zf13_1, zq13_0, zq13_1, zp13_1, zo13, c97, ht.1, zo1 (show 6 < 7 by omega), hl, nI_s8, e1, hh, zbc_f h2]
end ZS2
