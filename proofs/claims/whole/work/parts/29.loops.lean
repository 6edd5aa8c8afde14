def zTg (σ : zR) (p t : Nat) : Prop := σ 38 t 0 = σ 37 p 0 ∧ σ 46 t 0 = σ 42 p 0 ∧ σ 46 t 1 = σ 42 p 1 ∧ σ 46 t 2 = σ 42 p 2 ∧ σ 46 t 3 = σ 42 p 3
section ZL2
variable {G : zG} {σ : zR} {o : zmO}
theorem l_tagged {d p : Nat} (hp : p < G.2.2.1) (hn : G.2.2.2.2 ≤ 100) : ∀ (k j : Nat), j + k = G.2.2.2.2 → (∀ t, t < j → ¬ zTg σ p t) → ∀ (l5 : Option zmV), zm_E (zm_Calls (d + 2)) 66 11 [some (.inr (.inr (some (8, 0)))), some (.inr (.inr (some (37, p)))), some (.inr (.inr (some (12, 0)))), some (.inl 100), some (.inl (nI j)), l5] [] (zh G σ) o ↔ o = (some (.inl (zbc (∃ t, t < G.2.2.2.2 ∧ zTg σ p t))), zh G σ) := by
  intro k
  induction k with
  | zero =>
    intro j hj hno l5
    have hj : j = G.2.2.2.2 := by omega
    subst hj
    rw [x66_11, zbc_f (fun ⟨t, h1, h2⟩ => hno t h1 h2)]
    by_cases h : G.2.2.2.2 < 100
    · simp only [x66_0, x66_1, x66_4, x66_5, x66_6, x66_7, x66_8, x66_9, x66_13, x66_14, x66_17, x66_18, x66_20, x66_21, x66_23, x66_25, x66_28, x66_48, x66_49, x66_31, x66_33, x66_34, x66_37, x66_40, x66_41, x66_42, x66_45, z_l100 h, if_true, za12, zn12, zi12, zl12, z_nin h (by omega), tk_no (Nat.lt_irrefl _) (by omega : G.2.2.2.2 < 1000), true_and, and_true, zf_i, zf_0, zf_1, zb_fit, z_ex, Option.toList_some, Option.toList_none, List.cons_append, List.nil_append, zb_0, z_ie, z_iv, z_ih, z_iz, z_izn, z_i2, z_ia, z_io, z_ina, z_8, Classical.not_not, z_n70, Nat.reduceLeDiff]
    · simp only [x66_0, x66_1, x66_4, x66_5, x66_6, x66_7, x66_8, x66_9, x66_13, x66_14, x66_17, x66_18, x66_20, x66_21, x66_23, x66_25, x66_28, x66_48, x66_49, x66_31, x66_33, x66_34, x66_37, x66_40, x66_41, x66_42, x66_45, z_g100 h (by omega), if_false, true_and, and_true, zf_i, zf_0, zf_1, zb_fit, z_ex, Option.toList_some, Option.toList_none, List.cons_append, List.nil_append, zb_0, z_ie, z_iv, z_ih, z_iz, z_izn, z_i2, z_ia, z_io, z_ina, z_8, Classical.not_not]
  | succ k ih =>
    intro j hj hno l5
    have h : j < 100 := by omega
    have h2 : j < G.2.2.2.2 := by omega
    rw [x66_11]
    by_cases hb : zTg σ p j
    · rw [zbc_t ⟨j, h2, hb⟩]
      unfold zTg at hb
      simp only [x66_0, x66_1, x66_4, x66_5, x66_6, x66_7, x66_8, x66_9, x66_13, x66_14, x66_17, x66_18, x66_20, x66_21, x66_23, x66_25, x66_28, x66_48, x66_49, x66_31, x66_33, x66_34, x66_37, x66_40, x66_41, x66_42, x66_45, z_l100 h, if_true, zf38_0, zf38_1, zq38_0, zq38_1, zp38_0, zo38, za12, zn12, zi12, zl12, z_nin h (by omega), tk_at h2 hn, h2, hb, c90 h2 hp, zb_0, z_ex, Option.toList_some, List.cons_append, List.nil_append, true_and, z_n7, reduceCtorEq, if_false, ne_eq, Nat.reduceEqDiff, not_false_eq_true, not_true_eq_false, and_self, decide_true, Nat.reduceLeDiff, z_8, zf_1]
    · have h3 := ih (j + 1) (by omega) (fun t ht => by
        rcases Nat.lt_or_ge t j with h4 | h4
        · exact hno t h4
        · have : t = j := by omega
          subst this; exact hb) (some (.inr (.inr (some (38, j)))))
      have hb2 : ¬ (σ 38 j 0 = σ 37 p 0 ∧ σ 46 j 0 = σ 42 p 0 ∧ σ 46 j 1 = σ 42 p 1 ∧ σ 46 j 2 = σ 42 p 2 ∧ σ 46 j 3 = σ 42 p 3) := hb
      simp only [x66_0, x66_1, x66_4, x66_5, x66_6, x66_7, x66_8, x66_9, x66_13, x66_14, x66_17, x66_18, x66_20, x66_21, x66_23, x66_25, x66_28, x66_48, x66_49, x66_31, x66_33, x66_34, x66_37, x66_40, x66_41, x66_42, x66_45, z_l100 h, if_true, zf38_0, zf38_1, zq38_0, zq38_1, zp38_0, zo38, za12, zn12, zi12, zl12, z_nin h (by omega), tk_at h2 hn, h2, hb2, c90 h2 hp, zb_0, z_ex, Option.toList_some, List.cons_append, List.nil_append, true_and, z_n7, reduceCtorEq, if_false, ne_eq, Nat.reduceEqDiff, not_false_eq_true, decide_true, Nat.reduceLeDiff, z_8, nI_1, h3]
theorem c66 {d p : Nat} (hp : p < G.2.2.1) (hn : G.2.2.2.2 ≤ 100) : zm_Calls (d + 3) 66 [.inr (.inr (some (8, 0))), .inr (.inr (some (37, p)))] (zh G σ) o ↔ o = (some (.inl (zbc (∃ t, t < G.2.2.2.2 ∧ zTg σ p t))), zh G σ) := by
  have h := l_tagged (σ := σ) (o := o) (d := d) hp hn G.2.2.2.2 0 (by omega) (fun t ht => absurd ht (Nat.not_lt_zero t)) none
  simp only [nI_0] at h
  simp only [i66, x66_0, x66_1, x66_4, x66_5, x66_6, x66_7, x66_8, x66_9, x66_13, x66_14, x66_17, x66_18, x66_20, x66_21, x66_23, x66_25, x66_28, x66_48, x66_49, x66_31, x66_33, x66_34, x66_37, x66_40, x66_41, x66_42, x66_45, zf8_0, zf8_1, zf8_2, zf8_3, zf8_4, zf8_5, zf8_6, zf8_7, zf8_8, zf8_9, zf8_10, zf8_11, zq8_0, zq8_1, zq8_2, zq8_3, zq8_4, zq8_5, zq8_6, zq8_7, zq8_8, zq8_9, zq8_10, zq8_11, zp8_1, zp8_3, zp8_5, zp8_10, zp8_11, zo8, za12, zn12, zi12, zl12, true_and, h]
def zst (σ : zR) (i : Nat) (v : Int32) : Int32 := if v = 0 then zb (σ 42 i 0 = σ 43 i 0 ∧ σ 42 i 1 = σ 43 i 1 ∧ σ 42 i 2 = σ 43 i 2 ∧ σ 42 i 3 = σ 43 i 3) else if v = 1 then zb (σ 42 i 0 = σ 43 i 0 ∧ σ 42 i 1 = σ 43 i 1) else if v = 2 then zb (σ 42 i 0 = σ 43 i 0) else 1
def zBN (σ : zR) (n p : Nat) : Prop := ∃ q, q < n ∧ zst σ q (σ 41 p q) = 0
theorem l_broken {d p : Nat} (hp : p < G.2.2.1) (hn : G.2.2.1 ≤ 10) (hN : ∀ q, q < G.2.2.1 → σ 37 q 0 = nI q) : ∀ (k j : Nat), j + k = G.2.2.1 → (∀ q, q < j → ¬ zst σ q (σ 41 p q) = 0) → ∀ (l5 : Option zmV), zm_E (zm_Calls (d + 3)) 102 11 [some (.inr (.inr (some (8, 0)))), some (.inr (.inr (some (37, p)))), some (.inr (.inr (some (10, 0)))), some (.inl 10), some (.inl (nI j)), l5] [] (zh G σ) o ↔ o = (some (.inl (zbc (zBN σ G.2.2.1 p))), zh G σ) := by
  intro k
  induction k with
  | zero =>
    intro j hj hno l5
    have hj : j = G.2.2.1 := by omega
    subst hj
    rw [x102_11, zbc_f (fun ⟨t, h1, h2⟩ => hno t h1 h2)]
    by_cases h : G.2.2.1 < 10
    · simp only [x102_0, x102_1, x102_4, x102_5, x102_6, x102_7, x102_8, x102_9, x102_13, x102_14, x102_17, x102_18, x102_20, x102_21, x102_23, x102_25, x102_28, x102_56, x102_57, x102_31, x102_33, x102_34, x102_36, x102_39, x102_42, x102_45, x102_48, x102_49, x102_50, x102_53, z_l10 h, if_true, za10, zn10, zi10, zl10, z_nin h (by omega), pk_no (Nat.lt_irrefl _) (by omega : G.2.2.1 < 1000), true_and, and_true, zf_i, zf_0, zf_1, zb_fit, z_ex, Option.toList_some, Option.toList_none, List.cons_append, List.nil_append, zb_0, z_ie, z_iv, z_ih, z_iz, z_izn, z_i2, z_ia, z_io, z_ina, z_8, Classical.not_not, z_n70, Nat.reduceLeDiff]
    · simp only [x102_0, x102_1, x102_4, x102_5, x102_6, x102_7, x102_8, x102_9, x102_13, x102_14, x102_17, x102_18, x102_20, x102_21, x102_23, x102_25, x102_28, x102_56, x102_57, x102_31, x102_33, x102_34, x102_36, x102_39, x102_42, x102_45, x102_48, x102_49, x102_50, x102_53, z_g10 h (by omega), if_false, true_and, and_true, zf_i, zf_0, zf_1, zb_fit, z_ex, Option.toList_some, Option.toList_none, List.cons_append, List.nil_append, zb_0, z_ie, z_iv, z_ih, z_iz, z_izn, z_i2, z_ia, z_io, z_ina, z_8, Classical.not_not]
  | succ k ih =>
    intro j hj hno l5
    have h : j < 10 := by omega
    have h2 : j < G.2.2.1 := by omega
    have e1 : ¬ nI j < 0 := z_not0 (by omega)
    rw [x102_11]
    by_cases hb : zst σ j (σ 41 p j) = 0
    · rw [zbc_t ⟨j, h2, hb⟩]
      unfold zst at hb
      simp only [x102_0, x102_1, x102_4, x102_5, x102_6, x102_7, x102_8, x102_9, x102_13, x102_14, x102_17, x102_18, x102_20, x102_21, x102_23, x102_25, x102_28, x102_56, x102_57, x102_31, x102_33, x102_34, x102_36, x102_39, x102_42, x102_45, x102_48, x102_49, x102_50, x102_53, z_l10 h, e1, if_true, if_false, zf37_0, zf37_1, zf37_2, zf37_3, zf37_4, zf37_5, zf37_6, zf37_7, zf37_8, zq37_0, zq37_1, zq37_2, zq37_3, zq37_4, zq37_5, zq37_6, zq37_7, zq37_8, zp37_0, zp37_5, zp37_6, zp37_7, zp37_8, zo37, za10, zn10, zi10, zl10, z_nin h (by omega), pk_at h2 hn, h2, hp, hN j h2, c109 hp, z_cl (show j < 1000 by omega), c110 h2, hb, z_ex, Option.toList_some, List.cons_append, List.nil_append, true_and, z_n7, reduceCtorEq, ne_eq, Nat.reduceEqDiff, not_false_eq_true, decide_true, Nat.reduceLeDiff, z_8, zf_1]
    · have h3 := ih (j + 1) (by omega) (fun t ht => by
        rcases Nat.lt_or_ge t j with h4 | h4
        · exact hno t h4
        · have : t = j := by omega
          subst this; exact hb) (some (.inr (.inr (some (37, j)))))
      unfold zst at hb
      simp only [x102_0, x102_1, x102_4, x102_5, x102_6, x102_7, x102_8, x102_9, x102_13, x102_14, x102_17, x102_18, x102_20, x102_21, x102_23, x102_25, x102_28, x102_56, x102_57, x102_31, x102_33, x102_34, x102_36, x102_39, x102_42, x102_45, x102_48, x102_49, x102_50, x102_53, z_l10 h, e1, if_true, if_false, zf37_0, zf37_1, zf37_2, zf37_3, zf37_4, zf37_5, zf37_6, zf37_7, zf37_8, zq37_0, zq37_1, zq37_2, zq37_3, zq37_4, zq37_5, zq37_6, zq37_7, zq37_8, zp37_0, zp37_5, zp37_6, zp37_7, zp37_8, zo37, za10, zn10, zi10, zl10, z_nin h (by omega), pk_at h2 hn, h2, hp, hN j h2, c109 hp, z_cl (show j < 1000 by omega), c110 h2, hb, z_ex, Option.toList_some, List.cons_append, List.nil_append, true_and, z_n7, reduceCtorEq, ne_eq, Nat.reduceEqDiff, not_false_eq_true, decide_true, Nat.reduceLeDiff, z_8, nI_1, h3]
theorem c102 {d p : Nat} (hp : p < G.2.2.1) (hn : G.2.2.1 ≤ 10) (hN : ∀ q, q < G.2.2.1 → σ 37 q 0 = nI q) : zm_Calls (d + 4) 102 [.inr (.inr (some (8, 0))), .inr (.inr (some (37, p)))] (zh G σ) o ↔ o = (some (.inl (zbc (zBN σ G.2.2.1 p))), zh G σ) := by
  have h := l_broken (σ := σ) (o := o) (d := d) hp hn hN G.2.2.1 0 (by omega) (fun t ht => absurd ht (Nat.not_lt_zero t)) none
  simp only [nI_0] at h
  simp only [i102, x102_0, x102_1, x102_4, x102_5, x102_6, x102_7, x102_8, x102_9, x102_13, x102_14, x102_17, x102_18, x102_20, x102_21, x102_23, x102_25, x102_28, x102_56, x102_57, x102_31, x102_33, x102_34, x102_36, x102_39, x102_42, x102_45, x102_48, x102_49, x102_50, x102_53, zf8_0, zf8_1, zf8_2, zf8_3, zf8_4, zf8_5, zf8_6, zf8_7, zf8_8, zf8_9, zf8_10, zf8_11, zq8_0, zq8_1, zq8_2, zq8_3, zq8_4, zq8_5, zq8_6, zq8_7, zq8_8, zq8_9, zq8_10, zq8_11, zp8_1, zp8_3, zp8_5, zp8_10, zp8_11, zo8, za10, zn10, zi10, zl10, true_and, h]
end ZL2
theorem ztb2_off {σ : zR} {i s j f : Nat} {w : Int32} (h1 : ¬ s = 42) (h2 : ¬ (s = 37 ∧ f = 5)) : ztb2 σ i w s j f = σ s j f := by
  have h3 : ∀ x, ¬ (s = 37 ∧ x = i ∧ f = 5) := fun x q => h2 ⟨q.1, q.2.2⟩
  unfold ztb2
  split
  · simp only [zw_ap, h1, false_and, if_false, zrs_37 h1, zcp_off h1, h3 j]
  · split
    · simp only [zw_ap, h1, false_and, if_false, zrs_37 h1, zcp_off h1, h3 j]
    · simp only [zw_ap, h1, false_and, if_false]
theorem ztb_off {σ : zR} {i s j f : Nat} {w : Int32} (h1 : ¬ s = 42) (h4 : ¬ s = 44) (h2 : ¬ (s = 37 ∧ f = 5)) (h3 : ¬ (s = 37 ∧ f = 6)) : ztb σ i w s j f = σ s j f := by
  have e2 : ¬ (s = 37 ∧ j = i ∧ f = 5) := fun q => h2 ⟨q.1, q.2.2⟩
  have e3 : ¬ (s = 37 ∧ j = i ∧ f = 6) := fun q => h3 ⟨q.1, q.2.2⟩
  unfold ztb
  split
  · split
    · simp only [ztb2_off h1 h2, zw_ap, e2, e3, if_false, zcp_off h4]
    · simp only [ztb2_off h1 h2, zw_ap, e3, if_false]
  · rfl
theorem ztb_45 {σ : zR} {i s : Nat} {w : Int32} (h1 : ¬ s = 42) (h4 : ¬ s = 44) (h2 : ¬ s = 37) : ztb σ i w s = σ s := by
  funext j f
  exact ztb_off h1 h4 (fun q => h2 q.1) (fun q => h2 q.1)
theorem ztb_n {σ : zR} {i j : Nat} {w : Int32} : ztb σ i w 37 j 0 = σ 37 j 0 := ztb_off (by decide) (by decide) (by decide) (by decide)
