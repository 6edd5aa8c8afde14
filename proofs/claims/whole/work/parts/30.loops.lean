noncomputable def zC1 (n : Nat) (σ : zR) : Nat → zR
  | 0 => σ
  | j + 1 => @ite _ (zC1 n σ j 37 j 6 = 0 ∧ zBN (zC1 n σ j) n j) (Classical.propDecidable _) (ztb (zC1 n σ j) j 1) (zC1 n σ j)
def zCf (n : Nat) (σ : zR) : Nat → Prop
  | 0 => False
  | j + 1 => zCf n σ j ∨ (zC1 n σ j 37 j 6 = 0 ∧ zBN (zC1 n σ j) n j)
theorem zC1_t {n j : Nat} {σ : zR} (h : zC1 n σ j 37 j 6 = 0 ∧ zBN (zC1 n σ j) n j) : zC1 n σ (j + 1) = ztb (zC1 n σ j) j 1 := if_pos h
theorem zC1_f {n j : Nat} {σ : zR} (h : ¬ (zC1 n σ j 37 j 6 = 0 ∧ zBN (zC1 n σ j) n j)) : zC1 n σ (j + 1) = zC1 n σ j := if_neg h
theorem zC1_n {n : Nat} {σ : zR} {q : Nat} : ∀ j, zC1 n σ j 37 q 0 = σ 37 q 0
  | 0 => rfl
  | j + 1 => by
    by_cases h : zC1 n σ j 37 j 6 = 0 ∧ zBN (zC1 n σ j) n j
    · rw [zC1_t h, ztb_n, zC1_n j]
    · rw [zC1_f h, zC1_n j]
theorem zbc_or1 {a b : Prop} (h : b) : zbc (a ∨ b) = 1 := zbc_t (Or.inr h)
theorem zbc_or0 {a b : Prop} (h : ¬ b) : zbc (a ∨ b) = zbc a := by
  by_cases q : a
  · rw [zbc_t q, zbc_t (Or.inl q)]
  · rw [zbc_f q, zbc_f (fun z => z.elim q h)]
section ZL3
variable {G : zG} {σ : zR} {o : zmO}
theorem l_carry {d : Nat} (hn : G.2.2.1 ≤ 10) (hN : ∀ q, q < G.2.2.1 → σ 37 q 0 = nI q) : ∀ (k j : Nat), j + k = G.2.2.1 → ∀ (l5 : Option zmV), zm_E (zm_Calls (d + 4)) 83 13 [some (.inr (.inr (some (8, 0)))), some (.inl (zbc (zCf G.2.2.1 σ j))), some (.inr (.inr (some (10, 0)))), some (.inl 10), some (.inl (nI j)), l5] [] (zh G (zC1 G.2.2.1 σ j)) o ↔ o = (some (.inl (zbc (zCf G.2.2.1 σ G.2.2.1))), zh G (zC1 G.2.2.1 σ G.2.2.1)) := by
  intro k
  induction k with
  | zero =>
    intro j hj l5
    have hj : j = G.2.2.1 := by omega
    subst hj
    rw [x83_13]
    by_cases h : G.2.2.1 < 10
    · simp only [x83_0, x83_1, x83_2, x83_3, x83_6, x83_7, x83_8, x83_9, x83_10, x83_11, x83_15, x83_16, x83_19, x83_20, x83_22, x83_23, x83_25, x83_27, x83_30, x83_64, x83_65, x83_33, x83_35, x83_38, x83_41, x83_42, x83_44, x83_47, x83_50, x83_52, x83_53, x83_56, x83_57, x83_58, x83_61, z_l10 h, if_true, za10, zn10, zi10, zl10, z_nin h (by omega), pk_no (Nat.lt_irrefl _) (by omega : G.2.2.1 < 1000), true_and, and_true, zf_i, zf_0, zf_1, zb_fit, z_ex, Option.toList_some, Option.toList_none, List.cons_append, List.nil_append, zb_0, z_ie, z_iv, z_ih, z_iz, z_izn, z_i2, z_ia, z_io, z_ina, z_8, Classical.not_not, z_n70, Nat.reduceLeDiff, zbc_fit]
    · simp only [x83_0, x83_1, x83_2, x83_3, x83_6, x83_7, x83_8, x83_9, x83_10, x83_11, x83_15, x83_16, x83_19, x83_20, x83_22, x83_23, x83_25, x83_27, x83_30, x83_64, x83_65, x83_33, x83_35, x83_38, x83_41, x83_42, x83_44, x83_47, x83_50, x83_52, x83_53, x83_56, x83_57, x83_58, x83_61, z_g10 h (by omega), if_false, true_and, and_true, zf_i, zf_0, zf_1, zb_fit, z_ex, Option.toList_some, Option.toList_none, List.cons_append, List.nil_append, zb_0, z_ie, z_iv, z_ih, z_iz, z_izn, z_i2, z_ia, z_io, z_ina, z_8, Classical.not_not, zbc_fit]
  | succ k ih =>
    intro j hj l5
    have h : j < 10 := by omega
    have h2 : j < G.2.2.1 := by omega
    have hN2 : ∀ q, q < G.2.2.1 → zC1 G.2.2.1 σ j 37 q 0 = nI q := fun q hq => by rw [zC1_n]; exact hN q hq
    have h3 := ih (j + 1) (by omega) (some (.inr (.inr (some (37, j)))))
    rw [x83_13]
    by_cases hb : zC1 G.2.2.1 σ j 37 j 6 = 0
    · by_cases hc : zBN (zC1 G.2.2.1 σ j) G.2.2.1 j
      · rw [zC1_t ⟨hb, hc⟩, show zCf G.2.2.1 σ (j + 1) = (zCf G.2.2.1 σ j ∨ (zC1 G.2.2.1 σ j 37 j 6 = 0 ∧ zBN (zC1 G.2.2.1 σ j) G.2.2.1 j)) from rfl, zbc_or1 ⟨hb, hc⟩] at h3
        simp only [x83_0, x83_1, x83_2, x83_3, x83_6, x83_7, x83_8, x83_9, x83_10, x83_11, x83_15, x83_16, x83_19, x83_20, x83_22, x83_23, x83_25, x83_27, x83_30, x83_64, x83_65, x83_33, x83_35, x83_38, x83_41, x83_42, x83_44, x83_47, x83_50, x83_52, x83_53, x83_56, x83_57, x83_58, x83_61, z_l10 h, if_true, if_false, zf8_0, zf8_1, zf8_2, zf8_3, zf8_4, zf8_5, zf8_6, zf8_7, zf8_8, zf8_9, zf8_10, zf8_11, zf37_0, zf37_1, zf37_2, zf37_3, zf37_4, zf37_5, zf37_6, zf37_7, zf37_8, zq8_0, zq8_1, zq8_2, zq8_3, zq8_4, zq8_5, zq8_6, zq8_7, zq8_8, zq8_9, zq8_10, zq8_11, zq37_0, zq37_1, zq37_2, zq37_3, zq37_4, zq37_5, zq37_6, zq37_7, zq37_8, zp8_1, zp8_3, zp8_5, zp8_10, zp8_11, zp37_0, zp37_5, zp37_6, zp37_7, zp37_8, zo8, zo37, za10, zn10, zi10, zl10, z_nin h (by omega), pk_at h2 hn, h2, hb, c102 h2 hn hN2, zbc_t hc, c82 h2, z_10, z_ex, Option.toList_some, Option.toList_none, List.cons_append, List.nil_append, true_and, z_n7, reduceCtorEq, ne_eq, Nat.reduceEqDiff, not_false_eq_true, decide_true, Nat.reduceLeDiff, z_8, nI_1, h3]
      · have hbc : ¬ (zC1 G.2.2.1 σ j 37 j 6 = 0 ∧ zBN (zC1 G.2.2.1 σ j) G.2.2.1 j) := fun q => hc q.2
        rw [zC1_f hbc, show zCf G.2.2.1 σ (j + 1) = (zCf G.2.2.1 σ j ∨ (zC1 G.2.2.1 σ j 37 j 6 = 0 ∧ zBN (zC1 G.2.2.1 σ j) G.2.2.1 j)) from rfl, zbc_or0 hbc] at h3
        simp only [x83_0, x83_1, x83_2, x83_3, x83_6, x83_7, x83_8, x83_9, x83_10, x83_11, x83_15, x83_16, x83_19, x83_20, x83_22, x83_23, x83_25, x83_27, x83_30, x83_64, x83_65, x83_33, x83_35, x83_38, x83_41, x83_42, x83_44, x83_47, x83_50, x83_52, x83_53, x83_56, x83_57, x83_58, x83_61, z_l10 h, if_true, if_false, zf8_0, zf8_1, zf8_2, zf8_3, zf8_4, zf8_5, zf8_6, zf8_7, zf8_8, zf8_9, zf8_10, zf8_11, zf37_0, zf37_1, zf37_2, zf37_3, zf37_4, zf37_5, zf37_6, zf37_7, zf37_8, zq8_0, zq8_1, zq8_2, zq8_3, zq8_4, zq8_5, zq8_6, zq8_7, zq8_8, zq8_9, zq8_10, zq8_11, zq37_0, zq37_1, zq37_2, zq37_3, zq37_4, zq37_5, zq37_6, zq37_7, zq37_8, zp8_1, zp8_3, zp8_5, zp8_10, zp8_11, zp37_0, zp37_5, zp37_6, zp37_7, zp37_8, zo8, zo37, za10, zn10, zi10, zl10, z_nin h (by omega), pk_at h2 hn, h2, hb, c102 h2 hn hN2, zbc_f hc, z_ex, Option.toList_some, Option.toList_none, List.cons_append, List.nil_append, true_and, z_n7, reduceCtorEq, ne_eq, Nat.reduceEqDiff, not_false_eq_true, decide_true, Nat.reduceLeDiff, z_8, nI_1, h3]
    · have hbc : ¬ (zC1 G.2.2.1 σ j 37 j 6 = 0 ∧ zBN (zC1 G.2.2.1 σ j) G.2.2.1 j) := fun q => hb q.1
      rw [zC1_f hbc, show zCf G.2.2.1 σ (j + 1) = (zCf G.2.2.1 σ j ∨ (zC1 G.2.2.1 σ j 37 j 6 = 0 ∧ zBN (zC1 G.2.2.1 σ j) G.2.2.1 j)) from rfl, zbc_or0 hbc] at h3
      simp only [x83_0, x83_1, x83_2, x83_3, x83_6, x83_7, x83_8, x83_9, x83_10, x83_11, x83_15, x83_16, x83_19, x83_20, x83_22, x83_23, x83_25, x83_27, x83_30, x83_64, x83_65, x83_33, x83_35, x83_38, x83_41, x83_42, x83_44, x83_47, x83_50, x83_52, x83_53, x83_56, x83_57, x83_58, x83_61, z_l10 h, if_true, if_false, zf8_0, zf8_1, zf8_2, zf8_3, zf8_4, zf8_5, zf8_6, zf8_7, zf8_8, zf8_9, zf8_10, zf8_11, zf37_0, zf37_1, zf37_2, zf37_3, zf37_4, zf37_5, zf37_6, zf37_7, zf37_8, zq8_0, zq8_1, zq8_2, zq8_3, zq8_4, zq8_5, zq8_6, zq8_7, zq8_8, zq8_9, zq8_10, zq8_11, zq37_0, zq37_1, zq37_2, zq37_3, zq37_4, zq37_5, zq37_6, zq37_7, zq37_8, zp8_1, zp8_3, zp8_5, zp8_10, zp8_11, zp37_0, zp37_5, zp37_6, zp37_7, zp37_8, zo8, zo37, za10, zn10, zi10, zl10, z_nin h (by omega), pk_at h2 hn, h2, hb, true_and, z_n7, reduceCtorEq, ne_eq, Nat.reduceEqDiff, not_false_eq_true, decide_true, Nat.reduceLeDiff, z_8, nI_1, h3]
theorem c83 {d : Nat} (hn : G.2.2.1 ≤ 10) (hN : ∀ q, q < G.2.2.1 → σ 37 q 0 = nI q) : zm_Calls (d + 5) 83 [.inr (.inr (some (8, 0)))] (zh G σ) o ↔ o = (some (.inl (zbc (zCf G.2.2.1 σ G.2.2.1))), zh G (zC1 G.2.2.1 σ G.2.2.1)) := by
  have h := l_carry (σ := σ) (o := o) (d := d) hn hN G.2.2.1 0 (by omega) none
  simp only [zCf, zC1, zbc_f not_false, nI_0] at h
  simp only [i83, x83_0, x83_1, x83_2, x83_3, x83_6, x83_7, x83_8, x83_9, x83_10, x83_11, x83_15, x83_16, x83_19, x83_20, x83_22, x83_23, x83_25, x83_27, x83_30, x83_64, x83_65, x83_33, x83_35, x83_38, x83_41, x83_42, x83_44, x83_47, x83_50, x83_52, x83_53, x83_56, x83_57, x83_58, x83_61, zf8_0, zf8_1, zf8_2, zf8_3, zf8_4, zf8_5, zf8_6, zf8_7, zf8_8, zf8_9, zf8_10, zf8_11, zq8_0, zq8_1, zq8_2, zq8_3, zq8_4, zq8_5, zq8_6, zq8_7, zq8_8, zq8_9, zq8_10, zq8_11, zp8_1, zp8_3, zp8_5, zp8_10, zp8_11, zo8, za10, zn10, zi10, zl10, true_and, h]
end ZL3
theorem zC1_same {n : Nat} {σ : zR} : ∀ j, ¬ zCf n σ j → zC1 n σ j = σ
  | 0, _ => rfl
  | j + 1, h => by
    have h1 : ¬ zCf n σ j := fun q => h (Or.inl q)
    have h2 : ¬ (zC1 n σ j 37 j 6 = 0 ∧ zBN (zC1 n σ j) n j) := fun q => h (Or.inr q)
    rw [zC1_f h2, zC1_same j h1]
noncomputable def zRn (n : Nat) (σ : zR) : Nat → zR
  | 0 => σ
  | r + 1 => zC1 n (zRn n σ r) n
theorem zRn_n {n : Nat} {σ : zR} {q : Nat} : ∀ r, zRn n σ r 37 q 0 = σ 37 q 0
  | 0 => rfl
  | r + 1 => by rw [zRn, zC1_n, zRn_n r]
section ZL4
variable {G : zG} {σ : zR}
theorem l_needs {d : Nat} (hn : G.2.2.1 ≤ 10) (hN : ∀ q, q < G.2.2.1 → σ 37 q 0 = nI q) : ∀ (k j : Nat), j + k = 10 → ∃ r, r ≤ 10 ∧ (r = 10 ∨ ¬ zCf G.2.2.1 (zRn G.2.2.1 σ r) G.2.2.1) ∧ ∀ o, zm_E (zm_Calls (d + 5)) 55 2 [some (.inr (.inr (some (8, 0)))), some (.inl (nI j))] [] (zh G (zRn G.2.2.1 σ j)) o ↔ o = (none, zh G (zRn G.2.2.1 σ r)) := by
  intro k
  induction k with
  | zero =>
    intro j hj
    have hj : j = 10 := by omega
    subst hj
    refine ⟨10, Nat.le_refl _, Or.inl rfl, fun o => ?_⟩
    rw [x55_2]
    simp only [x55_0, x55_1, x55_3, x55_5, x55_8, x55_9, x55_12, x55_15, x55_24, x55_18, x55_21, z_g10 (by omega : ¬ 10 < 10) (by omega), if_false]
  | succ k ih =>
    intro j hj
    have h : j < 10 := by omega
    have hN2 : ∀ q, q < G.2.2.1 → zRn G.2.2.1 σ j 37 q 0 = nI q := fun q hq => by rw [zRn_n]; exact hN q hq
    by_cases hf : zCf G.2.2.1 (zRn G.2.2.1 σ j) G.2.2.1
    · obtain ⟨r, h1, h2, h3⟩ := ih (j + 1) (by omega)
      refine ⟨r, h1, h2, fun o => ?_⟩
      have h4 := h3 o
      rw [zRn] at h4
      rw [x55_2]
      simp only [x55_0, x55_1, x55_3, x55_5, x55_8, x55_9, x55_12, x55_15, x55_24, x55_18, x55_21, z_l10 h, if_true, zf8_0, zf8_1, zf8_2, zf8_3, zf8_4, zf8_5, zf8_6, zf8_7, zf8_8, zf8_9, zf8_10, zf8_11, zq8_0, zq8_1, zq8_2, zq8_3, zq8_4, zq8_5, zq8_6, zq8_7, zq8_8, zq8_9, zq8_10, zq8_11, zp8_1, zp8_3, zp8_5, zp8_10, zp8_11, zo8, c83 hn hN2, zbc_t hf, z_10, if_false, z_ex, Option.toList_some, List.cons_append, List.nil_append, true_and, nI_1, h4]
    · refine ⟨j, by omega, Or.inr hf, fun o => ?_⟩
      rw [x55_2]
      simp only [x55_0, x55_1, x55_3, x55_5, x55_8, x55_9, x55_12, x55_15, x55_24, x55_18, x55_21, z_l10 h, if_true, zf8_0, zf8_1, zf8_2, zf8_3, zf8_4, zf8_5, zf8_6, zf8_7, zf8_8, zf8_9, zf8_10, zf8_11, zq8_0, zq8_1, zq8_2, zq8_3, zq8_4, zq8_5, zq8_6, zq8_7, zq8_8, zq8_9, zq8_10, zq8_11, zp8_1, zp8_3, zp8_5, zp8_10, zp8_11, zo8, c83 hn hN2, zbc_f hf, if_true, z_ex, Option.toList_some, List.cons_append, List.nil_append, true_and, zC1_same _ hf]
theorem c55 {d : Nat} (hn : G.2.2.1 ≤ 10) (hN : ∀ q, q < G.2.2.1 → σ 37 q 0 = nI q) : ∃ r, r ≤ 10 ∧ (r = 10 ∨ ¬ zCf G.2.2.1 (zRn G.2.2.1 σ r) G.2.2.1) ∧ ∀ o, zm_Calls (d + 6) 55 [.inr (.inr (some (8, 0)))] (zh G σ) o ↔ o = (none, zh G (zRn G.2.2.1 σ r)) := by
  obtain ⟨r, h1, h2, h3⟩ := l_needs (σ := σ) (d := d) hn hN 10 0 (by omega)
  refine ⟨r, h1, h2, fun o => ?_⟩
  have h4 := h3 o
  simp only [nI_0, zRn] at h4
  simp only [i55, x55_0, x55_1, x55_3, x55_5, x55_8, x55_9, x55_12, x55_15, x55_24, x55_18, x55_21, h4]
def zBC (m : Nat) (σ : zR) : Nat → zR
  | 0 => σ
  | j + 1 => ztb (zw (zcp (zBC m σ j) 43 j 42 j) 37 j 6 0) j (zgp (σ 45) (nI j) m)
theorem zw_s {σ : zR} {s i f t : Nat} {x : Int32} (h : ¬ t = s) : zw σ s i f x t = σ t := by
  funext a b
  simp only [zw_ap, h, false_and, if_false]
theorem zcp_s {σ : zR} {s i t j a : Nat} (h : ¬ a = s) : zcp σ s i t j a = σ a := by
  funext b f
  exact zcp_off h
theorem zBC_45 {m : Nat} {σ : zR} {s : Nat} (h2 : ¬ s = 42) (h3 : ¬ s = 43) (h4 : ¬ s = 44) (h7 : ¬ s = 37) : ∀ j, zBC m σ j s = σ s
  | 0 => rfl
  | j + 1 => by rw [zBC, ztb_45 h2 h4 h7, zw_s h7, zcp_s h3, zBC_45 h2 h3 h4 h7 j]
theorem zBC_n {m : Nat} {σ : zR} {q : Nat} : ∀ j, zBC m σ j 37 q 0 = σ 37 q 0
  | 0 => rfl
  | j + 1 => by
    rw [zBC, ztb_n, zw_ap, if_neg (by simp), zcp_off (by decide), zBC_n j]
theorem l_bumps {d : Nat} {o : zmO} (hn : G.2.2.1 ≤ 10) (hc : G.2.2.2.1 ≤ 60) (hN : ∀ q, q < G.2.2.1 → σ 37 q 0 = nI q) : ∀ (k j : Nat), j + k = G.2.2.1 → ∀ (l4 : Option zmV), zm_E (zm_Calls (d + 3)) 54 10 [some (.inr (.inr (some (8, 0)))), some (.inr (.inr (some (10, 0)))), some (.inl 10), some (.inl (nI j)), l4] [] (zh G (zBC G.2.2.2.1 σ j)) o ↔ o = (none, zh G (zBC G.2.2.2.1 σ G.2.2.1)) := by
  intro k
  induction k with
  | zero =>
    intro j hj l4
    have hj : j = G.2.2.1 := by omega
    subst hj
    rw [x54_10]
    by_cases h : G.2.2.1 < 10
    · simp only [x54_0, x54_1, x54_4, x54_5, x54_6, x54_7, x54_8, x54_9, x54_11, x54_12, x54_15, x54_16, x54_17, x54_18, x54_20, x54_22, x54_25, x54_53, x54_28, x54_30, x54_33, x54_35, x54_36, x54_38, x54_41, x54_44, x54_47, x54_50, z_l10 h, if_true, za10, zn10, zi10, zl10, z_nin h (by omega), pk_no (Nat.lt_irrefl _) (by omega : G.2.2.1 < 1000), true_and, and_true, zf_i, zf_0, zf_1, zb_fit, z_ex, Option.toList_some, Option.toList_none, List.cons_append, List.nil_append, zb_0, z_ie, z_iv, z_ih, z_iz, z_izn, z_i2, z_ia, z_io, z_ina, z_8, Classical.not_not, z_n70, Nat.reduceLeDiff]
    · simp only [x54_0, x54_1, x54_4, x54_5, x54_6, x54_7, x54_8, x54_9, x54_11, x54_12, x54_15, x54_16, x54_17, x54_18, x54_20, x54_22, x54_25, x54_53, x54_28, x54_30, x54_33, x54_35, x54_36, x54_38, x54_41, x54_44, x54_47, x54_50, z_g10 h (by omega), if_false, true_and, and_true, zf_i, zf_0, zf_1, zb_fit, z_ex, Option.toList_some, Option.toList_none, List.cons_append, List.nil_append, zb_0, z_ie, z_iv, z_ih, z_iz, z_izn, z_i2, z_ia, z_io, z_ina, z_8, Classical.not_not]
  | succ k ih =>
    intro j hj l4
    have h : j < 10 := by omega
    have h2 : j < G.2.2.1 := by omega
    have h3 := ih (j + 1) (by omega) (some (.inr (.inr (some (37, j)))))
    have e1 : (zw (zcp (zBC G.2.2.2.1 σ j) 43 j 42 j) 37 j 6 0) 45 = σ 45 := by rw [zw_s (by decide), zcp_s (by decide), zBC_45 (by decide) (by decide) (by decide) (by decide)]
    have e2 : (zw (zcp (zBC G.2.2.2.1 σ j) 43 j 42 j) 37 j 6 0) 37 j 0 = nI j := by rw [zw_ap, if_neg (by simp), zcp_off (by decide), zBC_n]; exact hN j h2
    rw [zBC] at h3
    rw [x54_10]
    simp only [x54_0, x54_1, x54_4, x54_5, x54_6, x54_7, x54_8, x54_9, x54_11, x54_12, x54_15, x54_16, x54_17, x54_18, x54_20, x54_22, x54_25, x54_53, x54_28, x54_30, x54_33, x54_35, x54_36, x54_38, x54_41, x54_44, x54_47, x54_50, z_l10 h, if_true, if_false, zf8_0, zf8_1, zf8_2, zf8_3, zf8_4, zf8_5, zf8_6, zf8_7, zf8_8, zf8_9, zf8_10, zf8_11, zf37_0, zf37_1, zf37_2, zf37_3, zf37_4, zf37_5, zf37_6, zf37_7, zf37_8, zq8_0, zq8_1, zq8_2, zq8_3, zq8_4, zq8_5, zq8_6, zq8_7, zq8_8, zq8_9, zq8_10, zq8_11, zq37_0, zq37_1, zq37_2, zq37_3, zq37_4, zq37_5, zq37_6, zq37_7, zq37_8, zp8_1, zp8_3, zp8_5, zp8_10, zp8_11, zp37_0, zp37_5, zp37_6, zp37_7, zp37_8, zo8, zo37, za10, zn10, zi10, zl10, z_nin h (by omega), pk_at h2 hn, h2, c80 h2, c81 hc, e1, e2, c82 h2, z_ex, Option.toList_some, Option.toList_none, List.cons_append, List.nil_append, true_and, z_n7, reduceCtorEq, ne_eq, Nat.reduceEqDiff, not_false_eq_true, decide_true, Nat.reduceLeDiff, z_8, nI_1, h3]
theorem c54 {d : Nat} {o : zmO} (hn : G.2.2.1 ≤ 10) (hc : G.2.2.2.1 ≤ 60) (hN : ∀ q, q < G.2.2.1 → σ 37 q 0 = nI q) : zm_Calls (d + 4) 54 [.inr (.inr (some (8, 0)))] (zh G σ) o ↔ o = (none, zh G (zBC G.2.2.2.1 σ G.2.2.1)) := by
  have h := l_bumps (σ := σ) (o := o) (d := d) hn hc hN G.2.2.1 0 (by omega) none
  simp only [zBC, nI_0] at h
  simp only [i54, x54_0, x54_1, x54_4, x54_5, x54_6, x54_7, x54_8, x54_9, x54_11, x54_12, x54_15, x54_16, x54_17, x54_18, x54_20, x54_22, x54_25, x54_53, x54_28, x54_30, x54_33, x54_35, x54_36, x54_38, x54_41, x54_44, x54_47, x54_50, zf8_0, zf8_1, zf8_2, zf8_3, zf8_4, zf8_5, zf8_6, zf8_7, zf8_8, zf8_9, zf8_10, zf8_11, zq8_0, zq8_1, zq8_2, zq8_3, zq8_4, zq8_5, zq8_6, zq8_7, zq8_8, zq8_9, zq8_10, zq8_11, zp8_1, zp8_3, zp8_5, zp8_10, zp8_11, zo8, za10, zn10, zi10, zl10, true_and, h]
end ZL4
