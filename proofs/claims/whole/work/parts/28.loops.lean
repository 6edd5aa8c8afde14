noncomputable def zbc (c : Prop) : Int32 := @ite _ c (Classical.propDecidable c) 1 0
theorem zbc_t {c : Prop} (h : c) : zbc c = 1 := by unfold zbc; rw [if_pos h]
theorem zbc_f {c : Prop} (h : ¬ c) : zbc c = 0 := by unfold zbc; rw [if_neg h]
theorem zbc_fit {c : Prop} : zm_fit .boolean (.inl (zbc c)) = true := by
  by_cases h : c
  · rw [zbc_t h]; rfl
  · rw [zbc_f h]; rfl
theorem zbc_0 {c : Prop} : zbc c = 0 ↔ ¬ c := by
  by_cases h : c
  · rw [zbc_t h]; exact ⟨fun q => absurd q (by decide), fun q => absurd h q⟩
  · rw [zbc_f h]; exact ⟨fun _ => h, fun _ => rfl⟩
section ZL
variable {G : zG} {σ : zR} {o : zmO}
theorem pk_at {j : Nat} (hj : j < G.2.2.1) (hn : G.2.2.1 ≤ 10) : zm_ldQ (zh G σ) (10, 0) (nI j) = some (37, j) := by
  rw [zl10, z_cl (by omega), if_pos hj]
theorem pk_no {j : Nat} (hj : ¬ j < G.2.2.1) (h : j < 1000) : zm_ldQ (zh G σ) (10, 0) (nI j) = none := by
  rw [zl10, z_cl h, if_neg hj]
theorem ck_at {j : Nat} (hj : j < G.2.2.2.1) (hn : G.2.2.2.1 ≤ 60) : zm_ldQ (zh G σ) (11, 0) (nI j) = some (45, j) := by
  rw [zl11, z_cl (by omega), if_pos hj]
theorem ck_no {j : Nat} (hj : ¬ j < G.2.2.2.1) (h : j < 1000) : zm_ldQ (zh G σ) (11, 0) (nI j) = none := by
  rw [zl11, z_cl h, if_neg hj]
theorem tk_at {j : Nat} (hj : j < G.2.2.2.2) (hn : G.2.2.2.2 ≤ 100) : zm_ldQ (zh G σ) (12, 0) (nI j) = some (38, j) := by
  rw [zl12, z_cl (by omega), if_pos hj]
theorem tk_no {j : Nat} (hj : ¬ j < G.2.2.2.2) (h : j < 1000) : zm_ldQ (zh G σ) (12, 0) (nI j) = none := by
  rw [zl12, z_cl h, if_neg hj]
theorem z_l10 {j : Nat} (h : j < 10) : nI j < 10 := z_ltn (x := 10) (n := 10) rfl h (by omega)
theorem z_l60 {j : Nat} (h : j < 60) : nI j < 60 := z_ltn (x := 60) (n := 60) rfl h (by omega)
theorem z_l100 {j : Nat} (h : j < 100) : nI j < 100 := z_ltn (x := 100) (n := 100) rfl h (by omega)
theorem z_g10 {j : Nat} (h : ¬ j < 10) (h2 : j < 1000) : ¬ nI j < 10 := fun q => h ((nI_ltI (b := 10) (by omega) (by omega)).mp q)
theorem z_g60 {j : Nat} (h : ¬ j < 60) (h2 : j < 1000) : ¬ nI j < 60 := fun q => h ((nI_ltI (b := 60) (by omega) (by omega)).mp q)
theorem z_g100 {j : Nat} (h : ¬ j < 100) (h2 : j < 1000) : ¬ nI j < 100 := fun q => h ((nI_ltI (b := 100) (by omega) (by omega)).mp q)
def zcB (P : Nat → Nat → Int32) : Nat → Int32
  | 0 => 0
  | j + 1 => zcB P j + (if 0 < P j 6 then 1 else 0)
theorem l_count {d : Nat} (hn : G.2.2.1 ≤ 10) : ∀ (k j : Nat), j + k = G.2.2.1 → ∀ (l5 : Option zmV), zm_E (zm_Calls d) 59 13 [some (.inr (.inr (some (8, 0)))), some (.inl (zcB (σ 37) j)), some (.inr (.inr (some (10, 0)))), some (.inl 10), some (.inl (nI j)), l5] [] (zh G σ) o ↔ o = (some (.inl (zcB (σ 37) G.2.2.1)), zh G σ) := by
  intro k
  induction k with
  | zero =>
    intro j hj l5
    have hj : j = G.2.2.1 := by omega
    subst hj
    rw [x59_13]
    by_cases h : G.2.2.1 < 10
    · simp only [x59_0, x59_1, x59_2, x59_3, x59_6, x59_7, x59_8, x59_9, x59_10, x59_11, x59_15, x59_16, x59_19, x59_20, x59_22, x59_23, x59_25, x59_27, x59_30, x59_50, x59_51, x59_33, x59_35, x59_38, x59_41, x59_44, x59_47, z_l10 h, if_true, za10, zn10, zi10, zl10, z_nin h (by omega), pk_no (Nat.lt_irrefl _) (by omega : G.2.2.1 < 1000), true_and, and_true, zf_i, zf_0, zf_1, zb_fit, z_ex, Option.toList_some, Option.toList_none, List.cons_append, List.nil_append, zb_0, z_ie, z_iv, z_ih, z_iz, z_izn, z_i2, z_ia, z_io, z_ina, z_8, Classical.not_not, z_n70, Nat.reduceLeDiff]
    · simp only [x59_0, x59_1, x59_2, x59_3, x59_6, x59_7, x59_8, x59_9, x59_10, x59_11, x59_15, x59_16, x59_19, x59_20, x59_22, x59_23, x59_25, x59_27, x59_30, x59_50, x59_51, x59_33, x59_35, x59_38, x59_41, x59_44, x59_47, z_g10 h (by omega), if_false, true_and, and_true, zf_i, zf_0, zf_1, zb_fit, z_ex, Option.toList_some, Option.toList_none, List.cons_append, List.nil_append, zb_0, z_ie, z_iv, z_ih, z_iz, z_izn, z_i2, z_ia, z_io, z_ina, z_8, Classical.not_not]
  | succ k ih =>
    intro j hj l5
    have h : j < 10 := by omega
    have h2 : j < G.2.2.1 := by omega
    have h3 := ih (j + 1) (by omega) (some (.inr (.inr (some (37, j)))))
    rw [x59_13]
    by_cases hb : 0 < σ 37 j 6
    · simp only [zcB, hb, if_true] at h3
      simp only [x59_0, x59_1, x59_2, x59_3, x59_6, x59_7, x59_8, x59_9, x59_10, x59_11, x59_15, x59_16, x59_19, x59_20, x59_22, x59_23, x59_25, x59_27, x59_30, x59_50, x59_51, x59_33, x59_35, x59_38, x59_41, x59_44, x59_47, z_l10 h, if_true, zf37_0, zf37_1, zf37_2, zf37_3, zf37_4, zf37_5, zf37_6, zf37_7, zf37_8, zq37_0, zq37_1, zq37_2, zq37_3, zq37_4, zq37_5, zq37_6, zq37_7, zq37_8, zp37_0, zp37_5, zp37_6, zp37_7, zp37_8, zo37, za10, zn10, zi10, zl10, z_nin h (by omega), pk_at h2 hn, h2, hb, true_and, z_n7, reduceCtorEq, if_false, ne_eq, Nat.reduceEqDiff, not_false_eq_true, decide_true, Nat.reduceLeDiff, z_8, nI_1, h3]
    · simp only [zcB, hb, if_false, Int32.add_zero] at h3
      simp only [x59_0, x59_1, x59_2, x59_3, x59_6, x59_7, x59_8, x59_9, x59_10, x59_11, x59_15, x59_16, x59_19, x59_20, x59_22, x59_23, x59_25, x59_27, x59_30, x59_50, x59_51, x59_33, x59_35, x59_38, x59_41, x59_44, x59_47, z_l10 h, if_true, zf37_0, zf37_1, zf37_2, zf37_3, zf37_4, zf37_5, zf37_6, zf37_7, zf37_8, zq37_0, zq37_1, zq37_2, zq37_3, zq37_4, zq37_5, zq37_6, zq37_7, zq37_8, zp37_0, zp37_5, zp37_6, zp37_7, zp37_8, zo37, za10, zn10, zi10, zl10, z_nin h (by omega), pk_at h2 hn, h2, hb, true_and, z_n7, reduceCtorEq, if_false, ne_eq, Nat.reduceEqDiff, not_false_eq_true, decide_true, Nat.reduceLeDiff, z_8, nI_1, h3]
theorem c59 {d : Nat} (hn : G.2.2.1 ≤ 10) : zm_Calls (d + 1) 59 [.inr (.inr (some (8, 0)))] (zh G σ) o ↔ o = (some (.inl (zcB (σ 37) G.2.2.1)), zh G σ) := by
  have h := l_count (σ := σ) (o := o) (d := d) hn G.2.2.1 0 (by omega) none
  simp only [zcB, nI_0] at h
  simp only [i59, x59_0, x59_1, x59_2, x59_3, x59_6, x59_7, x59_8, x59_9, x59_10, x59_11, x59_15, x59_16, x59_19, x59_20, x59_22, x59_23, x59_25, x59_27, x59_30, x59_50, x59_51, x59_33, x59_35, x59_38, x59_41, x59_44, x59_47, zf8_0, zf8_1, zf8_2, zf8_3, zf8_4, zf8_5, zf8_6, zf8_7, zf8_8, zf8_9, zf8_10, zf8_11, zq8_0, zq8_1, zq8_2, zq8_3, zq8_4, zq8_5, zq8_6, zq8_7, zq8_8, zq8_9, zq8_10, zq8_11, zp8_1, zp8_3, zp8_5, zp8_10, zp8_11, zo8, za10, zn10, zi10, zl10, true_and, h]
def zgp (C : Nat → Nat → Int32) (v : Int32) : Nat → Int32
  | 0 => 0
  | c + 1 => if C c 1 = v ∧ C c 5 = 0 ∧ ¬ 0 < C c 6 then (if zgp C v c < C c 4 then C c 4 else zgp C v c) else zgp C v c
theorem l_gpw {d : Nat} {v : Int32} (hn : G.2.2.2.1 ≤ 60) : ∀ (k j : Nat), j + k = G.2.2.2.1 → ∀ (l6 : Option zmV), zm_E (zm_Calls (d + 2)) 81 14 [some (.inr (.inr (some (8, 0)))), some (.inl v), some (.inl (zgp (σ 45) v j)), some (.inr (.inr (some (11, 0)))), some (.inl 60), some (.inl (nI j)), l6] [] (zh G σ) o ↔ o = (some (.inl (zgp (σ 45) v G.2.2.2.1)), zh G σ) := by
  intro k
  induction k with
  | zero =>
    intro j hj l6
    have hj : j = G.2.2.2.1 := by omega
    subst hj
    rw [x81_14]
    by_cases h : G.2.2.2.1 < 60
    · simp only [x81_0, x81_1, x81_2, x81_3, x81_6, x81_7, x81_8, x81_9, x81_11, x81_12, x81_16, x81_18, x81_21, x81_22, x81_24, x81_25, x81_27, x81_29, x81_32, x81_68, x81_69, x81_35, x81_37, x81_40, x81_41, x81_44, x81_46, x81_49, x81_52, x81_53, x81_55, x81_58, x81_61, x81_62, x81_65, z_l60 h, if_true, za11, zn11, zi11, zl11, z_nin h (by omega), ck_no (Nat.lt_irrefl _) (by omega : G.2.2.2.1 < 1000), true_and, and_true, zf_i, zf_0, zf_1, zb_fit, z_ex, Option.toList_some, Option.toList_none, List.cons_append, List.nil_append, zb_0, z_ie, z_iv, z_ih, z_iz, z_izn, z_i2, z_ia, z_io, z_ina, z_8, Classical.not_not, z_n70, Nat.reduceLeDiff]
    · simp only [x81_0, x81_1, x81_2, x81_3, x81_6, x81_7, x81_8, x81_9, x81_11, x81_12, x81_16, x81_18, x81_21, x81_22, x81_24, x81_25, x81_27, x81_29, x81_32, x81_68, x81_69, x81_35, x81_37, x81_40, x81_41, x81_44, x81_46, x81_49, x81_52, x81_53, x81_55, x81_58, x81_61, x81_62, x81_65, z_g60 h (by omega), if_false, true_and, and_true, zf_i, zf_0, zf_1, zb_fit, z_ex, Option.toList_some, Option.toList_none, List.cons_append, List.nil_append, zb_0, z_ie, z_iv, z_ih, z_iz, z_izn, z_i2, z_ia, z_io, z_ina, z_8, Classical.not_not]
  | succ k ih =>
    intro j hj l6
    have h : j < 60 := by omega
    have h2 : j < G.2.2.2.1 := by omega
    have h3 := ih (j + 1) (by omega) (some (.inr (.inr (some (45, j)))))
    rw [x81_14]
    by_cases hb : σ 45 j 1 = v
    · by_cases hc : σ 45 j 5 = 0 ∧ ¬ 0 < σ 45 j 6
      · simp only [zgp, hb, hc, and_self, not_false_eq_true, if_true] at h3
        simp only [x81_0, x81_1, x81_2, x81_3, x81_6, x81_7, x81_8, x81_9, x81_11, x81_12, x81_16, x81_18, x81_21, x81_22, x81_24, x81_25, x81_27, x81_29, x81_32, x81_68, x81_69, x81_35, x81_37, x81_40, x81_41, x81_44, x81_46, x81_49, x81_52, x81_53, x81_55, x81_58, x81_61, x81_62, x81_65, z_l60 h, if_true, zf45_0, zf45_1, zf45_2, zf45_3, zf45_4, zf45_5, zf45_6, zq45_0, zq45_1, zq45_2, zq45_3, zq45_4, zq45_5, zq45_6, zp45_0, zp45_1, zp45_2, zp45_3, zp45_4, zp45_5, zp45_6, zo45, za11, zn11, zi11, zl11, z_nin h (by omega), ck_at h2 hn, h2, hb, hc, c52 h2, zb_0, z_ex, Option.toList_some, List.cons_append, List.nil_append, true_and, z_n7, reduceCtorEq, if_false, ne_eq, Nat.reduceEqDiff, not_false_eq_true, not_true_eq_false, and_self, decide_true, Nat.reduceLeDiff, z_8, nI_1, h3]
      · simp only [zgp, hb, hc, true_and, if_false] at h3
        simp only [x81_0, x81_1, x81_2, x81_3, x81_6, x81_7, x81_8, x81_9, x81_11, x81_12, x81_16, x81_18, x81_21, x81_22, x81_24, x81_25, x81_27, x81_29, x81_32, x81_68, x81_69, x81_35, x81_37, x81_40, x81_41, x81_44, x81_46, x81_49, x81_52, x81_53, x81_55, x81_58, x81_61, x81_62, x81_65, z_l60 h, if_true, zf45_0, zf45_1, zf45_2, zf45_3, zf45_4, zf45_5, zf45_6, zq45_0, zq45_1, zq45_2, zq45_3, zq45_4, zq45_5, zq45_6, zp45_0, zp45_1, zp45_2, zp45_3, zp45_4, zp45_5, zp45_6, zo45, za11, zn11, zi11, zl11, z_nin h (by omega), ck_at h2 hn, h2, hb, hc, c52 h2, zb_0, z_ex, Option.toList_some, List.cons_append, List.nil_append, true_and, z_n7, reduceCtorEq, if_false, ne_eq, Nat.reduceEqDiff, not_false_eq_true, decide_true, Nat.reduceLeDiff, z_8, nI_1, h3]
    · simp only [zgp, hb, false_and, if_false] at h3
      simp only [x81_0, x81_1, x81_2, x81_3, x81_6, x81_7, x81_8, x81_9, x81_11, x81_12, x81_16, x81_18, x81_21, x81_22, x81_24, x81_25, x81_27, x81_29, x81_32, x81_68, x81_69, x81_35, x81_37, x81_40, x81_41, x81_44, x81_46, x81_49, x81_52, x81_53, x81_55, x81_58, x81_61, x81_62, x81_65, z_l60 h, if_true, zf45_0, zf45_1, zf45_2, zf45_3, zf45_4, zf45_5, zf45_6, zq45_0, zq45_1, zq45_2, zq45_3, zq45_4, zq45_5, zq45_6, zp45_0, zp45_1, zp45_2, zp45_3, zp45_4, zp45_5, zp45_6, zo45, za11, zn11, zi11, zl11, z_nin h (by omega), ck_at h2 hn, h2, hb, true_and, z_n7, reduceCtorEq, if_false, ne_eq, Nat.reduceEqDiff, not_false_eq_true, decide_true, Nat.reduceLeDiff, z_8, nI_1, h3]
theorem c81 {d : Nat} {v : Int32} (hn : G.2.2.2.1 ≤ 60) : zm_Calls (d + 3) 81 [.inr (.inr (some (8, 0))), .inl v] (zh G σ) o ↔ o = (some (.inl (zgp (σ 45) v G.2.2.2.1)), zh G σ) := by
  have h := l_gpw (σ := σ) (o := o) (d := d) (v := v) hn G.2.2.2.1 0 (by omega) none
  simp only [zgp, nI_0] at h
  simp only [i81, x81_0, x81_1, x81_2, x81_3, x81_6, x81_7, x81_8, x81_9, x81_11, x81_12, x81_16, x81_18, x81_21, x81_22, x81_24, x81_25, x81_27, x81_29, x81_32, x81_68, x81_69, x81_35, x81_37, x81_40, x81_41, x81_44, x81_46, x81_49, x81_52, x81_53, x81_55, x81_58, x81_61, x81_62, x81_65, zf8_0, zf8_1, zf8_2, zf8_3, zf8_4, zf8_5, zf8_6, zf8_7, zf8_8, zf8_9, zf8_10, zf8_11, zq8_0, zq8_1, zq8_2, zq8_3, zq8_4, zq8_5, zq8_6, zq8_7, zq8_8, zq8_9, zq8_10, zq8_11, zp8_1, zp8_3, zp8_5, zp8_10, zp8_11, zo8, za11, zn11, zi11, zl11, true_and, h]
end ZL
