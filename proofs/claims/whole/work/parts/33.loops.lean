def zPl (P C : Nat → Nat → Int32) (u : Int32) (n : Nat) : Nat → List Nat
  | 0 => []
  | p + 1 => if 0 < P p 6 then zPl P C u n p ++ zGl C (nI p) u n 8 else zPl P C u n p
theorem zPl_mono {P C : Nat → Nat → Int32} {u : Int32} {n : Nat} : ∀ (k g : Nat), (zPl P C u n g).length ≤ (zPl P C u n (g + k)).length := by
  intro k
  induction k with
  | zero => intro g; exact Nat.le_refl _
  | succ k ih =>
    intro g
    refine Nat.le_trans (ih g) ?_
    rw [show g + (k + 1) = (g + k) + 1 from rfl, zPl]
    split
    · rw [List.length_append]; omega
    · exact Nat.le_refl _
theorem zNt_0 {σ : zR} : zw σ 15 0 1 0 = zNt σ [] := by
  funext s i f
  unfold zNt
  rw [zw_ap]
  by_cases h : s = 15 ∧ i = 0 ∧ f = 1
  · rw [if_pos h, if_pos h]; rfl
  · rw [if_neg h, if_neg h, if_neg (fun q => Nat.not_lt_zero _ q.2.2)]
section ZL7
variable {G : zG} {σ : zR} {o : zmO}
theorem l_notes {d : Nat} {u : Int32} (hn : G.2.2.1 ≤ 10) (hc : G.2.2.2.1 ≤ 60) (hu : σ 8 0 11 = u) (hP : ∀ q, q < G.2.2.1 → σ 37 q 0 = nI q) (hN : ∀ c, c < G.2.2.2.1 → σ 45 c 0 = nI c) (hB : (zPl (σ 37) (σ 45) u G.2.2.2.1 G.2.2.1).length ≤ 60) :
    ∀ (k j : Nat), j + k = G.2.2.1 → ∀ (l4 : Option zmV), zm_E (zm_Calls (d + 2)) 57 17 [some (.inr (.inr (some (8, 0)))), some (.inr (.inr (some (10, 0)))), some (.inl 10), some (.inl (nI j)), l4] [] (zh G (zNt σ (zPl (σ 37) (σ 45) u G.2.2.2.1 j))) o ↔ o = (none, zh G (zNt σ (zPl (σ 37) (σ 45) u G.2.2.2.1 G.2.2.1))) := by
  intro k
  induction k with
  | zero =>
    intro j hj l4
    have hj : j = G.2.2.1 := by omega
    subst hj
    rw [x57_17]
    by_cases h : G.2.2.1 < 10
    · simp only [x57_0, x57_1, x57_4, x57_7, x57_8, x57_11, x57_12, x57_13, x57_14, x57_15, x57_16, x57_18, x57_19, x57_22, x57_23, x57_24, x57_25, x57_27, x57_29, x57_32, x57_58, x57_35, x57_37, x57_40, x57_43, x57_44, x57_46, x57_49, x57_52, x57_55, z_l10 h, if_true, za10, zn10, zi10, zl10, z_nin h (by omega), pk_no (Nat.lt_irrefl _) (by omega : G.2.2.1 < 1000), true_and, and_true, zf_i, zf_0, zf_1, zb_fit, z_ex, Option.toList_some, Option.toList_none, List.cons_append, List.nil_append, zb_0, z_ie, z_iv, z_ih, z_iz, z_izn, z_i2, z_ia, z_io, z_ina, z_8, Classical.not_not, z_n70, Nat.reduceLeDiff]
    · simp only [x57_0, x57_1, x57_4, x57_7, x57_8, x57_11, x57_12, x57_13, x57_14, x57_15, x57_16, x57_18, x57_19, x57_22, x57_23, x57_24, x57_25, x57_27, x57_29, x57_32, x57_58, x57_35, x57_37, x57_40, x57_43, x57_44, x57_46, x57_49, x57_52, x57_55, z_g10 h (by omega), if_false, true_and, and_true, zf_i, zf_0, zf_1, zb_fit, z_ex, Option.toList_some, Option.toList_none, List.cons_append, List.nil_append, zb_0, z_ie, z_iv, z_ih, z_iz, z_izn, z_i2, z_ia, z_io, z_ina, z_8, Classical.not_not]
  | succ k ih =>
    intro j hj l4
    have h : j < 10 := by omega
    have h2 : j < G.2.2.1 := by omega
    have h3 := ih (j + 1) (by omega) (some (.inr (.inr (some (37, j)))))
    have hm := zPl_mono (P := σ 37) (C := σ 45) (u := u) (n := G.2.2.2.1) k (j + 1)
    rw [show j + 1 + k = G.2.2.1 by omega] at hm
    have e37 : zNt σ (zPl (σ 37) (σ 45) u G.2.2.2.1 j) 37 = σ 37 := zNt_s (by decide) (by decide)
    have e0 := hP j h2
    rw [x57_17]
    by_cases hb : 0 < σ 37 j 6
    · rw [zPl, if_pos hb, List.length_append] at hm
      rw [zPl, if_pos hb] at h3
      have hw := fun o => c85 (G := G) (σ := σ) (o := o) (d := d) (v := nI j) (u := u) (l := zPl (σ 37) (σ 45) u G.2.2.2.1 j) hc hu hN (by omega)
      simp only [x57_0, x57_1, x57_4, x57_7, x57_8, x57_11, x57_12, x57_13, x57_14, x57_15, x57_16, x57_18, x57_19, x57_22, x57_23, x57_24, x57_25, x57_27, x57_29, x57_32, x57_58, x57_35, x57_37, x57_40, x57_43, x57_44, x57_46, x57_49, x57_52, x57_55, z_l10 h, if_true, if_false, zf8_0, zf8_1, zf8_2, zf8_3, zf8_4, zf8_5, zf8_6, zf8_7, zf8_8, zf8_9, zf8_10, zf8_11, zf37_0, zf37_1, zf37_2, zf37_3, zf37_4, zf37_5, zf37_6, zf37_7, zf37_8, zq8_0, zq8_1, zq8_2, zq8_3, zq8_4, zq8_5, zq8_6, zq8_7, zq8_8, zq8_9, zq8_10, zq8_11, zq37_0, zq37_1, zq37_2, zq37_3, zq37_4, zq37_5, zq37_6, zq37_7, zq37_8, zp8_1, zp8_3, zp8_5, zp8_10, zp8_11, zp37_0, zp37_5, zp37_6, zp37_7, zp37_8, zo8, zo37, za10, zn10, zi10, zl10, z_nin h (by omega), pk_at h2 hn, h2, e37, e0, hb, hw, z_ex, Option.toList_some, Option.toList_none, List.cons_append, List.nil_append, true_and, z_n7, reduceCtorEq, ne_eq, Nat.reduceEqDiff, not_false_eq_true, decide_true, Nat.reduceLeDiff, z_8, nI_1, h3]
    · rw [zPl, if_neg hb] at h3
      simp only [x57_0, x57_1, x57_4, x57_7, x57_8, x57_11, x57_12, x57_13, x57_14, x57_15, x57_16, x57_18, x57_19, x57_22, x57_23, x57_24, x57_25, x57_27, x57_29, x57_32, x57_58, x57_35, x57_37, x57_40, x57_43, x57_44, x57_46, x57_49, x57_52, x57_55, z_l10 h, if_true, if_false, zf8_0, zf8_1, zf8_2, zf8_3, zf8_4, zf8_5, zf8_6, zf8_7, zf8_8, zf8_9, zf8_10, zf8_11, zf37_0, zf37_1, zf37_2, zf37_3, zf37_4, zf37_5, zf37_6, zf37_7, zf37_8, zq8_0, zq8_1, zq8_2, zq8_3, zq8_4, zq8_5, zq8_6, zq8_7, zq8_8, zq8_9, zq8_10, zq8_11, zq37_0, zq37_1, zq37_2, zq37_3, zq37_4, zq37_5, zq37_6, zq37_7, zq37_8, zp8_1, zp8_3, zp8_5, zp8_10, zp8_11, zp37_0, zp37_5, zp37_6, zp37_7, zp37_8, zo8, zo37, za10, zn10, zi10, zl10, z_nin h (by omega), pk_at h2 hn, h2, e37, e0, hb, true_and, z_n7, reduceCtorEq, ne_eq, Nat.reduceEqDiff, not_false_eq_true, decide_true, Nat.reduceLeDiff, z_8, nI_1, h3]
theorem c57 {d : Nat} {u : Int32} (hn : G.2.2.1 ≤ 10) (hc : G.2.2.2.1 ≤ 60) (hu : σ 8 0 11 = u) (hP : ∀ q, q < G.2.2.1 → σ 37 q 0 = nI q) (hN : ∀ c, c < G.2.2.2.1 → σ 45 c 0 = nI c) (hB : (zPl (σ 37) (σ 45) u G.2.2.2.1 G.2.2.1).length ≤ 60) : zm_Calls (d + 3) 57 [.inr (.inr (some (8, 0)))] (zh G σ) o ↔ o = (none, zh G (zNt σ (zPl (σ 37) (σ 45) u G.2.2.2.1 G.2.2.1))) := by
  have h := l_notes (G := G) (σ := σ) (o := o) (d := d) (u := u) hn hc hu hP hN hB G.2.2.1 0 (by omega) none
  rw [show zPl (σ 37) (σ 45) u G.2.2.2.1 0 = [] from rfl, nI_0] at h
  simp only [i57, x57_0, x57_1, x57_4, x57_7, x57_8, x57_11, x57_12, x57_13, x57_14, x57_15, x57_16, x57_18, x57_19, x57_22, x57_23, x57_24, x57_25, x57_27, x57_29, x57_32, x57_58, x57_35, x57_37, x57_40, x57_43, x57_44, x57_46, x57_49, x57_52, x57_55, zf8_0, zf8_1, zf8_2, zf8_3, zf8_4, zf8_5, zf8_6, zf8_7, zf8_8, zf8_9, zf8_10, zf8_11, zf15_0, zf15_1, zq8_0, zq8_1, zq8_2, zq8_3, zq8_4, zq8_5, zq8_6, zq8_7, zq8_8, zq8_9, zq8_10, zq8_11, zq15_0, zq15_1, zp8_1, zp8_3, zp8_5, zp8_10, zp8_11, zp15_1, zo8, zo15, za10, zn10, zi10, zl10, c84a, zNt_0, z_ex, Option.toList_none, List.nil_append, true_and, h]
end ZL7
def zTl (P : Nat → Nat → Int32) : Nat → List Nat
  | 0 => []
  | p + 1 => if ¬ P p 8 = 0 ∧ P p 6 < 3 then zTl P p ++ [p] else zTl P p
theorem zTl_len {P : Nat → Nat → Int32} : ∀ j, (zTl P j).length ≤ j
  | 0 => Nat.le_refl _
  | j + 1 => by
    have := zTl_len (P := P) j
    rw [zTl]
    split
    · rw [List.length_append, List.length_singleton]; omega
    · omega
def zTt (σ : zR) (l : List Nat) (m : Nat) : zR := fun s i f => if s = 16 ∧ i = 0 ∧ f = 1 then nI l.length else if s = 40 ∧ i = 1 ∧ f < l.length then nI (l.getD f 0) else if s = 37 ∧ f = 8 ∧ i < m ∧ 0 < σ 37 i 6 then 0 else σ s i f
theorem zTt_0 {σ : zR} : zw σ 16 0 1 0 = zTt σ [] 0 := by
  funext s i f
  unfold zTt
  rw [zw_ap]
  by_cases h : s = 16 ∧ i = 0 ∧ f = 1
  · rw [if_pos h, if_pos h]; rfl
  · rw [if_neg h, if_neg h, if_neg (fun q => Nat.not_lt_zero _ q.2.2), if_neg (fun q => Nat.not_lt_zero _ q.2.2.1)]
theorem zTt_add {σ : zR} {l : List Nat} {c m : Nat} : zw (zw (zTt σ l m) 40 1 l.length (nI c)) 16 0 1 (nI (l.length + 1)) = zTt σ (l ++ [c]) m := by
  funext s i f
  unfold zTt
  simp only [zw_ap, List.length_append, List.length_singleton]
  by_cases h1 : s = 16 ∧ i = 0 ∧ f = 1
  · rw [if_pos h1, if_pos h1]
  · simp only [if_neg h1]
    by_cases h2 : s = 40 ∧ i = 1 ∧ f = l.length
    · rw [if_pos h2, if_pos ⟨h2.1, h2.2.1, by omega⟩, h2.2.2]
      simp
    · rw [if_neg h2]
      by_cases h3 : s = 40 ∧ i = 1 ∧ f < l.length
      · rw [if_pos h3, if_pos ⟨h3.1, h3.2.1, by omega⟩]
        simp [List.getElem?_append_left h3.2.2]
      · rw [if_neg h3, if_neg (show ¬ (s = 40 ∧ i = 1 ∧ f < l.length + 1) from fun q => by
          rcases Nat.lt_or_ge f l.length with h4 | h4
          · exact h3 ⟨q.1, q.2.1, h4⟩
          · exact h2 ⟨q.1, q.2.1, by omega⟩)]
theorem zTt_c1 {σ : zR} {l : List Nat} {m : Nat} (h : 0 < σ 37 m 6) : zw (zTt σ l m) 37 m 8 0 = zTt σ l (m + 1) := by
  funext s i f
  unfold zTt
  rw [zw_ap]
  by_cases h0 : s = 37 ∧ i = m ∧ f = 8
  · obtain ⟨rfl, rfl, rfl⟩ := h0
    rw [if_pos ⟨rfl, rfl, rfl⟩, if_neg (by simp), if_neg (by simp), if_pos ⟨rfl, rfl, by omega, h⟩]
  · rw [if_neg h0]
    by_cases h1 : s = 16 ∧ i = 0 ∧ f = 1
    · rw [if_pos h1, if_pos h1]
    · rw [if_neg h1, if_neg h1]
      by_cases h2 : s = 40 ∧ i = 1 ∧ f < l.length
      · rw [if_pos h2, if_pos h2]
      · rw [if_neg h2, if_neg h2]
        by_cases h3 : s = 37 ∧ f = 8 ∧ i < m ∧ 0 < σ 37 i 6
        · rw [if_pos h3, if_pos ⟨h3.1, h3.2.1, by omega, h3.2.2.2⟩]
        · rw [if_neg h3, if_neg (fun q => by
            rcases Nat.lt_or_ge i m with h4 | h4
            · exact h3 ⟨q.1, q.2.1, h4, q.2.2.2⟩
            · exact h0 ⟨q.1, by omega, q.2.1⟩)]
theorem zTt_c0 {σ : zR} {l : List Nat} {m : Nat} (h : ¬ 0 < σ 37 m 6) : zTt σ l m = zTt σ l (m + 1) := by
  funext s i f
  unfold zTt
  by_cases h1 : s = 16 ∧ i = 0 ∧ f = 1
  · rw [if_pos h1, if_pos h1]
  · rw [if_neg h1, if_neg h1]
    by_cases h2 : s = 40 ∧ i = 1 ∧ f < l.length
    · rw [if_pos h2, if_pos h2]
    · rw [if_neg h2, if_neg h2]
      by_cases h3 : s = 37 ∧ f = 8 ∧ i < m ∧ 0 < σ 37 i 6
      · rw [if_pos h3, if_pos ⟨h3.1, h3.2.1, by omega, h3.2.2.2⟩]
      · rw [if_neg h3, if_neg (fun q => by
          rcases Nat.lt_or_ge i m with h4 | h4
          · exact h3 ⟨q.1, q.2.1, h4, q.2.2.2⟩
          · have : i = m := by omega
            subst this; exact h q.2.2.2)]
section ZL8
variable {G : zG} {σ : zR} {o : zmO}
theorem zadd_t {d c m : Nat} {l : List Nat} (hl : l.length < 10) : zm_Calls (d + 1) 86 [.inr (.inr (some (16, 0))), .inl (nI c)] (zh G (zTt σ l m)) o ↔ o = (none, zh G (zTt σ (l ++ [c]) m)) := by
  have e : zTt σ l m 16 0 1 = nI l.length := if_pos ⟨rfl, rfl, rfl⟩
  rw [c86b, e, if_pos (z_l10 hl), z_cl (by omega), nI_1, zTt_add]
  exact ⟨fun q => q.2, fun q => ⟨z_nin hl (by omega), q⟩⟩
theorem zTt_37 {l : List Nat} {m q f : Nat} (h : ¬ f = 8 ∨ m ≤ q) : zTt σ l m 37 q f = σ 37 q f := by
  unfold zTt
  rw [if_neg (by simp), if_neg (by simp), if_neg (fun z => by
    rcases h with h | h
    · exact h z.2.1
    · exact absurd z.2.2.1 (Nat.not_lt.mpr h))]
theorem l_tell {d : Nat} (hn : G.2.2.1 ≤ 10) (hP : ∀ q, q < G.2.2.1 → σ 37 q 0 = nI q) :
    ∀ (k j : Nat), j + k = G.2.2.1 → ∀ (l4 : Option zmV), zm_E (zm_Calls (d + 1)) 58 17 [some (.inr (.inr (some (8, 0)))), some (.inr (.inr (some (10, 0)))), some (.inl 10), some (.inl (nI j)), l4] [] (zh G (zTt σ (zTl (σ 37) j) j)) o ↔ o = (none, zh G (zTt σ (zTl (σ 37) G.2.2.1) G.2.2.1)) := by
  intro k
  induction k with
  | zero =>
    intro j hj l4
    have hj : j = G.2.2.1 := by omega
    subst hj
    rw [x58_17]
    by_cases h : G.2.2.1 < 10
    · simp only [x58_0, x58_1, x58_4, x58_7, x58_8, x58_11, x58_12, x58_13, x58_14, x58_15, x58_16, x58_18, x58_19, x58_22, x58_23, x58_24, x58_25, x58_27, x58_29, x58_32, x58_84, x58_35, x58_37, x58_40, x58_43, x58_45, x58_48, x58_49, x58_52, x58_53, x58_56, x58_58, x58_61, x58_64, x58_66, x58_69, x58_72, x58_74, x58_75, x58_78, x58_81, z_l10 h, if_true, za10, zn10, zi10, zl10, z_nin h (by omega), pk_no (Nat.lt_irrefl _) (by omega : G.2.2.1 < 1000), true_and, and_true, zf_i, zf_0, zf_1, zb_fit, z_ex, Option.toList_some, Option.toList_none, List.cons_append, List.nil_append, zb_0, z_ie, z_iv, z_ih, z_iz, z_izn, z_i2, z_ia, z_io, z_ina, z_8, Classical.not_not, z_n70, Nat.reduceLeDiff]
    · simp only [x58_0, x58_1, x58_4, x58_7, x58_8, x58_11, x58_12, x58_13, x58_14, x58_15, x58_16, x58_18, x58_19, x58_22, x58_23, x58_24, x58_25, x58_27, x58_29, x58_32, x58_84, x58_35, x58_37, x58_40, x58_43, x58_45, x58_48, x58_49, x58_52, x58_53, x58_56, x58_58, x58_61, x58_64, x58_66, x58_69, x58_72, x58_74, x58_75, x58_78, x58_81, z_g10 h (by omega), if_false, true_and, and_true, zf_i, zf_0, zf_1, zb_fit, z_ex, Option.toList_some, Option.toList_none, List.cons_append, List.nil_append, zb_0, z_ie, z_iv, z_ih, z_iz, z_izn, z_i2, z_ia, z_io, z_ina, z_8, Classical.not_not]
  | succ k ih =>
    intro j hj l4
    have h : j < 10 := by omega
    have h2 : j < G.2.2.1 := by omega
    have h3 := ih (j + 1) (by omega) (some (.inr (.inr (some (37, j)))))
    have hl := zTl_len (P := σ 37) j
    have ha := fun o => zadd_t (G := G) (σ := σ) (o := o) (d := d) (c := j) (m := j) (l := zTl (σ 37) j) (by omega)
    have f8 : ∀ l, zTt σ l j 37 j 8 = σ 37 j 8 := fun l => zTt_37 (Or.inr (Nat.le_refl _))
    have f6 : ∀ l, zTt σ l j 37 j 6 = σ 37 j 6 := fun l => zTt_37 (Or.inr (Nat.le_refl _))
    have f0 : ∀ l, zTt σ l j 37 j 0 = nI j := fun l => by rw [zTt_37 (Or.inr (Nat.le_refl _))]; exact hP j h2
    rw [x58_17]
    by_cases h8 : σ 37 j 8 = 0
    · rw [zTl, if_neg (fun q => q.1 h8)] at h3
      by_cases h6 : 0 < σ 37 j 6
      · rw [← zTt_c1 h6] at h3
        simp only [x58_0, x58_1, x58_4, x58_7, x58_8, x58_11, x58_12, x58_13, x58_14, x58_15, x58_16, x58_18, x58_19, x58_22, x58_23, x58_24, x58_25, x58_27, x58_29, x58_32, x58_84, x58_35, x58_37, x58_40, x58_43, x58_45, x58_48, x58_49, x58_52, x58_53, x58_56, x58_58, x58_61, x58_64, x58_66, x58_69, x58_72, x58_74, x58_75, x58_78, x58_81, z_l10 h, if_true, if_false, zf8_0, zf8_1, zf8_2, zf8_3, zf8_4, zf8_5, zf8_6, zf8_7, zf8_8, zf8_9, zf8_10, zf8_11, zf16_0, zf16_1, zf37_0, zf37_1, zf37_2, zf37_3, zf37_4, zf37_5, zf37_6, zf37_7, zf37_8, zq8_0, zq8_1, zq8_2, zq8_3, zq8_4, zq8_5, zq8_6, zq8_7, zq8_8, zq8_9, zq8_10, zq8_11, zq16_0, zq16_1, zq37_0, zq37_1, zq37_2, zq37_3, zq37_4, zq37_5, zq37_6, zq37_7, zq37_8, zp8_1, zp8_3, zp8_5, zp8_10, zp8_11, zp16_1, zp37_0, zp37_5, zp37_6, zp37_7, zp37_8, zo8, zo16, zo37, za10, zn10, zi10, zl10, z_nin h (by omega), pk_at h2 hn, h2, f8, f6, h8, h6, true_and, z_n7, reduceCtorEq, ne_eq, Nat.reduceEqDiff, not_false_eq_true, decide_true, Nat.reduceLeDiff, z_8, zf_0, nI_1, h3]
      · rw [← zTt_c0 h6] at h3
        simp only [x58_0, x58_1, x58_4, x58_7, x58_8, x58_11, x58_12, x58_13, x58_14, x58_15, x58_16, x58_18, x58_19, x58_22, x58_23, x58_24, x58_25, x58_27, x58_29, x58_32, x58_84, x58_35, x58_37, x58_40, x58_43, x58_45, x58_48, x58_49, x58_52, x58_53, x58_56, x58_58, x58_61, x58_64, x58_66, x58_69, x58_72, x58_74, x58_75, x58_78, x58_81, z_l10 h, if_true, if_false, zf8_0, zf8_1, zf8_2, zf8_3, zf8_4, zf8_5, zf8_6, zf8_7, zf8_8, zf8_9, zf8_10, zf8_11, zf16_0, zf16_1, zf37_0, zf37_1, zf37_2, zf37_3, zf37_4, zf37_5, zf37_6, zf37_7, zf37_8, zq8_0, zq8_1, zq8_2, zq8_3, zq8_4, zq8_5, zq8_6, zq8_7, zq8_8, zq8_9, zq8_10, zq8_11, zq16_0, zq16_1, zq37_0, zq37_1, zq37_2, zq37_3, zq37_4, zq37_5, zq37_6, zq37_7, zq37_8, zp8_1, zp8_3, zp8_5, zp8_10, zp8_11, zp16_1, zp37_0, zp37_5, zp37_6, zp37_7, zp37_8, zo8, zo16, zo37, za10, zn10, zi10, zl10, z_nin h (by omega), pk_at h2 hn, h2, f8, f6, h8, h6, true_and, z_n7, reduceCtorEq, ne_eq, Nat.reduceEqDiff, not_false_eq_true, decide_true, Nat.reduceLeDiff, z_8, zf_0, nI_1, h3]
    · by_cases hw : σ 37 j 6 < 3
      · rw [zTl, if_pos ⟨h8, hw⟩] at h3
        by_cases h6 : 0 < σ 37 j 6
        · rw [← zTt_c1 h6] at h3
          simp only [x58_0, x58_1, x58_4, x58_7, x58_8, x58_11, x58_12, x58_13, x58_14, x58_15, x58_16, x58_18, x58_19, x58_22, x58_23, x58_24, x58_25, x58_27, x58_29, x58_32, x58_84, x58_35, x58_37, x58_40, x58_43, x58_45, x58_48, x58_49, x58_52, x58_53, x58_56, x58_58, x58_61, x58_64, x58_66, x58_69, x58_72, x58_74, x58_75, x58_78, x58_81, z_l10 h, if_true, if_false, zf8_0, zf8_1, zf8_2, zf8_3, zf8_4, zf8_5, zf8_6, zf8_7, zf8_8, zf8_9, zf8_10, zf8_11, zf16_0, zf16_1, zf37_0, zf37_1, zf37_2, zf37_3, zf37_4, zf37_5, zf37_6, zf37_7, zf37_8, zq8_0, zq8_1, zq8_2, zq8_3, zq8_4, zq8_5, zq8_6, zq8_7, zq8_8, zq8_9, zq8_10, zq8_11, zq16_0, zq16_1, zq37_0, zq37_1, zq37_2, zq37_3, zq37_4, zq37_5, zq37_6, zq37_7, zq37_8, zp8_1, zp8_3, zp8_5, zp8_10, zp8_11, zp16_1, zp37_0, zp37_5, zp37_6, zp37_7, zp37_8, zo8, zo16, zo37, za10, zn10, zi10, zl10, z_nin h (by omega), pk_at h2 hn, h2, f8, f6, f0, ha, h8, hw, h6, z_ex, Option.toList_none, List.nil_append, true_and, z_n7, reduceCtorEq, ne_eq, Nat.reduceEqDiff, not_false_eq_true, decide_true, Nat.reduceLeDiff, z_8, zf_0, nI_1, h3]
        · rw [← zTt_c0 h6] at h3
          simp only [x58_0, x58_1, x58_4, x58_7, x58_8, x58_11, x58_12, x58_13, x58_14, x58_15, x58_16, x58_18, x58_19, x58_22, x58_23, x58_24, x58_25, x58_27, x58_29, x58_32, x58_84, x58_35, x58_37, x58_40, x58_43, x58_45, x58_48, x58_49, x58_52, x58_53, x58_56, x58_58, x58_61, x58_64, x58_66, x58_69, x58_72, x58_74, x58_75, x58_78, x58_81, z_l10 h, if_true, if_false, zf8_0, zf8_1, zf8_2, zf8_3, zf8_4, zf8_5, zf8_6, zf8_7, zf8_8, zf8_9, zf8_10, zf8_11, zf16_0, zf16_1, zf37_0, zf37_1, zf37_2, zf37_3, zf37_4, zf37_5, zf37_6, zf37_7, zf37_8, zq8_0, zq8_1, zq8_2, zq8_3, zq8_4, zq8_5, zq8_6, zq8_7, zq8_8, zq8_9, zq8_10, zq8_11, zq16_0, zq16_1, zq37_0, zq37_1, zq37_2, zq37_3, zq37_4, zq37_5, zq37_6, zq37_7, zq37_8, zp8_1, zp8_3, zp8_5, zp8_10, zp8_11, zp16_1, zp37_0, zp37_5, zp37_6, zp37_7, zp37_8, zo8, zo16, zo37, za10, zn10, zi10, zl10, z_nin h (by omega), pk_at h2 hn, h2, f8, f6, f0, ha, h8, hw, h6, z_ex, Option.toList_none, List.nil_append, true_and, z_n7, reduceCtorEq, ne_eq, Nat.reduceEqDiff, not_false_eq_true, decide_true, Nat.reduceLeDiff, z_8, zf_0, nI_1, h3]
      · rw [zTl, if_neg (fun q => hw q.2)] at h3
        by_cases h6 : 0 < σ 37 j 6
        · rw [← zTt_c1 h6] at h3
          simp only [x58_0, x58_1, x58_4, x58_7, x58_8, x58_11, x58_12, x58_13, x58_14, x58_15, x58_16, x58_18, x58_19, x58_22, x58_23, x58_24, x58_25, x58_27, x58_29, x58_32, x58_84, x58_35, x58_37, x58_40, x58_43, x58_45, x58_48, x58_49, x58_52, x58_53, x58_56, x58_58, x58_61, x58_64, x58_66, x58_69, x58_72, x58_74, x58_75, x58_78, x58_81, z_l10 h, if_true, if_false, zf8_0, zf8_1, zf8_2, zf8_3, zf8_4, zf8_5, zf8_6, zf8_7, zf8_8, zf8_9, zf8_10, zf8_11, zf16_0, zf16_1, zf37_0, zf37_1, zf37_2, zf37_3, zf37_4, zf37_5, zf37_6, zf37_7, zf37_8, zq8_0, zq8_1, zq8_2, zq8_3, zq8_4, zq8_5, zq8_6, zq8_7, zq8_8, zq8_9, zq8_10, zq8_11, zq16_0, zq16_1, zq37_0, zq37_1, zq37_2, zq37_3, zq37_4, zq37_5, zq37_6, zq37_7, zq37_8, zp8_1, zp8_3, zp8_5, zp8_10, zp8_11, zp16_1, zp37_0, zp37_5, zp37_6, zp37_7, zp37_8, zo8, zo16, zo37, za10, zn10, zi10, zl10, z_nin h (by omega), pk_at h2 hn, h2, f8, f6, h8, hw, h6, true_and, z_n7, reduceCtorEq, ne_eq, Nat.reduceEqDiff, not_false_eq_true, decide_true, Nat.reduceLeDiff, z_8, zf_0, nI_1, h3]
        · rw [← zTt_c0 h6] at h3
          simp only [x58_0, x58_1, x58_4, x58_7, x58_8, x58_11, x58_12, x58_13, x58_14, x58_15, x58_16, x58_18, x58_19, x58_22, x58_23, x58_24, x58_25, x58_27, x58_29, x58_32, x58_84, x58_35, x58_37, x58_40, x58_43, x58_45, x58_48, x58_49, x58_52, x58_53, x58_56, x58_58, x58_61, x58_64, x58_66, x58_69, x58_72, x58_74, x58_75, x58_78, x58_81, z_l10 h, if_true, if_false, zf8_0, zf8_1, zf8_2, zf8_3, zf8_4, zf8_5, zf8_6, zf8_7, zf8_8, zf8_9, zf8_10, zf8_11, zf16_0, zf16_1, zf37_0, zf37_1, zf37_2, zf37_3, zf37_4, zf37_5, zf37_6, zf37_7, zf37_8, zq8_0, zq8_1, zq8_2, zq8_3, zq8_4, zq8_5, zq8_6, zq8_7, zq8_8, zq8_9, zq8_10, zq8_11, zq16_0, zq16_1, zq37_0, zq37_1, zq37_2, zq37_3, zq37_4, zq37_5, zq37_6, zq37_7, zq37_8, zp8_1, zp8_3, zp8_5, zp8_10, zp8_11, zp16_1, zp37_0, zp37_5, zp37_6, zp37_7, zp37_8, zo8, zo16, zo37, za10, zn10, zi10, zl10, z_nin h (by omega), pk_at h2 hn, h2, f8, f6, h8, hw, h6, true_and, z_n7, reduceCtorEq, ne_eq, Nat.reduceEqDiff, not_false_eq_true, decide_true, Nat.reduceLeDiff, z_8, zf_0, nI_1, h3]
theorem c58 {d : Nat} (hn : G.2.2.1 ≤ 10) (hP : ∀ q, q < G.2.2.1 → σ 37 q 0 = nI q) : zm_Calls (d + 2) 58 [.inr (.inr (some (8, 0)))] (zh G σ) o ↔ o = (none, zh G (zTt σ (zTl (σ 37) G.2.2.1) G.2.2.1)) := by
  have h := l_tell (G := G) (σ := σ) (o := o) (d := d) hn hP G.2.2.1 0 (by omega) none
  rw [show zTl (σ 37) 0 = [] from rfl, nI_0] at h
  simp only [i58, x58_0, x58_1, x58_4, x58_7, x58_8, x58_11, x58_12, x58_13, x58_14, x58_15, x58_16, x58_18, x58_19, x58_22, x58_23, x58_24, x58_25, x58_27, x58_29, x58_32, x58_84, x58_35, x58_37, x58_40, x58_43, x58_45, x58_48, x58_49, x58_52, x58_53, x58_56, x58_58, x58_61, x58_64, x58_66, x58_69, x58_72, x58_74, x58_75, x58_78, x58_81, zf8_0, zf8_1, zf8_2, zf8_3, zf8_4, zf8_5, zf8_6, zf8_7, zf8_8, zf8_9, zf8_10, zf8_11, zf16_0, zf16_1, zq8_0, zq8_1, zq8_2, zq8_3, zq8_4, zq8_5, zq8_6, zq8_7, zq8_8, zq8_9, zq8_10, zq8_11, zq16_0, zq16_1, zp8_1, zp8_3, zp8_5, zp8_10, zp8_11, zp16_1, zo8, zo16, za10, zn10, zi10, zl10, c84b, zTt_0, z_ex, Option.toList_none, List.nil_append, true_and, h]
end ZL8
