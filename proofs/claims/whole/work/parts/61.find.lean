def zTm (σ : zR) (n : Nat) : Prop := σ 9 0 10 = nI n ∧ n ≤ 60 ∧ ∀ i, i < n → ¬ σ 23 0 i < 32 ∧ ¬ 126 < σ 23 0 i
set_option maxRecDepth 3000 in
set_option maxHeartbeats 400000 in
theorem zb_t {c : Prop} [Decidable c] (h : c) : zb c = 1 := by unfold zb; rw [if_pos h]
set_option maxRecDepth 3000 in
set_option maxHeartbeats 400000 in
theorem zb_f {c : Prop} [Decidable c] (h : ¬ c) : zb c = 0 := by unfold zb; rw [if_neg h]
def zkw (w : Int64) : Int32 := if w = 1717920116 then 0 else if w = 6711672 then 1 else if w = 1885696614 then 2 else if w = 1685021555 then 3 else if w = 1952805748 then 4 else if w = 426953896549 then 5 else -1
set_option maxRecDepth 3000 in
set_option maxHeartbeats 400000 in
theorem zkw_1 : ∀ j, j < 6 → zkw (Int64.ofNat (zhN (zwd j) 0 (zs_len.getD j 0))) = nI j := by decide +kernel
set_option maxRecDepth 3000 in
set_option maxHeartbeats 400000 in
theorem zkc_all : Int64.ofNat (zhN (zwd 0) 0 (zs_len.getD 0 0)) = 1717920116 ∧ Int64.ofNat (zhN (zwd 1) 0 (zs_len.getD 1 0)) = 6711672 ∧ Int64.ofNat (zhN (zwd 2) 0 (zs_len.getD 2 0)) = 1885696614 ∧ Int64.ofNat (zhN (zwd 3) 0 (zs_len.getD 3 0)) = 1685021555 ∧ Int64.ofNat (zhN (zwd 4) 0 (zs_len.getD 4 0)) = 1952805748 ∧ Int64.ofNat (zhN (zwd 5) 0 (zs_len.getD 5 0)) = 426953896549 := by decide +kernel
set_option maxRecDepth 3000 in
set_option maxHeartbeats 400000 in
theorem zkw_0 {w : Int64} (h : ∀ j, j < 6 → ¬ w = Int64.ofNat (zhN (zwd j) 0 (zs_len.getD j 0))) : zkw w = -1 := by
  obtain ⟨e0, e1, e2, e3, e4, e5⟩ := zkc_all
  have h0 := h 0 (by omega)
  have h1 := h 1 (by omega)
  have h2 := h 2 (by omega)
  have h3 := h 3 (by omega)
  have h4 := h 4 (by omega)
  have h5 := h 5 (by omega)
  rw [e0] at h0
  rw [e1] at h1
  rw [e2] at h2
  rw [e3] at h3
  rw [e4] at h4
  rw [e5] at h5
  unfold zkw
  rw [if_neg h0, if_neg h1, if_neg h2, if_neg h3, if_neg h4, if_neg h5]
section ZF1
variable {G : zG} {σ : zR} {o : zmO}
set_option maxRecDepth 3000 in
set_option maxHeartbeats 400000 in
theorem m_sign {d n a : Nat} (ht : zTm σ n) (ha : a < 1000) : zm_Calls (d + 1) 76 [.inr (.inr (some (9, 0))), .inl (nI a)] (zh G σ) o ↔ o = (some (.inl (zat (σ 23 0) n a)), zh G σ) := by
  have t2 := ht.2.1
  unfold zat
  by_cases h : a < n
  · simp only [↓reduceIte, true_and, and_true, zf_i, zf_0, zf_1, zb_fit, z_ex, Option.toList_some, Option.toList_none, List.cons_append, List.nil_append, zb_0, z_ie, z_iv, z_ih, z_iz, z_izn, z_i2, z_ia, z_io, z_ina, z_8, Classical.not_not, i76, x76_0, x76_1, x76_2, x76_5, x76_8, x76_9, x76_12, x76_13, x76_14, x76_18, x76_17, zf9_0, zf9_1, zf9_2, zf9_3, zf9_4, zf9_5, zf9_6, zf9_7, zf9_8, zf9_9, zf9_10, zf9_11, zf9_12, zf9_13, zf9_14, zf9_15, zf9_16, zf9_17, zf9_18, zf9_19, zf9_20, zf9_21, zf9_22, zf9_23, zf9_24, zf9_25, zf9_26, zf9_27, zf9_28, zf9_29, zf9_30, zf9_31, zq9_0, zq9_1, zq9_2, zq9_3, zq9_4, zq9_5, zq9_6, zq9_7, zq9_8, zq9_9, zq9_10, zq9_11, zq9_12, zq9_13, zq9_14, zq9_15, zq9_16, zq9_17, zq9_18, zq9_19, zq9_20, zq9_21, zq9_22, zq9_23, zq9_24, zq9_25, zq9_26, zq9_27, zq9_28, zq9_29, zq9_30, zq9_31, zp9_0, zp9_1, zp9_8, zp9_10, zp9_11, zp9_18, zp9_19, zp9_20, zp9_21, zp9_23, zp9_25, zp9_28, zo9, za23, zn23, zi23, zl23, zt23, ht.1, z_ltI h (by omega : n < 1000), z_nin (show a < 60 by omega) (by omega), z_cl ha, h]
  · simp only [↓reduceIte, true_and, and_true, zf_i, zf_0, zf_1, zb_fit, z_ex, Option.toList_some, Option.toList_none, List.cons_append, List.nil_append, zb_0, z_ie, z_iv, z_ih, z_iz, z_izn, z_i2, z_ia, z_io, z_ina, z_8, Classical.not_not, i76, x76_0, x76_1, x76_2, x76_5, x76_8, x76_9, x76_12, x76_13, x76_14, x76_18, x76_17, zf9_0, zf9_1, zf9_2, zf9_3, zf9_4, zf9_5, zf9_6, zf9_7, zf9_8, zf9_9, zf9_10, zf9_11, zf9_12, zf9_13, zf9_14, zf9_15, zf9_16, zf9_17, zf9_18, zf9_19, zf9_20, zf9_21, zf9_22, zf9_23, zf9_24, zf9_25, zf9_26, zf9_27, zf9_28, zf9_29, zf9_30, zf9_31, zq9_0, zq9_1, zq9_2, zq9_3, zq9_4, zq9_5, zq9_6, zq9_7, zq9_8, zq9_9, zq9_10, zq9_11, zq9_12, zq9_13, zq9_14, zq9_15, zq9_16, zq9_17, zq9_18, zq9_19, zq9_20, zq9_21, zq9_22, zq9_23, zq9_24, zq9_25, zq9_26, zq9_27, zq9_28, zq9_29, zq9_30, zq9_31, zp9_0, zp9_1, zp9_8, zp9_10, zp9_11, zp9_18, zp9_19, zp9_20, zp9_21, zp9_23, zp9_25, zp9_28, zo9, za23, zn23, zi23, zl23, zt23, ht.1, z_nltI h ha (by omega : n < 1000), h]
set_option maxRecDepth 3000 in
set_option maxHeartbeats 400000 in
theorem l_let {d n : Nat} {l1 : Option zmV} (ht : zTm σ n) : ∀ (k a : Nat), a + k = n → (zm_E (zm_Calls (d + 1)) 74 2 [some (.inr (.inr (some (9, 0)))), l1, some (.inl (nI a))] [] (zh G σ) o ↔ o = (some (.inl (nI (a + zlc (zat (σ 23 0) n) k a))), zh G σ)) := by
  have t2 := ht.2.1
  intro k
  induction k with
  | zero =>
    intro a ha
    have h1 : zat (σ 23 0) n a = 0 := if_neg (by omega)
    rw [x74_2]
    simp only [↓reduceIte, true_and, and_true, zf_i, zf_0, zf_1, zb_fit, z_ex, Option.toList_some, Option.toList_none, List.cons_append, List.nil_append, zb_0, z_ie, z_iv, z_ih, z_iz, z_izn, z_i2, z_ia, z_io, z_ina, z_8, Classical.not_not, x74_0, x74_1, x74_3, x74_4, x74_7, x74_9, x74_11, x74_14, x74_17, x74_20, x74_23, x74_24, zf9_0, zf9_1, zf9_2, zf9_3, zf9_4, zf9_5, zf9_6, zf9_7, zf9_8, zf9_9, zf9_10, zf9_11, zf9_12, zf9_13, zf9_14, zf9_15, zf9_16, zf9_17, zf9_18, zf9_19, zf9_20, zf9_21, zf9_22, zf9_23, zf9_24, zf9_25, zf9_26, zf9_27, zf9_28, zf9_29, zf9_30, zf9_31, zq9_0, zq9_1, zq9_2, zq9_3, zq9_4, zq9_5, zq9_6, zq9_7, zq9_8, zq9_9, zq9_10, zq9_11, zq9_12, zq9_13, zq9_14, zq9_15, zq9_16, zq9_17, zq9_18, zq9_19, zq9_20, zq9_21, zq9_22, zq9_23, zq9_24, zq9_25, zq9_26, zq9_27, zq9_28, zq9_29, zq9_30, zq9_31, zp9_0, zp9_1, zp9_8, zp9_10, zp9_11, zp9_18, zp9_19, zp9_20, zp9_21, zp9_23, zp9_25, zp9_28, zo9, m_sign ht (show a < 1000 by omega), h1, c40, show ((0 : Int32) < 97) = True from eq_true (by decide), not_true_eq_false, not_false_eq_true, and_false, false_and, and_self, zlc, Nat.add_zero]
  | succ k ih =>
    intro a ha
    have h3 := ih (a + 1) (by omega)
    have ms := fun o => m_sign (G := G) (o := o) (d := d) ht (show a < 1000 by omega)
    rw [x74_2, zlc]
    generalize zat (σ 23 0) n = t at *
    by_cases h1 : t a < 97
    · simp only [↓reduceIte, true_and, and_true, zf_i, zf_0, zf_1, zb_fit, z_ex, Option.toList_some, Option.toList_none, List.cons_append, List.nil_append, zb_0, z_ie, z_iv, z_ih, z_iz, z_izn, z_i2, z_ia, z_io, z_ina, z_8, Classical.not_not, x74_0, x74_1, x74_3, x74_4, x74_7, x74_9, x74_11, x74_14, x74_17, x74_20, x74_23, x74_24, zf9_0, zf9_1, zf9_2, zf9_3, zf9_4, zf9_5, zf9_6, zf9_7, zf9_8, zf9_9, zf9_10, zf9_11, zf9_12, zf9_13, zf9_14, zf9_15, zf9_16, zf9_17, zf9_18, zf9_19, zf9_20, zf9_21, zf9_22, zf9_23, zf9_24, zf9_25, zf9_26, zf9_27, zf9_28, zf9_29, zf9_30, zf9_31, zq9_0, zq9_1, zq9_2, zq9_3, zq9_4, zq9_5, zq9_6, zq9_7, zq9_8, zq9_9, zq9_10, zq9_11, zq9_12, zq9_13, zq9_14, zq9_15, zq9_16, zq9_17, zq9_18, zq9_19, zq9_20, zq9_21, zq9_22, zq9_23, zq9_24, zq9_25, zq9_26, zq9_27, zq9_28, zq9_29, zq9_30, zq9_31, zp9_0, zp9_1, zp9_8, zp9_10, zp9_11, zp9_18, zp9_19, zp9_20, zp9_21, zp9_23, zp9_25, zp9_28, zo9, ms, c40, not_true_eq_false, not_false_eq_true, and_false, false_and, and_self, h1, Nat.add_zero]
    · by_cases h2 : 122 < t a
      · simp only [↓reduceIte, true_and, and_true, zf_i, zf_0, zf_1, zb_fit, z_ex, Option.toList_some, Option.toList_none, List.cons_append, List.nil_append, zb_0, z_ie, z_iv, z_ih, z_iz, z_izn, z_i2, z_ia, z_io, z_ina, z_8, Classical.not_not, x74_0, x74_1, x74_3, x74_4, x74_7, x74_9, x74_11, x74_14, x74_17, x74_20, x74_23, x74_24, zf9_0, zf9_1, zf9_2, zf9_3, zf9_4, zf9_5, zf9_6, zf9_7, zf9_8, zf9_9, zf9_10, zf9_11, zf9_12, zf9_13, zf9_14, zf9_15, zf9_16, zf9_17, zf9_18, zf9_19, zf9_20, zf9_21, zf9_22, zf9_23, zf9_24, zf9_25, zf9_26, zf9_27, zf9_28, zf9_29, zf9_30, zf9_31, zq9_0, zq9_1, zq9_2, zq9_3, zq9_4, zq9_5, zq9_6, zq9_7, zq9_8, zq9_9, zq9_10, zq9_11, zq9_12, zq9_13, zq9_14, zq9_15, zq9_16, zq9_17, zq9_18, zq9_19, zq9_20, zq9_21, zq9_22, zq9_23, zq9_24, zq9_25, zq9_26, zq9_27, zq9_28, zq9_29, zq9_30, zq9_31, zp9_0, zp9_1, zp9_8, zp9_10, zp9_11, zp9_18, zp9_19, zp9_20, zp9_21, zp9_23, zp9_25, zp9_28, zo9, ms, c40, not_true_eq_false, not_false_eq_true, and_false, false_and, and_self, h1, h2, Nat.add_zero]
      · simp only [↓reduceIte, true_and, and_true, zf_i, zf_0, zf_1, zb_fit, z_ex, Option.toList_some, Option.toList_none, List.cons_append, List.nil_append, zb_0, z_ie, z_iv, z_ih, z_iz, z_izn, z_i2, z_ia, z_io, z_ina, z_8, Classical.not_not, x74_0, x74_1, x74_3, x74_4, x74_7, x74_9, x74_11, x74_14, x74_17, x74_20, x74_23, x74_24, zf9_0, zf9_1, zf9_2, zf9_3, zf9_4, zf9_5, zf9_6, zf9_7, zf9_8, zf9_9, zf9_10, zf9_11, zf9_12, zf9_13, zf9_14, zf9_15, zf9_16, zf9_17, zf9_18, zf9_19, zf9_20, zf9_21, zf9_22, zf9_23, zf9_24, zf9_25, zf9_26, zf9_27, zf9_28, zf9_29, zf9_30, zf9_31, zq9_0, zq9_1, zq9_2, zq9_3, zq9_4, zq9_5, zq9_6, zq9_7, zq9_8, zq9_9, zq9_10, zq9_11, zq9_12, zq9_13, zq9_14, zq9_15, zq9_16, zq9_17, zq9_18, zq9_19, zq9_20, zq9_21, zq9_22, zq9_23, zq9_24, zq9_25, zq9_26, zq9_27, zq9_28, zq9_29, zq9_30, zq9_31, zp9_0, zp9_1, zp9_8, zp9_10, zp9_11, zp9_18, zp9_19, zp9_20, zp9_21, zp9_23, zp9_25, zp9_28, zo9, ms, c40, not_true_eq_false, not_false_eq_true, and_false, false_and, and_self, z_10, h1, h2, nI_1, h3]
        rw [show a + 1 + zlc t k (a + 1) = a + (zlc t k (a + 1) + 1) by omega]
set_option maxRecDepth 3000 in
set_option maxHeartbeats 400000 in
theorem m_letters {d n a : Nat} (ht : zTm σ n) (ha : a < 1000) : zm_Calls (d + 2) 74 [.inr (.inr (some (9, 0))), .inl (nI a)] (zh G σ) o ↔ o = (some (.inl (nI (a + zlc (zat (σ 23 0) n) (n - a) a))), zh G σ) := by
  have t2 := ht.2.1
  by_cases h : a ≤ n
  · have h1 := l_let (G := G) (o := o) (d := d) (l1 := some (.inl (nI a))) ht (n - a) a (by omega)
    simp only [i74, x74_0, x74_1, x74_3, x74_4, x74_7, x74_9, x74_11, x74_14, x74_17, x74_20, x74_23, x74_24, h1]
  · have h1 : zat (σ 23 0) n a = 0 := if_neg (by omega)
    rw [show n - a = 0 by omega]
    simp only [↓reduceIte, true_and, and_true, zf_i, zf_0, zf_1, zb_fit, z_ex, Option.toList_some, Option.toList_none, List.cons_append, List.nil_append, zb_0, z_ie, z_iv, z_ih, z_iz, z_izn, z_i2, z_ia, z_io, z_ina, z_8, Classical.not_not, i74, x74_0, x74_1, x74_2, x74_3, x74_4, x74_7, x74_9, x74_11, x74_14, x74_17, x74_20, x74_23, x74_24, zf9_0, zf9_1, zf9_2, zf9_3, zf9_4, zf9_5, zf9_6, zf9_7, zf9_8, zf9_9, zf9_10, zf9_11, zf9_12, zf9_13, zf9_14, zf9_15, zf9_16, zf9_17, zf9_18, zf9_19, zf9_20, zf9_21, zf9_22, zf9_23, zf9_24, zf9_25, zf9_26, zf9_27, zf9_28, zf9_29, zf9_30, zf9_31, zq9_0, zq9_1, zq9_2, zq9_3, zq9_4, zq9_5, zq9_6, zq9_7, zq9_8, zq9_9, zq9_10, zq9_11, zq9_12, zq9_13, zq9_14, zq9_15, zq9_16, zq9_17, zq9_18, zq9_19, zq9_20, zq9_21, zq9_22, zq9_23, zq9_24, zq9_25, zq9_26, zq9_27, zq9_28, zq9_29, zq9_30, zq9_31, zp9_0, zp9_1, zp9_8, zp9_10, zp9_11, zp9_18, zp9_19, zp9_20, zp9_21, zp9_23, zp9_25, zp9_28, zo9, m_sign ht ha, h1, c40, show ((0 : Int32) < 97) = True from eq_true (by decide), not_true_eq_false, not_false_eq_true, and_false, false_and, and_self, zlc, Nat.add_zero]
set_option maxRecDepth 3000 in
set_option maxHeartbeats 400000 in
theorem l_kd {d e n : Nat} {Q : Prop} (ht : zTm σ n) (he : e ≤ n) (h6 : e < 6) (hQ : zm_E (zm_Calls d) 75 38 [some (.inr (.inr (some (9, 0)))), some (.inl (nI e)), some (.inr (.inl (Int64.ofNat (zhN (σ 23 0) 0 e)))), none, some (.inl (nI e))] [] (zh G σ) o ↔ Q) : ∀ (k a : Nat), a + k = e → (zm_E (zm_Calls d) 75 5 [some (.inr (.inr (some (9, 0)))), some (.inl (nI e)), some (.inr (.inl (Int64.ofNat (zhN (σ 23 0) 0 a)))), none, some (.inl (nI a))] [] (zh G σ) o ↔ Q) := by
  have t2 := ht.2.1
  intro k
  induction k with
  | zero =>
    intro a ha
    have ha : a = e := by omega
    subst ha
    rw [x75_5, ← hQ]
    simp only [↓reduceIte, x75_7, x75_8, z_nltI (Nat.lt_irrefl a) (by omega : a < 1000) (by omega : a < 1000)]
  | succ k ih =>
    intro a ha
    have h3 := ih (a + 1) (by omega)
    have h4 := ht.2.2 a (by omega)
    have e1 := zhN_s (t := σ 23 0) (a := 0) (e := a) (by rw [Nat.zero_add]; exact h4.1) (by rw [Nat.zero_add]; exact h4.2)
    rw [Nat.zero_add] at e1
    have h5 : nI a < nI e := z_ltI (by omega) (by omega)
    have h7 : nI e < 6 := (nI_ltI (b := 6) (by omega) (by omega)).mpr h6
    rw [x75_5]
    simp only [↓reduceIte, true_and, and_true, zf_i, zf_0, zf_1, zb_fit, z_ex, Option.toList_some, Option.toList_none, List.cons_append, List.nil_append, zb_0, z_ie, z_iv, z_ih, z_iz, z_izn, z_i2, z_ia, z_io, z_ina, z_8, Classical.not_not, x75_7, x75_8, x75_11, x75_12, x75_14, x75_17, x75_18, x75_21, x75_22, x75_23, x75_26, x75_28, x75_29, x75_30, x75_31, x75_32, x75_35, zf9_0, zf9_1, zf9_2, zf9_3, zf9_4, zf9_5, zf9_6, zf9_7, zf9_8, zf9_9, zf9_10, zf9_11, zf9_12, zf9_13, zf9_14, zf9_15, zf9_16, zf9_17, zf9_18, zf9_19, zf9_20, zf9_21, zf9_22, zf9_23, zf9_24, zf9_25, zf9_26, zf9_27, zf9_28, zf9_29, zf9_30, zf9_31, zq9_0, zq9_1, zq9_2, zq9_3, zq9_4, zq9_5, zq9_6, zq9_7, zq9_8, zq9_9, zq9_10, zq9_11, zq9_12, zq9_13, zq9_14, zq9_15, zq9_16, zq9_17, zq9_18, zq9_19, zq9_20, zq9_21, zq9_22, zq9_23, zq9_24, zq9_25, zq9_26, zq9_27, zq9_28, zq9_29, zq9_30, zq9_31, zp9_0, zp9_1, zp9_8, zp9_10, zp9_11, zp9_18, zp9_19, zp9_20, zp9_21, zp9_23, zp9_25, zp9_28, zo9, za23, zn23, zi23, zl23, zt23, h5, h7, z_nin (show a < 60 by omega) (by omega), z_cl (show a < 1000 by omega), e1, nI_1, h3]
set_option maxRecDepth 3000 in
set_option maxHeartbeats 400000 in
theorem l_kd2 {d : Nat} {w : Int64} {l1 l3 l4 : Option zmV} : zm_E (zm_Calls d) 75 38 [some (.inr (.inr (some (9, 0)))), l1, some (.inr (.inl w)), l3, l4] [] (zh G σ) o ↔ o = (some (.inl (zkw w)), zh G σ) := by
  unfold zkw
  by_cases h0 : w = 1717920116
  · simp only [↓reduceIte, true_and, and_true, zf_i, zf_0, zf_1, zb_fit, z_ex, Option.toList_some, Option.toList_none, List.cons_append, List.nil_append, zb_0, z_ie, z_iv, z_ih, z_iz, z_izn, z_i2, z_ia, z_io, z_ina, z_8, Classical.not_not, x75_0, x75_1, x75_2, x75_3, x75_7, x75_8, x75_11, x75_12, x75_14, x75_17, x75_18, x75_21, x75_22, x75_23, x75_26, x75_28, x75_29, x75_30, x75_31, x75_32, x75_35, x75_38, x75_39, x75_42, x75_43, x75_46, x75_47, x75_48, x75_49, x75_52, x75_53, x75_56, x75_57, x75_58, x75_59, x75_62, x75_63, x75_66, x75_67, x75_68, x75_69, x75_72, x75_73, x75_76, x75_77, x75_78, x75_79, x75_82, x75_83, x75_86, x75_87, x75_88, x75_89, x75_92, x75_93, x75_96, x75_97, x75_101, x75_100, lg_cmp_eq, h0]
  · by_cases h1 : w = 6711672
    · simp only [↓reduceIte, true_and, and_true, zf_i, zf_0, zf_1, zb_fit, z_ex, Option.toList_some, Option.toList_none, List.cons_append, List.nil_append, zb_0, z_ie, z_iv, z_ih, z_iz, z_izn, z_i2, z_ia, z_io, z_ina, z_8, Classical.not_not, x75_0, x75_1, x75_2, x75_3, x75_7, x75_8, x75_11, x75_12, x75_14, x75_17, x75_18, x75_21, x75_22, x75_23, x75_26, x75_28, x75_29, x75_30, x75_31, x75_32, x75_35, x75_38, x75_39, x75_42, x75_43, x75_46, x75_47, x75_48, x75_49, x75_52, x75_53, x75_56, x75_57, x75_58, x75_59, x75_62, x75_63, x75_66, x75_67, x75_68, x75_69, x75_72, x75_73, x75_76, x75_77, x75_78, x75_79, x75_82, x75_83, x75_86, x75_87, x75_88, x75_89, x75_92, x75_93, x75_96, x75_97, x75_101, x75_100, lg_cmp_eq, h0, if_pos h1]
    · by_cases h2 : w = 1885696614
      · simp only [↓reduceIte, true_and, and_true, zf_i, zf_0, zf_1, zb_fit, z_ex, Option.toList_some, Option.toList_none, List.cons_append, List.nil_append, zb_0, z_ie, z_iv, z_ih, z_iz, z_izn, z_i2, z_ia, z_io, z_ina, z_8, Classical.not_not, x75_0, x75_1, x75_2, x75_3, x75_7, x75_8, x75_11, x75_12, x75_14, x75_17, x75_18, x75_21, x75_22, x75_23, x75_26, x75_28, x75_29, x75_30, x75_31, x75_32, x75_35, x75_38, x75_39, x75_42, x75_43, x75_46, x75_47, x75_48, x75_49, x75_52, x75_53, x75_56, x75_57, x75_58, x75_59, x75_62, x75_63, x75_66, x75_67, x75_68, x75_69, x75_72, x75_73, x75_76, x75_77, x75_78, x75_79, x75_82, x75_83, x75_86, x75_87, x75_88, x75_89, x75_92, x75_93, x75_96, x75_97, x75_101, x75_100, lg_cmp_eq, h0, h1, if_pos h2]
      · by_cases h3 : w = 1685021555
        · simp only [↓reduceIte, true_and, and_true, zf_i, zf_0, zf_1, zb_fit, z_ex, Option.toList_some, Option.toList_none, List.cons_append, List.nil_append, zb_0, z_ie, z_iv, z_ih, z_iz, z_izn, z_i2, z_ia, z_io, z_ina, z_8, Classical.not_not, x75_0, x75_1, x75_2, x75_3, x75_7, x75_8, x75_11, x75_12, x75_14, x75_17, x75_18, x75_21, x75_22, x75_23, x75_26, x75_28, x75_29, x75_30, x75_31, x75_32, x75_35, x75_38, x75_39, x75_42, x75_43, x75_46, x75_47, x75_48, x75_49, x75_52, x75_53, x75_56, x75_57, x75_58, x75_59, x75_62, x75_63, x75_66, x75_67, x75_68, x75_69, x75_72, x75_73, x75_76, x75_77, x75_78, x75_79, x75_82, x75_83, x75_86, x75_87, x75_88, x75_89, x75_92, x75_93, x75_96, x75_97, x75_101, x75_100, lg_cmp_eq, h0, h1, h2, if_pos h3]
        · by_cases h4 : w = 1952805748
          · simp only [↓reduceIte, true_and, and_true, zf_i, zf_0, zf_1, zb_fit, z_ex, Option.toList_some, Option.toList_none, List.cons_append, List.nil_append, zb_0, z_ie, z_iv, z_ih, z_iz, z_izn, z_i2, z_ia, z_io, z_ina, z_8, Classical.not_not, x75_0, x75_1, x75_2, x75_3, x75_7, x75_8, x75_11, x75_12, x75_14, x75_17, x75_18, x75_21, x75_22, x75_23, x75_26, x75_28, x75_29, x75_30, x75_31, x75_32, x75_35, x75_38, x75_39, x75_42, x75_43, x75_46, x75_47, x75_48, x75_49, x75_52, x75_53, x75_56, x75_57, x75_58, x75_59, x75_62, x75_63, x75_66, x75_67, x75_68, x75_69, x75_72, x75_73, x75_76, x75_77, x75_78, x75_79, x75_82, x75_83, x75_86, x75_87, x75_88, x75_89, x75_92, x75_93, x75_96, x75_97, x75_101, x75_100, lg_cmp_eq, h0, h1, h2, h3, if_pos h4]
          · by_cases h5 : w = 426953896549
            · simp only [↓reduceIte, true_and, and_true, zf_i, zf_0, zf_1, zb_fit, z_ex, Option.toList_some, Option.toList_none, List.cons_append, List.nil_append, zb_0, z_ie, z_iv, z_ih, z_iz, z_izn, z_i2, z_ia, z_io, z_ina, z_8, Classical.not_not, x75_0, x75_1, x75_2, x75_3, x75_7, x75_8, x75_11, x75_12, x75_14, x75_17, x75_18, x75_21, x75_22, x75_23, x75_26, x75_28, x75_29, x75_30, x75_31, x75_32, x75_35, x75_38, x75_39, x75_42, x75_43, x75_46, x75_47, x75_48, x75_49, x75_52, x75_53, x75_56, x75_57, x75_58, x75_59, x75_62, x75_63, x75_66, x75_67, x75_68, x75_69, x75_72, x75_73, x75_76, x75_77, x75_78, x75_79, x75_82, x75_83, x75_86, x75_87, x75_88, x75_89, x75_92, x75_93, x75_96, x75_97, x75_101, x75_100, lg_cmp_eq, h0, h1, h2, h3, h4, if_pos h5]
            · simp only [↓reduceIte, true_and, and_true, zf_i, zf_0, zf_1, zb_fit, z_ex, Option.toList_some, Option.toList_none, List.cons_append, List.nil_append, zb_0, z_ie, z_iv, z_ih, z_iz, z_izn, z_i2, z_ia, z_io, z_ina, z_8, Classical.not_not, x75_0, x75_1, x75_2, x75_3, x75_7, x75_8, x75_11, x75_12, x75_14, x75_17, x75_18, x75_21, x75_22, x75_23, x75_26, x75_28, x75_29, x75_30, x75_31, x75_32, x75_35, x75_38, x75_39, x75_42, x75_43, x75_46, x75_47, x75_48, x75_49, x75_52, x75_53, x75_56, x75_57, x75_58, x75_59, x75_62, x75_63, x75_66, x75_67, x75_68, x75_69, x75_72, x75_73, x75_76, x75_77, x75_78, x75_79, x75_82, x75_83, x75_86, x75_87, x75_88, x75_89, x75_92, x75_93, x75_96, x75_97, x75_101, x75_100, lg_cmp_eq, h0, h1, h2, h3, h4, h5]
set_option maxRecDepth 3000 in
set_option maxHeartbeats 400000 in
theorem m_kind {d e n : Nat} (ht : zTm σ n) (he : e ≤ n) : zm_Calls (d + 1) 75 [.inr (.inr (some (9, 0))), .inl (nI e)] (zh G σ) o ↔ o = (some (.inl (zkw (if e < 6 then Int64.ofNat (zhN (σ 23 0) 0 e) else 0))), zh G σ) := by
  have t2 := ht.2.1
  by_cases h6 : e < 6
  · rw [if_pos h6]
    have h := l_kd (G := G) (o := o) (d := d) ht he h6 l_kd2 e 0 (by omega)
    rw [nI_0, zhN, show Int64.ofNat 0 = 0 from rfl] at h
    simp only [i75, x75_0, x75_1, x75_2, x75_3, h]
  · rw [if_neg h6]
    have h5 : (0 : Int32) < nI e := by rw [← nI_0]; exact z_ltI (by omega) (by omega)
    have h7 : ¬ nI e < 6 := fun q => h6 ((nI_ltI (b := 6) (by omega) (by omega)).mp q)
    simp only [↓reduceIte, true_and, and_true, zf_i, zf_0, zf_1, zb_fit, z_ex, Option.toList_some, Option.toList_none, List.cons_append, List.nil_append, zb_0, z_ie, z_iv, z_ih, z_iz, z_izn, z_i2, z_ia, z_io, z_ina, z_8, Classical.not_not, i75, x75_0, x75_1, x75_2, x75_3, x75_5, x75_7, x75_8, x75_11, x75_12, x75_14, h5, h7, l_kd2]
end ZF1
