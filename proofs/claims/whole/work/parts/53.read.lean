def zat (f : Nat → Int32) (n a : Nat) : Int32 := if a < n then f a else 0
section ZS1
variable {G : zG} {σ : zR} {o : zmO}
set_option maxRecDepth 3000 in
set_option maxHeartbeats 400000 in
theorem c116 {d : Nat} {h : zmH} {x y : Int32} {q : Option zmK} {o : zmO} (h1 : ¬ x < 0) (h2 : x < y) : zm_Calls (d + 1) 116 [.inl x, .inl y, .inr (.inr q)] h o ↔ o = (some (.inl x), h) := by
  simp only [↓reduceIte, true_and, and_true, zf_i, zf_0, zf_1, zb_fit, z_ex, Option.toList_some, Option.toList_none, List.cons_append, List.nil_append, zb_0, z_ie, z_iv, z_ih, z_iz, z_izn, z_i2, z_ia, z_io, z_ina, z_8, Classical.not_not, i116, x116_0, x116_1, x116_4, x116_5, x116_6, x116_9, x116_10, x116_11, x116_16, x116_17, h1, h2]
set_option maxRecDepth 3000 in
set_option maxHeartbeats 400000 in
theorem c115 {d : Nat} {h : zmH} {x y : Int32} {o : zmO} (h1 : ¬ x < 0) (h2 : x < y) : zm_Calls (d + 2) 115 [.inl x, .inl y] h o ↔ o = (none, h) := by
  simp only [↓reduceIte, true_and, and_true, zf_i, zf_0, zf_1, zb_fit, z_ex, Option.toList_some, Option.toList_none, List.cons_append, List.nil_append, zb_0, z_ie, z_iv, z_ih, z_iz, z_izn, z_i2, z_ia, z_io, z_ina, z_8, Classical.not_not, i115, x115_0, x115_1, x115_2, x115_5, x115_8, x115_9, c116 h1 h2]
set_option maxRecDepth 3000 in
set_option maxHeartbeats 400000 in
theorem zb_all : ∀ j, j < 7 → ∀ k, k < zs_len.getD j 0 → ((((zs_byt.getD j []).getD k 0) &&& 255).toUInt32 % 65536).toInt32 = (zs_byt.getD j []).getD k 0 ∧ zm_fit .char (.inl ((zs_byt.getD j []).getD k 0)) = true := by decide +kernel
set_option maxRecDepth 3000 in
set_option maxHeartbeats 400000 in
theorem c114 {d j k : Nat} (hj : j < 7) (hk : k < zs_len.getD j 0) : zm_Calls (d + 3) 114 [.inr (.inr (some (2, j))), .inl (nI k)] (zh G σ) o ↔ o = (some (.inl ((zs_byt.getD j []).getD k 0)), zh G σ) := by
  have hl := zs_lens j hj
  have h1 : ¬ nI k < 0 := z_not0 (by omega)
  have h2 : nI k < Int32.ofNat (zs_len.getD j 0) := z_ltI hk (by omega)
  have h3 : vp_in (nI k) (zs_len.getD j 0) := z_nin hk (by omega)
  obtain ⟨e1, e2⟩ := zb_all j hj k hk
  simp only [↓reduceIte, true_and, and_true, zf_i, zf_0, zf_1, zb_fit, z_ex, Option.toList_some, Option.toList_none, List.cons_append, List.nil_append, zb_0, z_ie, z_iv, z_ih, z_iz, z_izn, z_i2, z_ia, z_io, z_ina, z_8, Classical.not_not, i114, x114_0, x114_1, x114_2, x114_3, x114_6, x114_7, x114_8, x114_9, x114_12, x114_13, x114_14, za2 hj, zn2 hj, c115 h1 h2, zi2 hj, h3, zl2 hj, z_cl (show k < 1000 by omega), e1, e2, Nat.reduceLT, or_false, true_or]
set_option maxRecDepth 3000 in
set_option maxHeartbeats 400000 in
theorem c113 {d j : Nat} (hj : j < 7) : zm_Calls (d + 1) 113 [.inr (.inr (some (1, j)))] (zh G σ) o ↔ o = (some (.inl 1), zh G σ) := by
  simp only [↓reduceIte, true_and, and_true, zf_i, zf_0, zf_1, zb_fit, z_ex, Option.toList_some, Option.toList_none, List.cons_append, List.nil_append, zb_0, z_ie, z_iv, z_ih, z_iz, z_izn, z_i2, z_ia, z_io, z_ina, z_8, Classical.not_not, i113, x113_0, x113_3, x113_6, x113_7, x113_10, x113_13, x113_14, x113_18, x113_17, zf1_1 hj, zq1_1 hj, z_10]
set_option maxRecDepth 3000 in
set_option maxHeartbeats 400000 in
theorem c111 {d j k : Nat} (hj : j < 7) (hk : k < zs_len.getD j 0) : zm_Calls (d + 4) 111 [.inr (.inr (some (1, j))), .inl (nI k)] (zh G σ) o ↔ o = (some (.inl ((zs_byt.getD j []).getD k 0)), zh G σ) := by
  obtain ⟨e1, e2⟩ := zb_all j hj k hk
  simp only [↓reduceIte, true_and, and_true, zf_i, zf_0, zf_1, zb_fit, z_ex, Option.toList_some, Option.toList_none, List.cons_append, List.nil_append, zb_0, z_ie, z_iv, z_ih, z_iz, z_izn, z_i2, z_ia, z_io, z_ina, z_8, Classical.not_not, i111, x111_0, x111_1, x111_4, x111_7, x111_8, x111_11, x111_12, x111_15, x111_16, x111_17, x111_20, zo1 hj, c113 hj, z_10, zf1_0 hj, zq1_0 hj, c114 hj hk, e2]
set_option maxRecDepth 3000 in
set_option maxHeartbeats 400000 in
theorem zf_b0 : zm_fit .byte (.inl 0) = true := rfl
set_option maxRecDepth 3000 in
set_option maxHeartbeats 400000 in
theorem c108 {d j : Nat} (hj : j < 7) : zm_Calls (d + 1) 108 [.inr (.inr (some (1, j)))] (zh G σ) o ↔ o = (some (.inl 0), zh G σ) := by
  simp only [↓reduceIte, true_and, and_true, zf_i, zf_0, zf_1, zb_fit, z_ex, Option.toList_some, Option.toList_none, List.cons_append, List.nil_append, zb_0, z_ie, z_iv, z_ih, z_iz, z_izn, z_i2, z_ia, z_io, z_ina, z_8, Classical.not_not, i108, x108_0, x108_3, x108_6, x108_7, x108_10, x108_14, x108_13, zf1_1 hj, zq1_1 hj, z_10, zf_b0]
set_option maxRecDepth 3000 in
set_option maxHeartbeats 400000 in
theorem c94 {d j : Nat} (hj : j < 7) : zm_Calls (d + 2) 94 [.inr (.inr (some (1, j)))] (zh G σ) o ↔ o = (some (.inl (nI (zs_len.getD j 0))), zh G σ) := by
  have hl := zs_lens j hj
  have e : Int32.ofNat (zs_len.getD j 0) >>> ((0 : Int32) &&& 31) = nI (zs_len.getD j 0) := sb_shr0 _
  simp only [↓reduceIte, true_and, and_true, zf_i, zf_0, zf_1, zb_fit, z_ex, Option.toList_some, Option.toList_none, List.cons_append, List.nil_append, zb_0, z_ie, z_iv, z_ih, z_iz, z_izn, z_i2, z_ia, z_io, z_ina, z_8, Classical.not_not, i94, x94_0, x94_1, x94_4, x94_5, x94_6, x94_9, x94_10, zf1_0 hj, zq1_0 hj, za2 hj, zn2 hj, zo1 hj, c108 hj, e]
def zTape (σ : zR) (n : Nat) : Prop := σ 13 0 1 = nI n ∧ n ≤ 60 ∧ ∀ j, j < n → zm_fit .char (.inl (σ 39 0 j)) = true
set_option maxRecDepth 3000 in
set_option maxHeartbeats 400000 in
theorem t_at {d n a : Nat} (ht : zTape σ n) (ha : a < 1000) : zm_Calls (d + 1) 95 [.inr (.inr (some (13, 0))), .inl (nI a)] (zh G σ) o ↔ o = (some (.inl (zat (σ 39 0) n a)), zh G σ) := by
  obtain ⟨t1, t2, t3⟩ := ht
  unfold zat
  rw [c95, if_neg (z_not0 ha), t1, z_cl ha]
  by_cases h : a < n
  · rw [if_pos (z_ltI h (by omega)), if_pos (z_l60 (by omega)), if_pos h]
    exact ⟨fun q => q.2.2, fun q => ⟨z_nin (by omega) (by omega), t3 a h, q⟩⟩
  · rw [if_neg (z_nltI h ha (by omega)), if_neg h]
set_option maxRecDepth 3000 in
set_option maxHeartbeats 400000 in
theorem zat_fit {n a : Nat} (ht : zTape σ n) : zm_fit .char (.inl (zat (σ 39 0) n a)) = true := by
  unfold zat
  split
  · next h => exact ht.2.2 a h
  · rfl
def zhs (t : Nat → Int32) (j f : Nat) : Prop := ∀ i, i < zs_len.getD j 0 → t (f + i) = (zs_byt.getD j []).getD i 0
set_option maxRecDepth 3000 in
set_option maxHeartbeats 400000 in
theorem l_has {d n j f : Nat} (ht : zTape σ n) (hj : j < 7) (hf : f < 100) : ∀ (k i : Nat), i + k = zs_len.getD j 0 → (∀ q, q < i → zat (σ 39 0) n (f + q) = (zs_byt.getD j []).getD q 0) → (zm_E (zm_Calls (d + 4)) 107 2 [some (.inr (.inr (some (13, 0)))), some (.inr (.inr (some (1, j)))), some (.inl (nI f)), some (.inl (nI i))] [] (zh G σ) o ↔ o = (some (.inl (zbc (zhs (zat (σ 39 0) n) j f))), zh G σ)) := by
  have hl := zs_lens j hj
  intro k
  induction k with
  | zero =>
    intro i hi hq
    have hi : i = zs_len.getD j 0 := by omega
    subst hi
    rw [x107_2, zbc_t (show zhs (zat (σ 39 0) n) j f from hq)]
    simp only [↓reduceIte, true_and, and_true, zf_i, zf_0, zf_1, zb_fit, z_ex, Option.toList_some, Option.toList_none, List.cons_append, List.nil_append, zb_0, z_ie, z_iv, z_ih, z_iz, z_izn, z_i2, z_ia, z_io, z_ina, z_8, Classical.not_not, x107_0, x107_1, x107_3, x107_4, x107_7, x107_10, x107_11, x107_12, x107_13, x107_14, x107_17, x107_18, x107_19, x107_22, x107_25, x107_26, x107_27, x107_30, x107_33, x107_34, zo1 hj, c94 hj, z_nltI (Nat.lt_irrefl (zs_len.getD j 0)) (by omega : zs_len.getD j 0 < 1000) (by omega : zs_len.getD j 0 < 1000)]
  | succ k ih =>
    intro i hi hq
    have h1 : nI i < nI (zs_len.getD j 0) := z_ltI (by omega) (by omega)
    have e1 : nI f + nI i = nI (f + i) := nI_add f i
    rw [x107_2]
    by_cases hb : zat (σ 39 0) n (f + i) = (zs_byt.getD j []).getD i 0
    · have h3 := ih (i + 1) (by omega) (fun q hq2 => by
        rcases Nat.lt_or_ge q i with h4 | h4
        · exact hq q h4
        · have : q = i := by omega
          subst this; exact hb)
      simp only [↓reduceIte, true_and, and_true, zf_i, zf_0, zf_1, zb_fit, z_ex, Option.toList_some, Option.toList_none, List.cons_append, List.nil_append, zb_0, z_ie, z_iv, z_ih, z_iz, z_izn, z_i2, z_ia, z_io, z_ina, z_8, Classical.not_not, x107_0, x107_1, x107_3, x107_4, x107_7, x107_10, x107_11, x107_12, x107_13, x107_14, x107_17, x107_18, x107_19, x107_22, x107_25, x107_26, x107_27, x107_30, x107_33, x107_34, zo1 hj, c94 hj, h1, zf13_0, zf13_1, zq13_0, zq13_1, zp13_1, zo13, e1, t_at ht (show f + i < 1000 by omega), c111 hj (show i < zs_len.getD j 0 by omega), hb, nI_1, h3]
    · rw [zbc_f (fun z => hb (z i (by omega)))]
      simp only [↓reduceIte, true_and, and_true, zf_i, zf_0, zf_1, zb_fit, z_ex, Option.toList_some, Option.toList_none, List.cons_append, List.nil_append, zb_0, z_ie, z_iv, z_ih, z_iz, z_izn, z_i2, z_ia, z_io, z_ina, z_8, Classical.not_not, x107_0, x107_1, x107_3, x107_4, x107_7, x107_10, x107_11, x107_12, x107_13, x107_14, x107_17, x107_18, x107_19, x107_22, x107_25, x107_26, x107_27, x107_30, x107_33, x107_34, zo1 hj, c94 hj, h1, zf13_0, zf13_1, zq13_0, zq13_1, zp13_1, zo13, e1, t_at ht (show f + i < 1000 by omega), c111 hj (show i < zs_len.getD j 0 by omega), hb]
set_option maxRecDepth 3000 in
set_option maxHeartbeats 400000 in
theorem t_has {d n j f : Nat} (ht : zTape σ n) (hj : j < 7) (hf : f < 100) : zm_Calls (d + 5) 107 [.inr (.inr (some (13, 0))), .inr (.inr (some (1, j))), .inl (nI f)] (zh G σ) o ↔ o = (some (.inl (zbc (zhs (zat (σ 39 0) n) j f))), zh G σ) := by
  have h := l_has (G := G) (σ := σ) (o := o) (d := d) ht hj hf (zs_len.getD j 0) 0 (by omega) (fun q hq => absurd hq (Nat.not_lt_zero q))
  rw [nI_0] at h
  simp only [i107, x107_0, x107_1, x107_3, x107_4, x107_7, x107_10, x107_11, x107_12, x107_13, x107_14, x107_17, x107_18, x107_19, x107_22, x107_25, x107_26, x107_27, x107_30, x107_33, x107_34, h]
set_option maxRecDepth 3000 in
set_option maxHeartbeats 400000 in
theorem c93 {d j : Nat} {h : zmH} {o : zmO} (hj : j < 6) : zm_Calls (d + 1) 93 [.inl (nI j)] h o ↔ o = (some (.inr (.inr (some (1, j)))), h) := by
  rcases (show j = 0 ∨ j = 1 ∨ j = 2 ∨ j = 3 ∨ j = 4 ∨ j = 5 by omega) with rfl | rfl | rfl | rfl | rfl | rfl
  · simp only [↓reduceIte, true_and, and_true, zf_i, zf_0, zf_1, zb_fit, z_ex, Option.toList_some, Option.toList_none, List.cons_append, List.nil_append, zb_0, z_ie, z_iv, z_ih, z_iz, z_izn, z_i2, z_ia, z_io, z_ina, z_8, Classical.not_not, i93, x93_0, x93_1, x93_51, x93_53, x93_48, x93_50, x93_45, x93_47, x93_42, x93_44, x93_39, x93_41, x93_36, x93_38, show nI 0 = 0 from rfl]
  · simp only [↓reduceIte, true_and, and_true, zf_i, zf_0, zf_1, zb_fit, z_ex, Option.toList_some, Option.toList_none, List.cons_append, List.nil_append, zb_0, z_ie, z_iv, z_ih, z_iz, z_izn, z_i2, z_ia, z_io, z_ina, z_8, Classical.not_not, i93, x93_0, x93_1, x93_51, x93_53, x93_48, x93_50, x93_45, x93_47, x93_42, x93_44, x93_39, x93_41, x93_36, x93_38, show nI 1 = 1 from rfl, show ((1 : Int32) = 0) = False from eq_false (by decide)]
  · simp only [↓reduceIte, true_and, and_true, zf_i, zf_0, zf_1, zb_fit, z_ex, Option.toList_some, Option.toList_none, List.cons_append, List.nil_append, zb_0, z_ie, z_iv, z_ih, z_iz, z_izn, z_i2, z_ia, z_io, z_ina, z_8, Classical.not_not, i93, x93_0, x93_1, x93_51, x93_53, x93_48, x93_50, x93_45, x93_47, x93_42, x93_44, x93_39, x93_41, x93_36, x93_38, show nI 2 = 2 from rfl, show ((2 : Int32) = 0) = False from eq_false (by decide), show ((2 : Int32) = 1) = False from eq_false (by decide)]
  · simp only [↓reduceIte, true_and, and_true, zf_i, zf_0, zf_1, zb_fit, z_ex, Option.toList_some, Option.toList_none, List.cons_append, List.nil_append, zb_0, z_ie, z_iv, z_ih, z_iz, z_izn, z_i2, z_ia, z_io, z_ina, z_8, Classical.not_not, i93, x93_0, x93_1, x93_51, x93_53, x93_48, x93_50, x93_45, x93_47, x93_42, x93_44, x93_39, x93_41, x93_36, x93_38, show nI 3 = 3 from rfl, show ((3 : Int32) = 0) = False from eq_false (by decide), show ((3 : Int32) = 1) = False from eq_false (by decide), show ((3 : Int32) = 2) = False from eq_false (by decide)]
  · simp only [↓reduceIte, true_and, and_true, zf_i, zf_0, zf_1, zb_fit, z_ex, Option.toList_some, Option.toList_none, List.cons_append, List.nil_append, zb_0, z_ie, z_iv, z_ih, z_iz, z_izn, z_i2, z_ia, z_io, z_ina, z_8, Classical.not_not, i93, x93_0, x93_1, x93_51, x93_53, x93_48, x93_50, x93_45, x93_47, x93_42, x93_44, x93_39, x93_41, x93_36, x93_38, show nI 4 = 4 from rfl, show ((4 : Int32) = 0) = False from eq_false (by decide), show ((4 : Int32) = 1) = False from eq_false (by decide), show ((4 : Int32) = 2) = False from eq_false (by decide), show ((4 : Int32) = 3) = False from eq_false (by decide)]
  · simp only [↓reduceIte, true_and, and_true, zf_i, zf_0, zf_1, zb_fit, z_ex, Option.toList_some, Option.toList_none, List.cons_append, List.nil_append, zb_0, z_ie, z_iv, z_ih, z_iz, z_izn, z_i2, z_ia, z_io, z_ina, z_8, Classical.not_not, i93, x93_0, x93_1, x93_51, x93_53, x93_48, x93_50, x93_45, x93_47, x93_42, x93_44, x93_39, x93_41, x93_36, x93_38, show nI 5 = 5 from rfl, show ((5 : Int32) = 0) = False from eq_false (by decide), show ((5 : Int32) = 1) = False from eq_false (by decide), show ((5 : Int32) = 2) = False from eq_false (by decide), show ((5 : Int32) = 3) = False from eq_false (by decide), show ((5 : Int32) = 4) = False from eq_false (by decide)]
noncomputable def zfk (t : Nat → Int32) : Nat → Nat → Int32
  | 0, _ => -1
  | k + 1, i => @ite _ (zhs t i 0) (Classical.propDecidable _) (nI i) (zfk t k (i + 1))
set_option maxRecDepth 3000 in
set_option maxHeartbeats 400000 in
theorem l_fk {d n : Nat} (ht : zTape σ n) : ∀ (k i : Nat), i + k = 6 → (zm_E (zm_Calls (d + 5)) 92 2 [some (.inr (.inr (some (13, 0)))), some (.inl (nI i))] [] (zh G σ) o ↔ o = (some (.inl (zfk (zat (σ 39 0) n) k i)), zh G σ)) := by
  intro k
  induction k with
  | zero =>
    intro i hi
    have hi : i = 6 := by omega
    subst hi
    rw [x92_2]
    simp only [↓reduceIte, true_and, and_true, zf_i, zf_0, zf_1, zb_fit, z_ex, Option.toList_some, Option.toList_none, List.cons_append, List.nil_append, zb_0, z_ie, z_iv, z_ih, z_iz, z_izn, z_i2, z_ia, z_io, z_ina, z_8, Classical.not_not, x92_0, x92_1, x92_3, x92_5, x92_8, x92_9, x92_10, x92_13, x92_14, x92_17, x92_20, x92_21, x92_22, x92_25, x92_28, x92_29, show ((nI 6 < 6) = False) from eq_false (by decide), zfk]
  | succ k ih =>
    intro i hi
    have h1 : nI i < 6 := (nI_ltI (b := 6) (by omega) (by omega)).mpr (by omega)
    have h3 := ih (i + 1) (by omega)
    have hh := fun o => t_has (G := G) (σ := σ) (o := o) (d := d) (j := i) (f := 0) ht (by omega) (by omega)
    simp only [nI_0] at hh
    rw [x92_2, zfk]
    by_cases hb : zhs (zat (σ 39 0) n) i 0
    · rw [if_pos hb]
      simp only [↓reduceIte, true_and, and_true, zf_i, zf_0, zf_1, zb_fit, z_ex, Option.toList_some, Option.toList_none, List.cons_append, List.nil_append, zb_0, z_ie, z_iv, z_ih, z_iz, z_izn, z_i2, z_ia, z_io, z_ina, z_8, Classical.not_not, x92_0, x92_1, x92_3, x92_5, x92_8, x92_9, x92_10, x92_13, x92_14, x92_17, x92_20, x92_21, x92_22, x92_25, x92_28, x92_29, h1, c93 (show i < 6 by omega), zf13_0, zf13_1, zq13_0, zq13_1, zp13_1, zo13, hh, zbc_t hb, z_10]
    · rw [if_neg hb]
      simp only [↓reduceIte, true_and, and_true, zf_i, zf_0, zf_1, zb_fit, z_ex, Option.toList_some, Option.toList_none, List.cons_append, List.nil_append, zb_0, z_ie, z_iv, z_ih, z_iz, z_izn, z_i2, z_ia, z_io, z_ina, z_8, Classical.not_not, x92_0, x92_1, x92_3, x92_5, x92_8, x92_9, x92_10, x92_13, x92_14, x92_17, x92_20, x92_21, x92_22, x92_25, x92_28, x92_29, h1, c93 (show i < 6 by omega), zf13_0, zf13_1, zq13_0, zq13_1, zp13_1, zo13, hh, zbc_f hb, nI_1, h3]
set_option maxRecDepth 3000 in
set_option maxHeartbeats 400000 in
theorem c92 {d n : Nat} (ht : zTape σ n) : zm_Calls (d + 6) 92 [.inr (.inr (some (13, 0)))] (zh G σ) o ↔ o = (some (.inl (zfk (zat (σ 39 0) n) 6 0)), zh G σ) := by
  have h := l_fk (G := G) (σ := σ) (o := o) (d := d) ht 6 0 (by omega)
  rw [nI_0] at h
  simp only [i92, x92_0, x92_1, x92_3, x92_5, x92_8, x92_9, x92_10, x92_13, x92_14, x92_17, x92_20, x92_21, x92_22, x92_25, x92_28, x92_29, h]
set_option maxRecDepth 3000 in
set_option maxHeartbeats 400000 in
theorem c99 {d j : Nat} (hj : j < 6) : zm_Calls (d + 1) 99 [.inl (nI j)] (zh G σ) o ↔ o = (some (.inl (zs_wt.getD j 0)), zh G σ) := by
  have h1 : ¬ nI j < 0 := z_not0 (by omega)
  have h2 : nI j < 6 := (nI_ltI (b := 6) (by omega) (by omega)).mpr hj
  simp only [↓reduceIte, true_and, and_true, zf_i, zf_0, zf_1, zb_fit, z_ex, Option.toList_some, Option.toList_none, List.cons_append, List.nil_append, zb_0, z_ie, z_iv, z_ih, z_iz, z_izn, z_i2, z_ia, z_io, z_ina, z_8, Classical.not_not, i99, x99_0, x99_1, x99_4, x99_5, x99_8, x99_9, x99_12, x99_15, x99_16, x99_17, x99_21, x99_20, h1, h2, za3, zn3, zi3, zl3, z_nin hj (by omega), z_cl (show j < 1000 by omega)]
end ZS1
