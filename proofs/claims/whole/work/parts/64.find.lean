set_option maxRecDepth 3000 in
set_option maxHeartbeats 400000 in
theorem zat_hs {f : Nat → Int32} {n j : Nat} (h : zs_len.getD j 0 ≤ n) : zhs (zat f n) j 0 ↔ zhs f j 0 := by
  unfold zhs zat
  constructor
  · intro q i hi
    have := q i hi
    rwa [if_pos (by omega)] at this
  · intro q i hi
    rw [if_pos (by omega)]
    exact q i hi
set_option maxRecDepth 3000 in
set_option maxHeartbeats 400000 in
theorem zgood_l {f : Nat → Int32} {n j : Nat} (hj : j < 6) (hh : zhs (zat f n) j 0) : zs_len.getD j 0 ≤ n := by
  obtain ⟨-, h3⟩ := zs_len6 j hj
  rcases Nat.lt_or_ge n (zs_len.getD j 0) with q | q
  · have h1 := hh (zs_len.getD j 0 - 1) (by omega)
    have h2 := (zwd_let j hj (zs_len.getD j 0 - 1) (by omega)).1
    unfold zat at h1
    rw [if_neg (by omega)] at h1
    unfold zwd at h2
    rw [← h1] at h2
    exact absurd (by decide) h2
  · exact q
set_option maxRecDepth 3000 in
set_option maxHeartbeats 400000 in
theorem zgood_n {t : Nat → Int32} {n j c e : Nat} (h : zGood t n j c e) : t (zs_len.getD j 0) < 97 := by
  obtain ⟨-, -, hs, hk⟩ := h
  rcases hs with ⟨-, -, s3⟩ | ⟨s1, -⟩
  · subst s3
    unfold zOk2 zE2 at hk
    by_cases hb : t (zs_len.getD j 0) = 33
    · rw [hb]; decide
    · rw [if_neg hb] at hk
      rw [hk.1]; decide
  · rw [s1]; decide
set_option maxRecDepth 3000 in
set_option maxHeartbeats 400000 in
theorem zgood_e {t : Nat → Int32} {n j : Nat} (hj : j < 6) (hh : zhs t j 0) (hl : zs_len.getD j 0 ≤ n) (h97 : t (zs_len.getD j 0) < 97) : zlc t n 0 = zs_len.getD j 0 := by
  refine zlc_at _ _ 0 hl (fun i hi => ?_) (Or.inr (by rw [Nat.zero_add]; exact h97))
  have := zwd_let j hj i hi
  have e := hh i hi
  rw [e]
  exact this
section ZF4
variable {G : zG} {σ : zR} {o : zmO}
set_option maxRecDepth 3000 in
set_option maxHeartbeats 400000 in
theorem find_ok {d n j c e : Nat} (ht : zTm σ n) (hg : zGood (zat (σ 23 0) n) n j c e) : zm_Calls (d + 4) 47 [.inr (.inr (some (9, 0)))] (zh G σ) o ↔ o = (none, zh G (zk4 σ (nI j) (nI c) (zWt (zat (σ 23 0) n) n e j))) := by
  have t2 := ht.2.1
  have h97 := zgood_n hg
  obtain ⟨hj, hh, hs, hk⟩ := hg
  obtain ⟨h6, -⟩ := zs_len6 j hj
  have hl := zgood_l hj hh
  have he0 := zgood_e hj hh hl h97
  have fl := fun o => m_letters (G := G) (o := o) (d := d + 1) (a := 0) ht (by omega)
  simp only [Nat.sub_zero, Nat.zero_add, he0, nI_0] at fl
  have fk := fun o => m_kind (G := G) (o := o) (d := d + 2) ht hl
  simp only [h6, if_true, (zhN_w (t := σ 23 0) (a := 0) (e := zs_len.getD j 0) (j := j) (by omega) (by omega) (fun i hi => by rw [Nat.zero_add]; exact ht.2.2 i (by omega))).mpr ⟨rfl, (zat_hs hl).mp hh⟩, zkw_1 j hj] at fk
  have n0 : ¬ nI j < 0 := z_not0 (by omega)
  have he : e < 500 := by
    have hlc := zlc_le (t := zat (σ 23 0) n) (n - (zs_len.getD j 0 + 1)) (zs_len.getD j 0 + 1)
    rcases hs with q | q <;> omega
  have key : zm_E (zm_Calls (d + 3)) 47 25 [some (.inr (.inr (some (9, 0)))), some (.inl (nI (zs_len.getD j 0))), some (.inl (nI j)), some (.inl 0), some (.inl 1), none] [] (zh G σ) o ↔ o = (none, zh G (zk4 σ (nI j) (nI c) (zWt (zat (σ 23 0) n) n e j))) := by
    rcases hs with ⟨s1, s2, s3⟩ | ⟨s1, s2, s3, s4, s5⟩
    · subst s2 s3
      rw [f0_a ht (by omega) s1, f1_ok ht he hj hk, nI_0]
    · rw [f0_b ht (by omega) s1 s2 (Or.inr rfl), if_pos ⟨rfl, s3, s4⟩, ← s5, f1_ok ht he hj hk]
  rw [← key]
  simp only [↓reduceIte, true_and, and_true, zf_i, zf_0, zf_1, zb_fit, z_ex, Option.toList_some, Option.toList_none, List.cons_append, List.nil_append, zb_0, z_ie, z_iv, z_ih, z_iz, z_izn, z_i2, z_ia, z_io, z_ina, z_8, Classical.not_not, i47, x47_0, x47_1, x47_2, x47_5, x47_6, x47_7, x47_8, x47_11, x47_12, x47_13, x47_14, x47_15, x47_18, x47_19, x47_22, x47_23, zf9_0, zf9_1, zf9_2, zf9_3, zf9_4, zf9_5, zf9_6, zf9_7, zf9_8, zf9_9, zf9_10, zf9_11, zf9_12, zf9_13, zf9_14, zf9_15, zf9_16, zf9_17, zf9_18, zf9_19, zf9_20, zf9_21, zf9_22, zf9_23, zf9_24, zf9_25, zf9_26, zf9_27, zf9_28, zf9_29, zf9_30, zf9_31, zq9_0, zq9_1, zq9_2, zq9_3, zq9_4, zq9_5, zq9_6, zq9_7, zq9_8, zq9_9, zq9_10, zq9_11, zq9_12, zq9_13, zq9_14, zq9_15, zq9_16, zq9_17, zq9_18, zq9_19, zq9_20, zq9_21, zq9_22, zq9_23, zq9_24, zq9_25, zq9_26, zq9_27, zq9_28, zq9_29, zq9_30, zq9_31, zp9_0, zp9_1, zp9_8, zp9_10, zp9_11, zp9_18, zp9_19, zp9_20, zp9_21, zp9_23, zp9_25, zp9_28, zo9, fl, fk, n0]
set_option maxRecDepth 3000 in
set_option maxHeartbeats 400000 in
theorem find_no {d n : Nat} (ht : zTm σ n) (hg : ∀ j c e, ¬ zGood (zat (σ 23 0) n) n j c e) : zm_Calls (d + 4) 47 [.inr (.inr (some (9, 0)))] (zh G σ) o ↔ o = (none, zh G (zk4 σ (-1) 0 (σ 9 0 8))) := by
  have t2 := ht.2.1
  have fl := fun o => m_letters (G := G) (o := o) (d := d + 1) (a := 0) ht (by omega)
  have hlc := zlc_le (t := zat (σ 23 0) n) n 0
  simp only [Nat.sub_zero, Nat.zero_add, nI_0] at fl
  obtain ⟨e0, he0⟩ : ∃ e0, e0 = zlc (zat (σ 23 0) n) n 0 := ⟨_, rfl⟩
  simp only [← he0] at fl hlc
  have fk := fun o => m_kind (G := G) (o := o) (d := d + 2) ht hlc
  have key : ∀ K k : Int32, (k = 0 ∨ (k = 1 ∧ ∃ j, j < 6 ∧ e0 = zs_len.getD j 0 ∧ zhs (zat (σ 23 0) n) j 0)) → (zm_E (zm_Calls (d + 3)) 47 25 [some (.inr (.inr (some (9, 0)))), some (.inl (nI e0)), some (.inl K), some (.inl 0), some (.inl k), none] [] (zh G σ) o ↔ o = (none, zh G (zk4 σ (-1) 0 (σ 9 0 8)))) := by
    intro K k hk
    by_cases s1 : zat (σ 23 0) n e0 = 40
    · obtain ⟨c, hc⟩ : ∃ c, c = zlc (zat (σ 23 0) n) (n - (e0 + 1)) (e0 + 1) := ⟨_, rfl⟩
      have hlc2 := zlc_le (t := zat (σ 23 0) n) (n - (e0 + 1)) (e0 + 1)
      rw [← hc] at hlc2
      rw [f0_b ht (by omega) s1 hc (hk.imp id (fun q => q.1))]
      refine f1_no ht (by omega) (by split <;> simp) ?_
      by_cases hq : k = 1 ∧ c ≠ 0 ∧ zat (σ 23 0) n (e0 + c + 1) = 41
      · rw [if_pos hq]
        refine Or.inr (fun z => ?_)
        rcases hk with hk | ⟨-, j, j1, j2, j3⟩
        · rw [hk] at hq; exact absurd hq.1 (by decide)
        · subst j2
          exact hg j c (zs_len.getD j 0 + c + 2) ⟨j1, j3, Or.inr ⟨s1, hc, hq.2.1, hq.2.2, rfl⟩, z⟩
      · rw [if_neg hq]
        exact Or.inl rfl
    · rw [f0_a ht (by omega) s1]
      refine f1_no ht (by omega) (hk.imp id (fun q => q.1)) ?_
      rcases hk with hk | ⟨-, j, j1, j2, j3⟩
      · exact Or.inl hk
      · refine Or.inr (fun z => ?_)
        subst j2
        exact hg j 0 (zs_len.getD j 0) ⟨j1, j3, Or.inl ⟨s1, rfl, rfl⟩, z⟩
  by_cases hex : ∃ j, j < 6 ∧ e0 = zs_len.getD j 0 ∧ zhs (zat (σ 23 0) n) j 0
  · have k1 := fun K => key K 1 (Or.inr ⟨rfl, hex⟩)
    obtain ⟨j, hj, j2, hh⟩ := hex
    obtain ⟨h6, -⟩ := zs_len6 j hj
    rw [j2] at fk
    have hl : zs_len.getD j 0 ≤ n := by omega
    simp only [h6, if_true, (zhN_w (t := σ 23 0) (a := 0) (e := zs_len.getD j 0) (j := j) (by omega) (by omega) (fun i hi => by rw [Nat.zero_add]; exact ht.2.2 i (by omega))).mpr ⟨rfl, (zat_hs hl).mp hh⟩, zkw_1 j hj] at fk
    rw [← j2] at fk
    have n0 : ¬ nI j < 0 := z_not0 (by omega)
    rw [← k1 (nI j)]
    simp only [↓reduceIte, true_and, and_true, zf_i, zf_0, zf_1, zb_fit, z_ex, Option.toList_some, Option.toList_none, List.cons_append, List.nil_append, zb_0, z_ie, z_iv, z_ih, z_iz, z_izn, z_i2, z_ia, z_io, z_ina, z_8, Classical.not_not, i47, x47_0, x47_1, x47_2, x47_5, x47_6, x47_7, x47_8, x47_11, x47_12, x47_13, x47_14, x47_15, x47_18, x47_19, x47_22, x47_23, zf9_0, zf9_1, zf9_2, zf9_3, zf9_4, zf9_5, zf9_6, zf9_7, zf9_8, zf9_9, zf9_10, zf9_11, zf9_12, zf9_13, zf9_14, zf9_15, zf9_16, zf9_17, zf9_18, zf9_19, zf9_20, zf9_21, zf9_22, zf9_23, zf9_24, zf9_25, zf9_26, zf9_27, zf9_28, zf9_29, zf9_30, zf9_31, zq9_0, zq9_1, zq9_2, zq9_3, zq9_4, zq9_5, zq9_6, zq9_7, zq9_8, zq9_9, zq9_10, zq9_11, zq9_12, zq9_13, zq9_14, zq9_15, zq9_16, zq9_17, zq9_18, zq9_19, zq9_20, zq9_21, zq9_22, zq9_23, zq9_24, zq9_25, zq9_26, zq9_27, zq9_28, zq9_29, zq9_30, zq9_31, zp9_0, zp9_1, zp9_8, zp9_10, zp9_11, zp9_18, zp9_19, zp9_20, zp9_21, zp9_23, zp9_25, zp9_28, zo9, fl, fk, n0]
  · have hkw : zkw (if e0 < 6 then Int64.ofNat (zhN (σ 23 0) 0 e0) else 0) = -1 := by
      refine zkw_0 (fun j hj q => ?_)
      obtain ⟨h6, h3⟩ := zs_len6 j hj
      by_cases q6 : e0 < 6
      · rw [if_pos q6] at q
        obtain ⟨q1, q2⟩ := (zhN_w (t := σ 23 0) (a := 0) (e := e0) (j := j) (by omega) (by omega) (fun i hi => by rw [Nat.zero_add]; exact ht.2.2 i (by omega))).mp q
        exact hex ⟨j, hj, q1, (zat_hs (by omega)).mpr q2⟩
      · rw [if_neg q6, show (0 : Int64) = Int64.ofNat (zhN (zwd j) 0 0) from rfl, zhN_w (t := zwd j) (a := 0) (e := 0) (j := j) (by omega) (by omega) (fun i hi => absurd hi (Nat.not_lt_zero i))] at q
        omega
    rw [hkw] at fk
    rw [← key (-1) 0 (Or.inl rfl)]
    simp only [↓reduceIte, true_and, and_true, zf_i, zf_0, zf_1, zb_fit, z_ex, Option.toList_some, Option.toList_none, List.cons_append, List.nil_append, zb_0, z_ie, z_iv, z_ih, z_iz, z_izn, z_i2, z_ia, z_io, z_ina, z_8, Classical.not_not, i47, x47_0, x47_1, x47_2, x47_5, x47_6, x47_7, x47_8, x47_11, x47_12, x47_13, x47_14, x47_15, x47_18, x47_19, x47_22, x47_23, zf9_0, zf9_1, zf9_2, zf9_3, zf9_4, zf9_5, zf9_6, zf9_7, zf9_8, zf9_9, zf9_10, zf9_11, zf9_12, zf9_13, zf9_14, zf9_15, zf9_16, zf9_17, zf9_18, zf9_19, zf9_20, zf9_21, zf9_22, zf9_23, zf9_24, zf9_25, zf9_26, zf9_27, zf9_28, zf9_29, zf9_30, zf9_31, zq9_0, zq9_1, zq9_2, zq9_3, zq9_4, zq9_5, zq9_6, zq9_7, zq9_8, zq9_9, zq9_10, zq9_11, zq9_12, zq9_13, zq9_14, zq9_15, zq9_16, zq9_17, zq9_18, zq9_19, zq9_20, zq9_21, zq9_22, zq9_23, zq9_24, zq9_25, zq9_26, zq9_27, zq9_28, zq9_29, zq9_30, zq9_31, zp9_0, zp9_1, zp9_8, zp9_10, zp9_11, zp9_18, zp9_19, zp9_20, zp9_21, zp9_23, zp9_25, zp9_28, zo9, fl, fk, show ((-1 : Int32) < 0) = True from eq_true (by decide)]
end ZF4
