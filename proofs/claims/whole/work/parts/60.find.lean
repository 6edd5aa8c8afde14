def zhN (t : Nat → Int32) (a : Nat) : Nat → Nat
  | 0 => 0
  | e + 1 => zhN t a e * 256 + (t (a + e)).toNatClampNeg
set_option maxRecDepth 3000 in
set_option maxHeartbeats 400000 in
theorem zhN_inj {t u : Nat → Int32} {a b : Nat} : ∀ e f, (∀ i, i < e → 0 < (t (a + i)).toNatClampNeg ∧ (t (a + i)).toNatClampNeg < 256) → (∀ i, i < f → 0 < (u (b + i)).toNatClampNeg ∧ (u (b + i)).toNatClampNeg < 256) → zhN t a e = zhN u b f → e = f ∧ ∀ i, i < e → (t (a + i)).toNatClampNeg = (u (b + i)).toNatClampNeg
  | 0, 0, _, _, _ => ⟨rfl, fun i h => absurd h (Nat.not_lt_zero i)⟩
  | 0, f + 1, _, h2, h => by
    have := h2 f (by omega)
    rw [zhN, zhN] at h
    omega
  | e + 1, 0, h1, _, h => by
    have := h1 e (by omega)
    rw [zhN, zhN] at h
    omega
  | e + 1, f + 1, h1, h2, h => by
    have g1 := h1 e (by omega)
    have g2 := h2 f (by omega)
    rw [zhN, zhN] at h
    have h3 : zhN t a e = zhN u b f := by omega
    have h4 : (t (a + e)).toNatClampNeg = (u (b + f)).toNatClampNeg := by omega
    obtain ⟨q1, q2⟩ := zhN_inj e f (fun i hi => h1 i (by omega)) (fun i hi => h2 i (by omega)) h3
    subst q1
    refine ⟨rfl, fun i hi => ?_⟩
    rcases Nat.lt_or_ge i e with h5 | h5
    · exact q2 i h5
    · have : i = e := by omega
      subst this; exact h4
set_option maxRecDepth 3000 in
set_option maxHeartbeats 400000 in
theorem zhN_lt {t : Nat → Int32} {a : Nat} : ∀ e, (∀ i, i < e → (t (a + i)).toNatClampNeg < 127) → zhN t a e < 127 * 256 ^ (e - 1) ∨ e = 0 := by
  intro e
  induction e with
  | zero => intro _; exact Or.inr rfl
  | succ e ih =>
    intro h
    refine Or.inl ?_
    have h0 := h e (by omega)
    rcases ih (fun i hi => h i (by omega)) with q | q
    · rcases Nat.eq_zero_or_pos e with z | z
      · subst z; rw [zhN, zhN]; omega
      · obtain ⟨g, rfl⟩ : ∃ g, e = g + 1 := ⟨e - 1, by omega⟩
        rw [zhN, Nat.add_sub_cancel]
        rw [Nat.add_sub_cancel] at q
        have : 256 ^ (g + 1) = 256 ^ g * 256 := Nat.pow_succ ..
        omega
    · subst q; rw [zhN, zhN]; omega
set_option maxRecDepth 3000 in
set_option maxHeartbeats 400000 in
theorem zch_d {x : Int32} (h1 : ¬ x < 32) (h2 : ¬ 126 < x) : 32 ≤ x.toNatClampNeg ∧ x.toNatClampNeg < 127 ∧ x.toInt = x.toNatClampNeg := by
  rw [Int32.lt_iff_toInt_lt] at h1 h2
  have a : (32 : Int32).toInt = 32 := rfl
  have b : (126 : Int32).toInt = 126 := rfl
  rw [a] at h1
  rw [b] at h2
  have e : x.toNatClampNeg = x.toInt.toNat := rfl
  omega
set_option maxRecDepth 3000 in
set_option maxHeartbeats 400000 in
theorem zch_l {x : Int32} (h1 : ¬ x < 32) (h2 : ¬ 126 < x) : x.toInt64 = Int64.ofNat x.toNatClampNeg := by
  obtain ⟨-, q2, q3⟩ := zch_d h1 h2
  apply Int64.toInt_inj.mp
  rw [Int32.toInt_toInt64, Int64.toInt_ofNat_of_lt (by omega), q3]
set_option maxRecDepth 3000 in
set_option maxHeartbeats 400000 in
theorem zhN_s {t : Nat → Int32} {a e : Nat} (h1 : ¬ t (a + e) < 32) (h2 : ¬ 126 < t (a + e)) : Int64.ofNat (zhN t a e) * 256 + (t (a + e)).toInt64 = Int64.ofNat (zhN t a (e + 1)) := by
  rw [zhN, Int64.ofNat_add, Int64.ofNat_mul, zch_l h1 h2]
  rfl
set_option maxRecDepth 3000 in
set_option maxHeartbeats 400000 in
theorem z64 {a b : Nat} (ha : a < 9223372036854775808) (hb : b < 9223372036854775808) (h : Int64.ofNat a = Int64.ofNat b) : a = b := by
  have := congrArg Int64.toInt h
  rw [Int64.toInt_ofNat_of_lt (by omega), Int64.toInt_ofNat_of_lt (by omega)] at this
  omega
def zwd (j i : Nat) : Int32 := (zs_byt.getD j []).getD i 0
set_option maxRecDepth 3000 in
set_option maxHeartbeats 400000 in
theorem zwd_ok : ∀ j, j < 7 → ∀ i, i < zs_len.getD j 0 → ¬ zwd j i < 32 ∧ ¬ 126 < zwd j i := by decide +kernel
set_option maxRecDepth 3000 in
set_option maxHeartbeats 400000 in
theorem zcl_inj {x y : Int32} (h1 : ¬ x < 32) (h2 : ¬ 126 < x) (h3 : ¬ y < 32) (h4 : ¬ 126 < y) (h : x.toNatClampNeg = y.toNatClampNeg) : x = y := by
  have a := (zch_d h1 h2).2.2
  have b := (zch_d h3 h4).2.2
  apply Int32.toInt_inj.mp
  omega
def zCh (t : Nat → Int32) (n : Nat) : Prop := ∀ i, i < n → ¬ t i < 32 ∧ ¬ 126 < t i
set_option maxRecDepth 3000 in
set_option maxHeartbeats 400000 in
theorem zhN_w {t : Nat → Int32} {a e j : Nat} (hj : j < 7) (he : e ≤ 8) (ht : ∀ i, i < e → ¬ t (a + i) < 32 ∧ ¬ 126 < t (a + i)) : Int64.ofNat (zhN t a e) = Int64.ofNat (zhN (zwd j) 0 (zs_len.getD j 0)) ↔ e = zs_len.getD j 0 ∧ zhs t j a := by
  have hl := zs_lens j hj
  have hd : ∀ i, i < e → 32 ≤ (t (a + i)).toNatClampNeg ∧ (t (a + i)).toNatClampNeg < 127 := fun i hi => ⟨(zch_d (ht i hi).1 (ht i hi).2).1, (zch_d (ht i hi).1 (ht i hi).2).2.1⟩
  have hw : ∀ i, i < zs_len.getD j 0 → 32 ≤ (zwd j (0 + i)).toNatClampNeg ∧ (zwd j (0 + i)).toNatClampNeg < 127 := fun i hi => by
    rw [Nat.zero_add]
    obtain ⟨q1, q2⟩ := zwd_ok j hj i hi
    exact ⟨(zch_d q1 q2).1, (zch_d q1 q2).2.1⟩
  have b1 : ∀ e, e ≤ 8 → 256 ^ (e - 1) ≤ 256 ^ 7 := fun e h => Nat.pow_le_pow_right (by omega) (by omega)
  constructor
  · intro h
    have h := z64 (by
      rcases zhN_lt (t := t) (a := a) e (fun i hi => (hd i hi).2) with q | q
      · have := b1 e he; omega
      · subst q; rw [zhN]; omega) (by
      rcases zhN_lt (t := zwd j) (a := 0) (zs_len.getD j 0) (fun i hi => (hw i hi).2) with q | q
      · have := b1 (zs_len.getD j 0) (by omega); omega
      · rw [q, zhN]; omega) h
    obtain ⟨q1, q2⟩ := zhN_inj e (zs_len.getD j 0) (fun i hi => ⟨by have := (hd i hi).1; omega, by have := (hd i hi).2; omega⟩) (fun i hi => ⟨by have := (hw i hi).1; omega, by have := (hw i hi).2; omega⟩) h
    refine ⟨q1, fun i hi => ?_⟩
    have q3 := q2 i (by omega)
    rw [Nat.zero_add] at q3
    obtain ⟨q4, q5⟩ := zwd_ok j hj i hi
    exact zcl_inj (ht i (by omega)).1 (ht i (by omega)).2 q4 q5 q3
  · rintro ⟨h1, h2⟩
    subst h1
    congr 1
    have : ∀ e, e ≤ zs_len.getD j 0 → zhN t a e = zhN (zwd j) 0 e := by
      intro e
      induction e with
      | zero => intro _; rfl
      | succ e ih =>
        intro hq
        rw [zhN, zhN, ih (by omega), Nat.zero_add, h2 e (by omega)]
        rfl
    exact this _ (Nat.le_refl _)
