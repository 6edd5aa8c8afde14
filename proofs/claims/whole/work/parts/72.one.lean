def zY18 (σ : zR) (q : Nat) (w : Int32) (k : Nat) : Int32 := if ¬ w = 0 ∧ ¬ σ 20 0 q = 0 ∧ σ 17 0 (4 * q + 3) = 0 then σ 17 0 (4 * q + k) else σ 18 0 (4 * q + k)
def zY19 (σ : zR) (q : Nat) (w : Int32) : Int32 := if w = 0 then σ 19 0 q else if ¬ σ 20 0 q = 0 ∧ σ 17 0 (4 * q + 3) = 0 then w else if σ 19 0 q < w then w else σ 19 0 q
set_option maxRecDepth 3000 in
set_option maxHeartbeats 400000 in
theorem tb_off {σ : zR} {i : Nat} {w : Int32} {s j : Nat} (h : ¬ (j = i ∧ (s = 42 ∨ s = 44 ∨ s = 37))) : ztb σ i w s j = σ s j := by
  have z : ∀ (σ : zR) (s2 f : Nat) (x : Int32), (s2 = 42 ∨ s2 = 44 ∨ s2 = 37) → zw σ s2 i f x s j = σ s j := fun σ s2 f x hs => zw_off _ _ _ _ _ _ _ (fun q => h ⟨q.2, q.1 ▸ hs⟩)
  have c : ∀ (σ : zR) (s2 t : Nat), (s2 = 42 ∨ s2 = 44 ∨ s2 = 37) → zcp σ s2 i t i s j = σ s j := fun σ s2 t hs => by
    unfold zcp
    rw [z _ _ _ _ hs, z _ _ _ _ hs, z _ _ _ _ hs, z _ _ _ _ hs]
  have r : ∀ (σ : zR) (b : Int32), zrs σ 42 i b s j = σ s j := fun σ b => by
    unfold zrs
    split
    · rw [z _ _ _ _ (by decide), z _ _ _ _ (by decide), z _ _ _ _ (by decide)]
    · split
      · split
        · rw [z _ _ _ _ (by decide)]
        · rfl
      · rw [z _ _ _ _ (by decide), z _ _ _ _ (by decide)]
  have t2 : ∀ (σ : zR), ztb2 σ i w s j = σ s j := fun σ => by
    unfold ztb2
    split
    · rw [z _ _ _ _ (by decide), r, c _ _ _ (by decide), z _ _ _ _ (by decide)]
    · split
      · rw [z _ _ _ _ (by decide), r, c _ _ _ (by decide), z _ _ _ _ (by decide)]
      · rw [z _ _ _ _ (by decide)]
  unfold ztb
  split
  · split
    · rw [t2, z _ _ _ _ (by decide), c _ _ _ (by decide), z _ _ _ _ (by decide)]
    · rw [t2, z _ _ _ _ (by decide)]
  · rfl
set_option maxRecDepth 3000 in
set_option maxHeartbeats 400000 in
theorem tb_37 {σ : zR} {i : Nat} {w : Int32} {f : Nat} (h5 : ¬ f = 5) (h6 : ¬ f = 6) : ztb σ i w 37 i f = σ 37 i f := by
  have e1 : ∀ (σ : zR) (s2 g : Nat) (x : Int32), (¬ s2 = 37 ∨ g = 5 ∨ g = 6) → zw σ s2 i g x 37 i f = σ 37 i f := fun σ s2 g x hs => by
    rw [zw_ap, if_neg]
    rintro ⟨a, _, b⟩
    rcases hs with h | h | h
    · exact h a.symm
    · omega
    · omega
  have c : ∀ (σ : zR) (s2 t : Nat), ¬ s2 = 37 → zcp σ s2 i t i 37 i f = σ 37 i f := fun σ s2 t hs => zcp_off (fun q => hs q.symm)
  have t2 : ∀ (σ : zR), ztb2 σ i w 37 i f = σ 37 i f := fun σ => by
    unfold ztb2
    split
    · rw [e1 _ _ _ _ (Or.inl (by decide)), zrs_37 (by decide), c _ _ _ (by decide), e1 _ _ _ _ (by simp)]
    · split
      · rw [e1 _ _ _ _ (Or.inl (by decide)), zrs_37 (by decide), c _ _ _ (by decide), e1 _ _ _ _ (by simp)]
      · rw [e1 _ _ _ _ (Or.inl (by decide))]
  unfold ztb
  split
  · split
    · rw [t2, e1 _ _ _ _ (by simp), c _ _ _ (by decide), e1 _ _ _ _ (by simp)]
    · rw [t2, e1 _ _ _ _ (by simp)]
  · rfl
set_option maxRecDepth 3000 in
set_option maxHeartbeats 400000 in
theorem rs_eq {σ : zR} {s i : Nat} {b : Int32} {x y z : Int32} (hb : ¬ b < 1) (h0 : σ s i 0 = x) (h1 : σ s i 1 = y) (h2 : σ s i 2 = z) (hx : ¬ x < 0) (e : Int32) {k : Nat} (hk : k < 4) : zw (zrs σ s i b) s i 3 e s i k = zrz x y z b e k := by
  subst h0 h1 h2
  have p1 : (0 < σ s i 0) ↔ ¬ σ s i 0 = 0 := ⟨fun h q => by rw [q] at h; exact absurd h (by decide), fun h => Int32.lt_of_le_of_ne (Int32.not_lt.mp hx) (fun q => h q.symm)⟩
  have p2 : (b < 2) ↔ b = 1 := by
    rw [Int32.lt_iff_toInt_lt] at hb ⊢
    rw [← Int32.toInt_inj]
    have e1 : (1 : Int32).toInt = 1 := rfl
    have e2 : (2 : Int32).toInt = 2 := rfl
    omega
  have p3 : (1 < b) ↔ ¬ b = 1 := by
    rw [Int32.lt_iff_toInt_lt] at hb ⊢
    rw [← Int32.toInt_inj]
    have e1 : (1 : Int32).toInt = 1 := rfl
    omega
  unfold zrs zrz zx4
  simp only [p1, p2, p3]
  have hk : k = 0 ∨ k = 1 ∨ k = 2 ∨ k = 3 := by omega
  by_cases c1 : b = 3 ∧ ¬ σ s i 0 = 0
  · rcases hk with rfl | rfl | rfl | rfl <;> simp [zw_ap, c1]
  · by_cases c2 : b = 1
    · have n3 : ¬ (1 : Int32) = 3 := by decide
      subst c2
      rcases hk with rfl | rfl | rfl | rfl <;> simp [zw_ap, n3]
    · rcases hk with rfl | rfl | rfl | rfl <;> simp [zw_ap, c1, c2]
def zPk (σ ρ : zR) (q : Nat) : Prop := (∀ k, k < 4 → ρ 42 q k = σ 17 0 (4 * q + k)) ∧ ρ 37 q 7 = σ 20 0 q ∧ ¬ σ 17 0 (4 * q) < 0 ∧ (¬ σ 17 0 (4 * q + 3) = 0 → (∀ k, k < 3 → ρ 44 q k = σ 18 0 (4 * q + k)) ∧ ρ 37 q 5 = σ 19 0 q ∧ ¬ σ 18 0 (4 * q) < 0)
set_option maxRecDepth 3000 in
set_option maxHeartbeats 400000 in
theorem tb_in {σ ρ : zR} {q : Nat} {w : Int32} (hw : 0 < w) (h : zPk σ ρ q) : (∀ k, k < 4 → ztb ρ q w 42 q k = zrq σ q w k) ∧ ztb ρ q w 37 q 6 = w ∧ (¬ zrq σ q w 3 = 0 → (∀ k, k < 3 → ztb ρ q w 44 q k = zY18 σ q w k) ∧ ztb ρ q w 37 q 5 = zY19 σ q w) := by
  obtain ⟨hV, hm, hp, hA⟩ := h
  have w0 : ¬ w = 0 := fun q => by rw [q] at hw; exact absurd hw (by decide)
  have w1 : ¬ w < 1 := by
    rw [Int32.lt_iff_toInt_lt] at hw ⊢
    have e1 : (1 : Int32).toInt = 1 := rfl
    have e2 : (0 : Int32).toInt = 0 := rfl
    omega
  have v0 := hV 0 (by omega)
  have v1 := hV 1 (by omega)
  have v2 := hV 2 (by omega)
  have v3 := hV 3 (by omega)
  rw [Nat.add_zero] at v0
  unfold ztb zrq zY18 zY19
  rw [if_pos hw, if_neg w0, v3]
  by_cases e0 : σ 17 0 (4 * q + 3) = 0
  · rw [if_pos e0, if_pos e0]
    have m2 : zw (zcp (zw ρ 37 q 6 w) 44 q 42 q) 37 q 5 0 37 q 7 = σ 20 0 q := by rw [zw_ap, if_neg (by simp), zcp_off (by decide), zw_ap, if_neg (by simp), hm]
    have m5 : zw (zcp (zw ρ 37 q 6 w) 44 q 42 q) 37 q 5 0 37 q 5 = 0 := by rw [zw_ap, if_pos (by simp)]
    have m6 : zw (zcp (zw ρ 37 q 6 w) 44 q 42 q) 37 q 5 0 37 q 6 = w := by rw [zw_ap, if_neg (by simp), zcp_off (by decide), zw_ap, if_pos (by simp)]
    have m4 : ∀ k, k < 4 → zw (zcp (zw ρ 37 q 6 w) 44 q 42 q) 37 q 5 0 44 q k = σ 17 0 (4 * q + k) := fun k hk => by
      have hk : k = 0 ∨ k = 1 ∨ k = 2 ∨ k = 3 := by omega
      unfold zcp
      rcases hk with rfl | rfl | rfl | rfl <;> simp [zw_ap, v0, v1, v2, v3]
    generalize zw (zcp (zw ρ 37 q 6 w) 44 q 42 q) 37 q 5 0 = α at *
    unfold ztb2
    simp only [m2, m5, hw, if_true, w0, not_false_eq_true, true_and, e0, and_true]
    have n4 : ∀ k, k < 4 → zcp (zw α 37 q 5 w) 42 q 44 q 42 q k = σ 17 0 (4 * q + k) := fun k hk => by
      have hk : k = 0 ∨ k = 1 ∨ k = 2 ∨ k = 3 := by omega
      have a0 := m4 0 (by omega)
      have a1 := m4 1 (by omega)
      have a2 := m4 2 (by omega)
      have a3 := m4 3 (by omega)
      rw [Nat.add_zero] at a0
      unfold zcp
      rcases hk with rfl | rfl | rfl | rfl <;> simp [zw_ap, a0, a1, a2, a3]
    have n5 : zcp (zw α 37 q 5 w) 42 q 44 q 37 q 5 = w := by rw [zcp_off (by decide), zw_ap, if_pos (by simp)]
    have n6 : zcp (zw α 37 q 5 w) 42 q 44 q 37 q 6 = w := by rw [zcp_off (by decide), zw_ap, if_neg (by simp), m6]
    have n44 : ∀ k, k < 4 → zcp (zw α 37 q 5 w) 42 q 44 q 44 q k = σ 17 0 (4 * q + k) := fun k hk => by rw [zcp_off (by decide), zw_ap, if_neg (by simp), m4 k hk]
    generalize zcp (zw α 37 q 5 w) 42 q 44 q = β at *
    have r : ∀ e k, k < 4 → zw (zrs β 42 q w) 42 q 3 e 42 q k = zrz (σ 17 0 (4 * q)) (σ 17 0 (4 * q + 1)) (σ 17 0 (4 * q + 2)) w e k := fun e k hk => rs_eq w1 (n4 0 (by omega)) (n4 1 (by omega)) (n4 2 (by omega)) hp e hk
    have o : ∀ e s j, ¬ s = 42 → zw (zrs β 42 q w) 42 q 3 e s q j = β s q j := fun e s j hs => by rw [zw_ap, if_neg (fun x => hs x.1), zrs_37 hs]
    by_cases m0 : σ 20 0 q = 0
    · simp only [m0, if_true]
      refine ⟨fun k hk => r 0 k hk, ?_, fun z => absurd rfl z⟩
      rw [o _ _ _ (by decide), n6]
    · simp only [m0, if_false]
      refine ⟨fun k hk => r 1 k hk, ?_, fun _ => ⟨fun k hk => ?_, ?_⟩⟩
      · rw [o _ _ _ (by decide), n6]
      · rw [o _ _ _ (by decide), n44 k (by omega), if_pos (by simp)]
      · rw [o _ _ _ (by decide), n5, if_pos (by simp)]
  · obtain ⟨a4, ag, ap⟩ := hA e0
    have a0 := a4 0 (by omega)
    have a1 := a4 1 (by omega)
    have a2 := a4 2 (by omega)
    rw [Nat.add_zero] at a0
    rw [if_neg e0, if_neg e0]
    simp only [e0, and_false, if_false, w0]
    have m2 : zw ρ 37 q 6 w 37 q 7 = σ 20 0 q := by rw [zw_ap, if_neg (by simp), hm]
    have m5 : zw ρ 37 q 6 w 37 q 5 = σ 19 0 q := by rw [zw_ap, if_neg (by simp), ag]
    have m6 : zw ρ 37 q 6 w 37 q 6 = w := by rw [zw_ap, if_pos (by simp)]
    have m4 : ∀ k, k < 3 → zw ρ 37 q 6 w 44 q k = σ 18 0 (4 * q + k) := fun k hk => by rw [zw_ap, if_neg (by simp), a4 k hk]
    have mv : ∀ k, k < 4 → zw ρ 37 q 6 w 42 q k = σ 17 0 (4 * q + k) := fun k hk => by rw [zw_ap, if_neg (by simp), hV k hk]
    generalize zw ρ 37 q 6 w = α at *
    unfold ztb2
    simp only [m2, m5]
    have b1 : ¬ (if σ 19 0 q < w then w else σ 19 0 q) < 1 := by
      split
      · exact w1
      · rename_i hh
        rw [Int32.lt_iff_toInt_lt] at hh w1 ⊢
        omega
    have hg : σ 19 0 q < w → (if σ 19 0 q < w then w else σ 19 0 q) = w := fun h => if_pos h
    have hg2 : ¬ σ 19 0 q < w → (if σ 19 0 q < w then w else σ 19 0 q) = σ 19 0 q := fun h => if_neg h
    generalize (if σ 19 0 q < w then w else σ 19 0 q) = g at *
    have n4 : ∀ k, k < 3 → zcp (zw α 37 q 5 g) 42 q 44 q 42 q k = σ 18 0 (4 * q + k) := fun k hk => by
      have hk : k = 0 ∨ k = 1 ∨ k = 2 := by omega
      have a0 := m4 0 (by omega)
      have a1 := m4 1 (by omega)
      have a2 := m4 2 (by omega)
      rw [Nat.add_zero] at a0
      unfold zcp
      rcases hk with rfl | rfl | rfl <;> simp [zw_ap, a0, a1, a2]
    have n5 : zcp (zw α 37 q 5 g) 42 q 44 q 37 q 5 = g := by rw [zcp_off (by decide), zw_ap, if_pos (by simp)]
    have n6 : zcp (zw α 37 q 5 g) 42 q 44 q 37 q 6 = w := by rw [zcp_off (by decide), zw_ap, if_neg (by simp), m6]
    have n44 : ∀ k, k < 3 → zcp (zw α 37 q 5 g) 42 q 44 q 44 q k = σ 18 0 (4 * q + k) := fun k hk => by rw [zcp_off (by decide), zw_ap, if_neg (by simp), m4 k hk]
    generalize zcp (zw α 37 q 5 g) 42 q 44 q = β at *
    have r : ∀ e k, k < 4 → zw (zrs β 42 q g) 42 q 3 e 42 q k = zrz (σ 18 0 (4 * q)) (σ 18 0 (4 * q + 1)) (σ 18 0 (4 * q + 2)) g e k := fun e k hk => rs_eq b1 (n4 0 (by omega)) (n4 1 (by omega)) (n4 2 (by omega)) ap e hk
    have o : ∀ e s j, ¬ s = 42 → zw (zrs β 42 q g) 42 q 3 e s q j = β s q j := fun e s j hs => by rw [zw_ap, if_neg (fun x => hs x.1), zrs_37 hs]
    by_cases m0 : σ 20 0 q = 0
    · simp only [m0, if_true]
      refine ⟨fun k hk => r 0 k hk, ?_, fun z => absurd rfl z⟩
      rw [o _ _ _ (by decide), n6]
    · simp only [m0, if_false]
      by_cases gw : σ 19 0 q < w
      · have hg := hg gw
        subst hg
        simp only [gw, if_true]
        refine ⟨fun k hk => r 1 k hk, ?_, fun _ => ⟨fun k hk => ?_, ?_⟩⟩
        · rw [o _ _ _ (by decide), n6]
        · rw [o _ _ _ (by decide), n44 k (by omega)]
        · rw [o _ _ _ (by decide), n5]
      · simp only [gw, if_false]
        have w3 := mv 3 (by omega)
        refine ⟨fun k hk => ?_, ?_, fun _ => ⟨fun k hk => ?_, ?_⟩⟩
        · have hk : k = 0 ∨ k = 1 ∨ k = 2 ∨ k = 3 := by omega
          have c0 := mv 0 (by omega)
          have c1 := mv 1 (by omega)
          have c2 := mv 2 (by omega)
          rw [Nat.add_zero] at c0
          unfold zx4
          rcases hk with rfl | rfl | rfl | rfl <;> simp [zw_ap, c0, c1, c2, w3]
        · rw [zw_ap, if_neg (by simp), m6]
        · rw [zw_ap, if_neg (by simp), m4 k hk]
        · rw [zw_ap, if_neg (by simp), m5, hg2 gw]
