def zRq (σ ρ : zR) (q : Nat) (w : Int32) : Prop := (∀ k, k < 4 → ρ 43 q k = σ 17 0 (4 * q + k)) ∧ ρ 37 q 6 = w ∧ ρ 37 q 7 = σ 20 0 q ∧ ρ 37 q 8 = σ 21 0 q ∧ (∀ k, k < 4 → ρ 42 q k = zrq σ q w k) ∧ (w = 0 → zPk σ ρ q) ∧ (¬ w = 0 → ¬ zrq σ q w 3 = 0 → (∀ k, k < 3 → ρ 44 q k = zY18 σ q w k) ∧ ρ 37 q 5 = zY19 σ q w)
set_option maxRecDepth 3000 in
set_option maxHeartbeats 400000 in
theorem zRq_c {σ ρ τ : zR} {q : Nat} {w : Int32} (h : zRq σ ρ q w) (e7 : τ 37 q = ρ 37 q) (e2 : τ 42 q = ρ 42 q) (e3 : τ 43 q = ρ 43 q) (e4 : τ 44 q = ρ 44 q) : zRq σ τ q w := by
  unfold zRq zPk at *
  rw [e7, e2, e3, e4]
  exact h
set_option maxRecDepth 3000 in
set_option maxHeartbeats 400000 in
theorem zrq_0 {σ : zR} {q k : Nat} (hk : k < 4) : zrq σ q 0 k = σ 17 0 (4 * q + k) := by
  unfold zrq zx4
  rw [if_pos rfl]
  have hk : k = 0 ∨ k = 1 ∨ k = 2 ∨ k = 3 := by omega
  rcases hk with rfl | rfl | rfl | rfl <;> rfl
set_option maxRecDepth 3000 in
set_option maxHeartbeats 400000 in
theorem z_p0 {w : Int32} (h : ¬ w < 0) : 0 < w ↔ ¬ w = 0 := ⟨fun h q => by rw [q] at h; exact absurd h (by decide), fun h2 => Int32.lt_of_le_of_ne (Int32.not_lt.mp h) (fun q => h2 q.symm)⟩
set_option maxRecDepth 3000 in
set_option maxHeartbeats 400000 in
theorem zRq_tb {σ ρ : zR} {q : Nat} {w : Int32} (h3 : ∀ k, k < 4 → ρ 43 q k = σ 17 0 (4 * q + k)) (h6 : ρ 37 q 6 = 0) (h8 : ρ 37 q 8 = σ 21 0 q) (hP : zPk σ ρ q) (hw : ¬ w < 0) : zRq σ (ztb ρ q w) q w := by
  by_cases w0 : w = 0
  · subst w0
    have e : ztb ρ q 0 = ρ := by unfold ztb; rw [if_neg (by decide)]
    rw [e]
    refine ⟨h3, h6, hP.2.1, h8, fun k hk => ?_, fun _ => hP, fun x => absurd rfl x⟩
    rw [zrq_0 hk]
    exact hP.1 k hk
  · have hw := (z_p0 hw).mpr w0
    obtain ⟨a, b, c⟩ := tb_in hw hP
    refine ⟨fun k hk => ?_, b, ?_, ?_, a, fun x => absurd x w0, fun _ => c⟩
    · rw [tb_off (by simp)]; exact h3 k hk
    · rw [tb_37 (by decide) (by decide)]; exact hP.2.1
    · rw [tb_37 (by decide) (by decide)]; exact h8
set_option maxRecDepth 3000 in
set_option maxHeartbeats 400000 in
theorem zBC_o {m : Nat} {σ : zR} : ∀ j q s, j ≤ q → zBC m σ j s q = σ s q
  | 0, _, _, _ => rfl
  | j + 1, q, s, h => by
    rw [zBC, tb_off (fun x => by omega), zw_off _ _ _ _ _ _ _ (fun x => by omega), zcp_off2 (fun x => by omega)]
    exact zBC_o j q s (by omega)
set_option maxRecDepth 3000 in
set_option maxHeartbeats 400000 in
theorem zBC_in {m n : Nat} {σ : zR} (hP : ∀ q, q < n → zPk σ σ q) (h8 : ∀ q, q < n → σ 37 q 8 = σ 21 0 q) (hw : ∀ q, q < n → ¬ zgp (σ 45) (nI q) m < 0) : ∀ j, j ≤ n → ∀ q, q < j → zRq σ (zBC m σ j) q (zgp (σ 45) (nI q) m)
  | 0, _, q, hq => absurd hq (Nat.not_lt_zero q)
  | j + 1, hj, q, hq => by
    rw [zBC]
    have o := fun s => zBC_o (m := m) (σ := σ) j j s (Nat.le_refl j)
    by_cases h : q = j
    · subst h
      have hP := hP q hj
      have e43 : ∀ k, k < 4 → zw (zcp (zBC m σ q) 43 q 42 q) 37 q 6 0 43 q k = σ 17 0 (4 * q + k) := fun k hk => by
        have hk2 : k = 0 ∨ k = 1 ∨ k = 2 ∨ k = 3 := by omega
        have := hP.1 k hk
        rw [← this, zw_s (by decide)]
        unfold zcp
        rcases hk2 with rfl | rfl | rfl | rfl <;> simp [zw_ap, o]
      refine zRq_tb e43 ?_ ?_ ?_ (hw q hj)
      · rw [zw_ap, if_pos ⟨rfl, rfl, rfl⟩]
      · rw [zw_ap, if_neg (by simp), zcp_off (by decide), o]; exact h8 q hj
      · unfold zPk
        rw [zw_s (show ¬ 42 = 37 by decide), zw_s (show ¬ 44 = 37 by decide), zw_ap, if_neg (by simp), zw_ap, if_neg (by simp)]
        simp only [zcp_off (show ¬ 42 = 43 by decide), zcp_off (show ¬ 44 = 43 by decide), zcp_off (show ¬ 37 = 43 by decide), o]
        exact hP
    · have ih := zBC_in hP h8 hw j (by omega) q (by omega)
      have g : ∀ s, ztb (zw (zcp (zBC m σ j) 43 j 42 j) 37 j 6 0) j (zgp (σ 45) (nI j) m) s q = zBC m σ j s q := fun s => by
        rw [tb_off (fun x => h x.1), zw_off _ _ _ _ _ _ _ (fun x => h x.2), zcp_off2 (fun x => h x.2)]
      exact zRq_c ih (g _) (g _) (g _) (g _)
def zRg (v u : Int32) : Prop := (u = 0 ∧ v = 3) ∨ ∃ r, r < 4 ∧ u = nI (r + 1) ∧ v = nI r
set_option maxRecDepth 3000 in
set_option maxHeartbeats 400000 in
theorem st_sm {σ ρ : zR} {q : Nat} {w v : Int32} (h : zRq σ ρ q w) : zst ρ q v = zsm σ q w v := by
  obtain ⟨h3, -, -, -, h2, -⟩ := h
  unfold zst zsm
  rw [h3 0 (by omega), h3 1 (by omega), h3 2 (by omega), h3 3 (by omega), h2 0 (by omega), h2 1 (by omega), h2 2 (by omega), h2 3 (by omega), Nat.add_zero]
set_option maxRecDepth 3000 in
set_option maxHeartbeats 400000 in
theorem BN_bk {σ ρ : zR} {n p : Nat} {b : Nat → Int32} (h : ∀ q, q < n → zRq σ ρ q (b q)) (hr : ∀ q, q < n → zRg (ρ 41 p q) (σ 22 0 (10 * p + q))) : zBN ρ n p ↔ ∃ q, q < n ∧ zbk σ b p q := by
  unfold zBN zbk
  constructor
  · rintro ⟨q, hq, e⟩
    refine ⟨q, hq, ?_⟩
    rw [st_sm (h q hq)] at e
    rcases hr q hq with ⟨-, h2⟩ | ⟨r, hr, h1, h2⟩
    · rw [h2] at e
      unfold zsm at e
      rw [if_neg (by decide), if_neg (by decide), if_neg (by decide)] at e
      exact absurd e (by decide)
    · rw [h2] at e
      rw [h1, nI_pred]
      refine ⟨?_, e⟩
      rw [← nI_0]
      exact (nI_ltI (by omega) (by omega)).mpr (by omega)
  · rintro ⟨q, hq, e1, e2⟩
    refine ⟨q, hq, ?_⟩
    rw [st_sm (h q hq)]
    rcases hr q hq with ⟨h1, -⟩ | ⟨r, hr, h1, h2⟩
    · rw [h1] at e1
      exact absurd e1 (by decide)
    · rw [h1, nI_pred] at e2
      rw [h2]
      exact e2
set_option maxRecDepth 3000 in
set_option maxHeartbeats 400000 in
theorem C1_fr {σ ρ : zR} {n : Nat} {b : Nat → Int32} (h : ∀ q, q < n → zRq σ ρ q (b q)) (hr : ∀ p, p < n → ∀ q, q < n → zRg (ρ 41 p q) (σ 22 0 (10 * p + q))) : ∀ j, j ≤ n → (∀ q, q < n → zRq σ (zC1 n ρ j) q (zfr σ n b j q)) ∧ (¬ zCf n ρ j → zfr σ n b j = b)
  | 0, _ => ⟨h, fun _ => rfl⟩
  | j + 1, hj => by
    obtain ⟨ih, ic⟩ := C1_fr h hr j (by omega)
    have e41 : zC1 n ρ j 41 = ρ 41 := zC1_s (by decide) (by decide) (by decide) j
    have hB := BN_bk (p := j) ih (fun q hq => by rw [e41]; exact hr j hj q hq)
    have h6 : zC1 n ρ j 37 j 6 = zfr σ n b j j := (ih j hj).2.1
    by_cases hc : zC1 n ρ j 37 j 6 = 0 ∧ zBN (zC1 n ρ j) n j
    · have hd : zfr σ n b j j = 0 ∧ ∃ q, q < n ∧ zbk σ (zfr σ n b j) j q := ⟨h6 ▸ hc.1, hB.mp hc.2⟩
      rw [zC1_t hc, zfr_t hd]
      refine ⟨fun q hq => ?_, fun x => absurd (Or.inr hc) x⟩
      by_cases e : q = j
      · subst e
        have i := ih q hq
        rw [hd.1] at i
        have : upd (zfr σ n b q) q 1 q = 1 := if_pos rfl
        rw [this]
        exact zRq_tb i.1 i.2.1 i.2.2.2.1 (i.2.2.2.2.2.1 rfl) (by decide)
      · have : upd (zfr σ n b j) j 1 q = zfr σ n b j q := if_neg e
        rw [this]
        exact zRq_c (ih q hq) (tb_off (fun x => e x.1)) (tb_off (fun x => e x.1)) (tb_off (fun x => e x.1)) (tb_off (fun x => e x.1))
    · have hd : ¬ (zfr σ n b j j = 0 ∧ ∃ q, q < n ∧ zbk σ (zfr σ n b j) j q) := fun x => hc ⟨h6.trans x.1, hB.mpr x.2⟩
      rw [zC1_f hc, zfr_f hd]
      exact ⟨ih, fun x => ic (fun y => x (Or.inl y))⟩
set_option maxRecDepth 3000 in
set_option maxHeartbeats 400000 in
theorem Rn_It {σ ρ : zR} {n : Nat} {b : Nat → Int32} (h : ∀ q, q < n → zRq σ ρ q (b q)) (hr : ∀ p, p < n → ∀ q, q < n → zRg (ρ 41 p q) (σ 22 0 (10 * p + q))) : ∀ r, (∀ q, q < n → zRq σ (zRn n ρ r) q (zIt σ n b r q))
  | 0 => h
  | r + 1 => by
    have ih := Rn_It h hr r
    have e41 : zRn n ρ r 41 = ρ 41 := zRn_s (by decide) (by decide) (by decide) r
    exact (C1_fr ih (fun p hp q hq => by rw [e41]; exact hr p hp q hq) n (Nat.le_refl n)).1
set_option maxRecDepth 3000 in
set_option maxHeartbeats 400000 in
theorem fr_mono {σ : zR} {n : Nat} {b : Nat → Int32} : ∀ j p, zfr σ n b j p = 0 → b p = 0
  | 0, _, h => h
  | j + 1, p, h => by
    by_cases hd : zfr σ n b j j = 0 ∧ ∃ q, q < n ∧ zbk σ (zfr σ n b j) j q
    · rw [zfr_t hd] at h
      unfold upd at h
      by_cases e : p = j
      · rw [if_pos e] at h; exact absurd h (by decide)
      · rw [if_neg e] at h; exact fr_mono j p h
    · rw [zfr_f hd] at h; exact fr_mono j p h
set_option maxRecDepth 3000 in
set_option maxHeartbeats 400000 in
theorem fr_new {σ : zR} {n : Nat} {b : Nat → Int32} : ∀ j, zfr σ n b j = b ∨ ∃ p, p < j ∧ b p = 0 ∧ ¬ zfr σ n b j p = 0
  | 0 => Or.inl rfl
  | j + 1 => by
    by_cases hd : zfr σ n b j j = 0 ∧ ∃ q, q < n ∧ zbk σ (zfr σ n b j) j q
    · refine Or.inr ⟨j, by omega, fr_mono j j hd.1, ?_⟩
      rw [zfr_t hd]
      unfold upd
      rw [if_pos rfl]
      decide
    · rw [zfr_f hd]
      rcases fr_new j with h | ⟨p, h1, h2, h3⟩
      · exact Or.inl h
      · exact Or.inr ⟨p, by omega, h2, h3⟩
set_option maxRecDepth 3000 in
set_option maxHeartbeats 400000 in
theorem un_le {c : Nat → Int32} {n : Nat} : zun c n ≤ n := by
  unfold zun
  exact Nat.le_trans (List.length_filter_le _ _) (by rw [List.length_range]; exact Nat.le_refl n)
set_option maxRecDepth 3000 in
set_option maxHeartbeats 400000 in
theorem It_cnt {σ : zR} {n : Nat} {b : Nat → Int32} : ∀ r, zfr σ n (zIt σ n b r) n = zIt σ n b r ∨ zun (zIt σ n b r) n + r ≤ n
  | 0 => Or.inr un_le
  | r + 1 => by
    rcases It_cnt (σ := σ) (n := n) (b := b) r with h | h
    · left
      show zfr σ n (zfr σ n (zIt σ n b r) n) n = zfr σ n (zIt σ n b r) n
      rw [h, h]
    · rcases fr_new (σ := σ) (n := n) (b := zIt σ n b r) n with e | e
      · left
        show zfr σ n (zfr σ n (zIt σ n b r) n) n = zfr σ n (zIt σ n b r) n
        rw [e, e]
      · right
        have := zun_lt (c := zIt σ n b r) (c2 := zfr σ n (zIt σ n b r) n) n (fun p _ => fr_mono n p) e
        show zun (zfr σ n (zIt σ n b r) n) n + (r + 1) ≤ n
        omega
set_option maxRecDepth 3000 in
set_option maxHeartbeats 400000 in
theorem It_10 {σ : zR} {n : Nat} {b : Nat → Int32} (hn : n ≤ 10) : zfr σ n (zIt σ n b 10) n = zIt σ n b 10 := by
  rcases It_cnt (σ := σ) (n := n) (b := b) 10 with h | h
  · exact h
  · rcases fr_new (σ := σ) (n := n) (b := zIt σ n b 10) n with e | e
    · exact e
    · have := zun_lt (c := zIt σ n b 10) (c2 := zfr σ n (zIt σ n b 10) n) n (fun p _ => fr_mono n p) e
      omega
set_option maxRecDepth 3000 in
set_option maxHeartbeats 400000 in
theorem It_add {σ : zR} {n : Nat} {b : Nat → Int32} {r : Nat} (h : zfr σ n (zIt σ n b r) n = zIt σ n b r) : ∀ k, zIt σ n b (r + k) = zIt σ n b r
  | 0 => rfl
  | k + 1 => by
    show zfr σ n (zIt σ n b (r + k)) n = zIt σ n b r
    rw [It_add h k, h]
set_option maxRecDepth 3000 in
set_option maxHeartbeats 400000 in
theorem It_one {σ : zR} {n : Nat} {b : Nat → Int32} {r s : Nat} (h1 : zfr σ n (zIt σ n b r) n = zIt σ n b r) (h2 : zfr σ n (zIt σ n b s) n = zIt σ n b s) : zIt σ n b r = zIt σ n b s := by
  rcases Nat.le_total r s with h | h
  · have := It_add h1 (s - r)
    rw [show r + (s - r) = s by omega] at this
    exact this.symm
  · have := It_add h2 (r - s)
    rw [show s + (r - s) = r by omega] at this
    exact this
set_option maxRecDepth 3000 in
set_option maxHeartbeats 400000 in
theorem fr_pos {σ : zR} {n : Nat} {b : Nat → Int32} (h : ∀ p, ¬ b p < 0) : ∀ j p, ¬ zfr σ n b j p < 0
  | 0, p => h p
  | j + 1, p => by
    by_cases hd : zfr σ n b j j = 0 ∧ ∃ q, q < n ∧ zbk σ (zfr σ n b j) j q
    · rw [zfr_t hd]
      unfold upd
      by_cases e : p = j
      · rw [if_pos e]; decide
      · rw [if_neg e]; exact fr_pos h j p
    · rw [zfr_f hd]; exact fr_pos h j p
set_option maxRecDepth 3000 in
set_option maxHeartbeats 400000 in
theorem It_pos {σ : zR} {n : Nat} {b : Nat → Int32} (h : ∀ p, ¬ b p < 0) : ∀ r p, ¬ zIt σ n b r p < 0
  | 0, p => h p
  | r + 1, p => fr_pos (It_pos h r) n p
