noncomputable def zIt (σ : zR) (n : Nat) (b : Nat → Int32) : Nat → Nat → Int32
  | 0 => b
  | r + 1 => zfr σ n (zIt σ n b r) n
set_option maxRecDepth 3000 in
set_option maxHeartbeats 400000 in
theorem zIt_s {σ : zR} {n : Nat} {b : Nat → Int32} : ∀ r, zIt σ n (zfr σ n b n) r = zIt σ n b (r + 1)
  | 0 => rfl
  | r + 1 => by rw [zIt, zIt_s r]; rfl
def zun (cn : Nat → Int32) (n : Nat) : Nat := ((List.range n).filter fun p => decide (cn p = 0)).length
set_option maxRecDepth 3000 in
set_option maxHeartbeats 400000 in
theorem zun_lt {c c2 : Nat → Int32} : ∀ (n : Nat), (∀ p, p < n → c2 p = 0 → c p = 0) → (∃ p, p < n ∧ c p = 0 ∧ ¬ c2 p = 0) → zun c2 n < zun c n := by
  have le : ∀ (n : Nat), (∀ p, p < n → c2 p = 0 → c p = 0) → zun c2 n ≤ zun c n := by
    intro n
    induction n with
    | zero => intro _; exact Nat.le_refl _
    | succ n ih =>
      intro h
      have h1 := ih (fun p hp => h p (by omega))
      unfold zun at h1 ⊢
      rw [zf_range, zf_range, List.length_append, List.length_append]
      by_cases h2 : c2 n = 0
      · rw [if_pos (decide_eq_true h2), if_pos (decide_eq_true (h n (by omega) h2))]
        simp only [List.length_singleton]
        omega
      · rw [if_neg (fun q => h2 (of_decide_eq_true q))]
        simp only [List.length_nil]
        omega
  intro n
  induction n with
  | zero => rintro _ ⟨p, hp, _⟩; omega
  | succ n ih =>
    rintro h ⟨p, hp, h1, h2⟩
    unfold zun
    rw [zf_range, zf_range, List.length_append, List.length_append]
    rcases Nat.lt_or_ge p n with h3 | h3
    · have h4 := ih (fun p hp => h p (by omega)) ⟨p, h3, h1, h2⟩
      unfold zun at h4
      by_cases h5 : c2 n = 0
      · rw [if_pos (decide_eq_true h5), if_pos (decide_eq_true (h n (by omega) h5))]
        simp only [List.length_singleton]
        omega
      · rw [if_neg (fun q => h5 (of_decide_eq_true q))]
        simp only [List.length_nil]
        omega
    · have : p = n := by omega
      subst this
      have h4 := le p (fun q hq => h q (by omega))
      unfold zun at h4
      rw [if_neg (fun q => h2 (of_decide_eq_true q)), if_pos (decide_eq_true h1)]
      simp only [List.length_nil, List.length_singleton]
      omega
section ZM7
variable {G : zG} {σ : zR} {n : Nat}
set_option maxRecDepth 3000 in
set_option maxHeartbeats 400000 in
theorem l_fbW {d : Nat} (hn : n ≤ 10) (hx : σ 9 0 1 = nI n) (hd : znd σ n) : ∀ (k : Nat) (b cn : Nat → Int32), zun cn n ≤ k → (∀ p, p < n → cn p = 0 ∨ 0 < b p) → (∀ p, p < n → ¬ b p < 0) → ∀ (x : Nat → Int32) (l2 l3 : Option zmV), ∃ (r : Nat) (y cn2 : Nat → Int32), zfr σ n (zIt σ n b r) n = zIt σ n b r ∧ ∀ o, zm_E (zm_Calls (d + 3)) 60 86 [some (.inr (.inr (some (9, 0)))), some (.inl 1), l2, l3] [] (zh G (zV3 σ n b x cn)) o ↔ o = (none, zh G (zV3 σ n (zIt σ n b r) y cn2)) := by
  intro k
  induction k with
  | zero =>
    intro b cn hu hc hb x l2 l3
    obtain ⟨y, m2, m3, h4⟩ := l_fbP (G := G) (σ := σ) (n := n) (b := b) (cn := cn) (d := d) hn hx hd n 0 (by omega) x l3
    have hf : ¬ zfm σ n b cn n := by
      rw [zfm_iff]
      rintro ⟨p, h1, h2, h3⟩
      have : p ∈ (List.range n).filter fun p => decide (cn p = 0) := List.mem_filter.mpr ⟨List.mem_range.mpr h1, decide_eq_true h3⟩
      unfold zun at hu
      have := List.length_pos_of_mem this
      omega
    have hfix : zfr σ n b n = b := by
      funext p
      rcases Nat.lt_or_ge p n with hp | hp
      · rcases zfr_ge (σ := σ) (n := n) (b := b) (p := p) n with h | ⟨h1, h2⟩
        · exact h
        · exfalso
          refine hf ((zfm_iff n).mpr ⟨p, hp, ?_, ?_⟩)
          · rw [← zfr_at hp, h2]; decide
          · rcases hc p hp with h3 | h3
            · exact h3
            · rw [h1] at h3; exact absurd h3 (by decide)
      · exact zfr_out hp n (Nat.le_refl _)
    refine ⟨0, y, zcn σ n b cn n, hfix, fun o => ?_⟩
    have h5 := h4 o
    rw [zbc_f hf, hfix, show zfm σ n b cn 0 = False from rfl, zbc_f not_false, show zfr σ n b 0 = b from rfl, show zcn σ n b cn 0 = cn from rfl, nI_0] at h5
    rw [x60_86]
    simp only [↓reduceIte, x60_87, x60_90, x60_91, x60_92, x60_93, z_10, h5, x60_223]
    rw [x60_86]
    simp only [↓reduceIte, x60_87, x60_226, zIt]
  | succ k ih =>
    intro b cn hu hc hb x l2 l3
    obtain ⟨y, m2, m3, h4⟩ := l_fbP (G := G) (σ := σ) (n := n) (b := b) (cn := cn) (d := d) hn hx hd n 0 (by omega) x l3
    by_cases hf : zfm σ n b cn n
    · obtain ⟨p0, p1, p2, p3⟩ := (zfm_iff n).mp hf
      have hlt : zun (zcn σ n b cn n) n < zun cn n := by
        refine zun_lt n (fun p hp h => ?_) ⟨p0, p1, p3, fun h => ?_⟩
        · rw [zcn_at n hp, zb_0] at h
          rcases hc p hp with h3 | h3
          · exact h3
          · exfalso
            apply h
            rw [← zfr_at hp]
            rcases zfr_ge (σ := σ) (n := n) (b := b) (p := p) n with h6 | ⟨_, h6⟩
            · rw [h6]; exact h3
            · rw [h6]; decide
        · rw [zcn_at n p1, zb_0] at h
          exact h p2
      obtain ⟨r, y2, cn2, g1, g2⟩ := ih (zfr σ n b n) (zcn σ n b cn n) (by omega) (fun p hp => by
        rw [zcn_at n hp, zb_0, ← zfr_at hp]
        by_cases h : 0 < zfr σ n b n p
        · exact Or.inr h
        · exact Or.inl h) (fun p hp => by
        rcases zfr_ge (σ := σ) (n := n) (b := b) (p := p) n with h6 | ⟨_, h6⟩
        · rw [h6]; exact hb p hp
        · rw [h6]; decide) y m2 m3
      refine ⟨r + 1, y2, cn2, ?_, fun o => ?_⟩
      · rw [← zIt_s]; exact g1
      · have h5 := h4 o
        rw [zbc_t hf, show zfm σ n b cn 0 = False from rfl, zbc_f not_false, show zfr σ n b 0 = b from rfl, show zcn σ n b cn 0 = cn from rfl, nI_0] at h5
        rw [x60_86]
        simp only [↓reduceIte, x60_87, x60_90, x60_91, x60_92, x60_93, z_10, h5, x60_223, g2, zIt_s]
    · have hfix : zfr σ n b n = b := by
        funext p
        rcases Nat.lt_or_ge p n with hp | hp
        · rcases zfr_ge (σ := σ) (n := n) (b := b) (p := p) n with h | ⟨h1, h2⟩
          · exact h
          · exfalso
            refine hf ((zfm_iff n).mpr ⟨p, hp, ?_, ?_⟩)
            · rw [← zfr_at hp, h2]; decide
            · rcases hc p hp with h3 | h3
              · exact h3
              · rw [h1] at h3; exact absurd h3 (by decide)
        · exact zfr_out hp n (Nat.le_refl _)
      refine ⟨0, y, zcn σ n b cn n, hfix, fun o => ?_⟩
      have h5 := h4 o
      rw [zbc_f hf, hfix, show zfm σ n b cn 0 = False from rfl, zbc_f not_false, show zfr σ n b 0 = b from rfl, show zcn σ n b cn 0 = cn from rfl, nI_0] at h5
      rw [x60_86]
      simp only [↓reduceIte, x60_87, x60_90, x60_91, x60_92, x60_93, z_10, h5, x60_223]
      rw [x60_86]
      simp only [↓reduceIte, x60_87, x60_226, zIt]
def zF2 (σ : zR) : Nat → Nat → Int32
  | 0 => fun _ => 0
  | c + 1 => if (σ 29 0 c = 0 ∧ σ 28 0 c = 0) ∧ zF2 σ c (σ 24 0 c).toNatClampNeg < σ 26 0 c then upd (zF2 σ c) (σ 24 0 c).toNatClampNeg (σ 26 0 c) else zF2 σ c
set_option maxRecDepth 3000 in
set_option maxHeartbeats 400000 in
theorem l_fb1 {d : Nat} {o : zmO} {b x cn : Nat → Int32} {Q : Prop} (hn : n ≤ 10) (hx : σ 9 0 1 = nI n) (hQ : ∀ b', (∀ p, p < n → b' p = 0) → (zm_E (zm_Calls d) 60 23 [some (.inr (.inr (some (9, 0)))), some (.inl (nI n)), none, none] [] (zh G (zV3 σ n b' x cn)) o ↔ Q)) :
    ∀ (k j : Nat), j + k = n → ∀ b, (∀ p, p < j → b p = 0) → (zm_E (zm_Calls d) 60 2 [some (.inr (.inr (some (9, 0)))), some (.inl (nI j)), none, none] [] (zh G (zV3 σ n b x cn)) o ↔ Q) := by
  have e9 : ∀ b x c, zV3 σ n b x c 9 = σ 9 := fun b x c => zV3_s (by decide) (by decide) (by decide)
  intro k
  induction k with
  | zero =>
    intro j hj b hb
    have hj : j = n := by omega
    subst hj
    rw [x60_2]
    simp only [↓reduceIte, x60_3, x60_4, x60_7, zf9_0, zf9_1, zf9_2, zf9_3, zf9_4, zf9_5, zf9_6, zf9_7, zf9_8, zf9_9, zf9_10, zf9_11, zf9_12, zf9_13, zf9_14, zf9_15, zf9_16, zf9_17, zf9_18, zf9_19, zf9_20, zf9_21, zf9_22, zf9_23, zf9_24, zf9_25, zf9_26, zf9_27, zf9_28, zf9_29, zf9_30, zf9_31, zq9_0, zq9_1, zq9_2, zq9_3, zq9_4, zq9_5, zq9_6, zq9_7, zq9_8, zq9_9, zq9_10, zq9_11, zq9_12, zq9_13, zq9_14, zq9_15, zq9_16, zq9_17, zq9_18, zq9_19, zq9_20, zq9_21, zq9_22, zq9_23, zq9_24, zq9_25, zq9_26, zq9_27, zq9_28, zq9_29, zq9_30, zq9_31, zp9_0, zp9_1, zp9_8, zp9_10, zp9_11, zp9_18, zp9_19, zp9_20, zp9_21, zp9_23, zp9_25, zp9_28, zo9, e9, hx, z_nltI (Nat.lt_irrefl j) (by omega : j < 1000) (by omega : j < 1000), true_and]
    exact hQ b hb
  | succ k ih =>
    intro j hj b hb
    have hjn : nI j < nI n := z_ltI (by omega) (by omega)
    have h3 := ih (j + 1) (by omega) (upd b j 0) (fun p hp => by
      by_cases h : p = j
      · subst h; exact pk_us
      · rw [pk_un h]; exact hb p (by omega))
    rw [x60_2]
    simp only [↓reduceIte, x60_3, x60_4, x60_7, x60_10, x60_11, x60_14, x60_15, x60_16, x60_17, x60_20, zf9_0, zf9_1, zf9_2, zf9_3, zf9_4, zf9_5, zf9_6, zf9_7, zf9_8, zf9_9, zf9_10, zf9_11, zf9_12, zf9_13, zf9_14, zf9_15, zf9_16, zf9_17, zf9_18, zf9_19, zf9_20, zf9_21, zf9_22, zf9_23, zf9_24, zf9_25, zf9_26, zf9_27, zf9_28, zf9_29, zf9_30, zf9_31, zq9_0, zq9_1, zq9_2, zq9_3, zq9_4, zq9_5, zq9_6, zq9_7, zq9_8, zq9_9, zq9_10, zq9_11, zq9_12, zq9_13, zq9_14, zq9_15, zq9_16, zq9_17, zq9_18, zq9_19, zq9_20, zq9_21, zq9_22, zq9_23, zq9_24, zq9_25, zq9_26, zq9_27, zq9_28, zq9_29, zq9_30, zq9_31, zp9_0, zp9_1, zp9_8, zp9_10, zp9_11, zp9_18, zp9_19, zp9_20, zp9_21, zp9_23, zp9_25, zp9_28, zo9, za30, zn30, zi30, zl30, zt30, e9, hx, hjn, z_nin (show j < 10 by omega) (by omega), z_cl (show j < 1000 by omega), zV3_wb (show j < n by omega), true_and, z_8, Nat.reduceLeDiff, nI_1, h3]
end ZM7
