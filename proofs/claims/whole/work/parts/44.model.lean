section ZM10
variable {G : zG} {σ : zR} {o : zmO}
set_option maxRecDepth 3000 in
set_option maxHeartbeats 400000 in
theorem l_run1 {d n : Nat} {b x : Nat → Int32} {Q : Prop} (hQ : ∀ c, (∀ p, p < 10 → c p = 0) → (zm_E (zm_Calls d) 22 36 [some (.inr (.inr (some (9, 0)))), some (.inl 10), none, none] [] (zh G (zV3 σ n b x c)) o ↔ Q)) :
    ∀ (k j : Nat), j + k = 10 → ∀ c, (∀ p, p < j → c p = 0) → (zm_E (zm_Calls d) 22 17 [some (.inr (.inr (some (9, 0)))), some (.inl (nI j)), none, none] [] (zh G (zV3 σ n b x c)) o ↔ Q) := by
  intro k
  induction k with
  | zero =>
    intro j hj c hc
    have hj : j = 10 := by omega
    subst hj
    have h := hQ c hc
    rw [x22_17]
    simp only [↓reduceIte, x22_18, x22_20, show ((nI 10 < 10) = False) from eq_false (by decide)]
    exact h
  | succ k ih =>
    intro j hj c hc
    have h3 := ih (j + 1) (by omega) (upd c j 0) (fun p hp => by
      by_cases h : p = j
      · subst h; exact pk_us
      · rw [pk_un h]; exact hc p (by omega))
    rw [x22_17]
    simp only [↓reduceIte, x22_18, x22_20, x22_23, x22_24, x22_27, x22_28, x22_29, x22_30, x22_33, z_l10 (show j < 10 by omega), zf9_0, zf9_1, zf9_2, zf9_3, zf9_4, zf9_5, zf9_6, zf9_7, zf9_8, zf9_9, zf9_10, zf9_11, zf9_12, zf9_13, zf9_14, zf9_15, zf9_16, zf9_17, zf9_18, zf9_19, zf9_20, zf9_21, zf9_22, zf9_23, zf9_24, zf9_25, zf9_26, zf9_27, zf9_28, zf9_29, zf9_30, zf9_31, zq9_0, zq9_1, zq9_2, zq9_3, zq9_4, zq9_5, zq9_6, zq9_7, zq9_8, zq9_9, zq9_10, zq9_11, zq9_12, zq9_13, zq9_14, zq9_15, zq9_16, zq9_17, zq9_18, zq9_19, zq9_20, zq9_21, zq9_22, zq9_23, zq9_24, zq9_25, zq9_26, zq9_27, zq9_28, zq9_29, zq9_30, zq9_31, zp9_0, zp9_1, zp9_8, zp9_10, zp9_11, zp9_18, zp9_19, zp9_20, zp9_21, zp9_23, zp9_25, zp9_28, zo9, za36, zn36, zi36, zl36, zt36, z_nin (show j < 10 by omega) (by omega), z_cl (show j < 1000 by omega), z_nb0, zV3_wc (show j < 10 by omega), true_and, z_8, Nat.reduceLeDiff, nI_1, h3]
set_option maxRecDepth 3000 in
set_option maxHeartbeats 400000 in
theorem l_run2 {d n m : Nat} {Q : Prop} {many : Int32} {l3 : Option zmV} (hn : n ≤ 60) (hm : m ≤ 10) (hx : σ 9 0 11 = nI n) (hO : ∀ c, c < n → ∃ p, p < m ∧ σ 24 0 c = nI p)
    (hQ : zm_E (zm_Calls d) 22 110 [some (.inr (.inr (some (9, 0)))), some (.inl many), some (.inl (nI n)), l3] [] (zh G (zMR σ n)) o ↔ Q) :
    ∀ (k j : Nat), j + k = n → (zm_E (zm_Calls d) 22 54 [some (.inr (.inr (some (9, 0)))), some (.inl many), some (.inl (nI j)), l3] [] (zh G (zMR σ j)) o ↔ Q) := by
  have e9 : ∀ j, zMR σ j 9 = σ 9 := fun j => zMR_s (by decide) j
  have e24 : ∀ j, zMR σ j 24 = σ 24 := fun j => zMR_s (by decide) j
  have e30 : ∀ j, zMR σ j 30 = σ 30 := fun j => zMR_s (by decide) j
  intro k
  induction k with
  | zero =>
    intro j hj
    have hj : j = n := by omega
    subst hj
    rw [x22_54]
    simp only [↓reduceIte, x22_55, x22_56, x22_59, zf9_0, zf9_1, zf9_2, zf9_3, zf9_4, zf9_5, zf9_6, zf9_7, zf9_8, zf9_9, zf9_10, zf9_11, zf9_12, zf9_13, zf9_14, zf9_15, zf9_16, zf9_17, zf9_18, zf9_19, zf9_20, zf9_21, zf9_22, zf9_23, zf9_24, zf9_25, zf9_26, zf9_27, zf9_28, zf9_29, zf9_30, zf9_31, zq9_0, zq9_1, zq9_2, zq9_3, zq9_4, zq9_5, zq9_6, zq9_7, zq9_8, zq9_9, zq9_10, zq9_11, zq9_12, zq9_13, zq9_14, zq9_15, zq9_16, zq9_17, zq9_18, zq9_19, zq9_20, zq9_21, zq9_22, zq9_23, zq9_24, zq9_25, zq9_26, zq9_27, zq9_28, zq9_29, zq9_30, zq9_31, zp9_0, zp9_1, zp9_8, zp9_10, zp9_11, zp9_18, zp9_19, zp9_20, zp9_21, zp9_23, zp9_25, zp9_28, zo9, e9, hx, z_nltI (Nat.lt_irrefl j) (by omega : j < 1000) (by omega : j < 1000), true_and, hQ]
  | succ k ih =>
    intro j hj
    have hjn : nI j < nI n := z_ltI (by omega) (by omega)
    obtain ⟨p, hp, ep⟩ := hO j (by omega)
    have h3 := ih (j + 1) (by omega)
    have e28 : zMR σ j 28 0 j = σ 28 0 j := zMR_hi j j (Nat.le_refl _)
    rw [zMR, ep, z_cl (show p < 1000 by omega)] at h3
    rw [x22_54]
    by_cases f1 : σ 28 0 j = 0
    · by_cases f2 : 0 < σ 30 0 p
      · rw [if_pos ⟨f1, f2⟩] at h3
        simp only [↓reduceIte, x22_55, x22_56, x22_59, x22_62, x22_63, x22_66, x22_67, x22_68, x22_71, x22_72, x22_73, x22_76, x22_77, x22_80, x22_81, x22_84, x22_85, x22_86, x22_87, x22_90, x22_91, x22_94, x22_103, x22_104, x22_107, zf9_0, zf9_1, zf9_2, zf9_3, zf9_4, zf9_5, zf9_6, zf9_7, zf9_8, zf9_9, zf9_10, zf9_11, zf9_12, zf9_13, zf9_14, zf9_15, zf9_16, zf9_17, zf9_18, zf9_19, zf9_20, zf9_21, zf9_22, zf9_23, zf9_24, zf9_25, zf9_26, zf9_27, zf9_28, zf9_29, zf9_30, zf9_31, zq9_0, zq9_1, zq9_2, zq9_3, zq9_4, zq9_5, zq9_6, zq9_7, zq9_8, zq9_9, zq9_10, zq9_11, zq9_12, zq9_13, zq9_14, zq9_15, zq9_16, zq9_17, zq9_18, zq9_19, zq9_20, zq9_21, zq9_22, zq9_23, zq9_24, zq9_25, zq9_26, zq9_27, zq9_28, zq9_29, zq9_30, zq9_31, zp9_0, zp9_1, zp9_8, zp9_10, zp9_11, zp9_18, zp9_19, zp9_20, zp9_21, zp9_23, zp9_25, zp9_28, zo9, za24, zn24, zi24, zl24, zt24, za28, zn28, zi28, zl28, zt28, za30, zn30, zi30, zl30, zt30, e9, e24, e28, e30, hx, hjn, f1, f2, ep, z_nin (show j < 60 by omega) (by omega), z_cl (show j < 1000 by omega), z_nin (show p < 10 by omega) (by omega), z_cl (show p < 1000 by omega), true_and, z_8, Nat.reduceLeDiff, nI_1, h3]
      · rw [if_neg (fun q => f2 q.2), f1] at h3
        simp only [↓reduceIte, x22_55, x22_56, x22_59, x22_62, x22_63, x22_66, x22_67, x22_68, x22_71, x22_72, x22_73, x22_76, x22_77, x22_80, x22_81, x22_84, x22_85, x22_86, x22_87, x22_97, x22_98, x22_101, x22_102, x22_103, x22_104, x22_107, zf9_0, zf9_1, zf9_2, zf9_3, zf9_4, zf9_5, zf9_6, zf9_7, zf9_8, zf9_9, zf9_10, zf9_11, zf9_12, zf9_13, zf9_14, zf9_15, zf9_16, zf9_17, zf9_18, zf9_19, zf9_20, zf9_21, zf9_22, zf9_23, zf9_24, zf9_25, zf9_26, zf9_27, zf9_28, zf9_29, zf9_30, zf9_31, zq9_0, zq9_1, zq9_2, zq9_3, zq9_4, zq9_5, zq9_6, zq9_7, zq9_8, zq9_9, zq9_10, zq9_11, zq9_12, zq9_13, zq9_14, zq9_15, zq9_16, zq9_17, zq9_18, zq9_19, zq9_20, zq9_21, zq9_22, zq9_23, zq9_24, zq9_25, zq9_26, zq9_27, zq9_28, zq9_29, zq9_30, zq9_31, zp9_0, zp9_1, zp9_8, zp9_10, zp9_11, zp9_18, zp9_19, zp9_20, zp9_21, zp9_23, zp9_25, zp9_28, zo9, za24, zn24, zi24, zl24, zt24, za28, zn28, zi28, zl28, zt28, za30, zn30, zi30, zl30, zt30, e9, e24, e28, e30, hx, hjn, f1, f2, ep, z_nin (show j < 60 by omega) (by omega), z_cl (show j < 1000 by omega), z_nin (show p < 10 by omega) (by omega), z_cl (show p < 1000 by omega), true_and, z_8, Nat.reduceLeDiff, nI_1, h3]
    · rw [if_neg (fun q => f1 q.1)] at h3
      simp only [↓reduceIte, x22_55, x22_56, x22_59, x22_62, x22_63, x22_66, x22_67, x22_68, x22_71, x22_72, x22_73, x22_97, x22_98, x22_101, x22_102, x22_103, x22_104, x22_107, zf9_0, zf9_1, zf9_2, zf9_3, zf9_4, zf9_5, zf9_6, zf9_7, zf9_8, zf9_9, zf9_10, zf9_11, zf9_12, zf9_13, zf9_14, zf9_15, zf9_16, zf9_17, zf9_18, zf9_19, zf9_20, zf9_21, zf9_22, zf9_23, zf9_24, zf9_25, zf9_26, zf9_27, zf9_28, zf9_29, zf9_30, zf9_31, zq9_0, zq9_1, zq9_2, zq9_3, zq9_4, zq9_5, zq9_6, zq9_7, zq9_8, zq9_9, zq9_10, zq9_11, zq9_12, zq9_13, zq9_14, zq9_15, zq9_16, zq9_17, zq9_18, zq9_19, zq9_20, zq9_21, zq9_22, zq9_23, zq9_24, zq9_25, zq9_26, zq9_27, zq9_28, zq9_29, zq9_30, zq9_31, zp9_0, zp9_1, zp9_8, zp9_10, zp9_11, zp9_18, zp9_19, zp9_20, zp9_21, zp9_23, zp9_25, zp9_28, zo9, za24, zn24, zi24, zl24, zt24, za28, zn28, zi28, zl28, zt28, za30, zn30, zi30, zl30, zt30, e9, e24, e28, e30, hx, hjn, f1, z_nin (show j < 60 by omega) (by omega), z_cl (show j < 1000 by omega), true_and, z_8, Nat.reduceLeDiff, nI_1, h3]
set_option maxRecDepth 3000 in
set_option maxHeartbeats 400000 in
theorem m_run {d m : Nat} {σ0 : zR} (hσ : σ = zw (zw σ0 9 0 0 0) 9 0 21 (σ0 9 0 21 + 1)) (hm : m ≤ 10) (hn : G.2.2.2.1 ≤ 60) (hx1 : σ0 9 0 1 = nI m) (hx : σ0 9 0 11 = nI G.2.2.2.1) (hd : znd σ m) (hO : ∀ c, c < G.2.2.2.1 → ∃ p, p < m ∧ σ 24 0 c = nI p) (hb : ∀ p, p < m → ¬ zF2 σ G.2.2.2.1 p < 0)
    (hB : ∀ r y cn2, (zQn (zMR (zNT (zV3 σ m (zIt σ m (zF2 σ G.2.2.2.1) r) y cn2) [] []) G.2.2.2.1) G.2.2.2.1 m).length ≤ 60) :
    ∃ (r : Nat) (y cn2 : Nat → Int32), zfr σ m (zIt σ m (zF2 σ G.2.2.2.1) r) m = zIt σ m (zF2 σ G.2.2.2.1) r ∧ ∀ o, zm_Calls (d + 5) 22 [.inr (.inr (some (9, 0)))] (zh G σ0) o ↔ ∃ τ, τ = zMR (zNT (zV3 σ m (zIt σ m (zF2 σ G.2.2.2.1) r) y cn2) [] []) G.2.2.2.1 ∧ o = (some (.inl (zQc τ m)), zh G (zNT (zQs τ m) (zQt τ m) (zQn τ G.2.2.2.1 m))) := by
  have s1 : σ 9 0 1 = nI m := by rw [hσ, zw_ap, if_neg (by decide), zw_ap, if_neg (by decide)]; exact hx1
  have s11 : σ 9 0 11 = nI G.2.2.2.1 := by rw [hσ, zw_ap, if_neg (by decide), zw_ap, if_neg (by decide)]; exact hx
  obtain ⟨r, y, cn2, g1, g2⟩ := m_findBumps (G := G) (σ := σ) (n := m) (x := fun k => σ 33 0 k) (cn := fun _ => 0) (d := d) (b := fun p => σ 30 0 p) hm hn s1 s11 hd hO (fun _ _ => rfl) hb
  refine ⟨r, y, cn2, g1, fun o => ?_⟩
  generalize hβ : zV3 σ m (zIt σ m (zF2 σ G.2.2.2.1) r) y cn2 = β at g2
  have hBr := hB r y cn2
  rw [hβ] at hBr
  have b9 : β 9 = σ 9 := by rw [← hβ]; exact zV3_s (by decide) (by decide) (by decide)
  have b24 : β 24 = σ 24 := by rw [← hβ]; exact zV3_s (by decide) (by decide) (by decide)
  have n9 : ∀ f, ¬ f = 23 → ¬ f = 25 → zNT β [] [] 9 0 f = σ 9 0 f := fun f h1 h2 => by rw [zNT_9 h1 h2, b9]
  generalize hτ : zMR (zNT β [] []) G.2.2.2.1 = τ at hBr ⊢
  have t9 : ∀ f, ¬ f = 23 → ¬ f = 25 → τ 9 0 f = σ 9 0 f := fun f h1 h2 => by rw [← hτ, zMR_s (by decide), n9 f h1 h2]
  have h3 := l_runP (G := G) (σ := τ) (o := o) (d := d + 1) (n := G.2.2.2.1) (m := m) hm hn (by rw [t9 1 (by decide) (by decide)]; exact s1) (by rw [t9 11 (by decide) (by decide)]; exact s11) hBr m 0 (by omega) none
  have eτ : zNT τ [] [] = τ := by
    funext s i f
    have hs : ∀ s i f, τ s i f = zMR (zNT β [] []) G.2.2.2.1 s i f := fun s i f => by rw [hτ]
    unfold zNT zMn zMt
    by_cases h1 : s = 9 ∧ i = 0 ∧ f = 23
    · rw [if_pos h1, hs, h1.1, h1.2.1, h1.2.2, zMR_s (by decide)]
      unfold zNT
      rw [zMn_23]
    · rw [if_neg h1, if_neg (fun q => Nat.not_lt_zero _ q.2.2)]
      by_cases h2 : s = 9 ∧ i = 0 ∧ f = 25
      · rw [if_pos h2, hs, h2.1, h2.2.1, h2.2.2, zMR_s (by decide), zNT_25]
      · rw [if_neg h2, if_neg (fun q => Nat.not_lt_zero _ q.2.2)]
  rw [show zQc τ 0 = 0 from rfl, show zQs τ 0 = τ from rfl, show zQt τ 0 = [] from rfl, show zQn τ G.2.2.2.1 0 = [] from rfl, nI_0, eτ] at h3
  have h2 := l_run2 (G := G) (σ := zNT β [] []) (o := o) (d := d + 4) (n := G.2.2.2.1) (m := m) (many := 0) (l3 := none) (Q := o = (some (.inl (zQc τ m)), zh G (zNT (zQs τ m) (zQt τ m) (zQn τ G.2.2.2.1 m)))) hn hm (by rw [n9 11 (by decide) (by decide)]; exact s11) (fun c hc => by
    obtain ⟨p, h1, h2⟩ := hO c hc
    exact ⟨p, h1, by rw [zNT_s (by decide) (by decide) (by decide), b24]; exact h2⟩) (by
    rw [hτ]
    simp only [x22_110, x22_111, h3]) G.2.2.2.1 0 (by omega)
  rw [nI_0, show zMR (zNT β [] []) 0 = zNT β [] [] from rfl] at h2
  have e0 : zw (zw β 9 0 23 0) 9 0 25 0 = zNT β [] [] := by
    rw [zMn_0, zMt_0]
    funext s i f
    unfold zNT zMn zMt
    by_cases h1 : s = 9 ∧ i = 0 ∧ f = 25
    · rw [if_pos h1, if_neg (fun q => by omega), if_neg (fun q => by omega), if_pos h1]
    · rw [if_neg h1, if_neg (fun q => Nat.not_lt_zero _ q.2.2), if_neg (show ¬ (s = 32 ∧ i = 0 ∧ f < List.length ([] : List Nat)) from fun q => Nat.not_lt_zero _ q.2.2)]
      by_cases h2 : s = 9 ∧ i = 0 ∧ f = 23
      · rw [if_pos h2]
        exact if_pos h2
      · rw [if_neg h2, if_neg (show ¬ (s = 31 ∧ i = 0 ∧ f < List.length ([] : List Nat)) from fun q => Nat.not_lt_zero _ q.2.2), if_neg h1]
        exact (if_neg h2).trans (if_neg (fun q => Nat.not_lt_zero _ q.2.2))
  have h1 := l_run1 (G := G) (σ := σ) (o := o) (d := d + 4) (n := m) (b := fun p => σ 30 0 p) (x := fun k => σ 33 0 k) (Q := o = (some (.inl (zQc τ m)), zh G (zNT (zQs τ m) (zQt τ m) (zQn τ G.2.2.2.1 m)))) (fun c hc => by
    rw [zV3_extc (c2 := fun _ => 0) hc]
    simp only [x22_36, x22_37, x22_40, x22_41, x22_42, x22_43, x22_44, x22_47, x22_48, x22_49, x22_52, x22_53, zf9_0, zf9_1, zf9_2, zf9_3, zf9_4, zf9_5, zf9_6, zf9_7, zf9_8, zf9_9, zf9_10, zf9_11, zf9_12, zf9_13, zf9_14, zf9_15, zf9_16, zf9_17, zf9_18, zf9_19, zf9_20, zf9_21, zf9_22, zf9_23, zf9_24, zf9_25, zf9_26, zf9_27, zf9_28, zf9_29, zf9_30, zf9_31, zq9_0, zq9_1, zq9_2, zq9_3, zq9_4, zq9_5, zq9_6, zq9_7, zq9_8, zq9_9, zq9_10, zq9_11, zq9_12, zq9_13, zq9_14, zq9_15, zq9_16, zq9_17, zq9_18, zq9_19, zq9_20, zq9_21, zq9_22, zq9_23, zq9_24, zq9_25, zq9_26, zq9_27, zq9_28, zq9_29, zq9_30, zq9_31, zp9_0, zp9_1, zp9_8, zp9_10, zp9_11, zp9_18, zp9_19, zp9_20, zp9_21, zp9_23, zp9_25, zp9_28, zo9, g2, e0, true_and, and_self, zf_i, z_8, Nat.reduceLeDiff, z_ex, Option.toList_none, List.nil_append, h2]) 10 0 (by omega) (fun p => σ 36 0 p) (fun p hp => absurd hp (Nat.not_lt_zero p))
  rw [nI_0, zV3_id] at h1
  have e1 : (zw σ0 9 0 0 0) 9 0 21 = σ0 9 0 21 := by rw [zw_ap, if_neg (by decide)]
  subst hσ
  simp only [i22, x22_0, x22_1, x22_2, x22_5, x22_6, x22_7, x22_10, x22_11, x22_12, x22_15, x22_16, zf9_0, zf9_1, zf9_2, zf9_3, zf9_4, zf9_5, zf9_6, zf9_7, zf9_8, zf9_9, zf9_10, zf9_11, zf9_12, zf9_13, zf9_14, zf9_15, zf9_16, zf9_17, zf9_18, zf9_19, zf9_20, zf9_21, zf9_22, zf9_23, zf9_24, zf9_25, zf9_26, zf9_27, zf9_28, zf9_29, zf9_30, zf9_31, zq9_0, zq9_1, zq9_2, zq9_3, zq9_4, zq9_5, zq9_6, zq9_7, zq9_8, zq9_9, zq9_10, zq9_11, zq9_12, zq9_13, zq9_14, zq9_15, zq9_16, zq9_17, zq9_18, zq9_19, zq9_20, zq9_21, zq9_22, zq9_23, zq9_24, zq9_25, zq9_26, zq9_27, zq9_28, zq9_29, zq9_30, zq9_31, zp9_0, zp9_1, zp9_8, zp9_10, zp9_11, zp9_18, zp9_19, zp9_20, zp9_21, zp9_23, zp9_25, zp9_28, zo9, e1, true_and, and_self, zf_i, z_8, Nat.reduceLeDiff, h1, exists_eq_left]
end ZM10
