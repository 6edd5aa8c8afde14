set_option maxRecDepth 3000 in
set_option maxHeartbeats 400000 in
theorem zV3_ext {σ : zR} {n : Nat} {b b2 x cn : Nat → Int32} (h : ∀ p, p < n → b p = b2 p) : zV3 σ n b x cn = zV3 σ n b2 x cn := by
  funext s i f
  unfold zV3
  by_cases h1 : s = 30 ∧ i = 0 ∧ f < n
  · rw [if_pos h1, if_pos h1]; exact h f h1.2.2
  · rw [if_neg h1, if_neg h1]
set_option maxRecDepth 3000 in
set_option maxHeartbeats 400000 in
theorem zV3_extc {σ : zR} {n : Nat} {b x cn c2 : Nat → Int32} (h : ∀ p, p < 10 → cn p = c2 p) : zV3 σ n b x cn = zV3 σ n b x c2 := by
  funext s i f
  unfold zV3
  by_cases h1 : s = 30 ∧ i = 0 ∧ f < n
  · rw [if_pos h1, if_pos h1]
  · rw [if_neg h1, if_neg h1]
    by_cases h2 : s = 33 ∧ i = 0 ∧ f < 4
    · rw [if_pos h2, if_pos h2]
    · rw [if_neg h2, if_neg h2]
      by_cases h3 : s = 36 ∧ i = 0 ∧ f < 10
      · rw [if_pos h3, if_pos h3]; exact h f h3.2.2
      · rw [if_neg h3, if_neg h3]
section ZM8
variable {G : zG} {σ : zR} {n : Nat} {x cn : Nat → Int32}
set_option maxRecDepth 3000 in
set_option maxHeartbeats 400000 in
theorem l_fb2 {d : Nat} {o : zmO} {Q : Prop} (hn : n ≤ 10) (hc : G.2.2.2.1 ≤ 60) (hx : σ 9 0 11 = nI G.2.2.2.1) (hO : ∀ c, c < G.2.2.2.1 → ∃ p, p < n ∧ σ 24 0 c = nI p)
    (hQ : zm_E (zm_Calls (d + 3)) 60 84 [some (.inr (.inr (some (9, 0)))), some (.inl (nI G.2.2.2.1)), none, none] [] (zh G (zV3 σ n (zF2 σ G.2.2.2.1) x cn)) o ↔ Q) :
    ∀ (k j : Nat), j + k = G.2.2.2.1 → (zm_E (zm_Calls (d + 3)) 60 25 [some (.inr (.inr (some (9, 0)))), some (.inl (nI j)), none, none] [] (zh G (zV3 σ n (zF2 σ j) x cn)) o ↔ Q) := by
  have e9 : ∀ b x c, zV3 σ n b x c 9 = σ 9 := fun b x c => zV3_s (by decide) (by decide) (by decide)
  have e24 : ∀ b x c, zV3 σ n b x c 24 = σ 24 := fun b x c => zV3_s (by decide) (by decide) (by decide)
  have e26 : ∀ b x c, zV3 σ n b x c 26 = σ 26 := fun b x c => zV3_s (by decide) (by decide) (by decide)
  have e28 : ∀ b x c, zV3 σ n b x c 28 = σ 28 := fun b x c => zV3_s (by decide) (by decide) (by decide)
  have e29 : ∀ b x c, zV3 σ n b x c 29 = σ 29 := fun b x c => zV3_s (by decide) (by decide) (by decide)
  intro k
  induction k with
  | zero =>
    intro j hj
    have hj : j = G.2.2.2.1 := by omega
    subst hj
    rw [x60_25]
    simp only [↓reduceIte, x60_26, x60_27, x60_30, zf9_0, zf9_1, zf9_2, zf9_3, zf9_4, zf9_5, zf9_6, zf9_7, zf9_8, zf9_9, zf9_10, zf9_11, zf9_12, zf9_13, zf9_14, zf9_15, zf9_16, zf9_17, zf9_18, zf9_19, zf9_20, zf9_21, zf9_22, zf9_23, zf9_24, zf9_25, zf9_26, zf9_27, zf9_28, zf9_29, zf9_30, zf9_31, zq9_0, zq9_1, zq9_2, zq9_3, zq9_4, zq9_5, zq9_6, zq9_7, zq9_8, zq9_9, zq9_10, zq9_11, zq9_12, zq9_13, zq9_14, zq9_15, zq9_16, zq9_17, zq9_18, zq9_19, zq9_20, zq9_21, zq9_22, zq9_23, zq9_24, zq9_25, zq9_26, zq9_27, zq9_28, zq9_29, zq9_30, zq9_31, zp9_0, zp9_1, zp9_8, zp9_10, zp9_11, zp9_18, zp9_19, zp9_20, zp9_21, zp9_23, zp9_25, zp9_28, zo9, e9, hx, z_nltI (Nat.lt_irrefl G.2.2.2.1) (by omega : G.2.2.2.1 < 1000) (by omega : G.2.2.2.1 < 1000), true_and, hQ]
  | succ k ih =>
    intro j hj
    have hjn : nI j < nI G.2.2.2.1 := z_ltI (by omega) (by omega)
    obtain ⟨p, hp, ep⟩ := hO j (by omega)
    have h3 := ih (j + 1) (by omega)
    have hop := fun o => isOpen_in (G := G) (σ := zV3 σ n (zF2 σ j) x cn) (d := d) (p := j) (o := o) (by rw [e9]; exact hx) (by omega) hc
    have hbp : zV3 σ n (zF2 σ j) x cn 30 0 p = zF2 σ j p := zV3_b hp
    rw [x60_25]
    rw [zF2, ep, z_cl (show p < 1000 by omega)] at h3
    by_cases f1 : σ 29 0 j = 0 ∧ σ 28 0 j = 0
    · by_cases f2 : zF2 σ j p < σ 26 0 j
      · rw [if_pos ⟨f1, f2⟩] at h3
        simp only [↓reduceIte, x60_26, x60_27, x60_30, x60_33, x60_34, x60_35, x60_38, x60_41, x60_42, x60_45, x60_46, x60_47, x60_48, x60_51, x60_52, x60_55, x60_56, x60_57, x60_58, x60_61, x60_62, x60_65, x60_66, x60_69, x60_70, x60_71, x60_72, x60_75, x60_76, x60_77, x60_78, x60_81, zf9_0, zf9_1, zf9_2, zf9_3, zf9_4, zf9_5, zf9_6, zf9_7, zf9_8, zf9_9, zf9_10, zf9_11, zf9_12, zf9_13, zf9_14, zf9_15, zf9_16, zf9_17, zf9_18, zf9_19, zf9_20, zf9_21, zf9_22, zf9_23, zf9_24, zf9_25, zf9_26, zf9_27, zf9_28, zf9_29, zf9_30, zf9_31, zq9_0, zq9_1, zq9_2, zq9_3, zq9_4, zq9_5, zq9_6, zq9_7, zq9_8, zq9_9, zq9_10, zq9_11, zq9_12, zq9_13, zq9_14, zq9_15, zq9_16, zq9_17, zq9_18, zq9_19, zq9_20, zq9_21, zq9_22, zq9_23, zq9_24, zq9_25, zq9_26, zq9_27, zq9_28, zq9_29, zq9_30, zq9_31, zp9_0, zp9_1, zp9_8, zp9_10, zp9_11, zp9_18, zp9_19, zp9_20, zp9_21, zp9_23, zp9_25, zp9_28, zo9, za24, zn24, zi24, zl24, zt24, za26, zn26, zi26, zl26, zt26, za30, zn30, zi30, zl30, zt30, e9, e24, e26, e28, e29, hx, hjn, hop, f1, hbp, f2, ep, z_nin (show j < 60 by omega) (by omega), z_cl (show j < 1000 by omega), z_nin (show p < 10 by omega) (by omega), z_cl (show p < 1000 by omega), zV3_wb hp, zb, z_10, and_self, true_and, z_ex, Option.toList_some, List.cons_append, List.nil_append, z_8, Nat.reduceLeDiff, nI_1, h3]
      · rw [if_neg (fun q => f2 q.2)] at h3
        simp only [↓reduceIte, x60_26, x60_27, x60_30, x60_33, x60_34, x60_35, x60_38, x60_41, x60_42, x60_45, x60_46, x60_47, x60_48, x60_51, x60_52, x60_55, x60_56, x60_57, x60_58, x60_78, x60_81, zf9_0, zf9_1, zf9_2, zf9_3, zf9_4, zf9_5, zf9_6, zf9_7, zf9_8, zf9_9, zf9_10, zf9_11, zf9_12, zf9_13, zf9_14, zf9_15, zf9_16, zf9_17, zf9_18, zf9_19, zf9_20, zf9_21, zf9_22, zf9_23, zf9_24, zf9_25, zf9_26, zf9_27, zf9_28, zf9_29, zf9_30, zf9_31, zq9_0, zq9_1, zq9_2, zq9_3, zq9_4, zq9_5, zq9_6, zq9_7, zq9_8, zq9_9, zq9_10, zq9_11, zq9_12, zq9_13, zq9_14, zq9_15, zq9_16, zq9_17, zq9_18, zq9_19, zq9_20, zq9_21, zq9_22, zq9_23, zq9_24, zq9_25, zq9_26, zq9_27, zq9_28, zq9_29, zq9_30, zq9_31, zp9_0, zp9_1, zp9_8, zp9_10, zp9_11, zp9_18, zp9_19, zp9_20, zp9_21, zp9_23, zp9_25, zp9_28, zo9, za24, zn24, zi24, zl24, zt24, za26, zn26, zi26, zl26, zt26, za30, zn30, zi30, zl30, zt30, e9, e24, e26, e28, e29, hx, hjn, hop, f1, hbp, f2, ep, z_nin (show j < 60 by omega) (by omega), z_cl (show j < 1000 by omega), z_nin (show p < 10 by omega) (by omega), z_cl (show p < 1000 by omega), zb, z_10, and_self, true_and, z_ex, Option.toList_some, List.cons_append, List.nil_append, z_8, Nat.reduceLeDiff, nI_1, h3]
    · rw [if_neg (fun q => f1 q.1)] at h3
      simp only [↓reduceIte, x60_26, x60_27, x60_30, x60_33, x60_34, x60_35, x60_38, x60_78, x60_81, zf9_0, zf9_1, zf9_2, zf9_3, zf9_4, zf9_5, zf9_6, zf9_7, zf9_8, zf9_9, zf9_10, zf9_11, zf9_12, zf9_13, zf9_14, zf9_15, zf9_16, zf9_17, zf9_18, zf9_19, zf9_20, zf9_21, zf9_22, zf9_23, zf9_24, zf9_25, zf9_26, zf9_27, zf9_28, zf9_29, zf9_30, zf9_31, zq9_0, zq9_1, zq9_2, zq9_3, zq9_4, zq9_5, zq9_6, zq9_7, zq9_8, zq9_9, zq9_10, zq9_11, zq9_12, zq9_13, zq9_14, zq9_15, zq9_16, zq9_17, zq9_18, zq9_19, zq9_20, zq9_21, zq9_22, zq9_23, zq9_24, zq9_25, zq9_26, zq9_27, zq9_28, zq9_29, zq9_30, zq9_31, zp9_0, zp9_1, zp9_8, zp9_10, zp9_11, zp9_18, zp9_19, zp9_20, zp9_21, zp9_23, zp9_25, zp9_28, zo9, e9, e28, e29, hx, hjn, hop, f1, zb, true_and, z_ex, Option.toList_some, List.cons_append, List.nil_append, z_8, Nat.reduceLeDiff, nI_1, h3]
set_option maxRecDepth 3000 in
set_option maxHeartbeats 400000 in
theorem zF2_pos (hw : ∀ c, ¬ σ 26 0 c < 0) : ∀ c p, ¬ zF2 σ c p < 0
  | 0, _ => show ¬ (0 : Int32) < 0 by decide
  | c + 1, p => by
    rw [zF2]
    split
    · by_cases h : p = (σ 24 0 c).toNatClampNeg
      · rw [h, pk_us]; exact hw c
      · rw [pk_un h]; exact zF2_pos hw c p
    · exact zF2_pos hw c p
set_option maxRecDepth 3000 in
set_option maxHeartbeats 400000 in
theorem m_findBumps {d : Nat} {b : Nat → Int32} (hn : n ≤ 10) (hc : G.2.2.2.1 ≤ 60) (hx1 : σ 9 0 1 = nI n) (hx : σ 9 0 11 = nI G.2.2.2.1) (hd : znd σ n) (hO : ∀ c, c < G.2.2.2.1 → ∃ p, p < n ∧ σ 24 0 c = nI p) (hcn : ∀ p, p < n → cn p = 0) (hb : ∀ p, p < n → ¬ zF2 σ G.2.2.2.1 p < 0) :
    ∃ (r : Nat) (y cn2 : Nat → Int32), zfr σ n (zIt σ n (zF2 σ G.2.2.2.1) r) n = zIt σ n (zF2 σ G.2.2.2.1) r ∧ ∀ o, zm_Calls (d + 4) 60 [.inr (.inr (some (9, 0)))] (zh G (zV3 σ n b x cn)) o ↔ o = (none, zh G (zV3 σ n (zIt σ n (zF2 σ G.2.2.2.1) r) y cn2)) := by
  obtain ⟨r, y, cn2, g1, g2⟩ := l_fbW (G := G) (σ := σ) (n := n) (d := d) hn hx1 hd (zun cn n) (zF2 σ G.2.2.2.1) cn (Nat.le_refl _) (fun p hp => Or.inl (hcn p hp)) hb x none none
  refine ⟨r, y, cn2, g1, fun o => ?_⟩
  have h2 := l_fb2 (G := G) (σ := σ) (n := n) (x := x) (cn := cn) (d := d) (o := o) (Q := o = (none, zh G (zV3 σ n (zIt σ n (zF2 σ G.2.2.2.1) r) y cn2))) hn hc hx hO (by
    simp only [x60_84, x60_85]
    exact g2 o) G.2.2.2.1 0 (by omega)
  rw [nI_0] at h2
  have h1 := l_fb1 (G := G) (σ := σ) (n := n) (x := x) (cn := cn) (d := d + 3) (o := o) (b := b) (Q := o = (none, zh G (zV3 σ n (zIt σ n (zF2 σ G.2.2.2.1) r) y cn2))) hn hx1 (fun b' hb' => by
    rw [zV3_ext (b := b') (b2 := zF2 σ 0) hb']
    simp only [x60_23, x60_24]
    exact h2) n 0 (by omega) b (fun p hp => absurd hp (Nat.not_lt_zero p))
  rw [nI_0] at h1
  simp only [i60, x60_0, x60_1, h1]
end ZM8
