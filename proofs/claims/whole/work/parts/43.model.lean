noncomputable def zQs (σ : zR) : Nat → zR
  | 0 => σ
  | p + 1 => if σ 30 0 p = 0 then zQs σ p else zbm (zw (zQs σ p) 21 0 p 0) p
set_option maxRecDepth 3000 in
set_option maxHeartbeats 400000 in
theorem zQs_s {σ : zR} {s : Nat} (h0 : ¬ s = 21) (h1 : ¬ s = 17) (h2 : ¬ s = 18) (h3 : ¬ s = 19) (h4 : ¬ s = 33) : ∀ j, zQs σ j s = σ s
  | 0 => rfl
  | j + 1 => by
    rw [zQs]
    split
    · exact zQs_s h0 h1 h2 h3 h4 j
    · rw [zbm_s h1 h2 h3 h4, zw_s h0, zQs_s h0 h1 h2 h3 h4 j]
set_option maxRecDepth 3000 in
set_option maxHeartbeats 400000 in
theorem zQs_21 {σ : zR} : ∀ j p, j ≤ p → zQs σ j 21 0 p = σ 21 0 p
  | 0, _, _ => rfl
  | j + 1, p, h => by
    rw [zQs]
    split
    · exact zQs_21 j p (by omega)
    · rw [zbm_s (by decide) (by decide) (by decide) (by decide), zw_ap, if_neg (fun q => by omega), zQs_21 j p (by omega)]
def zQt (σ : zR) : Nat → List Nat
  | 0 => []
  | p + 1 => if ¬ σ 21 0 p = 0 ∧ σ 30 0 p < 3 then zQt σ p ++ [p] else zQt σ p
set_option maxRecDepth 3000 in
set_option maxHeartbeats 400000 in
theorem zQt_len {σ : zR} : ∀ j, (zQt σ j).length ≤ j
  | 0 => Nat.le_refl _
  | j + 1 => by
    have := zQt_len (σ := σ) j
    rw [zQt]
    split
    · rw [List.length_append, List.length_singleton]; omega
    · omega
def zQg (σ : zR) (v : Int32) (n : Nat) : Nat → List Nat
  | 0 => []
  | g + 1 => zQg σ v n g ++ (List.range n).filter (zMf σ v (nI g))
def zQn (σ : zR) (n : Nat) : Nat → List Nat
  | 0 => []
  | p + 1 => if σ 30 0 p = 0 then zQn σ n p else zQn σ n p ++ zQg σ (nI p) n 8
set_option maxRecDepth 3000 in
set_option maxHeartbeats 400000 in
theorem zQg_mono {σ : zR} {v : Int32} {n : Nat} : ∀ (k g : Nat), (zQg σ v n g).length ≤ (zQg σ v n (g + k)).length := by
  intro k
  induction k with
  | zero => intro g; exact Nat.le_refl _
  | succ k ih =>
    intro g
    refine Nat.le_trans (ih g) ?_
    rw [show g + (k + 1) = (g + k) + 1 from rfl, zQg, List.length_append]
    omega
set_option maxRecDepth 3000 in
set_option maxHeartbeats 400000 in
theorem zQn_mono {σ : zR} {n : Nat} : ∀ (k g : Nat), (zQn σ n g).length ≤ (zQn σ n (g + k)).length := by
  intro k
  induction k with
  | zero => intro g; exact Nat.le_refl _
  | succ k ih =>
    intro g
    refine Nat.le_trans (ih g) ?_
    rw [show g + (k + 1) = (g + k) + 1 from rfl, zQn]
    split
    · exact Nat.le_refl _
    · rw [List.length_append]; omega
def zQc (σ : zR) : Nat → Int32
  | 0 => 0
  | p + 1 => if σ 30 0 p = 0 then zQc σ p else zQc σ p + 1
set_option maxRecDepth 3000 in
set_option maxHeartbeats 400000 in
theorem zMf_c {σ τ : zR} {v g : Int32} (h24 : τ 24 = σ 24) (h25 : τ 25 = σ 25) (h26 : τ 26 = σ 26) (h28 : τ 28 = σ 28) (h29 : τ 29 = σ 29) (h9 : τ 9 0 21 = σ 9 0 21) : zMf τ v g = zMf σ v g := by
  funext c
  unfold zMf zgm
  rw [h24, h25, h26, h28, h29, h9]
set_option maxRecDepth 3000 in
set_option maxHeartbeats 400000 in
theorem zQg_c {σ τ : zR} {v : Int32} {n : Nat} (h : ∀ g, zMf τ v g = zMf σ v g) : ∀ g, zQg τ v n g = zQg σ v n g
  | 0 => rfl
  | g + 1 => by rw [zQg, zQg, zQg_c h g, h]
section ZM9
variable {G : zG} {σ : zR} {o : zmO}
set_option maxRecDepth 3000 in
set_option maxHeartbeats 400000 in
theorem l_runG {d n p : Nat} {lt ln : List Nat} {many : Int32} {Q : Prop} (hn : n ≤ 60) (hx : σ 9 0 11 = nI n) (hB : ln.length + (zQg σ (nI p) n 8).length ≤ 60)
    (hQ : ∀ l3, zm_E (zm_Calls (d + 2)) 22 206 [some (.inr (.inr (some (9, 0)))), some (.inl many), some (.inl (nI p)), l3] [] (zh G (zNT σ lt (ln ++ zQg σ (nI p) n 8))) o ↔ Q) :
    ∀ (k g : Nat), g + k = 8 → (zm_E (zm_Calls (d + 2)) 22 188 [some (.inr (.inr (some (9, 0)))), some (.inl many), some (.inl (nI p)), some (.inl (nI g))] [] (zh G (zNT σ lt (ln ++ zQg σ (nI p) n g))) o ↔ Q) := by
  intro k
  induction k with
  | zero =>
    intro g hg
    have hg : g = 8 := by omega
    subst hg
    rw [x22_188]
    simp only [↓reduceIte, x22_189, x22_191, show ((nI 8 < 8) = False) from eq_false (by decide), hQ]
  | succ k ih =>
    intro g hg
    have hg8 : nI g < 8 := (nI_ltI (b := 8) (by omega) (by omega)).mpr (by omega)
    have h3 := ih (g + 1) (by omega)
    have hm := zQg_mono (σ := σ) (v := nI p) (n := n) k (g + 1)
    rw [show g + 1 + k = 8 by omega, zQg, List.length_append] at hm
    have hc : ∀ v g, zMf (zMt σ lt) v g = zMf σ v g := fun v g => zMf_c (zMt_s (by decide) (by decide)) (zMt_s (by decide) (by decide)) (zMt_s (by decide) (by decide)) (zMt_s (by decide) (by decide)) (zMt_s (by decide) (by decide)) (zMt_9 (by decide))
    have hga := fun o => m_gather (G := G) (σ := zMt σ lt) (o := o) (d := d) (n := n) (v := nI p) (g := nI g) (l := ln ++ zQg σ (nI p) n g) hn (by rw [zMt_9 (by decide)]; exact hx) (by rw [hc, List.length_append]; omega)
    simp only [hc] at hga
    rw [zQg, ← List.append_assoc] at h3
    unfold zNT at h3 ⊢
    rw [x22_188]
    simp only [↓reduceIte, x22_189, x22_191, x22_194, x22_195, x22_196, x22_197, x22_200, x22_203, hg8, zf9_0, zf9_1, zf9_2, zf9_3, zf9_4, zf9_5, zf9_6, zf9_7, zf9_8, zf9_9, zf9_10, zf9_11, zf9_12, zf9_13, zf9_14, zf9_15, zf9_16, zf9_17, zf9_18, zf9_19, zf9_20, zf9_21, zf9_22, zf9_23, zf9_24, zf9_25, zf9_26, zf9_27, zf9_28, zf9_29, zf9_30, zf9_31, zq9_0, zq9_1, zq9_2, zq9_3, zq9_4, zq9_5, zq9_6, zq9_7, zq9_8, zq9_9, zq9_10, zq9_11, zq9_12, zq9_13, zq9_14, zq9_15, zq9_16, zq9_17, zq9_18, zq9_19, zq9_20, zq9_21, zq9_22, zq9_23, zq9_24, zq9_25, zq9_26, zq9_27, zq9_28, zq9_29, zq9_30, zq9_31, zp9_0, zp9_1, zp9_8, zp9_10, zp9_11, zp9_18, zp9_19, zp9_20, zp9_21, zp9_23, zp9_25, zp9_28, zo9, hga, true_and, z_ex, Option.toList_none, List.nil_append, nI_1, h3]
set_option maxRecDepth 3000 in
set_option maxHeartbeats 400000 in
theorem l_runP {d n m : Nat} (hm : m ≤ 10) (hn : n ≤ 60) (hx1 : σ 9 0 1 = nI m) (hx : σ 9 0 11 = nI n) (hB : (zQn σ n m).length ≤ 60) :
    ∀ (k j : Nat), j + k = m → ∀ l3, zm_E (zm_Calls (d + 3)) 22 112 [some (.inr (.inr (some (9, 0)))), some (.inl (zQc σ j)), some (.inl (nI j)), l3] [] (zh G (zNT (zQs σ j) (zQt σ j) (zQn σ n j))) o ↔ o = (some (.inl (zQc σ m)), zh G (zNT (zQs σ m) (zQt σ m) (zQn σ n m))) := by
  intro k
  induction k with
  | zero =>
    intro j hj l3
    have hj : j = m := by omega
    subst hj
    have e1 : zNT (zQs σ j) (zQt σ j) (zQn σ n j) 9 0 1 = nI j := by rw [zNT_9 (by decide) (by decide), zQs_s (by decide) (by decide) (by decide) (by decide) (by decide)]; exact hx1
    rw [x22_112]
    simp only [↓reduceIte, x22_113, x22_114, x22_117, x22_212, x22_213, zf9_0, zf9_1, zf9_2, zf9_3, zf9_4, zf9_5, zf9_6, zf9_7, zf9_8, zf9_9, zf9_10, zf9_11, zf9_12, zf9_13, zf9_14, zf9_15, zf9_16, zf9_17, zf9_18, zf9_19, zf9_20, zf9_21, zf9_22, zf9_23, zf9_24, zf9_25, zf9_26, zf9_27, zf9_28, zf9_29, zf9_30, zf9_31, zq9_0, zq9_1, zq9_2, zq9_3, zq9_4, zq9_5, zq9_6, zq9_7, zq9_8, zq9_9, zq9_10, zq9_11, zq9_12, zq9_13, zq9_14, zq9_15, zq9_16, zq9_17, zq9_18, zq9_19, zq9_20, zq9_21, zq9_22, zq9_23, zq9_24, zq9_25, zq9_26, zq9_27, zq9_28, zq9_29, zq9_30, zq9_31, zp9_0, zp9_1, zp9_8, zp9_10, zp9_11, zp9_18, zp9_19, zp9_20, zp9_21, zp9_23, zp9_25, zp9_28, zo9, e1, z_nltI (Nat.lt_irrefl j) (by omega : j < 1000) (by omega : j < 1000), true_and, zf_i]
  | succ k ih =>
    intro j hj l3
    have hjm : nI j < nI m := z_ltI (by omega) (by omega)
    have e1 : ∀ lt ln, zNT (zQs σ j) lt ln 9 0 1 = nI m := fun lt ln => by rw [zNT_9 (by decide) (by decide), zQs_s (by decide) (by decide) (by decide) (by decide) (by decide)]; exact hx1
    have e21 : ∀ lt ln, zNT (zQs σ j) lt ln 21 0 j = σ 21 0 j := fun lt ln => by rw [zNT_s (by decide) (by decide) (by decide), zQs_21 j j (Nat.le_refl _)]
    have e30 : ∀ lt ln, zNT (zQs σ j) lt ln 30 0 j = σ 30 0 j := fun lt ln => by rw [zNT_s (by decide) (by decide) (by decide), zQs_s (by decide) (by decide) (by decide) (by decide) (by decide)]
    have g1 : vp_in (nI j) 10 := z_nin (by omega) (by omega)
    have g2 : (nI j).toNatClampNeg = j := z_cl (by omega)
    have ll := zQt_len (σ := σ) j
    have g3 : vp_in (nI (zQt σ j).length) 10 := z_nin (by omega) (by omega)
    have g4 : (nI (zQt σ j).length).toNatClampNeg = (zQt σ j).length := z_cl (by omega)
    have e25 : zNT (zQs σ j) (zQt σ j) (zQn σ n j) 9 0 25 = nI (zQt σ j).length := zNT_25
    have hmn := zQn_mono (σ := σ) (n := n) k (j + 1)
    rw [show j + 1 + k = m by omega] at hmn
    have fin : ∀ (l3 : Option zmV), zm_E (zm_Calls (d + 3)) 22 159 [some (.inr (.inr (some (9, 0)))), some (.inl (zQc σ j)), some (.inl (nI j)), l3] [] (zh G (zNT (zQs σ j) (zQt σ (j + 1)) (zQn σ n j))) o ↔ o = (some (.inl (zQc σ m)), zh G (zNT (zQs σ m) (zQt σ m) (zQn σ n m))) := by
      intro l3
      by_cases hb : σ 30 0 j = 0
      · have h3 := ih (j + 1) (by omega) l3
        rw [zQc, if_pos hb, zQs, if_pos hb, zQn, if_pos hb] at h3
        simp only [↓reduceIte, x22_159, x22_160, x22_163, x22_164, x22_165, x22_168, x22_206, x22_209, zf9_0, zf9_1, zf9_2, zf9_3, zf9_4, zf9_5, zf9_6, zf9_7, zf9_8, zf9_9, zf9_10, zf9_11, zf9_12, zf9_13, zf9_14, zf9_15, zf9_16, zf9_17, zf9_18, zf9_19, zf9_20, zf9_21, zf9_22, zf9_23, zf9_24, zf9_25, zf9_26, zf9_27, zf9_28, zf9_29, zf9_30, zf9_31, zq9_0, zq9_1, zq9_2, zq9_3, zq9_4, zq9_5, zq9_6, zq9_7, zq9_8, zq9_9, zq9_10, zq9_11, zq9_12, zq9_13, zq9_14, zq9_15, zq9_16, zq9_17, zq9_18, zq9_19, zq9_20, zq9_21, zq9_22, zq9_23, zq9_24, zq9_25, zq9_26, zq9_27, zq9_28, zq9_29, zq9_30, zq9_31, zp9_0, zp9_1, zp9_8, zp9_10, zp9_11, zp9_18, zp9_19, zp9_20, zp9_21, zp9_23, zp9_25, zp9_28, zo9, za30, zn30, zi30, zl30, zt30, g1, g2, e30, hb, true_and, nI_1, h3]
      · have h3 := ih (j + 1) (by omega)
        rw [zQc, if_neg hb, zQs, if_neg hb, zQn, if_neg hb] at h3
        rw [zQn, if_neg hb, List.length_append] at hmn
        have hc : ∀ v g, zMf (zbm (zw (zQs σ j) 21 0 j 0) j) v g = zMf σ v g := fun v g => by
          have ee : ∀ s, ¬ s = 21 → ¬ s = 17 → ¬ s = 18 → ¬ s = 19 → ¬ s = 33 → zbm (zw (zQs σ j) 21 0 j 0) j s = σ s := fun s a0 a1 a2 a3 a4 => by rw [zbm_s a1 a2 a3 a4, zw_s a0, zQs_s a0 a1 a2 a3 a4]
          exact zMf_c (ee 24 (by decide) (by decide) (by decide) (by decide) (by decide)) (ee 25 (by decide) (by decide) (by decide) (by decide) (by decide)) (ee 26 (by decide) (by decide) (by decide) (by decide) (by decide)) (ee 28 (by decide) (by decide) (by decide) (by decide) (by decide)) (ee 29 (by decide) (by decide) (by decide) (by decide) (by decide)) (by rw [ee 9 (by decide) (by decide) (by decide) (by decide) (by decide)])
        have hgg : zQg (zbm (zw (zQs σ j) 21 0 j 0) j) (nI j) n 8 = zQg σ (nI j) n 8 := zQg_c (fun g => hc (nI j) g) 8
        have hx2 : (zbm (zw (zQs σ j) 21 0 j 0) j) 9 0 11 = nI n := by rw [zbm_s (by decide) (by decide) (by decide) (by decide), zw_s (by decide), zQs_s (by decide) (by decide) (by decide) (by decide) (by decide)]; exact hx
        have hl := l_runG (G := G) (σ := zbm (zw (zQs σ j) 21 0 j 0) j) (o := o) (d := d + 1) (n := n) (p := j) (lt := zQt σ (j + 1)) (ln := zQn σ n j) (many := zQc σ j + 1) (Q := o = (some (.inl (zQc σ m)), zh G (zNT (zQs σ m) (zQt σ m) (zQn σ n m)))) hn hx2 (by rw [hgg]; omega) (fun l3 => by
          rw [hgg]
          simp only [x22_206, x22_209, nI_1, h3]) 8 0 (by omega)
        rw [show zQg (zbm (zw (zQs σ j) 21 0 j 0) j) (nI j) n 0 = [] from rfl, List.append_nil, nI_0] at hl
        simp only [↓reduceIte, x22_159, x22_160, x22_163, x22_164, x22_165, x22_171, x22_174, x22_175, x22_178, x22_179, x22_180, x22_181, x22_182, x22_183, x22_186, x22_187, zf9_0, zf9_1, zf9_2, zf9_3, zf9_4, zf9_5, zf9_6, zf9_7, zf9_8, zf9_9, zf9_10, zf9_11, zf9_12, zf9_13, zf9_14, zf9_15, zf9_16, zf9_17, zf9_18, zf9_19, zf9_20, zf9_21, zf9_22, zf9_23, zf9_24, zf9_25, zf9_26, zf9_27, zf9_28, zf9_29, zf9_30, zf9_31, zq9_0, zq9_1, zq9_2, zq9_3, zq9_4, zq9_5, zq9_6, zq9_7, zq9_8, zq9_9, zq9_10, zq9_11, zq9_12, zq9_13, zq9_14, zq9_15, zq9_16, zq9_17, zq9_18, zq9_19, zq9_20, zq9_21, zq9_22, zq9_23, zq9_24, zq9_25, zq9_26, zq9_27, zq9_28, zq9_29, zq9_30, zq9_31, zp9_0, zp9_1, zp9_8, zp9_10, zp9_11, zp9_18, zp9_19, zp9_20, zp9_21, zp9_23, zp9_25, zp9_28, zo9, za21, zn21, zi21, zl21, zt21, za30, zn30, zi30, zl30, zt30, g1, g2, e30, hb, z_nb0, zNT_w (show ¬ 21 = 9 by decide) (show ¬ 21 = 31 by decide) (show ¬ 21 = 32 by decide), m_become (show j < 10 by omega), zNT_b, true_and, z_ex, Option.toList_none, List.nil_append, z_8, Nat.reduceLeDiff, hl]
    rw [x22_112]
    by_cases hb : σ 21 0 j = 0
    · have f := fin l3
      rw [zQt, if_neg (fun q => q.1 hb)] at f
      simp only [↓reduceIte, x22_113, x22_114, x22_117, x22_120, x22_121, x22_124, x22_125, x22_126, zf9_0, zf9_1, zf9_2, zf9_3, zf9_4, zf9_5, zf9_6, zf9_7, zf9_8, zf9_9, zf9_10, zf9_11, zf9_12, zf9_13, zf9_14, zf9_15, zf9_16, zf9_17, zf9_18, zf9_19, zf9_20, zf9_21, zf9_22, zf9_23, zf9_24, zf9_25, zf9_26, zf9_27, zf9_28, zf9_29, zf9_30, zf9_31, zq9_0, zq9_1, zq9_2, zq9_3, zq9_4, zq9_5, zq9_6, zq9_7, zq9_8, zq9_9, zq9_10, zq9_11, zq9_12, zq9_13, zq9_14, zq9_15, zq9_16, zq9_17, zq9_18, zq9_19, zq9_20, zq9_21, zq9_22, zq9_23, zq9_24, zq9_25, zq9_26, zq9_27, zq9_28, zq9_29, zq9_30, zq9_31, zp9_0, zp9_1, zp9_8, zp9_10, zp9_11, zp9_18, zp9_19, zp9_20, zp9_21, zp9_23, zp9_25, zp9_28, zo9, za21, zn21, zi21, zl21, zt21, e1, e21, hjm, hb, g1, g2, true_and, and_false, or_true, false_or, false_and, z_8, Nat.reduceLeDiff, f]
    · by_cases hw : σ 30 0 j < 3
      · have f := fin l3
        rw [zQt, if_pos ⟨hb, hw⟩, ← zNT_t] at f
        simp only [↓reduceIte, x22_113, x22_114, x22_117, x22_120, x22_121, x22_124, x22_125, x22_126, x22_129, x22_130, x22_133, x22_134, x22_135, x22_136, x22_139, x22_140, x22_143, x22_144, x22_147, x22_148, x22_149, x22_150, x22_151, x22_154, x22_155, x22_156, zf9_0, zf9_1, zf9_2, zf9_3, zf9_4, zf9_5, zf9_6, zf9_7, zf9_8, zf9_9, zf9_10, zf9_11, zf9_12, zf9_13, zf9_14, zf9_15, zf9_16, zf9_17, zf9_18, zf9_19, zf9_20, zf9_21, zf9_22, zf9_23, zf9_24, zf9_25, zf9_26, zf9_27, zf9_28, zf9_29, zf9_30, zf9_31, zq9_0, zq9_1, zq9_2, zq9_3, zq9_4, zq9_5, zq9_6, zq9_7, zq9_8, zq9_9, zq9_10, zq9_11, zq9_12, zq9_13, zq9_14, zq9_15, zq9_16, zq9_17, zq9_18, zq9_19, zq9_20, zq9_21, zq9_22, zq9_23, zq9_24, zq9_25, zq9_26, zq9_27, zq9_28, zq9_29, zq9_30, zq9_31, zp9_0, zp9_1, zp9_8, zp9_10, zp9_11, zp9_18, zp9_19, zp9_20, zp9_21, zp9_23, zp9_25, zp9_28, zo9, za21, zn21, zi21, zl21, zt21, za30, zn30, zi30, zl30, zt30, za32, zn32, zi32, zl32, zt32, e1, e21, e30, e25, g3, g4, hjm, hb, hw, g1, g2, zw_ap, Nat.reduceEqDiff, true_and, and_false, or_true, false_or, false_and, z_8, zf_i, and_self, Nat.reduceLeDiff, nI_1, f]
      · have f := fin l3
        rw [zQt, if_neg (fun q => hw q.2)] at f
        simp only [↓reduceIte, x22_113, x22_114, x22_117, x22_120, x22_121, x22_124, x22_125, x22_126, x22_129, x22_130, x22_133, x22_134, x22_135, x22_136, zf9_0, zf9_1, zf9_2, zf9_3, zf9_4, zf9_5, zf9_6, zf9_7, zf9_8, zf9_9, zf9_10, zf9_11, zf9_12, zf9_13, zf9_14, zf9_15, zf9_16, zf9_17, zf9_18, zf9_19, zf9_20, zf9_21, zf9_22, zf9_23, zf9_24, zf9_25, zf9_26, zf9_27, zf9_28, zf9_29, zf9_30, zf9_31, zq9_0, zq9_1, zq9_2, zq9_3, zq9_4, zq9_5, zq9_6, zq9_7, zq9_8, zq9_9, zq9_10, zq9_11, zq9_12, zq9_13, zq9_14, zq9_15, zq9_16, zq9_17, zq9_18, zq9_19, zq9_20, zq9_21, zq9_22, zq9_23, zq9_24, zq9_25, zq9_26, zq9_27, zq9_28, zq9_29, zq9_30, zq9_31, zp9_0, zp9_1, zp9_8, zp9_10, zp9_11, zp9_18, zp9_19, zp9_20, zp9_21, zp9_23, zp9_25, zp9_28, zo9, za21, zn21, zi21, zl21, zt21, za30, zn30, zi30, zl30, zt30, e1, e21, e30, hjm, hb, hw, g1, g2, true_and, and_false, or_true, false_or, false_and, z_8, Nat.reduceLeDiff, f]
end ZM9
