def zrq (σ : zR) (p : Nat) (w : Int32) : Nat → Int32 :=
  if w = 0 then zx4 (σ 17 0 (4 * p)) (σ 17 0 (4 * p + 1)) (σ 17 0 (4 * p + 2)) (σ 17 0 (4 * p + 3))
  else if σ 17 0 (4 * p + 3) = 0 then zrz (σ 17 0 (4 * p)) (σ 17 0 (4 * p + 1)) (σ 17 0 (4 * p + 2)) w (if σ 20 0 p = 0 then 0 else 1)
  else if σ 20 0 p = 0 then zrz (σ 18 0 (4 * p)) (σ 18 0 (4 * p + 1)) (σ 18 0 (4 * p + 2)) (if σ 19 0 p < w then w else σ 19 0 p) 0
  else if σ 19 0 p < w then zrz (σ 18 0 (4 * p)) (σ 18 0 (4 * p + 1)) (σ 18 0 (4 * p + 2)) w 1
  else zx4 (σ 17 0 (4 * p)) (σ 17 0 (4 * p + 1)) (σ 17 0 (4 * p + 2)) (σ 17 0 (4 * p + 3) + 1)
set_option maxRecDepth 3000 in
set_option maxHeartbeats 400000 in
theorem zrk_q {σ : zR} {p : Nat} : zrk σ p = zrq σ p (σ 30 0 p) := rfl
/- bumps, next, counted -/
def zV3 (σ : zR) (n : Nat) (b x cn : Nat → Int32) : zR := fun s i f => if s = 30 ∧ i = 0 ∧ f < n then b f else if s = 33 ∧ i = 0 ∧ f < 4 then x f else if s = 36 ∧ i = 0 ∧ f < 10 then cn f else σ s i f
section ZV3
variable {σ : zR} {n : Nat} {b x cn : Nat → Int32}
set_option maxRecDepth 3000 in
set_option maxHeartbeats 400000 in
theorem zV3_s {s : Nat} (h1 : ¬ s = 30) (h2 : ¬ s = 33) (h3 : ¬ s = 36) : zV3 σ n b x cn s = σ s := by
  funext i f
  unfold zV3
  rw [if_neg (fun q => h1 q.1), if_neg (fun q => h2 q.1), if_neg (fun q => h3 q.1)]
set_option maxRecDepth 3000 in
set_option maxHeartbeats 400000 in
theorem zV3_b {p : Nat} (h : p < n) : zV3 σ n b x cn 30 0 p = b p := if_pos ⟨rfl, rfl, h⟩
set_option maxRecDepth 3000 in
set_option maxHeartbeats 400000 in
theorem zV3_c {p : Nat} (h : p < 10) : zV3 σ n b x cn 36 0 p = cn p := by
  unfold zV3
  rw [if_neg (by simp), if_neg (by simp), if_pos ⟨rfl, rfl, h⟩]
set_option maxRecDepth 3000 in
set_option maxHeartbeats 400000 in
theorem zV3_q {p : Nat} {w : Int32} : zrq (zV3 σ n b x cn) p w = zrq σ p w := by
  unfold zrq
  simp only [zV3_s (show ¬ 17 = 30 by decide) (show ¬ 17 = 33 by decide) (show ¬ 17 = 36 by decide), zV3_s (show ¬ 18 = 30 by decide) (show ¬ 18 = 33 by decide) (show ¬ 18 = 36 by decide), zV3_s (show ¬ 19 = 30 by decide) (show ¬ 19 = 33 by decide) (show ¬ 19 = 36 by decide), zV3_s (show ¬ 20 = 30 by decide) (show ¬ 20 = 33 by decide) (show ¬ 20 = 36 by decide)]
set_option maxRecDepth 3000 in
set_option maxHeartbeats 400000 in
theorem zV3_X {y : Nat → Int32} : zX (zV3 σ n b x cn) y = zV3 σ n b y cn := by
  funext s i f
  unfold zX zV3
  by_cases h : s = 33 ∧ i = 0 ∧ f < 4
  · rw [if_pos h, if_neg (fun q => by omega), if_pos h]
  · rw [if_neg h, if_neg h, if_neg h]
set_option maxRecDepth 3000 in
set_option maxHeartbeats 400000 in
theorem zV3_wb {p : Nat} {v : Int32} (h : p < n) : zw (zV3 σ n b x cn) 30 0 p v = zV3 σ n (upd b p v) x cn := by
  funext s i f
  unfold zV3 upd
  rw [zw_ap]
  by_cases h0 : s = 30 ∧ i = 0 ∧ f = p
  · rw [if_pos h0, if_pos ⟨h0.1, h0.2.1, by omega⟩, if_pos h0.2.2]
  · rw [if_neg h0]
    by_cases h1 : s = 30 ∧ i = 0 ∧ f < n
    · rw [if_pos h1, if_pos h1, if_neg (fun q => h0 ⟨h1.1, h1.2.1, q⟩)]
    · rw [if_neg h1, if_neg h1]
set_option maxRecDepth 3000 in
set_option maxHeartbeats 400000 in
theorem zV3_wc {p : Nat} {v : Int32} (h : p < 10) : zw (zV3 σ n b x cn) 36 0 p v = zV3 σ n b x (upd cn p v) := by
  funext s i f
  unfold zV3 upd
  rw [zw_ap]
  by_cases h0 : s = 36 ∧ i = 0 ∧ f = p
  · rw [if_pos h0, if_neg (fun q => by omega), if_neg (fun q => by omega), if_pos ⟨h0.1, h0.2.1, by omega⟩, if_pos h0.2.2]
  · rw [if_neg h0]
    by_cases h1 : s = 30 ∧ i = 0 ∧ f < n
    · rw [if_pos h1, if_pos h1]
    · rw [if_neg h1, if_neg h1]
      by_cases h2 : s = 33 ∧ i = 0 ∧ f < 4
      · rw [if_pos h2, if_pos h2]
      · rw [if_neg h2, if_neg h2]
        by_cases h3 : s = 36 ∧ i = 0 ∧ f < 10
        · rw [if_pos h3, if_pos h3, if_neg (fun q => h0 ⟨h3.1, h3.2.1, q⟩)]
        · rw [if_neg h3, if_neg h3]
set_option maxRecDepth 3000 in
set_option maxHeartbeats 400000 in
theorem zV3_id : zV3 σ n (fun p => σ 30 0 p) (fun k => σ 33 0 k) (fun p => σ 36 0 p) = σ := by
  funext s i f
  unfold zV3
  split
  · next h => obtain ⟨rfl, rfl, -⟩ := h; rfl
  · split
    · next h => obtain ⟨rfl, rfl, -⟩ := h; rfl
    · split
      · next h => obtain ⟨rfl, rfl, -⟩ := h; rfl
      · rfl
end ZV3
def zsm (σ : zR) (q : Nat) (w r : Int32) : Int32 := if r = 0 then zb (zrq σ q w 0 = σ 17 0 (4 * q) ∧ zrq σ q w 1 = σ 17 0 (4 * q + 1) ∧ zrq σ q w 2 = σ 17 0 (4 * q + 2) ∧ zrq σ q w 3 = σ 17 0 (4 * q + 3)) else if r = 1 then zb (zrq σ q w 0 = σ 17 0 (4 * q) ∧ zrq σ q w 1 = σ 17 0 (4 * q + 1)) else if r = 2 then zb (zrq σ q w 0 = σ 17 0 (4 * q)) else 1
section ZM5
variable {G : zG} {σ : zR} {o : zmO} {n : Nat} {b x cn : Nat → Int32}
set_option maxRecDepth 3000 in
set_option maxHeartbeats 400000 in
theorem m_stays {d q r : Nat} (hq : q < n) (hn : n ≤ 10) (hr : r < 4) : zm_Calls (d + 3) 87 [.inr (.inr (some (9, 0))), .inl (nI q), .inl (nI r)] (zh G (zV3 σ n b x cn)) o ↔ o = (some (.inl (zsm σ q (b q) (nI r))), zh G (zV3 σ n b (zrq σ q (b q)) cn)) := by
  have e17 : zV3 σ n b x cn 17 = σ 17 := zV3_s (by decide) (by decide) (by decide)
  have er : zrk (zV3 σ n b x cn) q = zrq σ q (b q) := by rw [zrk_q, zV3_b hq, zV3_q]
  rcases (show r = 0 ∨ r = 1 ∨ r = 2 ∨ r = 3 by omega) with rfl | rfl | rfl | rfl
  · rw [show nI 0 = 0 from rfl, m_stays0 (by omega), er, e17, zV3_X]
    rfl
  · rw [show nI 1 = 1 from rfl, m_stays1 (by omega), er, e17, zV3_X]
    rfl
  · rw [show nI 2 = 2 from rfl, m_stays2 (by omega), er, e17, zV3_X]
    rfl
  · rw [show nI 3 = 3 from rfl, m_stays3 (by omega), er, zV3_X]
    rfl
def zbk (σ : zR) (b : Nat → Int32) (p q : Nat) : Prop := 0 < σ 22 0 (10 * p + q) ∧ zsm σ q (b q) (σ 22 0 (10 * p + q) - 1) = 0
def znd (σ : zR) (n : Nat) : Prop := ∀ p, p < n → ∀ q, q < n → σ 22 0 (10 * p + q) = 0 ∨ ∃ r, r < 4 ∧ σ 22 0 (10 * p + q) = nI (r + 1)
set_option maxRecDepth 3000 in
set_option maxHeartbeats 400000 in
theorem l_fbI {d p : Nat} {m : Int32} {b' : Nat → Int32} (hp : p < n) (hn : n ≤ 10) (hx : σ 9 0 1 = nI n) (hd : znd σ n) (hb : b p = 0)
    (hY : (∃ q, q < n ∧ zbk σ b p q) → b' = upd b p 1) (hN : (¬ ∃ q, q < n ∧ zbk σ b p q) → b' = b) :
    ∀ (k j : Nat), j + k = n → (∀ q, q < j → ¬ zbk σ b p q) → ∀ (x : Nat → Int32), ∃ (y : Nat → Int32) (l3 : Option zmV), ∀ o, zm_E (zm_Calls (d + 3)) 60 104 [some (.inr (.inr (some (9, 0)))), some (.inl m), some (.inl (nI p)), some (.inl (nI j))] [] (zh G (zV3 σ n b x cn)) o ↔ zm_E (zm_Calls (d + 3)) 60 169 [some (.inr (.inr (some (9, 0)))), some (.inl m), some (.inl (nI p)), l3] [] (zh G (zV3 σ n b' y cn)) o := by
  have e9 : ∀ b x, zV3 σ n b x cn 9 = σ 9 := fun b x => zV3_s (by decide) (by decide) (by decide)
  have e22 : ∀ b x, zV3 σ n b x cn 22 = σ 22 := fun b x => zV3_s (by decide) (by decide) (by decide)
  intro k
  induction k with
  | zero =>
    intro j hj hno x
    have hj : j = n := by omega
    subst hj
    refine ⟨x, some (.inl (nI j)), fun o => ?_⟩
    rw [hN (fun ⟨q, h1, h2⟩ => hno q h1 h2), x60_104]
    simp only [↓reduceIte, x60_105, x60_106, x60_109, zf9_0, zf9_1, zf9_2, zf9_3, zf9_4, zf9_5, zf9_6, zf9_7, zf9_8, zf9_9, zf9_10, zf9_11, zf9_12, zf9_13, zf9_14, zf9_15, zf9_16, zf9_17, zf9_18, zf9_19, zf9_20, zf9_21, zf9_22, zf9_23, zf9_24, zf9_25, zf9_26, zf9_27, zf9_28, zf9_29, zf9_30, zf9_31, zq9_0, zq9_1, zq9_2, zq9_3, zq9_4, zq9_5, zq9_6, zq9_7, zq9_8, zq9_9, zq9_10, zq9_11, zq9_12, zq9_13, zq9_14, zq9_15, zq9_16, zq9_17, zq9_18, zq9_19, zq9_20, zq9_21, zq9_22, zq9_23, zq9_24, zq9_25, zq9_26, zq9_27, zq9_28, zq9_29, zq9_30, zq9_31, zp9_0, zp9_1, zp9_8, zp9_10, zp9_11, zp9_18, zp9_19, zp9_20, zp9_21, zp9_23, zp9_25, zp9_28, zo9, e9, hx, z_nltI (Nat.lt_irrefl j) (by omega : j < 1000) (by omega : j < 1000), true_and]
  | succ k ih =>
    intro j hj hno x
    have h : j < 10 := by omega
    have hjn : nI j < nI n := z_ltI (by omega) (by omega)
    have e1 : (10 : Int32) * nI p + nI j = nI (10 * p + j) := by rw [z_m10, nI_add]
    have h1 : vp_in (nI (10 * p + j)) 100 := z_nin (by omega) (by omega)
    have h2 : (nI (10 * p + j)).toNatClampNeg = 10 * p + j := z_cl (by omega)
    have hbx : ∀ x, zV3 σ n b x cn 30 0 p = 0 := fun x => by rw [zV3_b hp]; exact hb
    have h3 := fun hz : ¬ zbk σ b p j => ih (j + 1) (by omega) (fun q hq => by
      rcases Nat.lt_or_ge q j with h4 | h4
      · exact hno q h4
      · have : q = j := by omega
        subst this; exact hz)
    rcases hd p hp j (by omega) with hz | ⟨r, hr, hz⟩
    · obtain ⟨y, l3, h4⟩ := h3 (fun q => by have := q.1; rw [hz] at this; exact absurd this (by decide)) x
      refine ⟨y, l3, fun o => ?_⟩
      rw [x60_104]
      simp only [↓reduceIte, x60_105, x60_106, x60_109, x60_112, x60_113, x60_116, x60_117, x60_118, x60_121, x60_122, x60_125, x60_127, x60_128, x60_129, x60_130, x60_131, x60_132, x60_163, x60_166, zf9_0, zf9_1, zf9_2, zf9_3, zf9_4, zf9_5, zf9_6, zf9_7, zf9_8, zf9_9, zf9_10, zf9_11, zf9_12, zf9_13, zf9_14, zf9_15, zf9_16, zf9_17, zf9_18, zf9_19, zf9_20, zf9_21, zf9_22, zf9_23, zf9_24, zf9_25, zf9_26, zf9_27, zf9_28, zf9_29, zf9_30, zf9_31, zq9_0, zq9_1, zq9_2, zq9_3, zq9_4, zq9_5, zq9_6, zq9_7, zq9_8, zq9_9, zq9_10, zq9_11, zq9_12, zq9_13, zq9_14, zq9_15, zq9_16, zq9_17, zq9_18, zq9_19, zq9_20, zq9_21, zq9_22, zq9_23, zq9_24, zq9_25, zq9_26, zq9_27, zq9_28, zq9_29, zq9_30, zq9_31, zp9_0, zp9_1, zp9_8, zp9_10, zp9_11, zp9_18, zp9_19, zp9_20, zp9_21, zp9_23, zp9_25, zp9_28, zo9, za22, zn22, zi22, zl22, zt22, za30, zn30, zi30, zl30, zt30, e9, e22, hx, hjn, hbx, e1, h1, h2, z_nin (show p < 10 by omega) (by omega), z_cl (show p < 1000 by omega), hz, show (((0 : Int32) < 0) = False) from eq_false (by decide), true_and, nI_1]
      exact h4 o
    · have hr1 : nI (r + 1) - 1 = nI r := nI_pred r
      have hr0 : (0 : Int32) < nI (r + 1) := (nI_ltI (a := 0) (by omega) (by omega)).mpr (by omega)
      by_cases hs : zsm σ j (b j) (nI r) = 0
      · have hk : zbk σ b p j := ⟨by rw [hz]; exact hr0, by rw [hz, hr1]; exact hs⟩
        have hb1 : zV3 σ n (upd b p 1) (zrq σ j (b j)) cn 30 0 p = 1 := by rw [zV3_b hp]; exact pk_us
        refine ⟨zrq σ j (b j), some (.inl (nI (j + 1))), fun o => ?_⟩
        rw [hY ⟨j, by omega, hk⟩, x60_104]
        rcases Nat.lt_or_ge (j + 1) n with hj1 | hj1
        · have hjn1 : nI (j + 1) < nI n := z_ltI (by omega) (by omega)
          simp only [↓reduceIte, x60_105, x60_106, x60_109, x60_112, x60_113, x60_116, x60_117, x60_118, x60_121, x60_122, x60_125, x60_127, x60_128, x60_129, x60_130, x60_131, x60_132, x60_135, x60_136, x60_137, x60_138, x60_141, x60_143, x60_144, x60_145, x60_146, x60_147, x60_148, x60_149, x60_150, x60_153, x60_156, x60_157, x60_160, x60_161, x60_162, x60_163, x60_166, zf9_0, zf9_1, zf9_2, zf9_3, zf9_4, zf9_5, zf9_6, zf9_7, zf9_8, zf9_9, zf9_10, zf9_11, zf9_12, zf9_13, zf9_14, zf9_15, zf9_16, zf9_17, zf9_18, zf9_19, zf9_20, zf9_21, zf9_22, zf9_23, zf9_24, zf9_25, zf9_26, zf9_27, zf9_28, zf9_29, zf9_30, zf9_31, zq9_0, zq9_1, zq9_2, zq9_3, zq9_4, zq9_5, zq9_6, zq9_7, zq9_8, zq9_9, zq9_10, zq9_11, zq9_12, zq9_13, zq9_14, zq9_15, zq9_16, zq9_17, zq9_18, zq9_19, zq9_20, zq9_21, zq9_22, zq9_23, zq9_24, zq9_25, zq9_26, zq9_27, zq9_28, zq9_29, zq9_30, zq9_31, zp9_0, zp9_1, zp9_8, zp9_10, zp9_11, zp9_18, zp9_19, zp9_20, zp9_21, zp9_23, zp9_25, zp9_28, zo9, za22, zn22, zi22, zl22, zt22, za30, zn30, zi30, zl30, zt30, e9, e22, hx, hjn, hbx, e1, h1, h2, z_nin (show p < 10 by omega) (by omega), z_cl (show p < 1000 by omega), hz, hr0, hr1, m_stays (show j < n by omega) hn hr, hs, zV3_wb hp, true_and, z_ex, Option.toList_some, List.cons_append, List.nil_append, z_8, Nat.reduceLeDiff, nI_1]
          rw [x60_104]
          simp only [↓reduceIte, x60_105, x60_106, x60_109, x60_112, x60_113, x60_116, x60_117, x60_118, zf9_0, zf9_1, zf9_2, zf9_3, zf9_4, zf9_5, zf9_6, zf9_7, zf9_8, zf9_9, zf9_10, zf9_11, zf9_12, zf9_13, zf9_14, zf9_15, zf9_16, zf9_17, zf9_18, zf9_19, zf9_20, zf9_21, zf9_22, zf9_23, zf9_24, zf9_25, zf9_26, zf9_27, zf9_28, zf9_29, zf9_30, zf9_31, zq9_0, zq9_1, zq9_2, zq9_3, zq9_4, zq9_5, zq9_6, zq9_7, zq9_8, zq9_9, zq9_10, zq9_11, zq9_12, zq9_13, zq9_14, zq9_15, zq9_16, zq9_17, zq9_18, zq9_19, zq9_20, zq9_21, zq9_22, zq9_23, zq9_24, zq9_25, zq9_26, zq9_27, zq9_28, zq9_29, zq9_30, zq9_31, zp9_0, zp9_1, zp9_8, zp9_10, zp9_11, zp9_18, zp9_19, zp9_20, zp9_21, zp9_23, zp9_25, zp9_28, zo9, za30, zn30, zi30, zl30, zt30, e9, hx, hjn1, hb1, z_nin (show p < 10 by omega) (by omega), z_cl (show p < 1000 by omega), z_10, true_and]
        · have hjn1 : ¬ nI (j + 1) < nI n := z_nltI (by omega) (by omega) (by omega)
          simp only [↓reduceIte, x60_105, x60_106, x60_109, x60_112, x60_113, x60_116, x60_117, x60_118, x60_121, x60_122, x60_125, x60_127, x60_128, x60_129, x60_130, x60_131, x60_132, x60_135, x60_136, x60_137, x60_138, x60_141, x60_143, x60_144, x60_145, x60_146, x60_147, x60_148, x60_149, x60_150, x60_153, x60_156, x60_157, x60_160, x60_161, x60_162, x60_163, x60_166, zf9_0, zf9_1, zf9_2, zf9_3, zf9_4, zf9_5, zf9_6, zf9_7, zf9_8, zf9_9, zf9_10, zf9_11, zf9_12, zf9_13, zf9_14, zf9_15, zf9_16, zf9_17, zf9_18, zf9_19, zf9_20, zf9_21, zf9_22, zf9_23, zf9_24, zf9_25, zf9_26, zf9_27, zf9_28, zf9_29, zf9_30, zf9_31, zq9_0, zq9_1, zq9_2, zq9_3, zq9_4, zq9_5, zq9_6, zq9_7, zq9_8, zq9_9, zq9_10, zq9_11, zq9_12, zq9_13, zq9_14, zq9_15, zq9_16, zq9_17, zq9_18, zq9_19, zq9_20, zq9_21, zq9_22, zq9_23, zq9_24, zq9_25, zq9_26, zq9_27, zq9_28, zq9_29, zq9_30, zq9_31, zp9_0, zp9_1, zp9_8, zp9_10, zp9_11, zp9_18, zp9_19, zp9_20, zp9_21, zp9_23, zp9_25, zp9_28, zo9, za22, zn22, zi22, zl22, zt22, za30, zn30, zi30, zl30, zt30, e9, e22, hx, hjn, hbx, e1, h1, h2, z_nin (show p < 10 by omega) (by omega), z_cl (show p < 1000 by omega), hz, hr0, hr1, m_stays (show j < n by omega) hn hr, hs, zV3_wb hp, true_and, z_ex, Option.toList_some, List.cons_append, List.nil_append, z_8, Nat.reduceLeDiff, nI_1]
          rw [x60_104]
          simp only [↓reduceIte, x60_105, x60_106, x60_109, zf9_0, zf9_1, zf9_2, zf9_3, zf9_4, zf9_5, zf9_6, zf9_7, zf9_8, zf9_9, zf9_10, zf9_11, zf9_12, zf9_13, zf9_14, zf9_15, zf9_16, zf9_17, zf9_18, zf9_19, zf9_20, zf9_21, zf9_22, zf9_23, zf9_24, zf9_25, zf9_26, zf9_27, zf9_28, zf9_29, zf9_30, zf9_31, zq9_0, zq9_1, zq9_2, zq9_3, zq9_4, zq9_5, zq9_6, zq9_7, zq9_8, zq9_9, zq9_10, zq9_11, zq9_12, zq9_13, zq9_14, zq9_15, zq9_16, zq9_17, zq9_18, zq9_19, zq9_20, zq9_21, zq9_22, zq9_23, zq9_24, zq9_25, zq9_26, zq9_27, zq9_28, zq9_29, zq9_30, zq9_31, zp9_0, zp9_1, zp9_8, zp9_10, zp9_11, zp9_18, zp9_19, zp9_20, zp9_21, zp9_23, zp9_25, zp9_28, zo9, e9, hx, hjn1, true_and]
      · obtain ⟨y, l3, h4⟩ := h3 (fun q => by have := q.2; rw [hz, hr1] at this; exact hs this) (zrq σ j (b j))
        refine ⟨y, l3, fun o => ?_⟩
        rw [x60_104]
        simp only [↓reduceIte, x60_105, x60_106, x60_109, x60_112, x60_113, x60_116, x60_117, x60_118, x60_121, x60_122, x60_125, x60_127, x60_128, x60_129, x60_130, x60_131, x60_132, x60_135, x60_136, x60_137, x60_138, x60_141, x60_143, x60_144, x60_145, x60_146, x60_147, x60_148, x60_149, x60_150, x60_153, x60_163, x60_166, zf9_0, zf9_1, zf9_2, zf9_3, zf9_4, zf9_5, zf9_6, zf9_7, zf9_8, zf9_9, zf9_10, zf9_11, zf9_12, zf9_13, zf9_14, zf9_15, zf9_16, zf9_17, zf9_18, zf9_19, zf9_20, zf9_21, zf9_22, zf9_23, zf9_24, zf9_25, zf9_26, zf9_27, zf9_28, zf9_29, zf9_30, zf9_31, zq9_0, zq9_1, zq9_2, zq9_3, zq9_4, zq9_5, zq9_6, zq9_7, zq9_8, zq9_9, zq9_10, zq9_11, zq9_12, zq9_13, zq9_14, zq9_15, zq9_16, zq9_17, zq9_18, zq9_19, zq9_20, zq9_21, zq9_22, zq9_23, zq9_24, zq9_25, zq9_26, zq9_27, zq9_28, zq9_29, zq9_30, zq9_31, zp9_0, zp9_1, zp9_8, zp9_10, zp9_11, zp9_18, zp9_19, zp9_20, zp9_21, zp9_23, zp9_25, zp9_28, zo9, za22, zn22, zi22, zl22, zt22, za30, zn30, zi30, zl30, zt30, e9, e22, hx, hjn, hbx, e1, h1, h2, z_nin (show p < 10 by omega) (by omega), z_cl (show p < 1000 by omega), hz, hr0, hr1, m_stays (show j < n by omega) hn hr, hs, true_and, z_ex, Option.toList_some, List.cons_append, List.nil_append, nI_1]
        exact h4 o
end ZM5
