def zRC (σ : zR) : Nat → zR
  | 0 => σ
  | j + 1 => if 0 < σ 37 (σ 45 j 1).toNatClampNeg 6 ∧ ¬ 0 < σ 45 j 6 then zw (zRC σ j) 45 j 6 (σ 8 0 11) else zRC σ j
theorem zRC_s {σ : zR} {s : Nat} (h : ¬ s = 45) : ∀ j, zRC σ j s = σ s
  | 0 => rfl
  | j + 1 => by
    rw [zRC]
    split
    · rw [zw_s h, zRC_s h j]
    · exact zRC_s h j
theorem zRC_hi {σ : zR} {f : Nat} : ∀ j c, j ≤ c → zRC σ j 45 c f = σ 45 c f
  | 0, _, _ => rfl
  | j + 1, c, h => by
    rw [zRC]
    split
    · rw [zw_ap, if_neg (fun q => by omega), zRC_hi j c (by omega)]
    · exact zRC_hi j c (by omega)
theorem zRC_f {σ : zR} {f : Nat} (hf : f ≠ 6) : ∀ j c, zRC σ j 45 c f = σ 45 c f
  | 0, _ => rfl
  | j + 1, c => by
    rw [zRC]
    split
    · rw [zw_ap, if_neg (fun q => hf q.2.2), zRC_f hf j c]
    · exact zRC_f hf j c
theorem zRC_6 {σ : zR} : ∀ j c, c < j → zRC σ j 45 c 6 = if 0 < σ 37 (σ 45 c 1).toNatClampNeg 6 ∧ ¬ 0 < σ 45 c 6 then σ 8 0 11 else σ 45 c 6
  | 0, _, h => by omega
  | j + 1, c, h => by
    rw [zRC]
    by_cases hj : c = j
    · subst hj
      split
      · rw [zw_ap, if_pos ⟨rfl, rfl, rfl⟩]
      · exact zRC_hi c c (Nat.le_refl _)
    · split
      · rw [zw_ap, if_neg (fun q => hj q.2.1), zRC_6 j c (by omega)]
      · exact zRC_6 j c (by omega)
section ZL5
variable {G : zG} {σ : zR} {o : zmO}
theorem l_rel {d : Nat} (hn : G.2.2.1 ≤ 10) (hc : G.2.2.2.1 ≤ 60) (hO : ∀ c, c < G.2.2.2.1 → ∃ p, p < G.2.2.1 ∧ σ 45 c 1 = nI p) : ∀ (k j : Nat), j + k = G.2.2.2.1 → ∀ (l4 l5 : Option zmV), zm_E (zm_Calls (d + 1)) 56 10 [some (.inr (.inr (some (8, 0)))), some (.inr (.inr (some (11, 0)))), some (.inl 60), some (.inl (nI j)), l4, l5] [] (zh G (zRC σ j)) o ↔ o = (none, zh G (zRC σ G.2.2.2.1)) := by
  intro k
  induction k with
  | zero =>
    intro j hj l4 l5
    have hj : j = G.2.2.2.1 := by omega
    subst hj
    rw [x56_10]
    by_cases h : G.2.2.2.1 < 60
    · simp only [x56_0, x56_1, x56_4, x56_5, x56_6, x56_7, x56_8, x56_9, x56_11, x56_12, x56_15, x56_16, x56_17, x56_18, x56_20, x56_22, x56_25, x56_75, x56_28, x56_29, x56_31, x56_34, x56_37, x56_39, x56_41, x56_44, x56_46, x56_49, x56_52, x56_54, x56_57, x56_60, x56_62, x56_63, x56_66, x56_69, x56_72, z_l60 h, if_true, za11, zn11, zi11, zl11, z_nin h (by omega), ck_no (Nat.lt_irrefl _) (by omega : G.2.2.2.1 < 1000), true_and, and_true, zf_i, zf_0, zf_1, zb_fit, z_ex, Option.toList_some, Option.toList_none, List.cons_append, List.nil_append, zb_0, z_ie, z_iv, z_ih, z_iz, z_izn, z_i2, z_ia, z_io, z_ina, z_8, Classical.not_not, z_n70, Nat.reduceLeDiff]
    · simp only [x56_0, x56_1, x56_4, x56_5, x56_6, x56_7, x56_8, x56_9, x56_11, x56_12, x56_15, x56_16, x56_17, x56_18, x56_20, x56_22, x56_25, x56_75, x56_28, x56_29, x56_31, x56_34, x56_37, x56_39, x56_41, x56_44, x56_46, x56_49, x56_52, x56_54, x56_57, x56_60, x56_62, x56_63, x56_66, x56_69, x56_72, z_g60 h (by omega), if_false, true_and, and_true, zf_i, zf_0, zf_1, zb_fit, z_ex, Option.toList_some, Option.toList_none, List.cons_append, List.nil_append, zb_0, z_ie, z_iv, z_ih, z_iz, z_izn, z_i2, z_ia, z_io, z_ina, z_8, Classical.not_not]
  | succ k ih =>
    intro j hj l4 l5
    have h : j < 60 := by omega
    have h2 : j < G.2.2.2.1 := by omega
    obtain ⟨p, hp, ep⟩ := hO j h2
    have h3 := ih (j + 1) (by omega) (some (.inr (.inr (some (45, j))))) (some (.inr (.inr (some (37, p)))))
    have e1 : zRC σ j 45 j 1 = nI p := by rw [zRC_hi j j (Nat.le_refl _)]; exact ep
    have e2 : zRC σ j 45 j 6 = σ 45 j 6 := zRC_hi j j (Nat.le_refl _)
    have e3 : zRC σ j 37 p 6 = σ 37 p 6 := by rw [zRC_s (by decide)]
    have e4 : zRC σ j 8 0 11 = σ 8 0 11 := by rw [zRC_s (by decide)]
    rw [zRC, ep, z_cl (by omega)] at h3
    rw [x56_10]
    by_cases hb : 0 < σ 37 p 6
    · by_cases hr : 0 < σ 45 j 6
      · simp only [hb, hr, not_true_eq_false, and_false, if_false] at h3
        simp only [x56_0, x56_1, x56_4, x56_5, x56_6, x56_7, x56_8, x56_9, x56_11, x56_12, x56_15, x56_16, x56_17, x56_18, x56_20, x56_22, x56_25, x56_75, x56_28, x56_29, x56_31, x56_34, x56_37, x56_39, x56_41, x56_44, x56_46, x56_49, x56_52, x56_54, x56_57, x56_60, x56_62, x56_63, x56_66, x56_69, x56_72, z_l60 h, if_true, if_false, zf8_0, zf8_1, zf8_2, zf8_3, zf8_4, zf8_5, zf8_6, zf8_7, zf8_8, zf8_9, zf8_10, zf8_11, zf37_0, zf37_1, zf37_2, zf37_3, zf37_4, zf37_5, zf37_6, zf37_7, zf37_8, zf45_0, zf45_1, zf45_2, zf45_3, zf45_4, zf45_5, zf45_6, zq8_0, zq8_1, zq8_2, zq8_3, zq8_4, zq8_5, zq8_6, zq8_7, zq8_8, zq8_9, zq8_10, zq8_11, zq37_0, zq37_1, zq37_2, zq37_3, zq37_4, zq37_5, zq37_6, zq37_7, zq37_8, zq45_0, zq45_1, zq45_2, zq45_3, zq45_4, zq45_5, zq45_6, zp8_1, zp8_3, zp8_5, zp8_10, zp8_11, zp37_0, zp37_5, zp37_6, zp37_7, zp37_8, zp45_0, zp45_1, zp45_2, zp45_3, zp45_4, zp45_5, zp45_6, zo8, zo37, zo45, za11, zn11, zi11, zl11, z_nin h (by omega), ck_at h2 hc, h2, hp, e1, e2, e3, e4, hb, hr, packAt_in hp hn, c79 h2, zb_0, z_ex, Option.toList_some, Option.toList_none, List.cons_append, List.nil_append, true_and, z_n7, reduceCtorEq, ne_eq, Nat.reduceEqDiff, not_false_eq_true, not_true_eq_false, decide_true, Nat.reduceLeDiff, z_8, nI_1, h3]
      · simp only [hb, hr, not_false_eq_true, and_self, if_true] at h3
        simp only [x56_0, x56_1, x56_4, x56_5, x56_6, x56_7, x56_8, x56_9, x56_11, x56_12, x56_15, x56_16, x56_17, x56_18, x56_20, x56_22, x56_25, x56_75, x56_28, x56_29, x56_31, x56_34, x56_37, x56_39, x56_41, x56_44, x56_46, x56_49, x56_52, x56_54, x56_57, x56_60, x56_62, x56_63, x56_66, x56_69, x56_72, z_l60 h, if_true, if_false, zf8_0, zf8_1, zf8_2, zf8_3, zf8_4, zf8_5, zf8_6, zf8_7, zf8_8, zf8_9, zf8_10, zf8_11, zf37_0, zf37_1, zf37_2, zf37_3, zf37_4, zf37_5, zf37_6, zf37_7, zf37_8, zf45_0, zf45_1, zf45_2, zf45_3, zf45_4, zf45_5, zf45_6, zq8_0, zq8_1, zq8_2, zq8_3, zq8_4, zq8_5, zq8_6, zq8_7, zq8_8, zq8_9, zq8_10, zq8_11, zq37_0, zq37_1, zq37_2, zq37_3, zq37_4, zq37_5, zq37_6, zq37_7, zq37_8, zq45_0, zq45_1, zq45_2, zq45_3, zq45_4, zq45_5, zq45_6, zp8_1, zp8_3, zp8_5, zp8_10, zp8_11, zp37_0, zp37_5, zp37_6, zp37_7, zp37_8, zp45_0, zp45_1, zp45_2, zp45_3, zp45_4, zp45_5, zp45_6, zo8, zo37, zo45, za11, zn11, zi11, zl11, z_nin h (by omega), ck_at h2 hc, h2, hp, e1, e2, e3, e4, hb, hr, packAt_in hp hn, c79 h2, zb_0, z_ex, Option.toList_some, Option.toList_none, List.cons_append, List.nil_append, true_and, z_n7, reduceCtorEq, ne_eq, Nat.reduceEqDiff, not_false_eq_true, not_true_eq_false, decide_true, Nat.reduceLeDiff, z_8, zf_i, nI_1, h3]
    · simp only [hb, false_and, if_false] at h3
      simp only [x56_0, x56_1, x56_4, x56_5, x56_6, x56_7, x56_8, x56_9, x56_11, x56_12, x56_15, x56_16, x56_17, x56_18, x56_20, x56_22, x56_25, x56_75, x56_28, x56_29, x56_31, x56_34, x56_37, x56_39, x56_41, x56_44, x56_46, x56_49, x56_52, x56_54, x56_57, x56_60, x56_62, x56_63, x56_66, x56_69, x56_72, z_l60 h, if_true, if_false, zf8_0, zf8_1, zf8_2, zf8_3, zf8_4, zf8_5, zf8_6, zf8_7, zf8_8, zf8_9, zf8_10, zf8_11, zf37_0, zf37_1, zf37_2, zf37_3, zf37_4, zf37_5, zf37_6, zf37_7, zf37_8, zf45_0, zf45_1, zf45_2, zf45_3, zf45_4, zf45_5, zf45_6, zq8_0, zq8_1, zq8_2, zq8_3, zq8_4, zq8_5, zq8_6, zq8_7, zq8_8, zq8_9, zq8_10, zq8_11, zq37_0, zq37_1, zq37_2, zq37_3, zq37_4, zq37_5, zq37_6, zq37_7, zq37_8, zq45_0, zq45_1, zq45_2, zq45_3, zq45_4, zq45_5, zq45_6, zp8_1, zp8_3, zp8_5, zp8_10, zp8_11, zp37_0, zp37_5, zp37_6, zp37_7, zp37_8, zp45_0, zp45_1, zp45_2, zp45_3, zp45_4, zp45_5, zp45_6, zo8, zo37, zo45, za11, zn11, zi11, zl11, z_nin h (by omega), ck_at h2 hc, h2, hp, e1, e2, e3, e4, hb, packAt_in hp hn, z_ex, Option.toList_some, Option.toList_none, List.cons_append, List.nil_append, true_and, z_n7, reduceCtorEq, ne_eq, Nat.reduceEqDiff, not_false_eq_true, not_true_eq_false, decide_true, Nat.reduceLeDiff, z_8, nI_1, h3]
theorem c56 {d : Nat} (hn : G.2.2.1 ≤ 10) (hc : G.2.2.2.1 ≤ 60) (hO : ∀ c, c < G.2.2.2.1 → ∃ p, p < G.2.2.1 ∧ σ 45 c 1 = nI p) : zm_Calls (d + 2) 56 [.inr (.inr (some (8, 0)))] (zh G σ) o ↔ o = (none, zh G (zRC σ G.2.2.2.1)) := by
  have h := l_rel (σ := σ) (o := o) (d := d) hn hc hO G.2.2.2.1 0 (by omega) none none
  simp only [zRC, nI_0] at h
  simp only [i56, x56_0, x56_1, x56_4, x56_5, x56_6, x56_7, x56_8, x56_9, x56_11, x56_12, x56_15, x56_16, x56_17, x56_18, x56_20, x56_22, x56_25, x56_75, x56_28, x56_29, x56_31, x56_34, x56_37, x56_39, x56_41, x56_44, x56_46, x56_49, x56_52, x56_54, x56_57, x56_60, x56_62, x56_63, x56_66, x56_69, x56_72, zf8_0, zf8_1, zf8_2, zf8_3, zf8_4, zf8_5, zf8_6, zf8_7, zf8_8, zf8_9, zf8_10, zf8_11, zq8_0, zq8_1, zq8_2, zq8_3, zq8_4, zq8_5, zq8_6, zq8_7, zq8_8, zq8_9, zq8_10, zq8_11, zp8_1, zp8_3, zp8_5, zp8_10, zp8_11, zo8, za11, zn11, zi11, zl11, true_and, h]
end ZL5
def zNt (σ : zR) (l : List Nat) : zR := fun s i f => if s = 15 ∧ i = 0 ∧ f = 1 then nI l.length else if s = 40 ∧ i = 0 ∧ f < l.length then nI (l.getD f 0) else σ s i f
theorem zNt_s {σ : zR} {l : List Nat} {s : Nat} (h1 : ¬ s = 15) (h2 : ¬ s = 40) : zNt σ l s = σ s := by
  funext i f
  unfold zNt
  rw [if_neg (fun q => h1 q.1), if_neg (fun q => h2 q.1)]
theorem zNt_15 {σ : zR} {l : List Nat} : zNt σ l 15 0 1 = nI l.length := if_pos ⟨rfl, rfl, rfl⟩
theorem zNt_add {σ : zR} {l : List Nat} {c : Nat} : zw (zw (zNt σ l) 40 0 l.length (nI c)) 15 0 1 (nI (l.length + 1)) = zNt σ (l ++ [c]) := by
  funext s i f
  unfold zNt
  simp only [zw_ap, List.length_append, List.length_singleton]
  by_cases h1 : s = 15 ∧ i = 0 ∧ f = 1
  · rw [if_pos h1, if_pos h1]
  · simp only [if_neg h1]
    by_cases h2 : s = 40 ∧ i = 0 ∧ f = l.length
    · rw [if_pos h2, if_pos ⟨h2.1, h2.2.1, by omega⟩, h2.2.2]
      simp
    · rw [if_neg h2]
      by_cases h3 : s = 40 ∧ i = 0 ∧ f < l.length
      · rw [if_pos h3, if_pos ⟨h3.1, h3.2.1, by omega⟩]
        simp [List.getElem?_append_left h3.2.2]
      · rw [if_neg h3, if_neg (fun q => by
          rcases Nat.lt_or_ge f l.length with h4 | h4
          · exact h3 ⟨q.1, q.2.1, h4⟩
          · exact h2 ⟨q.1, q.2.1, by omega⟩)]
def zgr (C : Nat → Nat → Int32) (c : Nat) : Int32 := if C c 4 = 3 then 0 else if C c 2 = -1 then 7 else C c 2 + 1
def zNf (C : Nat → Nat → Int32) (v u g : Int32) (c : Nat) : Bool := decide (C c 1 = v ∧ (C c 5 = 0 ∧ C c 6 = u) ∧ zgr C c = g)
def zGl (C : Nat → Nat → Int32) (v u : Int32) (n : Nat) : Nat → List Nat
  | 0 => []
  | g + 1 => zGl C v u n g ++ (List.range n).filter (zNf C v u (nI g))
theorem zf_range {f : Nat → Bool} {j : Nat} : (List.range (j + 1)).filter f = (List.range j).filter f ++ (if f j = true then [j] else []) := by
  rw [List.range_succ, List.filter_append]
  congr 1
  by_cases h : f j = true
  · rw [if_pos h]; simp [h]
  · rw [if_neg h]; simp [h]
theorem zf_mono {f : Nat → Bool} {n : Nat} : ∀ j, j ≤ n → ((List.range j).filter f).length ≤ ((List.range n).filter f).length := by
  intro j h
  induction n with
  | zero => have : j = 0 := by omega
            subst this; exact Nat.le_refl _
  | succ n ih =>
    rcases Nat.lt_or_ge j (n + 1) with h2 | h2
    · refine Nat.le_trans (ih (by omega)) ?_
      rw [zf_range, List.length_append]
      omega
    · have : j = n + 1 := by omega
      subst this; exact Nat.le_refl _
