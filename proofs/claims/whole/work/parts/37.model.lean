def zMn (σ : zR) (l : List Nat) : zR := fun s i f => if s = 9 ∧ i = 0 ∧ f = 23 then nI l.length else if s = 31 ∧ i = 0 ∧ f < l.length then nI (l.getD f 0) else σ s i f
set_option maxRecDepth 3000 in
set_option maxHeartbeats 400000 in
theorem zMn_s {σ : zR} {l : List Nat} {s : Nat} (h1 : ¬ s = 9) (h2 : ¬ s = 31) : zMn σ l s = σ s := by
  funext i f
  unfold zMn
  rw [if_neg (fun q => h1 q.1), if_neg (fun q => h2 q.1)]
set_option maxRecDepth 3000 in
set_option maxHeartbeats 400000 in
theorem zMn_23 {σ : zR} {l : List Nat} : zMn σ l 9 0 23 = nI l.length := if_pos ⟨rfl, rfl, rfl⟩
set_option maxRecDepth 3000 in
set_option maxHeartbeats 400000 in
theorem zMn_9 {σ : zR} {l : List Nat} {f : Nat} (h : ¬ f = 23) : zMn σ l 9 0 f = σ 9 0 f := by
  unfold zMn
  rw [if_neg (fun q => h q.2.2), if_neg (by simp)]
set_option maxRecDepth 3000 in
set_option maxHeartbeats 400000 in
theorem zMn_add {σ : zR} {l : List Nat} {c : Nat} : zw (zw (zMn σ l) 31 0 l.length (nI c)) 9 0 23 (nI (l.length + 1)) = zMn σ (l ++ [c]) := by
  funext s i f
  unfold zMn
  simp only [zw_ap, List.length_append, List.length_singleton]
  by_cases h1 : s = 9 ∧ i = 0 ∧ f = 23
  · rw [if_pos h1, if_pos h1]
  · simp only [if_neg h1]
    by_cases h2 : s = 31 ∧ i = 0 ∧ f = l.length
    · rw [if_pos h2, if_pos ⟨h2.1, h2.2.1, by omega⟩, h2.2.2]
      simp
    · rw [if_neg h2]
      by_cases h3 : s = 31 ∧ i = 0 ∧ f < l.length
      · rw [if_pos h3, if_pos ⟨h3.1, h3.2.1, by omega⟩]
        simp [List.getElem?_append_left h3.2.2]
      · rw [if_neg h3, if_neg (fun q => by
          rcases Nat.lt_or_ge f l.length with h4 | h4
          · exact h3 ⟨q.1, q.2.1, h4⟩
          · exact h2 ⟨q.1, q.2.1, by omega⟩)]
def zgm (σ : zR) (c : Nat) : Int32 := if σ 26 0 c = 3 then 0 else if σ 25 0 c < 0 then 7 else 1 + σ 25 0 c
def zMf (σ : zR) (v g : Int32) (c : Nat) : Bool := decide (σ 24 0 c = v ∧ σ 28 0 c = σ 9 0 21 ∧ σ 29 0 c = 0 ∧ zgm σ c = g)
section ZM4
variable {G : zG} {σ : zR} {o : zmO}
set_option maxRecDepth 3000 in
set_option maxHeartbeats 400000 in
theorem z_ltI {a b : Nat} (h : a < b) (hb : b < 1000) : nI a < nI b := (nI_ltI (by omega) (by omega)).mpr h
set_option maxRecDepth 3000 in
set_option maxHeartbeats 400000 in
theorem z_nltI {a b : Nat} (h : ¬ a < b) (ha : a < 1000) (hb : b < 1000) : ¬ nI a < nI b := fun q => h ((nI_ltI (by omega) (by omega)).mp q)
set_option maxRecDepth 3000 in
set_option maxHeartbeats 400000 in
theorem l_gather {d n : Nat} {v g : Int32} {l : List Nat} (hn : n ≤ 60) (hx : σ 9 0 11 = nI n) (hB : l.length + ((List.range n).filter (zMf σ v g)).length ≤ 60) :
    ∀ (k j : Nat), j + k = n → ∀ (l4 : Option zmV), zm_E (zm_Calls (d + 1)) 62 2 [some (.inr (.inr (some (9, 0)))), some (.inl v), some (.inl g), some (.inl (nI j)), l4] [] (zh G (zMn σ (l ++ (List.range j).filter (zMf σ v g)))) o ↔ o = (none, zh G (zMn σ (l ++ (List.range n).filter (zMf σ v g)))) := by
  intro k
  induction k with
  | zero =>
    intro j hj l4
    have hj : j = n := by omega
    subst hj
    rw [x62_2]
    simp only [↓reduceIte, x62_0, x62_1, x62_3, x62_4, x62_7, x62_10, x62_11, x62_14, x62_15, x62_16, x62_17, x62_20, x62_21, x62_24, x62_25, x62_26, x62_27, x62_30, x62_33, x62_34, x62_37, x62_38, x62_39, x62_42, x62_43, x62_44, x62_47, x62_48, x62_51, x62_52, x62_56, x62_58, x62_60, x62_63, x62_86, x62_89, x62_66, x62_67, x62_70, x62_71, x62_74, x62_75, x62_76, x62_77, x62_78, x62_81, x62_82, x62_83, x62_55, x62_92, zf9_0, zf9_1, zf9_2, zf9_3, zf9_4, zf9_5, zf9_6, zf9_7, zf9_8, zf9_9, zf9_10, zf9_11, zf9_12, zf9_13, zf9_14, zf9_15, zf9_16, zf9_17, zf9_18, zf9_19, zf9_20, zf9_21, zf9_22, zf9_23, zf9_24, zf9_25, zf9_26, zf9_27, zf9_28, zf9_29, zf9_30, zf9_31, zq9_0, zq9_1, zq9_2, zq9_3, zq9_4, zq9_5, zq9_6, zq9_7, zq9_8, zq9_9, zq9_10, zq9_11, zq9_12, zq9_13, zq9_14, zq9_15, zq9_16, zq9_17, zq9_18, zq9_19, zq9_20, zq9_21, zq9_22, zq9_23, zq9_24, zq9_25, zq9_26, zq9_27, zq9_28, zq9_29, zq9_30, zq9_31, zp9_0, zp9_1, zp9_8, zp9_10, zp9_11, zp9_18, zp9_19, zp9_20, zp9_21, zp9_23, zp9_25, zp9_28, zo9, zMn_9 (show ¬ 11 = 23 by decide), hx, z_nltI (Nat.lt_irrefl j) (by omega : j < 1000) (by omega : j < 1000), if_false, true_and]
  | succ k ih =>
    intro j hj l4
    have h : j < 60 := by omega
    have hjn : nI j < nI n := z_ltI (by omega) (by omega)
    have h3 := ih (j + 1) (by omega) (some (.inl 1))
    have h3' := ih (j + 1) (by omega) (some (.inl 0))
    have m1 := zf_mono (f := zMf σ v g) (n := n) (j + 1) (by omega)
    generalize hT : zMn σ (l ++ (List.range j).filter (zMf σ v g)) = τ at h3 h3' ⊢
    have e24 : τ 24 = σ 24 := by rw [← hT]; exact zMn_s (by decide) (by decide)
    have e25 : τ 25 = σ 25 := by rw [← hT]; exact zMn_s (by decide) (by decide)
    have e26 : τ 26 = σ 26 := by rw [← hT]; exact zMn_s (by decide) (by decide)
    have e28 : τ 28 = σ 28 := by rw [← hT]; exact zMn_s (by decide) (by decide)
    have e29 : τ 29 = σ 29 := by rw [← hT]; exact zMn_s (by decide) (by decide)
    have eu : τ 9 0 21 = σ 9 0 21 := by rw [← hT]; exact zMn_9 (by decide)
    have ex : τ 9 0 11 = nI n := by rw [← hT, zMn_9 (by decide)]; exact hx
    rw [x62_2]
    by_cases hf : σ 24 0 j = v ∧ σ 28 0 j = σ 9 0 21 ∧ σ 29 0 j = 0 ∧ zgm σ j = g
    · have hff : zMf σ v g j = true := decide_eq_true hf
      rw [zf_range, if_pos hff] at h3 m1
      rw [List.length_append, List.length_singleton] at m1
      rw [← List.append_assoc, ← zMn_add, hT] at h3
      have e23 : τ 9 0 23 = nI (l ++ (List.range j).filter (zMf σ v g)).length := by rw [← hT]; exact zMn_23
      generalize hq : (l ++ (List.range j).filter (zMf σ v g)).length = q at h3 e23
      have hq2 : q < 60 := by rw [← hq, List.length_append]; omega
      obtain ⟨f1, f2, f3, f4⟩ := hf
      unfold zgm at f4
      simp only [↓reduceIte, x62_0, x62_1, x62_3, x62_4, x62_7, x62_10, x62_11, x62_14, x62_15, x62_16, x62_17, x62_20, x62_21, x62_24, x62_25, x62_26, x62_27, x62_30, x62_33, x62_34, x62_37, x62_38, x62_39, x62_42, x62_43, x62_44, x62_47, x62_48, x62_51, x62_52, x62_56, x62_58, x62_60, x62_63, x62_86, x62_89, x62_66, x62_67, x62_70, x62_71, x62_74, x62_75, x62_76, x62_77, x62_78, x62_81, x62_82, x62_83, x62_55, x62_92, zf9_0, zf9_1, zf9_2, zf9_3, zf9_4, zf9_5, zf9_6, zf9_7, zf9_8, zf9_9, zf9_10, zf9_11, zf9_12, zf9_13, zf9_14, zf9_15, zf9_16, zf9_17, zf9_18, zf9_19, zf9_20, zf9_21, zf9_22, zf9_23, zf9_24, zf9_25, zf9_26, zf9_27, zf9_28, zf9_29, zf9_30, zf9_31, zq9_0, zq9_1, zq9_2, zq9_3, zq9_4, zq9_5, zq9_6, zq9_7, zq9_8, zq9_9, zq9_10, zq9_11, zq9_12, zq9_13, zq9_14, zq9_15, zq9_16, zq9_17, zq9_18, zq9_19, zq9_20, zq9_21, zq9_22, zq9_23, zq9_24, zq9_25, zq9_26, zq9_27, zq9_28, zq9_29, zq9_30, zq9_31, zp9_0, zp9_1, zp9_8, zp9_10, zp9_11, zp9_18, zp9_19, zp9_20, zp9_21, zp9_23, zp9_25, zp9_28, zo9, za24, zn24, zi24, zl24, zt24, za28, zn28, zi28, zl28, zt28, za29, zn29, zi29, zl29, zt29, za31, zn31, zi31, zl31, zt31, ex, hjn, z_nin h (by omega), z_cl (show j < 1000 by omega), e24, e28, e29, eu, f1, f2, f3, m_group h, e25, e26, f4, e23, z_nin hq2 (by omega), z_cl (show q < 1000 by omega), zw_ap, Nat.reduceEqDiff, false_and, z_10, z_ex, Option.toList_some, List.cons_append, List.nil_append, true_and, and_false, or_true, false_or, not_false_eq_true, Nat.reduceLeDiff, z_8, zf_i, and_self, nI_1, h3]
    · have hff : ¬ zMf σ v g j = true := fun q => hf (of_decide_eq_true q)
      rw [zf_range, if_neg hff, List.append_nil, hT] at h3'
      by_cases f1 : σ 24 0 j = v
      · by_cases f2 : σ 28 0 j = σ 9 0 21
        · by_cases f3 : σ 29 0 j = 0
          · have f4 : ¬ zgm σ j = g := fun q => hf ⟨f1, f2, f3, q⟩
            unfold zgm at f4
            simp only [↓reduceIte, x62_0, x62_1, x62_3, x62_4, x62_7, x62_10, x62_11, x62_14, x62_15, x62_16, x62_17, x62_20, x62_21, x62_24, x62_25, x62_26, x62_27, x62_30, x62_33, x62_34, x62_37, x62_38, x62_39, x62_42, x62_43, x62_44, x62_47, x62_48, x62_51, x62_52, x62_56, x62_58, x62_60, x62_63, x62_86, x62_89, x62_66, x62_67, x62_70, x62_71, x62_74, x62_75, x62_76, x62_77, x62_78, x62_81, x62_82, x62_83, x62_55, x62_92, zf9_0, zf9_1, zf9_2, zf9_3, zf9_4, zf9_5, zf9_6, zf9_7, zf9_8, zf9_9, zf9_10, zf9_11, zf9_12, zf9_13, zf9_14, zf9_15, zf9_16, zf9_17, zf9_18, zf9_19, zf9_20, zf9_21, zf9_22, zf9_23, zf9_24, zf9_25, zf9_26, zf9_27, zf9_28, zf9_29, zf9_30, zf9_31, zq9_0, zq9_1, zq9_2, zq9_3, zq9_4, zq9_5, zq9_6, zq9_7, zq9_8, zq9_9, zq9_10, zq9_11, zq9_12, zq9_13, zq9_14, zq9_15, zq9_16, zq9_17, zq9_18, zq9_19, zq9_20, zq9_21, zq9_22, zq9_23, zq9_24, zq9_25, zq9_26, zq9_27, zq9_28, zq9_29, zq9_30, zq9_31, zp9_0, zp9_1, zp9_8, zp9_10, zp9_11, zp9_18, zp9_19, zp9_20, zp9_21, zp9_23, zp9_25, zp9_28, zo9, za24, zn24, zi24, zl24, zt24, za28, zn28, zi28, zl28, zt28, za29, zn29, zi29, zl29, zt29, ex, hjn, z_nin h (by omega), z_cl (show j < 1000 by omega), e24, e28, e29, eu, f1, f2, f3, m_group h, e25, e26, f4, z_ex, Option.toList_some, List.cons_append, List.nil_append, true_and, and_false, or_true, false_or, not_false_eq_true, Nat.reduceLeDiff, z_8, nI_1, h3']
          · simp only [↓reduceIte, x62_0, x62_1, x62_3, x62_4, x62_7, x62_10, x62_11, x62_14, x62_15, x62_16, x62_17, x62_20, x62_21, x62_24, x62_25, x62_26, x62_27, x62_30, x62_33, x62_34, x62_37, x62_38, x62_39, x62_42, x62_43, x62_44, x62_47, x62_48, x62_51, x62_52, x62_56, x62_58, x62_60, x62_63, x62_86, x62_89, x62_66, x62_67, x62_70, x62_71, x62_74, x62_75, x62_76, x62_77, x62_78, x62_81, x62_82, x62_83, x62_55, x62_92, zf9_0, zf9_1, zf9_2, zf9_3, zf9_4, zf9_5, zf9_6, zf9_7, zf9_8, zf9_9, zf9_10, zf9_11, zf9_12, zf9_13, zf9_14, zf9_15, zf9_16, zf9_17, zf9_18, zf9_19, zf9_20, zf9_21, zf9_22, zf9_23, zf9_24, zf9_25, zf9_26, zf9_27, zf9_28, zf9_29, zf9_30, zf9_31, zq9_0, zq9_1, zq9_2, zq9_3, zq9_4, zq9_5, zq9_6, zq9_7, zq9_8, zq9_9, zq9_10, zq9_11, zq9_12, zq9_13, zq9_14, zq9_15, zq9_16, zq9_17, zq9_18, zq9_19, zq9_20, zq9_21, zq9_22, zq9_23, zq9_24, zq9_25, zq9_26, zq9_27, zq9_28, zq9_29, zq9_30, zq9_31, zp9_0, zp9_1, zp9_8, zp9_10, zp9_11, zp9_18, zp9_19, zp9_20, zp9_21, zp9_23, zp9_25, zp9_28, zo9, za24, zn24, zi24, zl24, zt24, za28, zn28, zi28, zl28, zt28, za29, zn29, zi29, zl29, zt29, ex, hjn, z_nin h (by omega), z_cl (show j < 1000 by omega), e24, e28, e29, eu, f1, f2, f3, true_and, and_false, or_true, false_or, not_false_eq_true, Nat.reduceLeDiff, z_8, nI_1, h3']
        · simp only [↓reduceIte, x62_0, x62_1, x62_3, x62_4, x62_7, x62_10, x62_11, x62_14, x62_15, x62_16, x62_17, x62_20, x62_21, x62_24, x62_25, x62_26, x62_27, x62_30, x62_33, x62_34, x62_37, x62_38, x62_39, x62_42, x62_43, x62_44, x62_47, x62_48, x62_51, x62_52, x62_56, x62_58, x62_60, x62_63, x62_86, x62_89, x62_66, x62_67, x62_70, x62_71, x62_74, x62_75, x62_76, x62_77, x62_78, x62_81, x62_82, x62_83, x62_55, x62_92, zf9_0, zf9_1, zf9_2, zf9_3, zf9_4, zf9_5, zf9_6, zf9_7, zf9_8, zf9_9, zf9_10, zf9_11, zf9_12, zf9_13, zf9_14, zf9_15, zf9_16, zf9_17, zf9_18, zf9_19, zf9_20, zf9_21, zf9_22, zf9_23, zf9_24, zf9_25, zf9_26, zf9_27, zf9_28, zf9_29, zf9_30, zf9_31, zq9_0, zq9_1, zq9_2, zq9_3, zq9_4, zq9_5, zq9_6, zq9_7, zq9_8, zq9_9, zq9_10, zq9_11, zq9_12, zq9_13, zq9_14, zq9_15, zq9_16, zq9_17, zq9_18, zq9_19, zq9_20, zq9_21, zq9_22, zq9_23, zq9_24, zq9_25, zq9_26, zq9_27, zq9_28, zq9_29, zq9_30, zq9_31, zp9_0, zp9_1, zp9_8, zp9_10, zp9_11, zp9_18, zp9_19, zp9_20, zp9_21, zp9_23, zp9_25, zp9_28, zo9, za24, zn24, zi24, zl24, zt24, za28, zn28, zi28, zl28, zt28, za29, zn29, zi29, zl29, zt29, ex, hjn, z_nin h (by omega), z_cl (show j < 1000 by omega), e24, e28, eu, f1, f2, true_and, nI_1, h3']
      · simp only [↓reduceIte, x62_0, x62_1, x62_3, x62_4, x62_7, x62_10, x62_11, x62_14, x62_15, x62_16, x62_17, x62_20, x62_21, x62_24, x62_25, x62_26, x62_27, x62_30, x62_33, x62_34, x62_37, x62_38, x62_39, x62_42, x62_43, x62_44, x62_47, x62_48, x62_51, x62_52, x62_56, x62_58, x62_60, x62_63, x62_86, x62_89, x62_66, x62_67, x62_70, x62_71, x62_74, x62_75, x62_76, x62_77, x62_78, x62_81, x62_82, x62_83, x62_55, x62_92, zf9_0, zf9_1, zf9_2, zf9_3, zf9_4, zf9_5, zf9_6, zf9_7, zf9_8, zf9_9, zf9_10, zf9_11, zf9_12, zf9_13, zf9_14, zf9_15, zf9_16, zf9_17, zf9_18, zf9_19, zf9_20, zf9_21, zf9_22, zf9_23, zf9_24, zf9_25, zf9_26, zf9_27, zf9_28, zf9_29, zf9_30, zf9_31, zq9_0, zq9_1, zq9_2, zq9_3, zq9_4, zq9_5, zq9_6, zq9_7, zq9_8, zq9_9, zq9_10, zq9_11, zq9_12, zq9_13, zq9_14, zq9_15, zq9_16, zq9_17, zq9_18, zq9_19, zq9_20, zq9_21, zq9_22, zq9_23, zq9_24, zq9_25, zq9_26, zq9_27, zq9_28, zq9_29, zq9_30, zq9_31, zp9_0, zp9_1, zp9_8, zp9_10, zp9_11, zp9_18, zp9_19, zp9_20, zp9_21, zp9_23, zp9_25, zp9_28, zo9, za24, zn24, zi24, zl24, zt24, za28, zn28, zi28, zl28, zt28, za29, zn29, zi29, zl29, zt29, ex, hjn, z_nin h (by omega), z_cl (show j < 1000 by omega), e24, f1, true_and, nI_1, h3']
set_option maxRecDepth 3000 in
set_option maxHeartbeats 400000 in
theorem m_gather {d n : Nat} {v g : Int32} {l : List Nat} (hn : n ≤ 60) (hx : σ 9 0 11 = nI n) (hB : l.length + ((List.range n).filter (zMf σ v g)).length ≤ 60) : zm_Calls (d + 2) 62 [.inr (.inr (some (9, 0))), .inl v, .inl g] (zh G (zMn σ l)) o ↔ o = (none, zh G (zMn σ (l ++ (List.range n).filter (zMf σ v g)))) := by
  have h := l_gather (G := G) (σ := σ) (o := o) (d := d) (v := v) (g := g) (l := l) hn hx hB n 0 (by omega) none
  simp only [List.range_zero, List.filter_nil, List.append_nil, nI_0] at h
  simp only [i62, x62_0, x62_1, x62_3, x62_4, x62_7, x62_10, x62_11, x62_14, x62_15, x62_16, x62_17, x62_20, x62_21, x62_24, x62_25, x62_26, x62_27, x62_30, x62_33, x62_34, x62_37, x62_38, x62_39, x62_42, x62_43, x62_44, x62_47, x62_48, x62_51, x62_52, x62_56, x62_58, x62_60, x62_63, x62_86, x62_89, x62_66, x62_67, x62_70, x62_71, x62_74, x62_75, x62_76, x62_77, x62_78, x62_81, x62_82, x62_83, x62_55, x62_92, h]
def zbg (σ : zR) (p : Nat) : Prop := ¬ σ 20 0 p = 0 ∧ σ 17 0 (4 * p + 3) = 0
def zb1 (σ : zR) (p : Nat) (n : Nat → Int32) : zR := zw (zw (zw (zw σ 17 0 (4 * p) (n 0)) 17 0 (4 * p + 1) (n 1)) 17 0 (4 * p + 2) (n 2)) 17 0 (4 * p + 3) (n 3)
def zb2 (σ : zR) (p : Nat) (n v : Nat → Int32) : zR := zw (zw (zw (zw (zw (zw (zw (zw σ 18 0 (4 * p) (v 0)) 17 0 (4 * p) (n 0)) 18 0 (4 * p + 1) (v 1)) 17 0 (4 * p + 1) (n 1)) 18 0 (4 * p + 2) (v 2)) 17 0 (4 * p + 2) (n 2)) 18 0 (4 * p + 3) (v 3)) 17 0 (4 * p + 3) (n 3)
set_option maxRecDepth 3000 in
set_option maxHeartbeats 400000 in
theorem z_n01 {p : Nat} : (4 * p + 1 = 4 * p) = False := eq_false (by omega)
set_option maxRecDepth 3000 in
set_option maxHeartbeats 400000 in
theorem z_n02 {p : Nat} : (4 * p + 2 = 4 * p) = False := eq_false (by omega)
set_option maxRecDepth 3000 in
set_option maxHeartbeats 400000 in
theorem z_n03 {p : Nat} : (4 * p + 3 = 4 * p) = False := eq_false (by omega)
set_option maxRecDepth 3000 in
set_option maxHeartbeats 400000 in
theorem m_become_n {d p : Nat} (hp : p < 10) (hb : ¬ zbg σ p) : zm_Calls (d + 3) 61 [.inr (.inr (some (9, 0))), .inl (nI p)] (zh G σ) o ↔ o = (none, zh G (zw (zb1 (zX σ (zrk σ p)) p (zrk σ p)) 19 0 p (if σ 19 0 p < σ 30 0 p then σ 30 0 p else σ 19 0 p))) := by
  have h0 : vp_in (nI (4 * p)) 40 := z_nin (by omega) (by omega)
  have h1 : vp_in (nI (4 * p + 1)) 40 := z_nin (by omega) (by omega)
  have h2 : vp_in (nI (4 * p + 2)) 40 := z_nin (by omega) (by omega)
  have h3 : vp_in (nI (4 * p + 3)) 40 := z_nin (by omega) (by omega)
  have e0 : (nI (4 * p)).toNatClampNeg = 4 * p := z_cl (by omega)
  have e1 : (nI (4 * p + 1)).toNatClampNeg = 4 * p + 1 := z_cl (by omega)
  have e2 : (nI (4 * p + 2)).toNatClampNeg = 4 * p + 2 := z_cl (by omega)
  have e3 : (nI (4 * p + 3)).toNatClampNeg = 4 * p + 3 := z_cl (by omega)
  have ep : (nI p).toNatClampNeg = p := z_cl (by omega)
  have hq : vp_in (nI p) 10 := z_nin (by omega) (by omega)
  unfold zb1
  by_cases c1 : σ 20 0 p = 0
  · by_cases c3 : σ 19 0 p < σ 30 0 p
    · simp only [↓reduceIte, true_and, and_true, zf_i, zf_0, zf_1, zb_fit, z_ex, Option.toList_some, Option.toList_none, List.cons_append, List.nil_append, zb_0, z_ie, z_iv, z_ih, z_iz, z_izn, z_i2, z_ia, z_io, z_ina, z_8, Classical.not_not, i61, x61_0, x61_1, x61_2, x61_5, x61_6, x61_9, x61_10, x61_11, x61_14, x61_15, x61_18, x61_19, x61_20, x61_21, x61_22, x61_23, x61_24, x61_27, x61_28, x61_32, x61_33, x61_34, x61_35, x61_36, x61_37, x61_40, x61_41, x61_44, x61_45, x61_48, x61_49, x61_50, x61_51, x61_52, x61_53, x61_54, x61_57, x61_58, x61_59, x61_60, x61_61, x61_62, x61_63, x61_64, x61_65, x61_68, x61_69, x61_70, x61_71, x61_72, x61_73, x61_74, x61_77, x61_78, x61_79, x61_80, x61_83, x61_86, x61_87, x61_90, x61_91, x61_92, x61_95, x61_96, x61_99, x61_100, x61_101, x61_102, x61_105, x61_106, x61_107, x61_110, x61_111, x61_114, x61_115, x61_116, x61_125, x61_126, x61_119, x61_120, x61_123, x61_124, x61_31, zf9_0, zf9_1, zf9_2, zf9_3, zf9_4, zf9_5, zf9_6, zf9_7, zf9_8, zf9_9, zf9_10, zf9_11, zf9_12, zf9_13, zf9_14, zf9_15, zf9_16, zf9_17, zf9_18, zf9_19, zf9_20, zf9_21, zf9_22, zf9_23, zf9_24, zf9_25, zf9_26, zf9_27, zf9_28, zf9_29, zf9_30, zf9_31, zq9_0, zq9_1, zq9_2, zq9_3, zq9_4, zq9_5, zq9_6, zq9_7, zq9_8, zq9_9, zq9_10, zq9_11, zq9_12, zq9_13, zq9_14, zq9_15, zq9_16, zq9_17, zq9_18, zq9_19, zq9_20, zq9_21, zq9_22, zq9_23, zq9_24, zq9_25, zq9_26, zq9_27, zq9_28, zq9_29, zq9_30, zq9_31, zp9_0, zp9_1, zp9_8, zp9_10, zp9_11, zp9_18, zp9_19, zp9_20, zp9_21, zp9_23, zp9_25, zp9_28, zo9, za17, zn17, zi17, zl17, zt17, za18, zn18, zi18, zl18, zt18, za19, zn19, zi19, zl19, zt19, za20, zn20, zi20, zl20, zt20, za30, zn30, zi30, zl30, zt30, za33, zn33, zi33, zl33, zt33, m_reckon hp, zX_s, zX_r0, zX_r1, zX_r2, zX_r3, z_m4, nI_1, z_a2, z_a3, Int32.add_zero, h0, h1, h2, h3, e0, e1, e2, e3, ep, hq, z_v0 (show 0 < 4 by omega) (by omega), z_v1 (show 1 < 4 by omega) (by omega), z_v2 (show 2 < 4 by omega) (by omega), z_v3 (show 3 < 4 by omega) (by omega), z_t0, z_t1, z_t2, z_t3, z_i01, z_i12, z_i23, z_i34, z_04, z_14, z_24, z_34, z_44, Nat.reduceLeDiff, Nat.reduceEqDiff, zw_ap, false_and, and_false, or_true, false_or, not_false_eq_true, c1, c3]
    · simp only [↓reduceIte, true_and, and_true, zf_i, zf_0, zf_1, zb_fit, z_ex, Option.toList_some, Option.toList_none, List.cons_append, List.nil_append, zb_0, z_ie, z_iv, z_ih, z_iz, z_izn, z_i2, z_ia, z_io, z_ina, z_8, Classical.not_not, i61, x61_0, x61_1, x61_2, x61_5, x61_6, x61_9, x61_10, x61_11, x61_14, x61_15, x61_18, x61_19, x61_20, x61_21, x61_22, x61_23, x61_24, x61_27, x61_28, x61_32, x61_33, x61_34, x61_35, x61_36, x61_37, x61_40, x61_41, x61_44, x61_45, x61_48, x61_49, x61_50, x61_51, x61_52, x61_53, x61_54, x61_57, x61_58, x61_59, x61_60, x61_61, x61_62, x61_63, x61_64, x61_65, x61_68, x61_69, x61_70, x61_71, x61_72, x61_73, x61_74, x61_77, x61_78, x61_79, x61_80, x61_83, x61_86, x61_87, x61_90, x61_91, x61_92, x61_95, x61_96, x61_99, x61_100, x61_101, x61_102, x61_105, x61_106, x61_107, x61_110, x61_111, x61_114, x61_115, x61_116, x61_125, x61_126, x61_119, x61_120, x61_123, x61_124, x61_31, zf9_0, zf9_1, zf9_2, zf9_3, zf9_4, zf9_5, zf9_6, zf9_7, zf9_8, zf9_9, zf9_10, zf9_11, zf9_12, zf9_13, zf9_14, zf9_15, zf9_16, zf9_17, zf9_18, zf9_19, zf9_20, zf9_21, zf9_22, zf9_23, zf9_24, zf9_25, zf9_26, zf9_27, zf9_28, zf9_29, zf9_30, zf9_31, zq9_0, zq9_1, zq9_2, zq9_3, zq9_4, zq9_5, zq9_6, zq9_7, zq9_8, zq9_9, zq9_10, zq9_11, zq9_12, zq9_13, zq9_14, zq9_15, zq9_16, zq9_17, zq9_18, zq9_19, zq9_20, zq9_21, zq9_22, zq9_23, zq9_24, zq9_25, zq9_26, zq9_27, zq9_28, zq9_29, zq9_30, zq9_31, zp9_0, zp9_1, zp9_8, zp9_10, zp9_11, zp9_18, zp9_19, zp9_20, zp9_21, zp9_23, zp9_25, zp9_28, zo9, za17, zn17, zi17, zl17, zt17, za18, zn18, zi18, zl18, zt18, za19, zn19, zi19, zl19, zt19, za20, zn20, zi20, zl20, zt20, za30, zn30, zi30, zl30, zt30, za33, zn33, zi33, zl33, zt33, m_reckon hp, zX_s, zX_r0, zX_r1, zX_r2, zX_r3, z_m4, nI_1, z_a2, z_a3, Int32.add_zero, h0, h1, h2, h3, e0, e1, e2, e3, ep, hq, z_v0 (show 0 < 4 by omega) (by omega), z_v1 (show 1 < 4 by omega) (by omega), z_v2 (show 2 < 4 by omega) (by omega), z_v3 (show 3 < 4 by omega) (by omega), z_t0, z_t1, z_t2, z_t3, z_i01, z_i12, z_i23, z_i34, z_04, z_14, z_24, z_34, z_44, Nat.reduceLeDiff, Nat.reduceEqDiff, zw_ap, false_and, and_false, or_true, false_or, not_false_eq_true, c1, c3]
  · have c2 : ¬ σ 17 0 (4 * p + 3) = 0 := fun q => hb ⟨c1, q⟩
    by_cases c3 : σ 19 0 p < σ 30 0 p
    · simp only [↓reduceIte, true_and, and_true, zf_i, zf_0, zf_1, zb_fit, z_ex, Option.toList_some, Option.toList_none, List.cons_append, List.nil_append, zb_0, z_ie, z_iv, z_ih, z_iz, z_izn, z_i2, z_ia, z_io, z_ina, z_8, Classical.not_not, i61, x61_0, x61_1, x61_2, x61_5, x61_6, x61_9, x61_10, x61_11, x61_14, x61_15, x61_18, x61_19, x61_20, x61_21, x61_22, x61_23, x61_24, x61_27, x61_28, x61_32, x61_33, x61_34, x61_35, x61_36, x61_37, x61_40, x61_41, x61_44, x61_45, x61_48, x61_49, x61_50, x61_51, x61_52, x61_53, x61_54, x61_57, x61_58, x61_59, x61_60, x61_61, x61_62, x61_63, x61_64, x61_65, x61_68, x61_69, x61_70, x61_71, x61_72, x61_73, x61_74, x61_77, x61_78, x61_79, x61_80, x61_83, x61_86, x61_87, x61_90, x61_91, x61_92, x61_95, x61_96, x61_99, x61_100, x61_101, x61_102, x61_105, x61_106, x61_107, x61_110, x61_111, x61_114, x61_115, x61_116, x61_125, x61_126, x61_119, x61_120, x61_123, x61_124, x61_31, zf9_0, zf9_1, zf9_2, zf9_3, zf9_4, zf9_5, zf9_6, zf9_7, zf9_8, zf9_9, zf9_10, zf9_11, zf9_12, zf9_13, zf9_14, zf9_15, zf9_16, zf9_17, zf9_18, zf9_19, zf9_20, zf9_21, zf9_22, zf9_23, zf9_24, zf9_25, zf9_26, zf9_27, zf9_28, zf9_29, zf9_30, zf9_31, zq9_0, zq9_1, zq9_2, zq9_3, zq9_4, zq9_5, zq9_6, zq9_7, zq9_8, zq9_9, zq9_10, zq9_11, zq9_12, zq9_13, zq9_14, zq9_15, zq9_16, zq9_17, zq9_18, zq9_19, zq9_20, zq9_21, zq9_22, zq9_23, zq9_24, zq9_25, zq9_26, zq9_27, zq9_28, zq9_29, zq9_30, zq9_31, zp9_0, zp9_1, zp9_8, zp9_10, zp9_11, zp9_18, zp9_19, zp9_20, zp9_21, zp9_23, zp9_25, zp9_28, zo9, za17, zn17, zi17, zl17, zt17, za18, zn18, zi18, zl18, zt18, za19, zn19, zi19, zl19, zt19, za20, zn20, zi20, zl20, zt20, za30, zn30, zi30, zl30, zt30, za33, zn33, zi33, zl33, zt33, m_reckon hp, zX_s, zX_r0, zX_r1, zX_r2, zX_r3, z_m4, nI_1, z_a2, z_a3, Int32.add_zero, h0, h1, h2, h3, e0, e1, e2, e3, ep, hq, z_v0 (show 0 < 4 by omega) (by omega), z_v1 (show 1 < 4 by omega) (by omega), z_v2 (show 2 < 4 by omega) (by omega), z_v3 (show 3 < 4 by omega) (by omega), z_t0, z_t1, z_t2, z_t3, z_i01, z_i12, z_i23, z_i34, z_04, z_14, z_24, z_34, z_44, Nat.reduceLeDiff, Nat.reduceEqDiff, zw_ap, false_and, and_false, or_true, false_or, not_false_eq_true, c1, c2, c3]
    · simp only [↓reduceIte, true_and, and_true, zf_i, zf_0, zf_1, zb_fit, z_ex, Option.toList_some, Option.toList_none, List.cons_append, List.nil_append, zb_0, z_ie, z_iv, z_ih, z_iz, z_izn, z_i2, z_ia, z_io, z_ina, z_8, Classical.not_not, i61, x61_0, x61_1, x61_2, x61_5, x61_6, x61_9, x61_10, x61_11, x61_14, x61_15, x61_18, x61_19, x61_20, x61_21, x61_22, x61_23, x61_24, x61_27, x61_28, x61_32, x61_33, x61_34, x61_35, x61_36, x61_37, x61_40, x61_41, x61_44, x61_45, x61_48, x61_49, x61_50, x61_51, x61_52, x61_53, x61_54, x61_57, x61_58, x61_59, x61_60, x61_61, x61_62, x61_63, x61_64, x61_65, x61_68, x61_69, x61_70, x61_71, x61_72, x61_73, x61_74, x61_77, x61_78, x61_79, x61_80, x61_83, x61_86, x61_87, x61_90, x61_91, x61_92, x61_95, x61_96, x61_99, x61_100, x61_101, x61_102, x61_105, x61_106, x61_107, x61_110, x61_111, x61_114, x61_115, x61_116, x61_125, x61_126, x61_119, x61_120, x61_123, x61_124, x61_31, zf9_0, zf9_1, zf9_2, zf9_3, zf9_4, zf9_5, zf9_6, zf9_7, zf9_8, zf9_9, zf9_10, zf9_11, zf9_12, zf9_13, zf9_14, zf9_15, zf9_16, zf9_17, zf9_18, zf9_19, zf9_20, zf9_21, zf9_22, zf9_23, zf9_24, zf9_25, zf9_26, zf9_27, zf9_28, zf9_29, zf9_30, zf9_31, zq9_0, zq9_1, zq9_2, zq9_3, zq9_4, zq9_5, zq9_6, zq9_7, zq9_8, zq9_9, zq9_10, zq9_11, zq9_12, zq9_13, zq9_14, zq9_15, zq9_16, zq9_17, zq9_18, zq9_19, zq9_20, zq9_21, zq9_22, zq9_23, zq9_24, zq9_25, zq9_26, zq9_27, zq9_28, zq9_29, zq9_30, zq9_31, zp9_0, zp9_1, zp9_8, zp9_10, zp9_11, zp9_18, zp9_19, zp9_20, zp9_21, zp9_23, zp9_25, zp9_28, zo9, za17, zn17, zi17, zl17, zt17, za18, zn18, zi18, zl18, zt18, za19, zn19, zi19, zl19, zt19, za20, zn20, zi20, zl20, zt20, za30, zn30, zi30, zl30, zt30, za33, zn33, zi33, zl33, zt33, m_reckon hp, zX_s, zX_r0, zX_r1, zX_r2, zX_r3, z_m4, nI_1, z_a2, z_a3, Int32.add_zero, h0, h1, h2, h3, e0, e1, e2, e3, ep, hq, z_v0 (show 0 < 4 by omega) (by omega), z_v1 (show 1 < 4 by omega) (by omega), z_v2 (show 2 < 4 by omega) (by omega), z_v3 (show 3 < 4 by omega) (by omega), z_t0, z_t1, z_t2, z_t3, z_i01, z_i12, z_i23, z_i34, z_04, z_14, z_24, z_34, z_44, Nat.reduceLeDiff, Nat.reduceEqDiff, zw_ap, false_and, and_false, or_true, false_or, not_false_eq_true, c1, c2, c3]
set_option maxRecDepth 3000 in
set_option maxHeartbeats 400000 in
theorem m_become_y {d p : Nat} (hp : p < 10) (hb : zbg σ p) : zm_Calls (d + 3) 61 [.inr (.inr (some (9, 0))), .inl (nI p)] (zh G σ) o ↔ o = (none, zh G (zw (zb2 (zX σ (zrk σ p)) p (zrk σ p) (fun k => σ 17 0 (4 * p + k))) 19 0 p (σ 30 0 p))) := by
  have h0 : vp_in (nI (4 * p)) 40 := z_nin (by omega) (by omega)
  have h1 : vp_in (nI (4 * p + 1)) 40 := z_nin (by omega) (by omega)
  have h2 : vp_in (nI (4 * p + 2)) 40 := z_nin (by omega) (by omega)
  have h3 : vp_in (nI (4 * p + 3)) 40 := z_nin (by omega) (by omega)
  have e0 : (nI (4 * p)).toNatClampNeg = 4 * p := z_cl (by omega)
  have e1 : (nI (4 * p + 1)).toNatClampNeg = 4 * p + 1 := z_cl (by omega)
  have e2 : (nI (4 * p + 2)).toNatClampNeg = 4 * p + 2 := z_cl (by omega)
  have e3 : (nI (4 * p + 3)).toNatClampNeg = 4 * p + 3 := z_cl (by omega)
  have ep : (nI p).toNatClampNeg = p := z_cl (by omega)
  have hq : vp_in (nI p) 10 := z_nin (by omega) (by omega)
  obtain ⟨c1, c2⟩ := hb
  unfold zb2
  simp only [↓reduceIte, true_and, and_true, zf_i, zf_0, zf_1, zb_fit, z_ex, Option.toList_some, Option.toList_none, List.cons_append, List.nil_append, zb_0, z_ie, z_iv, z_ih, z_iz, z_izn, z_i2, z_ia, z_io, z_ina, z_8, Classical.not_not, i61, x61_0, x61_1, x61_2, x61_5, x61_6, x61_9, x61_10, x61_11, x61_14, x61_15, x61_18, x61_19, x61_20, x61_21, x61_22, x61_23, x61_24, x61_27, x61_28, x61_32, x61_33, x61_34, x61_35, x61_36, x61_37, x61_40, x61_41, x61_44, x61_45, x61_48, x61_49, x61_50, x61_51, x61_52, x61_53, x61_54, x61_57, x61_58, x61_59, x61_60, x61_61, x61_62, x61_63, x61_64, x61_65, x61_68, x61_69, x61_70, x61_71, x61_72, x61_73, x61_74, x61_77, x61_78, x61_79, x61_80, x61_83, x61_86, x61_87, x61_90, x61_91, x61_92, x61_95, x61_96, x61_99, x61_100, x61_101, x61_102, x61_105, x61_106, x61_107, x61_110, x61_111, x61_114, x61_115, x61_116, x61_125, x61_126, x61_119, x61_120, x61_123, x61_124, x61_31, zf9_0, zf9_1, zf9_2, zf9_3, zf9_4, zf9_5, zf9_6, zf9_7, zf9_8, zf9_9, zf9_10, zf9_11, zf9_12, zf9_13, zf9_14, zf9_15, zf9_16, zf9_17, zf9_18, zf9_19, zf9_20, zf9_21, zf9_22, zf9_23, zf9_24, zf9_25, zf9_26, zf9_27, zf9_28, zf9_29, zf9_30, zf9_31, zq9_0, zq9_1, zq9_2, zq9_3, zq9_4, zq9_5, zq9_6, zq9_7, zq9_8, zq9_9, zq9_10, zq9_11, zq9_12, zq9_13, zq9_14, zq9_15, zq9_16, zq9_17, zq9_18, zq9_19, zq9_20, zq9_21, zq9_22, zq9_23, zq9_24, zq9_25, zq9_26, zq9_27, zq9_28, zq9_29, zq9_30, zq9_31, zp9_0, zp9_1, zp9_8, zp9_10, zp9_11, zp9_18, zp9_19, zp9_20, zp9_21, zp9_23, zp9_25, zp9_28, zo9, za17, zn17, zi17, zl17, zt17, za18, zn18, zi18, zl18, zt18, za19, zn19, zi19, zl19, zt19, za20, zn20, zi20, zl20, zt20, za30, zn30, zi30, zl30, zt30, za33, zn33, zi33, zl33, zt33, m_reckon hp, zX_s, zX_r0, zX_r1, zX_r2, zX_r3, z_m4, nI_1, z_a2, z_a3, Int32.add_zero, Nat.add_zero, h0, h1, h2, h3, e0, e1, e2, e3, ep, hq, z_v0 (show 0 < 4 by omega) (by omega), z_v1 (show 1 < 4 by omega) (by omega), z_v2 (show 2 < 4 by omega) (by omega), z_v3 (show 3 < 4 by omega) (by omega), z_t0, z_t1, z_t2, z_t3, z_i01, z_i12, z_i23, z_i34, z_04, z_14, z_24, z_34, z_44, z_n01, z_n02, z_n03, Nat.add_left_cancel_iff, Nat.reduceLeDiff, Nat.reduceEqDiff, zw_ap, false_and, and_false, or_true, false_or, not_false_eq_true, c1, c2, z_10]
end ZM4
