section ZL6
variable {G : zG} {σ : zR} {o : zmO}
theorem zadd_n {d c : Nat} {l : List Nat} (hl : l.length < 60) : zm_Calls (d + 1) 86 [.inr (.inr (some (15, 0))), .inl (nI c)] (zh G (zNt σ l)) o ↔ o = (none, zh G (zNt σ (l ++ [c]))) := by
  have e : zNt σ l 15 0 1 = nI l.length := zNt_15
  rw [c86a, e, if_pos (z_l60 hl), z_cl (by omega), nI_1, zNt_add]
  exact ⟨fun q => q.2, fun q => ⟨z_nin hl (by omega), q⟩⟩
theorem l_noteI {d : Nat} {v g u : Int32} {l : List Nat} {Q : Prop} (hc : G.2.2.2.1 ≤ 60) (hu : σ 8 0 11 = u) (hN : ∀ c, c < G.2.2.2.1 → σ 45 c 0 = nI c) (hB : l.length + ((List.range G.2.2.2.1).filter (zNf (σ 45) v u g)).length ≤ 60)
    (hQ : ∀ l5 l6, zm_E (zm_Calls (d + 1)) 85 89 [some (.inr (.inr (some (8, 0)))), some (.inl v), some (.inl g), some (.inr (.inr (some (11, 0)))), some (.inl 60), l5, l6] [] (zh G (zNt σ (l ++ (List.range G.2.2.2.1).filter (zNf (σ 45) v u g)))) o ↔ Q) :
    ∀ (k j : Nat), j + k = G.2.2.2.1 → ∀ (l6 : Option zmV), zm_E (zm_Calls (d + 1)) 85 20 [some (.inr (.inr (some (8, 0)))), some (.inl v), some (.inl g), some (.inr (.inr (some (11, 0)))), some (.inl 60), some (.inl (nI j)), l6] [] (zh G (zNt σ (l ++ (List.range j).filter (zNf (σ 45) v u g)))) o ↔ Q := by
  intro k
  induction k with
  | zero =>
    intro j hj l6
    have hj : j = G.2.2.2.1 := by omega
    subst hj
    rw [x85_20]
    by_cases h : G.2.2.2.1 < 60
    · simp only [x85_22, x85_24, x85_27, x85_28, x85_30, x85_31, x85_33, x85_35, x85_38, z_l60 h, if_true, za11, zn11, zi11, zl11, z_nin h (by omega), ck_no (Nat.lt_irrefl _) (by omega : G.2.2.2.1 < 1000), true_and, and_true, zf_i, zf_0, zf_1, zb_fit, z_ex, Option.toList_some, Option.toList_none, List.cons_append, List.nil_append, zb_0, z_ie, z_iv, z_ih, z_iz, z_izn, z_i2, z_ia, z_io, z_ina, z_8, Classical.not_not, z_n70, Nat.reduceLeDiff, hQ]
    · simp only [x85_22, x85_24, z_g60 h (by omega), if_false, hQ]
  | succ k ih =>
    intro j hj l6
    have h : j < 60 := by omega
    have h2 : j < G.2.2.2.1 := by omega
    have h3 := ih (j + 1) (by omega) (some (.inr (.inr (some (45, j)))))
    have m1 := zf_mono (f := zNf (σ 45) v u g) (n := G.2.2.2.1) (j + 1) (by omega)
    generalize hT : zNt σ (l ++ (List.range j).filter (zNf (σ 45) v u g)) = τ at h3 ⊢
    have e45 : τ 45 = σ 45 := by rw [← hT]; exact zNt_s (by decide) (by decide)
    have e8 : τ 8 = σ 8 := by rw [← hT]; exact zNt_s (by decide) (by decide)
    have en : τ 45 j 0 = nI j := by rw [e45]; exact hN j h2
    have eu : τ 8 0 11 = u := by rw [e8]; exact hu
    rw [x85_20]
    by_cases hf : σ 45 j 1 = v ∧ (σ 45 j 5 = 0 ∧ σ 45 j 6 = u) ∧ zgr (σ 45) j = g
    · have hff : zNf (σ 45) v u g j = true := decide_eq_true hf
      rw [zf_range, if_pos hff] at h3 m1
      rw [List.length_append, List.length_singleton] at m1
      rw [← List.append_assoc] at h3
      have ha := fun o => zadd_n (o := o) (G := G) (σ := σ) (d := d) (c := j) (l := l ++ (List.range j).filter (zNf (σ 45) v u g)) (by rw [List.length_append]; omega)
      simp only [hT] at ha
      obtain ⟨f1, ⟨f2, f3⟩, f4⟩ := hf
      have f1 : τ 45 j 1 = v := by rw [e45]; exact f1
      have f2 : τ 45 j 5 = 0 := by rw [e45]; exact f2
      have f3 : τ 45 j 6 = u := by rw [e45]; exact f3
      have f4 : (if τ 45 j 4 = 3 then 0 else if τ 45 j 2 = -1 then 7 else τ 45 j 2 + 1) = g := by rw [e45]; exact f4
      simp only [x85_0, x85_1, x85_3, x85_5, x85_8, x85_9, x85_12, x85_13, x85_14, x85_15, x85_17, x85_18, x85_22, x85_24, x85_27, x85_28, x85_30, x85_31, x85_33, x85_35, x85_38, x85_89, x85_92, x85_41, x85_43, x85_46, x85_47, x85_50, x85_52, x85_53, x85_56, x85_59, x85_62, x85_64, x85_67, x85_68, x85_71, x85_72, x85_75, x85_77, x85_80, x85_83, x85_86, x85_95, z_l60 h, if_true, if_false, zf8_0, zf8_1, zf8_2, zf8_3, zf8_4, zf8_5, zf8_6, zf8_7, zf8_8, zf8_9, zf8_10, zf8_11, zf15_0, zf15_1, zf45_0, zf45_1, zf45_2, zf45_3, zf45_4, zf45_5, zf45_6, zq8_0, zq8_1, zq8_2, zq8_3, zq8_4, zq8_5, zq8_6, zq8_7, zq8_8, zq8_9, zq8_10, zq8_11, zq15_0, zq15_1, zq45_0, zq45_1, zq45_2, zq45_3, zq45_4, zq45_5, zq45_6, zp8_1, zp8_3, zp8_5, zp8_10, zp8_11, zp15_1, zp45_0, zp45_1, zp45_2, zp45_3, zp45_4, zp45_5, zp45_6, zo8, zo15, zo45, za11, zn11, zi11, zl11, z_nin h (by omega), ck_at h2 hc, h2, c103 h2, c104 h2, f1, f2, f3, f4, en, eu, ha, zb_0, z_ex, Option.toList_some, Option.toList_none, List.cons_append, List.nil_append, true_and, and_self, z_n7, reduceCtorEq, ne_eq, Nat.reduceEqDiff, not_false_eq_true, not_true_eq_false, decide_true, Nat.reduceLeDiff, z_8, nI_1, h3]
    · have hff : ¬ zNf (σ 45) v u g j = true := fun q => hf (of_decide_eq_true q)
      rw [zf_range, if_neg hff, List.append_nil, hT] at h3
      rw [← e45] at hf
      by_cases f1 : τ 45 j 1 = v
      · by_cases f2 : τ 45 j 5 = 0 ∧ τ 45 j 6 = u
        · have f4 : ¬ (if τ 45 j 4 = 3 then 0 else if τ 45 j 2 = -1 then 7 else τ 45 j 2 + 1) = g := fun q => hf ⟨f1, f2, q⟩
          simp only [x85_0, x85_1, x85_3, x85_5, x85_8, x85_9, x85_12, x85_13, x85_14, x85_15, x85_17, x85_18, x85_22, x85_24, x85_27, x85_28, x85_30, x85_31, x85_33, x85_35, x85_38, x85_89, x85_92, x85_41, x85_43, x85_46, x85_47, x85_50, x85_52, x85_53, x85_56, x85_59, x85_62, x85_64, x85_67, x85_68, x85_71, x85_72, x85_75, x85_77, x85_80, x85_83, x85_86, x85_95, z_l60 h, if_true, if_false, zf8_0, zf8_1, zf8_2, zf8_3, zf8_4, zf8_5, zf8_6, zf8_7, zf8_8, zf8_9, zf8_10, zf8_11, zf15_0, zf15_1, zf45_0, zf45_1, zf45_2, zf45_3, zf45_4, zf45_5, zf45_6, zq8_0, zq8_1, zq8_2, zq8_3, zq8_4, zq8_5, zq8_6, zq8_7, zq8_8, zq8_9, zq8_10, zq8_11, zq15_0, zq15_1, zq45_0, zq45_1, zq45_2, zq45_3, zq45_4, zq45_5, zq45_6, zp8_1, zp8_3, zp8_5, zp8_10, zp8_11, zp15_1, zp45_0, zp45_1, zp45_2, zp45_3, zp45_4, zp45_5, zp45_6, zo8, zo15, zo45, za11, zn11, zi11, zl11, z_nin h (by omega), ck_at h2 hc, h2, c103 h2, c104 h2, f1, f2, f4, eu, zb_0, z_ex, Option.toList_some, Option.toList_none, List.cons_append, List.nil_append, true_and, and_self, z_n7, reduceCtorEq, ne_eq, Nat.reduceEqDiff, not_false_eq_true, not_true_eq_false, decide_true, Nat.reduceLeDiff, z_8, nI_1, h3]
        · simp only [x85_0, x85_1, x85_3, x85_5, x85_8, x85_9, x85_12, x85_13, x85_14, x85_15, x85_17, x85_18, x85_22, x85_24, x85_27, x85_28, x85_30, x85_31, x85_33, x85_35, x85_38, x85_89, x85_92, x85_41, x85_43, x85_46, x85_47, x85_50, x85_52, x85_53, x85_56, x85_59, x85_62, x85_64, x85_67, x85_68, x85_71, x85_72, x85_75, x85_77, x85_80, x85_83, x85_86, x85_95, z_l60 h, if_true, if_false, zf8_0, zf8_1, zf8_2, zf8_3, zf8_4, zf8_5, zf8_6, zf8_7, zf8_8, zf8_9, zf8_10, zf8_11, zf15_0, zf15_1, zf45_0, zf45_1, zf45_2, zf45_3, zf45_4, zf45_5, zf45_6, zq8_0, zq8_1, zq8_2, zq8_3, zq8_4, zq8_5, zq8_6, zq8_7, zq8_8, zq8_9, zq8_10, zq8_11, zq15_0, zq15_1, zq45_0, zq45_1, zq45_2, zq45_3, zq45_4, zq45_5, zq45_6, zp8_1, zp8_3, zp8_5, zp8_10, zp8_11, zp15_1, zp45_0, zp45_1, zp45_2, zp45_3, zp45_4, zp45_5, zp45_6, zo8, zo15, zo45, za11, zn11, zi11, zl11, z_nin h (by omega), ck_at h2 hc, h2, c103 h2, f1, f2, eu, zb_0, z_ex, Option.toList_some, Option.toList_none, List.cons_append, List.nil_append, true_and, z_n7, reduceCtorEq, ne_eq, Nat.reduceEqDiff, not_false_eq_true, not_true_eq_false, decide_true, Nat.reduceLeDiff, z_8, nI_1, h3]
      · simp only [x85_0, x85_1, x85_3, x85_5, x85_8, x85_9, x85_12, x85_13, x85_14, x85_15, x85_17, x85_18, x85_22, x85_24, x85_27, x85_28, x85_30, x85_31, x85_33, x85_35, x85_38, x85_89, x85_92, x85_41, x85_43, x85_46, x85_47, x85_50, x85_52, x85_53, x85_56, x85_59, x85_62, x85_64, x85_67, x85_68, x85_71, x85_72, x85_75, x85_77, x85_80, x85_83, x85_86, x85_95, z_l60 h, if_true, if_false, zf8_0, zf8_1, zf8_2, zf8_3, zf8_4, zf8_5, zf8_6, zf8_7, zf8_8, zf8_9, zf8_10, zf8_11, zf15_0, zf15_1, zf45_0, zf45_1, zf45_2, zf45_3, zf45_4, zf45_5, zf45_6, zq8_0, zq8_1, zq8_2, zq8_3, zq8_4, zq8_5, zq8_6, zq8_7, zq8_8, zq8_9, zq8_10, zq8_11, zq15_0, zq15_1, zq45_0, zq45_1, zq45_2, zq45_3, zq45_4, zq45_5, zq45_6, zp8_1, zp8_3, zp8_5, zp8_10, zp8_11, zp15_1, zp45_0, zp45_1, zp45_2, zp45_3, zp45_4, zp45_5, zp45_6, zo8, zo15, zo45, za11, zn11, zi11, zl11, z_nin h (by omega), ck_at h2 hc, h2, f1, eu, true_and, z_n7, reduceCtorEq, ne_eq, Nat.reduceEqDiff, not_false_eq_true, not_true_eq_false, decide_true, Nat.reduceLeDiff, z_8, nI_1, h3]
theorem zGl_mono {C : Nat → Nat → Int32} {v u : Int32} {n : Nat} : ∀ (k g : Nat), (zGl C v u n g).length ≤ (zGl C v u n (g + k)).length := by
  intro k
  induction k with
  | zero => intro g; exact Nat.le_refl _
  | succ k ih =>
    intro g
    refine Nat.le_trans (ih g) ?_
    rw [show g + (k + 1) = (g + k) + 1 from rfl, zGl, List.length_append]
    omega
theorem l_noteG {d : Nat} {v u : Int32} {l : List Nat} (hc : G.2.2.2.1 ≤ 60) (hu : σ 8 0 11 = u) (hN : ∀ c, c < G.2.2.2.1 → σ 45 c 0 = nI c) (hB : l.length + (zGl (σ 45) v u G.2.2.2.1 8).length ≤ 60) :
    ∀ (k g : Nat), g + k = 8 → ∀ (l3 l4 l5 l6 : Option zmV), zm_E (zm_Calls (d + 1)) 85 2 [some (.inr (.inr (some (8, 0)))), some (.inl v), some (.inl (nI g)), l3, l4, l5, l6] [] (zh G (zNt σ (l ++ zGl (σ 45) v u G.2.2.2.1 g))) o ↔ o = (none, zh G (zNt σ (l ++ zGl (σ 45) v u G.2.2.2.1 8))) := by
  intro k
  induction k with
  | zero =>
    intro g hg l3 l4 l5 l6
    have hg : g = 8 := by omega
    subst hg
    rw [x85_2]
    simp only [x85_3, x85_5, x85_95, show (7 : Int32) < nI 8 from by decide, if_true]
  | succ k ih =>
    intro g hg l3 l4 l5 l6
    have hg7 : ¬ (7 : Int32) < nI g := fun q => by
      have := (nI_ltI (a := 7) (b := g) (by omega) (by omega)).mp q
      omega
    have hm := zGl_mono (C := σ 45) (v := v) (u := u) (n := G.2.2.2.1) k (g + 1)
    rw [show g + 1 + k = 8 by omega, zGl, List.length_append] at hm
    have hi := l_noteI (G := G) (σ := σ) (o := o) (d := d) (v := v) (g := nI g) (u := u) (l := l ++ zGl (σ 45) v u G.2.2.2.1 g) (Q := o = (none, zh G (zNt σ (l ++ zGl (σ 45) v u G.2.2.2.1 8)))) hc hu hN (by rw [List.length_append]; omega) (fun l5 l6 => by
      have h3 := ih (g + 1) (by omega) (some (.inr (.inr (some (11, 0))))) (some (.inl 60)) l5 l6
      rw [zGl, ← List.append_assoc] at h3
      simp only [x85_89, x85_92, nI_1, h3]) G.2.2.2.1 0 (by omega) l6
    simp only [List.range_zero, List.filter_nil, List.append_nil, nI_0] at hi
    rw [x85_2]
    simp only [x85_3, x85_5, x85_8, x85_9, x85_12, x85_13, x85_14, x85_15, x85_17, x85_18, hg7, if_false, zf8_0, zf8_1, zf8_2, zf8_3, zf8_4, zf8_5, zf8_6, zf8_7, zf8_8, zf8_9, zf8_10, zf8_11, zq8_0, zq8_1, zq8_2, zq8_3, zq8_4, zq8_5, zq8_6, zq8_7, zq8_8, zq8_9, zq8_10, zq8_11, zp8_1, zp8_3, zp8_5, zp8_10, zp8_11, zo8, za11, zn11, zi11, zl11, true_and, hi]
theorem c85 {d : Nat} {v u : Int32} {l : List Nat} (hc : G.2.2.2.1 ≤ 60) (hu : σ 8 0 11 = u) (hN : ∀ c, c < G.2.2.2.1 → σ 45 c 0 = nI c) (hB : l.length + (zGl (σ 45) v u G.2.2.2.1 8).length ≤ 60) : zm_Calls (d + 2) 85 [.inr (.inr (some (8, 0))), .inl v] (zh G (zNt σ l)) o ↔ o = (none, zh G (zNt σ (l ++ zGl (σ 45) v u G.2.2.2.1 8))) := by
  have h := l_noteG (G := G) (σ := σ) (o := o) (d := d) (v := v) (u := u) (l := l) hc hu hN hB 8 0 (by omega) none none none none
  rw [show zGl (σ 45) v u G.2.2.2.1 0 = [] from rfl, List.append_nil, nI_0] at h
  simp only [i85, x85_0, x85_1, h]
end ZL6
