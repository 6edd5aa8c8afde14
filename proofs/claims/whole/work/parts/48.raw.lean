def zGt (G : zG) : zG := (G.1, (G.2.1.1 + 2, G.2.1.2 + 6), (G.2.2.1, G.2.2.2.1, G.2.2.2.2 + 1))
def zSt (σ : zR) (p t : Nat) : zR := zw (zcp (zw σ 38 t 0 (σ 37 p 0)) 46 t 42 p) 8 0 5 (nI (t + 1))
set_option maxRecDepth 3000 in
set_option maxHeartbeats 400000 in
theorem zc_of {G H : zG} {s : Nat} (h8 : 8 ≤ s) (h : (zcL H).getD (s - 8) (fun _ _ => none) = (zcL G).getD (s - 8) (fun _ _ => none)) : zc H s = zc G s := by
  funext i r
  unfold zc
  rw [h]
set_option maxRecDepth 3000 in
set_option maxHeartbeats 400000 in
theorem zcp_off2 {σ : zR} {s i t j a b : Nat} (h : ¬ (a = s ∧ b = i)) : zcp σ s i t j a b = σ a b := by
  unfold zcp
  rw [zw_off _ _ _ _ _ _ _ h, zw_off _ _ _ _ _ _ _ h, zw_off _ _ _ _ _ _ _ h, zw_off _ _ _ _ _ _ _ h]
set_option maxRecDepth 3000 in
set_option maxHeartbeats 400000 in
theorem zSt_off {σ : zR} {p t s i : Nat} (h1 : ¬ (s = 8 ∧ i = 0)) (h2 : ¬ (s = 46 ∧ i = t)) (h3 : ¬ (s = 38 ∧ i = t)) : zSt σ p t s i = σ s i := by
  unfold zSt
  rw [zw_off _ _ _ _ _ _ _ h1, zcp_off2 h2, zw_off _ _ _ _ _ _ _ h3]
set_option maxRecDepth 3000 in
set_option maxHeartbeats 400000 in
theorem va_up_fill {k : Nat} {s : Nat} : va_up (fun j => if j < k then some ((s, j) : zmK) else none) k (some (s, k)) = fun j => if j < k + 1 then some (s, j) else none := by
  funext j
  unfold va_up
  by_cases h : j = k
  · subst h
    rw [if_pos rfl, if_pos (by omega)]
  · rw [if_neg h]
    by_cases h2 : j < k
    · rw [if_pos (show j < k + 1 by omega)]
      exact if_pos h2
    · rw [if_neg (show ¬ j < k + 1 by omega)]
      exact if_neg h2
set_option maxRecDepth 3000 in
set_option maxHeartbeats 400000 in
theorem zh_tag {G : zG} {σ : zR} {p : Nat} : zm_set (zm_set (zm_set (zm_set (zm_new (zm_new (zh G σ) 38 (.inr (6, [.inl 0, .inr (.inr none)])) 2) 46 (.inr (7, [.inl 0, .inl 0, .inl 0, .inl 0])) 4) (38, G.2.2.2.2) (.inr (6, [.inl (σ 37 p 0), .inr (.inr (some (46, G.2.2.2.2)))]))) (46, G.2.2.2.2) (.inr (7, [.inl (σ 42 p 0), .inl (σ 42 p 1), .inl (σ 42 p 2), .inl (σ 42 p 3)]))) (12, 0) (.inl (.object "BumpNotes$Tag", 100, .inr (va_up (fun j => if j < G.2.2.2.2 then some (38, j) else none) G.2.2.2.2 (some (38, G.2.2.2.2)))))) (8, 0) (.inr (0, [.inr (.inr (some (10, 0))), .inl (σ 8 0 1), .inr (.inr (some (11, 0))), .inl (σ 8 0 3), .inr (.inr (some (12, 0))), .inl (nI (G.2.2.2.2 + 1)), .inr (.inr (some (13, 0))), .inr (.inr (some (14, 0))), .inr (.inr (some (15, 0))), .inr (.inr (some (16, 0))), .inl (σ 8 0 10), .inl (σ 8 0 11)])) = zh (zGt G) (zSt σ p G.2.2.2.2) := by
  refine zh_eq rfl (fun s => ?_) (fun s i h8 => ?_) (fun k hk => ?_)
  · show (if s = 46 then (if (46 : Nat) = 38 then zn G 38 + 1 else zn G 46) + 1 else if s = 38 then zn G 38 + 1 else zn G s) = zn (zGt G) s
    by_cases h1 : s = 46
    · subst h1; rfl
    · rw [if_neg h1]
      by_cases h2 : s = 38
      · subst h2; rfl
      · rw [if_neg h2]
        unfold zn zGt
        dsimp only
        by_cases a1 : s = 37 ∨ (41 ≤ s ∧ s ≤ 44)
        · rw [if_pos a1, if_pos a1]
        · rw [if_neg a1, if_neg a1, if_neg (show ¬ (s = 38 ∨ s = 46) by omega), if_neg (show ¬ (s = 38 ∨ s = 46) by omega)]
  · simp only [zm_get_set, zm_get_new, zr_cn, zh_n, zn_38, zn_46, Nat.reduceEqDiff, if_false, Prod.mk.injEq]
    by_cases h1 : s = 8 ∧ i = 0
    · obtain ⟨rfl, rfl⟩ := h1
      rfl
    · rw [if_neg h1]
      by_cases h2 : s = 12 ∧ i = 0
      · obtain ⟨rfl, rfl⟩ := h2
        rw [if_pos ⟨rfl, rfl⟩, va_up_fill]
        rfl
      · rw [if_neg h2]
        by_cases h3 : s = 46 ∧ i = G.2.2.2.2
        · obtain ⟨rfl, rfl⟩ := h3
          rw [if_pos ⟨rfl, rfl⟩]
          symm
          refine (if_pos (show G.2.2.2.2 < G.2.2.2.2 + 1 by omega)).trans ?_
          unfold zSt zcp
          simp only [zw_ap, and_self, if_true, Nat.reduceEqDiff, false_and, and_false, if_false]
        · rw [if_neg h3]
          by_cases h4 : s = 38 ∧ i = G.2.2.2.2
          · obtain ⟨rfl, rfl⟩ := h4
            rw [if_pos ⟨rfl, rfl⟩]
            symm
            refine (if_pos (show G.2.2.2.2 < G.2.2.2.2 + 1 by omega)).trans ?_
            unfold zSt
            simp only [zw_ap, zcp_off (show ¬ 38 = 46 by decide), and_self, if_true, Nat.reduceEqDiff, false_and, and_false, if_false]
          · rw [if_neg h4, if_neg h3, if_neg h4, zh_get G σ s i h8, zSt_off h1 h3 h4]
            by_cases e12 : s = 12
            · subst e12
              have hi : ¬ i = 0 := fun q => h2 ⟨rfl, q⟩
              exact (if_neg hi).trans (if_neg hi).symm
            · by_cases e38 : s = 38
              · subst e38
                have hi : ¬ i = G.2.2.2.2 := fun q => h4 ⟨rfl, q⟩
                show zc38 G i (σ 38 i) = zc38 (zGt G) i (σ 38 i)
                unfold zc38 zGt
                dsimp only
                by_cases hl : i < G.2.2.2.2
                · rw [if_pos hl, if_pos (by omega)]
                · rw [if_neg hl, if_neg (by omega)]
              · by_cases e46 : s = 46
                · subst e46
                  have hi : ¬ i = G.2.2.2.2 := fun q => h3 ⟨rfl, q⟩
                  show zc46 G i (σ 46 i) = zc46 (zGt G) i (σ 46 i)
                  unfold zc46 zGt
                  dsimp only
                  by_cases hl : i < G.2.2.2.2
                  · rw [if_pos hl, if_pos (by omega)]
                  · rw [if_neg hl, if_neg (by omega)]
                · rw [zc_of h8 (zc_tag (G := G) (H := zGt G) rfl rfl trivial (s - 8) (by omega) (by omega) (by omega))]
  · obtain ⟨k1, k2⟩ := k
    have hk : k1 < 8 := hk
    simp only [zm_get_set, zm_get_new, Prod.mk.injEq]
    rw [if_neg (fun q => by omega), if_neg (fun q => by omega), if_neg (fun q => by omega), if_neg (fun q => by omega), if_neg (fun q => by omega), if_neg (fun q => by omega)]
    exact zro_get hk
section ZWT
variable {G : zG} {σ : zR} {o : zmO}
set_option maxRecDepth 3000 in
set_option maxHeartbeats 400000 in
theorem b_tag_out {d : Nat} {v : Int32} (hv : ¬ vp_in v G.2.2.1) : zm_Calls (d + 4) 33 [.inr (.inr (some (8, 0))), .inl v] (zh G σ) o ↔ o = (some (.inl (-1)), zh G σ) := by
  simp only [↓reduceIte, true_and, and_true, zf_i, zf_0, zf_1, zb_fit, z_ex, Option.toList_some, Option.toList_none, List.cons_append, List.nil_append, zb_0, z_ie, z_iv, z_ih, z_iz, z_izn, z_i2, z_ia, z_io, z_ina, z_8, Classical.not_not, i33, x33_0, x33_1, x33_2, x33_5, x33_6, x33_7, x33_10, x33_11, x33_12, x33_13, x33_14, x33_17, x33_20, x33_21, x33_22, x33_23, x33_26, x33_27, x33_30, x33_31, x33_34, x33_35, x33_36, x33_37, x33_40, x33_41, x33_44, x33_47, x33_48, x33_49, x33_52, x33_53, x33_54, x33_55, x33_58, x33_59, x33_60, x33_63, x33_64, zf8_0, zf8_1, zf8_2, zf8_3, zf8_4, zf8_5, zf8_6, zf8_7, zf8_8, zf8_9, zf8_10, zf8_11, zq8_0, zq8_1, zq8_2, zq8_3, zq8_4, zq8_5, zq8_6, zq8_7, zq8_8, zq8_9, zq8_10, zq8_11, zp8_1, zp8_3, zp8_5, zp8_10, zp8_11, zo8, packAt_out hv, z_n70]
set_option maxRecDepth 3000 in
set_option maxHeartbeats 400000 in
theorem b_tag_0 {d p : Nat} (hp : p < G.2.2.1) (hn : G.2.2.1 ≤ 10) (ht : G.2.2.2.2 ≤ 100) (hy : ∃ t, t < G.2.2.2.2 ∧ zTg σ p t) : zm_Calls (d + 4) 33 [.inr (.inr (some (8, 0))), .inl (nI p)] (zh G σ) o ↔ o = (some (.inl 0), zh G σ) := by
  simp only [↓reduceIte, true_and, and_true, zf_i, zf_0, zf_1, zb_fit, z_ex, Option.toList_some, Option.toList_none, List.cons_append, List.nil_append, zb_0, z_ie, z_iv, z_ih, z_iz, z_izn, z_i2, z_ia, z_io, z_ina, z_8, Classical.not_not, i33, x33_0, x33_1, x33_2, x33_5, x33_6, x33_7, x33_10, x33_11, x33_12, x33_13, x33_14, x33_17, x33_20, x33_21, x33_22, x33_23, x33_26, x33_27, x33_30, x33_31, x33_34, x33_35, x33_36, x33_37, x33_40, x33_41, x33_44, x33_47, x33_48, x33_49, x33_52, x33_53, x33_54, x33_55, x33_58, x33_59, x33_60, x33_63, x33_64, zf8_0, zf8_1, zf8_2, zf8_3, zf8_4, zf8_5, zf8_6, zf8_7, zf8_8, zf8_9, zf8_10, zf8_11, zq8_0, zq8_1, zq8_2, zq8_3, zq8_4, zq8_5, zq8_6, zq8_7, zq8_8, zq8_9, zq8_10, zq8_11, zp8_1, zp8_3, zp8_5, zp8_10, zp8_11, zo8, packAt_in hp hn, z_n7, reduceCtorEq, ne_eq, Nat.reduceEqDiff, not_false_eq_true, decide_true, c66 hp ht, zbc_t hy, z_10]
set_option maxRecDepth 3000 in
set_option maxHeartbeats 400000 in
theorem b_tag_full {d p : Nat} (hp : p < G.2.2.1) (hn : G.2.2.1 ≤ 10) (ht : G.2.2.2.2 = 100) (hx : σ 8 0 5 = nI G.2.2.2.2) (hy : ¬ ∃ t, t < G.2.2.2.2 ∧ zTg σ p t) : zm_Calls (d + 4) 33 [.inr (.inr (some (8, 0))), .inl (nI p)] (zh G σ) o ↔ o = (some (.inl (-1)), zh G σ) := by
  have h1 : ¬ nI G.2.2.2.2 < 100 := by rw [ht]; decide
  simp only [↓reduceIte, true_and, and_true, zf_i, zf_0, zf_1, zb_fit, z_ex, Option.toList_some, Option.toList_none, List.cons_append, List.nil_append, zb_0, z_ie, z_iv, z_ih, z_iz, z_izn, z_i2, z_ia, z_io, z_ina, z_8, Classical.not_not, i33, x33_0, x33_1, x33_2, x33_5, x33_6, x33_7, x33_10, x33_11, x33_12, x33_13, x33_14, x33_17, x33_20, x33_21, x33_22, x33_23, x33_26, x33_27, x33_30, x33_31, x33_34, x33_35, x33_36, x33_37, x33_40, x33_41, x33_44, x33_47, x33_48, x33_49, x33_52, x33_53, x33_54, x33_55, x33_58, x33_59, x33_60, x33_63, x33_64, zf8_0, zf8_1, zf8_2, zf8_3, zf8_4, zf8_5, zf8_6, zf8_7, zf8_8, zf8_9, zf8_10, zf8_11, zq8_0, zq8_1, zq8_2, zq8_3, zq8_4, zq8_5, zq8_6, zq8_7, zq8_8, zq8_9, zq8_10, zq8_11, zp8_1, zp8_3, zp8_5, zp8_10, zp8_11, zo8, za12, zn12, zi12, zl12, packAt_in hp hn, z_n7, reduceCtorEq, ne_eq, Nat.reduceEqDiff, not_false_eq_true, decide_true, c66 hp (by omega : G.2.2.2.2 ≤ 100), zbc_f hy, hx, h1]
set_option maxRecDepth 3000 in
set_option maxHeartbeats 400000 in
theorem b_tag_1 {d p : Nat} (hp : p < G.2.2.1) (hn : G.2.2.1 ≤ 10) (ht : G.2.2.2.2 < 100) (hx : σ 8 0 5 = nI G.2.2.2.2) (hy : ¬ ∃ t, t < G.2.2.2.2 ∧ zTg σ p t) : zm_Calls (d + 4) 33 [.inr (.inr (some (8, 0))), .inl (nI p)] (zh G σ) o ↔ o = (some (.inl 1), zh (zGt G) (zSt σ p G.2.2.2.2)) := by
  have h1 : nI G.2.2.2.2 < 100 := z_l100 ht
  have ti := fun o => c67 (d := d + 1) (p := p) (h := zm_new (zh G σ) 38 (.inr (6, [.inl 0, .inr (.inr none)])) 2) (r := (38, G.2.2.2.2)) (o := o) zr_ng rfl (by rw [zr_nn (zr_k (by simp))]; exact zg37 hp) (by rw [zr_nn (zr_k (by simp))]; exact zg42 hp) (by rw [zr_nn (zr_k (by simp))]; exact no46)
  have e46 : (zm_new (zh G σ) 38 (.inr (6, [.inl 0, .inr (.inr none)])) 2).2.1 46 = G.2.2.2.2 := rfl
  simp only [e46] at ti
  have g12 : zm_get (zh G σ) (12, 0) = some (.inl (.object "BumpNotes$Tag", 100, .inr fun j => if j < G.2.2.2.2 then some (38, j) else none)) := rfl
  have v2 : (nI G.2.2.2.2).toNatClampNeg = G.2.2.2.2 := z_cl (by omega)
  have v1 : ¬ (nI G.2.2.2.2 < 0 ∨ 100 ≤ G.2.2.2.2) := by
    have := z_nin ht (by omega : 100 ≤ 1000)
    unfold vp_in at this
    rwa [v2] at this
  rw [← zh_tag]
  simp only [↓reduceIte, true_and, and_true, zf_i, zf_0, zf_1, zb_fit, z_ex, Option.toList_some, Option.toList_none, List.cons_append, List.nil_append, zb_0, z_ie, z_iv, z_ih, z_iz, z_izn, z_i2, z_ia, z_io, z_ina, z_8, Classical.not_not, i33, x33_0, x33_1, x33_2, x33_5, x33_6, x33_7, x33_10, x33_11, x33_12, x33_13, x33_14, x33_17, x33_20, x33_21, x33_22, x33_23, x33_26, x33_27, x33_30, x33_31, x33_34, x33_35, x33_36, x33_37, x33_40, x33_41, x33_44, x33_47, x33_48, x33_49, x33_52, x33_53, x33_54, x33_55, x33_58, x33_59, x33_60, x33_63, x33_64, zf8_0, zf8_1, zf8_2, zf8_3, zf8_4, zf8_5, zf8_6, zf8_7, zf8_8, zf8_9, zf8_10, zf8_11, zq8_0, zq8_1, zq8_2, zq8_3, zq8_4, zq8_5, zq8_6, zq8_7, zq8_8, zq8_9, zq8_10, zq8_11, zp8_1, zp8_3, zp8_5, zp8_10, zp8_11, zo8, za12, zn12, zi12, zl12, packAt_in hp hn, z_n7, reduceCtorEq, ne_eq, Nat.reduceEqDiff, not_false_eq_true, decide_true, c66 hp (by omega : G.2.2.2.2 ≤ 100), zbc_f hy, hx, h1, zr_fr (show 8 ≤ 38 by decide) (no38 (G := G) (σ := σ)), zh_n, zn_38, ti, zm_inQ, zm_okQ, zm_stQ, zm_isF, zm_getF, zm_putF, zm_get_set, zm_get_new, zr_n1, zr_cn, g12, zg8, v1, v2, Prod.mk.injEq, false_and, and_false, and_self, show (100 : Nat) < 2147483648 from by decide, show zt_cn 6 = "BumpNotes$Tag" from rfl, Bool.and_self, List.length_cons, List.length_nil, Nat.reduceAdd, Nat.reduceLT, beq_self_eq_true, List.set_cons_zero, List.set_cons_succ, List.getD_cons_zero, List.getD_cons_succ, Nat.reduceLeDiff, nI_1]
end ZWT
