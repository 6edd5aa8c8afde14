set_option maxRecDepth 3000 in
set_option maxHeartbeats 400000 in
theorem zh_pack {G : zG} {σ : zR} {x y z : Int32} : zm_set (zm_set (zm_set (zm_set (zm_set (zm_new (zm_set (zm_set (zm_new (zm_set (zm_set (zm_new (zm_set (zm_new (zm_new (zh G σ) 37 (.inr (5, [.inl 0, .inr (.inr none), .inr (.inr none), .inr (.inr none), .inr (.inr none), .inl 0, .inl 0, .inl 0, .inl 0])) 9) 41 (.inl (.int, 10, .inl fun _ => 0)) 10) (37, G.2.2.1) (.inr (5, [.inl (nI G.2.2.1), .inr (.inr none), .inr (.inr none), .inr (.inr none), .inr (.inr (some (41, G.2.2.1))), .inl 0, .inl 0, .inl 0, .inl 0]))) 42 (.inr (7, [.inl 0, .inl 0, .inl 0, .inl 0])) 4) (42, G.2.2.1) (.inr (7, [.inl x, .inl y, .inl z, .inl 0]))) (37, G.2.2.1) (.inr (5, [.inl (nI G.2.2.1), .inr (.inr (some (42, G.2.2.1))), .inr (.inr none), .inr (.inr none), .inr (.inr (some (41, G.2.2.1))), .inl 0, .inl 0, .inl 0, .inl 0]))) 43 (.inr (7, [.inl 0, .inl 0, .inl 0, .inl 0])) 4) (43, G.2.2.1) (.inr (7, [.inl x, .inl y, .inl z, .inl 0]))) (37, G.2.2.1) (.inr (5, [.inl (nI G.2.2.1), .inr (.inr (some (42, G.2.2.1))), .inr (.inr (some (43, G.2.2.1))), .inr (.inr none), .inr (.inr (some (41, G.2.2.1))), .inl 0, .inl 0, .inl 0, .inl 0]))) 44 (.inr (7, [.inl 0, .inl 0, .inl 0, .inl 0])) 4) (44, G.2.2.1) (.inr (7, [.inl x, .inl y, .inl z, .inl 0]))) (37, G.2.2.1) (.inr (5, [.inl (nI G.2.2.1), .inr (.inr (some (42, G.2.2.1))), .inr (.inr (some (43, G.2.2.1))), .inr (.inr (some (44, G.2.2.1))), .inr (.inr (some (41, G.2.2.1))), .inl 0, .inl 0, .inl 0, .inl 0]))) (41, G.2.2.1) (.inl (.int, 10, .inl (zfl (fun _ => 0) 3 10)))) (10, 0) (.inl (.object "BumpNotes$Pack", 10, .inr (va_up (fun j => if j < G.2.2.1 then some (37, j) else none) G.2.2.1 (some (37, G.2.2.1)))))) (8, 0) (.inr (0, [.inr (.inr (some (10, 0))), .inl (nI (G.2.2.1 + 1)), .inr (.inr (some (11, 0))), .inl (σ 8 0 3), .inr (.inr (some (12, 0))), .inl (σ 8 0 5), .inr (.inr (some (13, 0))), .inr (.inr (some (14, 0))), .inr (.inr (some (15, 0))), .inr (.inr (some (16, 0))), .inl (σ 8 0 10), .inl (σ 8 0 11)])) = zh (zGp G) (zSp σ x y z G.2.2.1) := by
  refine zh_eq rfl (fun s => ?_) (fun s i h8 => ?_) (fun k hk => ?_)
  · show (if s = 44 then (if (44 : Nat) = 43 then zn G 43 + 1 else if (44 : Nat) = 42 then zn G 42 + 1 else if (44 : Nat) = 41 then zn G 41 + 1 else if (44 : Nat) = 37 then zn G 37 + 1 else zn G 44) + 1 else if s = 43 then (if (43 : Nat) = 42 then zn G 42 + 1 else if (43 : Nat) = 41 then zn G 41 + 1 else if (43 : Nat) = 37 then zn G 37 + 1 else zn G 43) + 1 else if s = 42 then (if (42 : Nat) = 41 then zn G 41 + 1 else if (42 : Nat) = 37 then zn G 37 + 1 else zn G 42) + 1 else if s = 41 then (if (41 : Nat) = 37 then zn G 37 + 1 else zn G 41) + 1 else if s = 37 then zn G 37 + 1 else zn G s) = zn (zGp G) s
    by_cases h1 : s = 44
    · subst h1; rfl
    · by_cases h2 : s = 43
      · subst h2; rfl
      · by_cases h3 : s = 42
        · subst h3; rfl
        · by_cases h4 : s = 41
          · subst h4; rfl
          · by_cases h5 : s = 37
            · subst h5; rfl
            · rw [if_neg h1, if_neg h2, if_neg h3, if_neg h4, if_neg h5]
              unfold zn zGp
              dsimp only
              have a1 : ¬ (s = 37 ∨ (41 ≤ s ∧ s ≤ 44)) := by omega
              rw [if_neg a1, if_neg a1]
  · simp only [zm_get_set, zm_get_new, zr_cn, zr_n1, zh_n, zn_37, zn_41, zn_42, zn_43, zn_44, Nat.reduceEqDiff, if_false, Prod.mk.injEq]
    by_cases h1 : s = 8 ∧ i = 0
    · obtain ⟨rfl, rfl⟩ := h1
      rfl
    · rw [if_neg h1]
      by_cases h2 : s = 10 ∧ i = 0
      · obtain ⟨rfl, rfl⟩ := h2
        rw [if_pos ⟨rfl, rfl⟩, va_up_fill]
        rfl
      · rw [if_neg h2]
        have hlt : G.2.2.1 < G.2.2.1 + 1 := Nat.lt_succ_self _
        by_cases h3 : s = 41 ∧ i = G.2.2.1
        · obtain ⟨rfl, rfl⟩ := h3
          rw [if_pos ⟨rfl, rfl⟩]
          symm
          refine (if_pos hlt).trans ?_
          have e : zSp σ x y z G.2.2.1 41 G.2.2.1 = zfl (fun _ => 0) 3 10 := by
            funext f
            unfold zSp
            simp
          rw [e]
        · rw [if_neg h3]
          by_cases h4 : s = 37 ∧ i = G.2.2.1
          · obtain ⟨rfl, rfl⟩ := h4
            rw [if_pos ⟨rfl, rfl⟩]
            symm
            refine (if_pos hlt).trans ?_
            unfold zSp
            simp
          · simp only [if_neg h4]
            by_cases h5 : s = 44 ∧ i = G.2.2.1
            · obtain ⟨rfl, rfl⟩ := h5
              rw [if_pos ⟨rfl, rfl⟩]
              symm
              refine (if_pos hlt).trans ?_
              unfold zSp
              simp
            · simp only [if_neg h5]
              by_cases h6 : s = 43 ∧ i = G.2.2.1
              · obtain ⟨rfl, rfl⟩ := h6
                rw [if_pos ⟨rfl, rfl⟩]
                symm
                refine (if_pos hlt).trans ?_
                unfold zSp
                simp
              · simp only [if_neg h6]
                by_cases h7 : s = 42 ∧ i = G.2.2.1
                · obtain ⟨rfl, rfl⟩ := h7
                  rw [if_pos ⟨rfl, rfl⟩]
                  symm
                  refine (if_pos hlt).trans ?_
                  unfold zSp
                  simp
                · simp only [if_neg h7, if_neg h3]
                  rw [zh_get G σ s i h8, zSp_off h1 (by omega)]
                  by_cases e10 : s = 10
                  · subst e10
                    have hi : ¬ i = 0 := fun q => h2 ⟨rfl, q⟩
                    exact (if_neg hi).trans (if_neg hi).symm
                  · by_cases es : s = 37 ∨ s = 41 ∨ s = 42 ∨ s = 43 ∨ s = 44
                    · have hi : ¬ i = G.2.2.1 := by omega
                      have hb : i < G.2.2.1 + 1 ↔ i < G.2.2.1 := by omega
                      rcases es with rfl | rfl | rfl | rfl | rfl
                      · show zc37 G i (σ 37 i) = zc37 (zGp G) i (σ 37 i)
                        unfold zc37 zGp
                        simp only [hb]
                      · show zc41 G i (σ 41 i) = zc41 (zGp G) i (σ 41 i)
                        unfold zc41 zGp
                        simp only [hb]
                      · show zc42 G i (σ 42 i) = zc42 (zGp G) i (σ 42 i)
                        unfold zc42 zGp
                        simp only [hb]
                      · show zc43 G i (σ 43 i) = zc43 (zGp G) i (σ 43 i)
                        unfold zc43 zGp
                        simp only [hb]
                      · show zc44 G i (σ 44 i) = zc44 (zGp G) i (σ 44 i)
                        unfold zc44 zGp
                        simp only [hb]
                    · rw [zc_of h8 (zc_pack (G := G) (H := zGp G) rfl rfl trivial (s - 8) (by omega) (by omega) (by omega) (by omega) (by omega) (by omega))]
  · obtain ⟨k1, k2⟩ := k
    have hk : k1 < 8 := hk
    simp only [zm_get_set, zm_get_new, Prod.mk.injEq]
    have e : ∀ a b : Nat, 8 ≤ a → ¬ (k1 = a ∧ k2 = b) := fun a b ha q => by omega
    simp only [if_neg (e 8 _ (by decide)), if_neg (e 10 _ (by decide)), if_neg (e 41 _ (by decide)), if_neg (e 37 _ (by decide)), if_neg (e 44 _ (by decide)), if_neg (e 43 _ (by decide)), if_neg (e 42 _ (by decide))]
    exact zro_get hk
section ZWP
variable {G : zG} {σ : zR} {o : zmO}
set_option maxRecDepth 3000 in
set_option maxHeartbeats 400000 in
theorem b_pack_1 {d : Nat} {x y z : Int32} (hn : G.2.2.1 < 10) (hx : σ 8 0 1 = nI G.2.2.1) (cx : ¬ x < 0 ∧ ¬ 99 < x) (cy : ¬ y < 0 ∧ ¬ 99 < y) (cz : ¬ z < 0 ∧ ¬ 99 < z) : zm_Calls (d + 3) 3 [.inr (.inr (some (8, 0))), .inl x, .inl y, .inl z] (zh G σ) o ↔ o = (some (.inl (nI G.2.2.1)), zh (zGp G) (zSp σ x y z G.2.2.1)) := by
  have h1 : nI G.2.2.1 < 10 := z_l10 hn
  have pi := fun o => c39 (d := d) (m := G.2.2.1) (h := zm_new (zh G σ) 37 (.inr (5, [.inl 0, .inr (.inr none), .inr (.inr none), .inr (.inr none), .inr (.inr none), .inl 0, .inl 0, .inl 0, .inl 0])) 9) (n := nI G.2.2.1) (x := x) (y := y) (z := z) (o := o) zr_ng (by rw [zr_nn (zr_k (by simp))]; exact no41) (by rw [zr_nn (zr_k (by simp))]; exact no42) (by rw [zr_nn (zr_k (by simp))]; exact no43) (by rw [zr_nn (zr_k (by simp))]; exact no44)
  simp only [zr_cn, zh_n, zn_37, zn_41, zn_42, zn_43, zn_44, Nat.reduceEqDiff, if_false] at pi
  have g10 : zm_get (zh G σ) (10, 0) = some (.inl (.object "BumpNotes$Pack", 10, .inr fun j => if j < G.2.2.1 then some (37, j) else none)) := rfl
  have v2 : (nI G.2.2.1).toNatClampNeg = G.2.2.1 := z_cl (by omega)
  have v1 : ¬ (nI G.2.2.1 < 0 ∨ 10 ≤ G.2.2.1) := by
    have := z_nin hn (by omega : 10 ≤ 1000)
    unfold vp_in at this
    rwa [v2] at this
  rw [← zh_pack]
  simp only [↓reduceIte, true_and, and_true, zf_i, zf_0, zf_1, zb_fit, z_ex, Option.toList_some, Option.toList_none, List.cons_append, List.nil_append, zb_0, z_ie, z_iv, z_ih, z_iz, z_izn, z_i2, z_ia, z_io, z_ina, z_8, Classical.not_not, i3, x3_0, x3_1, x3_4, x3_5, x3_8, x3_9, x3_12, x3_13, x3_16, x3_19, x3_20, x3_23, x3_26, x3_27, x3_30, x3_33, x3_34, x3_35, x3_36, x3_39, x3_41, x3_42, x3_45, x3_47, x3_50, x3_51, x3_53, x3_54, x3_55, x3_56, x3_59, x3_60, x3_61, x3_62, x3_65, x3_66, x3_67, x3_70, x3_72, zf8_0, zf8_1, zf8_2, zf8_3, zf8_4, zf8_5, zf8_6, zf8_7, zf8_8, zf8_9, zf8_10, zf8_11, zq8_0, zq8_1, zq8_2, zq8_3, zq8_4, zq8_5, zq8_6, zq8_7, zq8_8, zq8_9, zq8_10, zq8_11, zp8_1, zp8_3, zp8_5, zp8_10, zp8_11, zo8, za10, zn10, zi10, zl10, c38, cx, cy, cz, hx, h1, not_true_eq_false, zr_fr (show 8 ≤ 37 by decide) (no37 (G := G) (σ := σ)), zh_n, zn_37, pi, zm_inQ, zm_okQ, zm_stQ, zm_isF, zm_getF, zm_putF, zm_get_set, zm_get_new, zr_n1, zr_cn, g10, zg8, v1, v2, Prod.mk.injEq, Nat.reduceEqDiff, false_and, and_false, and_self, show (10 : Nat) < 2147483648 from by decide, show zt_cn 5 = "BumpNotes$Pack" from rfl, Bool.and_self, List.length_cons, List.length_nil, Nat.reduceAdd, Nat.reduceLT, beq_self_eq_true, decide_true, not_false_eq_true, List.set_cons_zero, List.set_cons_succ, List.getD_cons_zero, List.getD_cons_succ, Nat.reduceLeDiff, nI_1]
set_option maxRecDepth 3000 in
set_option maxHeartbeats 400000 in
theorem b_pack_0 {d : Nat} {x y z : Int32} (hn : G.2.2.1 ≤ 10) (hx : σ 8 0 1 = nI G.2.2.1) (hc : G.2.2.1 = 10 ∨ ¬ (¬ x < 0 ∧ ¬ 99 < x) ∨ ¬ (¬ y < 0 ∧ ¬ 99 < y) ∨ ¬ (¬ z < 0 ∧ ¬ 99 < z)) : zm_Calls (d + 3) 3 [.inr (.inr (some (8, 0))), .inl x, .inl y, .inl z] (zh G σ) o ↔ o = (some (.inl (-1)), zh G σ) := by
  by_cases h0 : G.2.2.1 < 10
  · have h1 : nI G.2.2.1 < 10 := z_l10 h0
    by_cases cx : ¬ x < 0 ∧ ¬ 99 < x
    · by_cases cy : ¬ y < 0 ∧ ¬ 99 < y
      · have cz : ¬ (¬ z < 0 ∧ ¬ 99 < z) := by
          rcases hc with q | q | q | q
          · omega
          · exact absurd cx q
          · exact absurd cy q
          · exact q
        simp only [↓reduceIte, true_and, and_true, zf_i, zf_0, zf_1, zb_fit, z_ex, Option.toList_some, Option.toList_none, List.cons_append, List.nil_append, zb_0, z_ie, z_iv, z_ih, z_iz, z_izn, z_i2, z_ia, z_io, z_ina, z_8, Classical.not_not, i3, x3_0, x3_1, x3_4, x3_5, x3_8, x3_9, x3_12, x3_13, x3_16, x3_19, x3_20, x3_23, x3_26, x3_27, x3_30, x3_33, x3_34, x3_35, x3_36, x3_39, x3_41, x3_42, x3_45, x3_47, x3_50, x3_51, x3_53, x3_54, x3_55, x3_56, x3_59, x3_60, x3_61, x3_62, x3_65, x3_66, x3_67, x3_70, x3_72, zf8_0, zf8_1, zf8_2, zf8_3, zf8_4, zf8_5, zf8_6, zf8_7, zf8_8, zf8_9, zf8_10, zf8_11, zq8_0, zq8_1, zq8_2, zq8_3, zq8_4, zq8_5, zq8_6, zq8_7, zq8_8, zq8_9, zq8_10, zq8_11, zp8_1, zp8_3, zp8_5, zp8_10, zp8_11, zo8, za10, zn10, zi10, zl10, c38, cx, cy, cz, hx, h1, not_true_eq_false, not_false_eq_true, and_self]
      · simp only [↓reduceIte, true_and, and_true, zf_i, zf_0, zf_1, zb_fit, z_ex, Option.toList_some, Option.toList_none, List.cons_append, List.nil_append, zb_0, z_ie, z_iv, z_ih, z_iz, z_izn, z_i2, z_ia, z_io, z_ina, z_8, Classical.not_not, i3, x3_0, x3_1, x3_4, x3_5, x3_8, x3_9, x3_12, x3_13, x3_16, x3_19, x3_20, x3_23, x3_26, x3_27, x3_30, x3_33, x3_34, x3_35, x3_36, x3_39, x3_41, x3_42, x3_45, x3_47, x3_50, x3_51, x3_53, x3_54, x3_55, x3_56, x3_59, x3_60, x3_61, x3_62, x3_65, x3_66, x3_67, x3_70, x3_72, zf8_0, zf8_1, zf8_2, zf8_3, zf8_4, zf8_5, zf8_6, zf8_7, zf8_8, zf8_9, zf8_10, zf8_11, zq8_0, zq8_1, zq8_2, zq8_3, zq8_4, zq8_5, zq8_6, zq8_7, zq8_8, zq8_9, zq8_10, zq8_11, zp8_1, zp8_3, zp8_5, zp8_10, zp8_11, zo8, za10, zn10, zi10, zl10, c38, cx, cy, hx, h1, not_true_eq_false, not_false_eq_true, and_self]
    · simp only [↓reduceIte, true_and, and_true, zf_i, zf_0, zf_1, zb_fit, z_ex, Option.toList_some, Option.toList_none, List.cons_append, List.nil_append, zb_0, z_ie, z_iv, z_ih, z_iz, z_izn, z_i2, z_ia, z_io, z_ina, z_8, Classical.not_not, i3, x3_0, x3_1, x3_4, x3_5, x3_8, x3_9, x3_12, x3_13, x3_16, x3_19, x3_20, x3_23, x3_26, x3_27, x3_30, x3_33, x3_34, x3_35, x3_36, x3_39, x3_41, x3_42, x3_45, x3_47, x3_50, x3_51, x3_53, x3_54, x3_55, x3_56, x3_59, x3_60, x3_61, x3_62, x3_65, x3_66, x3_67, x3_70, x3_72, zf8_0, zf8_1, zf8_2, zf8_3, zf8_4, zf8_5, zf8_6, zf8_7, zf8_8, zf8_9, zf8_10, zf8_11, zq8_0, zq8_1, zq8_2, zq8_3, zq8_4, zq8_5, zq8_6, zq8_7, zq8_8, zq8_9, zq8_10, zq8_11, zp8_1, zp8_3, zp8_5, zp8_10, zp8_11, zo8, za10, zn10, zi10, zl10, c38, cx, hx, h1, not_true_eq_false, not_false_eq_true, and_self]
  · have h1 : ¬ nI G.2.2.1 < 10 := z_g10 h0 (by omega)
    simp only [↓reduceIte, true_and, and_true, zf_i, zf_0, zf_1, zb_fit, z_ex, Option.toList_some, Option.toList_none, List.cons_append, List.nil_append, zb_0, z_ie, z_iv, z_ih, z_iz, z_izn, z_i2, z_ia, z_io, z_ina, z_8, Classical.not_not, i3, x3_0, x3_1, x3_4, x3_5, x3_8, x3_9, x3_12, x3_13, x3_16, x3_19, x3_20, x3_23, x3_26, x3_27, x3_30, x3_33, x3_34, x3_35, x3_36, x3_39, x3_41, x3_42, x3_45, x3_47, x3_50, x3_51, x3_53, x3_54, x3_55, x3_56, x3_59, x3_60, x3_61, x3_62, x3_65, x3_66, x3_67, x3_70, x3_72, zf8_0, zf8_1, zf8_2, zf8_3, zf8_4, zf8_5, zf8_6, zf8_7, zf8_8, zf8_9, zf8_10, zf8_11, zq8_0, zq8_1, zq8_2, zq8_3, zq8_4, zq8_5, zq8_6, zq8_7, zq8_8, zq8_9, zq8_10, zq8_11, zp8_1, zp8_3, zp8_5, zp8_10, zp8_11, zo8, za10, zn10, zi10, zl10, hx, h1]
end ZWP
