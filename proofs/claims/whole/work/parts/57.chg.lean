section ZC1
variable {G : zG} {σ τ : zR} {o : zmO}
set_option maxRecDepth 3000 in
set_option maxHeartbeats 400000 in
theorem b_add_0 {d : Nat} {p : Int32} (hn : G.2.2.2.1 = 60) (hx : σ 8 0 3 = nI G.2.2.2.1) : zm_Calls (d + 8) 45 [.inr (.inr (some (8, 0))), .inl p] (zh G σ) o ↔ o = (some (.inl (-1)), zh G σ) := by
  rw [hn] at hx
  simp only [↓reduceIte, true_and, and_true, zf_i, zf_0, zf_1, zb_fit, z_ex, Option.toList_some, Option.toList_none, List.cons_append, List.nil_append, zb_0, z_ie, z_iv, z_ih, z_iz, z_izn, z_i2, z_ia, z_io, z_ina, z_8, Classical.not_not, i45, x45_0, x45_1, x45_4, x45_5, x45_8, x45_9, x45_12, x45_13, x45_14, x45_15, x45_18, x45_19, x45_20, x45_23, x45_24, x45_27, x45_28, x45_31, x45_34, x45_35, x45_38, x45_39, x45_42, x45_43, x45_44, x45_45, x45_46, x45_49, x45_52, x45_53, x45_54, x45_55, x45_58, x45_59, x45_60, x45_63, x45_64, zf8_0, zf8_1, zf8_2, zf8_3, zf8_4, zf8_5, zf8_6, zf8_7, zf8_8, zf8_9, zf8_10, zf8_11, zq8_0, zq8_1, zq8_2, zq8_3, zq8_4, zq8_5, zq8_6, zq8_7, zq8_8, zq8_9, zq8_10, zq8_11, zp8_1, zp8_3, zp8_5, zp8_10, zp8_11, zo8, za11, zn11, zi11, zl11, hx, show (nI 60 < 60) = False from eq_false (by decide)]
set_option maxRecDepth 3000 in
set_option maxHeartbeats 400000 in
theorem b_add_1 {d : Nat} {p : Int32} (hn : G.2.2.2.1 < 60) (hx : σ 8 0 3 = nI G.2.2.2.1) (hτ : τ 8 0 = σ 8 0) (hR : ∀ o, zm_Calls (d + 7) 72 [.inr (.inr (some (14, 0))), .inr (.inr (some (13, 0))), .inl (σ 8 0 10)] (zh G σ) o ↔ o = (none, zh G τ)) : zm_Calls (d + 8) 45 [.inr (.inr (some (8, 0))), .inl p] (zh G σ) o ↔ o = (some (.inl (nI G.2.2.2.1)), zh (zGc G) (zSc τ p G.2.2.2.1)) := by
  have h1 : nI G.2.2.2.1 < 60 := z_l60 hn
  have hx2 : τ 8 0 3 = nI G.2.2.2.1 := by rw [hτ]; exact hx
  have ti := fun o => c73 (d := d + 6) (h := zm_new (zh G τ) 45 (.inr (8, [.inl 0, .inl 0, .inl 0, .inl 0, .inl 0, .inl 0, .inl 0])) 7) (r := (45, G.2.2.2.1)) (n := nI G.2.2.2.1) (p := p) (k := τ 14 0 0) (s := τ 14 0 1) (w := τ 14 0 2) (o := o) zr_ng rfl (by rw [zr_nn (zr_k (by simp))]; rfl)
  have g11 : zm_get (zh G τ) (11, 0) = some (.inl (.object "BumpNotes$Change", 60, .inr fun j => if j < G.2.2.2.1 then some (45, j) else none)) := rfl
  have v2 : (nI G.2.2.2.1).toNatClampNeg = G.2.2.2.1 := z_cl (by omega)
  have v1 : ¬ (nI G.2.2.2.1 < 0 ∨ 60 ≤ G.2.2.2.1) := by
    have := z_nin hn (by omega : 60 ≤ 1000)
    unfold vp_in at this
    rwa [v2] at this
  rw [← zh_chg]
  simp only [↓reduceIte, true_and, and_true, zf_i, zf_0, zf_1, zb_fit, z_ex, Option.toList_some, Option.toList_none, List.cons_append, List.nil_append, zb_0, z_ie, z_iv, z_ih, z_iz, z_izn, z_i2, z_ia, z_io, z_ina, z_8, Classical.not_not, i45, x45_0, x45_1, x45_4, x45_5, x45_8, x45_9, x45_12, x45_13, x45_14, x45_15, x45_18, x45_19, x45_20, x45_23, x45_24, x45_27, x45_28, x45_31, x45_34, x45_35, x45_38, x45_39, x45_42, x45_43, x45_44, x45_45, x45_46, x45_49, x45_52, x45_53, x45_54, x45_55, x45_58, x45_59, x45_60, x45_63, x45_64, zf8_0, zf8_1, zf8_2, zf8_3, zf8_4, zf8_5, zf8_6, zf8_7, zf8_8, zf8_9, zf8_10, zf8_11, zf14_0, zf14_1, zf14_2, zq8_0, zq8_1, zq8_2, zq8_3, zq8_4, zq8_5, zq8_6, zq8_7, zq8_8, zq8_9, zq8_10, zq8_11, zq14_0, zq14_1, zq14_2, zp8_1, zp8_3, zp8_5, zp8_10, zp8_11, zp14_0, zp14_1, zp14_2, zo8, zo14, za11, zn11, zi11, zl11, hx, h1, hR, hx2, zr_fr (show 8 ≤ 45 by decide) (no45 (G := G) (σ := τ)), zh_n, zn_45, ti, zm_inQ, zm_okQ, zm_stQ, zm_isF, zm_getF, zm_putF, zm_get_set, zm_get_new, zr_n1, zr_cn, g11, zg8, v1, v2, Prod.mk.injEq, Nat.reduceEqDiff, false_and, and_false, and_self, show (60 : Nat) < 2147483648 from by decide, show zt_cn 8 = "BumpNotes$Change" from rfl, Bool.and_self, List.length_cons, List.length_nil, Nat.reduceAdd, Nat.reduceLT, beq_self_eq_true, decide_true, not_false_eq_true, List.set_cons_zero, List.set_cons_succ, List.getD_cons_zero, List.getD_cons_succ, Nat.reduceLeDiff, nI_1]
end ZC1
