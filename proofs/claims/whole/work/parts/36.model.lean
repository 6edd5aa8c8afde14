section ZM3
variable {G : zG} {σ : zR} {o : zmO}
set_option maxRecDepth 3000 in
set_option maxHeartbeats 400000 in
theorem zX_r0 {f : Nat → Int32} : zX σ f 33 0 0 = f 0 := rfl
set_option maxRecDepth 3000 in
set_option maxHeartbeats 400000 in
theorem zX_r1 {f : Nat → Int32} : zX σ f 33 0 1 = f 1 := rfl
set_option maxRecDepth 3000 in
set_option maxHeartbeats 400000 in
theorem zX_r2 {f : Nat → Int32} : zX σ f 33 0 2 = f 2 := rfl
set_option maxRecDepth 3000 in
set_option maxHeartbeats 400000 in
theorem zX_r3 {f : Nat → Int32} : zX σ f 33 0 3 = f 3 := rfl
set_option maxRecDepth 3000 in
set_option maxHeartbeats 400000 in
theorem z_lt03 : ((0 : Int32) < 3) = True := eq_true (by decide)
set_option maxRecDepth 3000 in
set_option maxHeartbeats 400000 in
theorem z_lt13 : ((1 : Int32) < 3) = True := eq_true (by decide)
set_option maxRecDepth 3000 in
set_option maxHeartbeats 400000 in
theorem z_lt23 : ((2 : Int32) < 3) = True := eq_true (by decide)
set_option maxRecDepth 3000 in
set_option maxHeartbeats 400000 in
theorem z_lt33 : ((3 : Int32) < 3) = False := eq_false (by decide)
set_option maxRecDepth 3000 in
set_option maxHeartbeats 400000 in
theorem z_e10 : ((1 : Int32) = 0) = False := eq_false (by decide)
set_option maxRecDepth 3000 in
set_option maxHeartbeats 400000 in
theorem z_e20 : ((2 : Int32) = 0) = False := eq_false (by decide)
set_option maxRecDepth 3000 in
set_option maxHeartbeats 400000 in
theorem z_e30 : ((3 : Int32) = 0) = False := eq_false (by decide)
set_option maxRecDepth 3000 in
set_option maxHeartbeats 400000 in
theorem z_e21 : ((2 : Int32) = 1) = False := eq_false (by decide)
set_option maxRecDepth 3000 in
set_option maxHeartbeats 400000 in
theorem z_e31 : ((3 : Int32) = 1) = False := eq_false (by decide)
set_option maxRecDepth 3000 in
set_option maxHeartbeats 400000 in
theorem m_stays0 {d p : Nat} (hp : p < 10) : zm_Calls (d + 3) 87 [.inr (.inr (some (9, 0))), .inl (nI p), .inl 0] (zh G σ) o ↔ o = (some (.inl (zb (zrk σ p 0 = σ 17 0 (4 * p) ∧ zrk σ p 1 = σ 17 0 (4 * p + 1) ∧ zrk σ p 2 = σ 17 0 (4 * p + 2) ∧ zrk σ p 3 = σ 17 0 (4 * p + 3)))), zh G (zX σ (zrk σ p))) := by
  have h0 : vp_in (nI (4 * p)) 40 := z_nin (by omega) (by omega)
  have h1 : vp_in (nI (4 * p + 1)) 40 := z_nin (by omega) (by omega)
  have h2 : vp_in (nI (4 * p + 2)) 40 := z_nin (by omega) (by omega)
  have h3 : vp_in (nI (4 * p + 3)) 40 := z_nin (by omega) (by omega)
  have e0 : (nI (4 * p)).toNatClampNeg = 4 * p := z_cl (by omega)
  have e1 : (nI (4 * p + 1)).toNatClampNeg = 4 * p + 1 := z_cl (by omega)
  have e2 : (nI (4 * p + 2)).toNatClampNeg = 4 * p + 2 := z_cl (by omega)
  have e3 : (nI (4 * p + 3)).toNatClampNeg = 4 * p + 3 := z_cl (by omega)
  simp only [↓reduceIte, true_and, and_true, zf_i, zf_0, zf_1, zb_fit, z_ex, Option.toList_some, Option.toList_none, List.cons_append, List.nil_append, zb_0, z_ie, z_iv, z_ih, z_iz, z_izn, z_i2, z_ia, z_io, z_ina, z_8, Classical.not_not, i87, x87_0, x87_1, x87_2, x87_5, x87_6, x87_7, x87_8, x87_10, x87_12, x87_13, x87_16, x87_17, x87_18, x87_21, x87_22, x87_25, x87_27, x87_30, x87_31, x87_32, x87_35, x87_37, x87_38, x87_41, x87_42, x87_46, x87_48, x87_49, x87_52, x87_54, x87_57, x87_58, x87_61, x87_63, x87_64, x87_65, x87_68, x87_69, x87_70, x87_71, x87_73, x87_74, x87_75, x87_78, x87_79, x87_83, x87_84, x87_87, x87_82, x87_45, x87_90, x87_91, zf9_0, zf9_1, zf9_2, zf9_3, zf9_4, zf9_5, zf9_6, zf9_7, zf9_8, zf9_9, zf9_10, zf9_11, zf9_12, zf9_13, zf9_14, zf9_15, zf9_16, zf9_17, zf9_18, zf9_19, zf9_20, zf9_21, zf9_22, zf9_23, zf9_24, zf9_25, zf9_26, zf9_27, zf9_28, zf9_29, zf9_30, zf9_31, zq9_0, zq9_1, zq9_2, zq9_3, zq9_4, zq9_5, zq9_6, zq9_7, zq9_8, zq9_9, zq9_10, zq9_11, zq9_12, zq9_13, zq9_14, zq9_15, zq9_16, zq9_17, zq9_18, zq9_19, zq9_20, zq9_21, zq9_22, zq9_23, zq9_24, zq9_25, zq9_26, zq9_27, zq9_28, zq9_29, zq9_30, zq9_31, zp9_0, zp9_1, zp9_8, zp9_10, zp9_11, zp9_18, zp9_19, zp9_20, zp9_21, zp9_23, zp9_25, zp9_28, zo9, za17, zn17, zi17, zl17, zt17, za33, zn33, zi33, zl33, zt33, m_reckon hp, zX_s, zX_r0, zX_r1, zX_r2, zX_r3, z_m4, nI_1, z_a2, z_a3, Int32.add_zero, h0, h1, h2, h3, e0, e1, e2, e3, z_v0 (show 0 < 4 by omega) (by omega), z_v1 (show 1 < 4 by omega) (by omega), z_v2 (show 2 < 4 by omega) (by omega), z_v3 (show 3 < 4 by omega) (by omega), z_t0, z_t1, z_t2, z_t3, z_i01, z_i12, z_i23, z_i34, z_04, z_14, z_24, z_34, z_44, z_lt03, z_e10, z_e20, z_e30, Nat.reduceLeDiff, Nat.reduceEqDiff, not_false_eq_true, ite_self]
set_option maxRecDepth 3000 in
set_option maxHeartbeats 400000 in
theorem m_stays1 {d p : Nat} (hp : p < 10) : zm_Calls (d + 3) 87 [.inr (.inr (some (9, 0))), .inl (nI p), .inl 1] (zh G σ) o ↔ o = (some (.inl (zb (zrk σ p 0 = σ 17 0 (4 * p) ∧ zrk σ p 1 = σ 17 0 (4 * p + 1)))), zh G (zX σ (zrk σ p))) := by
  have h0 : vp_in (nI (4 * p)) 40 := z_nin (by omega) (by omega)
  have h1 : vp_in (nI (4 * p + 1)) 40 := z_nin (by omega) (by omega)
  have e0 : (nI (4 * p)).toNatClampNeg = 4 * p := z_cl (by omega)
  have e1 : (nI (4 * p + 1)).toNatClampNeg = 4 * p + 1 := z_cl (by omega)
  simp only [↓reduceIte, true_and, and_true, zf_i, zf_0, zf_1, zb_fit, z_ex, Option.toList_some, Option.toList_none, List.cons_append, List.nil_append, zb_0, z_ie, z_iv, z_ih, z_iz, z_izn, z_i2, z_ia, z_io, z_ina, z_8, Classical.not_not, i87, x87_0, x87_1, x87_2, x87_5, x87_6, x87_7, x87_8, x87_10, x87_12, x87_13, x87_16, x87_17, x87_18, x87_21, x87_22, x87_25, x87_27, x87_30, x87_31, x87_32, x87_35, x87_37, x87_38, x87_41, x87_42, x87_46, x87_48, x87_49, x87_52, x87_54, x87_57, x87_58, x87_61, x87_63, x87_64, x87_65, x87_68, x87_69, x87_70, x87_71, x87_73, x87_74, x87_75, x87_78, x87_79, x87_83, x87_84, x87_87, x87_82, x87_45, x87_90, x87_91, zf9_0, zf9_1, zf9_2, zf9_3, zf9_4, zf9_5, zf9_6, zf9_7, zf9_8, zf9_9, zf9_10, zf9_11, zf9_12, zf9_13, zf9_14, zf9_15, zf9_16, zf9_17, zf9_18, zf9_19, zf9_20, zf9_21, zf9_22, zf9_23, zf9_24, zf9_25, zf9_26, zf9_27, zf9_28, zf9_29, zf9_30, zf9_31, zq9_0, zq9_1, zq9_2, zq9_3, zq9_4, zq9_5, zq9_6, zq9_7, zq9_8, zq9_9, zq9_10, zq9_11, zq9_12, zq9_13, zq9_14, zq9_15, zq9_16, zq9_17, zq9_18, zq9_19, zq9_20, zq9_21, zq9_22, zq9_23, zq9_24, zq9_25, zq9_26, zq9_27, zq9_28, zq9_29, zq9_30, zq9_31, zp9_0, zp9_1, zp9_8, zp9_10, zp9_11, zp9_18, zp9_19, zp9_20, zp9_21, zp9_23, zp9_25, zp9_28, zo9, za17, zn17, zi17, zl17, zt17, za33, zn33, zi33, zl33, zt33, m_reckon hp, zX_s, zX_r0, zX_r1, zX_r2, zX_r3, z_m4, nI_1, z_a2, z_a3, Int32.add_zero, h0, h1, e0, e1, z_v0 (show 0 < 4 by omega) (by omega), z_v1 (show 1 < 4 by omega) (by omega), z_v2 (show 2 < 4 by omega) (by omega), z_v3 (show 3 < 4 by omega) (by omega), z_t0, z_t1, z_t2, z_t3, z_i01, z_i12, z_i23, z_i34, z_04, z_14, z_24, z_34, z_44, z_lt13, z_e10, z_e20, z_e30, z_e21, z_e31, Nat.reduceLeDiff, Nat.reduceEqDiff, not_false_eq_true, ite_self]
set_option maxRecDepth 3000 in
set_option maxHeartbeats 400000 in
theorem m_stays2 {d p : Nat} (hp : p < 10) : zm_Calls (d + 3) 87 [.inr (.inr (some (9, 0))), .inl (nI p), .inl 2] (zh G σ) o ↔ o = (some (.inl (zb (zrk σ p 0 = σ 17 0 (4 * p)))), zh G (zX σ (zrk σ p))) := by
  have h0 : vp_in (nI (4 * p)) 40 := z_nin (by omega) (by omega)
  have e0 : (nI (4 * p)).toNatClampNeg = 4 * p := z_cl (by omega)
  simp only [↓reduceIte, true_and, and_true, zf_i, zf_0, zf_1, zb_fit, z_ex, Option.toList_some, Option.toList_none, List.cons_append, List.nil_append, zb_0, z_ie, z_iv, z_ih, z_iz, z_izn, z_i2, z_ia, z_io, z_ina, z_8, Classical.not_not, i87, x87_0, x87_1, x87_2, x87_5, x87_6, x87_7, x87_8, x87_10, x87_12, x87_13, x87_16, x87_17, x87_18, x87_21, x87_22, x87_25, x87_27, x87_30, x87_31, x87_32, x87_35, x87_37, x87_38, x87_41, x87_42, x87_46, x87_48, x87_49, x87_52, x87_54, x87_57, x87_58, x87_61, x87_63, x87_64, x87_65, x87_68, x87_69, x87_70, x87_71, x87_73, x87_74, x87_75, x87_78, x87_79, x87_83, x87_84, x87_87, x87_82, x87_45, x87_90, x87_91, zf9_0, zf9_1, zf9_2, zf9_3, zf9_4, zf9_5, zf9_6, zf9_7, zf9_8, zf9_9, zf9_10, zf9_11, zf9_12, zf9_13, zf9_14, zf9_15, zf9_16, zf9_17, zf9_18, zf9_19, zf9_20, zf9_21, zf9_22, zf9_23, zf9_24, zf9_25, zf9_26, zf9_27, zf9_28, zf9_29, zf9_30, zf9_31, zq9_0, zq9_1, zq9_2, zq9_3, zq9_4, zq9_5, zq9_6, zq9_7, zq9_8, zq9_9, zq9_10, zq9_11, zq9_12, zq9_13, zq9_14, zq9_15, zq9_16, zq9_17, zq9_18, zq9_19, zq9_20, zq9_21, zq9_22, zq9_23, zq9_24, zq9_25, zq9_26, zq9_27, zq9_28, zq9_29, zq9_30, zq9_31, zp9_0, zp9_1, zp9_8, zp9_10, zp9_11, zp9_18, zp9_19, zp9_20, zp9_21, zp9_23, zp9_25, zp9_28, zo9, za17, zn17, zi17, zl17, zt17, za33, zn33, zi33, zl33, zt33, m_reckon hp, zX_s, zX_r0, zX_r1, zX_r2, zX_r3, z_m4, nI_1, z_a2, z_a3, Int32.add_zero, h0, e0, z_v0 (show 0 < 4 by omega) (by omega), z_v1 (show 1 < 4 by omega) (by omega), z_v2 (show 2 < 4 by omega) (by omega), z_v3 (show 3 < 4 by omega) (by omega), z_t0, z_t1, z_t2, z_t3, z_i01, z_i12, z_i23, z_i34, z_04, z_14, z_24, z_34, z_44, z_lt23, z_e10, z_e20, z_e30, z_e21, z_e31, Nat.reduceLeDiff, Nat.reduceEqDiff, not_false_eq_true, ite_self]
set_option maxRecDepth 3000 in
set_option maxHeartbeats 400000 in
theorem m_stays3 {d p : Nat} (hp : p < 10) : zm_Calls (d + 3) 87 [.inr (.inr (some (9, 0))), .inl (nI p), .inl 3] (zh G σ) o ↔ o = (some (.inl 1), zh G (zX σ (zrk σ p))) := by
  simp only [↓reduceIte, true_and, and_true, zf_i, zf_0, zf_1, zb_fit, z_ex, Option.toList_some, Option.toList_none, List.cons_append, List.nil_append, zb_0, z_ie, z_iv, z_ih, z_iz, z_izn, z_i2, z_ia, z_io, z_ina, z_8, Classical.not_not, i87, x87_0, x87_1, x87_2, x87_5, x87_6, x87_7, x87_8, x87_10, x87_12, x87_13, x87_16, x87_17, x87_18, x87_21, x87_22, x87_25, x87_27, x87_30, x87_31, x87_32, x87_35, x87_37, x87_38, x87_41, x87_42, x87_46, x87_48, x87_49, x87_52, x87_54, x87_57, x87_58, x87_61, x87_63, x87_64, x87_65, x87_68, x87_69, x87_70, x87_71, x87_73, x87_74, x87_75, x87_78, x87_79, x87_83, x87_84, x87_87, x87_82, x87_45, x87_90, x87_91, zf9_0, zf9_1, zf9_2, zf9_3, zf9_4, zf9_5, zf9_6, zf9_7, zf9_8, zf9_9, zf9_10, zf9_11, zf9_12, zf9_13, zf9_14, zf9_15, zf9_16, zf9_17, zf9_18, zf9_19, zf9_20, zf9_21, zf9_22, zf9_23, zf9_24, zf9_25, zf9_26, zf9_27, zf9_28, zf9_29, zf9_30, zf9_31, zq9_0, zq9_1, zq9_2, zq9_3, zq9_4, zq9_5, zq9_6, zq9_7, zq9_8, zq9_9, zq9_10, zq9_11, zq9_12, zq9_13, zq9_14, zq9_15, zq9_16, zq9_17, zq9_18, zq9_19, zq9_20, zq9_21, zq9_22, zq9_23, zq9_24, zq9_25, zq9_26, zq9_27, zq9_28, zq9_29, zq9_30, zq9_31, zp9_0, zp9_1, zp9_8, zp9_10, zp9_11, zp9_18, zp9_19, zp9_20, zp9_21, zp9_23, zp9_25, zp9_28, zo9, m_reckon hp, z_04, z_lt33, z_t0]
set_option maxRecDepth 3000 in
set_option maxHeartbeats 400000 in
theorem m_group {d c : Nat} (hc : c < 60) : zm_Calls (d + 1) 89 [.inr (.inr (some (9, 0))), .inl (nI c)] (zh G σ) o ↔ o = (some (.inl (if σ 26 0 c = 3 then 0 else if σ 25 0 c < 0 then 7 else 1 + σ 25 0 c)), zh G σ) := by
  simp only [i89, x89_0, x89_1, x89_4, x89_5, x89_6, x89_7, x89_10, x89_11, x89_36, x89_14, x89_15, x89_18, x89_19, x89_20, x89_23, x89_25, x89_28, x89_29, x89_30, x89_33, x89_34, x89_35, zf9_0, zf9_1, zf9_2, zf9_3, zf9_4, zf9_5, zf9_6, zf9_7, zf9_8, zf9_9, zf9_10, zf9_11, zf9_12, zf9_13, zf9_14, zf9_15, zf9_16, zf9_17, zf9_18, zf9_19, zf9_20, zf9_21, zf9_22, zf9_23, zf9_24, zf9_25, zf9_26, zf9_27, zf9_28, zf9_29, zf9_30, zf9_31, zq9_0, zq9_1, zq9_2, zq9_3, zq9_4, zq9_5, zq9_6, zq9_7, zq9_8, zq9_9, zq9_10, zq9_11, zq9_12, zq9_13, zq9_14, zq9_15, zq9_16, zq9_17, zq9_18, zq9_19, zq9_20, zq9_21, zq9_22, zq9_23, zq9_24, zq9_25, zq9_26, zq9_27, zq9_28, zq9_29, zq9_30, zq9_31, zp9_0, zp9_1, zp9_8, zp9_10, zp9_11, zp9_18, zp9_19, zp9_20, zp9_21, zp9_23, zp9_25, zp9_28, zo9, za25, zn25, zi25, zl25, zt25, za26, zn26, zi26, zl26, zt26, z_nin hc (by omega), z_cl (show c < 1000 by omega), true_and, and_true, zf_i, zf_0, zf_1, zb_fit, z_ex, Option.toList_some, Option.toList_none, List.cons_append, List.nil_append, zb_0, z_ie, z_iv, z_ih, z_iz, z_izn, z_i2, z_ia, z_io, z_ina, z_8, Classical.not_not]
end ZM3
