set_option maxRecDepth 3000 in
set_option maxHeartbeats 400000 in
theorem zr_cn {h : zmH} {s t sl : Nat} {c : zmC} : (zm_new h s c sl).2.1 t = if t = s then h.2.1 s + 1 else h.2.1 t := rfl
set_option maxRecDepth 3000 in
set_option maxHeartbeats 400000 in
theorem zr_t10 : (10 : Int32).toNatClampNeg = 10 := rfl
set_option maxRecDepth 3000 in
set_option maxHeartbeats 400000 in
theorem zr_sm : zm_small 10 = true := rfl
set_option maxRecDepth 3000 in
set_option maxHeartbeats 400000 in
theorem c39 {d m : Nat} {h : zmH} {a0 a1 a2 a3 a4 a5 a6 a7 a8 : zmV} {n x y z : Int32} {o : zmO} (hg : zm_get h (37, m) = some (.inr (5, [a0, a1, a2, a3, a4, a5, a6, a7, a8]))) (f1 : zm_get h (41, h.2.1 41) = none) (f2 : zm_get h (42, h.2.1 42) = none) (f3 : zm_get h (43, h.2.1 43) = none) (f4 : zm_get h (44, h.2.1 44) = none) :
    zm_Calls (d + 2) 39 [.inr (.inr (some (37, m))), .inl n, .inl x, .inl y, .inl z] h o ↔ o = (none, zm_set (zm_set (zm_set (zm_new (zm_set (zm_set (zm_new (zm_set (zm_set (zm_new (zm_set (zm_new h 41 (.inl (.int, 10, .inl fun _ => 0)) 10) (37, m) (.inr (5, [.inl n, a1, a2, a3, .inr (.inr (some (41, h.2.1 41))), .inl 0, .inl 0, .inl 0, .inl 0]))) 42 (.inr (7, [.inl 0, .inl 0, .inl 0, .inl 0])) 4) (42, h.2.1 42) (.inr (7, [.inl x, .inl y, .inl z, .inl 0]))) (37, m) (.inr (5, [.inl n, .inr (.inr (some (42, h.2.1 42))), a2, a3, .inr (.inr (some (41, h.2.1 41))), .inl 0, .inl 0, .inl 0, .inl 0]))) 43 (.inr (7, [.inl 0, .inl 0, .inl 0, .inl 0])) 4) (43, h.2.1 43) (.inr (7, [.inl x, .inl y, .inl z, .inl 0]))) (37, m) (.inr (5, [.inl n, .inr (.inr (some (42, h.2.1 42))), .inr (.inr (some (43, h.2.1 43))), a3, .inr (.inr (some (41, h.2.1 41))), .inl 0, .inl 0, .inl 0, .inl 0]))) 44 (.inr (7, [.inl 0, .inl 0, .inl 0, .inl 0])) 4) (44, h.2.1 44) (.inr (7, [.inl x, .inl y, .inl z, .inl 0]))) (37, m) (.inr (5, [.inl n, .inr (.inr (some (42, h.2.1 42))), .inr (.inr (some (43, h.2.1 43))), .inr (.inr (some (44, h.2.1 44))), .inr (.inr (some (41, h.2.1 41))), .inl 0, .inl 0, .inl 0, .inl 0]))) (41, h.2.1 41) (.inl (.int, 10, .inl (zfl (fun _ => 0) 3 10)))) := by
  have vi : ∀ (h : zmH) (s i : Nat) (o : zmO), zm_get h (s, i) = some (.inr (7, [.inl 0, .inl 0, .inl 0, .inl 0])) → 8 ≤ s → (zm_Calls (d + 1) 68 [.inr (.inr (some (s, i))), .inl x, .inl y, .inl z] h o ↔ o = (none, zm_set h (s, i) (.inr (7, [.inl x, .inl y, .inl z, .inl 0])))) := fun h s i o g1 g2 => c68 g1 g2
  have fi : ∀ (h : zmH) (i : Nat) (o : zmO), zm_get h (41, i) = some (.inl (.int, 10, .inl fun _ => 0)) → (zm_Calls (d + 1) 69 [.inr (.inr (some (41, i))), .inl 3] h o ↔ o = (none, zm_set h (41, i) (.inl (.int, 10, .inl (zfl (fun _ => 0) 3 10))))) := fun h i o g1 => c69 g1 (by omega) (show 8 ≤ 41 by decide)
  simp only [↓reduceIte, i39, x39_0, x39_1, x39_4, x39_5, x39_7, x39_9, x39_12, x39_13, x39_14, x39_17, x39_18, x39_19, x39_22, x39_23, x39_24, x39_27, x39_28, x39_29, x39_32, x39_33, x39_34, x39_37, x39_38, x39_41, x39_42, x39_43, x39_44, x39_46, x39_49, x39_52, x39_53, x39_56, x39_57, x39_58, x39_59, x39_61, x39_64, x39_67, x39_68, x39_71, x39_72, x39_73, x39_74, x39_76, x39_79, x39_82, x39_83, x39_86, x39_87, x39_90, zr_sm, zr_t10, zr_fr, f1, f2, f3, f4, zm_isF, zm_getF, zm_putF, zm_get_set, zm_get_new, zr_n1, zr_cn, zr_ss, hg, Prod.mk.injEq, Nat.reduceEqDiff, false_and, and_false, and_self, true_and, List.length_cons, List.length_nil, Nat.reduceAdd, Nat.reduceLT, decide_true, beq_self_eq_true, Bool.and_self, List.set_cons_zero, List.set_cons_succ, List.getD_cons_zero, List.getD_cons_succ, Nat.reduceLeDiff, zf_i, zf_0, zf_o, zf_a, z_8, vi, fi, z_ex, Option.toList_none, List.nil_append, not_false_eq_true]
set_option maxRecDepth 3000 in
set_option maxHeartbeats 400000 in
theorem zn_38 {G : zG} : zn G 38 = G.2.2.2.2 := rfl
set_option maxRecDepth 3000 in
set_option maxHeartbeats 400000 in
theorem zn_46 {G : zG} : zn G 46 = G.2.2.2.2 := rfl
set_option maxRecDepth 3000 in
set_option maxHeartbeats 400000 in
theorem zn_45 {G : zG} : zn G 45 = G.2.2.2.1 := rfl
set_option maxRecDepth 3000 in
set_option maxHeartbeats 400000 in
theorem zn_37 {G : zG} : zn G 37 = G.2.2.1 := rfl
set_option maxRecDepth 3000 in
set_option maxHeartbeats 400000 in
theorem zn_41 {G : zG} : zn G 41 = G.2.2.1 := rfl
set_option maxRecDepth 3000 in
set_option maxHeartbeats 400000 in
theorem zn_42 {G : zG} : zn G 42 = G.2.2.1 := rfl
set_option maxRecDepth 3000 in
set_option maxHeartbeats 400000 in
theorem zn_43 {G : zG} : zn G 43 = G.2.2.1 := rfl
set_option maxRecDepth 3000 in
set_option maxHeartbeats 400000 in
theorem zn_44 {G : zG} : zn G 44 = G.2.2.1 := rfl
section ZW
variable {G : zG} {σ : zR}
set_option maxRecDepth 3000 in
set_option maxHeartbeats 400000 in
theorem zh_n {s : Nat} : (zh G σ).2.1 s = zn G s := rfl
set_option maxRecDepth 3000 in
set_option maxHeartbeats 400000 in
theorem zno {s i : Nat} (h8 : 8 ≤ s) (h : zc G s i (σ s i) = none) : zm_get (zh G σ) (s, i) = none := by rw [zh_get G σ s i h8]; exact h
set_option maxRecDepth 3000 in
set_option maxHeartbeats 400000 in
theorem no38 : zm_get (zh G σ) (38, G.2.2.2.2) = none := zno (by decide) (if_neg (Nat.lt_irrefl _))
set_option maxRecDepth 3000 in
set_option maxHeartbeats 400000 in
theorem no46 : zm_get (zh G σ) (46, G.2.2.2.2) = none := zno (by decide) (if_neg (Nat.lt_irrefl _))
set_option maxRecDepth 3000 in
set_option maxHeartbeats 400000 in
theorem no45 : zm_get (zh G σ) (45, G.2.2.2.1) = none := zno (by decide) (if_neg (Nat.lt_irrefl _))
set_option maxRecDepth 3000 in
set_option maxHeartbeats 400000 in
theorem no37 : zm_get (zh G σ) (37, G.2.2.1) = none := zno (by decide) (if_neg (Nat.lt_irrefl _))
set_option maxRecDepth 3000 in
set_option maxHeartbeats 400000 in
theorem no41 : zm_get (zh G σ) (41, G.2.2.1) = none := zno (by decide) (if_neg (Nat.lt_irrefl _))
set_option maxRecDepth 3000 in
set_option maxHeartbeats 400000 in
theorem no42 : zm_get (zh G σ) (42, G.2.2.1) = none := zno (by decide) (if_neg (Nat.lt_irrefl _))
set_option maxRecDepth 3000 in
set_option maxHeartbeats 400000 in
theorem no43 : zm_get (zh G σ) (43, G.2.2.1) = none := zno (by decide) (if_neg (Nat.lt_irrefl _))
set_option maxRecDepth 3000 in
set_option maxHeartbeats 400000 in
theorem no44 : zm_get (zh G σ) (44, G.2.2.1) = none := zno (by decide) (if_neg (Nat.lt_irrefl _))
end ZW
set_option maxRecDepth 3000 in
set_option maxHeartbeats 400000 in
theorem zro_get {G : zG} {σ : zR} {k : zmK} (h : k.1 < 8) : zm_get (zh G σ) k = zs_ro G.1.1 G.1.2 k := if_pos h
