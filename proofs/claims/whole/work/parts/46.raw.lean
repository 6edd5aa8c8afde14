set_option maxRecDepth 3000 in
set_option maxHeartbeats 400000 in
theorem zr_fr {h : zmH} {s : Nat} (h8 : 8 ≤ s) (hg : zm_get h (s, h.2.1 s) = none) : zm_free h s = true := by
  unfold zm_free
  rw [hg]
  simp [h8]
set_option maxRecDepth 3000 in
set_option maxHeartbeats 400000 in
theorem zr_n1 {h : zmH} {k : zmK} {c : zmC} {s : Nat} : (zm_set h k c).2.1 s = h.2.1 s := rfl
set_option maxRecDepth 3000 in
set_option maxHeartbeats 400000 in
theorem zr_fs {h : zmH} {r : zmK} {c k : Nat} {fs : List zmV} (hk : k < fs.length) : zm_isF (zm_set h r (.inr (c, fs))) r c k = true := zr_f zr_gs hk
set_option maxRecDepth 3000 in
set_option maxHeartbeats 400000 in
theorem zr_ps {h : zmH} {r : zmK} {c k : Nat} {fs : List zmV} {v : zmV} : zm_putF (zm_set h r (.inr (c, fs))) r k v = zm_set h r (.inr (c, fs.set k v)) := by
  rw [zm_putF_eq zr_gs, zr_ss]
set_option maxRecDepth 3000 in
set_option maxHeartbeats 400000 in
theorem zf_o {C : String} {q : Option zmK} : zm_fit (.object C) (.inr (.inr q)) = true := rfl
set_option maxRecDepth 3000 in
set_option maxHeartbeats 400000 in
theorem zf_a {t : FieldType} {q : Option zmK} : zm_fit (.array t) (.inr (.inr q)) = true := rfl
set_option maxRecDepth 3000 in
set_option maxHeartbeats 400000 in
theorem zr_k {a b : zmK} (h : ¬ a.1 = b.1) : ¬ a = b := fun q => h (congrArg Prod.fst q)
set_option maxRecDepth 3000 in
set_option maxHeartbeats 400000 in
theorem c73 {d : Nat} {h : zmH} {r : zmK} {a1 a2 a3 a4 a5 a6 a7 : zmV} {n p k s w : Int32} {o : zmO} (hg : zm_get h r = some (.inr (8, [a1, a2, a3, a4, a5, a6, a7]))) (h8 : r.1 = 45) (hr : zm_get h (14, 0) = some (.inr (3, [.inl k, .inl s, .inl w]))) : zm_Calls (d + 1) 73 [.inr (.inr (some r)), .inl n, .inl p, .inr (.inr (some (14, 0)))] h o ↔ o = (none, zm_set h r (.inr (8, [.inl n, .inl p, .inl k, .inl s, .inl w, .inl 0, .inl 0]))) := by
  have hk : ¬ ((14, 0) : zmK) = r := zr_k (by simp [h8])
  have hr1 : ∀ c, zm_get (zm_set h r c) (14, 0) = some (.inr (3, [.inl k, .inl s, .inl w])) := fun c => by rw [zr_gn hk]; exact hr
  simp only [i73, x73_0, x73_1, x73_4, x73_5, x73_6, x73_9, x73_10, x73_11, x73_14, x73_15, x73_16, x73_19, x73_20, x73_21, x73_24, x73_25, x73_26, x73_29, x73_32, x73_33, x73_34, x73_37, x73_40, x73_41, x73_42, x73_45, x73_48, show 8 ≤ r.1 from by rw [h8]; decide, zr_f hg (show 5 < 7 by omega), zm_putF_eq hg, zr_ps, List.set_cons_zero, List.set_cons_succ, zr_fs (show 6 < [a1, a2, a3, a4, a5, .inl 0, a7].length by simp), zr_fs (show 0 < [a1, a2, a3, a4, a5, .inl 0, .inl 0].length by simp), zr_fs (show 1 < [.inl n, a2, a3, a4, a5, .inl 0, .inl 0].length by simp), zr_fs (show 2 < [.inl n, .inl p, a3, a4, a5, .inl 0, .inl 0].length by simp), zr_fs (show 3 < [.inl n, .inl p, .inl k, a4, a5, .inl 0, .inl 0].length by simp), zr_fs (show 4 < [.inl n, .inl p, .inl k, .inl s, a5, .inl 0, .inl 0].length by simp), zr_f (hr1 _) (show 0 < 3 by omega), zr_f (hr1 _) (show 1 < 3 by omega), zr_f (hr1 _) (show 2 < 3 by omega), zr_q (hr1 _), List.getD_cons_zero, List.getD_cons_succ, true_and, and_self, zf_i, zf_0]
set_option maxRecDepth 3000 in
set_option maxHeartbeats 400000 in
theorem c67 {d p : Nat} {h : zmH} {r : zmK} {a1 a2 : zmV} {f1 f2 f3 f4 f5 f6 f7 : zmV} {n x y z w : Int32} {o : zmO} (hg : zm_get h r = some (.inr (6, [a1, a2]))) (h8 : r.1 = 38) (hp : zm_get h (37, p) = some (.inr (5, [.inl n, .inr (.inr (some (42, p))), f1, f2, f3, f4, f5, f6, f7]))) (hv : zm_get h (42, p) = some (.inr (7, [.inl x, .inl y, .inl z, .inl w]))) (hf : zm_get h (46, h.2.1 46) = none) :
    zm_Calls (d + 2) 67 [.inr (.inr (some r)), .inr (.inr (some (37, p)))] h o ↔ o = (none, zm_set (zm_set (zm_new h 46 (.inr (7, [.inl 0, .inl 0, .inl 0, .inl 0])) 4) r (.inr (6, [.inl n, .inr (.inr (some (46, h.2.1 46)))]))) (46, h.2.1 46) (.inr (7, [.inl x, .inl y, .inl z, .inl w]))) := by
  have k1 : ¬ r = (46, h.2.1 46) := zr_k (by simp [h8])
  have k2 : ¬ ((37, p) : zmK) = (46, h.2.1 46) := zr_k (by simp)
  have k3 : ¬ ((42, p) : zmK) = (46, h.2.1 46) := zr_k (by simp)
  have k4 : ¬ ((37, p) : zmK) = r := zr_k (by simp [h8])
  have k5 : ¬ ((42, p) : zmK) = r := zr_k (by simp [h8])
  have k6 : ¬ ((46, h.2.1 46) : zmK) = r := zr_k (by simp [h8])
  generalize e2 : zm_new h 46 (.inr (7, [.inl 0, .inl 0, .inl 0, .inl 0])) 4 = h2
  have g1 : zm_get h2 r = some (.inr (6, [a1, a2])) := by rw [← e2, zr_nn k1]; exact hg
  have g2 : zm_get h2 (46, h.2.1 46) = some (.inr (7, [.inl 0, .inl 0, .inl 0, .inl 0])) := by rw [← e2]; exact zr_ng
  have g3 : ∀ c, zm_get (zm_set h2 r c) (37, p) = some (.inr (5, [.inl n, .inr (.inr (some (42, p))), f1, f2, f3, f4, f5, f6, f7])) := fun c => by rw [zr_gn k4, ← e2, zr_nn k2]; exact hp
  have g4 : ∀ c, zm_get (zm_set h2 r c) (42, p) = some (.inr (7, [.inl x, .inl y, .inl z, .inl w])) := fun c => by rw [zr_gn k5, ← e2, zr_nn k3]; exact hv
  have g5 : ∀ c, zm_get (zm_set h2 r c) (46, h.2.1 46) = some (.inr (7, [.inl 0, .inl 0, .inl 0, .inl 0])) := fun c => by rw [zr_gn k6]; exact g2
  have hi := fun o => c68 (d := d) (x := 0) (y := 0) (z := 0) (o := o) g2 (show 8 ≤ 46 by decide)
  simp only [zr_same g2] at hi
  have hc := fun o c => zr_copy (d := d) (o := o) (g5 c) (g4 c) (show 8 ≤ 46 by decide) k3
  simp only [i67, x67_0, x67_1, x67_4, x67_5, x67_8, x67_9, x67_10, x67_11, x67_12, x67_15, x67_18, x67_19, x67_20, x67_23, x67_26, x67_27, x67_30, x67_31, x67_34, x67_37, show 8 ≤ r.1 from by rw [h8]; decide, zr_fr (show 8 ≤ 46 by decide) hf, e2, hi, z_ex, Option.toList_none, List.nil_append, zr_f g1 (show 1 < 2 by omega), zm_putF_eq g1, zr_ps, List.set_cons_zero, List.set_cons_succ, zr_f (g3 _) (show 0 < 9 by omega), zr_f (g3 _) (show 1 < 9 by omega), zr_q (g3 _), List.getD_cons_zero, List.getD_cons_succ, zr_fs (show 0 < [a1, .inr (.inr (some (46, h.2.1 46)))].length by simp), zr_fs (show 1 < [.inl n, .inr (.inr (some (46, h.2.1 46)))].length by simp), zr_q zr_gs, zr_o (g5 _), hc, true_and, and_self, zf_i, zf_o, z_8, Nat.reduceLeDiff]
