theorem c110 {d i : Nat} {v : Int32} {G : zG} {σ : zR} {o : zmO} (hi : i < G.2.2.1) : zm_Calls (d + 3) 110 [.inr (.inr (some (37, i))), .inl v] (zh G σ) o ↔ o = (some (.inl (if v = 0 then zb (σ 42 i 0 = σ 43 i 0 ∧ σ 42 i 1 = σ 43 i 1 ∧ σ 42 i 2 = σ 43 i 2 ∧ σ 42 i 3 = σ 43 i 3) else if v = 1 then zb (σ 42 i 0 = σ 43 i 0 ∧ σ 42 i 1 = σ 43 i 1) else if v = 2 then zb (σ 42 i 0 = σ 43 i 0) else 1)), zh G σ) := by
  simp only [i110, x110_0, x110_1, x110_4, x110_5, x110_6, x110_9, x110_12, c112 (zV42 hi) (zV43 hi), zv_o (zV42 hi), zf37_0, zf37_1, zf37_2, zf37_3, zf37_4, zf37_5, zf37_6, zf37_7, zf37_8, zq37_0, zq37_1, zq37_2, zq37_3, zq37_4, zq37_5, zq37_6, zq37_7, zq37_8, zp37_0, zp37_5, zp37_6, zp37_7, zp37_8, zo37, hi, true_and, and_true, zf_i, zf_0, zf_1, zb_fit, z_ex, Option.toList_some, Option.toList_none, List.cons_append, List.nil_append, zb_0, z_ie, z_iv, z_ih, z_iz, z_izn, z_i2, z_ia, z_io, z_ina, z_8, Classical.not_not, zf_ite, ite_self]
theorem c80 {d i : Nat} {G : zG} {σ : zR} {o : zmO} (hi : i < G.2.2.1) : zm_Calls (d + 2) 80 [.inr (.inr (some (37, i)))] (zh G σ) o ↔ o = (none, zh G (zw (zcp σ 43 i 42 i) 37 i 6 0)) := by
  simp only [i80, x80_0, x80_1, x80_4, x80_5, x80_8, x80_11, x80_12, x80_13, x80_16, c91 (zV43 hi) (zV42 hi), zv_o (zV43 hi), zf37_0, zf37_1, zf37_2, zf37_3, zf37_4, zf37_5, zf37_6, zf37_7, zf37_8, zq37_0, zq37_1, zq37_2, zq37_3, zq37_4, zq37_5, zq37_6, zq37_7, zq37_8, zp37_0, zp37_5, zp37_6, zp37_7, zp37_8, zo37, hi, true_and, and_true, zf_i, zf_0, zf_1, zb_fit, z_ex, Option.toList_some, Option.toList_none, List.cons_append, List.nil_append, zb_0, z_ie, z_iv, z_ih, z_iz, z_izn, z_i2, z_ia, z_io, z_ina, z_8, Classical.not_not, Nat.reduceLeDiff]
theorem c100 {d i : Nat} {G : zG} {σ : zR} {o : zmO} (hi : i < G.2.2.1) : zm_Calls (d + 2) 100 [.inr (.inr (some (37, i)))] (zh G σ) o ↔ o = (none, zh G (zw (zcp σ 44 i 42 i) 37 i 5 0)) := by
  simp only [i100, x100_0, x100_1, x100_4, x100_5, x100_8, x100_11, x100_12, x100_13, x100_16, c91 (zV44 hi) (zV42 hi), zv_o (zV44 hi), zf37_0, zf37_1, zf37_2, zf37_3, zf37_4, zf37_5, zf37_6, zf37_7, zf37_8, zq37_0, zq37_1, zq37_2, zq37_3, zq37_4, zq37_5, zq37_6, zq37_7, zq37_8, zp37_0, zp37_5, zp37_6, zp37_7, zp37_8, zo37, hi, true_and, and_true, zf_i, zf_0, zf_1, zb_fit, z_ex, Option.toList_some, Option.toList_none, List.cons_append, List.nil_append, zb_0, z_ie, z_iv, z_ih, z_iz, z_izn, z_i2, z_ia, z_io, z_ina, z_8, Classical.not_not, Nat.reduceLeDiff]
def ztb2 (σ : zR) (i : Nat) (w : Int32) : zR := if σ 37 i 7 = 0 then zw (zrs (zcp (zw σ 37 i 5 (if σ 37 i 5 < w then w else σ 37 i 5)) 42 i 44 i) 42 i (if σ 37 i 5 < w then w else σ 37 i 5)) 42 i 3 0 else if σ 37 i 5 < w then zw (zrs (zcp (zw σ 37 i 5 (if σ 37 i 5 < w then w else σ 37 i 5)) 42 i 44 i) 42 i (if σ 37 i 5 < w then w else σ 37 i 5)) 42 i 3 1 else zw σ 42 i 3 (σ 42 i 3 + 1)
def ztb (σ : zR) (i : Nat) (w : Int32) : zR := if 0 < w then (if σ 42 i 3 = 0 then ztb2 (zw (zcp (zw σ 37 i 6 w) 44 i 42 i) 37 i 5 0) i w else ztb2 (zw σ 37 i 6 w) i w) else σ
theorem zrs_37 {σ : zR} {s i t j f : Nat} {b : Int32} (h : ¬ t = s) : zrs σ s i b t j f = σ t j f := by
  unfold zrs
  split
  · simp only [zw_ap, h, false_and, if_false]
  · split
    · split
      · simp only [zw_ap, h, false_and, if_false]
      · rfl
    · simp only [zw_ap, h, false_and, if_false]
theorem zcp_off {σ : zR} {s i t j a b f : Nat} (h : ¬ a = s) : zcp σ s i t j a b f = σ a b f := by
  unfold zcp
  simp only [zw_ap, h, false_and, if_false]
