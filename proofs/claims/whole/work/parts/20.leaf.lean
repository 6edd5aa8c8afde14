def zb (c : Prop) [Decidable c] : Int32 := if c then 1 else 0
theorem zb_fit {c : Prop} [Decidable c] : zm_fit .boolean (.inl (zb c)) = true := by
  unfold zb zm_fit
  by_cases h : c
  · rw [if_pos h]; rfl
  · rw [if_neg h]; rfl
theorem zb_0 {c : Prop} [Decidable c] : zb c = 0 ↔ ¬ c := by
  unfold zb
  by_cases h : c
  · rw [if_pos h]; exact ⟨fun q => absurd q (by decide), fun q => absurd h q⟩
  · rw [if_neg h]; exact ⟨fun _ => h, fun _ => rfl⟩
theorem zf_i {x : Int32} : zm_fit .int (.inl x) = true := rfl
theorem zf_0 : zm_fit .boolean (.inl 0) = true := rfl
theorem zf_1 : zm_fit .boolean (.inl 1) = true := rfl
theorem z_ie {α : Type} {o a b : α} {c : Prop} [Decidable c] : (if c then o = a else o = b) ↔ o = if c then a else b := by
  by_cases h : c
  · rw [if_pos h, if_pos h]
  · rw [if_neg h, if_neg h]
theorem z_iv {a b : Int32} {h : zmH} {c : Prop} [Decidable c] : (if c then ((some (.inl a), h) : zmO) else (some (.inl b), h)) = (some (.inl (if c then a else b)), h) := by
  by_cases q : c
  · rw [if_pos q, if_pos q]
  · rw [if_neg q, if_neg q]
theorem z_iz {c : Prop} [Decidable c] : (if c then (1 : Int32) else 0) = zb c := rfl
theorem z_izn {c : Prop} [Decidable c] : (if c then (0 : Int32) else 1) = zb (¬ c) := by
  unfold zb
  by_cases q : c
  · rw [if_pos q, if_neg (fun z => z q)]
  · rw [if_neg q, if_pos q]
theorem zf_ite {ty : FieldType} {a b : Int32} {c : Prop} [Decidable c] : zm_fit ty (.inl (if c then a else b)) = if c then zm_fit ty (.inl a) else zm_fit ty (.inl b) := by
  by_cases q : c
  · rw [if_pos q, if_pos q]
  · rw [if_neg q, if_neg q]
theorem z_i2 {a b : Prop} [Decidable a] [Decidable b] : (if a then (0 : Int32) else if b then 0 else 1) = zb (¬ a ∧ ¬ b) := by
  unfold zb
  by_cases p : a
  · rw [if_pos p, if_neg (fun z => z.1 p)]
  · rw [if_neg p]
    by_cases q : b
    · rw [if_pos q, if_neg (fun z => z.2 q)]
    · rw [if_neg q, if_pos ⟨p, q⟩]
theorem z_ia {a b : Prop} [Decidable a] [Decidable b] : (if a then zb b else 0) = zb (a ∧ b) := by
  unfold zb
  by_cases p : a
  · rw [if_pos p]
    by_cases q : b
    · rw [if_pos q, if_pos ⟨p, q⟩]
    · rw [if_neg q, if_neg (fun z => q z.2)]
  · rw [if_neg p, if_neg (fun z => p z.1)]
theorem z_ina {a b : Prop} [Decidable a] [Decidable b] : (if a then 0 else zb b) = zb (¬ a ∧ b) := by
  unfold zb
  by_cases p : a
  · rw [if_pos p, if_neg (fun z => z.1 p)]
  · rw [if_neg p]
    by_cases q : b
    · rw [if_pos q, if_pos ⟨p, q⟩]
    · rw [if_neg q, if_neg (fun z => q z.2)]
theorem z_io {a b : Prop} [Decidable a] [Decidable b] : (if a then 1 else zb b) = zb (a ∨ b) := by
  unfold zb
  by_cases p : a
  · rw [if_pos p, if_pos (Or.inl p)]
  · rw [if_neg p]
    by_cases q : b
    · rw [if_pos q, if_pos (Or.inr q)]
    · rw [if_neg q, if_neg (fun z => z.elim p q)]
theorem z_ih {G : zG} {a b : zR} {v : Option zmV} {c : Prop} [Decidable c] : (if c then ((v, zh G a) : zmO) else (v, zh G b)) = (v, zh G (if c then a else b)) := by
  by_cases q : c
  · rw [if_pos q, if_pos q]
  · rw [if_neg q, if_neg q]
theorem z_8 {s i : Nat} : ((s, i) : zmK).1 = s := rfl
theorem z_ex {α : Type} {a : α} {P : α → Prop} : (∃ q, q = a ∧ P q) ↔ P a := exists_eq_left
theorem c40 {d : Nat} {v lo hi : Int32} {h : zmH} {o : zmO} : zm_Calls (d + 1) 40 [.inl v, .inl lo, .inl hi] h o ↔ o = (some (.inl (zb (¬ v < lo ∧ ¬ hi < v))), h) := by
  simp only [i40, x40_0, x40_1, x40_2, x40_5, x40_6, x40_7, x40_10, x40_11, x40_15, x40_14, zf_0, zf_1, true_and, z_ie, z_iv, z_i2]
theorem c38 {d : Nat} {v : Int32} {h : zmH} {o : zmO} : zm_Calls (d + 1) 38 [.inl v] h o ↔ o = (some (.inl (zb (¬ v < 0 ∧ ¬ 99 < v))), h) := by
  simp only [i38, x38_0, x38_1, x38_4, x38_5, x38_7, x38_10, x38_11, x38_15, x38_14, zf_0, zf_1, true_and, z_ie, z_iv, z_i2]
theorem c43 {d : Nat} {v : Int32} {G : zG} {σ : zR} {o : zmO} : zm_Calls (d + 2) 43 [.inr (.inr (some (9, 0))), .inl v] (zh G σ) o ↔ o = (some (.inl (zb (¬ v < 0 ∧ ¬ σ 9 0 1 - 1 < v))), zh G σ) := by
  simp only [i43, x43_0, x43_1, x43_2, x43_3, x43_6, x43_7, x43_8, x43_11, zf9_0, zf9_1, zf9_2, zf9_3, zf9_4, zf9_5, zf9_6, zf9_7, zf9_8, zf9_9, zf9_10, zf9_11, zf9_12, zf9_13, zf9_14, zf9_15, zf9_16, zf9_17, zf9_18, zf9_19, zf9_20, zf9_21, zf9_22, zf9_23, zf9_24, zf9_25, zf9_26, zf9_27, zf9_28, zf9_29, zf9_30, zf9_31, zq9_0, zq9_1, zq9_2, zq9_3, zq9_4, zq9_5, zq9_6, zq9_7, zq9_8, zq9_9, zq9_10, zq9_11, zq9_12, zq9_13, zq9_14, zq9_15, zq9_16, zq9_17, zq9_18, zq9_19, zq9_20, zq9_21, zq9_22, zq9_23, zq9_24, zq9_25, zq9_26, zq9_27, zq9_28, zq9_29, zq9_30, zq9_31, zp9_0, zp9_1, zp9_8, zp9_10, zp9_11, zp9_18, zp9_19, zp9_20, zp9_21, zp9_23, zp9_25, zp9_28, zo9, true_and, c40, z_ex, Option.toList_some, List.cons_append, List.nil_append, zb_fit]
theorem c51 {d : Nat} {v : Int32} {G : zG} {σ : zR} {o : zmO} : zm_Calls (d + 2) 51 [.inr (.inr (some (9, 0))), .inl v] (zh G σ) o ↔ o = (some (.inl (zb (¬ v < 0 ∧ ¬ σ 9 0 11 - 1 < v))), zh G σ) := by
  simp only [i51, x51_0, x51_1, x51_2, x51_3, x51_6, x51_7, x51_8, x51_11, zf9_0, zf9_1, zf9_2, zf9_3, zf9_4, zf9_5, zf9_6, zf9_7, zf9_8, zf9_9, zf9_10, zf9_11, zf9_12, zf9_13, zf9_14, zf9_15, zf9_16, zf9_17, zf9_18, zf9_19, zf9_20, zf9_21, zf9_22, zf9_23, zf9_24, zf9_25, zf9_26, zf9_27, zf9_28, zf9_29, zf9_30, zf9_31, zq9_0, zq9_1, zq9_2, zq9_3, zq9_4, zq9_5, zq9_6, zq9_7, zq9_8, zq9_9, zq9_10, zq9_11, zq9_12, zq9_13, zq9_14, zq9_15, zq9_16, zq9_17, zq9_18, zq9_19, zq9_20, zq9_21, zq9_22, zq9_23, zq9_24, zq9_25, zq9_26, zq9_27, zq9_28, zq9_29, zq9_30, zq9_31, zp9_0, zp9_1, zp9_8, zp9_10, zp9_11, zp9_18, zp9_19, zp9_20, zp9_21, zp9_23, zp9_25, zp9_28, zo9, true_and, c40, z_ex, Option.toList_some, List.cons_append, List.nil_append, zb_fit]
theorem c63 {d i : Nat} {v : Int32} {G : zG} {σ : zR} {o : zmO} (hi : i < G.2.2.1) : zm_Calls (d + 1) 63 [.inr (.inr (some (42, i))), .inl v] (zh G σ) o ↔ o = (some (.inl (if v = 0 then σ 42 i 0 else if v = 1 then σ 42 i 1 else if v = 2 then σ 42 i 2 else if v = 3 then σ 42 i 3 else -1)), zh G σ) := by
  simp only [i63, x63_0, x63_1, x63_52, x63_53, x63_47, x63_48, x63_51, x63_42, x63_43, x63_46, x63_37, x63_38, x63_41, x63_32, x63_33, x63_36, zf42_0, zf42_1, zf42_2, zf42_3, zq42_0, zq42_1, zq42_2, zq42_3, zp42_0, zp42_1, zp42_2, zp42_3, zo42, hi, true_and, zf_i, z_ie, z_iv]
theorem c64 {d i : Nat} {v : Int32} {G : zG} {σ : zR} {o : zmO} (hi : i < G.2.2.2.1) : zm_Calls (d + 1) 64 [.inr (.inr (some (45, i))), .inl v] (zh G σ) o ↔ o = (some (.inl (if v = 0 then σ 45 i 2 else if v = 1 then σ 45 i 4 else if v = 2 then (if σ 45 i 5 = 0 then 0 else 1) else if v = 3 then σ 45 i 6 else if v = 4 then σ 45 i 3 else -1)), zh G σ) := by
  simp only [i64, x64_0, x64_1, x64_69, x64_70, x64_64, x64_65, x64_68, x64_59, x64_60, x64_63, x64_46, x64_47, x64_50, x64_53, x64_54, x64_58, x64_57, x64_41, x64_42, x64_45, x64_36, x64_37, x64_40, zf45_0, zf45_1, zf45_2, zf45_3, zf45_4, zf45_5, zf45_6, zq45_0, zq45_1, zq45_2, zq45_3, zq45_4, zq45_5, zq45_6, zp45_0, zp45_1, zp45_2, zp45_3, zp45_4, zp45_5, zp45_6, zo45, hi, true_and, zf_i, z_ie, z_iv]
theorem c79 {d i : Nat} {G : zG} {σ : zR} {o : zmO} (hi : i < G.2.2.2.1) : zm_Calls (d + 1) 79 [.inr (.inr (some (45, i)))] (zh G σ) o ↔ o = (some (.inl (zb (0 < σ 45 i 6))), zh G σ) := by
  simp only [i79, x79_0, x79_1, x79_4, x79_7, x79_8, x79_12, x79_11, zf45_0, zf45_1, zf45_2, zf45_3, zf45_4, zf45_5, zf45_6, zq45_0, zq45_1, zq45_2, zq45_3, zq45_4, zq45_5, zq45_6, zp45_0, zp45_1, zp45_2, zp45_3, zp45_4, zp45_5, zp45_6, zo45, hi, true_and, zf_0, zf_1, z_ie, z_iv, z_iz, z_izn, z_ia]
theorem c52 {d i : Nat} {G : zG} {σ : zR} {o : zmO} (hi : i < G.2.2.2.1) : zm_Calls (d + 2) 52 [.inr (.inr (some (45, i)))] (zh G σ) o ↔ o = (some (.inl (zb (σ 45 i 5 = 0 ∧ ¬ 0 < σ 45 i 6))), zh G σ) := by
  simp only [i52, x52_0, x52_1, x52_4, x52_7, x52_8, x52_11, x52_14, x52_15, x52_19, x52_18, zf45_0, zf45_1, zf45_2, zf45_3, zf45_4, zf45_5, zf45_6, zq45_0, zq45_1, zq45_2, zq45_3, zq45_4, zq45_5, zq45_6, zp45_0, zp45_1, zp45_2, zp45_3, zp45_4, zp45_5, zp45_6, zo45, hi, true_and, zf_0, zf_1, c79 hi, z_ex, Option.toList_some, List.cons_append, List.nil_append, zb_0, z_ie, z_iv, z_iz, z_izn, z_ia]
theorem c103 {d i : Nat} {v : Int32} {G : zG} {σ : zR} {o : zmO} (hi : i < G.2.2.2.1) : zm_Calls (d + 1) 103 [.inr (.inr (some (45, i))), .inl v] (zh G σ) o ↔ o = (some (.inl (zb (σ 45 i 5 = 0 ∧ σ 45 i 6 = v))), zh G σ) := by
  simp only [i103, x103_0, x103_1, x103_4, x103_7, x103_8, x103_11, x103_12, x103_15, x103_16, x103_20, x103_19, zf45_0, zf45_1, zf45_2, zf45_3, zf45_4, zf45_5, zf45_6, zq45_0, zq45_1, zq45_2, zq45_3, zq45_4, zq45_5, zq45_6, zp45_0, zp45_1, zp45_2, zp45_3, zp45_4, zp45_5, zp45_6, zo45, hi, true_and, zf_0, zf_1, z_ie, z_iv, z_iz, z_izn, z_ia]
theorem c104 {d i : Nat} {G : zG} {σ : zR} {o : zmO} (hi : i < G.2.2.2.1) : zm_Calls (d + 1) 104 [.inr (.inr (some (45, i)))] (zh G σ) o ↔ o = (some (.inl (if σ 45 i 4 = 3 then 0 else if σ 45 i 2 = -1 then 7 else σ 45 i 2 + 1)), zh G σ) := by
  simp only [i104, x104_0, x104_1, x104_4, x104_5, x104_8, x104_9, x104_10, x104_11, x104_14, x104_15, x104_18, x104_20, x104_29, x104_23, x104_24, x104_27, x104_28, zf45_0, zf45_1, zf45_2, zf45_3, zf45_4, zf45_5, zf45_6, zq45_0, zq45_1, zq45_2, zq45_3, zq45_4, zq45_5, zq45_6, zp45_0, zp45_1, zp45_2, zp45_3, zp45_4, zp45_5, zp45_6, zo45, hi, true_and, zf_i, z_ie, z_iv]
