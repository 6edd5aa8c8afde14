set_option maxRecDepth 3000 in
set_option maxHeartbeats 400000 in
theorem z_pf : ∀ i, i < 6 → ∀ j, j < 6 → i = j ∨ ∃ k, k < 8 ∧ k < zs_len.getD i 0 ∧ k < zs_len.getD j 0 ∧ (zs_byt.getD i []).getD k 0 ≠ (zs_byt.getD j []).getD k 0 := by decide +kernel
set_option maxRecDepth 3000 in
set_option maxHeartbeats 400000 in
theorem zhs_u {t : Nat → Int32} {i j f : Nat} (hi : i < 6) (hj : j < 6) (h1 : zhs t i f) (h2 : zhs t j f) : i = j := by
  rcases z_pf i hi j hj with h | ⟨k, -, k1, k2, k3⟩
  · exact h
  · exact absurd ((h1 k k1).symm.trans (h2 k k2)) k3
set_option maxRecDepth 3000 in
set_option maxHeartbeats 400000 in
theorem zfk_0 {t : Nat → Int32} : ∀ k i, (∀ j, i ≤ j → j < i + k → ¬ zhs t j 0) → zfk t k i = -1
  | 0, _, _ => rfl
  | k + 1, i, h => by
    rw [zfk, if_neg (h i (by omega) (by omega))]
    exact zfk_0 k (i + 1) (fun j h1 h2 => h j (by omega) (by omega))
set_option maxRecDepth 3000 in
set_option maxHeartbeats 400000 in
theorem zfk_1 {t : Nat → Int32} {j : Nat} (hj : j < 6) (h : zhs t j 0) : ∀ k i, i ≤ j → i + k = 6 → zfk t k i = nI j
  | 0, i, h1, h2 => by omega
  | k + 1, i, h1, h2 => by
    rw [zfk]
    by_cases hb : zhs t i 0
    · rw [if_pos hb, zhs_u (by omega) hj hb h]
    · rw [if_neg hb]
      have : i ≠ j := fun q => hb (q ▸ h)
      exact zfk_1 hj h k (i + 1) (by omega) (by omega)
set_option maxRecDepth 3000 in
set_option maxHeartbeats 400000 in
theorem zs_len6 : ∀ j, j < 6 → zs_len.getD j 0 < 6 ∧ 3 ≤ zs_len.getD j 0 := by decide +kernel
def zE2 (t : Nat → Int32) (e : Nat) : Nat := if t e = 33 then e + 1 else e
def zOk2 (t : Nat → Int32) (n e : Nat) : Prop := t (zE2 t e) = 58 ∧ t (zE2 t e + 1) = 32 ∧ zE2 t e + 2 < n
noncomputable def zWt (t : Nat → Int32) (n e j : Nat) : Int32 := @ite _ (t e = 33 ∨ zEb t n (zE2 t e + 2)) (Classical.propDecidable _) 3 (zs_wt.getD j 0)
def zk3 (σ : zR) (a b c : Int32) : zR := zw (zw (zw σ 14 0 0 a) 14 0 1 b) 14 0 2 c
set_option maxRecDepth 3000 in
set_option maxHeartbeats 400000 in
theorem zk3_off {σ : zR} {a b c : Int32} {s i : Nat} (h : ¬ s = 14) : zk3 σ a b c s i = σ s i := by
  unfold zk3
  rw [zw_off _ _ _ _ _ _ _ (fun q => h q.1), zw_off _ _ _ _ _ _ _ (fun q => h q.1), zw_off _ _ _ _ _ _ _ (fun q => h q.1)]
set_option maxRecDepth 3000 in
set_option maxHeartbeats 400000 in
theorem zk3_T {σ : zR} {a b c : Int32} {n : Nat} (h : zTape σ n) : zTape (zk3 σ a b c) n := by
  unfold zTape
  rw [zk3_off (by omega), zk3_off (by omega)]
  exact h
set_option maxRecDepth 3000 in
set_option maxHeartbeats 400000 in
theorem zk3_12 {σ : zR} {a b : Int32} {n : Nat} (h : zTape σ n) : zTape (zw (zw σ 14 0 0 a) 14 0 1 b) n := by
  unfold zTape
  rw [zw_off _ _ _ _ _ _ _ (fun q => by omega), zw_off _ _ _ _ _ _ _ (fun q => by omega), zw_off _ _ _ _ _ _ _ (fun q => by omega), zw_off _ _ _ _ _ _ _ (fun q => by omega)]
  exact h
set_option maxRecDepth 3000 in
set_option maxHeartbeats 400000 in
theorem z_814 : (8 ≤ 14) = True := eq_true (by decide)
set_option maxRecDepth 3000 in
set_option maxHeartbeats 400000 in
theorem z_5833 : ((58 : Int32) = 33) = False := eq_false (by decide)
section ZS3
variable {G : zG} {σ : zR} {o : zmO}
set_option maxRecDepth 3000 in
set_option maxHeartbeats 400000 in
theorem r1_no {d n e : Nat} {j c lw : Int32} {l6 l7 : Option zmV} (ht : zTape σ n) (he : e < 500) (hno : ¬ zOk2 (zat (σ 39 0) n) n e) : zm_E (zm_Calls (d + 6)) 72 88 [some (.inr (.inr (some (14, 0)))), some (.inr (.inr (some (13, 0)))), some (.inl lw), some (.inl j), some (.inl (nI e)), some (.inl c), l6, l7] [] (zh G σ) o ↔ o = (none, zh G σ) := by
  have t2 := ht.2.1
  have ta := fun a (ha : a < 1000) o => t_at (G := G) (o := o) (d := d + 5) ht ha
  unfold zOk2 zE2 at hno
  generalize zat (σ 39 0) n = t at *
  have key : ∀ e2, e2 < 600 → ¬ (t e2 = 58 ∧ t (e2 + 1) = 32 ∧ e2 + 2 < n) → ∀ l6, (zm_E (zm_Calls (d + 6)) 72 114 [some (.inr (.inr (some (14, 0)))), some (.inr (.inr (some (13, 0)))), some (.inl lw), some (.inl j), some (.inl (nI e2)), some (.inl c), l6, l7] [] (zh G σ) o ↔ o = (none, zh G σ)) := by
    intro e2 he2 hq l6
    have f0 := ta e2 (by omega)
    have f1 := ta (e2 + 1) (by omega)
    have e1 : nI e2 + 1 = nI (e2 + 1) := nI_1 _
    have e3 : nI e2 + 2 = nI (e2 + 2) := nI_add e2 2
    by_cases h1 : t e2 = 58
    · by_cases h2 : t (e2 + 1) = 32
      · have h3 : ¬ nI (e2 + 2) < nI n := z_nltI (fun z => hq ⟨h1, h2, z⟩) (by omega) (by omega)
        simp only [↓reduceIte, true_and, and_true, zf_i, zf_0, zf_1, zb_fit, z_ex, Option.toList_some, Option.toList_none, List.cons_append, List.nil_append, zb_0, z_ie, z_iv, z_ih, z_iz, z_izn, z_i2, z_ia, z_io, z_ina, z_8, Classical.not_not, x72_0, x72_1, x72_2, x72_5, x72_6, x72_7, x72_10, x72_11, x72_12, x72_15, x72_16, x72_19, x72_20, x72_21, x72_22, x72_25, x72_26, x72_27, x72_30, x72_33, x72_35, x72_36, x72_38, x72_39, x72_41, x72_44, x72_46, x72_49, x72_50, x72_52, x72_53, x72_54, x72_57, x72_59, x72_61, x72_63, x72_64, x72_65, x72_66, x72_68, x72_70, x72_73, x72_74, x72_76, x72_79, x72_81, x72_84, x72_85, x72_88, x72_89, x72_91, x72_94, x72_96, x72_99, x72_100, x72_104, x72_106, x72_108, x72_111, x72_114, x72_116, x72_117, x72_118, x72_120, x72_121, x72_123, x72_126, x72_128, x72_131, x72_132, x72_134, x72_135, x72_136, x72_139, x72_141, x72_144, x72_146, x72_147, x72_150, x72_153, x72_154, x72_155, x72_156, x72_159, x72_160, x72_162, x72_165, x72_166, x72_168, x72_171, x72_172, x72_174, x72_177, x72_180, x72_181, x72_188, x72_191, x72_184, x72_185, x72_103, zf13_0, zf13_1, zf14_0, zf14_1, zf14_2, zq13_0, zq13_1, zq14_0, zq14_1, zq14_2, zp13_1, zp14_0, zp14_1, zp14_2, zo13, zo14, z_814, z_5833, true_and, f0, f1, e1, e3, h1, h2, c97, ht.1, h3]
      · simp only [↓reduceIte, true_and, and_true, zf_i, zf_0, zf_1, zb_fit, z_ex, Option.toList_some, Option.toList_none, List.cons_append, List.nil_append, zb_0, z_ie, z_iv, z_ih, z_iz, z_izn, z_i2, z_ia, z_io, z_ina, z_8, Classical.not_not, x72_0, x72_1, x72_2, x72_5, x72_6, x72_7, x72_10, x72_11, x72_12, x72_15, x72_16, x72_19, x72_20, x72_21, x72_22, x72_25, x72_26, x72_27, x72_30, x72_33, x72_35, x72_36, x72_38, x72_39, x72_41, x72_44, x72_46, x72_49, x72_50, x72_52, x72_53, x72_54, x72_57, x72_59, x72_61, x72_63, x72_64, x72_65, x72_66, x72_68, x72_70, x72_73, x72_74, x72_76, x72_79, x72_81, x72_84, x72_85, x72_88, x72_89, x72_91, x72_94, x72_96, x72_99, x72_100, x72_104, x72_106, x72_108, x72_111, x72_114, x72_116, x72_117, x72_118, x72_120, x72_121, x72_123, x72_126, x72_128, x72_131, x72_132, x72_134, x72_135, x72_136, x72_139, x72_141, x72_144, x72_146, x72_147, x72_150, x72_153, x72_154, x72_155, x72_156, x72_159, x72_160, x72_162, x72_165, x72_166, x72_168, x72_171, x72_172, x72_174, x72_177, x72_180, x72_181, x72_188, x72_191, x72_184, x72_185, x72_103, zf13_0, zf13_1, zf14_0, zf14_1, zf14_2, zq13_0, zq13_1, zq14_0, zq14_1, zq14_2, zp13_1, zp14_0, zp14_1, zp14_2, zo13, zo14, z_814, z_5833, true_and, f0, f1, e1, e3, h1, h2]
    · simp only [↓reduceIte, true_and, and_true, zf_i, zf_0, zf_1, zb_fit, z_ex, Option.toList_some, Option.toList_none, List.cons_append, List.nil_append, zb_0, z_ie, z_iv, z_ih, z_iz, z_izn, z_i2, z_ia, z_io, z_ina, z_8, Classical.not_not, x72_0, x72_1, x72_2, x72_5, x72_6, x72_7, x72_10, x72_11, x72_12, x72_15, x72_16, x72_19, x72_20, x72_21, x72_22, x72_25, x72_26, x72_27, x72_30, x72_33, x72_35, x72_36, x72_38, x72_39, x72_41, x72_44, x72_46, x72_49, x72_50, x72_52, x72_53, x72_54, x72_57, x72_59, x72_61, x72_63, x72_64, x72_65, x72_66, x72_68, x72_70, x72_73, x72_74, x72_76, x72_79, x72_81, x72_84, x72_85, x72_88, x72_89, x72_91, x72_94, x72_96, x72_99, x72_100, x72_104, x72_106, x72_108, x72_111, x72_114, x72_116, x72_117, x72_118, x72_120, x72_121, x72_123, x72_126, x72_128, x72_131, x72_132, x72_134, x72_135, x72_136, x72_139, x72_141, x72_144, x72_146, x72_147, x72_150, x72_153, x72_154, x72_155, x72_156, x72_159, x72_160, x72_162, x72_165, x72_166, x72_168, x72_171, x72_172, x72_174, x72_177, x72_180, x72_181, x72_188, x72_191, x72_184, x72_185, x72_103, zf13_0, zf13_1, zf14_0, zf14_1, zf14_2, zq13_0, zq13_1, zq14_0, zq14_1, zq14_2, zp13_1, zp14_0, zp14_1, zp14_2, zo13, zo14, z_814, z_5833, true_and, f0, e3, h1]
  have f := ta e (by omega)
  by_cases hb : t e = 33
  · rw [if_pos hb] at hno
    have k := key (e + 1) (by omega) hno (some (.inl 1))
    simp only [↓reduceIte, true_and, and_true, zf_i, zf_0, zf_1, zb_fit, z_ex, Option.toList_some, Option.toList_none, List.cons_append, List.nil_append, zb_0, z_ie, z_iv, z_ih, z_iz, z_izn, z_i2, z_ia, z_io, z_ina, z_8, Classical.not_not, x72_0, x72_1, x72_2, x72_5, x72_6, x72_7, x72_10, x72_11, x72_12, x72_15, x72_16, x72_19, x72_20, x72_21, x72_22, x72_25, x72_26, x72_27, x72_30, x72_33, x72_35, x72_36, x72_38, x72_39, x72_41, x72_44, x72_46, x72_49, x72_50, x72_52, x72_53, x72_54, x72_57, x72_59, x72_61, x72_63, x72_64, x72_65, x72_66, x72_68, x72_70, x72_73, x72_74, x72_76, x72_79, x72_81, x72_84, x72_85, x72_88, x72_89, x72_91, x72_94, x72_96, x72_99, x72_100, x72_104, x72_106, x72_108, x72_111, x72_114, x72_116, x72_117, x72_118, x72_120, x72_121, x72_123, x72_126, x72_128, x72_131, x72_132, x72_134, x72_135, x72_136, x72_139, x72_141, x72_144, x72_146, x72_147, x72_150, x72_153, x72_154, x72_155, x72_156, x72_159, x72_160, x72_162, x72_165, x72_166, x72_168, x72_171, x72_172, x72_174, x72_177, x72_180, x72_181, x72_188, x72_191, x72_184, x72_185, x72_103, zf13_0, zf13_1, zf14_0, zf14_1, zf14_2, zq13_0, zq13_1, zq14_0, zq14_1, zq14_2, zp13_1, zp14_0, zp14_1, zp14_2, zo13, zo14, z_814, z_5833, true_and] at k
    simp only [↓reduceIte, true_and, and_true, zf_i, zf_0, zf_1, zb_fit, z_ex, Option.toList_some, Option.toList_none, List.cons_append, List.nil_append, zb_0, z_ie, z_iv, z_ih, z_iz, z_izn, z_i2, z_ia, z_io, z_ina, z_8, Classical.not_not, x72_0, x72_1, x72_2, x72_5, x72_6, x72_7, x72_10, x72_11, x72_12, x72_15, x72_16, x72_19, x72_20, x72_21, x72_22, x72_25, x72_26, x72_27, x72_30, x72_33, x72_35, x72_36, x72_38, x72_39, x72_41, x72_44, x72_46, x72_49, x72_50, x72_52, x72_53, x72_54, x72_57, x72_59, x72_61, x72_63, x72_64, x72_65, x72_66, x72_68, x72_70, x72_73, x72_74, x72_76, x72_79, x72_81, x72_84, x72_85, x72_88, x72_89, x72_91, x72_94, x72_96, x72_99, x72_100, x72_104, x72_106, x72_108, x72_111, x72_114, x72_116, x72_117, x72_118, x72_120, x72_121, x72_123, x72_126, x72_128, x72_131, x72_132, x72_134, x72_135, x72_136, x72_139, x72_141, x72_144, x72_146, x72_147, x72_150, x72_153, x72_154, x72_155, x72_156, x72_159, x72_160, x72_162, x72_165, x72_166, x72_168, x72_171, x72_172, x72_174, x72_177, x72_180, x72_181, x72_188, x72_191, x72_184, x72_185, x72_103, zf13_0, zf13_1, zf14_0, zf14_1, zf14_2, zq13_0, zq13_1, zq14_0, zq14_1, zq14_2, zp13_1, zp14_0, zp14_1, zp14_2, zo13, zo14, z_814, z_5833, true_and, f, hb, z_10, nI_1, k]
  · rw [if_neg hb] at hno
    have k := key e (by omega) hno (some (.inl 0))
    simp only [↓reduceIte, true_and, and_true, zf_i, zf_0, zf_1, zb_fit, z_ex, Option.toList_some, Option.toList_none, List.cons_append, List.nil_append, zb_0, z_ie, z_iv, z_ih, z_iz, z_izn, z_i2, z_ia, z_io, z_ina, z_8, Classical.not_not, x72_0, x72_1, x72_2, x72_5, x72_6, x72_7, x72_10, x72_11, x72_12, x72_15, x72_16, x72_19, x72_20, x72_21, x72_22, x72_25, x72_26, x72_27, x72_30, x72_33, x72_35, x72_36, x72_38, x72_39, x72_41, x72_44, x72_46, x72_49, x72_50, x72_52, x72_53, x72_54, x72_57, x72_59, x72_61, x72_63, x72_64, x72_65, x72_66, x72_68, x72_70, x72_73, x72_74, x72_76, x72_79, x72_81, x72_84, x72_85, x72_88, x72_89, x72_91, x72_94, x72_96, x72_99, x72_100, x72_104, x72_106, x72_108, x72_111, x72_114, x72_116, x72_117, x72_118, x72_120, x72_121, x72_123, x72_126, x72_128, x72_131, x72_132, x72_134, x72_135, x72_136, x72_139, x72_141, x72_144, x72_146, x72_147, x72_150, x72_153, x72_154, x72_155, x72_156, x72_159, x72_160, x72_162, x72_165, x72_166, x72_168, x72_171, x72_172, x72_174, x72_177, x72_180, x72_181, x72_188, x72_191, x72_184, x72_185, x72_103, zf13_0, zf13_1, zf14_0, zf14_1, zf14_2, zq13_0, zq13_1, zq14_0, zq14_1, zq14_2, zp13_1, zp14_0, zp14_1, zp14_2, zo13, zo14, z_814, z_5833, true_and, f] at k
    simp only [↓reduceIte, true_and, and_true, zf_i, zf_0, zf_1, zb_fit, z_ex, Option.toList_some, Option.toList_none, List.cons_append, List.nil_append, zb_0, z_ie, z_iv, z_ih, z_iz, z_izn, z_i2, z_ia, z_io, z_ina, z_8, Classical.not_not, x72_0, x72_1, x72_2, x72_5, x72_6, x72_7, x72_10, x72_11, x72_12, x72_15, x72_16, x72_19, x72_20, x72_21, x72_22, x72_25, x72_26, x72_27, x72_30, x72_33, x72_35, x72_36, x72_38, x72_39, x72_41, x72_44, x72_46, x72_49, x72_50, x72_52, x72_53, x72_54, x72_57, x72_59, x72_61, x72_63, x72_64, x72_65, x72_66, x72_68, x72_70, x72_73, x72_74, x72_76, x72_79, x72_81, x72_84, x72_85, x72_88, x72_89, x72_91, x72_94, x72_96, x72_99, x72_100, x72_104, x72_106, x72_108, x72_111, x72_114, x72_116, x72_117, x72_118, x72_120, x72_121, x72_123, x72_126, x72_128, x72_131, x72_132, x72_134, x72_135, x72_136, x72_139, x72_141, x72_144, x72_146, x72_147, x72_150, x72_153, x72_154, x72_155, x72_156, x72_159, x72_160, x72_162, x72_165, x72_166, x72_168, x72_171, x72_172, x72_174, x72_177, x72_180, x72_181, x72_188, x72_191, x72_184, x72_185, x72_103, zf13_0, zf13_1, zf14_0, zf14_1, zf14_2, zq13_0, zq13_1, zq14_0, zq14_1, zq14_2, zp13_1, zp14_0, zp14_1, zp14_2, zo13, zo14, z_814, z_5833, true_and, f, hb, k]
set_option maxRecDepth 3000 in
set_option maxHeartbeats 400000 in
theorem r1_ok {d n e j : Nat} {c lw : Int32} {l6 l7 : Option zmV} (ht : zTape σ n) (he : e < 500) (hj : j < 6) (hno : zOk2 (zat (σ 39 0) n) n e) : zm_E (zm_Calls (d + 6)) 72 88 [some (.inr (.inr (some (14, 0)))), some (.inr (.inr (some (13, 0)))), some (.inl lw), some (.inl (nI j)), some (.inl (nI e)), some (.inl c), l6, l7] [] (zh G σ) o ↔ o = (none, zh G (zk3 σ (nI j) c (zWt (zat (σ 39 0) n) n e j))) := by
  have t2 := ht.2.1
  have ta := fun a (ha : a < 1000) o => t_at (G := G) (o := o) (d := d + 5) ht ha
  have hk := zk3_12 (a := nI j) (b := c) ht
  have eb := fun f (hf : f < 1000) o => c98 (G := G) (o := o) (d := d) hk hf
  rw [show (zw (zw σ 14 0 0 (nI j)) 14 0 1 c) 39 0 = σ 39 0 by rw [zw_off _ _ _ _ _ _ _ (fun q => by omega), zw_off _ _ _ _ _ _ _ (fun q => by omega)]] at eb
  have ew := fun o => c99 (G := G) (σ := zw (zw σ 14 0 0 (nI j)) 14 0 1 c) (o := o) (d := d + 5) hj
  unfold zk3 zWt
  unfold zOk2 at hno
  have he2 : zE2 (zat (σ 39 0) n) e < 600 := by unfold zE2; split <;> omega
  have hE : ∀ x, x = zE2 (zat (σ 39 0) n) e → x = if zat (σ 39 0) n e = 33 then e + 1 else e := fun x h => h
  generalize zE2 (zat (σ 39 0) n) e = e2 at *
  have hE := hE e2 rfl
  generalize zat (σ 39 0) n = t at *
  obtain ⟨h1, h2, h3⟩ := hno
  have h3 : nI (e2 + 2) < nI n := z_ltI h3 (by omega)
  have f0 := ta e2 (by omega)
  have f1 := ta (e2 + 1) (by omega)
  have e1 : nI e2 + 1 = nI (e2 + 1) := nI_1 _
  have e3 : nI e2 + 2 = nI (e2 + 2) := nI_add e2 2
  have f := ta e (by omega)
  by_cases hb : t e = 33
  · rw [if_pos hb] at hE
    rw [if_pos (Or.inl hb)]
    subst hE
    simp only [↓reduceIte, true_and, and_true, zf_i, zf_0, zf_1, zb_fit, z_ex, Option.toList_some, Option.toList_none, List.cons_append, List.nil_append, zb_0, z_ie, z_iv, z_ih, z_iz, z_izn, z_i2, z_ia, z_io, z_ina, z_8, Classical.not_not, x72_0, x72_1, x72_2, x72_5, x72_6, x72_7, x72_10, x72_11, x72_12, x72_15, x72_16, x72_19, x72_20, x72_21, x72_22, x72_25, x72_26, x72_27, x72_30, x72_33, x72_35, x72_36, x72_38, x72_39, x72_41, x72_44, x72_46, x72_49, x72_50, x72_52, x72_53, x72_54, x72_57, x72_59, x72_61, x72_63, x72_64, x72_65, x72_66, x72_68, x72_70, x72_73, x72_74, x72_76, x72_79, x72_81, x72_84, x72_85, x72_88, x72_89, x72_91, x72_94, x72_96, x72_99, x72_100, x72_104, x72_106, x72_108, x72_111, x72_114, x72_116, x72_117, x72_118, x72_120, x72_121, x72_123, x72_126, x72_128, x72_131, x72_132, x72_134, x72_135, x72_136, x72_139, x72_141, x72_144, x72_146, x72_147, x72_150, x72_153, x72_154, x72_155, x72_156, x72_159, x72_160, x72_162, x72_165, x72_166, x72_168, x72_171, x72_172, x72_174, x72_177, x72_180, x72_181, x72_188, x72_191, x72_184, x72_185, x72_103, zf13_0, zf13_1, zf14_0, zf14_1, zf14_2, zq13_0, zq13_1, zq14_0, zq14_1, zq14_2, zp13_1, zp14_0, zp14_1, zp14_2, zo13, zo14, z_814, z_5833, true_and, f, hb, z_10, nI_1, f0, f1, e1, e3, h1, h2, c97, ht.1, h3]
  · rw [if_neg hb] at hE
    subst hE
    by_cases hB : zEb t n (e2 + 2)
    · rw [if_pos (Or.inr hB)]
      simp only [↓reduceIte, true_and, and_true, zf_i, zf_0, zf_1, zb_fit, z_ex, Option.toList_some, Option.toList_none, List.cons_append, List.nil_append, zb_0, z_ie, z_iv, z_ih, z_iz, z_izn, z_i2, z_ia, z_io, z_ina, z_8, Classical.not_not, x72_0, x72_1, x72_2, x72_5, x72_6, x72_7, x72_10, x72_11, x72_12, x72_15, x72_16, x72_19, x72_20, x72_21, x72_22, x72_25, x72_26, x72_27, x72_30, x72_33, x72_35, x72_36, x72_38, x72_39, x72_41, x72_44, x72_46, x72_49, x72_50, x72_52, x72_53, x72_54, x72_57, x72_59, x72_61, x72_63, x72_64, x72_65, x72_66, x72_68, x72_70, x72_73, x72_74, x72_76, x72_79, x72_81, x72_84, x72_85, x72_88, x72_89, x72_91, x72_94, x72_96, x72_99, x72_100, x72_104, x72_106, x72_108, x72_111, x72_114, x72_116, x72_117, x72_118, x72_120, x72_121, x72_123, x72_126, x72_128, x72_131, x72_132, x72_134, x72_135, x72_136, x72_139, x72_141, x72_144, x72_146, x72_147, x72_150, x72_153, x72_154, x72_155, x72_156, x72_159, x72_160, x72_162, x72_165, x72_166, x72_168, x72_171, x72_172, x72_174, x72_177, x72_180, x72_181, x72_188, x72_191, x72_184, x72_185, x72_103, zf13_0, zf13_1, zf14_0, zf14_1, zf14_2, zq13_0, zq13_1, zq14_0, zq14_1, zq14_2, zp13_1, zp14_0, zp14_1, zp14_2, zo13, zo14, z_814, z_5833, true_and, f, hb, f0, f1, e1, e3, h1, h2, c97, ht.1, h3, eb _ (show e2 + 2 < 1000 by omega), zbc_t hB, z_10]
    · rw [if_neg (fun q => q.elim hb hB)]
      simp only [↓reduceIte, true_and, and_true, zf_i, zf_0, zf_1, zb_fit, z_ex, Option.toList_some, Option.toList_none, List.cons_append, List.nil_append, zb_0, z_ie, z_iv, z_ih, z_iz, z_izn, z_i2, z_ia, z_io, z_ina, z_8, Classical.not_not, x72_0, x72_1, x72_2, x72_5, x72_6, x72_7, x72_10, x72_11, x72_12, x72_15, x72_16, x72_19, x72_20, x72_21, x72_22, x72_25, x72_26, x72_27, x72_30, x72_33, x72_35, x72_36, x72_38, x72_39, x72_41, x72_44, x72_46, x72_49, x72_50, x72_52, x72_53, x72_54, x72_57, x72_59, x72_61, x72_63, x72_64, x72_65, x72_66, x72_68, x72_70, x72_73, x72_74, x72_76, x72_79, x72_81, x72_84, x72_85, x72_88, x72_89, x72_91, x72_94, x72_96, x72_99, x72_100, x72_104, x72_106, x72_108, x72_111, x72_114, x72_116, x72_117, x72_118, x72_120, x72_121, x72_123, x72_126, x72_128, x72_131, x72_132, x72_134, x72_135, x72_136, x72_139, x72_141, x72_144, x72_146, x72_147, x72_150, x72_153, x72_154, x72_155, x72_156, x72_159, x72_160, x72_162, x72_165, x72_166, x72_168, x72_171, x72_172, x72_174, x72_177, x72_180, x72_181, x72_188, x72_191, x72_184, x72_185, x72_103, zf13_0, zf13_1, zf14_0, zf14_1, zf14_2, zq13_0, zq13_1, zq14_0, zq14_1, zq14_2, zp13_1, zp14_0, zp14_1, zp14_2, zo13, zo14, z_814, z_5833, true_and, f, hb, f0, f1, e1, e3, h1, h2, c97, ht.1, h3, eb _ (show e2 + 2 < 1000 by omega), zbc_f hB, ew]
end ZS3
