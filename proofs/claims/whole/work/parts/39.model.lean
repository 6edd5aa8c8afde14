noncomputable def zfr (σ : zR) (n : Nat) (b : Nat → Int32) : Nat → Nat → Int32
  | 0 => b
  | p + 1 => @ite _ (zfr σ n b p p = 0 ∧ ∃ q, q < n ∧ zbk σ (zfr σ n b p) p q) (Classical.propDecidable _) (upd (zfr σ n b p) p 1) (zfr σ n b p)
set_option maxRecDepth 3000 in
set_option maxHeartbeats 400000 in
theorem zfr_t {σ : zR} {n p : Nat} {b : Nat → Int32} (h : zfr σ n b p p = 0 ∧ ∃ q, q < n ∧ zbk σ (zfr σ n b p) p q) : zfr σ n b (p + 1) = upd (zfr σ n b p) p 1 := if_pos h
set_option maxRecDepth 3000 in
set_option maxHeartbeats 400000 in
theorem zfr_f {σ : zR} {n p : Nat} {b : Nat → Int32} (h : ¬ (zfr σ n b p p = 0 ∧ ∃ q, q < n ∧ zbk σ (zfr σ n b p) p q)) : zfr σ n b (p + 1) = zfr σ n b p := if_neg h
def zfm (σ : zR) (n : Nat) (b cn : Nat → Int32) : Nat → Prop
  | 0 => False
  | p + 1 => zfm σ n b cn p ∨ (0 < zfr σ n b (p + 1) p ∧ cn p = 0)
noncomputable def zcn (σ : zR) (n : Nat) (b cn : Nat → Int32) : Nat → Nat → Int32
  | 0 => cn
  | p + 1 => upd (zcn σ n b cn p) p (zb (0 < zfr σ n b (p + 1) p))
set_option maxRecDepth 3000 in
set_option maxHeartbeats 400000 in
theorem zcn_hi {σ : zR} {n : Nat} {b cn : Nat → Int32} : ∀ j p, j ≤ p → zcn σ n b cn j p = cn p
  | 0, _, _ => rfl
  | j + 1, p, h => by rw [zcn, pk_un (by omega), zcn_hi j p (by omega)]
set_option maxRecDepth 3000 in
set_option maxHeartbeats 400000 in
theorem z_nbz {c : Prop} [Decidable c] : vp_nar .boolean (zb c) = zb c := by
  unfold zb
  by_cases h : c
  · rw [if_pos h]; exact z_nb1
  · rw [if_neg h]; exact z_nb0
section ZM6
variable {G : zG} {σ : zR} {o : zmO} {n : Nat} {b cn : Nat → Int32}
set_option maxRecDepth 3000 in
set_option maxHeartbeats 400000 in
theorem l_fbA {d p : Nat} {c : Prop} {w : Int32} {b' x : Nat → Int32} {cn' : Nat → Int32} {l3 : Option zmV} (hp : p < n) (hn : n ≤ 10) (hw : b' p = w) :
    zm_E (zm_Calls d) 60 169 [some (.inr (.inr (some (9, 0)))), some (.inl (zbc c)), some (.inl (nI p)), l3] [] (zh G (zV3 σ n b' x cn')) o ↔ zm_E (zm_Calls d) 60 94 [some (.inr (.inr (some (9, 0)))), some (.inl (zbc (c ∨ (0 < w ∧ cn' p = 0)))), some (.inl (nI (p + 1))), l3] [] (zh G (zV3 σ n b' x (upd cn' p (zb (0 < w))))) o := by
  have hb : zV3 σ n b' x cn' 30 0 p = w := by rw [zV3_b hp]; exact hw
  have hc : zV3 σ n b' x cn' 36 0 p = cn' p := zV3_c (by omega)
  have g1 : vp_in (nI p) 10 := z_nin (by omega) (by omega)
  have g2 : (nI p).toNatClampNeg = p := z_cl (by omega)
  rw [← zV3_wc (show p < 10 by omega)]
  by_cases h1 : c
  · rw [zbc_t h1, zbc_t (Or.inl h1)]
    by_cases h2 : 0 < w
    · simp only [↓reduceIte, x60_0, x60_1, x60_3, x60_4, x60_7, x60_10, x60_11, x60_14, x60_15, x60_16, x60_17, x60_20, x60_23, x60_24, x60_26, x60_27, x60_30, x60_33, x60_34, x60_35, x60_38, x60_41, x60_42, x60_45, x60_46, x60_47, x60_48, x60_51, x60_52, x60_55, x60_56, x60_57, x60_58, x60_61, x60_62, x60_65, x60_66, x60_69, x60_70, x60_71, x60_72, x60_75, x60_76, x60_77, x60_78, x60_81, x60_84, x60_85, x60_87, x60_90, x60_91, x60_92, x60_93, x60_95, x60_96, x60_99, x60_102, x60_103, x60_105, x60_106, x60_109, x60_112, x60_113, x60_116, x60_117, x60_118, x60_121, x60_122, x60_125, x60_127, x60_128, x60_129, x60_130, x60_131, x60_132, x60_135, x60_136, x60_137, x60_138, x60_141, x60_143, x60_144, x60_145, x60_146, x60_147, x60_148, x60_149, x60_150, x60_153, x60_156, x60_157, x60_160, x60_161, x60_162, x60_163, x60_166, x60_169, x60_170, x60_173, x60_174, x60_177, x60_178, x60_179, x60_182, x60_183, x60_186, x60_187, x60_188, x60_191, x60_192, x60_196, x60_197, x60_198, x60_201, x60_202, x60_203, x60_206, x60_207, x60_208, x60_211, x60_212, x60_216, x60_217, x60_220, x60_215, x60_195, x60_223, x60_226, zf9_0, zf9_1, zf9_2, zf9_3, zf9_4, zf9_5, zf9_6, zf9_7, zf9_8, zf9_9, zf9_10, zf9_11, zf9_12, zf9_13, zf9_14, zf9_15, zf9_16, zf9_17, zf9_18, zf9_19, zf9_20, zf9_21, zf9_22, zf9_23, zf9_24, zf9_25, zf9_26, zf9_27, zf9_28, zf9_29, zf9_30, zf9_31, zq9_0, zq9_1, zq9_2, zq9_3, zq9_4, zq9_5, zq9_6, zq9_7, zq9_8, zq9_9, zq9_10, zq9_11, zq9_12, zq9_13, zq9_14, zq9_15, zq9_16, zq9_17, zq9_18, zq9_19, zq9_20, zq9_21, zq9_22, zq9_23, zq9_24, zq9_25, zq9_26, zq9_27, zq9_28, zq9_29, zq9_30, zq9_31, zp9_0, zp9_1, zp9_8, zp9_10, zp9_11, zp9_18, zp9_19, zp9_20, zp9_21, zp9_23, zp9_25, zp9_28, zo9, za30, zn30, zi30, zl30, zt30, za36, zn36, zi36, zl36, zt36, hb, hc, g1, g2, h2, z_10, zb, z_nb1, true_and, z_8, Nat.reduceLeDiff, nI_1]
    · simp only [↓reduceIte, x60_0, x60_1, x60_3, x60_4, x60_7, x60_10, x60_11, x60_14, x60_15, x60_16, x60_17, x60_20, x60_23, x60_24, x60_26, x60_27, x60_30, x60_33, x60_34, x60_35, x60_38, x60_41, x60_42, x60_45, x60_46, x60_47, x60_48, x60_51, x60_52, x60_55, x60_56, x60_57, x60_58, x60_61, x60_62, x60_65, x60_66, x60_69, x60_70, x60_71, x60_72, x60_75, x60_76, x60_77, x60_78, x60_81, x60_84, x60_85, x60_87, x60_90, x60_91, x60_92, x60_93, x60_95, x60_96, x60_99, x60_102, x60_103, x60_105, x60_106, x60_109, x60_112, x60_113, x60_116, x60_117, x60_118, x60_121, x60_122, x60_125, x60_127, x60_128, x60_129, x60_130, x60_131, x60_132, x60_135, x60_136, x60_137, x60_138, x60_141, x60_143, x60_144, x60_145, x60_146, x60_147, x60_148, x60_149, x60_150, x60_153, x60_156, x60_157, x60_160, x60_161, x60_162, x60_163, x60_166, x60_169, x60_170, x60_173, x60_174, x60_177, x60_178, x60_179, x60_182, x60_183, x60_186, x60_187, x60_188, x60_191, x60_192, x60_196, x60_197, x60_198, x60_201, x60_202, x60_203, x60_206, x60_207, x60_208, x60_211, x60_212, x60_216, x60_217, x60_220, x60_215, x60_195, x60_223, x60_226, zf9_0, zf9_1, zf9_2, zf9_3, zf9_4, zf9_5, zf9_6, zf9_7, zf9_8, zf9_9, zf9_10, zf9_11, zf9_12, zf9_13, zf9_14, zf9_15, zf9_16, zf9_17, zf9_18, zf9_19, zf9_20, zf9_21, zf9_22, zf9_23, zf9_24, zf9_25, zf9_26, zf9_27, zf9_28, zf9_29, zf9_30, zf9_31, zq9_0, zq9_1, zq9_2, zq9_3, zq9_4, zq9_5, zq9_6, zq9_7, zq9_8, zq9_9, zq9_10, zq9_11, zq9_12, zq9_13, zq9_14, zq9_15, zq9_16, zq9_17, zq9_18, zq9_19, zq9_20, zq9_21, zq9_22, zq9_23, zq9_24, zq9_25, zq9_26, zq9_27, zq9_28, zq9_29, zq9_30, zq9_31, zp9_0, zp9_1, zp9_8, zp9_10, zp9_11, zp9_18, zp9_19, zp9_20, zp9_21, zp9_23, zp9_25, zp9_28, zo9, za30, zn30, zi30, zl30, zt30, za36, zn36, zi36, zl36, zt36, hb, hc, g1, g2, h2, z_10, zb, z_nb0, true_and, z_8, Nat.reduceLeDiff, nI_1]
  · rw [zbc_f h1]
    by_cases h2 : 0 < w
    · by_cases h3 : cn' p = 0
      · rw [zbc_t (Or.inr ⟨h2, h3⟩)]
        simp only [↓reduceIte, x60_0, x60_1, x60_3, x60_4, x60_7, x60_10, x60_11, x60_14, x60_15, x60_16, x60_17, x60_20, x60_23, x60_24, x60_26, x60_27, x60_30, x60_33, x60_34, x60_35, x60_38, x60_41, x60_42, x60_45, x60_46, x60_47, x60_48, x60_51, x60_52, x60_55, x60_56, x60_57, x60_58, x60_61, x60_62, x60_65, x60_66, x60_69, x60_70, x60_71, x60_72, x60_75, x60_76, x60_77, x60_78, x60_81, x60_84, x60_85, x60_87, x60_90, x60_91, x60_92, x60_93, x60_95, x60_96, x60_99, x60_102, x60_103, x60_105, x60_106, x60_109, x60_112, x60_113, x60_116, x60_117, x60_118, x60_121, x60_122, x60_125, x60_127, x60_128, x60_129, x60_130, x60_131, x60_132, x60_135, x60_136, x60_137, x60_138, x60_141, x60_143, x60_144, x60_145, x60_146, x60_147, x60_148, x60_149, x60_150, x60_153, x60_156, x60_157, x60_160, x60_161, x60_162, x60_163, x60_166, x60_169, x60_170, x60_173, x60_174, x60_177, x60_178, x60_179, x60_182, x60_183, x60_186, x60_187, x60_188, x60_191, x60_192, x60_196, x60_197, x60_198, x60_201, x60_202, x60_203, x60_206, x60_207, x60_208, x60_211, x60_212, x60_216, x60_217, x60_220, x60_215, x60_195, x60_223, x60_226, zf9_0, zf9_1, zf9_2, zf9_3, zf9_4, zf9_5, zf9_6, zf9_7, zf9_8, zf9_9, zf9_10, zf9_11, zf9_12, zf9_13, zf9_14, zf9_15, zf9_16, zf9_17, zf9_18, zf9_19, zf9_20, zf9_21, zf9_22, zf9_23, zf9_24, zf9_25, zf9_26, zf9_27, zf9_28, zf9_29, zf9_30, zf9_31, zq9_0, zq9_1, zq9_2, zq9_3, zq9_4, zq9_5, zq9_6, zq9_7, zq9_8, zq9_9, zq9_10, zq9_11, zq9_12, zq9_13, zq9_14, zq9_15, zq9_16, zq9_17, zq9_18, zq9_19, zq9_20, zq9_21, zq9_22, zq9_23, zq9_24, zq9_25, zq9_26, zq9_27, zq9_28, zq9_29, zq9_30, zq9_31, zp9_0, zp9_1, zp9_8, zp9_10, zp9_11, zp9_18, zp9_19, zp9_20, zp9_21, zp9_23, zp9_25, zp9_28, zo9, za30, zn30, zi30, zl30, zt30, za36, zn36, zi36, zl36, zt36, hb, hc, g1, g2, h2, h3, z_10, zb, z_nb1, true_and, and_false, or_true, false_or, false_and, z_8, Nat.reduceLeDiff, nI_1]
      · rw [zbc_f (fun q => q.elim h1 (fun z => h3 z.2))]
        simp only [↓reduceIte, x60_0, x60_1, x60_3, x60_4, x60_7, x60_10, x60_11, x60_14, x60_15, x60_16, x60_17, x60_20, x60_23, x60_24, x60_26, x60_27, x60_30, x60_33, x60_34, x60_35, x60_38, x60_41, x60_42, x60_45, x60_46, x60_47, x60_48, x60_51, x60_52, x60_55, x60_56, x60_57, x60_58, x60_61, x60_62, x60_65, x60_66, x60_69, x60_70, x60_71, x60_72, x60_75, x60_76, x60_77, x60_78, x60_81, x60_84, x60_85, x60_87, x60_90, x60_91, x60_92, x60_93, x60_95, x60_96, x60_99, x60_102, x60_103, x60_105, x60_106, x60_109, x60_112, x60_113, x60_116, x60_117, x60_118, x60_121, x60_122, x60_125, x60_127, x60_128, x60_129, x60_130, x60_131, x60_132, x60_135, x60_136, x60_137, x60_138, x60_141, x60_143, x60_144, x60_145, x60_146, x60_147, x60_148, x60_149, x60_150, x60_153, x60_156, x60_157, x60_160, x60_161, x60_162, x60_163, x60_166, x60_169, x60_170, x60_173, x60_174, x60_177, x60_178, x60_179, x60_182, x60_183, x60_186, x60_187, x60_188, x60_191, x60_192, x60_196, x60_197, x60_198, x60_201, x60_202, x60_203, x60_206, x60_207, x60_208, x60_211, x60_212, x60_216, x60_217, x60_220, x60_215, x60_195, x60_223, x60_226, zf9_0, zf9_1, zf9_2, zf9_3, zf9_4, zf9_5, zf9_6, zf9_7, zf9_8, zf9_9, zf9_10, zf9_11, zf9_12, zf9_13, zf9_14, zf9_15, zf9_16, zf9_17, zf9_18, zf9_19, zf9_20, zf9_21, zf9_22, zf9_23, zf9_24, zf9_25, zf9_26, zf9_27, zf9_28, zf9_29, zf9_30, zf9_31, zq9_0, zq9_1, zq9_2, zq9_3, zq9_4, zq9_5, zq9_6, zq9_7, zq9_8, zq9_9, zq9_10, zq9_11, zq9_12, zq9_13, zq9_14, zq9_15, zq9_16, zq9_17, zq9_18, zq9_19, zq9_20, zq9_21, zq9_22, zq9_23, zq9_24, zq9_25, zq9_26, zq9_27, zq9_28, zq9_29, zq9_30, zq9_31, zp9_0, zp9_1, zp9_8, zp9_10, zp9_11, zp9_18, zp9_19, zp9_20, zp9_21, zp9_23, zp9_25, zp9_28, zo9, za30, zn30, zi30, zl30, zt30, za36, zn36, zi36, zl36, zt36, hb, hc, g1, g2, h2, h3, z_10, zb, z_nb1, true_and, and_false, or_true, false_or, false_and, z_8, Nat.reduceLeDiff, nI_1]
    · rw [zbc_f (fun q => q.elim h1 (fun z => h2 z.1))]
      simp only [↓reduceIte, x60_0, x60_1, x60_3, x60_4, x60_7, x60_10, x60_11, x60_14, x60_15, x60_16, x60_17, x60_20, x60_23, x60_24, x60_26, x60_27, x60_30, x60_33, x60_34, x60_35, x60_38, x60_41, x60_42, x60_45, x60_46, x60_47, x60_48, x60_51, x60_52, x60_55, x60_56, x60_57, x60_58, x60_61, x60_62, x60_65, x60_66, x60_69, x60_70, x60_71, x60_72, x60_75, x60_76, x60_77, x60_78, x60_81, x60_84, x60_85, x60_87, x60_90, x60_91, x60_92, x60_93, x60_95, x60_96, x60_99, x60_102, x60_103, x60_105, x60_106, x60_109, x60_112, x60_113, x60_116, x60_117, x60_118, x60_121, x60_122, x60_125, x60_127, x60_128, x60_129, x60_130, x60_131, x60_132, x60_135, x60_136, x60_137, x60_138, x60_141, x60_143, x60_144, x60_145, x60_146, x60_147, x60_148, x60_149, x60_150, x60_153, x60_156, x60_157, x60_160, x60_161, x60_162, x60_163, x60_166, x60_169, x60_170, x60_173, x60_174, x60_177, x60_178, x60_179, x60_182, x60_183, x60_186, x60_187, x60_188, x60_191, x60_192, x60_196, x60_197, x60_198, x60_201, x60_202, x60_203, x60_206, x60_207, x60_208, x60_211, x60_212, x60_216, x60_217, x60_220, x60_215, x60_195, x60_223, x60_226, zf9_0, zf9_1, zf9_2, zf9_3, zf9_4, zf9_5, zf9_6, zf9_7, zf9_8, zf9_9, zf9_10, zf9_11, zf9_12, zf9_13, zf9_14, zf9_15, zf9_16, zf9_17, zf9_18, zf9_19, zf9_20, zf9_21, zf9_22, zf9_23, zf9_24, zf9_25, zf9_26, zf9_27, zf9_28, zf9_29, zf9_30, zf9_31, zq9_0, zq9_1, zq9_2, zq9_3, zq9_4, zq9_5, zq9_6, zq9_7, zq9_8, zq9_9, zq9_10, zq9_11, zq9_12, zq9_13, zq9_14, zq9_15, zq9_16, zq9_17, zq9_18, zq9_19, zq9_20, zq9_21, zq9_22, zq9_23, zq9_24, zq9_25, zq9_26, zq9_27, zq9_28, zq9_29, zq9_30, zq9_31, zp9_0, zp9_1, zp9_8, zp9_10, zp9_11, zp9_18, zp9_19, zp9_20, zp9_21, zp9_23, zp9_25, zp9_28, zo9, za30, zn30, zi30, zl30, zt30, za36, zn36, zi36, zl36, zt36, hb, hc, g1, g2, h2, z_10, zb, z_nb0, true_and, z_8, Nat.reduceLeDiff, nI_1]
set_option maxRecDepth 3000 in
set_option maxHeartbeats 400000 in
theorem l_fbP {d : Nat} (hn : n ≤ 10) (hx : σ 9 0 1 = nI n) (hd : znd σ n) :
    ∀ (k j : Nat), j + k = n → ∀ (x : Nat → Int32) (l3 : Option zmV), ∃ (y : Nat → Int32) (m2 m3 : Option zmV), ∀ o, zm_E (zm_Calls (d + 3)) 60 94 [some (.inr (.inr (some (9, 0)))), some (.inl (zbc (zfm σ n b cn j))), some (.inl (nI j)), l3] [] (zh G (zV3 σ n (zfr σ n b j) x (zcn σ n b cn j))) o ↔ zm_E (zm_Calls (d + 3)) 60 223 [some (.inr (.inr (some (9, 0)))), some (.inl (zbc (zfm σ n b cn n))), m2, m3] [] (zh G (zV3 σ n (zfr σ n b n) y (zcn σ n b cn n))) o := by
  have e9 : ∀ b x c, zV3 σ n b x c 9 = σ 9 := fun b x c => zV3_s (by decide) (by decide) (by decide)
  intro k
  induction k with
  | zero =>
    intro j hj x l3
    have hj : j = n := by omega
    subst hj
    refine ⟨x, some (.inl (nI j)), l3, fun o => ?_⟩
    rw [x60_94]
    simp only [↓reduceIte, x60_95, x60_96, x60_99, zf9_0, zf9_1, zf9_2, zf9_3, zf9_4, zf9_5, zf9_6, zf9_7, zf9_8, zf9_9, zf9_10, zf9_11, zf9_12, zf9_13, zf9_14, zf9_15, zf9_16, zf9_17, zf9_18, zf9_19, zf9_20, zf9_21, zf9_22, zf9_23, zf9_24, zf9_25, zf9_26, zf9_27, zf9_28, zf9_29, zf9_30, zf9_31, zq9_0, zq9_1, zq9_2, zq9_3, zq9_4, zq9_5, zq9_6, zq9_7, zq9_8, zq9_9, zq9_10, zq9_11, zq9_12, zq9_13, zq9_14, zq9_15, zq9_16, zq9_17, zq9_18, zq9_19, zq9_20, zq9_21, zq9_22, zq9_23, zq9_24, zq9_25, zq9_26, zq9_27, zq9_28, zq9_29, zq9_30, zq9_31, zp9_0, zp9_1, zp9_8, zp9_10, zp9_11, zp9_18, zp9_19, zp9_20, zp9_21, zp9_23, zp9_25, zp9_28, zo9, e9, hx, z_nltI (Nat.lt_irrefl j) (by omega : j < 1000) (by omega : j < 1000), true_and]
  | succ k ih =>
    intro j hj x l3
    have hjn : nI j < nI n := z_ltI (by omega) (by omega)
    have hp : j < n := by omega
    have h3 := ih (j + 1) (by omega)
    have hcn : zcn σ n b cn j j = cn j := zcn_hi j j (Nat.le_refl _)
    have fin : ∀ (y : Nat → Int32) (l3 : Option zmV), ∃ (y2 : Nat → Int32) (m2 m3 : Option zmV), ∀ o, zm_E (zm_Calls (d + 3)) 60 169 [some (.inr (.inr (some (9, 0)))), some (.inl (zbc (zfm σ n b cn j))), some (.inl (nI j)), l3] [] (zh G (zV3 σ n (zfr σ n b (j + 1)) y (zcn σ n b cn j))) o ↔ zm_E (zm_Calls (d + 3)) 60 223 [some (.inr (.inr (some (9, 0)))), some (.inl (zbc (zfm σ n b cn n))), m2, m3] [] (zh G (zV3 σ n (zfr σ n b n) y2 (zcn σ n b cn n))) o := fun y l3 => by
      obtain ⟨y2, m2, m3, h4⟩ := h3 y l3
      refine ⟨y2, m2, m3, fun o => ?_⟩
      rw [l_fbA hp hn rfl, hcn]
      exact h4 o
    by_cases hb0 : zfr σ n b j j = 0
    · obtain ⟨y, m3, hi⟩ := l_fbI (G := G) (σ := σ) (n := n) (b := zfr σ n b j) (b' := zfr σ n b (j + 1)) (cn := zcn σ n b cn j) (d := d) (p := j) (m := zbc (zfm σ n b cn j)) hp hn hx hd hb0
        (fun he => zfr_t ⟨hb0, he⟩) (fun he => zfr_f (fun q => he q.2)) n 0 (by omega) (fun q hq => absurd hq (Nat.not_lt_zero q)) x
      obtain ⟨y2, m2, m3', h4⟩ := fin y m3
      refine ⟨y2, m2, m3', fun o => ?_⟩
      have hi2 := hi o
      rw [nI_0] at hi2
      rw [x60_94]
      simp only [↓reduceIte, x60_95, x60_96, x60_99, x60_102, x60_103, zf9_0, zf9_1, zf9_2, zf9_3, zf9_4, zf9_5, zf9_6, zf9_7, zf9_8, zf9_9, zf9_10, zf9_11, zf9_12, zf9_13, zf9_14, zf9_15, zf9_16, zf9_17, zf9_18, zf9_19, zf9_20, zf9_21, zf9_22, zf9_23, zf9_24, zf9_25, zf9_26, zf9_27, zf9_28, zf9_29, zf9_30, zf9_31, zq9_0, zq9_1, zq9_2, zq9_3, zq9_4, zq9_5, zq9_6, zq9_7, zq9_8, zq9_9, zq9_10, zq9_11, zq9_12, zq9_13, zq9_14, zq9_15, zq9_16, zq9_17, zq9_18, zq9_19, zq9_20, zq9_21, zq9_22, zq9_23, zq9_24, zq9_25, zq9_26, zq9_27, zq9_28, zq9_29, zq9_30, zq9_31, zp9_0, zp9_1, zp9_8, zp9_10, zp9_11, zp9_18, zp9_19, zp9_20, zp9_21, zp9_23, zp9_25, zp9_28, zo9, e9, hx, hjn, true_and, hi2, h4]
    · have hf : zfr σ n b (j + 1) = zfr σ n b j := zfr_f (fun q => hb0 q.1)
      obtain ⟨y2, m2, m3, h4⟩ := fin x (some (.inl 0))
      rw [hf] at h4
      have hb1 : zV3 σ n (zfr σ n b j) x (zcn σ n b cn j) 30 0 j = zfr σ n b j j := zV3_b hp
      have hn0 : (0 : Int32) < nI n := (nI_ltI (a := 0) (by omega) (by omega)).mpr (by omega)
      refine ⟨y2, m2, m3, fun o => ?_⟩
      rw [x60_94]
      simp only [↓reduceIte, x60_95, x60_96, x60_99, x60_102, x60_103, zf9_0, zf9_1, zf9_2, zf9_3, zf9_4, zf9_5, zf9_6, zf9_7, zf9_8, zf9_9, zf9_10, zf9_11, zf9_12, zf9_13, zf9_14, zf9_15, zf9_16, zf9_17, zf9_18, zf9_19, zf9_20, zf9_21, zf9_22, zf9_23, zf9_24, zf9_25, zf9_26, zf9_27, zf9_28, zf9_29, zf9_30, zf9_31, zq9_0, zq9_1, zq9_2, zq9_3, zq9_4, zq9_5, zq9_6, zq9_7, zq9_8, zq9_9, zq9_10, zq9_11, zq9_12, zq9_13, zq9_14, zq9_15, zq9_16, zq9_17, zq9_18, zq9_19, zq9_20, zq9_21, zq9_22, zq9_23, zq9_24, zq9_25, zq9_26, zq9_27, zq9_28, zq9_29, zq9_30, zq9_31, zp9_0, zp9_1, zp9_8, zp9_10, zp9_11, zp9_18, zp9_19, zp9_20, zp9_21, zp9_23, zp9_25, zp9_28, zo9, e9, hx, hjn, true_and]
      rw [x60_104]
      simp only [↓reduceIte, x60_105, x60_106, x60_109, x60_112, x60_113, x60_116, x60_117, x60_118, zf9_0, zf9_1, zf9_2, zf9_3, zf9_4, zf9_5, zf9_6, zf9_7, zf9_8, zf9_9, zf9_10, zf9_11, zf9_12, zf9_13, zf9_14, zf9_15, zf9_16, zf9_17, zf9_18, zf9_19, zf9_20, zf9_21, zf9_22, zf9_23, zf9_24, zf9_25, zf9_26, zf9_27, zf9_28, zf9_29, zf9_30, zf9_31, zq9_0, zq9_1, zq9_2, zq9_3, zq9_4, zq9_5, zq9_6, zq9_7, zq9_8, zq9_9, zq9_10, zq9_11, zq9_12, zq9_13, zq9_14, zq9_15, zq9_16, zq9_17, zq9_18, zq9_19, zq9_20, zq9_21, zq9_22, zq9_23, zq9_24, zq9_25, zq9_26, zq9_27, zq9_28, zq9_29, zq9_30, zq9_31, zp9_0, zp9_1, zp9_8, zp9_10, zp9_11, zp9_18, zp9_19, zp9_20, zp9_21, zp9_23, zp9_25, zp9_28, zo9, za30, zn30, zi30, zl30, zt30, e9, hx, hn0, hb1, hb0, z_nin (show j < 10 by omega) (by omega), z_cl (show j < 1000 by omega), true_and, h4]
end ZM6
section ZR
variable {σ : zR} {n : Nat} {b cn : Nat → Int32}
set_option maxRecDepth 3000 in
set_option maxHeartbeats 400000 in
theorem zfr_ge {p : Nat} : ∀ j, zfr σ n b j p = b p ∨ (b p = 0 ∧ zfr σ n b j p = 1)
  | 0 => Or.inl rfl
  | j + 1 => by
    by_cases h : zfr σ n b j j = 0 ∧ ∃ q, q < n ∧ zbk σ (zfr σ n b j) j q
    · rw [zfr_t h]
      by_cases hp : p = j
      · subst hp
        rw [pk_us]
        rcases zfr_ge (p := p) p with h1 | ⟨h1, h2⟩
        · exact Or.inr ⟨by rw [← h1]; exact h.1, rfl⟩
        · exact Or.inr ⟨h1, rfl⟩
      · rw [pk_un hp]; exact zfr_ge j
    · rw [zfr_f h]; exact zfr_ge j
set_option maxRecDepth 3000 in
set_option maxHeartbeats 400000 in
theorem zfr_late {p : Nat} : ∀ k, zfr σ n b (p + 1 + k) p = zfr σ n b (p + 1) p
  | 0 => rfl
  | k + 1 => by
    rw [show p + 1 + (k + 1) = (p + 1 + k) + 1 from rfl]
    by_cases h : zfr σ n b (p + 1 + k) (p + 1 + k) = 0 ∧ ∃ q, q < n ∧ zbk σ (zfr σ n b (p + 1 + k)) (p + 1 + k) q
    · rw [zfr_t h, pk_un (by omega), zfr_late k]
    · rw [zfr_f h, zfr_late k]
set_option maxRecDepth 3000 in
set_option maxHeartbeats 400000 in
theorem zfr_at {p j : Nat} (h : p < j) : zfr σ n b j p = zfr σ n b (p + 1) p := by
  have := zfr_late (σ := σ) (n := n) (b := b) (p := p) (j - (p + 1))
  rwa [show p + 1 + (j - (p + 1)) = j by omega] at this
set_option maxRecDepth 3000 in
set_option maxHeartbeats 400000 in
theorem zcn_at {p : Nat} : ∀ j, p < j → zcn σ n b cn j p = zb (0 < zfr σ n b (p + 1) p)
  | 0, h => by omega
  | j + 1, h => by
    rw [zcn]
    by_cases hp : p = j
    · subst hp; exact pk_us
    · rw [pk_un hp]; exact zcn_at j (by omega)
set_option maxRecDepth 3000 in
set_option maxHeartbeats 400000 in
theorem zfm_iff : ∀ j, zfm σ n b cn j ↔ ∃ p, p < j ∧ 0 < zfr σ n b (p + 1) p ∧ cn p = 0
  | 0 => ⟨fun q => q.elim, fun ⟨p, h, _⟩ => by omega⟩
  | j + 1 => by
    rw [zfm, zfm_iff j]
    constructor
    · rintro (⟨p, h1, h2⟩ | h)
      · exact ⟨p, by omega, h2⟩
      · exact ⟨j, by omega, h⟩
    · rintro ⟨p, h1, h2⟩
      rcases Nat.lt_or_ge p j with h3 | h3
      · exact Or.inl ⟨p, h3, h2⟩
      · have : p = j := by omega
        subst this; exact Or.inr h2
set_option maxRecDepth 3000 in
set_option maxHeartbeats 400000 in
theorem zfr_out {p : Nat} (hp : n ≤ p) : ∀ j, j ≤ n → zfr σ n b j p = b p
  | 0, _ => rfl
  | j + 1, h => by
    by_cases hc : zfr σ n b j j = 0 ∧ ∃ q, q < n ∧ zbk σ (zfr σ n b j) j q
    · rw [zfr_t hc, pk_un (by omega), zfr_out hp j (by omega)]
    · rw [zfr_f hc, zfr_out hp j (by omega)]
end ZR
