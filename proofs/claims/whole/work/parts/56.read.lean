def zSco (t : Nat → Int32) (n l c e : Nat) : Prop := (¬ t l = 40 ∧ c = 0 ∧ e = l) ∨ (t l = 40 ∧ c = zlc t (n - (l + 1)) (l + 1) ∧ c ≠ 0 ∧ t (l + c + 1) = 41 ∧ e = l + c + 2)
def zGood (t : Nat → Int32) (n j c e : Nat) : Prop := j < 6 ∧ zhs t j 0 ∧ zSco t n (zs_len.getD j 0) c e ∧ zOk2 t n e
section ZS4
variable {G : zG} {σ : zR} {o : zmO}
set_option maxRecDepth 3000 in
set_option maxHeartbeats 400000 in
theorem r0_ok {d n j c e : Nat} {lw : Int32} {l3 l4 l5 l6 l7 : Option zmV} (ht : zTape σ n) (hg : zGood (zat (σ 39 0) n) n j c e) : zm_E (zm_Calls (d + 6)) 72 15 [some (.inr (.inr (some (14, 0)))), some (.inr (.inr (some (13, 0)))), some (.inl lw), l3, l4, l5, l6, l7] [] (zh G σ) o ↔ o = (none, zh G (zk3 σ (nI j) (nI c) (zWt (zat (σ 39 0) n) n e j))) := by
  have t2 := ht.2.1
  obtain ⟨hj, hh, hs, hk⟩ := hg
  obtain ⟨hl, -⟩ := zs_len6 j hj
  have ta := fun a (ha : a < 1000) o => t_at (G := G) (o := o) (d := d + 5) ht ha
  have tc := fun a (ha : a < 1000) o => c96 (G := G) (o := o) (d := d + 4) ht ha
  have fk := fun o => c92 (G := G) (o := o) (d := d) ht
  have hlc := zlc_le (t := zat (σ 39 0) n) (n - (zs_len.getD j 0 + 1)) (zs_len.getD j 0 + 1)
  rw [zfk_1 hj hh 6 0 (by omega) rfl] at fk
  have he : e < 500 := by rcases hs with q | q <;> omega
  have key := r1_ok (G := G) (o := o) (d := d) (c := nI c) (lw := lw) (l6 := l6) (l7 := l7) ht he hj hk
  have n1 : ¬ nI j = -1 := fun q => z_not0 (show j < 1000 by omega) (q ▸ (by decide))
  have wo := fun h o => c93 (d := d + 5) (h := h) (o := o) hj
  have wl := fun o => c94 (G := G) (σ := σ) (d := d + 4) (o := o) (show j < 7 by omega)
  generalize zs_len.getD j 0 = l at *
  generalize zWt (zat (σ 39 0) n) n e j = w at *
  generalize zat (σ 39 0) n = t at *
  have tl := ta l (by omega)
  rcases hs with ⟨s1, s2, s3⟩ | ⟨s1, s2, s3, s4, s5⟩
  · subst s2 s3
    rw [nI_0] at key
    simp only [↓reduceIte, true_and, and_true, zf_i, zf_0, zf_1, zb_fit, z_ex, Option.toList_some, Option.toList_none, List.cons_append, List.nil_append, zb_0, z_ie, z_iv, z_ih, z_iz, z_izn, z_i2, z_ia, z_io, z_ina, z_8, Classical.not_not, x72_0, x72_1, x72_2, x72_5, x72_6, x72_7, x72_10, x72_11, x72_12, x72_15, x72_16, x72_19, x72_20, x72_21, x72_22, x72_25, x72_26, x72_27, x72_30, x72_33, x72_35, x72_36, x72_38, x72_39, x72_41, x72_44, x72_46, x72_49, x72_50, x72_52, x72_53, x72_54, x72_57, x72_59, x72_61, x72_63, x72_64, x72_65, x72_66, x72_68, x72_70, x72_73, x72_74, x72_76, x72_79, x72_81, x72_84, x72_85, x72_88, x72_89, x72_91, x72_94, x72_96, x72_99, x72_100, x72_104, x72_106, x72_108, x72_111, x72_114, x72_116, x72_117, x72_118, x72_120, x72_121, x72_123, x72_126, x72_128, x72_131, x72_132, x72_134, x72_135, x72_136, x72_139, x72_141, x72_144, x72_146, x72_147, x72_150, x72_153, x72_154, x72_155, x72_156, x72_159, x72_160, x72_162, x72_165, x72_166, x72_168, x72_171, x72_172, x72_174, x72_177, x72_180, x72_181, x72_188, x72_191, x72_184, x72_185, x72_103, zf13_0, zf13_1, zf14_0, zf14_1, zf14_2, zq13_0, zq13_1, zq14_0, zq14_1, zq14_2, zp13_1, zp14_0, zp14_1, zp14_2, zo13, zo14, tl] at key
    simp only [↓reduceIte, true_and, and_true, zf_i, zf_0, zf_1, zb_fit, z_ex, Option.toList_some, Option.toList_none, List.cons_append, List.nil_append, zb_0, z_ie, z_iv, z_ih, z_iz, z_izn, z_i2, z_ia, z_io, z_ina, z_8, Classical.not_not, x72_0, x72_1, x72_2, x72_5, x72_6, x72_7, x72_10, x72_11, x72_12, x72_15, x72_16, x72_19, x72_20, x72_21, x72_22, x72_25, x72_26, x72_27, x72_30, x72_33, x72_35, x72_36, x72_38, x72_39, x72_41, x72_44, x72_46, x72_49, x72_50, x72_52, x72_53, x72_54, x72_57, x72_59, x72_61, x72_63, x72_64, x72_65, x72_66, x72_68, x72_70, x72_73, x72_74, x72_76, x72_79, x72_81, x72_84, x72_85, x72_88, x72_89, x72_91, x72_94, x72_96, x72_99, x72_100, x72_104, x72_106, x72_108, x72_111, x72_114, x72_116, x72_117, x72_118, x72_120, x72_121, x72_123, x72_126, x72_128, x72_131, x72_132, x72_134, x72_135, x72_136, x72_139, x72_141, x72_144, x72_146, x72_147, x72_150, x72_153, x72_154, x72_155, x72_156, x72_159, x72_160, x72_162, x72_165, x72_166, x72_168, x72_171, x72_172, x72_174, x72_177, x72_180, x72_181, x72_188, x72_191, x72_184, x72_185, x72_103, zf13_0, zf13_1, zf14_0, zf14_1, zf14_2, zq13_0, zq13_1, zq14_0, zq14_1, zq14_2, zp13_1, zp14_0, zp14_1, zp14_2, zo13, zo14, fk, n1, wo, zo1 (show j < 7 by omega), wl, tl, s1, key, nI_0]
  · have e1 : nI l + 1 = nI (l + 1) := nI_1 _
    have tq := tc (l + 1) (by omega)
    have e2 : nI l + (nI c + 1) = nI (l + c + 1) := by rw [nI_1, nI_add, Nat.add_assoc]
    have t4 := ta (l + c + 1) (by omega)
    have e3 : nI (l + c + 1) + 1 = nI e := by rw [nI_1, s5]
    have c0 : ¬ nI c = 0 := fun q => s3 (by
      have := congrArg Int32.toNatClampNeg q
      rwa [z_cl (by omega)] at this)
    rw [← s2] at tq
    have te := ta e (by omega)
    simp only [↓reduceIte, true_and, and_true, zf_i, zf_0, zf_1, zb_fit, z_ex, Option.toList_some, Option.toList_none, List.cons_append, List.nil_append, zb_0, z_ie, z_iv, z_ih, z_iz, z_izn, z_i2, z_ia, z_io, z_ina, z_8, Classical.not_not, x72_0, x72_1, x72_2, x72_5, x72_6, x72_7, x72_10, x72_11, x72_12, x72_15, x72_16, x72_19, x72_20, x72_21, x72_22, x72_25, x72_26, x72_27, x72_30, x72_33, x72_35, x72_36, x72_38, x72_39, x72_41, x72_44, x72_46, x72_49, x72_50, x72_52, x72_53, x72_54, x72_57, x72_59, x72_61, x72_63, x72_64, x72_65, x72_66, x72_68, x72_70, x72_73, x72_74, x72_76, x72_79, x72_81, x72_84, x72_85, x72_88, x72_89, x72_91, x72_94, x72_96, x72_99, x72_100, x72_104, x72_106, x72_108, x72_111, x72_114, x72_116, x72_117, x72_118, x72_120, x72_121, x72_123, x72_126, x72_128, x72_131, x72_132, x72_134, x72_135, x72_136, x72_139, x72_141, x72_144, x72_146, x72_147, x72_150, x72_153, x72_154, x72_155, x72_156, x72_159, x72_160, x72_162, x72_165, x72_166, x72_168, x72_171, x72_172, x72_174, x72_177, x72_180, x72_181, x72_188, x72_191, x72_184, x72_185, x72_103, zf13_0, zf13_1, zf14_0, zf14_1, zf14_2, zq13_0, zq13_1, zq14_0, zq14_1, zq14_2, zp13_1, zp14_0, zp14_1, zp14_2, zo13, zo14, te] at key
    simp only [↓reduceIte, true_and, and_true, zf_i, zf_0, zf_1, zb_fit, z_ex, Option.toList_some, Option.toList_none, List.cons_append, List.nil_append, zb_0, z_ie, z_iv, z_ih, z_iz, z_izn, z_i2, z_ia, z_io, z_ina, z_8, Classical.not_not, x72_0, x72_1, x72_2, x72_5, x72_6, x72_7, x72_10, x72_11, x72_12, x72_15, x72_16, x72_19, x72_20, x72_21, x72_22, x72_25, x72_26, x72_27, x72_30, x72_33, x72_35, x72_36, x72_38, x72_39, x72_41, x72_44, x72_46, x72_49, x72_50, x72_52, x72_53, x72_54, x72_57, x72_59, x72_61, x72_63, x72_64, x72_65, x72_66, x72_68, x72_70, x72_73, x72_74, x72_76, x72_79, x72_81, x72_84, x72_85, x72_88, x72_89, x72_91, x72_94, x72_96, x72_99, x72_100, x72_104, x72_106, x72_108, x72_111, x72_114, x72_116, x72_117, x72_118, x72_120, x72_121, x72_123, x72_126, x72_128, x72_131, x72_132, x72_134, x72_135, x72_136, x72_139, x72_141, x72_144, x72_146, x72_147, x72_150, x72_153, x72_154, x72_155, x72_156, x72_159, x72_160, x72_162, x72_165, x72_166, x72_168, x72_171, x72_172, x72_174, x72_177, x72_180, x72_181, x72_188, x72_191, x72_184, x72_185, x72_103, zf13_0, zf13_1, zf14_0, zf14_1, zf14_2, zq13_0, zq13_1, zq14_0, zq14_1, zq14_2, zp13_1, zp14_0, zp14_1, zp14_2, zo13, zo14, fk, n1, wo, zo1 (show j < 7 by omega), wl, tl, s1, e1, tq, e2, c0, t4, s4, e3, te, key]
set_option maxRecDepth 3000 in
set_option maxHeartbeats 400000 in
theorem r0_no {d n : Nat} {lw : Int32} {l3 l4 l5 l6 l7 : Option zmV} (ht : zTape σ n) (hg : ∀ j c e, ¬ zGood (zat (σ 39 0) n) n j c e) : zm_E (zm_Calls (d + 6)) 72 15 [some (.inr (.inr (some (14, 0)))), some (.inr (.inr (some (13, 0)))), some (.inl lw), l3, l4, l5, l6, l7] [] (zh G σ) o ↔ o = (none, zh G σ) := by
  have t2 := ht.2.1
  have fk := fun o => c92 (G := G) (o := o) (d := d) ht
  by_cases hex : ∃ j, j < 6 ∧ zhs (zat (σ 39 0) n) j 0
  · obtain ⟨j, hj, hh⟩ := hex
    obtain ⟨hl, -⟩ := zs_len6 j hj
    have hg := hg j
    unfold zGood at hg
    have ta := fun a (ha : a < 1000) o => t_at (G := G) (o := o) (d := d + 5) ht ha
    have tc := fun a (ha : a < 1000) o => c96 (G := G) (o := o) (d := d + 4) ht ha
    have hlc := zlc_le (t := zat (σ 39 0) n) (n - (zs_len.getD j 0 + 1)) (zs_len.getD j 0 + 1)
    rw [zfk_1 hj hh 6 0 (by omega) rfl] at fk
    have n1 : ¬ nI j = -1 := fun q => z_not0 (show j < 1000 by omega) (q ▸ (by decide))
    have wo := fun h o => c93 (d := d + 5) (h := h) (o := o) hj
    have wl := fun o => c94 (G := G) (σ := σ) (d := d + 4) (o := o) (show j < 7 by omega)
    have key := fun e (he : e < 500) c hk => r1_no (G := G) (o := o) (d := d) (e := e) (j := nI j) (c := c) (lw := lw) (l6 := l6) (l7 := l7) ht he hk
    generalize zs_len.getD j 0 = l at *
    generalize zat (σ 39 0) n = t at *
    have tl := ta l (by omega)
    by_cases s1 : t l = 40
    · have e1 : nI l + 1 = nI (l + 1) := nI_1 _
      have tq := tc (l + 1) (by omega)
      have hg := hg (zlc t (n - (l + 1)) (l + 1))
      obtain ⟨c, hc⟩ : ∃ c, c = zlc t (n - (l + 1)) (l + 1) := ⟨_, rfl⟩
      rw [← hc] at tq hg hlc
      have e2 : nI l + (nI c + 1) = nI (l + c + 1) := by rw [nI_1, nI_add, Nat.add_assoc]
      have t4 := ta (l + c + 1) (by omega)
      have e3 : nI (l + c + 1) + 1 = nI (l + c + 2) := nI_1 _
      by_cases c0 : c = 0
      · subst c0
        simp only [↓reduceIte, true_and, and_true, zf_i, zf_0, zf_1, zb_fit, z_ex, Option.toList_some, Option.toList_none, List.cons_append, List.nil_append, zb_0, z_ie, z_iv, z_ih, z_iz, z_izn, z_i2, z_ia, z_io, z_ina, z_8, Classical.not_not, x72_0, x72_1, x72_2, x72_5, x72_6, x72_7, x72_10, x72_11, x72_12, x72_15, x72_16, x72_19, x72_20, x72_21, x72_22, x72_25, x72_26, x72_27, x72_30, x72_33, x72_35, x72_36, x72_38, x72_39, x72_41, x72_44, x72_46, x72_49, x72_50, x72_52, x72_53, x72_54, x72_57, x72_59, x72_61, x72_63, x72_64, x72_65, x72_66, x72_68, x72_70, x72_73, x72_74, x72_76, x72_79, x72_81, x72_84, x72_85, x72_88, x72_89, x72_91, x72_94, x72_96, x72_99, x72_100, x72_104, x72_106, x72_108, x72_111, x72_114, x72_116, x72_117, x72_118, x72_120, x72_121, x72_123, x72_126, x72_128, x72_131, x72_132, x72_134, x72_135, x72_136, x72_139, x72_141, x72_144, x72_146, x72_147, x72_150, x72_153, x72_154, x72_155, x72_156, x72_159, x72_160, x72_162, x72_165, x72_166, x72_168, x72_171, x72_172, x72_174, x72_177, x72_180, x72_181, x72_188, x72_191, x72_184, x72_185, x72_103, zf13_0, zf13_1, zf14_0, zf14_1, zf14_2, zq13_0, zq13_1, zq14_0, zq14_1, zq14_2, zp13_1, zp14_0, zp14_1, zp14_2, zo13, zo14, fk, n1, wo, zo1 (show j < 7 by omega), wl, tl, s1, e1, tq, nI_0]
      · have c1 : ¬ nI c = 0 := fun q => c0 (by
          have := congrArg Int32.toNatClampNeg q
          rwa [z_cl (by omega)] at this)
        by_cases s4 : t (l + c + 1) = 41
        · have key := key (l + c + 2) (by omega) (nI c) (fun q => hg (l + c + 2) ⟨hj, hh, Or.inr ⟨s1, hc, c0, s4, rfl⟩, q⟩)
          have te := ta (l + c + 2) (by omega)
          simp only [↓reduceIte, true_and, and_true, zf_i, zf_0, zf_1, zb_fit, z_ex, Option.toList_some, Option.toList_none, List.cons_append, List.nil_append, zb_0, z_ie, z_iv, z_ih, z_iz, z_izn, z_i2, z_ia, z_io, z_ina, z_8, Classical.not_not, x72_0, x72_1, x72_2, x72_5, x72_6, x72_7, x72_10, x72_11, x72_12, x72_15, x72_16, x72_19, x72_20, x72_21, x72_22, x72_25, x72_26, x72_27, x72_30, x72_33, x72_35, x72_36, x72_38, x72_39, x72_41, x72_44, x72_46, x72_49, x72_50, x72_52, x72_53, x72_54, x72_57, x72_59, x72_61, x72_63, x72_64, x72_65, x72_66, x72_68, x72_70, x72_73, x72_74, x72_76, x72_79, x72_81, x72_84, x72_85, x72_88, x72_89, x72_91, x72_94, x72_96, x72_99, x72_100, x72_104, x72_106, x72_108, x72_111, x72_114, x72_116, x72_117, x72_118, x72_120, x72_121, x72_123, x72_126, x72_128, x72_131, x72_132, x72_134, x72_135, x72_136, x72_139, x72_141, x72_144, x72_146, x72_147, x72_150, x72_153, x72_154, x72_155, x72_156, x72_159, x72_160, x72_162, x72_165, x72_166, x72_168, x72_171, x72_172, x72_174, x72_177, x72_180, x72_181, x72_188, x72_191, x72_184, x72_185, x72_103, zf13_0, zf13_1, zf14_0, zf14_1, zf14_2, zq13_0, zq13_1, zq14_0, zq14_1, zq14_2, zp13_1, zp14_0, zp14_1, zp14_2, zo13, zo14, te] at key
          simp only [↓reduceIte, true_and, and_true, zf_i, zf_0, zf_1, zb_fit, z_ex, Option.toList_some, Option.toList_none, List.cons_append, List.nil_append, zb_0, z_ie, z_iv, z_ih, z_iz, z_izn, z_i2, z_ia, z_io, z_ina, z_8, Classical.not_not, x72_0, x72_1, x72_2, x72_5, x72_6, x72_7, x72_10, x72_11, x72_12, x72_15, x72_16, x72_19, x72_20, x72_21, x72_22, x72_25, x72_26, x72_27, x72_30, x72_33, x72_35, x72_36, x72_38, x72_39, x72_41, x72_44, x72_46, x72_49, x72_50, x72_52, x72_53, x72_54, x72_57, x72_59, x72_61, x72_63, x72_64, x72_65, x72_66, x72_68, x72_70, x72_73, x72_74, x72_76, x72_79, x72_81, x72_84, x72_85, x72_88, x72_89, x72_91, x72_94, x72_96, x72_99, x72_100, x72_104, x72_106, x72_108, x72_111, x72_114, x72_116, x72_117, x72_118, x72_120, x72_121, x72_123, x72_126, x72_128, x72_131, x72_132, x72_134, x72_135, x72_136, x72_139, x72_141, x72_144, x72_146, x72_147, x72_150, x72_153, x72_154, x72_155, x72_156, x72_159, x72_160, x72_162, x72_165, x72_166, x72_168, x72_171, x72_172, x72_174, x72_177, x72_180, x72_181, x72_188, x72_191, x72_184, x72_185, x72_103, zf13_0, zf13_1, zf14_0, zf14_1, zf14_2, zq13_0, zq13_1, zq14_0, zq14_1, zq14_2, zp13_1, zp14_0, zp14_1, zp14_2, zo13, zo14, fk, n1, wo, zo1 (show j < 7 by omega), wl, tl, s1, e1, tq, e2, c1, t4, s4, e3, te, key]
        · simp only [↓reduceIte, true_and, and_true, zf_i, zf_0, zf_1, zb_fit, z_ex, Option.toList_some, Option.toList_none, List.cons_append, List.nil_append, zb_0, z_ie, z_iv, z_ih, z_iz, z_izn, z_i2, z_ia, z_io, z_ina, z_8, Classical.not_not, x72_0, x72_1, x72_2, x72_5, x72_6, x72_7, x72_10, x72_11, x72_12, x72_15, x72_16, x72_19, x72_20, x72_21, x72_22, x72_25, x72_26, x72_27, x72_30, x72_33, x72_35, x72_36, x72_38, x72_39, x72_41, x72_44, x72_46, x72_49, x72_50, x72_52, x72_53, x72_54, x72_57, x72_59, x72_61, x72_63, x72_64, x72_65, x72_66, x72_68, x72_70, x72_73, x72_74, x72_76, x72_79, x72_81, x72_84, x72_85, x72_88, x72_89, x72_91, x72_94, x72_96, x72_99, x72_100, x72_104, x72_106, x72_108, x72_111, x72_114, x72_116, x72_117, x72_118, x72_120, x72_121, x72_123, x72_126, x72_128, x72_131, x72_132, x72_134, x72_135, x72_136, x72_139, x72_141, x72_144, x72_146, x72_147, x72_150, x72_153, x72_154, x72_155, x72_156, x72_159, x72_160, x72_162, x72_165, x72_166, x72_168, x72_171, x72_172, x72_174, x72_177, x72_180, x72_181, x72_188, x72_191, x72_184, x72_185, x72_103, zf13_0, zf13_1, zf14_0, zf14_1, zf14_2, zq13_0, zq13_1, zq14_0, zq14_1, zq14_2, zp13_1, zp14_0, zp14_1, zp14_2, zo13, zo14, fk, n1, wo, zo1 (show j < 7 by omega), wl, tl, s1, e1, tq, e2, c1, t4, s4]
    · have key := key l (by omega) 0 (fun q => hg 0 l ⟨hj, hh, Or.inl ⟨s1, rfl, rfl⟩, q⟩)
      simp only [↓reduceIte, true_and, and_true, zf_i, zf_0, zf_1, zb_fit, z_ex, Option.toList_some, Option.toList_none, List.cons_append, List.nil_append, zb_0, z_ie, z_iv, z_ih, z_iz, z_izn, z_i2, z_ia, z_io, z_ina, z_8, Classical.not_not, x72_0, x72_1, x72_2, x72_5, x72_6, x72_7, x72_10, x72_11, x72_12, x72_15, x72_16, x72_19, x72_20, x72_21, x72_22, x72_25, x72_26, x72_27, x72_30, x72_33, x72_35, x72_36, x72_38, x72_39, x72_41, x72_44, x72_46, x72_49, x72_50, x72_52, x72_53, x72_54, x72_57, x72_59, x72_61, x72_63, x72_64, x72_65, x72_66, x72_68, x72_70, x72_73, x72_74, x72_76, x72_79, x72_81, x72_84, x72_85, x72_88, x72_89, x72_91, x72_94, x72_96, x72_99, x72_100, x72_104, x72_106, x72_108, x72_111, x72_114, x72_116, x72_117, x72_118, x72_120, x72_121, x72_123, x72_126, x72_128, x72_131, x72_132, x72_134, x72_135, x72_136, x72_139, x72_141, x72_144, x72_146, x72_147, x72_150, x72_153, x72_154, x72_155, x72_156, x72_159, x72_160, x72_162, x72_165, x72_166, x72_168, x72_171, x72_172, x72_174, x72_177, x72_180, x72_181, x72_188, x72_191, x72_184, x72_185, x72_103, zf13_0, zf13_1, zf14_0, zf14_1, zf14_2, zq13_0, zq13_1, zq14_0, zq14_1, zq14_2, zp13_1, zp14_0, zp14_1, zp14_2, zo13, zo14, tl] at key
      simp only [↓reduceIte, true_and, and_true, zf_i, zf_0, zf_1, zb_fit, z_ex, Option.toList_some, Option.toList_none, List.cons_append, List.nil_append, zb_0, z_ie, z_iv, z_ih, z_iz, z_izn, z_i2, z_ia, z_io, z_ina, z_8, Classical.not_not, x72_0, x72_1, x72_2, x72_5, x72_6, x72_7, x72_10, x72_11, x72_12, x72_15, x72_16, x72_19, x72_20, x72_21, x72_22, x72_25, x72_26, x72_27, x72_30, x72_33, x72_35, x72_36, x72_38, x72_39, x72_41, x72_44, x72_46, x72_49, x72_50, x72_52, x72_53, x72_54, x72_57, x72_59, x72_61, x72_63, x72_64, x72_65, x72_66, x72_68, x72_70, x72_73, x72_74, x72_76, x72_79, x72_81, x72_84, x72_85, x72_88, x72_89, x72_91, x72_94, x72_96, x72_99, x72_100, x72_104, x72_106, x72_108, x72_111, x72_114, x72_116, x72_117, x72_118, x72_120, x72_121, x72_123, x72_126, x72_128, x72_131, x72_132, x72_134, x72_135, x72_136, x72_139, x72_141, x72_144, x72_146, x72_147, x72_150, x72_153, x72_154, x72_155, x72_156, x72_159, x72_160, x72_162, x72_165, x72_166, x72_168, x72_171, x72_172, x72_174, x72_177, x72_180, x72_181, x72_188, x72_191, x72_184, x72_185, x72_103, zf13_0, zf13_1, zf14_0, zf14_1, zf14_2, zq13_0, zq13_1, zq14_0, zq14_1, zq14_2, zp13_1, zp14_0, zp14_1, zp14_2, zo13, zo14, fk, n1, wo, zo1 (show j < 7 by omega), wl, tl, s1, key]
  · rw [zfk_0 6 0 (fun j _ h2 h3 => hex ⟨j, by omega, h3⟩)] at fk
    simp only [↓reduceIte, true_and, and_true, zf_i, zf_0, zf_1, zb_fit, z_ex, Option.toList_some, Option.toList_none, List.cons_append, List.nil_append, zb_0, z_ie, z_iv, z_ih, z_iz, z_izn, z_i2, z_ia, z_io, z_ina, z_8, Classical.not_not, x72_0, x72_1, x72_2, x72_5, x72_6, x72_7, x72_10, x72_11, x72_12, x72_15, x72_16, x72_19, x72_20, x72_21, x72_22, x72_25, x72_26, x72_27, x72_30, x72_33, x72_35, x72_36, x72_38, x72_39, x72_41, x72_44, x72_46, x72_49, x72_50, x72_52, x72_53, x72_54, x72_57, x72_59, x72_61, x72_63, x72_64, x72_65, x72_66, x72_68, x72_70, x72_73, x72_74, x72_76, x72_79, x72_81, x72_84, x72_85, x72_88, x72_89, x72_91, x72_94, x72_96, x72_99, x72_100, x72_104, x72_106, x72_108, x72_111, x72_114, x72_116, x72_117, x72_118, x72_120, x72_121, x72_123, x72_126, x72_128, x72_131, x72_132, x72_134, x72_135, x72_136, x72_139, x72_141, x72_144, x72_146, x72_147, x72_150, x72_153, x72_154, x72_155, x72_156, x72_159, x72_160, x72_162, x72_165, x72_166, x72_168, x72_171, x72_172, x72_174, x72_177, x72_180, x72_181, x72_188, x72_191, x72_184, x72_185, x72_103, zf13_0, zf13_1, zf14_0, zf14_1, zf14_2, zq13_0, zq13_1, zq14_0, zq14_1, zq14_2, zp13_1, zp14_0, zp14_1, zp14_2, zo13, zo14, fk]
set_option maxRecDepth 3000 in
set_option maxHeartbeats 400000 in
theorem read_ok {d n j c e : Nat} {lw : Int32} (ht : zTape σ n) (hg : zGood (zat (σ 39 0) n) n j c e) : zm_Calls (d + 7) 72 [.inr (.inr (some (14, 0))), .inr (.inr (some (13, 0))), .inl lw] (zh G σ) o ↔ o = (none, zh G (zk3 (zk3 σ (-1) 0 lw) (nI j) (nI c) (zWt (zat (σ 39 0) n) n e j))) := by
  have h := r0_ok (G := G) (o := o) (d := d) (σ := zk3 σ (-1) 0 lw) (lw := lw) (l3 := none) (l4 := none) (l5 := none) (l6 := none) (l7 := none) (zk3_T ht) (j := j) (c := c) (e := e) (by rw [zk3_off (by omega)]; exact hg)
  rw [zk3_off (by omega)] at h
  generalize zWt (zat (σ 39 0) n) n e j = w at *
  rw [← h]
  unfold zk3
  rw [i72, x72_0]
  simp only [x72_1, x72_2, x72_5, x72_6, x72_7, x72_10, x72_11, x72_12, ↓reduceIte, true_and, and_true, zf_i, zf_0, zf_1, zb_fit, z_ex, Option.toList_some, Option.toList_none, List.cons_append, List.nil_append, zb_0, z_ie, z_iv, z_ih, z_iz, z_izn, z_i2, z_ia, z_io, z_ina, z_8, Classical.not_not, zf13_0, zf13_1, zf14_0, zf14_1, zf14_2, zq13_0, zq13_1, zq14_0, zq14_1, zq14_2, zp13_1, zp14_0, zp14_1, zp14_2, zo13, zo14, z_814, true_and]
set_option maxRecDepth 3000 in
set_option maxHeartbeats 400000 in
theorem read_no {d n : Nat} {lw : Int32} (ht : zTape σ n) (hg : ∀ j c e, ¬ zGood (zat (σ 39 0) n) n j c e) : zm_Calls (d + 7) 72 [.inr (.inr (some (14, 0))), .inr (.inr (some (13, 0))), .inl lw] (zh G σ) o ↔ o = (none, zh G (zk3 σ (-1) 0 lw)) := by
  have h := r0_no (G := G) (o := o) (d := d) (σ := zk3 σ (-1) 0 lw) (lw := lw) (l3 := none) (l4 := none) (l5 := none) (l6 := none) (l7 := none) (zk3_T ht) (by rw [zk3_off (by omega)]; exact hg)
  rw [← h]
  unfold zk3
  rw [i72, x72_0]
  simp only [x72_1, x72_2, x72_5, x72_6, x72_7, x72_10, x72_11, x72_12, ↓reduceIte, true_and, and_true, zf_i, zf_0, zf_1, zb_fit, z_ex, Option.toList_some, Option.toList_none, List.cons_append, List.nil_append, zb_0, z_ie, z_iv, z_ih, z_iz, z_izn, z_i2, z_ia, z_io, z_ina, z_8, Classical.not_not, zf13_0, zf13_1, zf14_0, zf14_1, zf14_2, zq13_0, zq13_1, zq14_0, zq14_1, zq14_2, zp13_1, zp14_0, zp14_1, zp14_2, zo13, zo14, z_814, true_and]
end ZS4
