def zm_E (C : Nat → List zmV → zmH → zmO → Prop) (mi pc : Nat) (L : zmL) (st : List zmV) (h : zmH) (o : zmO) : Prop := ∃ n, zm_Run C mi n pc L st h o
section ZMX
variable {C : Nat → List zmV → zmH → zmO → Prop} {mi pc pc2 : Nat} {i : Instr} {L L2 : zmL} {st st2 : List zmV} {h h2 : zmH} {o : zmO}
theorem zm_go (hf : zt_fetch mi pc = some i) (hs : zm_step mi pc i L st h = some (pc2, L2, st2, h2)) : zm_E C mi pc L st h o ↔ zm_E C mi pc2 L2 st2 h2 o := by
  constructor
  · rintro ⟨n, hn⟩
    cases n with
    | zero => exact hn.elim
    | succ n =>
      simp only [zm_Run, hf, hs] at hn
      exact ⟨n, hn⟩
  · rintro ⟨n, hn⟩
    refine ⟨n + 1, ?_⟩
    simp only [zm_Run, hf, hs]
    exact hn
theorem zm_brn {c : Prop} [Decidable c] {x y : Nat} (hf : zt_fetch mi pc = some i) (hs : zm_step mi pc i L st h = some (if c then x else y, L2, st2, h2)) : zm_E C mi pc L st h o ↔ if c then zm_E C mi x L2 st2 h2 o else zm_E C mi y L2 st2 h2 o := by
  rw [zm_go hf hs]
  by_cases hc : c
  · rw [if_pos hc, if_pos hc]
  · rw [if_neg hc, if_neg hc]
theorem zm_rt {v : Option zmV} (hf : zt_fetch mi pc = some i) (hs : zm_step mi pc i L st h = none) (hr : zm_ret mi i st = some v) : zm_E C mi pc L st h o ↔ o = (v, h) := by
  constructor
  · rintro ⟨n, hn⟩
    cases n with
    | zero => exact hn.elim
    | succ n =>
      simp only [zm_Run, hf, hs, hr] at hn
      exact hn
  · intro ho
    refine ⟨1, ?_⟩
    simp only [zm_Run, hf, hs, hr]
    exact ho
theorem zm_no (hf : zt_fetch mi pc = some i) (hs : zm_step mi pc i L st h = none) (hr : zm_ret mi i st = none) (hc : zm_call mi i st h = none) : zm_E C mi pc L st h o ↔ False := by
  refine ⟨?_, fun q => q.elim⟩
  rintro ⟨n, hn⟩
  cases n with
  | zero => exact hn.elim
  | succ n =>
    simp only [zm_Run, hf, hs, hr, hc] at hn
theorem zm_co {c : Prop} [Decidable c] (hf : zt_fetch mi pc = some i) (hs : zm_step mi pc i L st h = if c then some (pc2, L2, st2, h2) else none) (hr : zm_ret mi i st = none) (hc : zm_call mi i st h = none) : zm_E C mi pc L st h o ↔ c ∧ zm_E C mi pc2 L2 st2 h2 o := by
  by_cases q : c
  · rw [if_pos q] at hs
    rw [zm_go hf hs]
    exact ⟨fun z => ⟨q, z⟩, fun z => z.2⟩
  · rw [if_neg q] at hs
    rw [zm_no hf hs hr hc]
    exact ⟨fun z => z.elim, fun z => q z.1⟩
theorem zm_cx {m2 : Nat} {as rest : List zmV} (hf : zt_fetch mi pc = some i) (hs : zm_step mi pc i L st h = none) (hr : zm_ret mi i st = none) (hc : zm_call mi i st h = some (m2, as, rest)) : zm_E C mi pc L st h o ↔ ∃ r : zmO, C m2 as h r ∧ zm_E C mi (pc + 3) L (r.1.toList ++ rest) r.2 o := by
  constructor
  · rintro ⟨n, hn⟩
    cases n with
    | zero => exact hn.elim
    | succ n =>
      simp only [zm_Run, hf, hs, hr, hc] at hn
      obtain ⟨r, h1, h2⟩ := hn
      exact ⟨r, h1, n, h2⟩
  · rintro ⟨r, h1, n, h2⟩
    refine ⟨n + 1, ?_⟩
    simp only [zm_Run, hf, hs, hr, hc]
    exact ⟨r, h1, h2⟩
theorem zm_cv {k m2 n ci : Nat} {r : zmK} {as rest : List zmV} (hf : zt_fetch mi pc = some (.invokevirtual k)) (hq : zt_call (zt_own mi) k = some (0, m2, n, ci)) (ht : zm_tk n st = some (.inr (.inr (some r)) :: as, rest)) (hl : rest.length ≤ 4) : zm_E C mi pc L st h o ↔ zm_isO h r ci = true ∧ ∃ q : zmO, C m2 (.inr (.inr (some r)) :: as) h q ∧ zm_E C mi (pc + 3) L (q.1.toList ++ rest) q.2 o := by
  by_cases hO : zm_isO h r ci = true
  · rw [zm_cx (m2 := m2) (as := .inr (.inr (some r)) :: as) (rest := rest) hf rfl rfl (by simp only [zm_call, hq, ht]; exact if_pos ⟨hO, hl⟩)]
    exact ⟨fun q => ⟨hO, q⟩, fun q => q.2⟩
  · rw [zm_no hf rfl rfl (by simp only [zm_call, hq, ht]; exact if_neg (fun q => hO q.1))]
    exact ⟨fun q => q.elim, fun q => hO q.1⟩
theorem zm_csp {k m2 n ci : Nat} {r : zmK} {as rest : List zmV} (hf : zt_fetch mi pc = some (.invokespecial k)) (ho : zt_oinit (zt_own mi) k = false) (hq : zt_call (zt_own mi) k = some (1, m2, n, ci)) (ht : zm_tk n st = some (.inr (.inr (some r)) :: as, rest)) (hl : rest.length ≤ 4) : zm_E C mi pc L st h o ↔ 8 ≤ r.1 ∧ ∃ q : zmO, C m2 (.inr (.inr (some r)) :: as) h q ∧ zm_E C mi (pc + 3) L (q.1.toList ++ rest) q.2 o := by
  have hs : zm_step mi pc (.invokespecial k) L st h = none := by
    simp only [zm_step, ho]
    split
    · rw [if_neg (fun q => by cases q.1)]
    · rfl
  by_cases hO : 8 ≤ r.1
  · rw [zm_cx (m2 := m2) (as := .inr (.inr (some r)) :: as) (rest := rest) hf hs rfl (by simp only [zm_call, hq, ht]; exact if_pos ⟨decide_eq_true hO, hl⟩)]
    exact ⟨fun q => ⟨hO, q⟩, fun q => q.2⟩
  · rw [zm_no hf hs rfl (by simp only [zm_call, hq, ht]; exact if_neg (fun q => hO (of_decide_eq_true q.1)))]
    exact ⟨fun q => q.elim, fun q => hO q.1⟩
theorem zm_cst {k m2 n ci : Nat} {as rest : List zmV} (hf : zt_fetch mi pc = some (.invokestatic k)) (hm : zt_max (zt_own mi) k = false) (hq : zt_call (zt_own mi) k = some (2, m2, n, ci)) (ht : zm_tk n st = some (as, rest)) (hl : rest.length ≤ 4) : zm_E C mi pc L st h o ↔ ∃ q : zmO, C m2 as h q ∧ zm_E C mi (pc + 3) L (q.1.toList ++ rest) q.2 o :=
  zm_cx hf (by
    simp only [zm_step, hm]
    split
    · rw [if_neg (fun q => by cases q.1)]
    · rfl) rfl (by simp only [zm_call, hq, ht]; rw [if_pos hl])
theorem zm_mx {k : Nat} {x y : Int32} (hf : zt_fetch mi pc = some (.invokestatic k)) (hm : zt_max (zt_own mi) k = true) (hl : st.length ≤ 4) : zm_E C mi pc L (.inl y :: .inl x :: st) h o ↔ zm_E C mi (pc + 3) L (.inl (if x < y then y else x) :: st) h o :=
  zm_go hf (by simp only [zm_step]; rw [if_pos ⟨hm, hl⟩])
theorem zm_oi {k : Nat} {r : zmK} (hf : zt_fetch mi pc = some (.invokespecial k)) (ho : zt_oinit (zt_own mi) k = true) (hq : zt_call (zt_own mi) k = none) (hl : st.length ≤ 4) : zm_E C mi pc L (.inr (.inr (some r)) :: st) h o ↔ 8 ≤ r.1 ∧ zm_E C mi (pc + 3) L st h o := by
  have h1 : (zt_oinit (zt_own mi) k = true ∧ st.length ≤ 4 ∧ 8 ≤ r.1) ↔ 8 ≤ r.1 := ⟨fun q => q.2.2, fun q => ⟨ho, hl, q⟩⟩
  rw [← h1]
  exact zm_co hf rfl rfl (by simp only [zm_call, hq])
theorem zm_ci {d : Nat} {as : List zmV} (hl : zm_layOk mi as = true) (hi : zm_ini mi as = L) : zm_Calls (d + 1) mi as h o ↔ zm_E (zm_Calls d) mi 0 L [] h o := by
  subst hi
  exact ⟨fun q => q.2, fun q => ⟨hl, q⟩⟩
theorem zm_k1 {n : Int} {x : Int32} (hf : zt_fetch mi pc = some (.iconst n)) (hx : Int32.ofInt n = x) : zm_E C mi pc L st h o ↔ zm_E C mi (pc + 1) L (.inl x :: st) h o := by
  subst hx
  exact zm_go hf rfl
theorem zm_k2 {n : Int} {x : Int32} (hf : zt_fetch mi pc = some (.bipush n)) (hx : (Int8.ofInt n).toInt32 = x) : zm_E C mi pc L st h o ↔ zm_E C mi (pc + 2) L (.inl x :: st) h o := by
  subst hx
  exact zm_go hf rfl
theorem zm_k3 {n : Int} {x : Int32} (hf : zt_fetch mi pc = some (.sipush n)) (hx : (Int16.ofInt n).toInt32 = x) : zm_E C mi pc L st h o ↔ zm_E C mi (pc + 3) L (.inl x :: st) h o := by
  subst hx
  exact zm_go hf rfl
theorem zm_k4 {k : Nat} {v : zmV} (hf : zt_fetch mi pc = some (.ldc k)) (hx : zt_ldc (zt_own mi) k = some v) : zm_E C mi pc L st h o ↔ zm_E C mi (pc + 2) L (v :: st) h o :=
  zm_go hf (by simp only [zm_step, hx, Option.map_some])
theorem zm_k5 {k : Nat} {v : Int64} (hf : zt_fetch mi pc = some (.ldc2_w k)) (hx : zt_ldc2 (zt_own mi) k = some v) : zm_E C mi pc L st h o ↔ zm_E C mi (pc + 3) L (.inr (.inl v) :: st) h o :=
  zm_go hf (by simp only [zm_step, hx, Option.map_some])
theorem zm_k6 {k : Nat} {v : zmV} (hf : zt_fetch mi pc = some (.getstatic k)) (hx : zt_stat (zt_own mi) k = some v) : zm_E C mi pc L st h o ↔ zm_E C mi (pc + 3) L (v :: st) h o :=
  zm_go hf (by simp only [zm_step, hx, Option.map_some])
theorem zm_k7 {n : Int} {d : Nat} {x a : Int32} (hf : zt_fetch mi pc = some (.iinc d n)) (hx : Int32.ofInt n = x) (ha : L[d]? = some (some (.inl a))) (h2 : zm_no2 (zt_lslot mi) d = true) : zm_E C mi pc L st h o ↔ zm_E C mi (pc + 3) (L.set d (some (.inl (a + x)))) st h o := by
  subst hx
  exact zm_go hf (by simp only [zm_step, zm_inc, ha, h2, if_true, Option.map_some])
theorem zm_b1 {c : ClassFile.Cond} {off : Int} {t : Nat} {x : Int32} (hf : zt_fetch mi pc = some (.ifCond c off)) (ht : zm_tgt pc off = some t) : zm_E C mi pc L (.inl x :: st) h o ↔ if zm_cmp c x 0 = true then zm_E C mi t L st h o else zm_E C mi (pc + 3) L st h o :=
  zm_brn hf (by simp only [zm_step, ht, Option.map_some])
theorem zm_b2 {c : ClassFile.Cond} {off : Int} {t : Nat} {x y : Int32} (hf : zt_fetch mi pc = some (.if_icmp c off)) (ht : zm_tgt pc off = some t) : zm_E C mi pc L (.inl y :: .inl x :: st) h o ↔ if zm_cmp c x y = true then zm_E C mi t L st h o else zm_E C mi (pc + 3) L st h o :=
  zm_brn hf (by simp only [zm_step, ht, Option.map_some])
theorem zm_if1 {c : Prop} [Decidable c] {b : Bool} {A B : Prop} (hb : b = true ↔ c) : (if b = true then A else B) ↔ if c then A else B := by
  by_cases q : c
  · rw [if_pos q, if_pos (hb.mpr q)]
  · rw [if_neg q, if_neg (fun z => q (hb.mp z))]
theorem zm_if2 {c : Prop} [Decidable c] {b : Bool} {A B : Prop} (hb : b = true ↔ ¬ c) : (if b = true then A else B) ↔ if c then B else A := by
  by_cases q : c
  · rw [if_pos q, if_neg (fun z => hb.mp z q)]
  · rw [if_neg q, if_pos (hb.mpr q)]
theorem zm_j_eq {off : Int} {t : Nat} {x y : Int32} (hf : zt_fetch mi pc = some (.if_icmp .eq off)) (ht : zm_tgt pc off = some t) : zm_E C mi pc L (.inl y :: .inl x :: st) h o ↔ if x = y then zm_E C mi t L st h o else zm_E C mi (pc + 3) L st h o :=
  (zm_b2 hf ht).trans (zm_if1 (by simp [zm_cmp]))
theorem zm_z_eq {off : Int} {t : Nat} {x : Int32} (hf : zt_fetch mi pc = some (.ifCond .eq off)) (ht : zm_tgt pc off = some t) : zm_E C mi pc L (.inl x :: st) h o ↔ if x = 0 then zm_E C mi t L st h o else zm_E C mi (pc + 3) L st h o :=
  (zm_b1 hf ht).trans (zm_if1 (by simp [zm_cmp]))
theorem zm_j_ne {off : Int} {t : Nat} {x y : Int32} (hf : zt_fetch mi pc = some (.if_icmp .ne off)) (ht : zm_tgt pc off = some t) : zm_E C mi pc L (.inl y :: .inl x :: st) h o ↔ if x = y then zm_E C mi (pc + 3) L st h o else zm_E C mi t L st h o :=
  (zm_b2 hf ht).trans (zm_if2 (by simp [zm_cmp]))
theorem zm_z_ne {off : Int} {t : Nat} {x : Int32} (hf : zt_fetch mi pc = some (.ifCond .ne off)) (ht : zm_tgt pc off = some t) : zm_E C mi pc L (.inl x :: st) h o ↔ if x = 0 then zm_E C mi (pc + 3) L st h o else zm_E C mi t L st h o :=
  (zm_b1 hf ht).trans (zm_if2 (by simp [zm_cmp]))
theorem zm_j_lt {off : Int} {t : Nat} {x y : Int32} (hf : zt_fetch mi pc = some (.if_icmp .lt off)) (ht : zm_tgt pc off = some t) : zm_E C mi pc L (.inl y :: .inl x :: st) h o ↔ if x < y then zm_E C mi t L st h o else zm_E C mi (pc + 3) L st h o :=
  (zm_b2 hf ht).trans (zm_if1 (by simp [zm_cmp]))
theorem zm_z_lt {off : Int} {t : Nat} {x : Int32} (hf : zt_fetch mi pc = some (.ifCond .lt off)) (ht : zm_tgt pc off = some t) : zm_E C mi pc L (.inl x :: st) h o ↔ if x < 0 then zm_E C mi t L st h o else zm_E C mi (pc + 3) L st h o :=
  (zm_b1 hf ht).trans (zm_if1 (by simp [zm_cmp]))
theorem zm_j_ge {off : Int} {t : Nat} {x y : Int32} (hf : zt_fetch mi pc = some (.if_icmp .ge off)) (ht : zm_tgt pc off = some t) : zm_E C mi pc L (.inl y :: .inl x :: st) h o ↔ if x < y then zm_E C mi (pc + 3) L st h o else zm_E C mi t L st h o :=
  (zm_b2 hf ht).trans (zm_if2 (by simp [zm_cmp]))
theorem zm_z_ge {off : Int} {t : Nat} {x : Int32} (hf : zt_fetch mi pc = some (.ifCond .ge off)) (ht : zm_tgt pc off = some t) : zm_E C mi pc L (.inl x :: st) h o ↔ if x < 0 then zm_E C mi (pc + 3) L st h o else zm_E C mi t L st h o :=
  (zm_b1 hf ht).trans (zm_if2 (by simp [zm_cmp]))
theorem zm_j_gt {off : Int} {t : Nat} {x y : Int32} (hf : zt_fetch mi pc = some (.if_icmp .gt off)) (ht : zm_tgt pc off = some t) : zm_E C mi pc L (.inl y :: .inl x :: st) h o ↔ if y < x then zm_E C mi t L st h o else zm_E C mi (pc + 3) L st h o :=
  (zm_b2 hf ht).trans (zm_if1 (by simp [zm_cmp]))
theorem zm_z_gt {off : Int} {t : Nat} {x : Int32} (hf : zt_fetch mi pc = some (.ifCond .gt off)) (ht : zm_tgt pc off = some t) : zm_E C mi pc L (.inl x :: st) h o ↔ if 0 < x then zm_E C mi t L st h o else zm_E C mi (pc + 3) L st h o :=
  (zm_b1 hf ht).trans (zm_if1 (by simp [zm_cmp]))
theorem zm_j_le {off : Int} {t : Nat} {x y : Int32} (hf : zt_fetch mi pc = some (.if_icmp .le off)) (ht : zm_tgt pc off = some t) : zm_E C mi pc L (.inl y :: .inl x :: st) h o ↔ if y < x then zm_E C mi (pc + 3) L st h o else zm_E C mi t L st h o :=
  (zm_b2 hf ht).trans (zm_if2 (by simp [zm_cmp]))
theorem zm_z_le {off : Int} {t : Nat} {x : Int32} (hf : zt_fetch mi pc = some (.ifCond .le off)) (ht : zm_tgt pc off = some t) : zm_E C mi pc L (.inl x :: st) h o ↔ if 0 < x then zm_E C mi (pc + 3) L st h o else zm_E C mi t L st h o :=
  (zm_b1 hf ht).trans (zm_if2 (by simp [zm_cmp]))
theorem zm_b3 {off : Int} {t : Nat} {q : Option zmK} (hf : zt_fetch mi pc = some (.ifnull off)) (ht : zm_tgt pc off = some t) : zm_E C mi pc L (.inr (.inr q) :: st) h o ↔ zm_n7 q = true ∧ if q = none then zm_E C mi t L st h o else zm_E C mi (pc + 3) L st h o := by
  by_cases h7 : zm_n7 q = true
  · rw [zm_brn (L2 := L) (st2 := st) (h2 := h) (c := q = none) (x := t) (y := pc + 3) hf (by simp only [zm_step, h7, if_true, ht, Option.map_some])]
    exact ⟨fun z => ⟨h7, z⟩, fun z => z.2⟩
  · rw [zm_no hf (by simp only [zm_step]; rw [if_neg h7]) rfl rfl]
    exact ⟨fun z => z.elim, fun z => h7 z.1⟩
theorem zm_b4 {off : Int} {t : Nat} {q : Option zmK} (hf : zt_fetch mi pc = some (.ifnonnull off)) (ht : zm_tgt pc off = some t) : zm_E C mi pc L (.inr (.inr q) :: st) h o ↔ zm_n7 q = true ∧ if q = none then zm_E C mi (pc + 3) L st h o else zm_E C mi t L st h o := by
  by_cases h7 : zm_n7 q = true
  · rw [zm_brn (L2 := L) (st2 := st) (h2 := h) (c := q = none) (x := pc + 3) (y := t) hf (by simp only [zm_step, h7, if_true, ht, Option.map_some])]
    exact ⟨fun z => ⟨h7, z⟩, fun z => z.2⟩
  · rw [zm_no hf (by simp only [zm_step]; rw [if_neg h7]) rfl rfl]
    exact ⟨fun z => z.elim, fun z => h7 z.1⟩
theorem zm_sw {df lo hi : Int} {offs : Array Int} {t : Nat} {x : Int32} (hf : zt_fetch mi pc = some (.tableswitch df lo hi offs)) (ht : zm_tab pc df lo hi offs x = some t) : zm_E C mi pc L (.inl x :: st) h o ↔ zm_E C mi t L st h o :=
  zm_go hf (by simp only [zm_step, ht, Option.map_some])
theorem zm_swd {df lo hi : Int} {offs : Array Int} {t : Nat} {x : Int32} (hf : zt_fetch mi pc = some (.tableswitch df lo hi offs)) (hx : x.toInt < lo ∨ hi < x.toInt) (ht : zm_tgt pc df = some t) : zm_E C mi pc L (.inl x :: st) h o ↔ zm_E C mi t L st h o :=
  zm_sw hf (by unfold zm_tab; rw [if_pos hx]; exact ht)
theorem zm_gf {r : zmK} {k ci f : Nat} {ty : FieldType} {fin : Bool} (hf : zt_fetch mi pc = some (.getfield k)) (hq : zt_fld (zt_own mi) k = some (ci, f, ty, fin)) : zm_E C mi pc L (.inr (.inr (some r)) :: st) h o ↔ zm_isF h r ci f = true ∧ zm_E C mi (pc + 3) L (zm_getF h r f :: st) h o :=
  zm_co hf (by simp only [zm_step, hq]) rfl rfl
theorem zm_pf {r : zmK} {v : zmV} {k ci f : Nat} {ty : FieldType} {fin : Bool} (hf : zt_fetch mi pc = some (.putfield k)) (hq : zt_fld (zt_own mi) k = some (ci, f, ty, fin)) (hn : fin = false ∨ (zt_init mi = true ∧ zt_cn ci = zt_cls (zt_own mi))) : zm_E C mi pc L (v :: .inr (.inr (some r)) :: st) h o ↔ (zm_isF h r ci f = true ∧ zm_fit ty v = true ∧ 8 ≤ r.1) ∧ zm_E C mi (pc + 3) L st (zm_putF h r f v) o := by
  have h1 : (zm_isF h r ci f = true ∧ zm_fit ty v = true ∧ 8 ≤ r.1 ∧ (fin = false ∨ (zt_init mi = true ∧ zt_cn ci = zt_cls (zt_own mi)))) ↔ (zm_isF h r ci f = true ∧ zm_fit ty v = true ∧ 8 ≤ r.1) := ⟨fun q => ⟨q.1, q.2.1, q.2.2.1⟩, fun q => ⟨q.1, q.2.1, q.2.2, hn⟩⟩
  rw [← h1]
  exact zm_co hf (by simp only [zm_step, hq]) rfl rfl
theorem zm_il1 {r : zmK} {x : Int32} (hf : zt_fetch mi pc = some .iaload) : zm_E C mi pc L (.inl x :: .inr (.inr (some r)) :: st) h o ↔ zm_inI h r .int x = true ∧ zm_E C mi (pc + 1) L (.inl (zm_ldI h r x) :: st) h o := zm_co hf rfl rfl rfl
theorem zm_cl1 {r : zmK} {x : Int32} (hf : zt_fetch mi pc = some .caload) : zm_E C mi pc L (.inl x :: .inr (.inr (some r)) :: st) h o ↔ (zm_inI h r .char x = true ∧ 8 ≤ r.1) ∧ zm_E C mi (pc + 1) L (.inl (zm_ldI h r x) :: st) h o := zm_co hf rfl rfl rfl
theorem zm_bl1 {r : zmK} {x : Int32} (hf : zt_fetch mi pc = some .baload) : zm_E C mi pc L (.inl x :: .inr (.inr (some r)) :: st) h o ↔ ((zm_inI h r .byte x = true ∧ r.1 < 8) ∨ (zm_inI h r .boolean x = true ∧ 8 ≤ r.1)) ∧ zm_E C mi (pc + 1) L (.inl (zm_ldI h r x) :: st) h o := zm_co hf rfl rfl rfl
theorem zm_zs1 {r : zmK} {x y : Int32} (hf : zt_fetch mi pc = some .bastore) : zm_E C mi pc L (.inl y :: .inl x :: .inr (.inr (some r)) :: st) h o ↔ (zm_inI h r .boolean x = true ∧ 8 ≤ r.1) ∧ zm_E C mi (pc + 1) L st (zm_stI h r x (vp_nar .boolean y)) o := zm_co hf rfl rfl rfl
theorem zm_al1 {r : zmK} {x : Int32} (hf : zt_fetch mi pc = some .aaload) : zm_E C mi pc L (.inl x :: .inr (.inr (some r)) :: st) h o ↔ (zm_inQ h r x = true ∧ 8 ≤ r.1) ∧ zm_E C mi (pc + 1) L (.inr (.inr (zm_ldQ h r x)) :: st) h o := zm_co hf rfl rfl rfl
theorem zm_is1 {r : zmK} {x y : Int32} (hf : zt_fetch mi pc = some .iastore) : zm_E C mi pc L (.inl y :: .inl x :: .inr (.inr (some r)) :: st) h o ↔ (zm_inI h r .int x = true ∧ 8 ≤ r.1) ∧ zm_E C mi (pc + 1) L st (zm_stI h r x y) o := zm_co hf rfl rfl rfl
theorem zm_cs1 {r : zmK} {x y : Int32} (hf : zt_fetch mi pc = some .castore) : zm_E C mi pc L (.inl y :: .inl x :: .inr (.inr (some r)) :: st) h o ↔ (zm_inI h r .char x = true ∧ 8 ≤ r.1) ∧ zm_E C mi (pc + 1) L st (zm_stI h r x (vp_nar .char y)) o := zm_co hf rfl rfl rfl
theorem zm_as1 {r y : zmK} {x : Int32} (hf : zt_fetch mi pc = some .aastore) : zm_E C mi pc L (.inr (.inr (some y)) :: .inl x :: .inr (.inr (some r)) :: st) h o ↔ (zm_inQ h r x = true ∧ zm_okQ zt_cn h r y = true ∧ 8 ≤ r.1 ∧ 8 ≤ y.1) ∧ zm_E C mi (pc + 1) L st (zm_stQ h r x y) o := zm_co hf rfl rfl rfl
theorem zm_ln1 {r : zmK} (hf : zt_fetch mi pc = some .arraylength) : zm_E C mi pc L (.inr (.inr (some r)) :: st) h o ↔ zm_isA h r = true ∧ zm_E C mi (pc + 1) L (.inl (zm_len h r) :: st) h o := zm_co hf rfl rfl rfl
theorem zm_nw1 {k si ci : Nat} {tys : List FieldType} (hf : zt_fetch mi pc = some (.new k)) (hq : zt_new (zt_own mi) k = some (ci, tys)) (hsi : zt_site mi pc = si) : zm_E C mi pc L st h o ↔ zm_free h si = true ∧ zm_E C mi (pc + 3) L (.inr (.inr (some (si, h.2.1 si))) :: st) (zm_new h si (.inr (ci, tys.map zm_dflt)) tys.length) o := by
  subst hsi
  exact zm_co hf (by simp only [zm_step, hq]) rfl rfl
theorem zm_na1 {t : ArrayType} {x : Int32} {si : Nat} (hf : zt_fetch mi pc = some (.newarray t)) (hsi : zt_site mi pc = si) (ht : zm_at t = true) : zm_E C mi pc L (.inl x :: st) h o ↔ (zm_free h si = true ∧ zm_small x = true) ∧ zm_E C mi (pc + 2) L (.inr (.inr (some (si, h.2.1 si))) :: st) (zm_new h si (.inl (newarray.typeOf t, x.toNatClampNeg, .inl fun _ => 0)) x.toNatClampNeg) o := by
  subst hsi
  have h1 : (zm_free h (zt_site mi pc) = true ∧ zm_small x = true ∧ zm_at t = true) ↔ (zm_free h (zt_site mi pc) = true ∧ zm_small x = true) := ⟨fun q => ⟨q.1, q.2.1⟩, fun q => ⟨q.1, q.2, ht⟩⟩
  rw [← h1]
  exact zm_co hf rfl rfl rfl
theorem zm_aa1 {k si : Nat} {cn : String} {x : Int32} (hf : zt_fetch mi pc = some (.anewarray k)) (hq : zt_arr (zt_own mi) k = some cn) (hsi : zt_site mi pc = si) : zm_E C mi pc L (.inl x :: st) h o ↔ (zm_free h si = true ∧ zm_small x = true) ∧ zm_E C mi (pc + 3) L (.inr (.inr (some (si, h.2.1 si))) :: st) (zm_new h si (.inl (.object cn, x.toNatClampNeg, .inr fun _ => none)) x.toNatClampNeg) o := by
  subst hsi
  exact zm_co hf (by simp only [zm_step, hq]) rfl rfl
theorem zm_ir1 {x : Int32} {ty : FieldType} (hf : zt_fetch mi pc = some .ireturn) (hr : zt_ret mi = some ty) : zm_E C mi pc L [.inl x] h o ↔ zm_fit ty (.inl x) = true ∧ o = (some (.inl x), h) := by
  by_cases hv : zm_fit ty (.inl x) = true
  · rw [zm_rt (v := some (.inl x)) hf rfl (by simp only [zm_ret, hr, hv, if_true])]
    exact ⟨fun q => ⟨hv, q⟩, fun q => q.2⟩
  · rw [zm_no hf rfl (by simp only [zm_ret, hr]; rw [if_neg hv]) rfl]
    exact ⟨fun q => q.elim, fun q => hv q.1⟩
end ZMX
