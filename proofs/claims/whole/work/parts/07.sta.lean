def zm_ro (φ : zmK → Option Nat) (A : Nat → Prop) (s : State) (h : zmH) : Prop :=
  (∀ k ty n f, k.1 < 8 → zm_get h k = some (.inl (ty, n, .inl f)) → ∃ a, φ k = some a ∧ va_T ty a n (fun j => .int (f j)) A s s.heap) ∧
  (∀ k ty n f, k.1 < 8 → zm_get h k ≠ some (.inl (ty, n, .inr f))) ∧
  (∀ k ci fs, k.1 < 8 → zm_get h k = some (.inr (ci, fs)) → ci = 99 ∧ ∃ a, φ k = some a ∧ va_O "java/lang/String" a A s s.heap ∧ ∀ j v, fs[j]? = some v → ∃ w, zm_vr φ v w ∧ va_OF "java/lang/String" (zt_strF j).1 (zt_strF j).2 w a A s s.heap) ∧
  (∀ q ∈ zt_statL, ∃ w, zm_vr φ q.2.2.2 w ∧ va_Z q.1 q.2.1 q.2.2.1 w A s s.heap) ∧
  (∀ q ∈ zt_strL, ∃ a, φ q.2.2.2 = some a ∧ vk_R (zt_cls q.1) q.2.1 q.2.2.1 a s) ∧
  (∀ C ∈ zt_AO, va_AO C s) ∧
  (∀ q ∈ zt_NM, va_Nw (.methodLinkNest q.1 q.2.1 q.2.2.1 q.2.2.2) s) ∧
  (∀ q ∈ zt_NF, va_Nw (.fieldLinkNest q.1 q.2.1 q.2.2.1 q.2.2.2.1 q.2.2.2.2.1 q.2.2.2.2.2) s) ∧
  (∀ k : zmK, k.1 = 7 → zm_get h k = none)
theorem zm_ro.keep {φ ψ : zmK → Option Nat} {A : Nat → Prop} {s : State} {h h2 : zmH} (H : zm_ro φ A s h) (hl : zm_le φ ψ) (hg : ∀ k : zmK, k.1 < 8 → zm_get h2 k = zm_get h k) : zm_ro ψ A s h2 := by
  refine ⟨fun k ty n f h8 hk => ?_, fun k ty n f h8 hk => ?_, fun k ci fs h8 hk => ?_, fun q hq => ?_, fun q hq => ?_, H.2.2.2.2.2.1, H.2.2.2.2.2.2.1, H.2.2.2.2.2.2.2.1, fun k h7 => by rw [hg k (by omega)]; exact H.2.2.2.2.2.2.2.2 k h7⟩
  · rw [hg k h8] at hk
    obtain ⟨a, h1, h2⟩ := H.1 k ty n f h8 hk
    exact ⟨a, hl _ _ h1, h2⟩
  · rw [hg k h8] at hk
    exact H.2.1 k ty n f h8 hk
  · rw [hg k h8] at hk
    obtain ⟨h0, a, h1, h2, h3⟩ := H.2.2.1 k ci fs h8 hk
    refine ⟨h0, a, hl _ _ h1, h2, fun j v hv => ?_⟩
    obtain ⟨w, g1, g2⟩ := h3 j v hv
    exact ⟨w, g1.le hl, g2⟩
  · obtain ⟨w, g1, g2⟩ := H.2.2.2.1 q hq
    exact ⟨w, g1.le hl, g2⟩
  · obtain ⟨a, g1, g2⟩ := H.2.2.2.2.1 q hq
    exact ⟨a, hl _ _ g1, g2⟩
theorem zm_ro.call {φ : zmK → Option Nat} {A B : Nat → Prop} {s U : State} {h : zmH} {H : Heap} {locs : List Loc} (X : zm_ro φ A s h) (hS : va_S A s.heap H locs) (hB : ∀ q, B q → A q) (hU : U.heap = H) (hW : s.WarmedH U.vm) : zm_ro φ B U h := by
  subst hU
  refine ⟨fun k ty n f h8 hk => ?_, X.2.1, fun k ci fs h8 hk => ?_, fun q hq => ?_, fun q hq => ?_, fun C hC => va_AO.moved hW.alike (X.2.2.2.2.2.1 C hC), fun q hq => (X.2.2.2.2.2.2.1 q hq).warmM hW, fun q hq => (X.2.2.2.2.2.2.2.1 q hq).warmF hW, X.2.2.2.2.2.2.2.2⟩
  · obtain ⟨a, h1, h2⟩ := X.1 k ty n f h8 hk
    exact ⟨a, h1, ((h2.moved hW.alike).kept hS.2.1).narrow hB⟩
  · obtain ⟨h0, a, h1, h2, h3⟩ := X.2.2.1 k ci fs h8 hk
    refine ⟨h0, a, h1, ((h2.moved hW.alike).kept hS.2.1).narrow hB, fun j v hv => ?_⟩
    obtain ⟨w, g1, g2⟩ := h3 j v hv
    exact ⟨w, g1, ((g2.moved hW.alike).kept hS.2.1).narrow hB⟩
  · obtain ⟨w, g1, g2⟩ := X.2.2.2.1 q hq
    exact ⟨w, g1, ((g2.moved hW.alike).kept hS.2.1).narrow hB⟩
  · obtain ⟨a, g1, g2⟩ := X.2.2.2.2.1 q hq
    exact ⟨a, g1, g2.warm hW⟩
theorem zm_ro.calling {φ : zmK → Option Nat} {A : Nat → Prop} {U : State} {h : zmH} (X : zm_ro φ A U h) (g : JFrame) (mk : MethodId) (a : Array Value) : zm_ro φ A (U.calling g mk a) h := by
  refine ⟨fun k ty n f h8 hk => ?_, X.2.1, fun k ci fs h8 hk => ?_, fun q hq => ?_, fun q hq => ?_, fun C hC => va_AO.moved (u := U) (U := U.calling g mk a) (Vm.Alike.refl U.vm) (X.2.2.2.2.2.1 C hC), fun q hq => (X.2.2.2.2.2.2.1 q hq).same rfl rfl, fun q hq => (X.2.2.2.2.2.2.2.1 q hq).same rfl rfl, X.2.2.2.2.2.2.2.2⟩
  · obtain ⟨b, h1, h2⟩ := X.1 k ty n f h8 hk
    exact ⟨b, h1, h2.moved (U := U.calling g mk a) (Vm.Alike.refl U.vm)⟩
  · obtain ⟨h0, b, h1, h2, h3⟩ := X.2.2.1 k ci fs h8 hk
    refine ⟨h0, b, h1, h2.moved (U := U.calling g mk a) (Vm.Alike.refl U.vm), fun j v hv => ?_⟩
    obtain ⟨w, g1, g2⟩ := h3 j v hv
    exact ⟨w, g1, g2.moved (U := U.calling g mk a) (Vm.Alike.refl U.vm)⟩
  · obtain ⟨w, g1, g2⟩ := X.2.2.2.1 q hq
    exact ⟨w, g1, g2.moved (U := U.calling g mk a) (Vm.Alike.refl U.vm)⟩
  · obtain ⟨b, g1, g2⟩ := X.2.2.2.2.1 q hq
    exact ⟨b, g1, g2.same (U := U.calling g mk a) rfl⟩
theorem zm_ro.key {φ : zmK → Option Nat} {A : Nat → Prop} {s : State} {h : zmH} (X : zm_ro φ A s h) {k : zmK} {c : zmC} {w : Value} (hg : zm_get h k = some c) (hv : zm_vr φ (.inr (.inr (some k))) w) : ∃ a, φ k = some a ∧ w = .ref a :=
  zm_vr_n7 hv (fun e => by rw [X.2.2.2.2.2.2.2.2 k e] at hg; cases hg)
def zm_I (D : va_G) (A : Nat → Prop) (s : State) (mi : Nat) (φ : zmK → Option Nat) (L : zmL) (st : List zmV) (h : zmH) (H : Heap) (locs : List Loc) (ls : Array Slot) (rs : List Value) : Prop :=
  ∃ (ws : va_W) (tys : List (ClassId × FieldType)) (lv : List (Nat × Value)), va_K D zt_cl tys s ∧ va_P D zt_cl ws H ∧ va_D A ws ∧ va_S A s.heap H locs ∧ zm_hr φ tys h ws ∧ zm_ro φ A s h ∧ lv_has ls (zt_maxL mi) lv ∧ L.length = zt_maxL mi ∧ zm_lr φ (zt_lslot mi) L lv ∧ zm_sr φ st rs
def zm_Cx (p : Program) (s : State) (m : MethodId) (args : Array Value) (meth : Method) (c : Code) (A : Nat → Prop) (mi : Nat) : Prop :=
  p.tables.exec = Jvm.exec ∧ c.code = zt_bytes mi ∧ meth.sig.returnType = zt_ret mi ∧ c.maxLocals = zt_maxL mi ∧ s.vm.findClass (zt_cls (zt_own mi)) = some m.cls ∧ (∀ w ∈ zt_T, w.before args s = true) ∧ meth.locks = false ∧ (zt_init mi = true → meth.name = "<init>") ∧ ∀ q, s.heap.size ≤ q → A q
theorem zm_I.stack {D : va_G} {A : Nat → Prop} {s : State} {mi : Nat} {φ : zmK → Option Nat} {L : zmL} {st st2 : List zmV} {h : zmH} {H : Heap} {locs : List Loc} {ls : Array Slot} {rs rs2 : List Value} (X : zm_I D A s mi φ L st h H locs ls rs) (hr : zm_sr φ st2 rs2) : zm_I D A s mi φ L st2 h H locs ls rs2 := by
  obtain ⟨ws, tys, lv, h1, h2, h3, h4, h5, h6, h7, h8, h9, -⟩ := X
  exact ⟨ws, tys, lv, h1, h2, h3, h4, h5, h6, h7, h8, h9, hr⟩
theorem zm_I.sr {D : va_G} {A : Nat → Prop} {s : State} {mi : Nat} {φ : zmK → Option Nat} {L : zmL} {st : List zmV} {h : zmH} {H : Heap} {locs : List Loc} {ls : Array Slot} {rs : List Value} (X : zm_I D A s mi φ L st h H locs ls rs) : zm_sr φ st rs := by
  obtain ⟨ws, tys, lv, -, -, -, -, -, -, -, -, -, hr⟩ := X
  exact hr
section ZMB
variable {p : Program} {l : Launch} {e : Env} {R : Room} {s : State} {m : MethodId} {args : Array Value} {below : List Frame} {meth : Method} {c : Code} {H : Heap} {locs : List Loc} {cells slots : Nat} {Q : State → Prop}
variable {pc mi : Nat} {ls : Array Slot} {rs : List Value} {φ : zmK → Option Nat} {st : List zmV} {L : zmL} {h : zmH} {D : va_G} {A : Nat → Prop}
theorem zm_I.store {v : zmV} {r : List zmV} {w : Value} {rr : List Value} {n : Nat} {ls2 : Array Slot} (X : zm_I D A s mi φ L (v :: r) h H locs ls (w :: rr)) (hw : w.category = 1) (hn : n < L.length) (h2 : zm_no2 (zt_lslot mi) n = true)
    (hls : ∀ lv, lv_has ls (zt_maxL mi) lv → lv_has ls2 (zt_maxL mi) ((n, w) :: lv.filter (fun q => !(q.1 == n) && !(q.1 + 1 == n && q.2.category == 2)))) : zm_I D A s mi φ (L.set n (some v)) r h H locs ls2 rr := by
  obtain ⟨ws, tys, lv, h1, g2, h3, h4, h5, h6, h7, h8, h9, w1, r1, e1, hv, hr⟩ := X
  cases e1
  exact ⟨ws, tys, _, h1, g2, h3, h4, h5, h6, hls lv h7, by rw [List.length_set]; exact h8, h9.store hv hw hn h2, hr⟩
theorem zm_store_ok {i : Instr} {k : Nat} {v : zmV} {r : List zmV} {w : Value} {rr : List Value} {n : Nat} (X : zm_I D A s mi φ L (v :: r) h H locs ls (w :: rr)) (hw : w.category = 1) (hn : n < L.length) (h2 : zm_no2 (zt_lslot mi) n = true)
    (row : ∀ lv, lv_has ls (zt_maxL mi) lv → n < zt_maxL mi → (∀ ls2 : Array Slot, lv_has ls2 (zt_maxL mi) ((n, w) :: lv.filter (fun q => !(q.1 == n) && !(q.1 + 1 == n && q.2.category == 2))) → W p l e R s m args below meth c H locs cells slots Q (F0 m (pc + k) ls2 rr)) → W p l e R s m args below meth c H locs cells slots Q (F0 m pc ls (w :: rr)))
    (kk : ∀ ls2, zm_I D A s mi φ (L.set n (some v)) r h H locs ls2 rr → W p l e R s m args below meth c H locs cells slots Q (F0 m (pc + k) ls2 rr)) : W p l e R s m args below meth c H locs cells slots Q (F0 m pc ls (w :: rr)) := by
  obtain ⟨ws, tys, lv, h1, g2, h3, h4, h5, h6, h7, h8, h9, w1, r1, e1, hv, hr⟩ := X
  cases e1
  exact row lv h7 (by rw [← h8]; exact hn) (fun ls2 hl2 => kk ls2 ⟨ws, tys, _, h1, g2, h3, h4, h5, h6, hl2, by rw [List.length_set]; exact h8, h9.store hv hw hn h2, hr⟩)
theorem zm_storeL_ok {k : Nat} {r : List zmV} {x : Int64} {rr : List Value} {n : Nat} (X : zm_I D A s mi φ L (.inr (.inl x) :: r) h H locs ls (.long x :: rr)) (hn : n + 1 < L.length) (h2 : zm_no2 (zt_lslot mi) n = true) (hm : n ∈ zt_lslot mi)
    (row : ∀ lv, lv_has ls (zt_maxL mi) lv → n + 1 < zt_maxL mi → (∀ ls2 : Array Slot, lv_has ls2 (zt_maxL mi) ((n, .long x) :: lv.filter (fun q => !(q.1 == n) && (!(q.1 == n + 1) && !(q.1 + 1 == n && q.2.category == 2)))) → W p l e R s m args below meth c H locs cells slots Q (F0 m (pc + k) ls2 rr)) → W p l e R s m args below meth c H locs cells slots Q (F0 m pc ls (.long x :: rr)))
    (kk : ∀ ls2, zm_I D A s mi φ ((L.set n (some (.inr (.inl x)))).set (n + 1) none) r h H locs ls2 rr → W p l e R s m args below meth c H locs cells slots Q (F0 m (pc + k) ls2 rr)) : W p l e R s m args below meth c H locs cells slots Q (F0 m pc ls (.long x :: rr)) := by
  obtain ⟨ws, tys, lv, h1, g2, h3, h4, h5, h6, h7, h8, h9, w1, r1, e1, hv, hr⟩ := X
  cases e1
  exact row lv h7 (by rw [← h8]; exact hn) (fun ls2 hl2 => kk ls2 ⟨ws, tys, _, h1, g2, h3, h4, h5, h6, hl2, by rw [List.length_set, List.length_set]; exact h8, h9.storeL hn h2 hm, hr⟩)
theorem zm_I.at {n : Nat} {v : zmV} (X : zm_I D A s mi φ L st h H locs ls rs) (hv : L[n]? = some (some v)) : ∃ w, ls[n]? = some (.val w) ∧ zm_vr φ v w := by
  obtain ⟨ws, tys, lv, h1, g2, h3, h4, h5, h6, h7, h8, h9, hr⟩ := X
  exact zm_lr.at h7 h9 hv
theorem zm_I.obj {r : zmK} {ci : Nat} {fs : List zmV} (X : zm_I D A s mi φ L st h H locs ls rs) (hr : zm_get h r = some (.inr (ci, fs))) (h8 : 8 ≤ r.1) : ∃ (ws : va_W) (tys : List (ClassId × FieldType)) (i a : Nat) (gs : List Value), va_K D zt_cl tys s ∧ va_P D zt_cl ws H ∧ φ r = some a ∧ ws[i]? = some (a, .inr (ci, gs)) ∧ zm_sr φ fs gs := by
  obtain ⟨ws, tys, lv, h1, g2, h3, h4, h5, -⟩ := X
  obtain ⟨i, a, e, q1, q2, gs, q3, rfl⟩ := h5.1 r _ hr h8
  exact ⟨ws, tys, i, a, gs, h1, g2, q1, q2, q3⟩
end ZMB
theorem zm_isF_inv {h : zmH} {r : zmK} {ci k : Nat} (q : zm_isF h r ci k = true) : ∃ fs v, zm_get h r = some (.inr (ci, fs)) ∧ fs[k]? = some v ∧ zm_getF h r k = v ∧ k < fs.length := by
  unfold zm_isF at q
  split at q
  · next c0 fs hg =>
    rw [Bool.and_eq_true] at q
    have h1 : c0 = ci := by simpa using q.1
    have h2 : k < fs.length := by simpa using q.2
    subst h1
    refine ⟨fs, fs[k], hg, List.getElem?_eq_getElem h2, ?_, h2⟩
    unfold zm_getF
    rw [hg]
    simp [h2]
  · cases q
theorem zm_putF_eq {h : zmH} {r : zmK} {ci k : Nat} {fs : List zmV} {v : zmV} (hg : zm_get h r = some (.inr (ci, fs))) : zm_putF h r k v = zm_set h r (.inr (ci, fs.set k v)) := by
  unfold zm_putF; rw [hg]
theorem zm_set_ro {h : zmH} {r : zmK} {c : zmC} (h8 : 8 ≤ r.1) (k : zmK) (hk : k.1 < 8) : zm_get (zm_set h r c) k = zm_get h k := by
  rw [zm_get_set, if_neg]
  intro e; subst e; omega
theorem zm_new_ro {h : zmH} {s : Nat} {c : zmC} {sl : Nat} (h8 : 8 ≤ s) (k : zmK) (hk : k.1 < 8) : zm_get (zm_new h s c sl) k = zm_get h k := by
  rw [zm_get_new, if_neg]
  intro e; subst e; exact absurd hk (by simpa using h8)
theorem zm_fit_ok {φ : zmK → Option Nat} {ty : FieldType} {v : zmV} {w : Value} (hf : zm_fit ty v = true) (hv : zm_vr φ v w) : narrow ty w = w ∧ fits ty w = true := by
  rcases v with x | x | q
  · have hw : w = .int x := hv
    subst hw
    cases ty with
    | int => exact ⟨rfl, rfl⟩
    | boolean =>
      have hx : x = 0 ∨ x = 1 := by simpa [zm_fit] using hf
      rcases hx with rfl | rfl <;> exact ⟨by decide, by decide⟩
    | char =>
      have hx : 0 ≤ x ∧ x ≤ 65535 := by simpa [zm_fit] using hf
      have h0 : (0 : Int) ≤ x.toInt := by have := Int32.le_iff_toInt_le.mp hx.1; simpa using this
      have h1 : x.toInt ≤ 65535 := by have := Int32.le_iff_toInt_le.mp hx.2; simpa using this
      refine ⟨?_, ?_⟩
      · show Value.int x.toUInt32.toUInt16.toUInt32.toInt32 = Value.int x
        rw [lg_i2c_small h0 (by omega)]
      · show (decide (0 ≤ x) && decide (x ≤ 65535)) = true
        simp [hx.1, hx.2]
    | byte =>
      have hx : x.toInt8.toInt32 = x := by simpa [zm_fit] using hf
      refine ⟨?_, ?_⟩
      · show Value.int x.toInt8.toInt32 = Value.int x
        rw [hx]
      · have := pk_fb x
        rw [hx] at this
        exact this
    | _ => cases hf
  · cases ty <;> cases hf
  · rcases zm_vr_ref hv with rfl | ⟨a, rfl⟩ <;> cases ty <;> first | exact ⟨rfl, rfl⟩ | cases hf
section ZMC
variable {p : Program} {l : Launch} {e : Env} {R : Room} {s : State} {m : MethodId} {args : Array Value} {below : List Frame} {meth : Method} {c : Code} {H : Heap} {locs : List Loc} {cells slots : Nat} {Q : State → Prop}
variable {pc mi : Nat} {ls : Array Slot} {rs : List Value} {φ : zmK → Option Nat} {st rest : List zmV} {L : zmL} {h : zmH} {D : va_G} {A : Nat → Prop}
theorem zm_getfield_ok {k : Nat} {r : zmK} {q : Nat × Nat × FieldType × Bool} (X : zm_Cx p s m args meth c A mi) (hI : zm_I D A s mi φ L (.inr (.inr (some r)) :: rest) h H locs ls rs) (hdg : decode (zt_bytes mi) pc = .ok (.getfield k, 3)) (hf : zt_fld (zt_own mi) k = some q) (hF : zm_isF h r q.1 q.2.1 = true)
    (kk : ∀ rs2, zm_I D A s mi φ L (zm_getF h r q.2.1 :: rest) h H locs ls rs2 → W p l e R s m args below meth c H locs cells slots Q (F0 m (pc + 3) ls rs2)) : W p l e R s m args below meth c H locs cells slots Q (F0 m pc ls rs) := by
  obtain ⟨hx, hb, hr, hml, hown, hts, hlocks, hin, hA⟩ := X
  obtain ⟨fs, v, hg, hv, he, hlt⟩ := zm_isF_inv hF
  have hI0 := hI
  obtain ⟨ws, tys, lv, hK, hP, hD, hS, hH, hro, hl, hL, hlr, w0, rr, rfl, hva, hrr⟩ := hI
  obtain ⟨a, ha, rfl⟩ := hro.key hg hva
  by_cases h8 : 8 ≤ r.1
  · obtain ⟨i, b, e2, q1, q2, gs, q3, rfl⟩ := hH.1 r _ hg h8
    have hab : a = b := Option.some.inj (ha.symm.trans q1)
    subst hab
    obtain ⟨w, hw, hvr⟩ := zm_sr.get q3 hv
    rcases zt_fld_ok hf with ⟨C, T, N, ty0, hc, hu, hty, hnm, hk, hlink, -⟩ | ⟨h99, -⟩
    · exact va_get (D := D) (cl := zt_cl) hx hb hts hu hown hK hP i q2 hc q.2.1 hk (hts _ hlink) (fun _ h9 => h9) hw hdg (kk _ (hI0.stack ⟨w, rr, rfl, by rw [he]; exact hvr, hrr⟩))
    · obtain ⟨r1, h1, -⟩ := hP i _ q2
      rw [h99] at h1
      exact absurd h1 zt_cl_99
  · obtain ⟨h99, b, q1, q2, q3⟩ := hro.2.2.1 r _ _ (by omega) hg
    have hab : a = b := Option.some.inj (ha.symm.trans q1)
    subst hab
    obtain ⟨w, hvr, hof⟩ := q3 _ v hv
    rcases zt_fld_ok hf with ⟨C, T, N, ty0, hc, -⟩ | ⟨-, -, hlink⟩
    · rw [h99] at hc
      exact absurd hc zt_cl_99
    · exact vk_getf hx hb hof hS hown (hts _ hlink) (fun _ h9 => h9) hdg (kk _ (hI0.stack ⟨w, rr, rfl, by rw [he]; exact hvr, hrr⟩))
theorem zm_putfield_ok {k : Nat} {r : zmK} {v : zmV} {q : Nat × Nat × FieldType × Bool} (X : zm_Cx p s m args meth c A mi) (hI : zm_I D A s mi φ L (v :: .inr (.inr (some r)) :: rest) h H locs ls rs) (hdg : decode (zt_bytes mi) pc = .ok (.putfield k, 3)) (hf : zt_fld (zt_own mi) k = some q) (hF : zm_isF h r q.1 q.2.1 = true)
    (hfit : zm_fit q.2.2.1 v = true) (h8 : 8 ≤ r.1) (hfin : q.2.2.2 = false ∨ (zt_init mi = true ∧ zt_cn q.1 = zt_cls (zt_own mi)))
    (kk : ∀ H2 locs2 rs2, zm_I D A s mi φ L rest (zm_putF h r q.2.1 v) H2 locs2 ls rs2 → W p l e R s m args below meth c H2 locs2 cells slots Q (F0 m (pc + 3) ls rs2)) : W p l e R s m args below meth c H locs cells slots Q (F0 m pc ls rs) := by
  obtain ⟨hx, hb, hr, hml, hown, hts, hlocks, hin, hA⟩ := X
  obtain ⟨fs, v0, hg, hv, he, hlt⟩ := zm_isF_inv hF
  obtain ⟨ws, tys, lv, hK, hP, hD, hS, hH, hro, hl, hL, hlr, hst⟩ := hI
  obtain ⟨wv, w0, rr, rfl, hwv, hva, hrr⟩ := zm_two hst
  obtain ⟨a, ha, rfl⟩ := hro.key hg hva
  obtain ⟨i, b, e2, q1, q2, gs, q3, rfl⟩ := hH.1 r _ hg h8
  have hab : a = b := Option.some.inj (ha.symm.trans q1)
  subst hab
  obtain ⟨hn, hft⟩ := zm_fit_ok hfit hwv
  have hgl : q.2.1 < gs.length := by rw [← q3.len]; exact hlt
  have fin : ∀ (H1 : Heap) (locs1 : List Loc), va_P D zt_cl (ws.set i (a, .inr (q.1, gs.set q.2.1 wv))) H1 → va_D A (ws.set i (a, .inr (q.1, gs.set q.2.1 wv))) → va_S A s.heap H1 locs1 → W p l e R s m args below meth c H1 locs1 cells slots Q (F0 m (pc + 3) ls rr) := by
    intro H1 locs1 hP1 hD1 hS1
    refine kk H1 locs1 rr ?_
    rw [zm_putF_eq hg]
    exact ⟨_, tys, lv, hK, hP1, hD1, hS1, hH.set hD h8 hg ha q2 ⟨_, q3.set hwv q.2.1, rfl⟩, hro.keep zm_le.rf (zm_set_ro h8), hl, hL, hlr, hrr⟩
  rcases zt_fld_ok hf with ⟨C, T, N, ty0, hc, hu, hty, hnm, hk, hlink, hpd, hfl, hdecl⟩ | ⟨h99, -⟩
  · cases hq : q.2.2.2 with
    | false => exact va_put (D := D) (cl := zt_cl) hx hb hts hu ty0 hty hnm hown hK hP hD hS i q2 hc q.2.1 hk (hts _ hlink) (fun _ h9 => h9) (by rw [hfl]; exact hq) hpd hn hft hgl hdg fin
    | true =>
      rcases hfin with g | g
      · rw [hq] at g; cases g
      · exact va_putF (D := D) (cl := zt_cl) hx hb hts hu ty0 hty hnm hown hK hP hD hS i q2 hc q.2.1 hk (hts _ hlink) (fun _ h9 => h9) (by rw [hfl]; exact hq) (hin g.1) (by rw [hdecl]; exact g.2) hpd hn hft hgl hdg fin
  · obtain ⟨r1, h1, -⟩ := hP i _ q2
    rw [h99] at h1
    exact absurd h1 zt_cl_99
theorem zm_inI_inv {r : zmK} {ty : FieldType} {i : Int32} (q : zm_inI h r ty i = true) : ∃ n f, zm_get h r = some (.inl (ty, n, .inl f)) ∧ vp_in i n ∧ zm_ldI h r i = f i.toNatClampNeg ∧ n < 2147483648 := by
  unfold zm_inI at q
  split at q
  · next t n f hg =>
    rw [Bool.and_eq_true, Bool.and_eq_true] at q
    have h1 : t = ty := by simpa using q.1.1
    have h2 : vp_in i n := show ¬ (i < 0 ∨ n ≤ i.toNatClampNeg) from of_decide_eq_true q.1.2
    have h3 : n < 2147483648 := by simpa using q.2
    subst h1
    exact ⟨n, f, hg, h2, by unfold zm_ldI; rw [hg], h3⟩
  · cases q
theorem zm_arr_at {ws : va_W} {tys : List (ClassId × FieldType)} {r : zmK} {ty : FieldType} {n a : Nat} {f : Nat → Int32} (hH : zm_hr φ tys h ws) (hg : zm_get h r = some (.inl (ty, n, .inl f))) (h8 : 8 ≤ r.1) (ha : φ r = some a) : ∃ (i t0 : Nat) (cA : ClassId), ws[i]? = some (a, .inl (cA, n, .inl f)) ∧ tys[t0]? = some (cA, ty) := by
  obtain ⟨i, b, e2, q1, q2, cA, q3, rfl⟩ := hH.1 r _ hg h8
  have hab : a = b := Option.some.inj (ha.symm.trans q1)
  subst hab
  obtain ⟨t0, ht⟩ := List.getElem?_of_mem q3
  exact ⟨i, t0, cA, q2, ht⟩
theorem zm_iaload_ok {r : zmK} {i : Int32} (X : zm_Cx p s m args meth c A mi) (hI : zm_I D A s mi φ L (.inl i :: .inr (.inr (some r)) :: rest) h H locs ls rs) (hdg : decode (zt_bytes mi) pc = .ok (.iaload, 1)) (hF : zm_inI h r .int i = true)
    (kk : ∀ rs2, zm_I D A s mi φ L (.inl (zm_ldI h r i) :: rest) h H locs ls rs2 → W p l e R s m args below meth c H locs cells slots Q (F0 m (pc + 1) ls rs2)) : W p l e R s m args below meth c H locs cells slots Q (F0 m pc ls rs) := by
  obtain ⟨hx, hb, hr, hml, hown, hts, hlocks, hin, hA⟩ := X
  obtain ⟨n, f, hg, hv, he, hlt⟩ := zm_inI_inv hF
  have hI0 := hI
  obtain ⟨ws, tys, lv, hK, hP, hD, hS, hH, hro, hl, hL, hlr, hst⟩ := hI
  obtain ⟨_, w0, rr, rfl, rfl, hva, hrr⟩ := zm_two hst
  obtain ⟨a, ha, rfl⟩ := hro.key hg hva
  by_cases h8 : 8 ≤ r.1
  · obtain ⟨j, t0, cA, q2, ht⟩ := zm_arr_at hH hg h8 ha
    exact va_iald hx hb hK hP j t0 q2 ht hv hdg (kk _ (hI0.stack ⟨_, rr, rfl, by rw [he]; rfl, hrr⟩))
  · obtain ⟨b, q1, q2⟩ := hro.1 r _ _ _ (by omega) hg
    have hab : a = b := Option.some.inj (ha.symm.trans q1)
    subst hab
    exact va_ti hx hb q2 hS hv rfl hdg (kk _ (hI0.stack ⟨_, rr, rfl, by rw [he]; rfl, hrr⟩))
theorem zm_caload_ok {r : zmK} {i : Int32} (X : zm_Cx p s m args meth c A mi) (hI : zm_I D A s mi φ L (.inl i :: .inr (.inr (some r)) :: rest) h H locs ls rs) (hdg : decode (zt_bytes mi) pc = .ok (.caload, 1)) (hF : zm_inI h r .char i = true) (h8 : 8 ≤ r.1)
    (kk : ∀ rs2, zm_I D A s mi φ L (.inl (zm_ldI h r i) :: rest) h H locs ls rs2 → W p l e R s m args below meth c H locs cells slots Q (F0 m (pc + 1) ls rs2)) : W p l e R s m args below meth c H locs cells slots Q (F0 m pc ls rs) := by
  obtain ⟨hx, hb, hr, hml, hown, hts, hlocks, hin, hA⟩ := X
  obtain ⟨n, f, hg, hv, he, hlt⟩ := zm_inI_inv hF
  have hI0 := hI
  obtain ⟨ws, tys, lv, hK, hP, hD, hS, hH, hro, hl, hL, hlr, hst⟩ := hI
  obtain ⟨_, w0, rr, rfl, rfl, hva, hrr⟩ := zm_two hst
  obtain ⟨a, ha, rfl⟩ := hro.key hg hva
  obtain ⟨j, t0, cA, q2, ht⟩ := zm_arr_at hH hg h8 ha
  exact va_cald hx hb hK hP j t0 q2 ht hv hdg (kk _ (hI0.stack ⟨_, rr, rfl, by rw [he]; rfl, hrr⟩))
theorem zm_baload_ok {r : zmK} {i : Int32} (X : zm_Cx p s m args meth c A mi) (hI : zm_I D A s mi φ L (.inl i :: .inr (.inr (some r)) :: rest) h H locs ls rs) (hdg : decode (zt_bytes mi) pc = .ok (.baload, 1)) (hF : (zm_inI h r .byte i = true ∧ r.1 < 8) ∨ (zm_inI h r .boolean i = true ∧ 8 ≤ r.1))
    (kk : ∀ rs2, zm_I D A s mi φ L (.inl (zm_ldI h r i) :: rest) h H locs ls rs2 → W p l e R s m args below meth c H locs cells slots Q (F0 m (pc + 1) ls rs2)) : W p l e R s m args below meth c H locs cells slots Q (F0 m pc ls rs) := by
  obtain ⟨hx, hb, hr, hml, hown, hts, hlocks, hin, hA⟩ := X
  have hI0 := hI
  obtain ⟨ws, tys, lv, hK, hP, hD, hS, hH, hro, hl, hL, hlr, hst⟩ := hI
  obtain ⟨_, w0, rr, rfl, rfl, hva, hrr⟩ := zm_two hst
  rcases hF with ⟨hF, h8⟩ | ⟨hF, h8⟩
  · obtain ⟨n, f, hg, hv, he, hlt⟩ := zm_inI_inv hF
    obtain ⟨a, ha, rfl⟩ := hro.key hg hva
    obtain ⟨b, q1, q2⟩ := hro.1 r _ _ _ h8 hg
    have hab : a = b := Option.some.inj (ha.symm.trans q1)
    subst hab
    exact va_tb hx hb q2 hS hv rfl hdg (kk _ (hI0.stack ⟨_, rr, rfl, by rw [he]; rfl, hrr⟩))
  · obtain ⟨n, f, hg, hv, he, hlt⟩ := zm_inI_inv hF
    obtain ⟨a, ha, rfl⟩ := hro.key hg hva
    obtain ⟨j, t0, cA, q2, ht⟩ := zm_arr_at hH hg h8 ha
    exact va_zald hx hb hK hP j t0 q2 ht hv hdg (kk _ (hI0.stack ⟨_, rr, rfl, by rw [he]; rfl, hrr⟩))
theorem zm_iastore_ok {r : zmK} {i x : Int32} (X : zm_Cx p s m args meth c A mi) (hI : zm_I D A s mi φ L (.inl x :: .inl i :: .inr (.inr (some r)) :: rest) h H locs ls rs) (hdg : decode (zt_bytes mi) pc = .ok (.iastore, 1)) (hF : zm_inI h r .int i = true) (h8 : 8 ≤ r.1)
    (kk : ∀ H2 locs2 rs2, zm_I D A s mi φ L rest (zm_stI h r i x) H2 locs2 ls rs2 → W p l e R s m args below meth c H2 locs2 cells slots Q (F0 m (pc + 1) ls rs2)) : W p l e R s m args below meth c H locs cells slots Q (F0 m pc ls rs) := by
  obtain ⟨hx, hb, hr, hml, hown, hts, hlocks, hin, hA⟩ := X
  obtain ⟨n, f, hg, hv, he, hlt⟩ := zm_inI_inv hF
  obtain ⟨ws, tys, lv, hK, hP, hD, hS, hH, hro, hl, hL, hlr, wx, r0, rfl, rfl, hst⟩ := hI
  obtain ⟨_, w0, rr, rfl, rfl, hva, hrr⟩ := zm_two hst
  obtain ⟨a, ha, rfl⟩ := hro.key hg hva
  obtain ⟨j, t0, cA, q2, ht⟩ := zm_arr_at hH hg h8 ha
  refine va_iast hx hb hK hP hD hS j t0 q2 ht hv hdg (fun H1 locs1 hP1 hD1 hS1 => kk H1 locs1 rr ?_)
  have hst : zm_stI h r i x = zm_set h r (.inl (.int, n, .inl (upd f i.toNatClampNeg x))) := by unfold zm_stI; rw [hg]
  rw [hst]
  exact ⟨_, tys, lv, hK, hP1, hD1, hS1, hH.set hD h8 hg ha q2 ⟨cA, List.mem_of_getElem? ht, rfl⟩, hro.keep zm_le.rf (zm_set_ro h8), hl, hL, hlr, hrr⟩
theorem zm_castore_ok {r : zmK} {i x : Int32} (X : zm_Cx p s m args meth c A mi) (hI : zm_I D A s mi φ L (.inl x :: .inl i :: .inr (.inr (some r)) :: rest) h H locs ls rs) (hdg : decode (zt_bytes mi) pc = .ok (.castore, 1)) (hF : zm_inI h r .char i = true) (h8 : 8 ≤ r.1)
    (kk : ∀ H2 locs2 rs2, zm_I D A s mi φ L rest (zm_stI h r i (vp_nar .char x)) H2 locs2 ls rs2 → W p l e R s m args below meth c H2 locs2 cells slots Q (F0 m (pc + 1) ls rs2)) : W p l e R s m args below meth c H locs cells slots Q (F0 m pc ls rs) := by
  obtain ⟨hx, hb, hr, hml, hown, hts, hlocks, hin, hA⟩ := X
  obtain ⟨n, f, hg, hv, he, hlt⟩ := zm_inI_inv hF
  obtain ⟨ws, tys, lv, hK, hP, hD, hS, hH, hro, hl, hL, hlr, wx, r0, rfl, rfl, hst⟩ := hI
  obtain ⟨_, w0, rr, rfl, rfl, hva, hrr⟩ := zm_two hst
  obtain ⟨a, ha, rfl⟩ := hro.key hg hva
  obtain ⟨j, t0, cA, q2, ht⟩ := zm_arr_at hH hg h8 ha
  refine va_cast hx hb hK hP hD hS j t0 q2 ht hv hdg (fun H1 locs1 hP1 hD1 hS1 => kk H1 locs1 rr ?_)
  have hst : zm_stI h r i (vp_nar .char x) = zm_set h r (.inl (.char, n, .inl (upd f i.toNatClampNeg (vp_nar .char x)))) := by unfold zm_stI; rw [hg]
  rw [hst]
  exact ⟨_, tys, lv, hK, hP1, hD1, hS1, hH.set hD h8 hg ha q2 ⟨cA, List.mem_of_getElem? ht, rfl⟩, hro.keep zm_le.rf (zm_set_ro h8), hl, hL, hlr, hrr⟩
theorem zm_bastore_ok {r : zmK} {i x : Int32} (X : zm_Cx p s m args meth c A mi) (hI : zm_I D A s mi φ L (.inl x :: .inl i :: .inr (.inr (some r)) :: rest) h H locs ls rs) (hdg : decode (zt_bytes mi) pc = .ok (.bastore, 1)) (hF : zm_inI h r .boolean i = true) (h8 : 8 ≤ r.1)
    (kk : ∀ H2 locs2 rs2, zm_I D A s mi φ L rest (zm_stI h r i (vp_nar .boolean x)) H2 locs2 ls rs2 → W p l e R s m args below meth c H2 locs2 cells slots Q (F0 m (pc + 1) ls rs2)) : W p l e R s m args below meth c H locs cells slots Q (F0 m pc ls rs) := by
  obtain ⟨hx, hb, hr, hml, hown, hts, hlocks, hin, hA⟩ := X
  obtain ⟨n, f, hg, hv, he, hlt⟩ := zm_inI_inv hF
  obtain ⟨ws, tys, lv, hK, hP, hD, hS, hH, hro, hl, hL, hlr, wx, r0, rfl, rfl, hst⟩ := hI
  obtain ⟨_, w0, rr, rfl, rfl, hva, hrr⟩ := zm_two hst
  obtain ⟨a, ha, rfl⟩ := hro.key hg hva
  obtain ⟨j, t0, cA, q2, ht⟩ := zm_arr_at hH hg h8 ha
  refine va_zast hx hb hK hP hD hS j t0 q2 ht hv hdg (fun H1 locs1 hP1 hD1 hS1 => kk H1 locs1 rr ?_)
  have hst : zm_stI h r i (vp_nar .boolean x) = zm_set h r (.inl (.boolean, n, .inl (upd f i.toNatClampNeg (vp_nar .boolean x)))) := by unfold zm_stI; rw [hg]
  rw [hst]
  exact ⟨_, tys, lv, hK, hP1, hD1, hS1, hH.set hD h8 hg ha q2 ⟨cA, List.mem_of_getElem? ht, rfl⟩, hro.keep zm_le.rf (zm_set_ro h8), hl, hL, hlr, hrr⟩
theorem zm_inQ_inv {r : zmK} {i : Int32} (q : zm_inQ h r i = true) : ∃ C n f, zm_get h r = some (.inl (.object C, n, .inr f)) ∧ vp_in i n ∧ zm_ldQ h r i = f i.toNatClampNeg ∧ n < 2147483648 := by
  unfold zm_inQ at q
  split at q
  · next C n f hg =>
    rw [Bool.and_eq_true] at q
    have h2 : vp_in i n := show ¬ (i < 0 ∨ n ≤ i.toNatClampNeg) from of_decide_eq_true q.1
    have h3 : n < 2147483648 := by simpa using q.2
    exact ⟨C, n, f, hg, h2, by unfold zm_ldQ; rw [hg], h3⟩
  · cases q
theorem zm_arrq_at {ws : va_W} {tys : List (ClassId × FieldType)} {r : zmK} {ty : FieldType} {n a : Nat} {f : Nat → Option zmK} (hH : zm_hr φ tys h ws) (hg : zm_get h r = some (.inl (ty, n, .inr f))) (h8 : 8 ≤ r.1) (ha : φ r = some a) : ∃ (i t0 : Nat) (cA : ClassId) (g : Nat → Option Nat), ws[i]? = some (a, .inl (cA, n, .inr (.inr (.inr (.inr g))))) ∧ tys[t0]? = some (cA, ty) ∧ zm_qr φ f g := by
  obtain ⟨i, b, e2, q1, q2, cA, g, q3, q4, rfl⟩ := hH.1 r _ hg h8
  have hab : a = b := Option.some.inj (ha.symm.trans q1)
  subst hab
  obtain ⟨t0, ht⟩ := List.getElem?_of_mem q3
  exact ⟨i, t0, cA, g, q2, ht, q4⟩
theorem zm_aaload_ok {r : zmK} {i : Int32} (X : zm_Cx p s m args meth c A mi) (hI : zm_I D A s mi φ L (.inl i :: .inr (.inr (some r)) :: rest) h H locs ls rs) (hdg : decode (zt_bytes mi) pc = .ok (.aaload, 1)) (hF : zm_inQ h r i = true) (h8 : 8 ≤ r.1)
    (kk : ∀ rs2, zm_I D A s mi φ L (.inr (.inr (zm_ldQ h r i)) :: rest) h H locs ls rs2 → W p l e R s m args below meth c H locs cells slots Q (F0 m (pc + 1) ls rs2)) : W p l e R s m args below meth c H locs cells slots Q (F0 m pc ls rs) := by
  obtain ⟨hx, hb, hr, hml, hown, hts, hlocks, hin, hA⟩ := X
  obtain ⟨C, n, f, hg, hv, he, hlt⟩ := zm_inQ_inv hF
  have hI0 := hI
  obtain ⟨ws, tys, lv, hK, hP, hD, hS, hH, hro, hl, hL, hlr, hst⟩ := hI
  obtain ⟨_, w0, rr, rfl, rfl, hva, hrr⟩ := zm_two hst
  obtain ⟨a, ha, rfl⟩ := hro.key hg hva
  obtain ⟨j, t0, cA, g, q2, ht, q4⟩ := zm_arrq_at hH hg h8 ha
  exact va_aldq hx hb hK hP j t0 q2 ht hv hdg (kk _ (hI0.stack ⟨_, rr, rfl, by rw [he]; exact q4 _, hrr⟩))
theorem zm_aastore_ok {r x : zmK} {i : Int32} (X : zm_Cx p s m args meth c A mi) (hI : zm_I D A s mi φ L (.inr (.inr (some x)) :: .inl i :: .inr (.inr (some r)) :: rest) h H locs ls rs) (hdg : decode (zt_bytes mi) pc = .ok (.aastore, 1)) (hF : zm_inQ h r i = true) (hq : zm_okQ zt_cn h r x = true) (h8 : 8 ≤ r.1) (hx8 : 8 ≤ x.1)
    (kk : ∀ H2 locs2 rs2, zm_I D A s mi φ L rest (zm_stQ h r i x) H2 locs2 ls rs2 → W p l e R s m args below meth c H2 locs2 cells slots Q (F0 m (pc + 1) ls rs2)) : W p l e R s m args below meth c H locs cells slots Q (F0 m pc ls rs) := by
  obtain ⟨hx, hb, hr, hml, hown, hts, hlocks, hin, hA⟩ := X
  obtain ⟨C, n, f, hg, hv, he, hlt⟩ := zm_inQ_inv hF
  obtain ⟨ws, tys, lv, hK, hP, hD, hS, hH, hro, hl, hL, hlr, wx, r0, rfl, hvx, hst⟩ := hI
  obtain ⟨_, w0, rr, rfl, rfl, hva, hrr⟩ := zm_two hst
  obtain ⟨a, ha, rfl⟩ := hro.key hg hva
  obtain ⟨j, t0, cA, g, q2, ht, q4⟩ := zm_arrq_at hH hg h8 ha
  have hcx : ∃ ci fs, zm_get h x = some (.inr (ci, fs)) ∧ zt_cn ci = C := by
    unfold zm_okQ at hq
    rw [hg] at hq
    split at hq
    · next C2 _ _ c2 fs2 e1 e2 =>
      cases e1
      exact ⟨c2, fs2, e2, by simpa using hq⟩
    · cases hq
  obtain ⟨ci, fs, hgx, hcn⟩ := hcx
  obtain ⟨ax, hax, rfl⟩ := hro.key hgx hvx
  obtain ⟨ix, bx, ex, k1, k2, gs, k3, rfl⟩ := hH.1 x _ hgx hx8
  have hab : ax = bx := Option.some.inj (hax.symm.trans k1)
  subst hab
  obtain ⟨rc, hrc, -⟩ := hP ix _ k2
  have hC : rc.1 = C := by rw [← hcn]; exact zt_cn_ok hrc
  refine va_astq hx hb hK hP hD hS j t0 ix ci q2 (by rw [hC]; exact ht) k2 hrc hv hdg (fun H1 locs1 hP1 hD1 hS1 => kk H1 locs1 rr ?_)
  have hst : zm_stQ h r i x = zm_set h r (.inl (.object C, n, .inr (va_up f i.toNatClampNeg (some x)))) := by unfold zm_stQ; rw [hg]
  rw [hst]
  refine ⟨_, tys, lv, hK, hP1, hD1, hS1, hH.set hD h8 hg ha q2 ⟨cA, _, List.mem_of_getElem? ht, fun j2 => ?_, rfl⟩, hro.keep zm_le.rf (zm_set_ro h8), hl, hL, hlr, hrr⟩
  unfold va_up
  by_cases hj : j2 = i.toNatClampNeg
  · rw [if_pos hj, if_pos hj]
    exact Or.inr ⟨ax, hax, rfl⟩
  · rw [if_neg hj, if_neg hj]
    exact q4 j2
theorem zm_alen_ok {r : zmK} (X : zm_Cx p s m args meth c A mi) (hI : zm_I D A s mi φ L (.inr (.inr (some r)) :: rest) h H locs ls rs) (hdg : decode (zt_bytes mi) pc = .ok (.arraylength, 1)) (hF : zm_isA h r = true)
    (kk : ∀ rs2, zm_I D A s mi φ L (.inl (zm_len h r) :: rest) h H locs ls rs2 → W p l e R s m args below meth c H locs cells slots Q (F0 m (pc + 1) ls rs2)) : W p l e R s m args below meth c H locs cells slots Q (F0 m pc ls rs) := by
  obtain ⟨hx, hb, hr, hml, hown, hts, hlocks, hin, hA⟩ := X
  have hI0 := hI
  obtain ⟨ws, tys, lv, hK, hP, hD, hS, hH, hro, hl, hL, hlr, w0, rr, rfl, hva, hrr⟩ := hI
  unfold zm_isA at hF
  split at hF
  · next ar hg =>
    obtain ⟨a, ha, rfl⟩ := hro.key hg hva
    obtain ⟨ty, n, f | f⟩ := ar
    · have hlen : zm_len h r = Int32.ofNat n := by unfold zm_len; rw [hg]
      by_cases h8 : 8 ≤ r.1
      · obtain ⟨j, t0, cA, q2, ht⟩ := zm_arr_at hH hg h8 ha
        exact va_alen hx hb hK hP j t0 q2 ht rfl hdg (kk _ (hI0.stack ⟨_, rr, rfl, by rw [hlen]; rfl, hrr⟩))
      · obtain ⟨b, q1, q2⟩ := hro.1 r _ _ _ (by omega) hg
        have hab : a = b := Option.some.inj (ha.symm.trans q1)
        subst hab
        exact va_tlen hx hb q2 hS rfl hdg (kk _ (hI0.stack ⟨_, rr, rfl, by rw [hlen]; rfl, hrr⟩))
    · have hlen : zm_len h r = Int32.ofNat n := by unfold zm_len; rw [hg]
      by_cases h8 : 8 ≤ r.1
      · obtain ⟨j, t0, cA, g, q2, ht, q4⟩ := zm_arrq_at hH hg h8 ha
        exact va_alen hx hb hK hP j t0 q2 ht rfl hdg (kk _ (hI0.stack ⟨_, rr, rfl, by rw [hlen]; rfl, hrr⟩))
      · exact absurd hg (hro.2.1 r _ _ _ (by omega))
  · cases hF
end ZMC
