section ZMG
variable {p : Program} {l : Launch} {e : Env} {R : Room} {s : State} {m : MethodId} {args : Array Value} {below : List Frame} {meth : Method} {c : Code} {Q : State → Prop} {mi : Nat} {D : va_G} {A : Nat → Prop}
set_option maxHeartbeats 4000000 in
theorem zm_body {d : Nat} (hC : ∀ mi as h o, zm_Calls d mi as h o → zm_S d mi as h o) (X : zm_Cx p s m args meth c A mi) (hR : d + 1 ≤ R.frames ∧ 40 * (d + 1) ≤ R.locals) : ∀ (n pc : Nat) (L : zmL) (st : List zmV) (h : zmH) (o : zmO), zm_Run (zm_Calls d) mi n pc L st h o → ∀ (φ : zmK → Option Nat) (H : Heap) (locs : List Loc) (ls : Array Slot) (rs : List Value) (cells slots : Nat),
    zm_I D A s mi φ L st h H locs ls rs → cells + (o.2.1.1 - h.1.1) ≤ R.cells → slots + (o.2.1.2 - h.1.2) ≤ R.slots →
    (∀ φ2 H2 locs2 ls2 rs2 pc2 i2 L2 st2, zm_le φ φ2 → zt_fetch mi pc2 = some i2 → zm_ret mi i2 st2 = some o.1 → zm_I D A s mi φ2 L2 st2 o.2 H2 locs2 ls2 rs2 → W p l e R s m args below meth c H2 locs2 (cells + (o.2.1.1 - h.1.1)) (slots + (o.2.1.2 - h.1.2)) Q (F0 m pc2 ls2 rs2)) →
    W p l e R s m args below meth c H locs cells slots Q (F0 m pc ls rs) := by
  intro n
  induction n with
  | zero => intro pc L st h o hr; exact hr.elim
  | succ n ih =>
    intro pc L st h o hr φ H locs ls rs cells slots hI hc hsl kk
    unfold zm_Run at hr
    split at hr
    · exact hr.elim
    · next i hf =>
      split at hr
      · next q hq =>
        have f1 := zm_step_fr hq
        have f2 := zm_run_fr (zm_calls_fr d) n _ _ _ _ _ hr
        obtain ⟨pc2, L2, st2, h2⟩ := q
        refine zm_step_ok X hI hf hq (Nat.le_trans (Nat.add_le_add_left (Nat.sub_le_sub_right f2.1 _) _) hc) (Nat.le_trans (Nat.add_le_add_left (Nat.sub_le_sub_right f2.2.1 _) _) hsl) ⟨by omega, by omega⟩ (fun φ2 H2 locs2 ls2 rs2 hle hI2 => ?_)
        have e1 : cells + (h2.1.1 - h.1.1) + (o.2.1.1 - h2.1.1) = cells + (o.2.1.1 - h.1.1) := by
          have := f1.1; have := f2.1; dsimp only at *; omega
        have e2 : slots + (h2.1.2 - h.1.2) + (o.2.1.2 - h2.1.2) = slots + (o.2.1.2 - h.1.2) := by
          have := f1.2.1; have := f2.2.1; dsimp only at *; omega
        refine ih pc2 L2 st2 h2 o hr φ2 H2 locs2 ls2 rs2 _ _ hI2 (by rw [e1]; exact hc) (by rw [e2]; exact hsl) (fun φ3 H3 locs3 ls3 rs3 pc3 i3 L3 st3 hle3 hf3 hr3 hI3 => ?_)
        rw [e1, e2]
        exact kk φ3 H3 locs3 ls3 rs3 pc3 i3 L3 st3 (hle.tr hle3) hf3 hr3 hI3
      · split at hr
        · next v hv =>
          subst hr
          have := kk φ H locs ls rs pc i L st zm_le.rf hf hv hI
          simp only [Nat.sub_self, Nat.add_zero] at this
          exact this
        · split at hr
          · next q hq =>
            obtain ⟨r, h1, h2⟩ := hr
            have f1 := zm_calls_fr d _ _ _ _ h1
            have f2 := zm_run_fr (zm_calls_fr d) n _ _ _ _ _ h2
            refine zm_call_ok X hI hf hq (hC _ _ _ _ h1) f1 (Nat.le_trans (Nat.add_le_add_left (Nat.sub_le_sub_right f2.1 _) _) hc) (Nat.le_trans (Nat.add_le_add_left (Nat.sub_le_sub_right f2.2.1 _) _) hsl) hR (fun φ2 H2 locs2 rs2 hle hI2 => ?_)
            have e1 : cells + (r.2.1.1 - h.1.1) + (o.2.1.1 - r.2.1.1) = cells + (o.2.1.1 - h.1.1) := by
              have := f1.1; have := f2.1; omega
            have e2 : slots + (r.2.1.2 - h.1.2) + (o.2.1.2 - r.2.1.2) = slots + (o.2.1.2 - h.1.2) := by
              have := f1.2.1; have := f2.2.1; omega
            refine ih _ _ _ _ o h2 φ2 H2 locs2 ls rs2 _ _ hI2 (by rw [e1]; exact hc) (by rw [e2]; exact hsl) (fun φ3 H3 locs3 ls3 rs3 pc3 i3 L3 st3 hle3 hf3 hr3 hI3 => ?_)
            rw [e1, e2]
            exact kk φ3 H3 locs3 ls3 rs3 pc3 i3 L3 st3 (hle.tr hle3) hf3 hr3 hI3
          · exact hr.elim
end ZMG
theorem zm_lay_lr {φ : zmK → Option Nat} : ∀ {as : List zmV} {av : List Value}, zm_sr φ as av → ∀ (k : Nat), (lg_sl av).length = (zm_lay as).length ∧ (∀ i v, (zm_lay as)[i]? = some (some v) → ∃ w, (k + i, w) ∈ lv_args k av ∧ zm_vr φ v w) ∧ ∀ q ∈ lv_args k av, q.2.category = 2 → q.1 ∈ zm_lng k as
  | [], _, h, k => by
    rw [show _ = [] from h]
    refine ⟨rfl, fun i v hv => by simp [zm_lay] at hv, fun q hq => by simp [lv_args] at hq⟩
  | .inl x :: as, _, ⟨w, r, e, hv, hr⟩, k => by
    subst e
    cases (show w = .int x from hv)
    obtain ⟨h1, h2, h3⟩ := zm_lay_lr hr (k + 1)
    refine ⟨?_, fun i v hi => ?_, fun q hq hc => ?_⟩
    · simp [lg_sl, zm_lay, Value.category] at h1 ⊢; exact h1
    · cases i with
      | zero =>
        simp [zm_lay] at hi
        subst hi
        exact ⟨_, by simp [lv_args, Value.category], rfl⟩
      | succ i =>
        simp [zm_lay] at hi
        obtain ⟨w2, g1, g2⟩ := h2 i v hi
        exact ⟨w2, by simp [lv_args, Value.category]; rw [show k + (i + 1) = k + 1 + i by omega]; exact g1, g2⟩
    · simp [lv_args, Value.category] at hq
      rcases hq with rfl | hq
      · simp [Value.category] at hc
      · simp [zm_lng]; exact h3 q hq hc
  | .inr (.inl x) :: as, _, ⟨w, r, e, hv, hr⟩, k => by
    subst e
    cases (show w = .long x from hv)
    obtain ⟨h1, h2, h3⟩ := zm_lay_lr hr (k + 2)
    refine ⟨?_, fun i v hi => ?_, fun q hq hc => ?_⟩
    · simp [lg_sl, zm_lay, Value.category] at h1 ⊢; exact h1
    · match i with
      | 0 =>
        simp [zm_lay] at hi
        subst hi
        exact ⟨_, by simp [lv_args, Value.category], rfl⟩
      | 1 => simp [zm_lay] at hi
      | i + 2 =>
        simp [zm_lay] at hi
        obtain ⟨w2, g1, g2⟩ := h2 i v hi
        exact ⟨w2, by simp [lv_args, Value.category]; rw [show k + (i + 2) = k + 2 + i by omega]; exact g1, g2⟩
    · simp [lv_args, Value.category] at hq
      rcases hq with rfl | hq
      · simp [zm_lng]
      · simp [zm_lng]; exact Or.inr (h3 q hq hc)
  | .inr (.inr x) :: as, _, ⟨w, r, e, hv, hr⟩, k => by
    subst e
    have hcat : w.category = 1 := zm_vr_cat hv
    obtain ⟨h1, h2, h3⟩ := zm_lay_lr hr (k + 1)
    refine ⟨?_, fun i v hi => ?_, fun q hq hc => ?_⟩
    · simp [lg_sl, zm_lay, hcat] at h1 ⊢; exact h1
    · cases i with
      | zero =>
        simp [zm_lay] at hi
        subst hi
        exact ⟨w, by simp [lv_args], hv⟩
      | succ i =>
        simp [zm_lay] at hi
        obtain ⟨w2, g1, g2⟩ := h2 i v hi
        exact ⟨w2, by simp [lv_args, hcat]; rw [show k + (i + 1) = k + 1 + i by omega]; exact g1, g2⟩
    · simp [lv_args, hcat] at hq
      rcases hq with rfl | hq
      · simp [hcat] at hc
      · simp [zm_lng]; exact h3 q hq hc
theorem zm_ini_len {mi : Nat} {as : List zmV} (h : zm_layOk mi as = true) : (zm_ini mi as).length = zt_maxL mi := by
  unfold zm_layOk at h
  rw [Bool.and_eq_true] at h
  have h1 : (zm_lay as).length ≤ zt_maxL mi := by simpa using h.1
  unfold zm_ini
  simp
  omega
theorem zm_ini_lr {mi : Nat} {φ : zmK → Option Nat} {as : List zmV} {av : List Value} (h : zm_layOk mi as = true) (hr : zm_sr φ as av) : (lg_sl av).length ≤ zt_maxL mi ∧ zm_lr φ (zt_lslot mi) (zm_ini mi as) (lv_args 0 av) := by
  unfold zm_layOk at h
  rw [Bool.and_eq_true] at h
  have h1 : (zm_lay as).length ≤ zt_maxL mi := by simpa using h.1
  have h2 : ∀ k ∈ zm_lng 0 as, k ∈ zt_lslot mi := by simpa using h.2
  obtain ⟨g1, g2, g3⟩ := zm_lay_lr hr 0
  refine ⟨by rw [g1]; exact h1, fun i v hi => ?_, fun q hq hc => h2 _ (g3 q hq hc)⟩
  have : (zm_lay as)[i]? = some (some v) := by
    unfold zm_ini at hi
    by_cases hl : i < (zm_lay as).length
    · rwa [List.getElem?_append_left hl] at hi
    · rw [List.getElem?_append_right (by omega), List.getElem?_replicate] at hi
      split at hi <;> simp at hi
  obtain ⟨w, k1, k2⟩ := g2 i v this
  exact ⟨w, by simpa using k1, k2⟩
set_option maxHeartbeats 4000000 in
theorem zm_sound : ∀ (d mi : Nat) (as : List zmV) (h : zmH) (o : zmO), zm_Calls d mi as h o → zm_S d mi as h o := by
  intro d
  induction d with
  | zero => intro mi as h o hr; exact hr.elim
  | succ d ih =>
    intro mi as h o hr l D φ ws tys av sz hav
    have hfr := zm_calls_fr (d + 1) mi as h o hr
    obtain ⟨hlay, n, hn⟩ := hr
    obtain ⟨hsl, hlr⟩ := zm_ini_lr hlay hav
    refine Met.ofW (cc := zt_bytes mi) (maxL := zt_maxL mi) (ret := zt_ret mi) (zt_plain mi) rfl ?_
    intro p e s m args below meth c s₁ B hml hv
    obtain ⟨rfl, hsz, hP, hK, hD0, hH, hro⟩ := hv
    have hts0 := atoms_spec (ws := zt_ws mi) B.pre
    have hts : ∀ w ∈ zt_T, w.before av.toArray s = true := fun w hw => hts0 w (List.mem_cons_of_mem _ hw)
    have hown : s.vm.findClass (zt_name mi).cls = some m.cls := findClass_of_methodNamed B.named
    rw [zt_owner mi] at hown
    subst hsz
    have hD := hD0.self (sz := s.heap.size)
    have hA : ∀ q : Nat, s.heap.size ≤ q → va_A ws s.heap.size q := fun q hq => Or.inr hq
    have X : zm_Cx p s m av.toArray meth c (va_A ws s.heap.size) mi := ⟨B.exec, B.bytes, B.returns, hml, hown, hts, B.notSynchronized, fun hi => by
      rw [(name_of_methodNamed B.named B.method).1]; exact zt_init_ok mi hi, hA⟩
    have hl := lv_entry av (n := zt_maxL mi) hsl
    rw [lg_entry_eq]
    generalize (lg_sl av ++ List.replicate (zt_maxL mi - (lg_sl av).length) Slot.unset).toArray = ls at hl ⊢
    have hI : zm_I D (va_A ws s.heap.size) s mi φ (zm_ini mi as) [] h s.heap [] ls [] := ⟨ws, tys, _, hK, hP, hD, va_S.rf, hH, hro, hl, zm_ini_len hlay, hlr, rfl⟩
    refine zm_body (R := (headSpec (zt_ws mi) (zm_rm (d + 1) (o.2.1.1 - h.1.1) (o.2.1.2 - h.1.2))).room) ih X ⟨Nat.le_refl _, Nat.le_refl _⟩ n 0 _ _ _ _ hn φ s.heap [] ls [] 0 0 hI (by rw [Nat.zero_add]; exact Nat.le_refl _) (by rw [Nat.zero_add]; exact Nat.le_refl _) (fun φ2 H2 locs2 ls2 rs2 pc2 i2 L2 st2 hle hf2 hret hI2 => ?_)
    rw [Nat.zero_add, Nat.zero_add]
    obtain ⟨hx, hb, hr, hml, hown, hts, hlocks, hin, hA⟩ := X
    obtain ⟨len, hdg, hlk⟩ := zt_fetch_ok hf2
    obtain ⟨ws2, tys2, lv2, hK2, hP2, hD2, hS2, hH2, hro2, hl2, hL2, hlr2, hst2⟩ := hI2
    have post : ∀ (w : Option Value) (t : State), zm_or φ2 o.1 w → t.heap = H2 → s.WarmedH t.vm → zm_Qc D φ (va_A ws s.heap.size) o av.toArray s (.returned w) t := fun w t hw ht hW =>
      ⟨⟨φ2, ws2, tys2, w, hle, rfl, hw, by rw [ht]; exact hP2, va_K.moved hW.alike hK2, hD2, hH2⟩, hS2.F ht⟩
    cases i2 with
    | ireturn =>
      cases zm_len_of hlk (k := 1) rfl
      simp only [zm_ret] at hret
      split at hret
      · next x ty hty =>
        split at hret
        · next hfit =>
          have ho : o.1 = some (.inl x) := (Option.some.inj hret).symm
          obtain ⟨w, r, rfl, hw, hr0⟩ := hst2
          cases (show r = [] from hr0)
          cases (show w = .int x from hw)
          exact W.zret (ty := ty) hx hb (hr.trans hty) (zm_fit_ok (φ := φ2) hfit (show zm_vr φ2 (.inl x) (.int x) from rfl)).1 (fun t ht hW => post _ t (by rw [ho]; exact ⟨_, rfl, rfl⟩) ht hW) hS2.2.2 hdg
        · cases hret
      · cases hret
    | areturn =>
      cases zm_len_of hlk (k := 1) rfl
      simp only [zm_ret] at hret
      split at hret
      · next q cn hty =>
        have ho : o.1 = some (.inr (.inr q)) := (Option.some.inj hret).symm
        obtain ⟨w, r, rfl, hw, hr0⟩ := hst2
        cases (show r = [] from hr0)
        refine W.aret hx hb (hr.trans hty) (Or.inl ⟨_, rfl⟩) ?_ (fun t ht hW => post _ t (by rw [ho]; exact ⟨_, rfl, hw⟩) ht hW) hS2.2.2 hdg
        exact zm_vr_ref hw
      · cases hret
    | return_ =>
      cases zm_len_of hlk (k := 1) rfl
      simp only [zm_ret] at hret
      split at hret
      · next hty =>
        have ho : o.1 = none := (Option.some.inj hret).symm
        cases (show rs2 = [] from hst2)
        exact W.vret hx hb (hr.trans hty) (fun t ht hW => post _ t (by rw [ho]; exact rfl) ht hW) hS2.2.2 hdg
      · cases hret
    | _ => cases hret
