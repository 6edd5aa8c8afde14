theorem zm_words {φ : zmK → Option Nat} : ∀ {st : List zmV} {rs : List Value} {n : Nat}, zm_sr φ st rs → st.length ≤ n → (rs.map fun v => v.category).sum ≤ 2 * n
  | [], _, n, q, _ => by rw [show _ = [] from q]; simp
  | v :: st, _, n, ⟨w, r, e, hv, hr⟩, hn => by
    subst e
    rw [List.length_cons] at hn
    have h1 := zm_words (n := n - 1) hr (by omega)
    have h2 : w.category ≤ 2 := by
      rw [zm_vr_cat hv]
      split <;> omega
    simp only [List.map_cons, List.sum_cons]
    omega
theorem zm_small_inv {n : Int32} (h : zm_small n = true) : ¬ n < 0 ∧ n.toNatClampNeg ≤ 1000 := by
  unfold zm_small at h
  rw [Bool.and_eq_true] at h
  exact ⟨by simpa using h.1, by simpa using h.2⟩
theorem zm_free_inv {h : zmH} {s : Nat} (q : zm_free h s = true) : 8 ≤ s ∧ zm_get h (s, h.2.1 s) = none := by
  unfold zm_free at q
  rw [Bool.and_eq_true] at q
  exact ⟨by simpa using q.1, by simpa using q.2⟩
theorem zm_dflt_ok {φ : zmK → Option Nat} {ty : FieldType} (h : zm_tyOk ty = true) : zm_vr φ (zm_dflt ty) (defaultValue ty) := by
  cases ty <;> first | rfl | cases h
theorem zm_dflts {φ : zmK → Option Nat} : ∀ {tys : List FieldType}, (∀ t ∈ tys, zm_tyOk t = true) → zm_sr φ (tys.map zm_dflt) (tys.map defaultValue)
  | [], _ => rfl
  | t :: tys, h => ⟨_, _, rfl, zm_dflt_ok (h t List.mem_cons_self), zm_dflts (fun u hu => h u (List.mem_cons_of_mem _ hu))⟩
section ZMD
variable {p : Program} {l : Launch} {e : Env} {R : Room} {s : State} {m : MethodId} {args : Array Value} {below : List Frame} {meth : Method} {c : Code} {H : Heap} {locs : List Loc} {cells slots : Nat} {Q : State → Prop}
variable {pc mi : Nat} {ls : Array Slot} {rs : List Value} {φ : zmK → Option Nat} {st rest : List zmV} {L : zmL} {h : zmH} {D : va_G} {A : Nat → Prop}
theorem zm_new_ok {k si : Nat} {q : Nat × List FieldType} (X : zm_Cx p s m args meth c A mi) (hI : zm_I D A s mi φ L st h H locs ls rs) (hdg : decode (zt_bytes mi) pc = .ok (.new k, 3)) (hf : zt_new (zt_own mi) k = some q) (hF : zm_free h si = true) (hc : cells + 1 ≤ R.cells) (hs : slots + q.2.length ≤ R.slots)
    (kk : ∀ φ2 H2 rs2, zm_le φ φ2 → zm_I D A s mi φ2 L (.inr (.inr (some (si, h.2.1 si))) :: st) (zm_new h si (.inr (q.1, q.2.map zm_dflt)) q.2.length) H2 locs ls rs2 → W p l e R s m args below meth c H2 locs (cells + 1) (slots + q.2.length) Q (F0 m (pc + 3) ls rs2)) : W p l e R s m args below meth c H locs cells slots Q (F0 m pc ls rs) := by
  obtain ⟨hx, hb, hr, hml, hown, hts, hlocks, hin, hA⟩ := X
  obtain ⟨h8, hfree⟩ := zm_free_inv hF
  obtain ⟨ws, tys, lv, hK, hP, hD, hS, hH, hro, hl, hL, hlr, hst⟩ := hI
  obtain ⟨C, T, N, ty0, hcl, hu, hty, hlink, hinst, hini, hN, hq, hok⟩ := zt_new_ok hf
  have hfs : ∀ j, j < N → defaultValue (ty0 j) = vp_V (q.2.map defaultValue) j := by
    intro j hj
    have h1 := hq j hj
    unfold vp_V
    rw [List.getD_eq_getElem?_getD, List.getElem?_map, h1]
    rfl
  rw [hN] at hs kk
  refine va_new (D := D) (cl := zt_cl) (fs := q.2.map defaultValue) hx hb hts hu ty0 hty hown (hts _ hlink) (hts _ hinst) (hts _ hini) hK hP hD hS hA hcl hfs hc hs hdg (fun a H1 hP1 hD1 hS1 => ?_)
  have hle : zm_le φ (zm_ext φ (si, h.2.1 si) a) := zm_ext_le (hH.non h8 hfree)
  have hr1 : zm_cr (zm_ext φ (si, h.2.1 si) a) tys (.inr (q.1, q.2.map zm_dflt)) (.inr (q.1, q.2.map defaultValue)) := ⟨_, zm_dflts hok, rfl⟩
  exact kk _ H1 (.ref a :: rs) hle ⟨_, tys, lv, hK, hP1, hD1, hS1, hH.new hD1 h8 hfree (fun _ h => h) hr1, hro.keep hle (zm_new_ro h8), hl, hL, hlr.le hle, _, rs, rfl, Or.inr ⟨a, by simp [zm_ext], rfl⟩, hst.le hle⟩
theorem zm_newarray_ok {t : ArrayType} {si : Nat} {n : Int32} (X : zm_Cx p s m args meth c A mi) (hI : zm_I D A s mi φ L (.inl n :: rest) h H locs ls rs) (hdg : decode (zt_bytes mi) pc = .ok (.newarray t, 2)) (hF : zm_free h si = true) (hn : zm_small n = true) (ht : zm_at t = true) (hc : cells + 1 ≤ R.cells) (hs : slots + n.toNatClampNeg ≤ R.slots)
    (kk : ∀ φ2 H2 rs2, zm_le φ φ2 → zm_I D A s mi φ2 L (.inr (.inr (some (si, h.2.1 si))) :: rest) (zm_new h si (.inl (newarray.typeOf t, n.toNatClampNeg, .inl fun _ => 0)) n.toNatClampNeg) H2 locs ls rs2 → W p l e R s m args below meth c H2 locs (cells + 1) (slots + n.toNatClampNeg) Q (F0 m (pc + 2) ls rs2)) : W p l e R s m args below meth c H locs cells slots Q (F0 m pc ls rs) := by
  obtain ⟨hx, hb, hr, hml, hown, hts, hlocks, hin, hA⟩ := X
  obtain ⟨h8, hfree⟩ := zm_free_inv hF
  obtain ⟨hn0, hn1⟩ := zm_small_inv hn
  obtain ⟨ws, tys, lv, hK, hP, hD, hS, hH, hro, hl, hL, hlr, w0, rr, rfl, rfl, hst⟩ := hI
  obtain ⟨hword, hcell, hbytes⟩ := zm_at_ok ht
  refine va_newa (D := D) (cl := zt_cl) (a0 := (n.toNatClampNeg, .inl fun _ => 0)) hx hb (hts _ hword) rfl hK hP hD hS hA (fun cA => hcell cA _) hn0 rfl (Nat.le_trans (Nat.mul_le_mul hn1 hbytes) (by decide)) hc hs hdg (fun a cA H1 hK1 hP1 hD1 hS1 => ?_)
  have hle : zm_le φ (zm_ext φ (si, h.2.1 si) a) := zm_ext_le (hH.non h8 hfree)
  have hr1 : zm_cr (zm_ext φ (si, h.2.1 si) a) (tys ++ [(cA, newarray.typeOf t)]) (.inl (newarray.typeOf t, n.toNatClampNeg, .inl fun _ => 0)) (.inl (cA, n.toNatClampNeg, .inl fun _ => 0)) := ⟨cA, by simp, rfl⟩
  exact kk _ H1 (.ref a :: rr) hle ⟨_, _, lv, hK1, hP1, hD1, hS1, hH.new hD1 h8 hfree (fun _ h => List.mem_append_left _ h) hr1, hro.keep hle (zm_new_ro h8), hl, hL, hlr.le hle, _, rr, rfl, Or.inr ⟨a, by simp [zm_ext], rfl⟩, hst.le hle⟩
theorem zm_anewarray_ok {k si : Nat} {C : String} {n : Int32} (X : zm_Cx p s m args meth c A mi) (hI : zm_I D A s mi φ L (.inl n :: rest) h H locs ls rs) (hdg : decode (zt_bytes mi) pc = .ok (.anewarray k, 3)) (hf : zt_arr (zt_own mi) k = some C) (hF : zm_free h si = true) (hn : zm_small n = true) (hc : cells + 1 ≤ R.cells) (hs : slots + n.toNatClampNeg ≤ R.slots)
    (kk : ∀ φ2 H2 rs2, zm_le φ φ2 → zm_I D A s mi φ2 L (.inr (.inr (some (si, h.2.1 si))) :: rest) (zm_new h si (.inl (.object C, n.toNatClampNeg, .inr fun _ => none)) n.toNatClampNeg) H2 locs ls rs2 → W p l e R s m args below meth c H2 locs (cells + 1) (slots + n.toNatClampNeg) Q (F0 m (pc + 3) ls rs2)) : W p l e R s m args below meth c H locs cells slots Q (F0 m pc ls rs) := by
  obtain ⟨hx, hb, hr, hml, hown, hts, hlocks, hin, hA⟩ := X
  obtain ⟨h8, hfree⟩ := zm_free_inv hF
  obtain ⟨hn0, hn1⟩ := zm_small_inv hn
  obtain ⟨ws, tys, lv, hK, hP, hD, hS, hH, hro, hl, hL, hlr, w0, rr, rfl, rfl, hst⟩ := hI
  obtain ⟨hlink, hao⟩ := zt_arr_ok hf
  refine va_newq (D := D) (cl := zt_cl) hx hb hown (hts _ hlink) (hro.2.2.2.2.2.1 C hao) hK hP hD hS hA hn0 rfl (by omega) hc hs hdg (fun a cA H1 hK1 hP1 hD1 hS1 => ?_)
  have hle : zm_le φ (zm_ext φ (si, h.2.1 si) a) := zm_ext_le (hH.non h8 hfree)
  have hr1 : zm_cr (zm_ext φ (si, h.2.1 si) a) (tys ++ [(cA, .object C)]) (.inl (.object C, n.toNatClampNeg, .inr fun _ => none)) (.inl (cA, n.toNatClampNeg, .inr (.inr (.inr (.inr fun _ => none))))) := ⟨cA, fun _ => none, by simp, fun _ => (rfl : va_rf none = .null), rfl⟩
  exact kk _ H1 (.ref a :: rr) hle ⟨_, _, lv, hK1, hP1, hD1, hS1, hH.new hD1 h8 hfree (fun _ h => List.mem_append_left _ h) hr1, hro.keep hle (zm_new_ro h8), hl, hL, hlr.le hle, _, rr, rfl, Or.inr ⟨a, by simp [zm_ext], rfl⟩, hst.le hle⟩
theorem zm_ldc_ok {k : Nat} {v : zmV} (X : zm_Cx p s m args meth c A mi) (hI : zm_I D A s mi φ L st h H locs ls rs) (hdg : decode (zt_bytes mi) pc = .ok (.ldc k, 2)) (hf : zt_ldc (zt_own mi) k = some v)
    (kk : ∀ rs2, zm_I D A s mi φ L (v :: st) h H locs ls rs2 → W p l e R s m args below meth c H locs cells slots Q (F0 m (pc + 2) ls rs2)) : W p l e R s m args below meth c H locs cells slots Q (F0 m pc ls rs) := by
  obtain ⟨hx, hb, hr, hml, hown, hts, hlocks, hin, hA⟩ := X
  have hI0 := hI
  obtain ⟨ws, tys, lv, hK, hP, hD, hS, hH, hro, hl, hL, hlr, hst⟩ := hI
  rcases zt_ldc_ok hf with ⟨x, rfl, hw⟩ | ⟨tx, key, rfl, hm⟩
  · exact W.ldc (g := F0 m pc ls rs) hx hb hown (hts _ hw) rfl hdg (kk _ (hI0.stack ⟨_, rs, rfl, rfl, hst⟩))
  · obtain ⟨a, ha, hR⟩ := hro.2.2.2.2.1 _ hm
    exact va_ldcS hx hb hown hR hdg (kk _ (hI0.stack ⟨_, rs, rfl, Or.inr ⟨a, ha, rfl⟩, hst⟩))
theorem zm_getstatic_ok {k : Nat} {v : zmV} (X : zm_Cx p s m args meth c A mi) (hI : zm_I D A s mi φ L st h H locs ls rs) (hdg : decode (zt_bytes mi) pc = .ok (.getstatic k, 3)) (hf : zt_stat (zt_own mi) k = some v)
    (kk : ∀ rs2, zm_I D A s mi φ L (v :: st) h H locs ls rs2 → W p l e R s m args below meth c H locs cells slots Q (F0 m (pc + 3) ls rs2)) : W p l e R s m args below meth c H locs cells slots Q (F0 m pc ls rs) := by
  obtain ⟨hx, hb, hr, hml, hown, hts, hlocks, hin, hA⟩ := X
  have hI0 := hI
  obtain ⟨ws, tys, lv, hK, hP, hD, hS, hH, hro, hl, hL, hlr, hst⟩ := hI
  obtain ⟨C, n, d, hm, hlink⟩ := zt_stat_ok hf
  obtain ⟨w, hw, hZ⟩ := hro.2.2.2.1 _ hm
  rcases hlink with hlink | ⟨host, hlink⟩
  · exact va_gets hx hb hZ hS hown (hts _ hlink) (fun _ h9 => h9) hdg (kk _ (hI0.stack ⟨w, rs, rfl, hw, hst⟩))
  · exact va_getsN hx hb hZ hS hown (va_Nw.use rfl (hro.2.2.2.2.2.2.2.1 _ hlink)) (fun _ h9 => h9) hdg (kk _ (hI0.stack ⟨w, rs, rfl, hw, hst⟩))
end ZMD
theorem zm_putF_1 (h : zmH) (r : zmK) (k : Nat) (v : zmV) : (zm_putF h r k v).1 = h.1 := by
  unfold zm_putF
  split <;> rfl
theorem zm_stI_1 (h : zmH) (r : zmK) (i x : Int32) : (zm_stI h r i x).1 = h.1 := by
  unfold zm_stI
  split <;> rfl
theorem zm_stQ_1 (h : zmH) (r : zmK) (i : Int32) (x : zmK) : (zm_stQ h r i x).1 = h.1 := by
  unfold zm_stQ
  split <;> rfl
theorem zm_new_1 (h : zmH) (s : Nat) (c : zmC) (sl : Nat) : (zm_new h s c sl).1.1 - h.1.1 = 1 := by
  show h.1.1 + 1 - h.1.1 = 1
  omega
theorem zm_new_2 (h : zmH) (s : Nat) (c : zmC) (sl : Nat) : (zm_new h s c sl).1.2 - h.1.2 = sl := by
  show h.1.2 + sl - h.1.2 = sl
  omega
theorem zm_len_of {i : Instr} {len k : Nat} (h : zm_lk i len = true) (hk : zm_il i = some k) : len = k := by
  unfold zm_lk at h
  rw [hk] at h
  exact (by simpa using h : k = len).symm
theorem zm_inc_inv {lsl : List Nat} {L L2 : zmL} {n : Nat} {d : Int} (h : zm_inc lsl L n d = some L2) : ∃ x, L[n]? = some (some (.inl x)) ∧ zm_no2 lsl n = true ∧ L2 = L.set n (some (.inl (x + Int32.ofInt d))) := by
  unfold zm_inc at h
  split at h
  · next x hx =>
    split at h
    · next h2 => cases h; exact ⟨x, hx, h2, rfl⟩
    · cases h
  · cases h
section ZME
variable {p : Program} {l : Launch} {e : Env} {R : Room} {s : State} {m : MethodId} {args : Array Value} {below : List Frame} {meth : Method} {c : Code} {H : Heap} {locs : List Loc} {cells slots : Nat} {Q : State → Prop}
variable {pc mi : Nat} {ls : Array Slot} {rs : List Value} {φ : zmK → Option Nat} {st : List zmV} {L : zmL} {h : zmH} {D : va_G} {A : Nat → Prop}
theorem zm_iinc_ok {n : Nat} {d : Int} {x : Int32} (X : zm_Cx p s m args meth c A mi) (hI : zm_I D A s mi φ L st h H locs ls rs) (hdg : decode (zt_bytes mi) pc = .ok (.iinc n d, 3)) (hx1 : L[n]? = some (some (.inl x))) (h2 : zm_no2 (zt_lslot mi) n = true)
    (kk : ∀ ls2, zm_I D A s mi φ (L.set n (some (.inl (x + Int32.ofInt d)))) st h H locs ls2 rs → W p l e R s m args below meth c H locs cells slots Q (F0 m (pc + 3) ls2 rs)) : W p l e R s m args below meth c H locs cells slots Q (F0 m pc ls rs) := by
  obtain ⟨hx, hb, hr, hml, hown, hts, hlocks, hin, hA⟩ := X
  obtain ⟨ws, tys, lv, hK, hP, hD, hS, hH, hro, hl, hL, hlr, hst⟩ := hI
  obtain ⟨w, hw, hv⟩ := hlr.1 n _ hx1
  have hv : w = .int x := hv
  subst hv
  obtain ⟨k, hk⟩ := List.getElem?_of_mem hw
  have hn : n < L.length := (List.getElem?_eq_some_iff.mp hx1).1
  refine lv_iinc hx hb hdg hl hk rfl (by rw [← hL]; exact hn) rfl (fun ls2 hl2 => kk ls2 ?_)
  exact ⟨ws, tys, _, hK, hP, hD, hS, hH, hro, hl2, by rw [List.length_set]; exact hL, hlr.store (v := .inl (x + Int32.ofInt d)) rfl rfl hn h2, hst⟩
theorem zm_objinit_ok {k : Nat} {r : zmK} {rest : List zmV} (X : zm_Cx p s m args meth c A mi) (hI : zm_I D A s mi φ L (.inr (.inr (some r)) :: rest) h H locs ls rs) (hdg : decode (zt_bytes mi) pc = .ok (.invokespecial k, 3)) (hf : zt_oinit (zt_own mi) k = true) (hlen : rest.length ≤ 4) (h8 : 8 ≤ r.1) (hR : 1 ≤ R.frames ∧ 40 ≤ R.locals)
    (kk : ∀ rs2, zm_I D A s mi φ L rest h H locs ls rs2 → W p l e R s m args below meth c H locs cells slots Q (F0 m (pc + 3) ls rs2)) : W p l e R s m args below meth c H locs cells slots Q (F0 m pc ls rs) := by
  obtain ⟨hx, hb, hr, hml, hown, hts, hlocks, hin, hA⟩ := X
  have hI0 := hI
  obtain ⟨ws, tys, lv, hK, hP, hD, hS, hH, hro, hl, hL, hlr, w0, rr, rfl, hva, hrr⟩ := hI
  obtain ⟨a, ha, rfl⟩ := zm_vr_n7 hva (by omega)
  obtain ⟨h1, h2, h3⟩ := zt_oinit_ok hf
  have hwd := zm_words hrr hlen
  refine W.objInit (g := F0 m pc ls (.ref a :: rr)) hx hb hown (hts _ h1) (hts _ h2) (hts _ h3) rfl (by rw [hml]; exact hl.1) rfl hdg hR.1 ?_ (kk _ (hI0.stack hrr))
  have := lv_room (m := m) (pc := pc) (ls := ls) (rest := .ref a :: rr) (st := rr) (by omega)
  omega

theorem zm_max_ok {k : Nat} {x y : Int32} {rest : List zmV} (X : zm_Cx p s m args meth c A mi) (hI : zm_I D A s mi φ L (.inl y :: .inl x :: rest) h H locs ls rs) (hdg : decode (zt_bytes mi) pc = .ok (.invokestatic k, 3)) (hf : zt_max (zt_own mi) k = true) (hlen : rest.length ≤ 4) (hR : 1 ≤ R.frames ∧ 40 ≤ R.locals) (hc : cells ≤ R.cells) (hs : slots ≤ R.slots)
    (kk : ∀ rs2, zm_I D A s mi φ L (.inl (if x < y then y else x) :: rest) h H locs ls rs2 → W p l e R s m args below meth c H locs cells slots Q (F0 m (pc + 3) ls rs2)) : W p l e R s m args below meth c H locs cells slots Q (F0 m pc ls rs) := by
  obtain ⟨hx, hb, hr, hml, hown, hts, hlocks, hin, hA⟩ := X
  have hI0 := hI
  obtain ⟨ws, tys, lv, hK, hP, hD, hS, hH, hro, hl, hL, hlr, hst⟩ := hI
  obtain ⟨w1, w2, rr, rfl, g1, g2, hrr⟩ := zm_two hst
  cases (show w1 = .int y from g1)
  cases (show w2 = .int x from g2)
  obtain ⟨h1, h2, h3, h4⟩ := zt_max_ok hf
  have hwd := zm_words hrr hlen
  exact va_mmax hx hb (by rw [hml]; exact hl.1.symm) hown (hts _ h1) (hts _ h2) (hts _ h3) (hts _ h4) hR.1 (by omega) hc hs hdg (kk _ (hI0.stack ⟨_, _, rfl, rfl, hrr⟩))

set_option maxHeartbeats 16000000 in
set_option maxRecDepth 100000 in
theorem zm_step_ok {i : Instr} {pc2 : Nat} {L2 : zmL} {st2 : List zmV} {h2 : zmH} (X : zm_Cx p s m args meth c A mi) (hI : zm_I D A s mi φ L st h H locs ls rs) (hf : zt_fetch mi pc = some i) (hs : zm_step mi pc i L st h = some (pc2, L2, st2, h2)) (hc : cells + (h2.1.1 - h.1.1) ≤ R.cells) (hsl : slots + (h2.1.2 - h.1.2) ≤ R.slots) (hR : 1 ≤ R.frames ∧ 40 ≤ R.locals)
    (kk : ∀ φ2 H2 locs2 ls2 rs2, zm_le φ φ2 → zm_I D A s mi φ2 L2 st2 h2 H2 locs2 ls2 rs2 → W p l e R s m args below meth c H2 locs2 (cells + (h2.1.1 - h.1.1)) (slots + (h2.1.2 - h.1.2)) Q (F0 m pc2 ls2 rs2)) : W p l e R s m args below meth c H locs cells slots Q (F0 m pc ls rs) := by
  have X0 := X
  obtain ⟨hx, hb, hr, hml, hown, hts, hlocks, hin, hA⟩ := X
  obtain ⟨len, hdg, hlk⟩ := zt_fetch_ok hf
  cases i with
  | iload n =>
    cases zm_len_of hlk (k := 2) rfl
    simp only [zm_step, Option.map_eq_some_iff] at hs
    obtain ⟨v, hv, he⟩ := hs
    cases he
    simp only [Nat.sub_self, Nat.add_zero] at kk
    obtain ⟨g1, g2⟩ := zm_ld_inv hv
    obtain ⟨x, rfl⟩ := zm_kd0 g2
    obtain ⟨w, g3, g4⟩ := hI.at g1
    cases (show w = .int x from g4)
    exact lv_iload hx hb hdg g3 (kk φ H locs ls _ zm_le.rf (hI.stack ⟨_, _, rfl, rfl, hI.sr⟩))
  | iload_n n =>
    cases zm_len_of hlk (k := 1) rfl
    simp only [zm_step, Option.map_eq_some_iff] at hs
    obtain ⟨v, hv, he⟩ := hs
    cases he
    simp only [Nat.sub_self, Nat.add_zero] at kk
    obtain ⟨g1, g2⟩ := zm_ld_inv hv
    obtain ⟨x, rfl⟩ := zm_kd0 g2
    obtain ⟨w, g3, g4⟩ := hI.at g1
    cases (show w = .int x from g4)
    exact lv_iload_n hx hb hdg rfl g3 (kk φ H locs ls _ zm_le.rf (hI.stack ⟨_, _, rfl, rfl, hI.sr⟩))
  | lload n =>
    cases zm_len_of hlk (k := 2) rfl
    simp only [zm_step, Option.map_eq_some_iff] at hs
    obtain ⟨v, hv, he⟩ := hs
    cases he
    simp only [Nat.sub_self, Nat.add_zero] at kk
    obtain ⟨g1, g2⟩ := zm_ld_inv hv
    obtain ⟨x, rfl⟩ := zm_kd1 g2
    obtain ⟨w, g3, g4⟩ := hI.at g1
    cases (show w = .long x from g4)
    exact lv_lload hx hb hdg g3 (kk φ H locs ls _ zm_le.rf (hI.stack ⟨_, _, rfl, rfl, hI.sr⟩))
  | lload_n n =>
    cases zm_len_of hlk (k := 1) rfl
    simp only [zm_step, Option.map_eq_some_iff] at hs
    obtain ⟨v, hv, he⟩ := hs
    cases he
    simp only [Nat.sub_self, Nat.add_zero] at kk
    obtain ⟨g1, g2⟩ := zm_ld_inv hv
    obtain ⟨x, rfl⟩ := zm_kd1 g2
    obtain ⟨w, g3, g4⟩ := hI.at g1
    cases (show w = .long x from g4)
    exact lv_lload_n hx hb hdg rfl g3 (kk φ H locs ls _ zm_le.rf (hI.stack ⟨_, _, rfl, rfl, hI.sr⟩))
  | aload n =>
    cases zm_len_of hlk (k := 2) rfl
    simp only [zm_step, Option.map_eq_some_iff] at hs
    obtain ⟨v, hv, he⟩ := hs
    cases he
    simp only [Nat.sub_self, Nat.add_zero] at kk
    obtain ⟨g1, g2⟩ := zm_ld_inv hv
    obtain ⟨x, rfl⟩ := zm_kd2 g2
    obtain ⟨w, g3, g4⟩ := hI.at g1
    rcases zm_vr_ref g4 with rfl | ⟨a, rfl⟩
    · exact lv_aloadN hx hb hdg g3 (kk φ H locs ls _ zm_le.rf (hI.stack ⟨_, _, rfl, g4, hI.sr⟩))
    · exact lv_aload hx hb hdg g3 (kk φ H locs ls _ zm_le.rf (hI.stack ⟨_, _, rfl, g4, hI.sr⟩))
  | aload_n n =>
    cases zm_len_of hlk (k := 1) rfl
    simp only [zm_step, Option.map_eq_some_iff] at hs
    obtain ⟨v, hv, he⟩ := hs
    cases he
    simp only [Nat.sub_self, Nat.add_zero] at kk
    obtain ⟨g1, g2⟩ := zm_ld_inv hv
    obtain ⟨x, rfl⟩ := zm_kd2 g2
    obtain ⟨w, g3, g4⟩ := hI.at g1
    rcases zm_vr_ref g4 with rfl | ⟨a, rfl⟩
    · exact lv_aload_nN hx hb hdg rfl g3 (kk φ H locs ls _ zm_le.rf (hI.stack ⟨_, _, rfl, g4, hI.sr⟩))
    · exact lv_aload_n hx hb hdg rfl g3 (kk φ H locs ls _ zm_le.rf (hI.stack ⟨_, _, rfl, g4, hI.sr⟩))
  | istore n =>
    cases zm_len_of hlk (k := 2) rfl
    simp only [zm_step, Option.map_eq_some_iff] at hs
    obtain ⟨⟨q1, q2⟩, hv, he⟩ := hs
    cases he
    simp only [Nat.sub_self, Nat.add_zero] at kk
    obtain ⟨v, rfl, g2, g3, g4, rfl⟩ := zm_sto_inv hv
    obtain ⟨x, rfl⟩ := zm_kd0 g2
    obtain ⟨w, rr, rfl, hw, hrr⟩ := hI.sr
    cases (show w = .int x from hw)
    exact zm_store_ok (i := .istore n) (k := 2) hI rfl g3 g4 (fun lv hl hn h9 => lv_istore hx hb hdg hl hn rfl h9) (fun ls2 h9 => kk φ H locs ls2 _ zm_le.rf h9)
  | istore_n n =>
    cases zm_len_of hlk (k := 1) rfl
    simp only [zm_step, Option.map_eq_some_iff] at hs
    obtain ⟨⟨q1, q2⟩, hv, he⟩ := hs
    cases he
    simp only [Nat.sub_self, Nat.add_zero] at kk
    obtain ⟨v, rfl, g2, g3, g4, rfl⟩ := zm_sto_inv hv
    obtain ⟨x, rfl⟩ := zm_kd0 g2
    obtain ⟨w, rr, rfl, hw, hrr⟩ := hI.sr
    cases (show w = .int x from hw)
    exact zm_store_ok (i := .istore_n n) (k := 1) hI rfl g3 g4 (fun lv hl hn h9 => lv_istore_n hx hb hdg rfl hl hn rfl h9) (fun ls2 h9 => kk φ H locs ls2 _ zm_le.rf h9)
  | astore n =>
    cases zm_len_of hlk (k := 2) rfl
    simp only [zm_step, Option.map_eq_some_iff] at hs
    obtain ⟨⟨q1, q2⟩, hv, he⟩ := hs
    cases he
    simp only [Nat.sub_self, Nat.add_zero] at kk
    obtain ⟨v, rfl, g2, g3, g4, rfl⟩ := zm_sto_inv hv
    obtain ⟨x, rfl⟩ := zm_kd2 g2
    obtain ⟨w, rr, rfl, hw, hrr⟩ := hI.sr
    rcases zm_vr_ref hw with rfl | ⟨a, rfl⟩
    · exact zm_store_ok (i := .astore n) (k := 2) hI rfl g3 g4 (fun lv hl hn h9 => lv_astoreN hx hb hdg hl hn rfl h9) (fun ls2 h9 => kk φ H locs ls2 _ zm_le.rf h9)
    · exact zm_store_ok (i := .astore n) (k := 2) hI rfl g3 g4 (fun lv hl hn h9 => lv_astore hx hb hdg hl hn rfl h9) (fun ls2 h9 => kk φ H locs ls2 _ zm_le.rf h9)
  | astore_n n =>
    cases zm_len_of hlk (k := 1) rfl
    simp only [zm_step, Option.map_eq_some_iff] at hs
    obtain ⟨⟨q1, q2⟩, hv, he⟩ := hs
    cases he
    simp only [Nat.sub_self, Nat.add_zero] at kk
    obtain ⟨v, rfl, g2, g3, g4, rfl⟩ := zm_sto_inv hv
    obtain ⟨x, rfl⟩ := zm_kd2 g2
    obtain ⟨w, rr, rfl, hw, hrr⟩ := hI.sr
    rcases zm_vr_ref hw with rfl | ⟨a, rfl⟩
    · exact zm_store_ok (i := .astore_n n) (k := 1) hI rfl g3 g4 (fun lv hl hn h9 => lv_astore_nN hx hb hdg rfl hl hn rfl h9) (fun ls2 h9 => kk φ H locs ls2 _ zm_le.rf h9)
    · exact zm_store_ok (i := .astore_n n) (k := 1) hI rfl g3 g4 (fun lv hl hn h9 => lv_astore_n hx hb hdg rfl hl hn rfl h9) (fun ls2 h9 => kk φ H locs ls2 _ zm_le.rf h9)
  | lstore n =>
    cases zm_len_of hlk (k := 2) rfl
    simp only [zm_step, Option.map_eq_some_iff] at hs
    obtain ⟨⟨q1, q2⟩, hv, he⟩ := hs
    cases he
    simp only [Nat.sub_self, Nat.add_zero] at kk
    obtain ⟨x, rfl, g3, g4, g5, rfl⟩ := zm_stoL_inv hv
    obtain ⟨w, rr, rfl, hw, hrr⟩ := hI.sr
    cases (show w = .long x from hw)
    exact zm_storeL_ok (k := 2) hI g3 g4 g5 (fun lv hl hn h9 => lv_lstore hx hb hdg hl hn rfl h9) (fun ls2 h9 => kk φ H locs ls2 _ zm_le.rf h9)
  | lstore_n n =>
    cases zm_len_of hlk (k := 1) rfl
    simp only [zm_step, Option.map_eq_some_iff] at hs
    obtain ⟨⟨q1, q2⟩, hv, he⟩ := hs
    cases he
    simp only [Nat.sub_self, Nat.add_zero] at kk
    obtain ⟨x, rfl, g3, g4, g5, rfl⟩ := zm_stoL_inv hv
    obtain ⟨w, rr, rfl, hw, hrr⟩ := hI.sr
    cases (show w = .long x from hw)
    exact zm_storeL_ok (k := 1) hI g3 g4 g5 (fun lv hl hn h9 => lv_lstore_n hx hb hdg rfl hl hn rfl h9) (fun ls2 h9 => kk φ H locs ls2 _ zm_le.rf h9)
  | iinc n d =>
    cases zm_len_of hlk (k := 3) rfl
    simp only [zm_step, Option.map_eq_some_iff] at hs
    obtain ⟨q, hv, he⟩ := hs
    cases he
    simp only [Nat.sub_self, Nat.add_zero] at kk
    obtain ⟨x, g1, g2, rfl⟩ := zm_inc_inv hv
    exact zm_iinc_ok X0 hI hdg g1 g2 (fun ls2 h9 => kk φ H locs ls2 _ zm_le.rf h9)
  | bipush n =>
    cases zm_len_of hlk (k := 2) rfl
    cases hs
    simp only [Nat.sub_self, Nat.add_zero] at kk
    exact lv_bipush hx hb hdg rfl (kk φ H locs ls _ zm_le.rf (hI.stack ⟨_, _, rfl, rfl, hI.sr⟩))
  | sipush n =>
    cases zm_len_of hlk (k := 3) rfl
    cases hs
    simp only [Nat.sub_self, Nat.add_zero] at kk
    exact lv_sipush hx hb hdg rfl (kk φ H locs ls _ zm_le.rf (hI.stack ⟨_, _, rfl, rfl, hI.sr⟩))
  | ldc k =>
    cases zm_len_of hlk (k := 2) rfl
    simp only [zm_step, Option.map_eq_some_iff] at hs
    obtain ⟨v, hv, he⟩ := hs
    cases he
    simp only [Nat.sub_self, Nat.add_zero] at kk
    exact zm_ldc_ok X0 hI hdg hv (fun rs2 h9 => kk φ H locs ls rs2 zm_le.rf h9)
  | ldc2_w k =>
    cases zm_len_of hlk (k := 3) rfl
    simp only [zm_step, Option.map_eq_some_iff] at hs
    obtain ⟨v, hv, he⟩ := hs
    cases he
    simp only [Nat.sub_self, Nat.add_zero] at kk
    exact W.ldc2 (g := F0 m pc ls rs) hx hb hown (hts _ (zt_ldc2_ok hv)) rfl hdg (kk φ H locs ls _ zm_le.rf (hI.stack ⟨_, _, rfl, rfl, hI.sr⟩))
  | goto off =>
    cases zm_len_of hlk (k := 3) rfl
    simp only [zm_step, Option.map_eq_some_iff] at hs
    obtain ⟨v, hv, he⟩ := hs
    cases he
    simp only [Nat.sub_self, Nat.add_zero] at kk
    exact lv_goto hx hb hdg (zm_tgt_inv hv) (kk φ H locs ls _ zm_le.rf hI)
  | ifCond cd off =>
    cases zm_len_of hlk (k := 3) rfl
    simp only [zm_step] at hs
    split at hs
    · next x r =>
      simp only [Option.map_eq_some_iff] at hs
      obtain ⟨t, hv, he⟩ := hs
      cases he
      simp only [Nat.sub_self, Nat.add_zero] at kk
      obtain ⟨w, rr, rfl, hw, hrr⟩ := hI.sr
      cases (show w = .int x from hw)
      have kt : zm_cmp cd x 0 = true → W p l e R s m args below meth c H locs cells slots Q (F0 m t ls rr) := fun q => by
        have := kk φ H locs ls rr zm_le.rf (hI.stack hrr)
        rw [if_pos q] at this; exact this
      have kf : ¬ zm_cmp cd x 0 = true → W p l e R s m args below meth c H locs cells slots Q (F0 m (pc + 3) ls rr) := fun q => by
        have := kk φ H locs ls rr zm_le.rf (hI.stack hrr)
        rw [if_neg q] at this; exact this
      cases cd with
      | eq => exact lv_if_eq hx hb hdg (zm_tgt_inv hv) (fun q => kt (by simpa [zm_cmp] using q)) (fun q => kf (by simpa [zm_cmp] using q))
      | ne => exact lv_if_ne hx hb hdg (zm_tgt_inv hv) (fun q => kt (by simpa [zm_cmp] using q)) (fun q => kf (by simpa [zm_cmp] using q))
      | lt => exact lv_if_lt hx hb hdg (zm_tgt_inv hv) (fun q => kt (by simpa [zm_cmp] using q)) (fun q => kf (by simpa [zm_cmp] using q))
      | ge => exact lv_if_ge hx hb hdg (zm_tgt_inv hv) (fun q => kt (by simpa [zm_cmp] using q)) (fun q => kf (by simpa [zm_cmp] using q))
      | gt => exact lv_if_gt hx hb hdg (zm_tgt_inv hv) (fun q => kt (by simpa [zm_cmp] using q)) (fun q => kf (by simpa [zm_cmp] using q))
      | le => exact lv_if_le hx hb hdg (zm_tgt_inv hv) (fun q => kt (by simpa [zm_cmp] using q)) (fun q => kf (by simpa [zm_cmp] using q))
    · cases hs
  | if_icmp cd off =>
    cases zm_len_of hlk (k := 3) rfl
    simp only [zm_step] at hs
    split at hs
    · next y x r =>
      simp only [Option.map_eq_some_iff] at hs
      obtain ⟨t, hv, he⟩ := hs
      cases he
      simp only [Nat.sub_self, Nat.add_zero] at kk
      obtain ⟨w1, w2, rr, rfl, g1, g2, hrr⟩ := zm_two hI.sr
      cases (show w1 = .int y from g1)
      cases (show w2 = .int x from g2)
      have kt : zm_cmp cd x y = true → W p l e R s m args below meth c H locs cells slots Q (F0 m t ls rr) := fun q => by
        have := kk φ H locs ls rr zm_le.rf (hI.stack hrr)
        rw [if_pos q] at this; exact this
      have kf : ¬ zm_cmp cd x y = true → W p l e R s m args below meth c H locs cells slots Q (F0 m (pc + 3) ls rr) := fun q => by
        have := kk φ H locs ls rr zm_le.rf (hI.stack hrr)
        rw [if_neg q] at this; exact this
      cases cd with
      | eq => exact lv_icmp_eq hx hb hdg (zm_tgt_inv hv) (fun q => kt (by simpa [zm_cmp] using q)) (fun q => kf (by simpa [zm_cmp] using q))
      | ne => exact lv_icmp_ne hx hb hdg (zm_tgt_inv hv) (fun q => kt (by simpa [zm_cmp] using q)) (fun q => kf (by simpa [zm_cmp] using q))
      | lt => exact lv_icmp_lt hx hb hdg (zm_tgt_inv hv) (fun q => kt (by simpa [zm_cmp] using q)) (fun q => kf (by simpa [zm_cmp] using q))
      | ge => exact lv_icmp_ge hx hb hdg (zm_tgt_inv hv) (fun q => kt (by simpa [zm_cmp] using q)) (fun q => kf (by simpa [zm_cmp] using q))
      | gt => exact lv_icmp_gt hx hb hdg (zm_tgt_inv hv) (fun q => kt (by simpa [zm_cmp] using q)) (fun q => kf (by simpa [zm_cmp] using q))
      | le => exact lv_icmp_le hx hb hdg (zm_tgt_inv hv) (fun q => kt (by simpa [zm_cmp] using q)) (fun q => kf (by simpa [zm_cmp] using q))
    · cases hs
  | ifnull off =>
    cases zm_len_of hlk (k := 3) rfl
    simp only [zm_step] at hs
    split at hs
    · next q r =>
      split at hs
      · next h7 =>
        simp only [Option.map_eq_some_iff] at hs
        obtain ⟨t, hv, he⟩ := hs
        cases he
        simp only [Nat.sub_self, Nat.add_zero] at kk
        obtain ⟨w, rr, rfl, hw, hrr⟩ := hI.sr
        have kf := kk φ H locs ls rr zm_le.rf (hI.stack hrr)
        rcases zm_vr_null hw h7 with ⟨rfl, rfl⟩ | ⟨k, a, rfl, rfl⟩
        · exact lv_ifnullN hx hb hdg (zm_tgt_inv hv) kf
        · exact lv_ifnull hx hb hdg kf
      · cases hs
    · cases hs
  | ifnonnull off =>
    cases zm_len_of hlk (k := 3) rfl
    simp only [zm_step] at hs
    split at hs
    · next q r =>
      split at hs
      · next h7 =>
        simp only [Option.map_eq_some_iff] at hs
        obtain ⟨t, hv, he⟩ := hs
        cases he
        simp only [Nat.sub_self, Nat.add_zero] at kk
        obtain ⟨w, rr, rfl, hw, hrr⟩ := hI.sr
        have kf := kk φ H locs ls rr zm_le.rf (hI.stack hrr)
        rcases zm_vr_null hw h7 with ⟨rfl, rfl⟩ | ⟨k, a, rfl, rfl⟩
        · exact lv_ifnonnullN hx hb hdg kf
        · exact lv_ifnonnull hx hb hdg (zm_tgt_inv hv) kf
      · cases hs
    · cases hs
  | tableswitch dflt lo hi offs =>
    simp only [zm_step] at hs
    split at hs
    · next x r =>
      simp only [Option.map_eq_some_iff] at hs
      obtain ⟨t, hv, he⟩ := hs
      cases he
      simp only [Nat.sub_self, Nat.add_zero] at kk
      obtain ⟨w, rr, rfl, hw, hrr⟩ := hI.sr
      cases (show w = .int x from hw)
      have kf := kk φ H locs ls rr zm_le.rf (hI.stack hrr)
      unfold zm_tab at hv
      split at hv
      · next hout => exact lv_tableOut hx hb hdg hout (zm_tgt_inv hv) kf
      · next hout =>
        split at hv
        · next off ho => exact lv_tableIn hx hb hdg (fun q => hout (Or.inl q)) (fun q => hout (Or.inr q)) ho (zm_tgt_inv hv) kf
        · cases hv
    · cases hs
  | getfield k =>
    cases zm_len_of hlk (k := 3) rfl
    simp only [zm_step] at hs
    split at hs
    · next r rest =>
      split at hs
      · next q hq =>
        split at hs
        · next hF =>
          cases hs
          simp only [Nat.sub_self, Nat.add_zero] at kk
          exact zm_getfield_ok X0 hI hdg hq hF (fun rs2 h9 => kk φ H locs ls rs2 zm_le.rf h9)
        · cases hs
      · cases hs
    · cases hs
  | putfield k =>
    cases zm_len_of hlk (k := 3) rfl
    simp only [zm_step] at hs
    split at hs
    · next v r rest =>
      split at hs
      · next q hq =>
        split at hs
        · next hF =>
          cases hs
          obtain ⟨f1, f2, f3, f4⟩ := hF
          rw [zm_putF_1] at kk
          simp only [Nat.sub_self, Nat.add_zero] at kk
          exact zm_putfield_ok X0 hI hdg hq f1 f2 f3 f4 (fun H2 locs2 rs2 h9 => kk φ H2 locs2 ls rs2 zm_le.rf h9)
        · cases hs
      · cases hs
    · cases hs
  | getstatic k =>
    cases zm_len_of hlk (k := 3) rfl
    simp only [zm_step, Option.map_eq_some_iff] at hs
    obtain ⟨v, hv, he⟩ := hs
    cases he
    simp only [Nat.sub_self, Nat.add_zero] at kk
    exact zm_getstatic_ok X0 hI hdg hv (fun rs2 h9 => kk φ H locs ls rs2 zm_le.rf h9)
  | iaload =>
    cases zm_len_of hlk (k := 1) rfl
    simp only [zm_step] at hs
    split at hs
    · split at hs
      · next hF =>
        cases hs
        simp only [Nat.sub_self, Nat.add_zero] at kk
        exact zm_iaload_ok X0 hI hdg hF (fun rs2 h9 => kk φ H locs ls rs2 zm_le.rf h9)
      · cases hs
    · cases hs
  | caload =>
    cases zm_len_of hlk (k := 1) rfl
    simp only [zm_step] at hs
    split at hs
    · split at hs
      · next hF =>
        cases hs
        simp only [Nat.sub_self, Nat.add_zero] at kk
        exact zm_caload_ok X0 hI hdg hF.1 hF.2 (fun rs2 h9 => kk φ H locs ls rs2 zm_le.rf h9)
      · cases hs
    · cases hs
  | baload =>
    cases zm_len_of hlk (k := 1) rfl
    simp only [zm_step] at hs
    split at hs
    · split at hs
      · next hF =>
        cases hs
        simp only [Nat.sub_self, Nat.add_zero] at kk
        exact zm_baload_ok X0 hI hdg hF (fun rs2 h9 => kk φ H locs ls rs2 zm_le.rf h9)
      · cases hs
    · cases hs
  | aaload =>
    cases zm_len_of hlk (k := 1) rfl
    simp only [zm_step] at hs
    split at hs
    · split at hs
      · next hF =>
        cases hs
        simp only [Nat.sub_self, Nat.add_zero] at kk
        exact zm_aaload_ok X0 hI hdg hF.1 hF.2 (fun rs2 h9 => kk φ H locs ls rs2 zm_le.rf h9)
      · cases hs
    · cases hs
  | iastore =>
    cases zm_len_of hlk (k := 1) rfl
    simp only [zm_step] at hs
    split at hs
    · split at hs
      · next hF =>
        cases hs
        rw [zm_stI_1] at kk
        simp only [Nat.sub_self, Nat.add_zero] at kk
        exact zm_iastore_ok X0 hI hdg hF.1 hF.2 (fun H2 locs2 rs2 h9 => kk φ H2 locs2 ls rs2 zm_le.rf h9)
      · cases hs
    · cases hs
  | castore =>
    cases zm_len_of hlk (k := 1) rfl
    simp only [zm_step] at hs
    split at hs
    · split at hs
      · next hF =>
        cases hs
        rw [zm_stI_1] at kk
        simp only [Nat.sub_self, Nat.add_zero] at kk
        exact zm_castore_ok X0 hI hdg hF.1 hF.2 (fun H2 locs2 rs2 h9 => kk φ H2 locs2 ls rs2 zm_le.rf h9)
      · cases hs
    · cases hs
  | bastore =>
    cases zm_len_of hlk (k := 1) rfl
    simp only [zm_step] at hs
    split at hs
    · split at hs
      · next hF =>
        cases hs
        rw [zm_stI_1] at kk
        simp only [Nat.sub_self, Nat.add_zero] at kk
        exact zm_bastore_ok X0 hI hdg hF.1 hF.2 (fun H2 locs2 rs2 h9 => kk φ H2 locs2 ls rs2 zm_le.rf h9)
      · cases hs
    · cases hs
  | aastore =>
    cases zm_len_of hlk (k := 1) rfl
    simp only [zm_step] at hs
    split at hs
    · split at hs
      · next hF =>
        cases hs
        rw [zm_stQ_1] at kk
        simp only [Nat.sub_self, Nat.add_zero] at kk
        exact zm_aastore_ok X0 hI hdg hF.1 hF.2.1 hF.2.2.1 hF.2.2.2 (fun H2 locs2 rs2 h9 => kk φ H2 locs2 ls rs2 zm_le.rf h9)
      · cases hs
    · cases hs
  | arraylength =>
    cases zm_len_of hlk (k := 1) rfl
    simp only [zm_step] at hs
    split at hs
    · split at hs
      · next hF =>
        cases hs
        simp only [Nat.sub_self, Nat.add_zero] at kk
        exact zm_alen_ok X0 hI hdg hF (fun rs2 h9 => kk φ H locs ls rs2 zm_le.rf h9)
      · cases hs
    · cases hs
  | new k =>
    cases zm_len_of hlk (k := 3) rfl
    simp only [zm_step] at hs
    split at hs
    · next q hq =>
      split at hs
      · next hF =>
        cases hs
        rw [zm_new_1, zm_new_2] at kk
        rw [zm_new_1] at hc
        rw [zm_new_2] at hsl
        exact zm_new_ok X0 hI hdg hq hF hc hsl (fun φ2 H2 rs2 hle h9 => kk φ2 H2 locs ls rs2 hle h9)
      · cases hs
    · cases hs
  | newarray t =>
    cases zm_len_of hlk (k := 2) rfl
    simp only [zm_step] at hs
    split at hs
    · split at hs
      · next hF =>
        cases hs
        rw [zm_new_1, zm_new_2] at kk
        rw [zm_new_1] at hc
        rw [zm_new_2] at hsl
        exact zm_newarray_ok X0 hI hdg hF.1 hF.2.1 hF.2.2 hc hsl (fun φ2 H2 rs2 hle h9 => kk φ2 H2 locs ls rs2 hle h9)
      · cases hs
    · cases hs
  | anewarray k =>
    cases zm_len_of hlk (k := 3) rfl
    simp only [zm_step] at hs
    split at hs
    · split at hs
      · next hq =>
        split at hs
        · next hF =>
          cases hs
          rw [zm_new_1, zm_new_2] at kk
          rw [zm_new_1] at hc
          rw [zm_new_2] at hsl
          exact zm_anewarray_ok X0 hI hdg hq hF.1 hF.2 hc hsl (fun φ2 H2 rs2 hle h9 => kk φ2 H2 locs ls rs2 hle h9)
        · cases hs
      · cases hs
    · cases hs
  | invokespecial k =>
    cases zm_len_of hlk (k := 3) rfl
    simp only [zm_step] at hs
    split at hs
    · split at hs
      · next hF =>
        cases hs
        simp only [Nat.sub_self, Nat.add_zero] at kk
        exact zm_objinit_ok X0 hI hdg hF.1 hF.2.1 hF.2.2 hR (fun rs2 h9 => kk φ H locs ls rs2 zm_le.rf h9)
      · cases hs
    · cases hs
  | invokestatic k =>
    cases zm_len_of hlk (k := 3) rfl
    simp only [zm_step] at hs
    split at hs
    · split at hs
      · next hF =>
        cases hs
        simp only [Nat.sub_self, Nat.add_zero] at kk
        exact zm_max_ok X0 hI hdg hF.1 hF.2 hR (by simpa using hc) (by simpa using hsl) (fun rs2 h9 => kk φ H locs ls rs2 zm_le.rf h9)
      · cases hs
    · cases hs
  | iadd =>
    cases zm_len_of hlk (k := 1) rfl
    simp only [zm_step, Option.map_eq_some_iff] at hs
    obtain ⟨q, hv, he⟩ := hs
    cases he
    simp only [Nat.sub_self, Nat.add_zero] at kk
    exact zm_alu_ok hx hb hdg hv hI.sr (fun rs2 h9 => kk φ H locs ls rs2 zm_le.rf (hI.stack h9))
  | isub =>
    cases zm_len_of hlk (k := 1) rfl
    simp only [zm_step, Option.map_eq_some_iff] at hs
    obtain ⟨q, hv, he⟩ := hs
    cases he
    simp only [Nat.sub_self, Nat.add_zero] at kk
    exact zm_alu_ok hx hb hdg hv hI.sr (fun rs2 h9 => kk φ H locs ls rs2 zm_le.rf (hI.stack h9))
  | imul =>
    cases zm_len_of hlk (k := 1) rfl
    simp only [zm_step, Option.map_eq_some_iff] at hs
    obtain ⟨q, hv, he⟩ := hs
    cases he
    simp only [Nat.sub_self, Nat.add_zero] at kk
    exact zm_alu_ok hx hb hdg hv hI.sr (fun rs2 h9 => kk φ H locs ls rs2 zm_le.rf (hI.stack h9))
  | iand =>
    cases zm_len_of hlk (k := 1) rfl
    simp only [zm_step, Option.map_eq_some_iff] at hs
    obtain ⟨q, hv, he⟩ := hs
    cases he
    simp only [Nat.sub_self, Nat.add_zero] at kk
    exact zm_alu_ok hx hb hdg hv hI.sr (fun rs2 h9 => kk φ H locs ls rs2 zm_le.rf (hI.stack h9))
  | ior =>
    cases zm_len_of hlk (k := 1) rfl
    simp only [zm_step, Option.map_eq_some_iff] at hs
    obtain ⟨q, hv, he⟩ := hs
    cases he
    simp only [Nat.sub_self, Nat.add_zero] at kk
    exact zm_alu_ok hx hb hdg hv hI.sr (fun rs2 h9 => kk φ H locs ls rs2 zm_le.rf (hI.stack h9))
  | ixor =>
    cases zm_len_of hlk (k := 1) rfl
    simp only [zm_step, Option.map_eq_some_iff] at hs
    obtain ⟨q, hv, he⟩ := hs
    cases he
    simp only [Nat.sub_self, Nat.add_zero] at kk
    exact zm_alu_ok hx hb hdg hv hI.sr (fun rs2 h9 => kk φ H locs ls rs2 zm_le.rf (hI.stack h9))
  | ishl =>
    cases zm_len_of hlk (k := 1) rfl
    simp only [zm_step, Option.map_eq_some_iff] at hs
    obtain ⟨q, hv, he⟩ := hs
    cases he
    simp only [Nat.sub_self, Nat.add_zero] at kk
    exact zm_alu_ok hx hb hdg hv hI.sr (fun rs2 h9 => kk φ H locs ls rs2 zm_le.rf (hI.stack h9))
  | ishr =>
    cases zm_len_of hlk (k := 1) rfl
    simp only [zm_step, Option.map_eq_some_iff] at hs
    obtain ⟨q, hv, he⟩ := hs
    cases he
    simp only [Nat.sub_self, Nat.add_zero] at kk
    exact zm_alu_ok hx hb hdg hv hI.sr (fun rs2 h9 => kk φ H locs ls rs2 zm_le.rf (hI.stack h9))
  | iushr =>
    cases zm_len_of hlk (k := 1) rfl
    simp only [zm_step, Option.map_eq_some_iff] at hs
    obtain ⟨q, hv, he⟩ := hs
    cases he
    simp only [Nat.sub_self, Nat.add_zero] at kk
    exact zm_alu_ok hx hb hdg hv hI.sr (fun rs2 h9 => kk φ H locs ls rs2 zm_le.rf (hI.stack h9))
  | ineg =>
    cases zm_len_of hlk (k := 1) rfl
    simp only [zm_step, Option.map_eq_some_iff] at hs
    obtain ⟨q, hv, he⟩ := hs
    cases he
    simp only [Nat.sub_self, Nat.add_zero] at kk
    exact zm_alu_ok hx hb hdg hv hI.sr (fun rs2 h9 => kk φ H locs ls rs2 zm_le.rf (hI.stack h9))
  | i2l =>
    cases zm_len_of hlk (k := 1) rfl
    simp only [zm_step, Option.map_eq_some_iff] at hs
    obtain ⟨q, hv, he⟩ := hs
    cases he
    simp only [Nat.sub_self, Nat.add_zero] at kk
    exact zm_alu_ok hx hb hdg hv hI.sr (fun rs2 h9 => kk φ H locs ls rs2 zm_le.rf (hI.stack h9))
  | i2c =>
    cases zm_len_of hlk (k := 1) rfl
    simp only [zm_step, Option.map_eq_some_iff] at hs
    obtain ⟨q, hv, he⟩ := hs
    cases he
    simp only [Nat.sub_self, Nat.add_zero] at kk
    exact zm_alu_ok hx hb hdg hv hI.sr (fun rs2 h9 => kk φ H locs ls rs2 zm_le.rf (hI.stack h9))
  | i2b =>
    cases zm_len_of hlk (k := 1) rfl
    simp only [zm_step, Option.map_eq_some_iff] at hs
    obtain ⟨q, hv, he⟩ := hs
    cases he
    simp only [Nat.sub_self, Nat.add_zero] at kk
    exact zm_alu_ok hx hb hdg hv hI.sr (fun rs2 h9 => kk φ H locs ls rs2 zm_le.rf (hI.stack h9))
  | l2i =>
    cases zm_len_of hlk (k := 1) rfl
    simp only [zm_step, Option.map_eq_some_iff] at hs
    obtain ⟨q, hv, he⟩ := hs
    cases he
    simp only [Nat.sub_self, Nat.add_zero] at kk
    exact zm_alu_ok hx hb hdg hv hI.sr (fun rs2 h9 => kk φ H locs ls rs2 zm_le.rf (hI.stack h9))
  | ladd =>
    cases zm_len_of hlk (k := 1) rfl
    simp only [zm_step, Option.map_eq_some_iff] at hs
    obtain ⟨q, hv, he⟩ := hs
    cases he
    simp only [Nat.sub_self, Nat.add_zero] at kk
    exact zm_alu_ok hx hb hdg hv hI.sr (fun rs2 h9 => kk φ H locs ls rs2 zm_le.rf (hI.stack h9))
  | lmul =>
    cases zm_len_of hlk (k := 1) rfl
    simp only [zm_step, Option.map_eq_some_iff] at hs
    obtain ⟨q, hv, he⟩ := hs
    cases he
    simp only [Nat.sub_self, Nat.add_zero] at kk
    exact zm_alu_ok hx hb hdg hv hI.sr (fun rs2 h9 => kk φ H locs ls rs2 zm_le.rf (hI.stack h9))
  | land =>
    cases zm_len_of hlk (k := 1) rfl
    simp only [zm_step, Option.map_eq_some_iff] at hs
    obtain ⟨q, hv, he⟩ := hs
    cases he
    simp only [Nat.sub_self, Nat.add_zero] at kk
    exact zm_alu_ok hx hb hdg hv hI.sr (fun rs2 h9 => kk φ H locs ls rs2 zm_le.rf (hI.stack h9))
  | lor =>
    cases zm_len_of hlk (k := 1) rfl
    simp only [zm_step, Option.map_eq_some_iff] at hs
    obtain ⟨q, hv, he⟩ := hs
    cases he
    simp only [Nat.sub_self, Nat.add_zero] at kk
    exact zm_alu_ok hx hb hdg hv hI.sr (fun rs2 h9 => kk φ H locs ls rs2 zm_le.rf (hI.stack h9))
  | lcmp =>
    cases zm_len_of hlk (k := 1) rfl
    simp only [zm_step, Option.map_eq_some_iff] at hs
    obtain ⟨q, hv, he⟩ := hs
    cases he
    simp only [Nat.sub_self, Nat.add_zero] at kk
    exact zm_alu_ok hx hb hdg hv hI.sr (fun rs2 h9 => kk φ H locs ls rs2 zm_le.rf (hI.stack h9))
  | lshl =>
    cases zm_len_of hlk (k := 1) rfl
    simp only [zm_step, Option.map_eq_some_iff] at hs
    obtain ⟨q, hv, he⟩ := hs
    cases he
    simp only [Nat.sub_self, Nat.add_zero] at kk
    exact zm_alu_ok hx hb hdg hv hI.sr (fun rs2 h9 => kk φ H locs ls rs2 zm_le.rf (hI.stack h9))
  | lushr =>
    cases zm_len_of hlk (k := 1) rfl
    simp only [zm_step, Option.map_eq_some_iff] at hs
    obtain ⟨q, hv, he⟩ := hs
    cases he
    simp only [Nat.sub_self, Nat.add_zero] at kk
    exact zm_alu_ok hx hb hdg hv hI.sr (fun rs2 h9 => kk φ H locs ls rs2 zm_le.rf (hI.stack h9))
  | aconst_null =>
    cases zm_len_of hlk (k := 1) rfl
    simp only [zm_step, Option.map_eq_some_iff] at hs
    obtain ⟨q, hv, he⟩ := hs
    cases he
    simp only [Nat.sub_self, Nat.add_zero] at kk
    exact zm_alu_ok hx hb hdg hv hI.sr (fun rs2 h9 => kk φ H locs ls rs2 zm_le.rf (hI.stack h9))
  | dup =>
    cases zm_len_of hlk (k := 1) rfl
    simp only [zm_step, Option.map_eq_some_iff] at hs
    obtain ⟨q, hv, he⟩ := hs
    cases he
    simp only [Nat.sub_self, Nat.add_zero] at kk
    exact zm_alu_ok hx hb hdg hv hI.sr (fun rs2 h9 => kk φ H locs ls rs2 zm_le.rf (hI.stack h9))
  | pop =>
    cases zm_len_of hlk (k := 1) rfl
    simp only [zm_step, Option.map_eq_some_iff] at hs
    obtain ⟨q, hv, he⟩ := hs
    cases he
    simp only [Nat.sub_self, Nat.add_zero] at kk
    exact zm_alu_ok hx hb hdg hv hI.sr (fun rs2 h9 => kk φ H locs ls rs2 zm_le.rf (hI.stack h9))
  | iconst n =>
    cases zm_len_of hlk (k := 1) rfl
    simp only [zm_step, Option.map_eq_some_iff] at hs
    obtain ⟨q, hv, he⟩ := hs
    cases he
    simp only [Nat.sub_self, Nat.add_zero] at kk
    exact zm_alu_ok hx hb hdg hv hI.sr (fun rs2 h9 => kk φ H locs ls rs2 zm_le.rf (hI.stack h9))
  | lconst n =>
    cases zm_len_of hlk (k := 1) rfl
    simp only [zm_step, Option.map_eq_some_iff] at hs
    obtain ⟨q, hv, he⟩ := hs
    cases he
    simp only [Nat.sub_self, Nat.add_zero] at kk
    exact zm_alu_ok hx hb hdg hv hI.sr (fun rs2 h9 => kk φ H locs ls rs2 zm_le.rf (hI.stack h9))
  | _ => cases hs
end ZME
