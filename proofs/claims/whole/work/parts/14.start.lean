def zs_tm (i : Nat) : Term := .string "BumpNotes$Reader" (([57, 59, 61, 63, 65, 67, 73] : List Nat).getD i 0)
def zs_len : List Nat := [4, 3, 4, 4, 4, 5, 8]
def zs_byt : List (List Int32) := [[102, 101, 97, 116], [102, 105, 120], [112, 101, 114, 102], [100, 111, 99, 115], [116, 101, 115, 116], [99, 104, 111, 114, 101], [66, 82, 69, 65, 75, 73, 78, 71]]
def zs_wt : List Int32 := [2, 1, 1, 0, 0, 0]
def zs_ro (L : Nat) (xs : Nat → Int32) (k : zmK) : Option zmC :=
  if k.1 = 0 then (if k.2 = 0 then some (.inl (.int, L, .inl xs)) else none)
  else if k.1 = 1 then (if k.2 < 7 then some (.inr (99, [.inr (.inr (some (2, k.2))), .inl 0])) else none)
  else if k.1 = 2 then (if k.2 < 7 then some (.inl (.byte, zs_len.getD k.2 0, .inl fun j => (zs_byt.getD k.2 []).getD j 0)) else none)
  else if k.1 = 3 then (if k.2 = 0 then some (.inl (.int, 6, .inl fun j => zs_wt.getD j 0)) else none)
  else none
def zs_h0 (L : Nat) (xs : Nat → Int32) : zmH := ((0, 0), fun _ => 0, zs_ro L xs)
def zs_phi (b tw : Nat) (adK adV : Nat → Nat) (k : zmK) : Option Nat :=
  if k.1 = 0 then some b else if k.1 = 1 then some (adK k.2) else if k.1 = 2 then some (adV k.2) else if k.1 = 3 then some tw else none
abbrev zs_F : List Cond := flatC (Jvm.Cond.and given_1 narrow_1)
theorem zs_ex : ∀ i, i < 7 → Cond.exactly (zs_tm i) "java/lang/String" ∈ zs_F := by decide +kernel
theorem zs_co : ∀ i, i < 7 → Cond.eq (.field (zs_tm i) "java/lang/String" "coder" "B") (.int 0) ∈ zs_F := by decide +kernel
theorem zs_ar : ∀ i, i < 7 → Cond.arrayOf (.field (zs_tm i) "java/lang/String" "value" "[B") .byte ∈ zs_F := by decide +kernel
theorem zs_le : ∀ i, i < 7 → Cond.eq (.length (.field (zs_tm i) "java/lang/String" "value" "[B")) (.int (Int32.ofNat (zs_len.getD i 0))) ∈ zs_F := by decide +kernel
theorem zs_el : ∀ i, i < 7 → ∀ j, j < zs_len.getD i 0 → Cond.eq (.elem (.field (zs_tm i) "java/lang/String" "value" "[B") (.int (Int32.ofNat j))) (.int ((zs_byt.getD i []).getD j 0)) ∈ zs_F := by decide +kernel
theorem zs_ne : ∀ i, i < 7 → ∀ j, j < 7 → i ≠ j → Cond.not (Cond.eq (zs_tm i) (zs_tm j)) ∈ zs_F ∨ Cond.not (Cond.eq (zs_tm j) (zs_tm i)) ∈ zs_F := by decide +kernel
theorem zs_wl : Cond.arrayOf (.static "BumpNotes" "WEIGHT_OF_KIND" "[I") .int ∈ zs_F ∧ Cond.eq (.length (.static "BumpNotes" "WEIGHT_OF_KIND" "[I")) (.int (Int32.ofNat 6)) ∈ zs_F ∧ ∀ j, j < 6 → Cond.eq (.elem (.static "BumpNotes" "WEIGHT_OF_KIND" "[I") (.int (Int32.ofNat j))) (.int (zs_wt.getD j 0)) ∈ zs_F := by decide +kernel
theorem zs_st : Cond.eq (.static "java/lang/String" "COMPACT_STRINGS" "Z") (.int 1) ∈ zs_F ∧ Cond.isRef (.static "jdk/internal/util/Preconditions" "SIOOBE_FORMATTER" "Ljava/util/function/BiFunction;") ∈ zs_F := by decide +kernel
theorem zs_w1 : Cond.laysStatic "BumpNotes" "WEIGHT_OF_KIND" "[I" ∈ lw_tbl ∧ Cond.initialized "BumpNotes" ∈ lw_tbl ∧ Cond.laysStatic "java/lang/String" "COMPACT_STRINGS" "Z" ∈ lw_tbl ∧ Cond.initialized "java/lang/String" ∈ lw_tbl ∧ Cond.laysStatic "jdk/internal/util/Preconditions" "SIOOBE_FORMATTER" "Ljava/util/function/BiFunction;" ∈ lw_tbl ∧ Cond.initialized "jdk/internal/util/Preconditions" ∈ lw_tbl := by
  exact ⟨List.mem_of_getElem? (i := 351) (by decide +kernel), List.mem_of_getElem? (i := 33) (by decide +kernel), List.mem_of_getElem? (i := 290) (by decide +kernel), List.mem_of_getElem? (i := 42) (by decide +kernel), List.mem_of_getElem? (i := 310) (by decide +kernel), List.mem_of_getElem? (i := 44) (by decide +kernel)⟩
theorem zs_sr : ∀ q ∈ zt_strL, Cond.stringRef (zt_cls q.1) q.2.1 q.2.2.1 ∈ lw_tbl := by
  intro q hq
  have h1 : Cond.stringRef (zt_cls q.1) q.2.1 q.2.2.1 ∈ zt_strL.map fun q => Cond.stringRef (zt_cls q.1) q.2.1 q.2.2.1 := List.mem_map.mpr ⟨q, hq, rfl⟩
  exact zt_plin [271, 272, 273, 274, 275, 276, 346] (by decide +kernel) _ h1
theorem zs_sk : ∀ q ∈ zt_strL, q.2.2.2.1 = 1 ∧ q.2.2.2.2 < 7 ∧ Term.string (zt_cls q.1) q.2.1 = zs_tm q.2.2.2.2 := by decide +kernel
theorem zs_ao : ∀ C ∈ zt_AO, Cond.arrayOver (.object C) ∈ lw_tbl := by
  intro q hq
  have h1 : Cond.arrayOver (.object q) ∈ zt_AO.map fun C => Cond.arrayOver (.object C) := List.mem_map.mpr ⟨q, hq, rfl⟩
  exact zt_plin [57, 59, 61] (by decide +kernel) _ h1
theorem zs_nm : ∀ q ∈ zt_NM, Cond.methodLinkNest q.1 q.2.1 q.2.2.1 q.2.2.2 ∈ lw_tbl := by
  intro q hq
  have h1 : Cond.methodLinkNest q.1 q.2.1 q.2.2.1 q.2.2.2 ∈ zt_NM.map fun q => Cond.methodLinkNest q.1 q.2.1 q.2.2.1 q.2.2.2 := List.mem_map.mpr ⟨q, hq, rfl⟩
  exact zt_plin [64, 78] (by decide +kernel) _ h1
theorem zs_nf : ∀ q ∈ zt_NF, Cond.fieldLinkNest q.1 q.2.1 q.2.2.1 q.2.2.2.1 q.2.2.2.2.1 q.2.2.2.2.2 ∈ lw_tbl := by
  intro q hq
  have h1 : Cond.fieldLinkNest q.1 q.2.1 q.2.2.1 q.2.2.2.1 q.2.2.2.2.1 q.2.2.2.2.2 ∈ zt_NF.map fun q => Cond.fieldLinkNest q.1 q.2.1 q.2.2.1 q.2.2.2.1 q.2.2.2.2.1 q.2.2.2.2.2 := List.mem_map.mpr ⟨q, hq, rfl⟩
  exact zt_plin [350] (by decide +kernel) _ h1
theorem zs_gs : ∀ q ∈ zt_statL, q = ("BumpNotes", "WEIGHT_OF_KIND", "[I", .inr (.inr (some (3, 0)))) ∨ q = ("java/lang/String", "COMPACT_STRINGS", "Z", .inl 1) ∨ q = ("jdk/internal/util/Preconditions", "SIOOBE_FORMATTER", "Ljava/util/function/BiFunction;", .inr (.inr (some (7, 0)))) := by
  intro q hq
  have h : zt_statL = [("BumpNotes", "WEIGHT_OF_KIND", "[I", .inr (.inr (some (3, 0)))), ("java/lang/String", "COMPACT_STRINGS", "Z", .inl 1), ("jdk/internal/util/Preconditions", "SIOOBE_FORMATTER", "Ljava/util/function/BiFunction;", .inr (.inr (some (7, 0))))] := rfl
  rw [h] at hq
  simp only [List.mem_cons, List.not_mem_nil, or_false] at hq
  exact hq
theorem zs_inst : ∀ ci, ci < zt_clL.length → Cond.instantiable (zt_cn ci) (zt_fs ci).length ∈ lw_tbl := by
  intro ci hc
  have h1 : Cond.instantiable (zt_cn ci) (zt_fs ci).length ∈ zt_clL.map fun q => Cond.instantiable q.1 q.2.length := List.mem_map.mpr ⟨(zt_cn ci, zt_fs ci), (zt_clp hc).2, rfl⟩
  exact zt_plin [49, 580, 63, 77, 96, 156, 564, 162, 352] (by decide +kernel) _ h1
section ZS
variable {p : Program} {e : Env} {s : State} {m : MethodId} {below : List Frame} {meth : Method} {c : Code} {b L : Nat} {xs : Nat → Int32}
theorem zs_rop (C0 : lw_At p s m meth c b L xs) : ∃ (tw : Nat) (adK adV : Nat → Nat), zm_ro (zs_phi b tw adK adV) (fun q => s.heap.size ≤ q) s (zs_h0 L xs) := by
  obtain ⟨hx, hb, hr, hml, hown, hts, hX, hbl, hlocks, hgv⟩ := C0
  have hF : ∀ w ∈ zs_F, w.before #[Value.ref b] s = true := flat_of_before _ hgv
  have hA : ∀ a : Nat, a < s.heap.size → ¬ s.heap.size ≤ a := fun a h => Nat.not_le.mpr h
  obtain ⟨w1, w2, w3, w4, w5, w6⟩ := zs_w1
  obtain ⟨tw, htw, hTw⟩ := va_Tof (args := #[Value.ref b]) (tm := .static "BumpNotes" "WEIGHT_OF_KIND" "[I") (ty := .int) (N := 6) (f := fun j => .int (zs_wt.getD j 0)) (A := fun q => s.heap.size ≤ q) (by decide) (hF _ zs_wl.1) (va_eqt (hF _ zs_wl.2.1)) (fun j hj => va_eqt (hF _ (zs_wl.2.2 j hj))) hA
  obtain ⟨adK, adV, hS, hev⟩ := vk_Sof (args := #[Value.ref b]) (s := s) (N := 7) (tm := zs_tm) (len := zs_len) (byt := zs_byt) (A := fun q => s.heap.size ≤ q) (by decide) (fun i hi => hF _ (zs_ex i hi)) (fun i hi => hF _ (zs_co i hi)) (fun i hi => hF _ (zs_ar i hi)) (fun i hi => hF _ (zs_le i hi)) (fun i hi j hj => hF _ (zs_el i hi j hj)) (fun i j hi hj hij => (zs_ne i hi j hj hij).imp (hF _) (hF _)) hA
  refine ⟨tw, adK, adV, ?_, ?_, ?_, ?_, ?_, fun C hC => va_AO.of (hts _ (zs_ao C hC)), fun q hq => va_Nw.of rfl (hts _ (zs_nm q hq)), fun q hq => va_Nw.of rfl (hts _ (zs_nf q hq)), ?_⟩
  · rintro ⟨k1, k2⟩ ty n f h8 hk
    have hk : zs_ro L xs (k1, k2) = some (.inl (ty, n, .inl f)) := hk
    unfold zs_ro at hk
    unfold zs_phi
    dsimp only at hk ⊢
    by_cases e0 : k1 = 0
    · rw [if_pos e0] at hk ⊢
      split at hk
      · cases hk
        obtain ⟨scr, g1, g2, g3, g4, g5⟩ := hX
        refine ⟨b, rfl, scr, g1, g2, g3, by omega, ?_, g5, hA b hbl⟩
        rw [g4]
      · cases hk
    · rw [if_neg e0] at hk ⊢
      by_cases e1 : k1 = 1
      · rw [if_pos e1] at hk
        split at hk <;> cases hk
      · rw [if_neg e1] at hk ⊢
        by_cases e2 : k1 = 2
        · rw [if_pos e2] at hk ⊢
          split at hk
          · next h7 =>
            cases hk
            exact ⟨adV k2, rfl, (hS.1 k2 h7).2.2.2⟩
          · cases hk
        · rw [if_neg e2] at hk ⊢
          by_cases e3 : k1 = 3
          · rw [if_pos e3] at hk ⊢
            split at hk
            · cases hk
              exact ⟨tw, rfl, hTw⟩
            · cases hk
          · rw [if_neg e3] at hk
            cases hk
  · rintro ⟨k1, k2⟩ ty n f h8 hk
    have hk : zs_ro L xs (k1, k2) = some (.inl (ty, n, .inr f)) := hk
    unfold zs_ro at hk
    dsimp only at hk
    repeat' split at hk
    all_goals cases hk
  · rintro ⟨k1, k2⟩ ci fs h8 hk
    have hk : zs_ro L xs (k1, k2) = some (.inr (ci, fs)) := hk
    unfold zs_ro at hk
    dsimp only at hk
    by_cases e0 : k1 = 0
    · rw [if_pos e0] at hk
      split at hk <;> cases hk
    · rw [if_neg e0] at hk
      by_cases e1 : k1 = 1
      · rw [if_pos e1] at hk
        split at hk
        · next h7 =>
          cases hk
          subst e1
          obtain ⟨g1, g2, g3, g4⟩ := hS.1 k2 h7
          refine ⟨rfl, adK k2, rfl, g1, fun j v hv => ?_⟩
          match j, hv with
          | 0, hv =>
            cases hv
            exact ⟨.ref (adV k2), Or.inr ⟨adV k2, rfl, rfl⟩, g3⟩
          | 1, hv =>
            cases hv
            exact ⟨.int 0, rfl, g2⟩
          | j + 2, hv => simp at hv
        · cases hk
      · rw [if_neg e1] at hk
        repeat' split at hk
        all_goals cases hk
  · intro q hq
    rcases zs_gs q hq with rfl | rfl | rfl
    · exact ⟨.ref tw, Or.inr ⟨tw, rfl, rfl⟩, va_Zof (hts _ w1) (hts _ w2) htw hA⟩
    · exact ⟨.int 1, rfl, va_Zof (hts _ w3) (hts _ w4) (va_eqi (hF _ zs_st.1)) hA⟩
    · rcases va_Zqof (hts _ w5) (hts _ w6) (hF _ zs_st.2) hA with h | ⟨t, h⟩
      · exact ⟨.null, Or.inl ⟨rfl, Or.inl rfl⟩, h⟩
      · exact ⟨.ref t, Or.inl ⟨rfl, Or.inr ⟨t, rfl⟩⟩, h⟩
  · intro q hq
    obtain ⟨g1, g2, g3⟩ := zs_sk q hq
    refine ⟨adK q.2.2.2.2, ?_, vk_R.of (hts _ (zs_sr q hq)) (by rw [g3]; exact hev _ g2)⟩
    unfold zs_phi
    rw [g1]
    rfl
  · rintro ⟨k1, k2⟩ h7
    cases (show k1 = 7 from h7)
    rfl
set_option maxHeartbeats 4000000 in
theorem zs_start (l : Launch) {h1 : zmH} (C0 : lw_At p s m meth c b L xs) (hr : zm_Calls 12 0 [.inr (.inr (some (0, 0)))] (zs_h0 L xs) (some (.inl 1), h1)) (hc1 : h1.1.1 ≤ 600000) (hs1 : h1.1.2 ≤ 7302250) : W p l e room_1 s m #[Value.ref b] below meth c s.heap [] 0 0 (lw_Z below #[Value.ref b] s) (entryFrame m ([Value.ref b] : List Value).toArray 4) := by
  obtain ⟨tw, adK, adV, hro⟩ := zs_rop C0
  obtain ⟨hx, hb, hret, hml, hown, hts, hX, hbl, hlocks, hgv⟩ := C0
  have hA : ∀ q : Nat, s.heap.size ≤ q → (fun q : Nat => s.heap.size ≤ q) q := fun _ h => h
  have hT : ∀ w ∈ zt_T, w.before #[Value.ref b] s = true := fun w hw => hts w (zt_T_in w hw)
  have hkn : ∀ ci, ∃ q : ClassId × (Nat → Nat), ci < zt_clL.length → u_Kn s (zt_cn ci) (zt_uT (zt_cn ci) (zt_fs ci)) (zt_fs ci).length q.1 q.2 := by
    intro ci
    by_cases hc : ci < zt_clL.length
    · obtain ⟨cC, iS, h⟩ := u_known (C := zt_cn ci) (T := zt_uT (zt_cn ci) (zt_fs ci)) (N := (zt_fs ci).length) hT (zt_uws hc) (hts _ (zs_inst ci hc))
      exact ⟨(cC, iS), fun _ => h⟩
    · exact ⟨(m.cls, fun _ => 0), fun h => absurd h hc⟩
  obtain ⟨dk, hdk⟩ := Classical.axiomOfChoice hkn
  have hK : va_K (fun i => (dk i).1, fun i => (dk i).2) zt_cl [] s := by
    refine ⟨fun ci q hq => ?_, fun k q h => by simp at h⟩
    have hlt : ci < zt_clL.length := (List.getElem?_eq_some_iff.mp (zt_cl_at hq).1).1
    rw [(zt_cl_at hq).2]
    exact hdk ci hlt
  have hP : va_P (fun i => (dk i).1, fun i => (dk i).2) zt_cl [] s.heap := fun k q h => by simp at h
  have hD : va_D (fun q : Nat => s.heap.size ≤ q) [] := ⟨fun i j p q h => by simp at h, fun k q h => by simp at h⟩
  have hS : va_S (fun q : Nat => s.heap.size ≤ q) s.heap s.heap [] := va_S.rf
  have hl := lv_entry ([.ref b]) (n := 4) (Nat.le_of_ble_eq_true rfl)
  rw [lg_entry_eq]
  generalize (lg_sl ([.ref b]) ++ List.replicate (4 - (lg_sl ([.ref b])).length) Slot.unset).toArray = ls at hl ⊢
  have hl : lv_has ls 4 [(0, .ref b)] := hl
  have X : zm_Cx p s m #[Value.ref b] meth c (fun q : Nat => s.heap.size ≤ q) 0 := ⟨hx, hb, hret, hml, hown, hT, hlocks, (fun h => by cases h), hA⟩
  have hg8 : ∀ k : zmK, 8 ≤ k.1 → zm_get (zs_h0 L xs) k = none := by
    rintro ⟨k1, k2⟩ h8
    have h8 : 8 ≤ k1 := h8
    show zs_ro L xs (k1, k2) = none
    unfold zs_ro
    dsimp only
    rw [if_neg (by omega), if_neg (by omega), if_neg (by omega), if_neg (by omega)]
  have hp8 : ∀ k : zmK, 8 ≤ k.1 → zs_phi b tw adK adV k = none := by
    rintro ⟨k1, k2⟩ h8
    have h8 : 8 ≤ k1 := h8
    unfold zs_phi
    dsimp only
    rw [if_neg (by omega), if_neg (by omega), if_neg (by omega), if_neg (by omega)]
  obtain ⟨hlay, n, hn⟩ := hr
  have hI : zm_I (fun i => (dk i).1, fun i => (dk i).2) (fun q : Nat => s.heap.size ≤ q) s 0 (zs_phi b tw adK adV) (zm_ini 0 [.inr (.inr (some (0, 0)))]) [] (zs_h0 L xs) s.heap [] ls [] := by
    refine ⟨[], [], [(0, .ref b)], hK, hP, hD, hS, ⟨fun k c hk h8 => ?_, fun k a hk h8 => ?_, fun k k2 a hk hk2 h8 h82 => ?_⟩, hro, hl, rfl, ⟨fun i v hv => ?_, fun q hq hc => ?_⟩, rfl⟩
    · rw [hg8 k h8] at hk; cases hk
    · rw [hp8 k h8] at hk; cases hk
    · rw [hp8 k h8] at hk; cases hk
    · match i, hv with
      | 0, hv =>
        cases hv
        exact ⟨.ref b, List.mem_cons_self, Or.inr ⟨b, rfl, rfl⟩⟩
      | i + 1, hv =>
        exfalso
        have : (zm_ini 0 [.inr (.inr (some (0, 0)))])[i + 1]? = (List.replicate 3 (none : Option zmV))[i]? := rfl
        rw [this, List.getElem?_replicate] at hv
        split at hv <;> simp at hv
    · rw [List.mem_singleton.mp hq] at hc
      cases hc
  refine zm_body (d := 11) (zm_sound 11) X ⟨by decide, by decide⟩ n 0 _ [] (zs_h0 L xs) (some (.inl 1), h1) hn (zs_phi b tw adK adV) s.heap [] ls [] 0 0 hI (by show 0 + (h1.1.1 - 0) ≤ 600000; omega) (by show 0 + (h1.1.2 - 0) ≤ 7302250; omega) ?_
  intro φ2 H2 locs2 ls2 rs2 pc2 i2 L2 st2 hle hf hret2 hI2
  obtain ⟨len, hdg, hlk⟩ := zt_fetch_ok hf
  obtain ⟨ws2, tys2, lv2, hK2, hP2, hD2, hS2, hH2, hro2, hl2, hL2, hlr2, hst2⟩ := hI2
  refine va_forget (fun q hq => hS2.2.2 q hq) ?_
  refine W.widen (k := 600000) (n := 7302250) (by show 0 + (h1.1.1 - 0) ≤ 600000; omega) (by show 0 + (h1.1.2 - 0) ≤ 7302250; omega) ?_
  cases i2 with
  | ireturn =>
    cases zm_len_of hlk (k := 1) rfl
    simp only [zm_ret] at hret2
    split at hret2
    · next x ty hty =>
      split at hret2
      · next hfit =>
        have ho : x = 1 := by
          have := Option.some.inj (Option.some.inj hret2)
          exact Sum.inl.inj this
        subst ho
        obtain ⟨w, r, rfl, hw, hr0⟩ := hst2
        cases (show r = [] from hr0)
        cases (show w = .int 1 from hw)
        exact lw_ret hx hb hret hlocks hdg
      · cases hret2
    · cases hret2
  | areturn =>
    simp only [zm_ret] at hret2
    split at hret2
    · next q cn hty => cases hty
    · cases hret2
  | return_ =>
    simp only [zm_ret] at hret2
    split at hret2
    · cases hret2
    · cases hret2
  | _ => cases hret2
end ZS
