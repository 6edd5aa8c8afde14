set_option maxRecDepth 3000 in
set_option maxHeartbeats 400000 in
theorem zr_gs {h : zmH} {k : zmK} {c : zmC} : zm_get (zm_set h k c) k = some c := if_pos rfl
set_option maxRecDepth 3000 in
set_option maxHeartbeats 400000 in
theorem zr_gn {h : zmH} {k k2 : zmK} {c : zmC} (hk : ¬ k2 = k) : zm_get (zm_set h k c) k2 = zm_get h k2 := if_neg hk
set_option maxRecDepth 3000 in
set_option maxHeartbeats 400000 in
theorem zr_ng {h : zmH} {s sl : Nat} {c : zmC} : zm_get (zm_new h s c sl) (s, h.2.1 s) = some c := if_pos rfl
set_option maxRecDepth 3000 in
set_option maxHeartbeats 400000 in
theorem zr_nn {h : zmH} {s sl : Nat} {c : zmC} {k2 : zmK} (hk : ¬ k2 = (s, h.2.1 s)) : zm_get (zm_new h s c sl) k2 = zm_get h k2 := if_neg hk
set_option maxRecDepth 3000 in
set_option maxHeartbeats 400000 in
theorem zr_ss {h : zmH} {k : zmK} {c c2 : zmC} : zm_set (zm_set h k c) k c2 = zm_set h k c2 := by
  unfold zm_set
  refine congrArg (fun q => (h.1, h.2.1, q)) ?_
  funext k2
  dsimp only
  by_cases e : k2 = k
  · rw [if_pos e, if_pos e]
  · rw [if_neg e, if_neg e, if_neg e]
set_option maxRecDepth 3000 in
set_option maxHeartbeats 400000 in
theorem zr_f {h : zmH} {r : zmK} {c k : Nat} {fs : List zmV} (hg : zm_get h r = some (.inr (c, fs))) (hk : k < fs.length) : zm_isF h r c k = true := by
  unfold zm_isF
  rw [hg]
  simp [hk]
set_option maxRecDepth 3000 in
set_option maxHeartbeats 400000 in
theorem zr_q {h : zmH} {r : zmK} {c k : Nat} {fs : List zmV} (hg : zm_get h r = some (.inr (c, fs))) : zm_getF h r k = fs.getD k (.inl 0) := by
  unfold zm_getF
  rw [hg]
set_option maxRecDepth 3000 in
set_option maxHeartbeats 400000 in
theorem zr_o {h : zmH} {r : zmK} {c : Nat} {fs : List zmV} (hg : zm_get h r = some (.inr (c, fs))) : zm_isO h r c = true := by
  unfold zm_isO
  rw [hg]
  simp
set_option maxRecDepth 3000 in
set_option maxHeartbeats 400000 in
theorem zr_f41 {h : zmH} {r : zmK} {n : Nat} {a b c e : zmV} : zm_isF (zm_set h r (.inr (n, [a, b, c, e]))) r n 1 = true := zr_f zr_gs (show 1 < [a, b, c, e].length by simp)
set_option maxRecDepth 3000 in
set_option maxHeartbeats 400000 in
theorem zr_f42 {h : zmH} {r : zmK} {n : Nat} {a b c e : zmV} : zm_isF (zm_set h r (.inr (n, [a, b, c, e]))) r n 2 = true := zr_f zr_gs (show 2 < [a, b, c, e].length by simp)
set_option maxRecDepth 3000 in
set_option maxHeartbeats 400000 in
theorem zr_f43 {h : zmH} {r : zmK} {n : Nat} {a b c e : zmV} : zm_isF (zm_set h r (.inr (n, [a, b, c, e]))) r n 3 = true := zr_f zr_gs (show 3 < [a, b, c, e].length by simp)
set_option maxRecDepth 3000 in
set_option maxHeartbeats 400000 in
theorem c68 {d : Nat} {h : zmH} {r : zmK} {a b c e : zmV} {x y z : Int32} {o : zmO} (hg : zm_get h r = some (.inr (7, [a, b, c, e]))) (h8 : 8 ≤ r.1) : zm_Calls (d + 1) 68 [.inr (.inr (some r)), .inl x, .inl y, .inl z] h o ↔ o = (none, zm_set h r (.inr (7, [.inl x, .inl y, .inl z, .inl 0]))) := by
  simp only [i68, x68_0, x68_1, x68_4, x68_5, x68_6, x68_9, x68_10, x68_11, x68_14, x68_15, x68_16, x68_19, x68_20, x68_21, x68_24, h8, zr_f hg (show 0 < 4 by omega), zr_f41, zr_f42, zr_f43, zm_putF_eq hg, zm_putF_eq (zr_gs (h := h) (k := r)), zr_ss, List.set_cons_zero, List.set_cons_succ, true_and, and_self, zf_i]
set_option maxRecDepth 3000 in
set_option maxHeartbeats 400000 in
theorem zr_copy {d : Nat} {h : zmH} {r q : zmK} {a b c e : zmV} {x y z w : Int32} {o : zmO} (hg : zm_get h r = some (.inr (7, [a, b, c, e]))) (hq : zm_get h q = some (.inr (7, [.inl x, .inl y, .inl z, .inl w]))) (h8 : 8 ≤ r.1) (hn : ¬ q = r) : zm_Calls (d + 1) 91 [.inr (.inr (some r)), .inr (.inr (some q))] h o ↔ o = (none, zm_set h r (.inr (7, [.inl x, .inl y, .inl z, .inl w]))) := by
  have hq1 : ∀ c, zm_get (zm_set h r c) q = some (.inr (7, [.inl x, .inl y, .inl z, .inl w])) := fun c => by rw [zr_gn hn]; exact hq
  simp only [i91, x91_0, x91_1, x91_2, x91_5, x91_8, x91_9, x91_10, x91_13, x91_16, x91_17, x91_18, x91_21, x91_24, x91_25, x91_26, x91_29, x91_32, h8, zr_f hg (show 0 < 4 by omega), zr_f hq (show 0 < 4 by omega), zr_f (hq1 _) (show 1 < 4 by decide), zr_f (hq1 _) (show 2 < 4 by decide), zr_f (hq1 _) (show 3 < 4 by decide), zr_q hq, zr_q (hq1 _), zr_f41, zr_f42, zr_f43, zm_putF_eq hg, zm_putF_eq (zr_gs (h := h) (k := r)), zr_ss, List.set_cons_zero, List.set_cons_succ, List.getD_cons_zero, List.getD_cons_succ, true_and, and_self, zf_i]
set_option maxRecDepth 3000 in
set_option maxHeartbeats 400000 in
theorem zr_a {h : zmH} {r : zmK} {ty : FieldType} {n : Nat} {f : Nat → Int32} (hg : zm_get h r = some (.inl (ty, n, .inl f))) : zm_isA h r = true := by
  unfold zm_isA
  rw [hg]
set_option maxRecDepth 3000 in
set_option maxHeartbeats 400000 in
theorem zr_l {h : zmH} {r : zmK} {ty : FieldType} {n : Nat} {f : Nat → Int32} (hg : zm_get h r = some (.inl (ty, n, .inl f))) : zm_len h r = nI n := by
  unfold zm_len
  rw [hg]
  rfl
set_option maxRecDepth 3000 in
set_option maxHeartbeats 400000 in
theorem zr_i {h : zmH} {r : zmK} {ty : FieldType} {n j : Nat} {f : Nat → Int32} (hg : zm_get h r = some (.inl (ty, n, .inl f))) (hj : j < n) (hn : n ≤ 1000) : zm_inI h r ty (nI j) = true := by
  unfold zm_inI
  rw [hg]
  have h1 : ¬ (nI j < 0 ∨ n ≤ (nI j).toNatClampNeg) := z_nin hj hn
  have h2 : n < 2147483648 := by omega
  simp only [decide_true, Bool.true_and, h1, not_false_eq_true, h2, Bool.and_true]
set_option maxRecDepth 3000 in
set_option maxHeartbeats 400000 in
theorem zr_st {h : zmH} {r : zmK} {ty : FieldType} {n : Nat} {x y : Int32} {f : Nat → Int32} (hg : zm_get h r = some (.inl (ty, n, .inl f))) : zm_stI h r x y = zm_set h r (.inl (ty, n, .inl (upd f x.toNatClampNeg y))) := by
  unfold zm_stI
  rw [hg]
def zfl (f : Nat → Int32) (v : Int32) (j : Nat) : Nat → Int32 := fun k => if k < j then v else f k
set_option maxRecDepth 3000 in
set_option maxHeartbeats 400000 in
theorem zfl_s {f : Nat → Int32} {v : Int32} {j : Nat} : upd (zfl f v j) j v = zfl f v (j + 1) := by
  funext k
  unfold upd zfl
  by_cases h : k = j
  · rw [if_pos h, if_pos (by omega)]
  · rw [if_neg h]
    by_cases h2 : k < j
    · rw [if_pos h2, if_pos (by omega)]
    · rw [if_neg h2, if_neg (by omega)]
set_option maxRecDepth 3000 in
set_option maxHeartbeats 400000 in
theorem l_fill {d n : Nat} {h : zmH} {r : zmK} {v : Int32} {f : Nat → Int32} {o : zmO} (hn : n ≤ 1000) (h8 : 8 ≤ r.1) : ∀ (k j : Nat), j + k = n → (zm_E (zm_Calls d) 69 5 [some (.inr (.inr (some r))), some (.inl v), some (.inl (nI j)), some (.inl (nI n))] [] (zm_set h r (.inl (.int, n, .inl (zfl f v j)))) o ↔ o = (none, zm_set h r (.inl (.int, n, .inl (zfl f v n))))) := by
  intro k
  induction k with
  | zero =>
    intro j hj
    have hj : j = n := by omega
    subst hj
    rw [x69_5]
    simp only [↓reduceIte, x69_0, x69_1, x69_2, x69_3, x69_4, x69_6, x69_7, x69_10, x69_11, x69_12, x69_13, x69_14, x69_17, x69_20, (eq_false (fun q => absurd ((nI_ltI (by omega) (by omega)).mp q) (Nat.lt_irrefl j)) : (nI j < nI j) = False)]
  | succ k ih =>
    intro j hj
    have h3 := ih (j + 1) (by omega)
    have hjn : nI j < nI n := (nI_ltI (by omega) (by omega)).mpr (by omega)
    have e : (nI j).toNatClampNeg = j := nI_clamp (by omega)
    rw [← zfl_s] at h3
    rw [x69_5]
    simp only [↓reduceIte, x69_0, x69_1, x69_2, x69_3, x69_4, x69_6, x69_7, x69_10, x69_11, x69_12, x69_13, x69_14, x69_17, x69_20, hjn, zr_i (zr_gs (h := h) (k := r) (c := .inl (.int, n, .inl (zfl f v j)))) (show j < n by omega) hn, zr_st (zr_gs (h := h) (k := r) (c := .inl (.int, n, .inl (zfl f v j)))), e, zr_ss, h8, true_and, nI_1, h3]
set_option maxRecDepth 3000 in
set_option maxHeartbeats 400000 in
theorem zr_same {h : zmH} {k : zmK} {c : zmC} (hg : zm_get h k = some c) : zm_set h k c = h := by
  unfold zm_set
  show _ = (h.1, h.2.1, h.2.2)
  refine congrArg (fun q => (h.1, h.2.1, q)) ?_
  funext k2
  by_cases e : k2 = k
  · rw [if_pos e, e]; exact hg.symm
  · rw [if_neg e]
set_option maxRecDepth 3000 in
set_option maxHeartbeats 400000 in
theorem c69 {d n : Nat} {h : zmH} {r : zmK} {v : Int32} {f : Nat → Int32} {o : zmO} (hg : zm_get h r = some (.inl (.int, n, .inl f))) (hn : n ≤ 1000) (h8 : 8 ≤ r.1) : zm_Calls (d + 1) 69 [.inr (.inr (some r)), .inl v] h o ↔ o = (none, zm_set h r (.inl (.int, n, .inl (zfl f v n)))) := by
  have h1 := l_fill (d := d) (h := h) (r := r) (v := v) (f := f) (o := o) hn h8 n 0 (by omega)
  have e0 : zfl f v 0 = f := by
    funext k
    unfold zfl
    rw [if_neg (Nat.not_lt_zero k)]
  rw [e0, nI_0, zr_same hg] at h1
  simp only [i69, x69_0, x69_1, x69_2, x69_3, x69_4, x69_6, x69_7, x69_10, x69_11, x69_12, x69_13, x69_14, x69_17, x69_20, zr_a hg, zr_l hg, true_and, h1]
set_option maxRecDepth 3000 in
set_option maxHeartbeats 400000 in
theorem zc_tag {G H : zG} (e1 : H.2.2.1 = G.2.2.1) (e2 : H.2.2.2.1 = G.2.2.2.1) (e3 : True) : ∀ j, j ≠ 4 → j ≠ 30 → j ≠ 38 → (zcL H).getD j (fun _ _ => none) = (zcL G).getD j (fun _ _ => none) := by
  intro j h12 h38 h46
  match j with
  | 0 => rfl
  | 1 => rfl
  | 2 => 
    show zc10 H = zc10 G
    unfold zc10
    simp only [e1, e2, e3]
  | 3 => 
    show zc11 H = zc11 G
    unfold zc11
    simp only [e1, e2, e3]
  | 4 => exact absurd rfl h12
  | 5 => rfl
  | 6 => rfl
  | 7 => rfl
  | 8 => rfl
  | 9 => rfl
  | 10 => rfl
  | 11 => rfl
  | 12 => rfl
  | 13 => rfl
  | 14 => rfl
  | 15 => rfl
  | 16 => rfl
  | 17 => rfl
  | 18 => rfl
  | 19 => rfl
  | 20 => rfl
  | 21 => rfl
  | 22 => rfl
  | 23 => rfl
  | 24 => rfl
  | 25 => rfl
  | 26 => rfl
  | 27 => rfl
  | 28 => rfl
  | 29 => 
    show zc37 H = zc37 G
    unfold zc37
    simp only [e1, e2, e3]
  | 30 => exact absurd rfl h38
  | 31 => rfl
  | 32 => rfl
  | 33 => 
    show zc41 H = zc41 G
    unfold zc41
    simp only [e1, e2, e3]
  | 34 => 
    show zc42 H = zc42 G
    unfold zc42
    simp only [e1, e2, e3]
  | 35 => 
    show zc43 H = zc43 G
    unfold zc43
    simp only [e1, e2, e3]
  | 36 => 
    show zc44 H = zc44 G
    unfold zc44
    simp only [e1, e2, e3]
  | 37 => 
    show zc45 H = zc45 G
    unfold zc45
    simp only [e1, e2, e3]
  | 38 => exact absurd rfl h46
  | n + 39 => rfl
set_option maxRecDepth 3000 in
set_option maxHeartbeats 400000 in
theorem zc_pack {G H : zG} (e1 : H.2.2.2.1 = G.2.2.2.1) (e2 : H.2.2.2.2 = G.2.2.2.2) (e3 : True) : ∀ j, j ≠ 2 → j ≠ 29 → j ≠ 33 → j ≠ 34 → j ≠ 35 → j ≠ 36 → (zcL H).getD j (fun _ _ => none) = (zcL G).getD j (fun _ _ => none) := by
  intro j h10 h37 h41 h42 h43 h44
  match j with
  | 0 => rfl
  | 1 => rfl
  | 2 => exact absurd rfl h10
  | 3 => 
    show zc11 H = zc11 G
    unfold zc11
    simp only [e1, e2, e3]
  | 4 => 
    show zc12 H = zc12 G
    unfold zc12
    simp only [e1, e2, e3]
  | 5 => rfl
  | 6 => rfl
  | 7 => rfl
  | 8 => rfl
  | 9 => rfl
  | 10 => rfl
  | 11 => rfl
  | 12 => rfl
  | 13 => rfl
  | 14 => rfl
  | 15 => rfl
  | 16 => rfl
  | 17 => rfl
  | 18 => rfl
  | 19 => rfl
  | 20 => rfl
  | 21 => rfl
  | 22 => rfl
  | 23 => rfl
  | 24 => rfl
  | 25 => rfl
  | 26 => rfl
  | 27 => rfl
  | 28 => rfl
  | 29 => exact absurd rfl h37
  | 30 => 
    show zc38 H = zc38 G
    unfold zc38
    simp only [e1, e2, e3]
  | 31 => rfl
  | 32 => rfl
  | 33 => exact absurd rfl h41
  | 34 => exact absurd rfl h42
  | 35 => exact absurd rfl h43
  | 36 => exact absurd rfl h44
  | 37 => 
    show zc45 H = zc45 G
    unfold zc45
    simp only [e1, e2, e3]
  | 38 => 
    show zc46 H = zc46 G
    unfold zc46
    simp only [e1, e2, e3]
  | n + 39 => rfl
set_option maxRecDepth 3000 in
set_option maxHeartbeats 400000 in
theorem zc_chg {G H : zG} (e1 : H.2.2.1 = G.2.2.1) (e2 : H.2.2.2.2 = G.2.2.2.2) (e3 : True) : ∀ j, j ≠ 3 → j ≠ 37 → (zcL H).getD j (fun _ _ => none) = (zcL G).getD j (fun _ _ => none) := by
  intro j h11 h45
  match j with
  | 0 => rfl
  | 1 => rfl
  | 2 => 
    show zc10 H = zc10 G
    unfold zc10
    simp only [e1, e2, e3]
  | 3 => exact absurd rfl h11
  | 4 => 
    show zc12 H = zc12 G
    unfold zc12
    simp only [e1, e2, e3]
  | 5 => rfl
  | 6 => rfl
  | 7 => rfl
  | 8 => rfl
  | 9 => rfl
  | 10 => rfl
  | 11 => rfl
  | 12 => rfl
  | 13 => rfl
  | 14 => rfl
  | 15 => rfl
  | 16 => rfl
  | 17 => rfl
  | 18 => rfl
  | 19 => rfl
  | 20 => rfl
  | 21 => rfl
  | 22 => rfl
  | 23 => rfl
  | 24 => rfl
  | 25 => rfl
  | 26 => rfl
  | 27 => rfl
  | 28 => rfl
  | 29 => 
    show zc37 H = zc37 G
    unfold zc37
    simp only [e1, e2, e3]
  | 30 => 
    show zc38 H = zc38 G
    unfold zc38
    simp only [e1, e2, e3]
  | 31 => rfl
  | 32 => rfl
  | 33 => 
    show zc41 H = zc41 G
    unfold zc41
    simp only [e1, e2, e3]
  | 34 => 
    show zc42 H = zc42 G
    unfold zc42
    simp only [e1, e2, e3]
  | 35 => 
    show zc43 H = zc43 G
    unfold zc43
    simp only [e1, e2, e3]
  | 36 => 
    show zc44 H = zc44 G
    unfold zc44
    simp only [e1, e2, e3]
  | 37 => exact absurd rfl h45
  | 38 => 
    show zc46 H = zc46 G
    unfold zc46
    simp only [e1, e2, e3]
  | n + 39 => rfl
set_option maxRecDepth 3000 in
set_option maxHeartbeats 400000 in
theorem zh_eq {G : zG} {σ : zR} {h : zmH} (hc : h.1 = G.2.1) (hn : ∀ s, h.2.1 s = zn G s) (hk : ∀ s i, 8 ≤ s → zm_get h (s, i) = zc G s i (σ s i)) (hr : ∀ k : zmK, k.1 < 8 → zm_get h k = zs_ro G.1.1 G.1.2 k) : h = zh G σ := by
  show (h.1, h.2.1, h.2.2) = _
  unfold zh
  rw [hc, show h.2.1 = zn G from funext hn]
  refine congrArg (fun q => (G.2.1, zn G, q)) ?_
  funext k
  obtain ⟨k1, k2⟩ := k
  by_cases h8 : k1 < 8
  · rw [if_pos h8]; exact hr (k1, k2) h8
  · rw [if_neg h8]; exact hk k1 k2 (by omega)
