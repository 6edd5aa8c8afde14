theorem z_vin {v : Int32} {n : Nat} (h : vp_in v n) (hn : n < 2147483648) : ∃ p, p < n ∧ v = nI p := by
  obtain ⟨j, h1, h2⟩ := vp_in_of h hn
  exact ⟨j, h1, h2⟩
theorem z_nin {p n : Nat} (h : p < n) (hn : n ≤ 1000) : vp_in (nI p) n := vp_in_nI h (by omega)
theorem z_cl {p : Nat} (h : p < 1000) : (nI p).toNatClampNeg = p := nI_clamp (by omega)
theorem z_not0 {p : Nat} (h : p < 1000) : ¬ nI p < 0 := nI_pos (by omega)
theorem z_ltn {p n : Nat} {x : Int32} (hx : x = nI n) (h : p < n) (hn : n ≤ 1000) : nI p < x := by
  rw [hx]
  exact (nI_ltI (by omega) (by omega)).mpr h
theorem z_out {v : Int32} {n m : Nat} (h : ¬ vp_in v n) (hm : vp_in v m) (hmm : m ≤ 1000) : ¬ v.toNatClampNeg < n ∧ ∃ p, p < m ∧ v = nI p := by
  obtain ⟨p, h1, rfl⟩ := z_vin hm (by omega)
  refine ⟨fun q => ?_, p, h1, rfl⟩
  rw [z_cl (by omega)] at q
  exact h (z_nin q (by
    rcases Nat.lt_or_ge n 1001 with h2 | h2
    · omega
    · exact absurd (vp_in_iff.mpr ⟨by rw [nI_toInt (by omega)]; omega, by rw [nI_toInt (by omega)]; omega⟩) h))
theorem z_inlt {v : Int32} {n : Nat} {x : Int32} (hx : x = nI n) (hn : n ≤ 1000) (h0 : ¬ v < 0) (h : v < x) : vp_in v n := by
  obtain ⟨j, hj, rfl⟩ := nI_of h0
  rw [hx] at h
  exact vp_in_nI ((nI_ltI hj (by omega)).mp h) (by omega)
theorem z_inge {v : Int32} {n : Nat} {x : Int32} (hx : x = nI n) (hn : n ≤ 1000) (h : ¬ v < x) : ¬ vp_in v n := by
  intro q
  obtain ⟨j, hj, rfl⟩ := z_vin q (by omega)
  exact h (z_ltn hx hj hn)
theorem z_inneg {v : Int32} {n : Nat} (h : v < 0) : ¬ vp_in v n := fun q => q (Or.inl h)
theorem packAt_in {d p : Nat} {G : zG} {σ : zR} {o : zmO} (hp : p < G.2.2.1) (hn : G.2.2.1 ≤ 10) : zm_Calls (d + 1) 41 [.inr (.inr (some (8, 0))), .inl (nI p)] (zh G σ) o ↔ o = (some (.inr (.inr (some (37, p)))), zh G σ) := by
  rw [c41, if_neg (z_not0 (by omega)), if_pos (z_ltn (x := 10) (n := 10) rfl (by omega) (by omega)), z_cl (by omega), if_pos hp]
  exact ⟨fun q => q.2, fun q => ⟨z_nin (by omega) (by omega), q⟩⟩
theorem packAt_out {d : Nat} {v : Int32} {G : zG} {σ : zR} {o : zmO} (hv : ¬ vp_in v G.2.2.1) : zm_Calls (d + 1) 41 [.inr (.inr (some (8, 0))), .inl v] (zh G σ) o ↔ o = (some (.inr (.inr none)), zh G σ) := by
  rw [c41]
  by_cases h0 : v < 0
  · rw [if_pos h0]
  · rw [if_neg h0]
    by_cases h1 : v < 10
    · have hm := z_inlt (n := 10) rfl (by omega) h0 h1
      rw [if_pos h1, if_neg (z_out hv hm (by omega)).1]
      exact ⟨fun q => q.2, fun q => ⟨hm, q⟩⟩
    · rw [if_neg h1]
theorem changeAt_in {d p : Nat} {G : zG} {σ : zR} {o : zmO} (hp : p < G.2.2.2.1) (hn : G.2.2.2.1 ≤ 60) : zm_Calls (d + 1) 49 [.inr (.inr (some (8, 0))), .inl (nI p)] (zh G σ) o ↔ o = (some (.inr (.inr (some (45, p)))), zh G σ) := by
  rw [c49, if_neg (z_not0 (by omega)), if_pos (z_ltn (x := 60) (n := 60) rfl (by omega) (by omega)), z_cl (by omega), if_pos hp]
  exact ⟨fun q => q.2, fun q => ⟨z_nin (by omega) (by omega), q⟩⟩
theorem changeAt_out {d : Nat} {v : Int32} {G : zG} {σ : zR} {o : zmO} (hv : ¬ vp_in v G.2.2.2.1) : zm_Calls (d + 1) 49 [.inr (.inr (some (8, 0))), .inl v] (zh G σ) o ↔ o = (some (.inr (.inr none)), zh G σ) := by
  rw [c49]
  by_cases h0 : v < 0
  · rw [if_pos h0]
  · rw [if_neg h0]
    by_cases h1 : v < 60
    · have hm := z_inlt (n := 60) rfl (by omega) h0 h1
      rw [if_pos h1, if_neg (z_out hv hm (by omega)).1]
      exact ⟨fun q => q.2, fun q => ⟨hm, q⟩⟩
    · rw [if_neg h1]
theorem z_cnt {v x : Int32} {n : Nat} (hx : x = nI n) (hn : n ≤ 1000) : (¬ v < 0 ∧ ¬ x - 1 < v) ↔ vp_in v n := by
  subst hx
  constructor
  · rintro ⟨h0, h1⟩
    obtain ⟨j, hj, rfl⟩ := nI_of h0
    refine vp_in_nI (Nat.not_le.mp fun q => h1 ?_) (by omega)
    cases n with
    | zero => exact Int32.lt_of_lt_of_le (show nI 0 - 1 < 0 by decide) (nI_pos' hj)
    | succ n =>
      rw [nI_pred]
      exact (nI_ltI (by omega) hj).mpr (by omega)
  · intro h
    obtain ⟨j, hj, rfl⟩ := z_vin h (by omega)
    refine ⟨nI_pos (by omega), fun q => ?_⟩
    cases n with
    | zero => omega
    | succ n =>
      rw [nI_pred] at q
      have := (nI_ltI (by omega) (by omega)).mp q
      omega
theorem z_dvp {v : Int32} {n : Nat} : vp_in v n ↔ ¬ (v < 0 ∨ n ≤ v.toNatClampNeg) := Iff.rfl
theorem isPack_in {d p : Nat} {G : zG} {σ : zR} {o : zmO} (hx : σ 9 0 1 = nI G.2.2.1) (hp : p < G.2.2.1) (hn : G.2.2.1 ≤ 10) : zm_Calls (d + 2) 43 [.inr (.inr (some (9, 0))), .inl (nI p)] (zh G σ) o ↔ o = (some (.inl 1), zh G σ) := by
  rw [c43]
  unfold zb
  rw [if_pos ((z_cnt hx (by omega)).mpr (z_nin hp (by omega)))]
theorem isPack_out {d : Nat} {v : Int32} {G : zG} {σ : zR} {o : zmO} (hx : σ 9 0 1 = nI G.2.2.1) (hv : ¬ vp_in v G.2.2.1) (hn : G.2.2.1 ≤ 10) : zm_Calls (d + 2) 43 [.inr (.inr (some (9, 0))), .inl v] (zh G σ) o ↔ o = (some (.inl 0), zh G σ) := by
  rw [c43]
  unfold zb
  rw [if_neg (fun q => hv ((z_cnt hx (by omega)).mp q))]
theorem isChange_in {d p : Nat} {G : zG} {σ : zR} {o : zmO} (hx : σ 9 0 11 = nI G.2.2.2.1) (hp : p < G.2.2.2.1) (hn : G.2.2.2.1 ≤ 60) : zm_Calls (d + 2) 51 [.inr (.inr (some (9, 0))), .inl (nI p)] (zh G σ) o ↔ o = (some (.inl 1), zh G σ) := by
  rw [c51]
  unfold zb
  rw [if_pos ((z_cnt hx (by omega)).mpr (z_nin hp (by omega)))]
theorem isChange_out {d : Nat} {v : Int32} {G : zG} {σ : zR} {o : zmO} (hx : σ 9 0 11 = nI G.2.2.2.1) (hv : ¬ vp_in v G.2.2.2.1) (hn : G.2.2.2.1 ≤ 60) : zm_Calls (d + 2) 51 [.inr (.inr (some (9, 0))), .inl v] (zh G σ) o ↔ o = (some (.inl 0), zh G σ) := by
  rw [c51]
  unfold zb
  rw [if_neg (fun q => hv ((z_cnt hx (by omega)).mp q))]
