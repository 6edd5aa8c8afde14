section ZO2
variable {X : Nat × (Nat → Int32)} {k : Nat} {G : zG} {σ : zR}
set_option maxRecDepth 3000 in
set_option maxHeartbeats 400000 in
theorem w_o (τ : zR) (s i f : Nat) (x : Int32) {s1 i1 f1 : Nat} (h : ¬ (s1 = s ∧ i1 = i ∧ f1 = f)) : zw τ s i f x s1 i1 f1 = τ s1 i1 f1 := if_neg h
set_option maxRecDepth 3000 in
set_option maxHeartbeats 400000 in
theorem w_i (τ : zR) (s i f : Nat) (x : Int32) : zw τ s i f x s i f = x := if_pos ⟨rfl, rfl, rfl⟩
set_option maxRecDepth 3000 in
set_option maxHeartbeats 400000 in
theorem sim_setting (h : zInv X k G σ) (v : Int32) : zSim X k G σ 7 8 [.inl v] := by
  have h9 := inv_9 h
  by_cases c1 : v < 0
  · refine ⟨0, G, σ, _, fun o => ?_, fun o => ?_, h9⟩
    · rw [b_setting (d := 10), if_pos c1]
    · rw [m_setting (d := 9), if_pos c1]
  · by_cases c2 : 2 < v
    · refine ⟨0, G, σ, _, fun o => ?_, fun o => ?_, h9⟩
      · rw [b_setting (d := 10), if_neg c1, if_pos c2]
      · rw [m_setting (d := 9), if_neg c1, if_pos c2]
    · refine ⟨1, G, zw σ 8 0 10 v, zw (zw (zw σ 8 0 10 v) 9 0 0 0) 9 0 8 v, fun o => ?_, fun o => ?_, ?_⟩
      · rw [b_setting (d := 10), if_neg c1, if_neg c2]
      · rw [m_setting (d := 9), if_neg c1, if_neg c2]
      · obtain ⟨hx, r, ⟨np, nc, nt, hr, b1, m1, b3, m11, b5, m28, -, b11, m21⟩, h⟩ := h
        obtain ⟨w, hw, rfl⟩ := nI_of c1
        refine ⟨ix_up hx, r, ⟨np, nc, nt, by omega, b1, m1, b3, m11, b5, m28, ⟨w, ?_, rfl, rfl⟩, b11, m21⟩, h⟩
        rw [show (2 : Int32) = nI 2 from rfl, nI_ltI (by omega) hw] at c2
        omega
set_option maxRecDepth 3000 in
set_option maxHeartbeats 400000 in
theorem sim_pre (h : zInv X k G σ) (u v : Int32) (hv : v = 0 ∨ v = 1) : zSim X k G σ 9 10 [.inl u, .inl v] := by
  have h9 := inv_9 h
  obtain ⟨hx, r, ⟨np, nc, nt, hr, b1, m1, ha⟩, p0, p1, p2, p3, h⟩ := h
  by_cases c : vp_in u G.2.2.1
  · obtain ⟨p, hp, rfl⟩ := z_vin c (by omega)
    have f1 : zm_fit .boolean (.inl v) = true := by rcases hv with rfl | rfl; exact zf_0; exact zf_1
    have f2 : vp_nar .boolean v = v := by rcases hv with rfl | rfl; exact z_nb0; exact z_nb1
    refine ⟨1, G, zw σ 37 p 7 v, zw (zw (zw σ 37 p 7 v) 9 0 0 0) 20 0 p v, fun o => b_pre_in (d := 9) hp np f1, fun o => m_pre_in (d := 8) m1 hp np f2, ix_up hx, r, ia_up ⟨np, nc, nt, hr, b1, m1, ha⟩, fun q hq => ?_, fun q hq => ?_, p2, fun q h1 h2 => ?_, h⟩
    · show zw σ 37 p 7 v 37 q 0 = nI q
      rw [w_o _ _ _ _ _ (by simp)]
      exact p0 q hq
    · obtain ⟨a1, a2, a3, a4, a5, a6⟩ := p1 q hq
      have e : ∀ f, ¬ f = 7 → zw σ 37 p 7 v 37 q f = σ 37 q f := fun f hf => w_o _ _ _ _ _ (fun x => hf x.2.2)
      refine ⟨?_, ?_, ?_, a4, a5, fun x => ⟨(a6 x).1, ?_, (a6 x).2.2⟩⟩
      · show zw σ 37 p 7 v 37 q 6 = σ 30 0 q
        rw [e 6 (by decide)]; exact a1
      · show zw σ 37 p 7 v 37 q 7 = zw _ 20 0 p v 20 0 q
        by_cases hpq : q = p
        · subst hpq
          rw [w_i, w_i]
        · rw [w_o _ _ _ _ _ (fun x => hpq x.2.1), w_o _ _ _ _ _ (fun x => hpq x.2.2)]
          exact a2
      · show zw σ 37 p 7 v 37 q 8 = σ 21 0 q
        rw [e 8 (by decide)]; exact a3
      · show zw σ 37 p 7 v 37 q 5 = σ 19 0 q
        rw [e 5 (by decide)]; exact (a6 x).2.1
    · obtain ⟨a1, a2, a3⟩ := p3 q h1 h2
      refine ⟨a1, ?_, a3⟩
      rw [w_o _ _ _ _ _ (fun x => by have := x.2.2; omega)]
      exact a2
  · exact ⟨_, G, σ, _, fun o => b_pre_out (d := 9) c, fun o => m_pre_out (d := 8) m1 c np, h9⟩
set_option maxRecDepth 3000 in
set_option maxHeartbeats 400000 in
theorem sim_face (h : zInv X k G σ) (u : Int32) : zSim X k G σ 19 20 [.inl u] := by
  have h9 := inv_9 h
  obtain ⟨hx, r, ⟨np, nc, nt, hr, b1, m1, ha⟩, p0, p1, p2, p3, h⟩ := h
  by_cases c : vp_in u G.2.2.1
  · obtain ⟨p, hp, rfl⟩ := z_vin c (by omega)
    refine ⟨1, G, zw σ 37 p 8 1, zw (zw (zw σ 37 p 8 1) 9 0 0 0) 21 0 p 1, fun o => b_face_in (d := 9) hp np, fun o => m_face_in (d := 8) m1 hp np, ix_up hx, r, ia_up ⟨np, nc, nt, hr, b1, m1, ha⟩, fun q hq => ?_, fun q hq => ?_, p2, fun q h1 h2 => ?_, h⟩
    · show zw σ 37 p 8 1 37 q 0 = nI q
      rw [w_o _ _ _ _ _ (by simp)]
      exact p0 q hq
    · obtain ⟨a1, a2, a3, a4, a5, a6⟩ := p1 q hq
      have e : ∀ f, ¬ f = 8 → zw σ 37 p 8 1 37 q f = σ 37 q f := fun f hf => w_o _ _ _ _ _ (fun x => hf x.2.2)
      refine ⟨?_, ?_, ?_, a4, a5, fun x => ⟨(a6 x).1, ?_, (a6 x).2.2⟩⟩
      · show zw σ 37 p 8 1 37 q 6 = σ 30 0 q
        rw [e 6 (by decide)]; exact a1
      · show zw σ 37 p 8 1 37 q 7 = σ 20 0 q
        rw [e 7 (by decide)]; exact a2
      · show zw σ 37 p 8 1 37 q 8 = zw _ 21 0 p 1 21 0 q
        by_cases hpq : q = p
        · subst hpq
          rw [w_i, w_i]
        · rw [w_o _ _ _ _ _ (fun x => hpq x.2.1), w_o _ _ _ _ _ (fun x => hpq x.2.2)]
          exact a3
      · show zw σ 37 p 8 1 37 q 5 = σ 19 0 q
        rw [e 5 (by decide)]; exact (a6 x).2.1
    · obtain ⟨a1, a2, a3, a4⟩ := p3 q h1 h2
      refine ⟨a1, a2, ?_, a4⟩
      rw [w_o _ _ _ _ _ (fun x => by have := x.2.2; omega)]
      exact a3
  · exact ⟨_, G, σ, _, fun o => b_face_out (d := 9) c, fun o => m_face_out (d := 8) m1 c np, h9⟩
set_option maxRecDepth 3000 in
set_option maxHeartbeats 400000 in
theorem sim_needs (h : zInv X k G σ) (u v w : Int32) : zSim X k G σ 5 6 [.inl u, .inl v, .inl w] := by
  have h9 := inv_9 h
  obtain ⟨hx, r, ⟨np, nc, nt, hr, b1, m1, ha⟩, p0, p1, p2, p3, h⟩ := h
  by_cases c : vp_in u G.2.2.1
  · obtain ⟨p, hp, rfl⟩ := z_vin c (by omega)
    by_cases c2 : vp_in v G.2.2.1
    · obtain ⟨q, hq, rfl⟩ := z_vin c2 (by omega)
      by_cases d1 : nI p = nI q
      · refine ⟨0, G, σ, _, fun o => ?_, fun o => ?_, h9⟩
        · rw [b_needs_3 (d := 9) hp hq np, if_pos d1]
        · rw [m_needs_3 (d := 8) m1 hp hq np, if_pos d1]
      · by_cases d2 : w < 0
        · refine ⟨0, G, σ, _, fun o => ?_, fun o => ?_, h9⟩
          · rw [b_needs_3 (d := 9) hp hq np, if_neg d1, if_pos d2]
          · rw [m_needs_3 (d := 8) m1 hp hq np, if_neg d1, if_pos d2]
        · by_cases d3 : 3 < w
          · refine ⟨0, G, σ, _, fun o => ?_, fun o => ?_, h9⟩
            · rw [b_needs_3 (d := 9) hp hq np, if_neg d1, if_neg d2, if_pos d3]
            · rw [m_needs_3 (d := 8) m1 hp hq np, if_neg d1, if_neg d2, if_pos d3]
          · refine ⟨1, G, zw σ 41 p q w, zw (zw (zw σ 41 p q w) 9 0 0 0) 22 0 (10 * p + q) (w + 1), fun o => ?_, fun o => ?_, ix_up hx, r, ia_up ⟨np, nc, nt, hr, b1, m1, ha⟩, p0, p1, fun p2' hp2 q2 hq2 => ?_, fun p2' h1 h2 => ?_, h⟩
            · rw [b_needs_3 (d := 9) hp hq np, if_neg d1, if_neg d2, if_neg d3]
            · rw [m_needs_3 (d := 8) (σ := zw σ 41 p q w) m1 hp hq np, if_neg d1, if_neg d2, if_neg d3]
            · show zRg (zw σ 41 p q w 41 p2' q2) (zw _ 22 0 (10 * p + q) (w + 1) 22 0 (10 * p2' + q2))
              by_cases e : p2' = p ∧ q2 = q
              · obtain ⟨rfl, rfl⟩ := e
                rw [w_i, w_i]
                obtain ⟨j, hj, rfl⟩ := nI_of d2
                rw [show (3 : Int32) = nI 3 from rfl, nI_ltI (by omega) hj] at d3
                exact Or.inr ⟨j, by omega, nI_1 j, rfl⟩
              · rw [w_o _ _ _ _ _ (fun x => e x.2), w_o _ _ _ _ _ (fun x => e (by have := x.2.2; omega))]
                exact p2 p2' hp2 q2 hq2
            · obtain ⟨a1, a2, a3, a4, a5⟩ := p3 p2' h1 h2
              refine ⟨a1, a2, a3, a4, fun q2 hq2 => ?_⟩
              rw [w_o _ _ _ _ _ (fun x => by have := x.2.2; omega)]
              exact a5 q2 hq2
    · exact ⟨_, G, σ, _, fun o => b_needs_2 (d := 9) hp np c2, fun o => m_needs_2 (d := 8) m1 hp c2 np, h9⟩
  · exact ⟨_, G, σ, _, fun o => b_needs_1 (d := 9) c, fun o => m_needs_1 (d := 8) m1 c np, h9⟩
end ZO2
