
def zGc (G : zG) : zG := (G.1, (G.2.1.1 + 1, G.2.1.2 + 7), (G.2.2.1, G.2.2.2.1 + 1, G.2.2.2.2))
def zSc (σ : zR) (p : Int32) (c : Nat) : zR := zw (zw (zw (zw (zw (zw (zw (zw σ 45 c 0 (nI c)) 45 c 1 p) 45 c 2 (σ 14 0 0)) 45 c 3 (σ 14 0 1)) 45 c 4 (σ 14 0 2)) 45 c 5 0) 45 c 6 0) 8 0 3 (nI (c + 1))
set_option maxRecDepth 3000 in
set_option maxHeartbeats 400000 in
theorem zSc_off {σ : zR} {p : Int32} {c s i : Nat} (h1 : ¬ (s = 8 ∧ i = 0)) (h2 : ¬ (s = 45 ∧ i = c)) : zSc σ p c s i = σ s i := by
  unfold zSc
  rw [zw_off _ _ _ _ _ _ _ h1, zw_off _ _ _ _ _ _ _ h2, zw_off _ _ _ _ _ _ _ h2, zw_off _ _ _ _ _ _ _ h2, zw_off _ _ _ _ _ _ _ h2, zw_off _ _ _ _ _ _ _ h2, zw_off _ _ _ _ _ _ _ h2, zw_off _ _ _ _ _ _ _ h2]
set_option maxRecDepth 3000 in
set_option maxHeartbeats 400000 in
theorem zh_chg {G : zG} {σ : zR} {p : Int32} : zm_set (zm_set (zm_set (zm_new (zh G σ) 45 (.inr (8, [.inl 0, .inl 0, .inl 0, .inl 0, .inl 0, .inl 0, .inl 0])) 7) (45, G.2.2.2.1) (.inr (8, [.inl (nI G.2.2.2.1), .inl p, .inl (σ 14 0 0), .inl (σ 14 0 1), .inl (σ 14 0 2), .inl 0, .inl 0]))) (11, 0) (.inl (.object "BumpNotes$Change", 60, .inr (va_up (fun j => if j < G.2.2.2.1 then some (45, j) else none) G.2.2.2.1 (some (45, G.2.2.2.1)))))) (8, 0) (.inr (0, [.inr (.inr (some (10, 0))), .inl (σ 8 0 1), .inr (.inr (some (11, 0))), .inl (nI (G.2.2.2.1 + 1)), .inr (.inr (some (12, 0))), .inl (σ 8 0 5), .inr (.inr (some (13, 0))), .inr (.inr (some (14, 0))), .inr (.inr (some (15, 0))), .inr (.inr (some (16, 0))), .inl (σ 8 0 10), .inl (σ 8 0 11)])) = zh (zGc G) (zSc σ p G.2.2.2.1) := by
  refine zh_eq rfl (fun s => ?_) (fun s i h8 => ?_) (fun k hk => ?_)
  · show (if s = 45 then zn G 45 + 1 else zn G s) = zn (zGc G) s
    by_cases h1 : s = 45
    · subst h1; rfl
    · rw [if_neg h1]
      unfold zn zGc
      dsimp only
      by_cases a1 : s = 37 ∨ (41 ≤ s ∧ s ≤ 44)
      · rw [if_pos a1, if_pos a1]
      · rw [if_neg a1, if_neg a1, if_neg h1, if_neg h1]
  · simp only [zm_get_set, zm_get_new, zr_cn, zh_n, zn_45, Nat.reduceEqDiff, if_false, Prod.mk.injEq]
    by_cases h1 : s = 8 ∧ i = 0
    · obtain ⟨rfl, rfl⟩ := h1
      rfl
    · rw [if_neg h1]
      by_cases h2 : s = 11 ∧ i = 0
      · obtain ⟨rfl, rfl⟩ := h2
        rw [if_pos ⟨rfl, rfl⟩, va_up_fill]
        rfl
      · rw [if_neg h2]
        by_cases h4 : s = 45 ∧ i = G.2.2.2.1
        · obtain ⟨rfl, rfl⟩ := h4
          rw [if_pos ⟨rfl, rfl⟩]
          symm
          refine (if_pos (show G.2.2.2.1 < G.2.2.2.1 + 1 by omega)).trans ?_
          unfold zSc
          simp only [zw_ap, and_self, if_true, Nat.reduceEqDiff, false_and, and_false, if_false]
        · rw [if_neg h4, if_neg h4, zh_get G σ s i h8, zSc_off h1 h4]
          by_cases e12 : s = 11
          · subst e12
            have hi : ¬ i = 0 := fun q => h2 ⟨rfl, q⟩
            exact (if_neg hi).trans (if_neg hi).symm
          · by_cases e38 : s = 45
            · subst e38
              have hi : ¬ i = G.2.2.2.1 := fun q => h4 ⟨rfl, q⟩
              show zc45 G i (σ 45 i) = zc45 (zGc G) i (σ 45 i)
              unfold zc45 zGc
              dsimp only
              by_cases hl : i < G.2.2.2.1
              · rw [if_pos hl, if_pos (by omega)]
              · rw [if_neg hl, if_neg (by omega)]
            · rw [zc_of h8 (zc_chg (G := G) (H := zGc G) rfl rfl trivial (s - 8) (by omega) (by omega))]
  · obtain ⟨k1, k2⟩ := k
    have hk : k1 < 8 := hk
    simp only [zm_get_set, zm_get_new, Prod.mk.injEq]
    rw [if_neg (fun q => by omega), if_neg (fun q => by omega), if_neg (fun q => by omega), if_neg (fun q => by omega)]
    exact zro_get hk
def zGp (G : zG) : zG := (G.1, (G.2.1.1 + 5, G.2.1.2 + 31), (G.2.2.1 + 1, G.2.2.2.1, G.2.2.2.2))
def zSp (σ : zR) (x y z : Int32) (p : Nat) : zR := fun s i f =>
  if s = 8 ∧ i = 0 ∧ f = 1 then nI (p + 1)
  else if s = 37 ∧ i = p then (if f = 0 then nI p else 0)
  else if s = 41 ∧ i = p then zfl (fun _ => 0) 3 10 f
  else if (s = 42 ∨ s = 43 ∨ s = 44) ∧ i = p then (if f = 0 then x else if f = 1 then y else if f = 2 then z else 0)
  else σ s i f
set_option maxRecDepth 3000 in
set_option maxHeartbeats 400000 in
theorem zSp_off {σ : zR} {x y z : Int32} {p s i : Nat} (h1 : ¬ (s = 8 ∧ i = 0)) (h2 : ¬ ((s = 37 ∨ s = 41 ∨ s = 42 ∨ s = 43 ∨ s = 44) ∧ i = p)) : zSp σ x y z p s i = σ s i := by
  funext f
  unfold zSp
  rw [if_neg (fun q => h1 ⟨q.1, q.2.1⟩), if_neg (fun q => h2 ⟨by omega, q.2⟩), if_neg (fun q => h2 ⟨by omega, q.2⟩), if_neg (fun q => h2 ⟨by omega, q.2⟩)]
