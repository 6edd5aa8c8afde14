noncomputable def zdc (P : Prop) : Bool := @decide P (Classical.propDecidable P)
set_option maxRecDepth 3000 in
set_option maxHeartbeats 400000 in
theorem zdc_i {P : Prop} : zdc P = true ↔ P := by unfold zdc; exact @decide_eq_true_iff P (Classical.propDecidable P)
set_option maxRecDepth 3000 in
set_option maxHeartbeats 400000 in
theorem flt_add {p q r : Nat → Bool} (h1 : ∀ c, p c = true → r c = true) (h2 : ∀ c, q c = true → r c = true) (h3 : ∀ c, p c = true → q c = true → False) : ∀ l : List Nat, (l.filter p).length + (l.filter q).length ≤ (l.filter r).length
  | [] => Nat.le_refl 0
  | a :: l => by
    have ih := flt_add h1 h2 h3 l
    by_cases a1 : p a = true
    · have a2 : ¬ q a = true := fun x => h3 a a1 x
      rw [List.filter_cons_of_pos a1, List.filter_cons_of_neg a2, List.filter_cons_of_pos (h1 a a1), List.length_cons, List.length_cons]
      omega
    · by_cases a2 : q a = true
      · rw [List.filter_cons_of_neg a1, List.filter_cons_of_pos a2, List.filter_cons_of_pos (h2 a a2), List.length_cons, List.length_cons]
        omega
      · rw [List.filter_cons_of_neg a1, List.filter_cons_of_neg a2]
        by_cases a3 : r a = true
        · rw [List.filter_cons_of_pos a3, List.length_cons]; omega
        · rw [List.filter_cons_of_neg a3]; exact ih
def zGG (F : Nat → Nat → Bool) (n : Nat) : Nat → List Nat
  | 0 => []
  | g + 1 => zGG F n g ++ (List.range n).filter (F g)
def zPP (B : Nat → Bool) (F : Nat → Nat → Nat → Bool) (n : Nat) : Nat → List Nat
  | 0 => []
  | p + 1 => if B p = true then zPP B F n p ++ zGG (F p) n 8 else zPP B F n p
set_option maxRecDepth 3000 in
set_option maxHeartbeats 400000 in
theorem zGl_eq {C : Nat → Nat → Int32} {v u : Int32} {n : Nat} : ∀ g, zGl C v u n g = zGG (fun g => zNf C v u (nI g)) n g
  | 0 => rfl
  | g + 1 => by rw [zGl, zGG, zGl_eq g]
set_option maxRecDepth 3000 in
set_option maxHeartbeats 400000 in
theorem zQg_eq {σ : zR} {v : Int32} {n : Nat} : ∀ g, zQg σ v n g = zGG (fun g => zMf σ v (nI g)) n g
  | 0 => rfl
  | g + 1 => by rw [zQg, zGG, zQg_eq g]
set_option maxRecDepth 3000 in
set_option maxHeartbeats 400000 in
theorem zPl_eq {P C : Nat → Nat → Int32} {u : Int32} {n : Nat} : ∀ p, zPl P C u n p = zPP (fun p => decide (0 < P p 6)) (fun p g => zNf C (nI p) u (nI g)) n p
  | 0 => rfl
  | p + 1 => by
    rw [zPl, zPP, zPl_eq p, zGl_eq]
    simp only [decide_eq_true_eq]
set_option maxRecDepth 3000 in
set_option maxHeartbeats 400000 in
theorem zQn_eq {σ : zR} {n : Nat} : ∀ p, zQn σ n p = zPP (fun p => !decide (σ 30 0 p = 0)) (fun p g => zMf σ (nI p) (nI g)) n p
  | 0 => rfl
  | p + 1 => by
    rw [zQn, zPP, zQn_eq p, zQg_eq]
    by_cases h : σ 30 0 p = 0
    · rw [if_pos h, if_neg (by simp [h])]
    · rw [if_neg h, if_pos (by simp [h])]
set_option maxRecDepth 3000 in
set_option maxHeartbeats 400000 in
theorem flt_c {p q : Nat → Bool} {n : Nat} (h : ∀ c, c < n → p c = q c) : (List.range n).filter p = (List.range n).filter q := List.filter_congr (fun c hc => h c (List.mem_range.mp hc))
set_option maxRecDepth 3000 in
set_option maxHeartbeats 400000 in
theorem zGG_c {F F2 : Nat → Nat → Bool} {n : Nat} : ∀ g, (∀ h, h < g → ∀ c, c < n → F h c = F2 h c) → zGG F n g = zGG F2 n g
  | 0, _ => rfl
  | g + 1, h => by rw [zGG, zGG, zGG_c g (fun a ha => h a (by omega)), flt_c (h g (by omega))]
set_option maxRecDepth 3000 in
set_option maxHeartbeats 400000 in
theorem zPP_c {B B2 : Nat → Bool} {F F2 : Nat → Nat → Nat → Bool} {n : Nat} : ∀ m, (∀ p, p < m → B p = B2 p) → (∀ p, p < m → ∀ g, g < 8 → ∀ c, c < n → F p g c = F2 p g c) → zPP B F n m = zPP B2 F2 n m
  | 0, _, _ => rfl
  | m + 1, h1, h2 => by rw [zPP, zPP, zPP_c m (fun p hp => h1 p (by omega)) (fun p hp => h2 p (by omega)), h1 m (by omega), zGG_c 8 (h2 m (by omega))]
set_option maxRecDepth 3000 in
set_option maxHeartbeats 400000 in
theorem zGG_len {F : Nat → Nat → Bool} {n : Nat} : ∀ g, (∀ a b c, a < g → b < g → F a c = true → F b c = true → a = b) → (zGG F n g).length ≤ ((List.range n).filter fun c => zdc (∃ h, h < g ∧ F h c = true)).length
  | 0, _ => Nat.zero_le _
  | g + 1, h => by
    rw [zGG, List.length_append]
    refine Nat.le_trans (Nat.add_le_add_right (zGG_len g (fun a b c ha hb => h a b c (by omega) (by omega))) _) ?_
    refine flt_add (fun c x => ?_) (fun c x => ?_) (fun c x y => ?_) _
    · obtain ⟨a, h1, h2⟩ := zdc_i.mp x
      exact zdc_i.mpr ⟨a, by omega, h2⟩
    · exact zdc_i.mpr ⟨g, by omega, x⟩
    · obtain ⟨a, h1, h2⟩ := zdc_i.mp x
      have := h a g c (by omega) (by omega) h2 y
      omega
set_option maxRecDepth 3000 in
set_option maxHeartbeats 400000 in
theorem zPP_le {B : Nat → Bool} {F : Nat → Nat → Nat → Bool} {n : Nat} : ∀ m, (∀ p q a b c, p < m → q < m → a < 8 → b < 8 → F p a c = true → F q b c = true → p = q ∧ a = b) → (zPP B F n m).length ≤ ((List.range n).filter fun c => zdc (∃ p, p < m ∧ ∃ h, h < 8 ∧ F p h c = true)).length
  | 0, _ => Nat.zero_le _
  | m + 1, h => by
    have ih := zPP_le (B := B) (F := F) (n := n) m (fun p q a b c hp hq => h p q a b c (by omega) (by omega))
    have i8 := zGG_len (F := F m) (n := n) 8 (fun a b c ha hb x y => (h m m a b c (by omega) (by omega) ha hb x y).2)
    have add := flt_add (p := fun c => zdc (∃ p, p < m ∧ ∃ h, h < 8 ∧ F p h c = true)) (q := fun c => zdc (∃ h, h < 8 ∧ F m h c = true)) (r := fun c => zdc (∃ p, p < m + 1 ∧ ∃ h, h < 8 ∧ F p h c = true)) (fun c x => by
      obtain ⟨p, h1, h2⟩ := zdc_i.mp x
      exact zdc_i.mpr ⟨p, by omega, h2⟩) (fun c x => by
      obtain ⟨a, h1, h2⟩ := zdc_i.mp x
      exact zdc_i.mpr ⟨m, by omega, a, h1, h2⟩) (fun c x y => by
      obtain ⟨p, hp, a, h1, h2⟩ := zdc_i.mp x
      obtain ⟨b, h3, h4⟩ := zdc_i.mp y
      have := (h p m a b c (by omega) (by omega) h1 h3 h2 h4).1
      omega) (List.range n)
    rw [zPP]
    split
    · rw [List.length_append]; omega
    · omega
set_option maxRecDepth 3000 in
set_option maxHeartbeats 400000 in
theorem zPP_len {B : Nat → Bool} {F : Nat → Nat → Nat → Bool} {n m : Nat} (h : ∀ p q a b c, p < m → q < m → a < 8 → b < 8 → F p a c = true → F q b c = true → p = q ∧ a = b) : (zPP B F n m).length ≤ n := by
  refine Nat.le_trans (zPP_le m h) (Nat.le_trans (List.length_filter_le _ _) ?_)
  rw [List.length_range]
  exact Nat.le_refl n
set_option maxRecDepth 3000 in
set_option maxHeartbeats 400000 in
theorem zPl_len {P C : Nat → Nat → Int32} {u : Int32} {n m : Nat} (hm : m ≤ 10) : (zPl P C u n m).length ≤ n := by
  rw [zPl_eq]
  refine zPP_len (fun p q a b c hp hq ha hb x y => ?_)
  unfold zNf at x y
  rw [decide_eq_true_eq] at x y
  have e1 := x.1.symm.trans y.1
  have e2 := x.2.2.symm.trans y.2.2
  rw [nI_eq (by omega) (by omega)] at e1 e2
  exact ⟨e1, e2⟩
set_option maxRecDepth 3000 in
set_option maxHeartbeats 400000 in
theorem zQn_len {σ : zR} {n m : Nat} (hm : m ≤ 10) : (zQn σ n m).length ≤ n := by
  rw [zQn_eq]
  refine zPP_len (fun p q a b c hp hq ha hb x y => ?_)
  unfold zMf at x y
  rw [decide_eq_true_eq] at x y
  have e1 := x.1.symm.trans y.1
  have e2 := x.2.2.2.symm.trans y.2.2.2
  rw [nI_eq (by omega) (by omega)] at e1 e2
  exact ⟨e1, e2⟩
set_option maxRecDepth 3000 in
set_option maxHeartbeats 400000 in
theorem zTl_eq {P : Nat → Nat → Int32} {σ : zR} : ∀ n, (∀ p, p < n → P p 8 = σ 21 0 p ∧ P p 6 = σ 30 0 p) → zTl P n = zQt σ n
  | 0, _ => rfl
  | n + 1, h => by rw [zTl, zQt, zTl_eq n (fun p hp => h p (by omega)), (h n (by omega)).1, (h n (by omega)).2]
set_option maxRecDepth 3000 in
set_option maxHeartbeats 400000 in
theorem zcB_eq {P : Nat → Nat → Int32} {σ : zR} : ∀ n, (∀ p, p < n → P p 6 = σ 30 0 p ∧ ¬ σ 30 0 p < 0) → zcB P n = zQc σ n
  | 0, _ => rfl
  | n + 1, h => by
    rw [zcB, zQc, zcB_eq n (fun p hp => h p (by omega)), (h n (by omega)).1]
    by_cases e : σ 30 0 n = 0
    · rw [if_neg (fun x => ((z_p0 (h n (by omega)).2).mp x) e), if_pos e, Int32.add_zero]
    · rw [if_pos ((z_p0 (h n (by omega)).2).mpr e), if_neg e]
set_option maxRecDepth 3000 in
set_option maxHeartbeats 400000 in
theorem zrq_c {σ τ : zR} (h17 : τ 17 = σ 17) (h18 : τ 18 = σ 18) (h19 : τ 19 = σ 19) (h20 : τ 20 = σ 20) (q : Nat) (w : Int32) : zrq τ q w = zrq σ q w := by
  unfold zrq
  rw [h17, h18, h19, h20]
set_option maxRecDepth 3000 in
set_option maxHeartbeats 400000 in
theorem zbk_c {σ τ : zR} (h17 : τ 17 = σ 17) (h18 : τ 18 = σ 18) (h19 : τ 19 = σ 19) (h20 : τ 20 = σ 20) (h22 : τ 22 = σ 22) (b : Nat → Int32) (p q : Nat) : zbk τ b p q ↔ zbk σ b p q := by
  unfold zbk zsm
  rw [zrq_c h17 h18 h19 h20, h17, h22]
set_option maxRecDepth 3000 in
set_option maxHeartbeats 400000 in
theorem zfr_c {σ τ : zR} (h17 : τ 17 = σ 17) (h18 : τ 18 = σ 18) (h19 : τ 19 = σ 19) (h20 : τ 20 = σ 20) (h22 : τ 22 = σ 22) (n : Nat) (b : Nat → Int32) : ∀ j, zfr τ n b j = zfr σ n b j
  | 0 => rfl
  | j + 1 => by
    have ih := zfr_c h17 h18 h19 h20 h22 n b j
    by_cases hd : zfr σ n b j j = 0 ∧ ∃ q, q < n ∧ zbk σ (zfr σ n b j) j q
    · have he : zfr τ n b j j = 0 ∧ ∃ q, q < n ∧ zbk τ (zfr τ n b j) j q := by
        rw [ih]
        obtain ⟨a, q, hq, hb⟩ := hd
        exact ⟨a, q, hq, (zbk_c h17 h18 h19 h20 h22 _ _ _).mpr hb⟩
      rw [zfr_t hd, zfr_t he, ih]
    · have he : ¬ (zfr τ n b j j = 0 ∧ ∃ q, q < n ∧ zbk τ (zfr τ n b j) j q) := by
        rw [ih]
        rintro ⟨a, q, hq, hb⟩
        exact hd ⟨a, q, hq, (zbk_c h17 h18 h19 h20 h22 _ _ _).mp hb⟩
      rw [zfr_f hd, zfr_f he, ih]
set_option maxRecDepth 3000 in
set_option maxHeartbeats 400000 in
theorem zIt_c {σ τ : zR} (h17 : τ 17 = σ 17) (h18 : τ 18 = σ 18) (h19 : τ 19 = σ 19) (h20 : τ 20 = σ 20) (h22 : τ 22 = σ 22) (n : Nat) (b : Nat → Int32) : ∀ r, zIt τ n b r = zIt σ n b r
  | 0 => rfl
  | r + 1 => by rw [zIt, zIt, zIt_c h17 h18 h19 h20 h22 n b r, zfr_c h17 h18 h19 h20 h22]
set_option maxRecDepth 3000 in
set_option maxHeartbeats 400000 in
theorem zF2_c {σ τ : zR} (h24 : τ 24 = σ 24) (h26 : τ 26 = σ 26) (h28 : τ 28 = σ 28) (h29 : τ 29 = σ 29) : ∀ c, zF2 τ c = zF2 σ c
  | 0 => rfl
  | c + 1 => by rw [zF2, zF2, zF2_c h24 h26 h28 h29 c, h24, h26, h28, h29]
