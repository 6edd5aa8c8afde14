def zby (w : Int64) (k : Nat) : Int32 := (w.toUInt64 >>> ((nI (8 * k)).toInt64.toUInt64 &&& Int64.toUInt64 63)).toInt64.toInt32 &&& 255
def zsh : Nat → Int32
  | 0 => -8
  | m + 1 => nI (8 * m)
set_option maxRecDepth 3000 in
set_option maxHeartbeats 400000 in
theorem zsh_s (m : Nat) : zsh (m + 1) + (-8) = zsh m := by
  cases m with
  | zero => rfl
  | succ m =>
    show nI (8 * (m + 1)) + (-8) = nI (8 * m)
    rw [show 8 * (m + 1) = 8 * m + 8 from rfl, ← nI_add, Int32.add_assoc, show nI 8 + (-8) = 0 from rfl, Int32.add_zero]
set_option maxRecDepth 3000 in
set_option maxHeartbeats 400000 in
theorem zby_s {w : Int64} {m : Nat} : (w.toUInt64 >>> ((zsh (m + 1)).toInt64.toUInt64 &&& Int64.toUInt64 63)).toInt64.toInt32 &&& 255 = zby w m := rfl
def zct (b : Nat → Int32) : Nat → Int32 → Int32
  | 0, c => c
  | m + 1, c => if b m = 0 then zct b m c else if b m < 32 then -1 else if 126 < b m then -1 else zct b m (c + 1)
def zls (b : Nat → Int32) : Nat → List Int32
  | 0 => []
  | m + 1 => (if b m = 0 then [] else [b m]) ++ zls b m
def zok (b : Nat → Int32) (k : Nat) : Prop := b k = 0 ∨ (¬ b k < 32 ∧ ¬ 126 < b k)
set_option maxRecDepth 3000 in
set_option maxHeartbeats 400000 in
theorem zct_ok {b : Nat → Int32} : ∀ m c, (∀ k, k < m → zok b k) → zct b m (nI c) = nI (c + (zls b m).length)
  | 0, c, _ => rfl
  | m + 1, c, h => by
    rw [zct, zls]
    by_cases h0 : b m = 0
    · rw [if_pos h0, if_pos h0, List.nil_append]
      exact zct_ok m c (fun k hk => h k (by omega))
    · rw [if_neg h0, if_neg h0]
      rcases h m (by omega) with q | q
      · exact absurd q h0
      · rw [if_neg q.1, if_neg q.2, nI_1, zct_ok m (c + 1) (fun k hk => h k (by omega)), List.length_append, List.length_singleton]
        congr 1
        omega
set_option maxRecDepth 3000 in
set_option maxHeartbeats 400000 in
theorem zct_no {b : Nat → Int32} : ∀ m c, ¬ (∀ k, k < m → zok b k) → zct b m c = -1
  | 0, c, h => absurd (fun k hk => absurd hk (Nat.not_lt_zero k)) h
  | m + 1, c, h => by
    rw [zct]
    by_cases h0 : b m = 0
    · rw [if_pos h0]
      refine zct_no m c (fun q => h (fun k hk => ?_))
      rcases Nat.lt_or_ge k m with h1 | h1
      · exact q k h1
      · have : k = m := by omega
        subst this; exact Or.inl h0
    · rw [if_neg h0]
      by_cases h1 : b m < 32
      · rw [if_pos h1]
      · rw [if_neg h1]
        by_cases h2 : 126 < b m
        · rw [if_pos h2]
        · rw [if_neg h2]
          refine zct_no m (c + 1) (fun q => h (fun k hk => ?_))
          rcases Nat.lt_or_ge k m with h3 | h3
          · exact q k h3
          · have : k = m := by omega
            subst this; exact Or.inr ⟨h1, h2⟩
set_option maxRecDepth 3000 in
set_option maxHeartbeats 400000 in
theorem zls_len {b : Nat → Int32} : ∀ m, (zls b m).length ≤ m
  | 0 => Nat.le_refl _
  | m + 1 => by
    have := zls_len (b := b) m
    rw [zls]
    split
    · rw [List.nil_append]; omega
    · rw [List.length_append, List.length_singleton]; omega
set_option maxRecDepth 3000 in
set_option maxHeartbeats 400000 in
theorem zsh_pos {m : Nat} (h : m < 8) : ¬ zsh (m + 1) < 0 := nI_pos (by omega)
section ZT1
variable {h : zmH} {o : zmO}
set_option maxRecDepth 3000 in
set_option maxHeartbeats 400000 in
theorem l_cc {d : Nat} {w : Int64} : ∀ (m : Nat), m ≤ 8 → ∀ (c : Int32) (l4 : Option zmV), zm_E (zm_Calls (d + 1)) 70 5 [some (.inr (.inl w)), none, some (.inl c), some (.inl (zsh m)), l4] [] h o ↔ o = (some (.inl (zct (zby w) m c)), h) := by
  intro m
  induction m with
  | zero =>
    intro hm c l4
    rw [x70_5]
    simp only [↓reduceIte, x70_0, x70_1, x70_2, x70_4, x70_6, x70_9, x70_10, x70_11, x70_14, x70_16, x70_18, x70_21, x70_43, x70_46, x70_24, x70_26, x70_28, x70_31, x70_33, x70_35, x70_38, x70_39, x70_40, x70_49, x70_50, show ((zsh 0 < 0) = True) from eq_true (by decide), zf_i, true_and, zct]
  | succ m ih =>
    intro hm c l4
    have h3 := ih (by omega)
    have e : ¬ zsh (m + 1) < 0 := zsh_pos (by omega)
    rw [x70_5]
    by_cases h0 : zby w m = 0
    · simp only [↓reduceIte, x70_0, x70_1, x70_2, x70_4, x70_6, x70_9, x70_10, x70_11, x70_14, x70_16, x70_18, x70_21, x70_43, x70_46, x70_24, x70_26, x70_28, x70_31, x70_33, x70_35, x70_38, x70_39, x70_40, x70_49, x70_50, e, c71, zby_s, h0, z_ex, Option.toList_some, List.cons_append, List.nil_append, zsh_s, h3, zct]
    · by_cases h1 : zby w m < 32
      · simp only [↓reduceIte, x70_0, x70_1, x70_2, x70_4, x70_6, x70_9, x70_10, x70_11, x70_14, x70_16, x70_18, x70_21, x70_43, x70_46, x70_24, x70_26, x70_28, x70_31, x70_33, x70_35, x70_38, x70_39, x70_40, x70_49, x70_50, e, c71, zby_s, h0, h1, z_ex, Option.toList_some, List.cons_append, List.nil_append, zf_i, true_and, zct]
      · by_cases h2 : 126 < zby w m
        · simp only [↓reduceIte, x70_0, x70_1, x70_2, x70_4, x70_6, x70_9, x70_10, x70_11, x70_14, x70_16, x70_18, x70_21, x70_43, x70_46, x70_24, x70_26, x70_28, x70_31, x70_33, x70_35, x70_38, x70_39, x70_40, x70_49, x70_50, e, c71, zby_s, h0, h1, h2, z_ex, Option.toList_some, List.cons_append, List.nil_append, zf_i, true_and, zct]
        · simp only [↓reduceIte, x70_0, x70_1, x70_2, x70_4, x70_6, x70_9, x70_10, x70_11, x70_14, x70_16, x70_18, x70_21, x70_43, x70_46, x70_24, x70_26, x70_28, x70_31, x70_33, x70_35, x70_38, x70_39, x70_40, x70_49, x70_50, e, c71, zby_s, h0, h1, h2, z_ex, Option.toList_some, List.cons_append, List.nil_append, zsh_s, h3, zct]
set_option maxRecDepth 3000 in
set_option maxHeartbeats 400000 in
theorem c70 {d : Nat} {w : Int64} : zm_Calls (d + 2) 70 [.inr (.inl w)] h o ↔ o = (some (.inl (zct (zby w) 8 0)), h) := by
  have h1 := l_cc (h := h) (o := o) (d := d) (w := w) 8 (by omega) 0 none
  rw [show zsh 8 = 56 from rfl] at h1
  simp only [i70, x70_0, x70_1, x70_2, x70_4, x70_6, x70_9, x70_10, x70_11, x70_14, x70_16, x70_18, x70_21, x70_43, x70_46, x70_24, x70_26, x70_28, x70_31, x70_33, x70_35, x70_38, x70_39, x70_40, x70_49, x70_50, h1]
end ZT1
def zTG (a b c : Nat) (σ : zR) (n : Nat) (l : List Int32) : zR := fun s i f => if s = a ∧ i = 0 ∧ f = b then nI (n + l.length) else if s = c ∧ i = 0 ∧ n ≤ f ∧ f < n + l.length then l.getD (f - n) 0 else σ s i f
set_option maxRecDepth 3000 in
set_option maxHeartbeats 400000 in
theorem zTG_len {a b c : Nat} {σ : zR} {n : Nat} {l : List Int32} : zTG a b c σ n l a 0 b = nI (n + l.length) := if_pos ⟨rfl, rfl, rfl⟩
set_option maxRecDepth 3000 in
set_option maxHeartbeats 400000 in
theorem zTG_s {a b c : Nat} {σ : zR} {n : Nat} {l : List Int32} {s : Nat} (h1 : ¬ s = a) (h2 : ¬ s = c) : zTG a b c σ n l s = σ s := by
  funext i f
  unfold zTG
  rw [if_neg (fun q => h1 q.1), if_neg (fun q => h2 q.1)]
set_option maxRecDepth 3000 in
set_option maxHeartbeats 400000 in
theorem zTG_a {a b c : Nat} {σ : zR} {n : Nat} {l : List Int32} {f : Nat} (h1 : ¬ a = c) (h2 : ¬ f = b) : zTG a b c σ n l a 0 f = σ a 0 f := by
  unfold zTG
  rw [if_neg (fun q => h2 q.2.2), if_neg (fun q => h1 q.1)]
set_option maxRecDepth 3000 in
set_option maxHeartbeats 400000 in
theorem zTG_add {a b c : Nat} {σ : zR} {n : Nat} {l : List Int32} {v : Int32} (hac : ¬ a = c) : zw (zw (zTG a b c σ n l) c 0 (n + l.length) v) a 0 b (nI (n + l.length + 1)) = zTG a b c σ n (l ++ [v]) := by
  funext s i f
  unfold zTG
  simp only [zw_ap, List.length_append, List.length_singleton, ← Nat.add_assoc]
  by_cases h1 : s = a ∧ i = 0 ∧ f = b
  · rw [if_pos h1, if_pos h1]
  · simp only [if_neg h1]
    by_cases h2 : s = c ∧ i = 0 ∧ f = n + l.length
    · rw [if_pos h2, if_pos ⟨h2.1, h2.2.1, by omega, by omega⟩, h2.2.2]
      simp
    · rw [if_neg h2]
      by_cases h3 : s = c ∧ i = 0 ∧ n ≤ f ∧ f < n + l.length
      · rw [if_pos h3, if_pos ⟨h3.1, h3.2.1, h3.2.2.1, by omega⟩]
        simp [List.getElem?_append_left (show f - n < l.length by omega)]
      · rw [if_neg h3, if_neg (fun q => by
          rcases Nat.lt_or_ge f (n + l.length) with h4 | h4
          · exact h3 ⟨q.1, q.2.1, q.2.2.1, h4⟩
          · exact h2 ⟨q.1, q.2.1, by omega⟩)]
set_option maxRecDepth 3000 in
set_option maxHeartbeats 400000 in
theorem zTG_0 {a b c : Nat} {σ : zR} {n : Nat} (h : σ a 0 b = nI n) : zTG a b c σ n [] = σ := by
  funext s i f
  unfold zTG
  by_cases h1 : s = a ∧ i = 0 ∧ f = b
  · rw [if_pos h1, h1.1, h1.2.1, h1.2.2, h]; rfl
  · rw [if_neg h1, if_neg (fun q => by
      have := q.2.2.2
      rw [List.length_nil] at this
      omega)]
set_option maxRecDepth 3000 in
set_option maxHeartbeats 400000 in
theorem zby_c (w : Int64) (k : Nat) : vp_nar .char ((zby w k).toUInt32 % 65536).toInt32 = zby w k := by
  obtain ⟨j, hj, e⟩ := pk_andE ((w.toUInt64 >>> ((nI (8 * k)).toInt64.toUInt64 &&& Int64.toUInt64 63)).toInt64.toInt32) (m := 255) 8 (by decide)
  have e2 : zby w k = nI j := e
  rw [pk_vc, e2]
  have h3 := pk_char (nI j)
  rw [h3, pk_tn (by omega), Nat.mod_eq_of_lt (by omega)]
