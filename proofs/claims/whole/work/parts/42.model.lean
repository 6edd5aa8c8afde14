def zMR (σ : zR) : Nat → zR
  | 0 => σ
  | c + 1 => zw (zMR σ c) 28 0 c (if σ 28 0 c = 0 ∧ 0 < σ 30 0 (σ 24 0 c).toNatClampNeg then σ 9 0 21 else σ 28 0 c)
set_option maxRecDepth 3000 in
set_option maxHeartbeats 400000 in
theorem zMR_s {σ : zR} {s : Nat} (h : ¬ s = 28) : ∀ j, zMR σ j s = σ s
  | 0 => rfl
  | j + 1 => by rw [zMR, zw_s h, zMR_s h j]
set_option maxRecDepth 3000 in
set_option maxHeartbeats 400000 in
theorem zMR_hi {σ : zR} : ∀ j c, j ≤ c → zMR σ j 28 0 c = σ 28 0 c
  | 0, _, _ => rfl
  | j + 1, c, h => by rw [zMR, zw_ap, if_neg (fun q => by omega), zMR_hi j c (by omega)]
set_option maxRecDepth 3000 in
set_option maxHeartbeats 400000 in
theorem zMR_lo {σ : zR} : ∀ j c, c < j → zMR σ j 28 0 c = if σ 28 0 c = 0 ∧ 0 < σ 30 0 (σ 24 0 c).toNatClampNeg then σ 9 0 21 else σ 28 0 c
  | 0, _, h => by omega
  | j + 1, c, h => by
    rw [zMR, zw_ap]
    by_cases hj : c = j
    · subst hj; rw [if_pos ⟨rfl, rfl, rfl⟩]
    · rw [if_neg (fun q => hj q.2.2), zMR_lo j c (by omega)]
def zMt (σ : zR) (l : List Nat) : zR := fun s i f => if s = 9 ∧ i = 0 ∧ f = 25 then nI l.length else if s = 32 ∧ i = 0 ∧ f < l.length then nI (l.getD f 0) else σ s i f
set_option maxRecDepth 3000 in
set_option maxHeartbeats 400000 in
theorem zMt_s {σ : zR} {l : List Nat} {s : Nat} (h1 : ¬ s = 9) (h2 : ¬ s = 32) : zMt σ l s = σ s := by
  funext i f
  unfold zMt
  rw [if_neg (fun q => h1 q.1), if_neg (fun q => h2 q.1)]
set_option maxRecDepth 3000 in
set_option maxHeartbeats 400000 in
theorem zMt_25 {σ : zR} {l : List Nat} : zMt σ l 9 0 25 = nI l.length := if_pos ⟨rfl, rfl, rfl⟩
set_option maxRecDepth 3000 in
set_option maxHeartbeats 400000 in
theorem zMt_9 {σ : zR} {l : List Nat} {f : Nat} (h : ¬ f = 25) : zMt σ l 9 0 f = σ 9 0 f := by
  unfold zMt
  rw [if_neg (fun q => h q.2.2), if_neg (by simp)]
set_option maxRecDepth 3000 in
set_option maxHeartbeats 400000 in
theorem zMt_add {σ : zR} {l : List Nat} {c : Nat} : zw (zw (zMt σ l) 32 0 l.length (nI c)) 9 0 25 (nI (l.length + 1)) = zMt σ (l ++ [c]) := by
  funext s i f
  unfold zMt
  simp only [zw_ap, List.length_append, List.length_singleton]
  by_cases h1 : s = 9 ∧ i = 0 ∧ f = 25
  · rw [if_pos h1, if_pos h1]
  · simp only [if_neg h1]
    by_cases h2 : s = 32 ∧ i = 0 ∧ f = l.length
    · rw [if_pos h2, if_pos ⟨h2.1, h2.2.1, by omega⟩, h2.2.2]
      simp
    · rw [if_neg h2]
      by_cases h3 : s = 32 ∧ i = 0 ∧ f < l.length
      · rw [if_pos h3, if_pos ⟨h3.1, h3.2.1, by omega⟩]
        simp [List.getElem?_append_left h3.2.2]
      · rw [if_neg h3, if_neg (fun q => by
          rcases Nat.lt_or_ge f l.length with h4 | h4
          · exact h3 ⟨q.1, q.2.1, h4⟩
          · exact h2 ⟨q.1, q.2.1, by omega⟩)]
set_option maxRecDepth 3000 in
set_option maxHeartbeats 400000 in
theorem zMt_0 {σ : zR} : zw σ 9 0 25 0 = zMt σ [] := by
  funext s i f
  unfold zMt
  rw [zw_ap]
  by_cases h : s = 9 ∧ i = 0 ∧ f = 25
  · rw [if_pos h, if_pos h]; rfl
  · rw [if_neg h, if_neg h, if_neg (fun q => Nat.not_lt_zero _ q.2.2)]
set_option maxRecDepth 3000 in
set_option maxHeartbeats 400000 in
theorem zMn_0 {σ : zR} : zw σ 9 0 23 0 = zMn σ [] := by
  funext s i f
  unfold zMn
  rw [zw_ap]
  by_cases h : s = 9 ∧ i = 0 ∧ f = 23
  · rw [if_pos h, if_pos h]; rfl
  · rw [if_neg h, if_neg h, if_neg (fun q => Nat.not_lt_zero _ q.2.2)]
def zNT (σ : zR) (lt ln : List Nat) : zR := zMn (zMt σ lt) ln
set_option maxRecDepth 3000 in
set_option maxHeartbeats 400000 in
theorem zNT_w {σ : zR} {lt ln : List Nat} {s i f : Nat} {v : Int32} (h9 : ¬ s = 9) (h1 : ¬ s = 31) (h2 : ¬ s = 32) : zw (zNT σ lt ln) s i f v = zNT (zw σ s i f v) lt ln := by
  funext s1 i1 f1
  unfold zNT zMn zMt
  simp only [zw_ap]
  by_cases h : s1 = s ∧ i1 = i ∧ f1 = f
  · have a1 : ¬ (s1 = 9 ∧ i1 = 0 ∧ f1 = 23) := fun q => h9 (h.1 ▸ q.1)
    have a2 : ¬ (s1 = 31 ∧ i1 = 0 ∧ f1 < ln.length) := fun q => h1 (h.1 ▸ q.1)
    have a3 : ¬ (s1 = 9 ∧ i1 = 0 ∧ f1 = 25) := fun q => h9 (h.1 ▸ q.1)
    have a4 : ¬ (s1 = 32 ∧ i1 = 0 ∧ f1 < lt.length) := fun q => h2 (h.1 ▸ q.1)
    rw [if_pos h, if_neg a1, if_neg a2, if_neg a3, if_neg a4]
    exact (if_pos h).symm
  · simp only [if_neg h]
set_option maxRecDepth 3000 in
set_option maxHeartbeats 400000 in
theorem zNT_X {σ : zR} {lt ln : List Nat} {y : Nat → Int32} : zX (zNT σ lt ln) y = zNT (zX σ y) lt ln := by
  funext s1 i1 f1
  unfold zNT zMn zMt zX
  by_cases h : s1 = 33 ∧ i1 = 0 ∧ f1 < 4
  · have a1 : ¬ (s1 = 9 ∧ i1 = 0 ∧ f1 = 23) := fun q => by omega
    have a2 : ¬ (s1 = 31 ∧ i1 = 0 ∧ f1 < ln.length) := fun q => by omega
    have a3 : ¬ (s1 = 9 ∧ i1 = 0 ∧ f1 = 25) := fun q => by omega
    have a4 : ¬ (s1 = 32 ∧ i1 = 0 ∧ f1 < lt.length) := fun q => by omega
    rw [if_pos h, if_neg a1, if_neg a2, if_neg a3, if_neg a4]
    exact (if_pos h).symm
  · simp only [if_neg h]
set_option maxRecDepth 3000 in
set_option maxHeartbeats 400000 in
theorem zNT_s {σ : zR} {lt ln : List Nat} {s : Nat} (h9 : ¬ s = 9) (h1 : ¬ s = 31) (h2 : ¬ s = 32) : zNT σ lt ln s = σ s := by
  unfold zNT
  rw [zMn_s h9 h1, zMt_s h9 h2]
set_option maxRecDepth 3000 in
set_option maxHeartbeats 400000 in
theorem zNT_9 {σ : zR} {lt ln : List Nat} {f : Nat} (h1 : ¬ f = 23) (h2 : ¬ f = 25) : zNT σ lt ln 9 0 f = σ 9 0 f := by
  unfold zNT
  rw [zMn_9 h1, zMt_9 h2]
set_option maxRecDepth 3000 in
set_option maxHeartbeats 400000 in
theorem zNT_25 {σ : zR} {lt ln : List Nat} : zNT σ lt ln 9 0 25 = nI lt.length := by
  unfold zNT
  rw [zMn_9 (by decide), zMt_25]
set_option maxRecDepth 3000 in
set_option maxHeartbeats 400000 in
theorem zNT_k {σ : zR} {lt ln : List Nat} {p : Nat} : zrk (zNT σ lt ln) p = zrk σ p := by
  unfold zrk
  simp only [zNT_s (show ¬ 17 = 9 by decide) (show ¬ 17 = 31 by decide) (show ¬ 17 = 32 by decide), zNT_s (show ¬ 18 = 9 by decide) (show ¬ 18 = 31 by decide) (show ¬ 18 = 32 by decide), zNT_s (show ¬ 19 = 9 by decide) (show ¬ 19 = 31 by decide) (show ¬ 19 = 32 by decide), zNT_s (show ¬ 20 = 9 by decide) (show ¬ 20 = 31 by decide) (show ¬ 20 = 32 by decide), zNT_s (show ¬ 30 = 9 by decide) (show ¬ 30 = 31 by decide) (show ¬ 30 = 32 by decide)]
set_option maxRecDepth 3000 in
set_option maxHeartbeats 400000 in
theorem zNT_t {σ : zR} {lt ln : List Nat} {c : Nat} : zw (zw (zNT σ lt ln) 32 0 lt.length (nI c)) 9 0 25 (nI (lt.length + 1)) = zNT σ (lt ++ [c]) ln := by
  show zw (zw (zMn (zMt σ lt) ln) 32 0 lt.length (nI c)) 9 0 25 (nI (lt.length + 1)) = zMn (zMt σ (lt ++ [c])) ln
  rw [← zMt_add]
  funext s i f
  unfold zMn
  simp only [zw_ap]
  by_cases h1 : s = 9 ∧ i = 0 ∧ f = 25
  · rw [if_pos h1, if_neg (fun q => by omega), if_neg (fun q => by omega), if_pos h1]
  · simp only [if_neg h1]
    by_cases h2 : s = 32 ∧ i = 0 ∧ f = lt.length
    · rw [if_pos h2, if_neg (fun q => by omega), if_neg (fun q => by omega), if_pos h2]
    · simp only [if_neg h2]
noncomputable def zbm (σ : zR) (p : Nat) : zR := @ite _ (zbg σ p) (Classical.propDecidable _) (zw (zb2 (zX σ (zrk σ p)) p (zrk σ p) (fun k => σ 17 0 (4 * p + k))) 19 0 p (σ 30 0 p)) (zw (zb1 (zX σ (zrk σ p)) p (zrk σ p)) 19 0 p (if σ 19 0 p < σ 30 0 p then σ 30 0 p else σ 19 0 p))
set_option maxRecDepth 3000 in
set_option maxHeartbeats 400000 in
theorem m_become {d p : Nat} {G : zG} {σ : zR} {o : zmO} (hp : p < 10) : zm_Calls (d + 3) 61 [.inr (.inr (some (9, 0))), .inl (nI p)] (zh G σ) o ↔ o = (none, zh G (zbm σ p)) := by
  unfold zbm
  by_cases h : zbg σ p
  · rw [if_pos h]; exact m_become_y hp h
  · rw [if_neg h]; exact m_become_n hp h
set_option maxRecDepth 3000 in
set_option maxHeartbeats 400000 in
theorem zNT_b {σ : zR} {lt ln : List Nat} {p : Nat} : zbm (zNT σ lt ln) p = zNT (zbm σ p) lt ln := by
  have e17 : zNT σ lt ln 17 = σ 17 := zNT_s (by decide) (by decide) (by decide)
  have e19 : zNT σ lt ln 19 = σ 19 := zNT_s (by decide) (by decide) (by decide)
  have e20 : zNT σ lt ln 20 = σ 20 := zNT_s (by decide) (by decide) (by decide)
  have e30 : zNT σ lt ln 30 = σ 30 := zNT_s (by decide) (by decide) (by decide)
  unfold zbm
  by_cases h : zbg σ p
  · have h2 : zbg (zNT σ lt ln) p := by unfold zbg; rw [e20, e17]; exact h
    rw [if_pos h, if_pos h2, zNT_k, zNT_X, e17, e30]
    unfold zb2
    simp only [zNT_w (show ¬ 17 = 9 by decide) (show ¬ 17 = 31 by decide) (show ¬ 17 = 32 by decide), zNT_w (show ¬ 18 = 9 by decide) (show ¬ 18 = 31 by decide) (show ¬ 18 = 32 by decide), zNT_w (show ¬ 19 = 9 by decide) (show ¬ 19 = 31 by decide) (show ¬ 19 = 32 by decide)]
  · have h2 : ¬ zbg (zNT σ lt ln) p := by unfold zbg; rw [e20, e17]; exact h
    rw [if_neg h, if_neg h2, zNT_k, zNT_X, e19, e30]
    unfold zb1
    simp only [zNT_w (show ¬ 17 = 9 by decide) (show ¬ 17 = 31 by decide) (show ¬ 17 = 32 by decide), zNT_w (show ¬ 19 = 9 by decide) (show ¬ 19 = 31 by decide) (show ¬ 19 = 32 by decide)]
set_option maxRecDepth 3000 in
set_option maxHeartbeats 400000 in
theorem zbm_s {σ : zR} {p s : Nat} (h1 : ¬ s = 17) (h2 : ¬ s = 18) (h3 : ¬ s = 19) (h4 : ¬ s = 33) : zbm σ p s = σ s := by
  unfold zbm
  split
  · unfold zb2
    simp only [zw_s h1, zw_s h2, zw_s h3, zX_s h4]
  · unfold zb1
    simp only [zw_s h1, zw_s h3, zX_s h4]
