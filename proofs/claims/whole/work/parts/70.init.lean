def zH0 (L : Nat) (xs : Nat → Int32) : zmH := zHM (zm_new (zHB (zm_new (zs_h0 L xs) 8 zB0 12)) 9 zM0 32)
def zG0 (L : Nat) (xs : Nat → Int32) : zG := ((L, xs), (zH0 L xs).1, (0, 0, 0))
def zS0 : zR := zw (zw (zw (fun _ _ _ => 0) 8 0 10 1) 9 0 8 1) 14 0 0 (-1)
set_option maxRecDepth 3000 in
set_option maxHeartbeats 400000 in
theorem zs_g8 {L : Nat} {xs : Nat → Int32} {s i : Nat} (h8 : 8 ≤ s) : zm_get (zs_h0 L xs) (s, i) = none := by
  show zs_ro L xs (s, i) = none
  unfold zs_ro
  dsimp only
  rw [if_neg (by omega), if_neg (by omega), if_neg (by omega), if_neg (by omega)]
set_option maxRecDepth 3000 in
set_option maxHeartbeats 400000 in
theorem zs_n0 {L : Nat} {xs : Nat → Int32} {s : Nat} : (zs_h0 L xs).2.1 s = 0 := rfl
set_option maxRecDepth 3000 in
set_option maxHeartbeats 400000 in
theorem zj_n {L : Nat} {xs : Nat → Int32} : ∀ s, (zH0 L xs).2.1 s = zn (zG0 L xs) s := by
  intro s
  rcases Nat.lt_or_ge s 47 with h | h
  · rcases (show s = 0 ∨ s = 1 ∨ s = 2 ∨ s = 3 ∨ s = 4 ∨ s = 5 ∨ s = 6 ∨ s = 7 ∨ s = 8 ∨ s = 9 ∨ s = 10 ∨ s = 11 ∨ s = 12 ∨ s = 13 ∨ s = 14 ∨ s = 15 ∨ s = 16 ∨ s = 17 ∨ s = 18 ∨ s = 19 ∨ s = 20 ∨ s = 21 ∨ s = 22 ∨ s = 23 ∨ s = 24 ∨ s = 25 ∨ s = 26 ∨ s = 27 ∨ s = 28 ∨ s = 29 ∨ s = 30 ∨ s = 31 ∨ s = 32 ∨ s = 33 ∨ s = 34 ∨ s = 35 ∨ s = 36 ∨ s = 37 ∨ s = 38 ∨ s = 39 ∨ s = 40 ∨ s = 41 ∨ s = 42 ∨ s = 43 ∨ s = 44 ∨ s = 45 ∨ s = 46 by omega) with rfl | rfl | rfl | rfl | rfl | rfl | rfl | rfl | rfl | rfl | rfl | rfl | rfl | rfl | rfl | rfl | rfl | rfl | rfl | rfl | rfl | rfl | rfl | rfl | rfl | rfl | rfl | rfl | rfl | rfl | rfl | rfl | rfl | rfl | rfl | rfl | rfl | rfl | rfl | rfl | rfl | rfl | rfl | rfl | rfl | rfl | rfl
    all_goals rfl
  · have e : ∀ k, k < 47 → (s = k) = False := fun k hk => eq_false (by omega)
    unfold zH0 zHM zHB
    simp only [zr_cn, zr_n1, zs_n0, e 8 (by decide), e 9 (by decide), e 10 (by decide), e 11 (by decide), e 12 (by decide), e 13 (by decide), e 14 (by decide), e 15 (by decide), e 16 (by decide), e 17 (by decide), e 18 (by decide), e 19 (by decide), e 20 (by decide), e 21 (by decide), e 22 (by decide), e 23 (by decide), e 24 (by decide), e 25 (by decide), e 26 (by decide), e 27 (by decide), e 28 (by decide), e 29 (by decide), e 30 (by decide), e 31 (by decide), e 32 (by decide), e 33 (by decide), e 34 (by decide), e 35 (by decide), e 36 (by decide), e 37 (by decide), e 38 (by decide), e 39 (by decide), e 40 (by decide), e 41 (by decide), e 42 (by decide), e 43 (by decide), e 44 (by decide), e 45 (by decide), e 46 (by decide), if_false]
    unfold zn
    rw [if_neg (by omega), if_neg (by omega), if_neg (by omega), if_neg (by omega), if_neg (by omega)]
set_option maxRecDepth 3000 in
set_option maxHeartbeats 400000 in
theorem zj_8 {L : Nat} {xs : Nat → Int32} {i : Nat} : zm_get (zH0 L xs) (8, i) = zc (zG0 L xs) 8 i (zS0 8 i) := by
  by_cases h0 : i = 0
  · subst h0; rfl
  · unfold zH0 zHM zHB
    simp only [zm_get_set, zm_get_new, zr_cn, zr_n1, zs_n0, Prod.mk.injEq, Nat.reduceEqDiff, false_and, and_false, true_and, if_false, if_true, h0, zs_g8 (show 8 ≤ 8 by decide)]
    exact (if_neg h0).symm
set_option maxRecDepth 3000 in
set_option maxHeartbeats 400000 in
theorem zj_9 {L : Nat} {xs : Nat → Int32} {i : Nat} : zm_get (zH0 L xs) (9, i) = zc (zG0 L xs) 9 i (zS0 9 i) := by
  by_cases h0 : i = 0
  · subst h0; rfl
  · unfold zH0 zHM zHB
    simp only [zm_get_set, zm_get_new, zr_cn, zr_n1, zs_n0, Prod.mk.injEq, Nat.reduceEqDiff, false_and, and_false, true_and, if_false, if_true, h0, zs_g8 (show 8 ≤ 9 by decide)]
    exact (if_neg h0).symm
set_option maxRecDepth 3000 in
set_option maxHeartbeats 400000 in
theorem zj_10 {L : Nat} {xs : Nat → Int32} {i : Nat} : zm_get (zH0 L xs) (10, i) = zc (zG0 L xs) 10 i (zS0 10 i) := by
  by_cases h0 : i = 0
  · subst h0; rfl
  · unfold zH0 zHM zHB
    simp only [zm_get_set, zm_get_new, zr_cn, zr_n1, zs_n0, Prod.mk.injEq, Nat.reduceEqDiff, false_and, and_false, true_and, if_false, if_true, h0, zs_g8 (show 8 ≤ 10 by decide)]
    exact (if_neg h0).symm
set_option maxRecDepth 3000 in
set_option maxHeartbeats 400000 in
theorem zj_11 {L : Nat} {xs : Nat → Int32} {i : Nat} : zm_get (zH0 L xs) (11, i) = zc (zG0 L xs) 11 i (zS0 11 i) := by
  by_cases h0 : i = 0
  · subst h0; rfl
  · unfold zH0 zHM zHB
    simp only [zm_get_set, zm_get_new, zr_cn, zr_n1, zs_n0, Prod.mk.injEq, Nat.reduceEqDiff, false_and, and_false, true_and, if_false, if_true, h0, zs_g8 (show 8 ≤ 11 by decide)]
    exact (if_neg h0).symm
set_option maxRecDepth 3000 in
set_option maxHeartbeats 400000 in
theorem zj_12 {L : Nat} {xs : Nat → Int32} {i : Nat} : zm_get (zH0 L xs) (12, i) = zc (zG0 L xs) 12 i (zS0 12 i) := by
  by_cases h0 : i = 0
  · subst h0; rfl
  · unfold zH0 zHM zHB
    simp only [zm_get_set, zm_get_new, zr_cn, zr_n1, zs_n0, Prod.mk.injEq, Nat.reduceEqDiff, false_and, and_false, true_and, if_false, if_true, h0, zs_g8 (show 8 ≤ 12 by decide)]
    exact (if_neg h0).symm
set_option maxRecDepth 3000 in
set_option maxHeartbeats 400000 in
theorem zj_13 {L : Nat} {xs : Nat → Int32} {i : Nat} : zm_get (zH0 L xs) (13, i) = zc (zG0 L xs) 13 i (zS0 13 i) := by
  by_cases h0 : i = 0
  · subst h0; rfl
  · unfold zH0 zHM zHB
    simp only [zm_get_set, zm_get_new, zr_cn, zr_n1, zs_n0, Prod.mk.injEq, Nat.reduceEqDiff, false_and, and_false, true_and, if_false, if_true, h0, zs_g8 (show 8 ≤ 13 by decide)]
    exact (if_neg h0).symm
set_option maxRecDepth 3000 in
set_option maxHeartbeats 400000 in
theorem zj_14 {L : Nat} {xs : Nat → Int32} {i : Nat} : zm_get (zH0 L xs) (14, i) = zc (zG0 L xs) 14 i (zS0 14 i) := by
  by_cases h0 : i = 0
  · subst h0; rfl
  · unfold zH0 zHM zHB
    simp only [zm_get_set, zm_get_new, zr_cn, zr_n1, zs_n0, Prod.mk.injEq, Nat.reduceEqDiff, false_and, and_false, true_and, if_false, if_true, h0, zs_g8 (show 8 ≤ 14 by decide)]
    exact (if_neg h0).symm
set_option maxRecDepth 3000 in
set_option maxHeartbeats 400000 in
theorem zj_15 {L : Nat} {xs : Nat → Int32} {i : Nat} : zm_get (zH0 L xs) (15, i) = zc (zG0 L xs) 15 i (zS0 15 i) := by
  by_cases h0 : i = 0
  · subst h0; rfl
  · unfold zH0 zHM zHB
    simp only [zm_get_set, zm_get_new, zr_cn, zr_n1, zs_n0, Prod.mk.injEq, Nat.reduceEqDiff, false_and, and_false, true_and, if_false, if_true, h0, zs_g8 (show 8 ≤ 15 by decide)]
    exact (if_neg h0).symm
set_option maxRecDepth 3000 in
set_option maxHeartbeats 400000 in
theorem zj_16 {L : Nat} {xs : Nat → Int32} {i : Nat} : zm_get (zH0 L xs) (16, i) = zc (zG0 L xs) 16 i (zS0 16 i) := by
  by_cases h0 : i = 0
  · subst h0; rfl
  · unfold zH0 zHM zHB
    simp only [zm_get_set, zm_get_new, zr_cn, zr_n1, zs_n0, Prod.mk.injEq, Nat.reduceEqDiff, false_and, and_false, true_and, if_false, if_true, h0, zs_g8 (show 8 ≤ 16 by decide)]
    exact (if_neg h0).symm
set_option maxRecDepth 3000 in
set_option maxHeartbeats 400000 in
theorem zj_17 {L : Nat} {xs : Nat → Int32} {i : Nat} : zm_get (zH0 L xs) (17, i) = zc (zG0 L xs) 17 i (zS0 17 i) := by
  by_cases h0 : i = 0
  · subst h0; rfl
  · unfold zH0 zHM zHB
    simp only [zm_get_set, zm_get_new, zr_cn, zr_n1, zs_n0, Prod.mk.injEq, Nat.reduceEqDiff, false_and, and_false, true_and, if_false, if_true, h0, zs_g8 (show 8 ≤ 17 by decide)]
    exact (if_neg h0).symm
set_option maxRecDepth 3000 in
set_option maxHeartbeats 400000 in
theorem zj_18 {L : Nat} {xs : Nat → Int32} {i : Nat} : zm_get (zH0 L xs) (18, i) = zc (zG0 L xs) 18 i (zS0 18 i) := by
  by_cases h0 : i = 0
  · subst h0; rfl
  · unfold zH0 zHM zHB
    simp only [zm_get_set, zm_get_new, zr_cn, zr_n1, zs_n0, Prod.mk.injEq, Nat.reduceEqDiff, false_and, and_false, true_and, if_false, if_true, h0, zs_g8 (show 8 ≤ 18 by decide)]
    exact (if_neg h0).symm
set_option maxRecDepth 3000 in
set_option maxHeartbeats 400000 in
theorem zj_19 {L : Nat} {xs : Nat → Int32} {i : Nat} : zm_get (zH0 L xs) (19, i) = zc (zG0 L xs) 19 i (zS0 19 i) := by
  by_cases h0 : i = 0
  · subst h0; rfl
  · unfold zH0 zHM zHB
    simp only [zm_get_set, zm_get_new, zr_cn, zr_n1, zs_n0, Prod.mk.injEq, Nat.reduceEqDiff, false_and, and_false, true_and, if_false, if_true, h0, zs_g8 (show 8 ≤ 19 by decide)]
    exact (if_neg h0).symm
set_option maxRecDepth 3000 in
set_option maxHeartbeats 400000 in
theorem zj_20 {L : Nat} {xs : Nat → Int32} {i : Nat} : zm_get (zH0 L xs) (20, i) = zc (zG0 L xs) 20 i (zS0 20 i) := by
  by_cases h0 : i = 0
  · subst h0; rfl
  · unfold zH0 zHM zHB
    simp only [zm_get_set, zm_get_new, zr_cn, zr_n1, zs_n0, Prod.mk.injEq, Nat.reduceEqDiff, false_and, and_false, true_and, if_false, if_true, h0, zs_g8 (show 8 ≤ 20 by decide)]
    exact (if_neg h0).symm
set_option maxRecDepth 3000 in
set_option maxHeartbeats 400000 in
theorem zj_21 {L : Nat} {xs : Nat → Int32} {i : Nat} : zm_get (zH0 L xs) (21, i) = zc (zG0 L xs) 21 i (zS0 21 i) := by
  by_cases h0 : i = 0
  · subst h0; rfl
  · unfold zH0 zHM zHB
    simp only [zm_get_set, zm_get_new, zr_cn, zr_n1, zs_n0, Prod.mk.injEq, Nat.reduceEqDiff, false_and, and_false, true_and, if_false, if_true, h0, zs_g8 (show 8 ≤ 21 by decide)]
    exact (if_neg h0).symm
set_option maxRecDepth 3000 in
set_option maxHeartbeats 400000 in
theorem zj_22 {L : Nat} {xs : Nat → Int32} {i : Nat} : zm_get (zH0 L xs) (22, i) = zc (zG0 L xs) 22 i (zS0 22 i) := by
  by_cases h0 : i = 0
  · subst h0; rfl
  · unfold zH0 zHM zHB
    simp only [zm_get_set, zm_get_new, zr_cn, zr_n1, zs_n0, Prod.mk.injEq, Nat.reduceEqDiff, false_and, and_false, true_and, if_false, if_true, h0, zs_g8 (show 8 ≤ 22 by decide)]
    exact (if_neg h0).symm
set_option maxRecDepth 3000 in
set_option maxHeartbeats 400000 in
theorem zj_23 {L : Nat} {xs : Nat → Int32} {i : Nat} : zm_get (zH0 L xs) (23, i) = zc (zG0 L xs) 23 i (zS0 23 i) := by
  by_cases h0 : i = 0
  · subst h0; rfl
  · unfold zH0 zHM zHB
    simp only [zm_get_set, zm_get_new, zr_cn, zr_n1, zs_n0, Prod.mk.injEq, Nat.reduceEqDiff, false_and, and_false, true_and, if_false, if_true, h0, zs_g8 (show 8 ≤ 23 by decide)]
    exact (if_neg h0).symm
set_option maxRecDepth 3000 in
set_option maxHeartbeats 400000 in
theorem zj_24 {L : Nat} {xs : Nat → Int32} {i : Nat} : zm_get (zH0 L xs) (24, i) = zc (zG0 L xs) 24 i (zS0 24 i) := by
  by_cases h0 : i = 0
  · subst h0; rfl
  · unfold zH0 zHM zHB
    simp only [zm_get_set, zm_get_new, zr_cn, zr_n1, zs_n0, Prod.mk.injEq, Nat.reduceEqDiff, false_and, and_false, true_and, if_false, if_true, h0, zs_g8 (show 8 ≤ 24 by decide)]
    exact (if_neg h0).symm
set_option maxRecDepth 3000 in
set_option maxHeartbeats 400000 in
theorem zj_25 {L : Nat} {xs : Nat → Int32} {i : Nat} : zm_get (zH0 L xs) (25, i) = zc (zG0 L xs) 25 i (zS0 25 i) := by
  by_cases h0 : i = 0
  · subst h0; rfl
  · unfold zH0 zHM zHB
    simp only [zm_get_set, zm_get_new, zr_cn, zr_n1, zs_n0, Prod.mk.injEq, Nat.reduceEqDiff, false_and, and_false, true_and, if_false, if_true, h0, zs_g8 (show 8 ≤ 25 by decide)]
    exact (if_neg h0).symm
set_option maxRecDepth 3000 in
set_option maxHeartbeats 400000 in
theorem zj_26 {L : Nat} {xs : Nat → Int32} {i : Nat} : zm_get (zH0 L xs) (26, i) = zc (zG0 L xs) 26 i (zS0 26 i) := by
  by_cases h0 : i = 0
  · subst h0; rfl
  · unfold zH0 zHM zHB
    simp only [zm_get_set, zm_get_new, zr_cn, zr_n1, zs_n0, Prod.mk.injEq, Nat.reduceEqDiff, false_and, and_false, true_and, if_false, if_true, h0, zs_g8 (show 8 ≤ 26 by decide)]
    exact (if_neg h0).symm
set_option maxRecDepth 3000 in
set_option maxHeartbeats 400000 in
theorem zj_27 {L : Nat} {xs : Nat → Int32} {i : Nat} : zm_get (zH0 L xs) (27, i) = zc (zG0 L xs) 27 i (zS0 27 i) := by
  by_cases h0 : i = 0
  · subst h0; rfl
  · unfold zH0 zHM zHB
    simp only [zm_get_set, zm_get_new, zr_cn, zr_n1, zs_n0, Prod.mk.injEq, Nat.reduceEqDiff, false_and, and_false, true_and, if_false, if_true, h0, zs_g8 (show 8 ≤ 27 by decide)]
    exact (if_neg h0).symm
set_option maxRecDepth 3000 in
set_option maxHeartbeats 400000 in
theorem zj_28 {L : Nat} {xs : Nat → Int32} {i : Nat} : zm_get (zH0 L xs) (28, i) = zc (zG0 L xs) 28 i (zS0 28 i) := by
  by_cases h0 : i = 0
  · subst h0; rfl
  · unfold zH0 zHM zHB
    simp only [zm_get_set, zm_get_new, zr_cn, zr_n1, zs_n0, Prod.mk.injEq, Nat.reduceEqDiff, false_and, and_false, true_and, if_false, if_true, h0, zs_g8 (show 8 ≤ 28 by decide)]
    exact (if_neg h0).symm
set_option maxRecDepth 3000 in
set_option maxHeartbeats 400000 in
theorem zj_29 {L : Nat} {xs : Nat → Int32} {i : Nat} : zm_get (zH0 L xs) (29, i) = zc (zG0 L xs) 29 i (zS0 29 i) := by
  by_cases h0 : i = 0
  · subst h0; rfl
  · unfold zH0 zHM zHB
    simp only [zm_get_set, zm_get_new, zr_cn, zr_n1, zs_n0, Prod.mk.injEq, Nat.reduceEqDiff, false_and, and_false, true_and, if_false, if_true, h0, zs_g8 (show 8 ≤ 29 by decide)]
    exact (if_neg h0).symm
set_option maxRecDepth 3000 in
set_option maxHeartbeats 400000 in
theorem zj_30 {L : Nat} {xs : Nat → Int32} {i : Nat} : zm_get (zH0 L xs) (30, i) = zc (zG0 L xs) 30 i (zS0 30 i) := by
  by_cases h0 : i = 0
  · subst h0; rfl
  · unfold zH0 zHM zHB
    simp only [zm_get_set, zm_get_new, zr_cn, zr_n1, zs_n0, Prod.mk.injEq, Nat.reduceEqDiff, false_and, and_false, true_and, if_false, if_true, h0, zs_g8 (show 8 ≤ 30 by decide)]
    exact (if_neg h0).symm
set_option maxRecDepth 3000 in
set_option maxHeartbeats 400000 in
theorem zj_31 {L : Nat} {xs : Nat → Int32} {i : Nat} : zm_get (zH0 L xs) (31, i) = zc (zG0 L xs) 31 i (zS0 31 i) := by
  by_cases h0 : i = 0
  · subst h0; rfl
  · unfold zH0 zHM zHB
    simp only [zm_get_set, zm_get_new, zr_cn, zr_n1, zs_n0, Prod.mk.injEq, Nat.reduceEqDiff, false_and, and_false, true_and, if_false, if_true, h0, zs_g8 (show 8 ≤ 31 by decide)]
    exact (if_neg h0).symm
set_option maxRecDepth 3000 in
set_option maxHeartbeats 400000 in
theorem zj_32 {L : Nat} {xs : Nat → Int32} {i : Nat} : zm_get (zH0 L xs) (32, i) = zc (zG0 L xs) 32 i (zS0 32 i) := by
  by_cases h0 : i = 0
  · subst h0; rfl
  · unfold zH0 zHM zHB
    simp only [zm_get_set, zm_get_new, zr_cn, zr_n1, zs_n0, Prod.mk.injEq, Nat.reduceEqDiff, false_and, and_false, true_and, if_false, if_true, h0, zs_g8 (show 8 ≤ 32 by decide)]
    exact (if_neg h0).symm
set_option maxRecDepth 3000 in
set_option maxHeartbeats 400000 in
theorem zj_33 {L : Nat} {xs : Nat → Int32} {i : Nat} : zm_get (zH0 L xs) (33, i) = zc (zG0 L xs) 33 i (zS0 33 i) := by
  by_cases h0 : i = 0
  · subst h0; rfl
  · unfold zH0 zHM zHB
    simp only [zm_get_set, zm_get_new, zr_cn, zr_n1, zs_n0, Prod.mk.injEq, Nat.reduceEqDiff, false_and, and_false, true_and, if_false, if_true, h0, zs_g8 (show 8 ≤ 33 by decide)]
    exact (if_neg h0).symm
set_option maxRecDepth 3000 in
set_option maxHeartbeats 400000 in
theorem zj_34 {L : Nat} {xs : Nat → Int32} {i : Nat} : zm_get (zH0 L xs) (34, i) = zc (zG0 L xs) 34 i (zS0 34 i) := by
  by_cases h0 : i = 0
  · subst h0; rfl
  · unfold zH0 zHM zHB
    simp only [zm_get_set, zm_get_new, zr_cn, zr_n1, zs_n0, Prod.mk.injEq, Nat.reduceEqDiff, false_and, and_false, true_and, if_false, if_true, h0, zs_g8 (show 8 ≤ 34 by decide)]
    exact (if_neg h0).symm
set_option maxRecDepth 3000 in
set_option maxHeartbeats 400000 in
theorem zj_35 {L : Nat} {xs : Nat → Int32} {i : Nat} : zm_get (zH0 L xs) (35, i) = zc (zG0 L xs) 35 i (zS0 35 i) := by
  by_cases h0 : i = 0
  · subst h0; rfl
  · unfold zH0 zHM zHB
    simp only [zm_get_set, zm_get_new, zr_cn, zr_n1, zs_n0, Prod.mk.injEq, Nat.reduceEqDiff, false_and, and_false, true_and, if_false, if_true, h0, zs_g8 (show 8 ≤ 35 by decide)]
    exact (if_neg h0).symm
set_option maxRecDepth 3000 in
set_option maxHeartbeats 400000 in
theorem zj_36 {L : Nat} {xs : Nat → Int32} {i : Nat} : zm_get (zH0 L xs) (36, i) = zc (zG0 L xs) 36 i (zS0 36 i) := by
  by_cases h0 : i = 0
  · subst h0; rfl
  · unfold zH0 zHM zHB
    simp only [zm_get_set, zm_get_new, zr_cn, zr_n1, zs_n0, Prod.mk.injEq, Nat.reduceEqDiff, false_and, and_false, true_and, if_false, if_true, h0, zs_g8 (show 8 ≤ 36 by decide)]
    exact (if_neg h0).symm
set_option maxRecDepth 3000 in
set_option maxHeartbeats 400000 in
theorem zj_37 {L : Nat} {xs : Nat → Int32} {i : Nat} : zm_get (zH0 L xs) (37, i) = zc (zG0 L xs) 37 i (zS0 37 i) := by
  unfold zH0 zHM zHB
  simp only [zm_get_set, zm_get_new, zr_cn, zr_n1, zs_n0, Prod.mk.injEq, Nat.reduceEqDiff, false_and, and_false, true_and, if_false, if_true, zs_g8 (show 8 ≤ 37 by decide)]
  symm
  show zc37 (zG0 L xs) i (zS0 37 i) = none
  unfold zc37
  exact if_neg (Nat.not_lt_zero i)
set_option maxRecDepth 3000 in
set_option maxHeartbeats 400000 in
theorem zj_38 {L : Nat} {xs : Nat → Int32} {i : Nat} : zm_get (zH0 L xs) (38, i) = zc (zG0 L xs) 38 i (zS0 38 i) := by
  unfold zH0 zHM zHB
  simp only [zm_get_set, zm_get_new, zr_cn, zr_n1, zs_n0, Prod.mk.injEq, Nat.reduceEqDiff, false_and, and_false, true_and, if_false, if_true, zs_g8 (show 8 ≤ 38 by decide)]
  symm
  show zc38 (zG0 L xs) i (zS0 38 i) = none
  unfold zc38
  exact if_neg (Nat.not_lt_zero i)
set_option maxRecDepth 3000 in
set_option maxHeartbeats 400000 in
theorem zj_39 {L : Nat} {xs : Nat → Int32} {i : Nat} : zm_get (zH0 L xs) (39, i) = zc (zG0 L xs) 39 i (zS0 39 i) := by
  by_cases h0 : i = 0
  · subst h0; rfl
  · unfold zH0 zHM zHB
    simp only [zm_get_set, zm_get_new, zr_cn, zr_n1, zs_n0, Prod.mk.injEq, Nat.reduceEqDiff, false_and, and_false, true_and, if_false, if_true, h0, zs_g8 (show 8 ≤ 39 by decide)]
    exact (if_neg h0).symm
set_option maxRecDepth 3000 in
set_option maxHeartbeats 400000 in
theorem zj_40 {L : Nat} {xs : Nat → Int32} {i : Nat} : zm_get (zH0 L xs) (40, i) = zc (zG0 L xs) 40 i (zS0 40 i) := by
  by_cases h0 : i = 0
  · subst h0; rfl
  · by_cases h1 : i = 1
    · subst h1; rfl
    · unfold zH0 zHM zHB
      simp only [zm_get_set, zm_get_new, zr_cn, zr_n1, zs_n0, Prod.mk.injEq, Nat.reduceEqDiff, false_and, and_false, true_and, if_false, if_true, h0, h1, zs_g8 (show 8 ≤ 40 by decide)]
      exact ((if_neg h0).trans (if_neg h1)).symm
set_option maxRecDepth 3000 in
set_option maxHeartbeats 400000 in
theorem zj_41 {L : Nat} {xs : Nat → Int32} {i : Nat} : zm_get (zH0 L xs) (41, i) = zc (zG0 L xs) 41 i (zS0 41 i) := by
  unfold zH0 zHM zHB
  simp only [zm_get_set, zm_get_new, zr_cn, zr_n1, zs_n0, Prod.mk.injEq, Nat.reduceEqDiff, false_and, and_false, true_and, if_false, if_true, zs_g8 (show 8 ≤ 41 by decide)]
  symm
  show zc41 (zG0 L xs) i (zS0 41 i) = none
  unfold zc41
  exact if_neg (Nat.not_lt_zero i)
set_option maxRecDepth 3000 in
set_option maxHeartbeats 400000 in
theorem zj_42 {L : Nat} {xs : Nat → Int32} {i : Nat} : zm_get (zH0 L xs) (42, i) = zc (zG0 L xs) 42 i (zS0 42 i) := by
  unfold zH0 zHM zHB
  simp only [zm_get_set, zm_get_new, zr_cn, zr_n1, zs_n0, Prod.mk.injEq, Nat.reduceEqDiff, false_and, and_false, true_and, if_false, if_true, zs_g8 (show 8 ≤ 42 by decide)]
  symm
  show zc42 (zG0 L xs) i (zS0 42 i) = none
  unfold zc42
  exact if_neg (Nat.not_lt_zero i)
set_option maxRecDepth 3000 in
set_option maxHeartbeats 400000 in
theorem zj_43 {L : Nat} {xs : Nat → Int32} {i : Nat} : zm_get (zH0 L xs) (43, i) = zc (zG0 L xs) 43 i (zS0 43 i) := by
  unfold zH0 zHM zHB
  simp only [zm_get_set, zm_get_new, zr_cn, zr_n1, zs_n0, Prod.mk.injEq, Nat.reduceEqDiff, false_and, and_false, true_and, if_false, if_true, zs_g8 (show 8 ≤ 43 by decide)]
  symm
  show zc43 (zG0 L xs) i (zS0 43 i) = none
  unfold zc43
  exact if_neg (Nat.not_lt_zero i)
set_option maxRecDepth 3000 in
set_option maxHeartbeats 400000 in
theorem zj_44 {L : Nat} {xs : Nat → Int32} {i : Nat} : zm_get (zH0 L xs) (44, i) = zc (zG0 L xs) 44 i (zS0 44 i) := by
  unfold zH0 zHM zHB
  simp only [zm_get_set, zm_get_new, zr_cn, zr_n1, zs_n0, Prod.mk.injEq, Nat.reduceEqDiff, false_and, and_false, true_and, if_false, if_true, zs_g8 (show 8 ≤ 44 by decide)]
  symm
  show zc44 (zG0 L xs) i (zS0 44 i) = none
  unfold zc44
  exact if_neg (Nat.not_lt_zero i)
set_option maxRecDepth 3000 in
set_option maxHeartbeats 400000 in
theorem zj_45 {L : Nat} {xs : Nat → Int32} {i : Nat} : zm_get (zH0 L xs) (45, i) = zc (zG0 L xs) 45 i (zS0 45 i) := by
  unfold zH0 zHM zHB
  simp only [zm_get_set, zm_get_new, zr_cn, zr_n1, zs_n0, Prod.mk.injEq, Nat.reduceEqDiff, false_and, and_false, true_and, if_false, if_true, zs_g8 (show 8 ≤ 45 by decide)]
  symm
  show zc45 (zG0 L xs) i (zS0 45 i) = none
  unfold zc45
  exact if_neg (Nat.not_lt_zero i)
set_option maxRecDepth 3000 in
set_option maxHeartbeats 400000 in
theorem zj_46 {L : Nat} {xs : Nat → Int32} {i : Nat} : zm_get (zH0 L xs) (46, i) = zc (zG0 L xs) 46 i (zS0 46 i) := by
  unfold zH0 zHM zHB
  simp only [zm_get_set, zm_get_new, zr_cn, zr_n1, zs_n0, Prod.mk.injEq, Nat.reduceEqDiff, false_and, and_false, true_and, if_false, if_true, zs_g8 (show 8 ≤ 46 by decide)]
  symm
  show zc46 (zG0 L xs) i (zS0 46 i) = none
  unfold zc46
  exact if_neg (Nat.not_lt_zero i)
set_option maxRecDepth 3000 in
set_option maxHeartbeats 400000 in
theorem zj_hi {L : Nat} {xs : Nat → Int32} {s i : Nat} (h : 47 ≤ s) : zm_get (zH0 L xs) (s, i) = none := by
  have e : ∀ k, k < 47 → (s = k) = False := fun k hk => eq_false (by omega)
  unfold zH0 zHM zHB
  simp only [zm_get_set, zm_get_new, Prod.mk.injEq, e 8 (by decide), e 9 (by decide), e 10 (by decide), e 11 (by decide), e 12 (by decide), e 13 (by decide), e 14 (by decide), e 15 (by decide), e 16 (by decide), e 17 (by decide), e 18 (by decide), e 19 (by decide), e 20 (by decide), e 21 (by decide), e 22 (by decide), e 23 (by decide), e 24 (by decide), e 25 (by decide), e 26 (by decide), e 27 (by decide), e 28 (by decide), e 29 (by decide), e 30 (by decide), e 31 (by decide), e 32 (by decide), e 33 (by decide), e 34 (by decide), e 35 (by decide), e 36 (by decide), e 37 (by decide), e 38 (by decide), e 39 (by decide), e 40 (by decide), e 41 (by decide), e 42 (by decide), e 43 (by decide), e 44 (by decide), e 45 (by decide), e 46 (by decide), false_and, if_false]
  exact zs_g8 (by omega)
set_option maxRecDepth 3000 in
set_option maxHeartbeats 400000 in
theorem zj_lo {L : Nat} {xs : Nat → Int32} {s i : Nat} (h : s < 8) : zm_get (zH0 L xs) (s, i) = zs_ro L xs (s, i) := by
  have e : ∀ k, 8 ≤ k → (s = k) = False := fun k hk => eq_false (by omega)
  unfold zH0 zHM zHB
  simp only [zm_get_set, zm_get_new, Prod.mk.injEq, e 8 (by decide), e 9 (by decide), e 10 (by decide), e 11 (by decide), e 12 (by decide), e 13 (by decide), e 14 (by decide), e 15 (by decide), e 16 (by decide), e 17 (by decide), e 18 (by decide), e 19 (by decide), e 20 (by decide), e 21 (by decide), e 22 (by decide), e 23 (by decide), e 24 (by decide), e 25 (by decide), e 26 (by decide), e 27 (by decide), e 28 (by decide), e 29 (by decide), e 30 (by decide), e 31 (by decide), e 32 (by decide), e 33 (by decide), e 34 (by decide), e 35 (by decide), e 36 (by decide), e 37 (by decide), e 38 (by decide), e 39 (by decide), e 40 (by decide), e 41 (by decide), e 42 (by decide), e 43 (by decide), e 44 (by decide), e 45 (by decide), e 46 (by decide), false_and, if_false]
  rfl
set_option maxRecDepth 3000 in
set_option maxHeartbeats 400000 in
theorem zH0_eq {L : Nat} {xs : Nat → Int32} : zH0 L xs = zh (zG0 L xs) zS0 := by
  refine zh_eq rfl zj_n (fun s i h8 => ?_) (fun k hk => ?_)
  · rcases Nat.lt_or_ge s 47 with h | h
    · rcases (show s = 8 ∨ s = 9 ∨ s = 10 ∨ s = 11 ∨ s = 12 ∨ s = 13 ∨ s = 14 ∨ s = 15 ∨ s = 16 ∨ s = 17 ∨ s = 18 ∨ s = 19 ∨ s = 20 ∨ s = 21 ∨ s = 22 ∨ s = 23 ∨ s = 24 ∨ s = 25 ∨ s = 26 ∨ s = 27 ∨ s = 28 ∨ s = 29 ∨ s = 30 ∨ s = 31 ∨ s = 32 ∨ s = 33 ∨ s = 34 ∨ s = 35 ∨ s = 36 ∨ s = 37 ∨ s = 38 ∨ s = 39 ∨ s = 40 ∨ s = 41 ∨ s = 42 ∨ s = 43 ∨ s = 44 ∨ s = 45 ∨ s = 46 by omega) with rfl | rfl | rfl | rfl | rfl | rfl | rfl | rfl | rfl | rfl | rfl | rfl | rfl | rfl | rfl | rfl | rfl | rfl | rfl | rfl | rfl | rfl | rfl | rfl | rfl | rfl | rfl | rfl | rfl | rfl | rfl | rfl | rfl | rfl | rfl | rfl | rfl | rfl | rfl
      · exact zj_8
      · exact zj_9
      · exact zj_10
      · exact zj_11
      · exact zj_12
      · exact zj_13
      · exact zj_14
      · exact zj_15
      · exact zj_16
      · exact zj_17
      · exact zj_18
      · exact zj_19
      · exact zj_20
      · exact zj_21
      · exact zj_22
      · exact zj_23
      · exact zj_24
      · exact zj_25
      · exact zj_26
      · exact zj_27
      · exact zj_28
      · exact zj_29
      · exact zj_30
      · exact zj_31
      · exact zj_32
      · exact zj_33
      · exact zj_34
      · exact zj_35
      · exact zj_36
      · exact zj_37
      · exact zj_38
      · exact zj_39
      · exact zj_40
      · exact zj_41
      · exact zj_42
      · exact zj_43
      · exact zj_44
      · exact zj_45
      · exact zj_46
    · rw [zj_hi h]
      unfold zc
      rw [List.getD_eq_getElem?_getD, List.getElem?_eq_none (by show 39 ≤ s - 8; omega)]
      rfl
  · obtain ⟨k1, k2⟩ := k
    exact zj_lo hk
