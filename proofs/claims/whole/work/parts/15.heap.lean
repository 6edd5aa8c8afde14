abbrev zR : Type := Nat → Nat → Nat → Int32
abbrev zG : Type := (Nat × (Nat → Int32)) × (Nat × Nat) × (Nat × Nat × Nat)
def zc8 (G : zG) (i : Nat) (r : Nat → Int32) : Option zmC := (fun i r => if i = 0 then some (.inr (0, [.inr (.inr (some (10, 0))), .inl (r 1), .inr (.inr (some (11, 0))), .inl (r 3), .inr (.inr (some (12, 0))), .inl (r 5), .inr (.inr (some (13, 0))), .inr (.inr (some (14, 0))), .inr (.inr (some (15, 0))), .inr (.inr (some (16, 0))), .inl (r 10), .inl (r 11)])) else none) i r
def zc9 (G : zG) (i : Nat) (r : Nat → Int32) : Option zmC := (fun i r => if i = 0 then some (.inr (1, [.inl (r 0), .inl (r 1), .inr (.inr (some (17, 0))), .inr (.inr (some (18, 0))), .inr (.inr (some (19, 0))), .inr (.inr (some (20, 0))), .inr (.inr (some (21, 0))), .inr (.inr (some (22, 0))), .inl (r 8), .inr (.inr (some (23, 0))), .inl (r 10), .inl (r 11), .inr (.inr (some (24, 0))), .inr (.inr (some (25, 0))), .inr (.inr (some (26, 0))), .inr (.inr (some (27, 0))), .inr (.inr (some (28, 0))), .inr (.inr (some (29, 0))), .inl (r 18), .inl (r 19), .inl (r 20), .inl (r 21), .inr (.inr (some (30, 0))), .inl (r 23), .inr (.inr (some (31, 0))), .inl (r 25), .inr (.inr (some (32, 0))), .inr (.inr (some (33, 0))), .inl (r 28), .inr (.inr (some (34, 0))), .inr (.inr (some (35, 0))), .inr (.inr (some (36, 0)))])) else none) i r
def zc10 (G : zG) (i : Nat) (r : Nat → Int32) : Option zmC := (fun i _ => if i = 0 then some (.inl (.object "BumpNotes$Pack", 10, .inr fun j => if j < G.2.2.1 then some (37, j) else none)) else none) i r
def zc11 (G : zG) (i : Nat) (r : Nat → Int32) : Option zmC := (fun i _ => if i = 0 then some (.inl (.object "BumpNotes$Change", 60, .inr fun j => if j < G.2.2.2.1 then some (45, j) else none)) else none) i r
def zc12 (G : zG) (i : Nat) (r : Nat → Int32) : Option zmC := (fun i _ => if i = 0 then some (.inl (.object "BumpNotes$Tag", 100, .inr fun j => if j < G.2.2.2.2 then some (38, j) else none)) else none) i r
def zc13 (G : zG) (i : Nat) (r : Nat → Int32) : Option zmC := (fun i r => if i = 0 then some (.inr (2, [.inr (.inr (some (39, 0))), .inl (r 1)])) else none) i r
def zc14 (G : zG) (i : Nat) (r : Nat → Int32) : Option zmC := (fun i r => if i = 0 then some (.inr (3, [.inl (r 0), .inl (r 1), .inl (r 2)])) else none) i r
def zc15 (G : zG) (i : Nat) (r : Nat → Int32) : Option zmC := (fun i r => if i = 0 then some (.inr (4, [.inr (.inr (some (40, 0))), .inl (r 1)])) else none) i r
def zc16 (G : zG) (i : Nat) (r : Nat → Int32) : Option zmC := (fun i r => if i = 0 then some (.inr (4, [.inr (.inr (some (40, 1))), .inl (r 1)])) else none) i r
def zc17 (G : zG) (i : Nat) (r : Nat → Int32) : Option zmC := (fun i r => if i = 0 then some (.inl (.int, 40, .inl r)) else none) i r
def zc18 (G : zG) (i : Nat) (r : Nat → Int32) : Option zmC := (fun i r => if i = 0 then some (.inl (.int, 40, .inl r)) else none) i r
def zc19 (G : zG) (i : Nat) (r : Nat → Int32) : Option zmC := (fun i r => if i = 0 then some (.inl (.int, 10, .inl r)) else none) i r
def zc20 (G : zG) (i : Nat) (r : Nat → Int32) : Option zmC := (fun i r => if i = 0 then some (.inl (.boolean, 10, .inl r)) else none) i r
def zc21 (G : zG) (i : Nat) (r : Nat → Int32) : Option zmC := (fun i r => if i = 0 then some (.inl (.boolean, 10, .inl r)) else none) i r
def zc22 (G : zG) (i : Nat) (r : Nat → Int32) : Option zmC := (fun i r => if i = 0 then some (.inl (.int, 100, .inl r)) else none) i r
def zc23 (G : zG) (i : Nat) (r : Nat → Int32) : Option zmC := (fun i r => if i = 0 then some (.inl (.int, 60, .inl r)) else none) i r
def zc24 (G : zG) (i : Nat) (r : Nat → Int32) : Option zmC := (fun i r => if i = 0 then some (.inl (.int, 60, .inl r)) else none) i r
def zc25 (G : zG) (i : Nat) (r : Nat → Int32) : Option zmC := (fun i r => if i = 0 then some (.inl (.int, 60, .inl r)) else none) i r
def zc26 (G : zG) (i : Nat) (r : Nat → Int32) : Option zmC := (fun i r => if i = 0 then some (.inl (.int, 60, .inl r)) else none) i r
def zc27 (G : zG) (i : Nat) (r : Nat → Int32) : Option zmC := (fun i r => if i = 0 then some (.inl (.int, 60, .inl r)) else none) i r
def zc28 (G : zG) (i : Nat) (r : Nat → Int32) : Option zmC := (fun i r => if i = 0 then some (.inl (.int, 60, .inl r)) else none) i r
def zc29 (G : zG) (i : Nat) (r : Nat → Int32) : Option zmC := (fun i r => if i = 0 then some (.inl (.boolean, 60, .inl r)) else none) i r
def zc30 (G : zG) (i : Nat) (r : Nat → Int32) : Option zmC := (fun i r => if i = 0 then some (.inl (.int, 10, .inl r)) else none) i r
def zc31 (G : zG) (i : Nat) (r : Nat → Int32) : Option zmC := (fun i r => if i = 0 then some (.inl (.int, 60, .inl r)) else none) i r
def zc32 (G : zG) (i : Nat) (r : Nat → Int32) : Option zmC := (fun i r => if i = 0 then some (.inl (.int, 10, .inl r)) else none) i r
def zc33 (G : zG) (i : Nat) (r : Nat → Int32) : Option zmC := (fun i r => if i = 0 then some (.inl (.int, 4, .inl r)) else none) i r
def zc34 (G : zG) (i : Nat) (r : Nat → Int32) : Option zmC := (fun i r => if i = 0 then some (.inl (.int, 100, .inl r)) else none) i r
def zc35 (G : zG) (i : Nat) (r : Nat → Int32) : Option zmC := (fun i r => if i = 0 then some (.inl (.int, 400, .inl r)) else none) i r
def zc36 (G : zG) (i : Nat) (r : Nat → Int32) : Option zmC := (fun i r => if i = 0 then some (.inl (.boolean, 10, .inl r)) else none) i r
def zc37 (G : zG) (i : Nat) (r : Nat → Int32) : Option zmC := (fun i r => if i < G.2.2.1 then some (.inr (5, [.inl (r 0), .inr (.inr (some (42, i))), .inr (.inr (some (43, i))), .inr (.inr (some (44, i))), .inr (.inr (some (41, i))), .inl (r 5), .inl (r 6), .inl (r 7), .inl (r 8)])) else none) i r
def zc38 (G : zG) (i : Nat) (r : Nat → Int32) : Option zmC := (fun i r => if i < G.2.2.2.2 then some (.inr (6, [.inl (r 0), .inr (.inr (some (46, i)))])) else none) i r
def zc39 (G : zG) (i : Nat) (r : Nat → Int32) : Option zmC := (fun i r => if i = 0 then some (.inl (.char, 60, .inl r)) else none) i r
def zc40 (G : zG) (i : Nat) (r : Nat → Int32) : Option zmC := (fun i r => if i = 0 then some (.inl (.int, 60, .inl r)) else if i = 1 then some (.inl (.int, 10, .inl r)) else none) i r
def zc41 (G : zG) (i : Nat) (r : Nat → Int32) : Option zmC := (fun i r => if i < G.2.2.1 then some (.inl (.int, 10, .inl r)) else none) i r
def zc42 (G : zG) (i : Nat) (r : Nat → Int32) : Option zmC := (fun i r => if i < G.2.2.1 then some (.inr (7, [.inl (r 0), .inl (r 1), .inl (r 2), .inl (r 3)])) else none) i r
def zc43 (G : zG) (i : Nat) (r : Nat → Int32) : Option zmC := (fun i r => if i < G.2.2.1 then some (.inr (7, [.inl (r 0), .inl (r 1), .inl (r 2), .inl (r 3)])) else none) i r
def zc44 (G : zG) (i : Nat) (r : Nat → Int32) : Option zmC := (fun i r => if i < G.2.2.1 then some (.inr (7, [.inl (r 0), .inl (r 1), .inl (r 2), .inl (r 3)])) else none) i r
def zc45 (G : zG) (i : Nat) (r : Nat → Int32) : Option zmC := (fun i r => if i < G.2.2.2.1 then some (.inr (8, [.inl (r 0), .inl (r 1), .inl (r 2), .inl (r 3), .inl (r 4), .inl (r 5), .inl (r 6)])) else none) i r
def zc46 (G : zG) (i : Nat) (r : Nat → Int32) : Option zmC := (fun i r => if i < G.2.2.2.2 then some (.inr (7, [.inl (r 0), .inl (r 1), .inl (r 2), .inl (r 3)])) else none) i r
def zcL (G : zG) : List (Nat → (Nat → Int32) → Option zmC) := [zc8 G, zc9 G, zc10 G, zc11 G, zc12 G, zc13 G, zc14 G, zc15 G, zc16 G, zc17 G, zc18 G, zc19 G, zc20 G, zc21 G, zc22 G, zc23 G, zc24 G, zc25 G, zc26 G, zc27 G, zc28 G, zc29 G, zc30 G, zc31 G, zc32 G, zc33 G, zc34 G, zc35 G, zc36 G, zc37 G, zc38 G, zc39 G, zc40 G, zc41 G, zc42 G, zc43 G, zc44 G, zc45 G, zc46 G]
def zc (G : zG) (s i : Nat) (r : Nat → Int32) : Option zmC := ((zcL G).getD (s - 8) (fun _ _ => none)) i r
def zn (G : zG) (s : Nat) : Nat := if s = 37 ∨ (41 ≤ s ∧ s ≤ 44) then G.2.2.1 else if s = 45 then G.2.2.2.1 else if s = 38 ∨ s = 46 then G.2.2.2.2 else if s = 40 then 2 else if 8 ≤ s ∧ s ≤ 39 then 1 else 0
def zh (G : zG) (σ : zR) : zmH := (G.2.1, zn G, fun k => if k.1 < 8 then zs_ro G.1.1 G.1.2 k else zc G k.1 k.2 (σ k.1 k.2))
def zw (σ : zR) (s i f : Nat) (x : Int32) : zR := fun s1 i1 f1 => if s1 = s ∧ i1 = i ∧ f1 = f then x else σ s1 i1 f1
theorem zw_ap (σ : zR) (s i f : Nat) (x : Int32) (s1 i1 f1 : Nat) : zw σ s i f x s1 i1 f1 = if s1 = s ∧ i1 = i ∧ f1 = f then x else σ s1 i1 f1 := rfl
theorem zw_row (σ : zR) (s i f : Nat) (x : Int32) : zw σ s i f x s i = upd (σ s i) f x := by
  funext j
  unfold zw upd
  by_cases h : j = f
  · rw [if_pos ⟨rfl, rfl, h⟩, if_pos h]
  · rw [if_neg (fun q => h q.2.2), if_neg h]
theorem zw_off (σ : zR) (s i f : Nat) (x : Int32) (s1 i1 : Nat) (h : ¬ (s1 = s ∧ i1 = i)) : zw σ s i f x s1 i1 = σ s1 i1 := by
  funext j
  unfold zw
  rw [if_neg (fun q => h ⟨q.1, q.2.1⟩)]
theorem zh_get (G : zG) (σ : zR) (s i : Nat) (h8 : 8 ≤ s) : zm_get (zh G σ) (s, i) = zc G s i (σ s i) := if_neg (show ¬ s < 8 by omega)
theorem zh_set {G : zG} {σ : zR} {s i f : Nat} {x : Int32} {c : zmC} (h8 : 8 ≤ s) (hc : zc G s i (upd (σ s i) f x) = some c) : zm_set (zh G σ) (s, i) c = zh G (zw σ s i f x) := by
  unfold zm_set zh
  refine congrArg (fun q => (G.2.1, zn G, q)) ?_
  funext k
  obtain ⟨k1, k2⟩ := k
  dsimp only
  by_cases h : k1 = s ∧ k2 = i
  · obtain ⟨rfl, rfl⟩ := h
    rw [if_pos rfl, if_neg (by omega), zw_row]
    exact hc.symm
  · rw [if_neg (fun q => h ⟨congrArg Prod.fst q, congrArg Prod.snd q⟩), zw_off _ _ _ _ _ _ _ h]
section ZH
variable {G : zG} {σ : zR}
theorem zg8 : zm_get (zh G σ) (8, 0) = some (.inr (0, [.inr (.inr (some (10, 0))), .inl (σ 8 0 1), .inr (.inr (some (11, 0))), .inl (σ 8 0 3), .inr (.inr (some (12, 0))), .inl (σ 8 0 5), .inr (.inr (some (13, 0))), .inr (.inr (some (14, 0))), .inr (.inr (some (15, 0))), .inr (.inr (some (16, 0))), .inl (σ 8 0 10), .inl (σ 8 0 11)])) := rfl
theorem zo8 : zm_isO (zh G σ) (8, 0) 0 = true := by
  unfold zm_isO
  rw [zg8]
  rfl
theorem zf8_0 : zm_isF (zh G σ) (8, 0) 0 0 = true := by
  unfold zm_isF
  rw [zg8]
  rfl
theorem zq8_0 : zm_getF (zh G σ) (8, 0) 0 = .inr (.inr (some (10, 0))) := by
  unfold zm_getF
  rw [zg8]
  rfl
theorem zf8_1 : zm_isF (zh G σ) (8, 0) 0 1 = true := by
  unfold zm_isF
  rw [zg8]
  rfl
theorem zq8_1 : zm_getF (zh G σ) (8, 0) 1 = .inl (σ 8 0 1) := by
  unfold zm_getF
  rw [zg8]
  rfl
theorem zp8_1 {x : Int32} : zm_putF (zh G σ) (8, 0) 1 (.inl x) = zh G (zw σ 8 0 1 x) := by
  unfold zm_putF
  rw [zg8]
  exact zh_set (by decide) rfl
theorem zf8_2 : zm_isF (zh G σ) (8, 0) 0 2 = true := by
  unfold zm_isF
  rw [zg8]
  rfl
theorem zq8_2 : zm_getF (zh G σ) (8, 0) 2 = .inr (.inr (some (11, 0))) := by
  unfold zm_getF
  rw [zg8]
  rfl
theorem zf8_3 : zm_isF (zh G σ) (8, 0) 0 3 = true := by
  unfold zm_isF
  rw [zg8]
  rfl
theorem zq8_3 : zm_getF (zh G σ) (8, 0) 3 = .inl (σ 8 0 3) := by
  unfold zm_getF
  rw [zg8]
  rfl
theorem zp8_3 {x : Int32} : zm_putF (zh G σ) (8, 0) 3 (.inl x) = zh G (zw σ 8 0 3 x) := by
  unfold zm_putF
  rw [zg8]
  exact zh_set (by decide) rfl
theorem zf8_4 : zm_isF (zh G σ) (8, 0) 0 4 = true := by
  unfold zm_isF
  rw [zg8]
  rfl
theorem zq8_4 : zm_getF (zh G σ) (8, 0) 4 = .inr (.inr (some (12, 0))) := by
  unfold zm_getF
  rw [zg8]
  rfl
theorem zf8_5 : zm_isF (zh G σ) (8, 0) 0 5 = true := by
  unfold zm_isF
  rw [zg8]
  rfl
theorem zq8_5 : zm_getF (zh G σ) (8, 0) 5 = .inl (σ 8 0 5) := by
  unfold zm_getF
  rw [zg8]
  rfl
theorem zp8_5 {x : Int32} : zm_putF (zh G σ) (8, 0) 5 (.inl x) = zh G (zw σ 8 0 5 x) := by
  unfold zm_putF
  rw [zg8]
  exact zh_set (by decide) rfl
theorem zf8_6 : zm_isF (zh G σ) (8, 0) 0 6 = true := by
  unfold zm_isF
  rw [zg8]
  rfl
theorem zq8_6 : zm_getF (zh G σ) (8, 0) 6 = .inr (.inr (some (13, 0))) := by
  unfold zm_getF
  rw [zg8]
  rfl
theorem zf8_7 : zm_isF (zh G σ) (8, 0) 0 7 = true := by
  unfold zm_isF
  rw [zg8]
  rfl
theorem zq8_7 : zm_getF (zh G σ) (8, 0) 7 = .inr (.inr (some (14, 0))) := by
  unfold zm_getF
  rw [zg8]
  rfl
theorem zf8_8 : zm_isF (zh G σ) (8, 0) 0 8 = true := by
  unfold zm_isF
  rw [zg8]
  rfl
theorem zq8_8 : zm_getF (zh G σ) (8, 0) 8 = .inr (.inr (some (15, 0))) := by
  unfold zm_getF
  rw [zg8]
  rfl
theorem zf8_9 : zm_isF (zh G σ) (8, 0) 0 9 = true := by
  unfold zm_isF
  rw [zg8]
  rfl
theorem zq8_9 : zm_getF (zh G σ) (8, 0) 9 = .inr (.inr (some (16, 0))) := by
  unfold zm_getF
  rw [zg8]
  rfl
theorem zf8_10 : zm_isF (zh G σ) (8, 0) 0 10 = true := by
  unfold zm_isF
  rw [zg8]
  rfl
theorem zq8_10 : zm_getF (zh G σ) (8, 0) 10 = .inl (σ 8 0 10) := by
  unfold zm_getF
  rw [zg8]
  rfl
theorem zp8_10 {x : Int32} : zm_putF (zh G σ) (8, 0) 10 (.inl x) = zh G (zw σ 8 0 10 x) := by
  unfold zm_putF
  rw [zg8]
  exact zh_set (by decide) rfl
theorem zf8_11 : zm_isF (zh G σ) (8, 0) 0 11 = true := by
  unfold zm_isF
  rw [zg8]
  rfl
theorem zq8_11 : zm_getF (zh G σ) (8, 0) 11 = .inl (σ 8 0 11) := by
  unfold zm_getF
  rw [zg8]
  rfl
theorem zp8_11 {x : Int32} : zm_putF (zh G σ) (8, 0) 11 (.inl x) = zh G (zw σ 8 0 11 x) := by
  unfold zm_putF
  rw [zg8]
  exact zh_set (by decide) rfl
theorem zg9 : zm_get (zh G σ) (9, 0) = some (.inr (1, [.inl (σ 9 0 0), .inl (σ 9 0 1), .inr (.inr (some (17, 0))), .inr (.inr (some (18, 0))), .inr (.inr (some (19, 0))), .inr (.inr (some (20, 0))), .inr (.inr (some (21, 0))), .inr (.inr (some (22, 0))), .inl (σ 9 0 8), .inr (.inr (some (23, 0))), .inl (σ 9 0 10), .inl (σ 9 0 11), .inr (.inr (some (24, 0))), .inr (.inr (some (25, 0))), .inr (.inr (some (26, 0))), .inr (.inr (some (27, 0))), .inr (.inr (some (28, 0))), .inr (.inr (some (29, 0))), .inl (σ 9 0 18), .inl (σ 9 0 19), .inl (σ 9 0 20), .inl (σ 9 0 21), .inr (.inr (some (30, 0))), .inl (σ 9 0 23), .inr (.inr (some (31, 0))), .inl (σ 9 0 25), .inr (.inr (some (32, 0))), .inr (.inr (some (33, 0))), .inl (σ 9 0 28), .inr (.inr (some (34, 0))), .inr (.inr (some (35, 0))), .inr (.inr (some (36, 0)))])) := rfl
theorem zo9 : zm_isO (zh G σ) (9, 0) 1 = true := by
  unfold zm_isO
  rw [zg9]
  rfl
theorem zf9_0 : zm_isF (zh G σ) (9, 0) 1 0 = true := by
  unfold zm_isF
  rw [zg9]
  rfl
theorem zq9_0 : zm_getF (zh G σ) (9, 0) 0 = .inl (σ 9 0 0) := by
  unfold zm_getF
  rw [zg9]
  rfl
theorem zp9_0 {x : Int32} : zm_putF (zh G σ) (9, 0) 0 (.inl x) = zh G (zw σ 9 0 0 x) := by
  unfold zm_putF
  rw [zg9]
  exact zh_set (by decide) rfl
theorem zf9_1 : zm_isF (zh G σ) (9, 0) 1 1 = true := by
  unfold zm_isF
  rw [zg9]
  rfl
theorem zq9_1 : zm_getF (zh G σ) (9, 0) 1 = .inl (σ 9 0 1) := by
  unfold zm_getF
  rw [zg9]
  rfl
theorem zp9_1 {x : Int32} : zm_putF (zh G σ) (9, 0) 1 (.inl x) = zh G (zw σ 9 0 1 x) := by
  unfold zm_putF
  rw [zg9]
  exact zh_set (by decide) rfl
theorem zf9_2 : zm_isF (zh G σ) (9, 0) 1 2 = true := by
  unfold zm_isF
  rw [zg9]
  rfl
theorem zq9_2 : zm_getF (zh G σ) (9, 0) 2 = .inr (.inr (some (17, 0))) := by
  unfold zm_getF
  rw [zg9]
  rfl
theorem zf9_3 : zm_isF (zh G σ) (9, 0) 1 3 = true := by
  unfold zm_isF
  rw [zg9]
  rfl
theorem zq9_3 : zm_getF (zh G σ) (9, 0) 3 = .inr (.inr (some (18, 0))) := by
  unfold zm_getF
  rw [zg9]
  rfl
theorem zf9_4 : zm_isF (zh G σ) (9, 0) 1 4 = true := by
  unfold zm_isF
  rw [zg9]
  rfl
theorem zq9_4 : zm_getF (zh G σ) (9, 0) 4 = .inr (.inr (some (19, 0))) := by
  unfold zm_getF
  rw [zg9]
  rfl
theorem zf9_5 : zm_isF (zh G σ) (9, 0) 1 5 = true := by
  unfold zm_isF
  rw [zg9]
  rfl
theorem zq9_5 : zm_getF (zh G σ) (9, 0) 5 = .inr (.inr (some (20, 0))) := by
  unfold zm_getF
  rw [zg9]
  rfl
theorem zf9_6 : zm_isF (zh G σ) (9, 0) 1 6 = true := by
  unfold zm_isF
  rw [zg9]
  rfl
theorem zq9_6 : zm_getF (zh G σ) (9, 0) 6 = .inr (.inr (some (21, 0))) := by
  unfold zm_getF
  rw [zg9]
  rfl
theorem zf9_7 : zm_isF (zh G σ) (9, 0) 1 7 = true := by
  unfold zm_isF
  rw [zg9]
  rfl
theorem zq9_7 : zm_getF (zh G σ) (9, 0) 7 = .inr (.inr (some (22, 0))) := by
  unfold zm_getF
  rw [zg9]
  rfl
theorem zf9_8 : zm_isF (zh G σ) (9, 0) 1 8 = true := by
  unfold zm_isF
  rw [zg9]
  rfl
theorem zq9_8 : zm_getF (zh G σ) (9, 0) 8 = .inl (σ 9 0 8) := by
  unfold zm_getF
  rw [zg9]
  rfl
theorem zp9_8 {x : Int32} : zm_putF (zh G σ) (9, 0) 8 (.inl x) = zh G (zw σ 9 0 8 x) := by
  unfold zm_putF
  rw [zg9]
  exact zh_set (by decide) rfl
theorem zf9_9 : zm_isF (zh G σ) (9, 0) 1 9 = true := by
  unfold zm_isF
  rw [zg9]
  rfl
theorem zq9_9 : zm_getF (zh G σ) (9, 0) 9 = .inr (.inr (some (23, 0))) := by
  unfold zm_getF
  rw [zg9]
  rfl
theorem zf9_10 : zm_isF (zh G σ) (9, 0) 1 10 = true := by
  unfold zm_isF
  rw [zg9]
  rfl
theorem zq9_10 : zm_getF (zh G σ) (9, 0) 10 = .inl (σ 9 0 10) := by
  unfold zm_getF
  rw [zg9]
  rfl
theorem zp9_10 {x : Int32} : zm_putF (zh G σ) (9, 0) 10 (.inl x) = zh G (zw σ 9 0 10 x) := by
  unfold zm_putF
  rw [zg9]
  exact zh_set (by decide) rfl
theorem zf9_11 : zm_isF (zh G σ) (9, 0) 1 11 = true := by
  unfold zm_isF
  rw [zg9]
  rfl
theorem zq9_11 : zm_getF (zh G σ) (9, 0) 11 = .inl (σ 9 0 11) := by
  unfold zm_getF
  rw [zg9]
  rfl
theorem zp9_11 {x : Int32} : zm_putF (zh G σ) (9, 0) 11 (.inl x) = zh G (zw σ 9 0 11 x) := by
  unfold zm_putF
  rw [zg9]
  exact zh_set (by decide) rfl
theorem zf9_12 : zm_isF (zh G σ) (9, 0) 1 12 = true := by
  unfold zm_isF
  rw [zg9]
  rfl
theorem zq9_12 : zm_getF (zh G σ) (9, 0) 12 = .inr (.inr (some (24, 0))) := by
  unfold zm_getF
  rw [zg9]
  rfl
theorem zf9_13 : zm_isF (zh G σ) (9, 0) 1 13 = true := by
  unfold zm_isF
  rw [zg9]
  rfl
theorem zq9_13 : zm_getF (zh G σ) (9, 0) 13 = .inr (.inr (some (25, 0))) := by
  unfold zm_getF
  rw [zg9]
  rfl
theorem zf9_14 : zm_isF (zh G σ) (9, 0) 1 14 = true := by
  unfold zm_isF
  rw [zg9]
  rfl
theorem zq9_14 : zm_getF (zh G σ) (9, 0) 14 = .inr (.inr (some (26, 0))) := by
  unfold zm_getF
  rw [zg9]
  rfl
theorem zf9_15 : zm_isF (zh G σ) (9, 0) 1 15 = true := by
  unfold zm_isF
  rw [zg9]
  rfl
theorem zq9_15 : zm_getF (zh G σ) (9, 0) 15 = .inr (.inr (some (27, 0))) := by
  unfold zm_getF
  rw [zg9]
  rfl
theorem zf9_16 : zm_isF (zh G σ) (9, 0) 1 16 = true := by
  unfold zm_isF
  rw [zg9]
  rfl
theorem zq9_16 : zm_getF (zh G σ) (9, 0) 16 = .inr (.inr (some (28, 0))) := by
  unfold zm_getF
  rw [zg9]
  rfl
theorem zf9_17 : zm_isF (zh G σ) (9, 0) 1 17 = true := by
  unfold zm_isF
  rw [zg9]
  rfl
theorem zq9_17 : zm_getF (zh G σ) (9, 0) 17 = .inr (.inr (some (29, 0))) := by
  unfold zm_getF
  rw [zg9]
  rfl
theorem zf9_18 : zm_isF (zh G σ) (9, 0) 1 18 = true := by
  unfold zm_isF
  rw [zg9]
  rfl
theorem zq9_18 : zm_getF (zh G σ) (9, 0) 18 = .inl (σ 9 0 18) := by
  unfold zm_getF
  rw [zg9]
  rfl
theorem zp9_18 {x : Int32} : zm_putF (zh G σ) (9, 0) 18 (.inl x) = zh G (zw σ 9 0 18 x) := by
  unfold zm_putF
  rw [zg9]
  exact zh_set (by decide) rfl
theorem zf9_19 : zm_isF (zh G σ) (9, 0) 1 19 = true := by
  unfold zm_isF
  rw [zg9]
  rfl
theorem zq9_19 : zm_getF (zh G σ) (9, 0) 19 = .inl (σ 9 0 19) := by
  unfold zm_getF
  rw [zg9]
  rfl
theorem zp9_19 {x : Int32} : zm_putF (zh G σ) (9, 0) 19 (.inl x) = zh G (zw σ 9 0 19 x) := by
  unfold zm_putF
  rw [zg9]
  exact zh_set (by decide) rfl
theorem zf9_20 : zm_isF (zh G σ) (9, 0) 1 20 = true := by
  unfold zm_isF
  rw [zg9]
  rfl
theorem zq9_20 : zm_getF (zh G σ) (9, 0) 20 = .inl (σ 9 0 20) := by
  unfold zm_getF
  rw [zg9]
  rfl
theorem zp9_20 {x : Int32} : zm_putF (zh G σ) (9, 0) 20 (.inl x) = zh G (zw σ 9 0 20 x) := by
  unfold zm_putF
  rw [zg9]
  exact zh_set (by decide) rfl
theorem zf9_21 : zm_isF (zh G σ) (9, 0) 1 21 = true := by
  unfold zm_isF
  rw [zg9]
  rfl
theorem zq9_21 : zm_getF (zh G σ) (9, 0) 21 = .inl (σ 9 0 21) := by
  unfold zm_getF
  rw [zg9]
  rfl
theorem zp9_21 {x : Int32} : zm_putF (zh G σ) (9, 0) 21 (.inl x) = zh G (zw σ 9 0 21 x) := by
  unfold zm_putF
  rw [zg9]
  exact zh_set (by decide) rfl
theorem zf9_22 : zm_isF (zh G σ) (9, 0) 1 22 = true := by
  unfold zm_isF
  rw [zg9]
  rfl
theorem zq9_22 : zm_getF (zh G σ) (9, 0) 22 = .inr (.inr (some (30, 0))) := by
  unfold zm_getF
  rw [zg9]
  rfl
theorem zf9_23 : zm_isF (zh G σ) (9, 0) 1 23 = true := by
  unfold zm_isF
  rw [zg9]
  rfl
theorem zq9_23 : zm_getF (zh G σ) (9, 0) 23 = .inl (σ 9 0 23) := by
  unfold zm_getF
  rw [zg9]
  rfl
theorem zp9_23 {x : Int32} : zm_putF (zh G σ) (9, 0) 23 (.inl x) = zh G (zw σ 9 0 23 x) := by
  unfold zm_putF
  rw [zg9]
  exact zh_set (by decide) rfl
theorem zf9_24 : zm_isF (zh G σ) (9, 0) 1 24 = true := by
  unfold zm_isF
  rw [zg9]
  rfl
theorem zq9_24 : zm_getF (zh G σ) (9, 0) 24 = .inr (.inr (some (31, 0))) := by
  unfold zm_getF
  rw [zg9]
  rfl
theorem zf9_25 : zm_isF (zh G σ) (9, 0) 1 25 = true := by
  unfold zm_isF
  rw [zg9]
  rfl
theorem zq9_25 : zm_getF (zh G σ) (9, 0) 25 = .inl (σ 9 0 25) := by
  unfold zm_getF
  rw [zg9]
  rfl
theorem zp9_25 {x : Int32} : zm_putF (zh G σ) (9, 0) 25 (.inl x) = zh G (zw σ 9 0 25 x) := by
  unfold zm_putF
  rw [zg9]
  exact zh_set (by decide) rfl
theorem zf9_26 : zm_isF (zh G σ) (9, 0) 1 26 = true := by
  unfold zm_isF
  rw [zg9]
  rfl
theorem zq9_26 : zm_getF (zh G σ) (9, 0) 26 = .inr (.inr (some (32, 0))) := by
  unfold zm_getF
  rw [zg9]
  rfl
theorem zf9_27 : zm_isF (zh G σ) (9, 0) 1 27 = true := by
  unfold zm_isF
  rw [zg9]
  rfl
theorem zq9_27 : zm_getF (zh G σ) (9, 0) 27 = .inr (.inr (some (33, 0))) := by
  unfold zm_getF
  rw [zg9]
  rfl
theorem zf9_28 : zm_isF (zh G σ) (9, 0) 1 28 = true := by
  unfold zm_isF
  rw [zg9]
  rfl
theorem zq9_28 : zm_getF (zh G σ) (9, 0) 28 = .inl (σ 9 0 28) := by
  unfold zm_getF
  rw [zg9]
  rfl
theorem zp9_28 {x : Int32} : zm_putF (zh G σ) (9, 0) 28 (.inl x) = zh G (zw σ 9 0 28 x) := by
  unfold zm_putF
  rw [zg9]
  exact zh_set (by decide) rfl
theorem zf9_29 : zm_isF (zh G σ) (9, 0) 1 29 = true := by
  unfold zm_isF
  rw [zg9]
  rfl
theorem zq9_29 : zm_getF (zh G σ) (9, 0) 29 = .inr (.inr (some (34, 0))) := by
  unfold zm_getF
  rw [zg9]
  rfl
theorem zf9_30 : zm_isF (zh G σ) (9, 0) 1 30 = true := by
  unfold zm_isF
  rw [zg9]
  rfl
theorem zq9_30 : zm_getF (zh G σ) (9, 0) 30 = .inr (.inr (some (35, 0))) := by
  unfold zm_getF
  rw [zg9]
  rfl
theorem zf9_31 : zm_isF (zh G σ) (9, 0) 1 31 = true := by
  unfold zm_isF
  rw [zg9]
  rfl
theorem zq9_31 : zm_getF (zh G σ) (9, 0) 31 = .inr (.inr (some (36, 0))) := by
  unfold zm_getF
  rw [zg9]
  rfl
theorem zg13 : zm_get (zh G σ) (13, 0) = some (.inr (2, [.inr (.inr (some (39, 0))), .inl (σ 13 0 1)])) := rfl
theorem zo13 : zm_isO (zh G σ) (13, 0) 2 = true := by
  unfold zm_isO
  rw [zg13]
  rfl
theorem zf13_0 : zm_isF (zh G σ) (13, 0) 2 0 = true := by
  unfold zm_isF
  rw [zg13]
  rfl
theorem zq13_0 : zm_getF (zh G σ) (13, 0) 0 = .inr (.inr (some (39, 0))) := by
  unfold zm_getF
  rw [zg13]
  rfl
theorem zf13_1 : zm_isF (zh G σ) (13, 0) 2 1 = true := by
  unfold zm_isF
  rw [zg13]
  rfl
theorem zq13_1 : zm_getF (zh G σ) (13, 0) 1 = .inl (σ 13 0 1) := by
  unfold zm_getF
  rw [zg13]
  rfl
theorem zp13_1 {x : Int32} : zm_putF (zh G σ) (13, 0) 1 (.inl x) = zh G (zw σ 13 0 1 x) := by
  unfold zm_putF
  rw [zg13]
  exact zh_set (by decide) rfl
theorem zg14 : zm_get (zh G σ) (14, 0) = some (.inr (3, [.inl (σ 14 0 0), .inl (σ 14 0 1), .inl (σ 14 0 2)])) := rfl
theorem zo14 : zm_isO (zh G σ) (14, 0) 3 = true := by
  unfold zm_isO
  rw [zg14]
  rfl
theorem zf14_0 : zm_isF (zh G σ) (14, 0) 3 0 = true := by
  unfold zm_isF
  rw [zg14]
  rfl
theorem zq14_0 : zm_getF (zh G σ) (14, 0) 0 = .inl (σ 14 0 0) := by
  unfold zm_getF
  rw [zg14]
  rfl
theorem zp14_0 {x : Int32} : zm_putF (zh G σ) (14, 0) 0 (.inl x) = zh G (zw σ 14 0 0 x) := by
  unfold zm_putF
  rw [zg14]
  exact zh_set (by decide) rfl
theorem zf14_1 : zm_isF (zh G σ) (14, 0) 3 1 = true := by
  unfold zm_isF
  rw [zg14]
  rfl
theorem zq14_1 : zm_getF (zh G σ) (14, 0) 1 = .inl (σ 14 0 1) := by
  unfold zm_getF
  rw [zg14]
  rfl
theorem zp14_1 {x : Int32} : zm_putF (zh G σ) (14, 0) 1 (.inl x) = zh G (zw σ 14 0 1 x) := by
  unfold zm_putF
  rw [zg14]
  exact zh_set (by decide) rfl
theorem zf14_2 : zm_isF (zh G σ) (14, 0) 3 2 = true := by
  unfold zm_isF
  rw [zg14]
  rfl
theorem zq14_2 : zm_getF (zh G σ) (14, 0) 2 = .inl (σ 14 0 2) := by
  unfold zm_getF
  rw [zg14]
  rfl
theorem zp14_2 {x : Int32} : zm_putF (zh G σ) (14, 0) 2 (.inl x) = zh G (zw σ 14 0 2 x) := by
  unfold zm_putF
  rw [zg14]
  exact zh_set (by decide) rfl
theorem zg15 : zm_get (zh G σ) (15, 0) = some (.inr (4, [.inr (.inr (some (40, 0))), .inl (σ 15 0 1)])) := rfl
theorem zo15 : zm_isO (zh G σ) (15, 0) 4 = true := by
  unfold zm_isO
  rw [zg15]
  rfl
theorem zf15_0 : zm_isF (zh G σ) (15, 0) 4 0 = true := by
  unfold zm_isF
  rw [zg15]
  rfl
theorem zq15_0 : zm_getF (zh G σ) (15, 0) 0 = .inr (.inr (some (40, 0))) := by
  unfold zm_getF
  rw [zg15]
  rfl
theorem zf15_1 : zm_isF (zh G σ) (15, 0) 4 1 = true := by
  unfold zm_isF
  rw [zg15]
  rfl
theorem zq15_1 : zm_getF (zh G σ) (15, 0) 1 = .inl (σ 15 0 1) := by
  unfold zm_getF
  rw [zg15]
  rfl
theorem zp15_1 {x : Int32} : zm_putF (zh G σ) (15, 0) 1 (.inl x) = zh G (zw σ 15 0 1 x) := by
  unfold zm_putF
  rw [zg15]
  exact zh_set (by decide) rfl
theorem zg16 : zm_get (zh G σ) (16, 0) = some (.inr (4, [.inr (.inr (some (40, 1))), .inl (σ 16 0 1)])) := rfl
theorem zo16 : zm_isO (zh G σ) (16, 0) 4 = true := by
  unfold zm_isO
  rw [zg16]
  rfl
theorem zf16_0 : zm_isF (zh G σ) (16, 0) 4 0 = true := by
  unfold zm_isF
  rw [zg16]
  rfl
theorem zq16_0 : zm_getF (zh G σ) (16, 0) 0 = .inr (.inr (some (40, 1))) := by
  unfold zm_getF
  rw [zg16]
  rfl
theorem zf16_1 : zm_isF (zh G σ) (16, 0) 4 1 = true := by
  unfold zm_isF
  rw [zg16]
  rfl
theorem zq16_1 : zm_getF (zh G σ) (16, 0) 1 = .inl (σ 16 0 1) := by
  unfold zm_getF
  rw [zg16]
  rfl
theorem zp16_1 {x : Int32} : zm_putF (zh G σ) (16, 0) 1 (.inl x) = zh G (zw σ 16 0 1 x) := by
  unfold zm_putF
  rw [zg16]
  exact zh_set (by decide) rfl
theorem zg37 {i : Nat} (hi : i < G.2.2.1) : zm_get (zh G σ) (37, i) = some (.inr (5, [.inl (σ 37 i 0), .inr (.inr (some (42, i))), .inr (.inr (some (43, i))), .inr (.inr (some (44, i))), .inr (.inr (some (41, i))), .inl (σ 37 i 5), .inl (σ 37 i 6), .inl (σ 37 i 7), .inl (σ 37 i 8)])) := by
  rw [zh_get G σ 37 i (by decide)]
  exact if_pos hi
theorem zo37 {i : Nat} (hi : i < G.2.2.1) : zm_isO (zh G σ) (37, i) 5 = true := by
  unfold zm_isO
  rw [zg37 hi]
  rfl
theorem zf37_0 {i : Nat} (hi : i < G.2.2.1) : zm_isF (zh G σ) (37, i) 5 0 = true := by
  unfold zm_isF
  rw [zg37 hi]
  rfl
theorem zq37_0 {i : Nat} (hi : i < G.2.2.1) : zm_getF (zh G σ) (37, i) 0 = .inl (σ 37 i 0) := by
  unfold zm_getF
  rw [zg37 hi]
  rfl
theorem zp37_0 {i : Nat} (hi : i < G.2.2.1) {x : Int32} : zm_putF (zh G σ) (37, i) 0 (.inl x) = zh G (zw σ 37 i 0 x) := by
  unfold zm_putF
  rw [zg37 hi]
  exact zh_set (by decide) (if_pos hi)
theorem zf37_1 {i : Nat} (hi : i < G.2.2.1) : zm_isF (zh G σ) (37, i) 5 1 = true := by
  unfold zm_isF
  rw [zg37 hi]
  rfl
theorem zq37_1 {i : Nat} (hi : i < G.2.2.1) : zm_getF (zh G σ) (37, i) 1 = .inr (.inr (some (42, i))) := by
  unfold zm_getF
  rw [zg37 hi]
  rfl
theorem zf37_2 {i : Nat} (hi : i < G.2.2.1) : zm_isF (zh G σ) (37, i) 5 2 = true := by
  unfold zm_isF
  rw [zg37 hi]
  rfl
theorem zq37_2 {i : Nat} (hi : i < G.2.2.1) : zm_getF (zh G σ) (37, i) 2 = .inr (.inr (some (43, i))) := by
  unfold zm_getF
  rw [zg37 hi]
  rfl
theorem zf37_3 {i : Nat} (hi : i < G.2.2.1) : zm_isF (zh G σ) (37, i) 5 3 = true := by
  unfold zm_isF
  rw [zg37 hi]
  rfl
theorem zq37_3 {i : Nat} (hi : i < G.2.2.1) : zm_getF (zh G σ) (37, i) 3 = .inr (.inr (some (44, i))) := by
  unfold zm_getF
  rw [zg37 hi]
  rfl
theorem zf37_4 {i : Nat} (hi : i < G.2.2.1) : zm_isF (zh G σ) (37, i) 5 4 = true := by
  unfold zm_isF
  rw [zg37 hi]
  rfl
theorem zq37_4 {i : Nat} (hi : i < G.2.2.1) : zm_getF (zh G σ) (37, i) 4 = .inr (.inr (some (41, i))) := by
  unfold zm_getF
  rw [zg37 hi]
  rfl
theorem zf37_5 {i : Nat} (hi : i < G.2.2.1) : zm_isF (zh G σ) (37, i) 5 5 = true := by
  unfold zm_isF
  rw [zg37 hi]
  rfl
theorem zq37_5 {i : Nat} (hi : i < G.2.2.1) : zm_getF (zh G σ) (37, i) 5 = .inl (σ 37 i 5) := by
  unfold zm_getF
  rw [zg37 hi]
  rfl
theorem zp37_5 {i : Nat} (hi : i < G.2.2.1) {x : Int32} : zm_putF (zh G σ) (37, i) 5 (.inl x) = zh G (zw σ 37 i 5 x) := by
  unfold zm_putF
  rw [zg37 hi]
  exact zh_set (by decide) (if_pos hi)
theorem zf37_6 {i : Nat} (hi : i < G.2.2.1) : zm_isF (zh G σ) (37, i) 5 6 = true := by
  unfold zm_isF
  rw [zg37 hi]
  rfl
theorem zq37_6 {i : Nat} (hi : i < G.2.2.1) : zm_getF (zh G σ) (37, i) 6 = .inl (σ 37 i 6) := by
  unfold zm_getF
  rw [zg37 hi]
  rfl
theorem zp37_6 {i : Nat} (hi : i < G.2.2.1) {x : Int32} : zm_putF (zh G σ) (37, i) 6 (.inl x) = zh G (zw σ 37 i 6 x) := by
  unfold zm_putF
  rw [zg37 hi]
  exact zh_set (by decide) (if_pos hi)
theorem zf37_7 {i : Nat} (hi : i < G.2.2.1) : zm_isF (zh G σ) (37, i) 5 7 = true := by
  unfold zm_isF
  rw [zg37 hi]
  rfl
theorem zq37_7 {i : Nat} (hi : i < G.2.2.1) : zm_getF (zh G σ) (37, i) 7 = .inl (σ 37 i 7) := by
  unfold zm_getF
  rw [zg37 hi]
  rfl
theorem zp37_7 {i : Nat} (hi : i < G.2.2.1) {x : Int32} : zm_putF (zh G σ) (37, i) 7 (.inl x) = zh G (zw σ 37 i 7 x) := by
  unfold zm_putF
  rw [zg37 hi]
  exact zh_set (by decide) (if_pos hi)
theorem zf37_8 {i : Nat} (hi : i < G.2.2.1) : zm_isF (zh G σ) (37, i) 5 8 = true := by
  unfold zm_isF
  rw [zg37 hi]
  rfl
theorem zq37_8 {i : Nat} (hi : i < G.2.2.1) : zm_getF (zh G σ) (37, i) 8 = .inl (σ 37 i 8) := by
  unfold zm_getF
  rw [zg37 hi]
  rfl
theorem zp37_8 {i : Nat} (hi : i < G.2.2.1) {x : Int32} : zm_putF (zh G σ) (37, i) 8 (.inl x) = zh G (zw σ 37 i 8 x) := by
  unfold zm_putF
  rw [zg37 hi]
  exact zh_set (by decide) (if_pos hi)
theorem zg38 {i : Nat} (hi : i < G.2.2.2.2) : zm_get (zh G σ) (38, i) = some (.inr (6, [.inl (σ 38 i 0), .inr (.inr (some (46, i)))])) := by
  rw [zh_get G σ 38 i (by decide)]
  exact if_pos hi
theorem zo38 {i : Nat} (hi : i < G.2.2.2.2) : zm_isO (zh G σ) (38, i) 6 = true := by
  unfold zm_isO
  rw [zg38 hi]
  rfl
theorem zf38_0 {i : Nat} (hi : i < G.2.2.2.2) : zm_isF (zh G σ) (38, i) 6 0 = true := by
  unfold zm_isF
  rw [zg38 hi]
  rfl
theorem zq38_0 {i : Nat} (hi : i < G.2.2.2.2) : zm_getF (zh G σ) (38, i) 0 = .inl (σ 38 i 0) := by
  unfold zm_getF
  rw [zg38 hi]
  rfl
theorem zp38_0 {i : Nat} (hi : i < G.2.2.2.2) {x : Int32} : zm_putF (zh G σ) (38, i) 0 (.inl x) = zh G (zw σ 38 i 0 x) := by
  unfold zm_putF
  rw [zg38 hi]
  exact zh_set (by decide) (if_pos hi)
theorem zf38_1 {i : Nat} (hi : i < G.2.2.2.2) : zm_isF (zh G σ) (38, i) 6 1 = true := by
  unfold zm_isF
  rw [zg38 hi]
  rfl
theorem zq38_1 {i : Nat} (hi : i < G.2.2.2.2) : zm_getF (zh G σ) (38, i) 1 = .inr (.inr (some (46, i))) := by
  unfold zm_getF
  rw [zg38 hi]
  rfl
theorem zg42 {i : Nat} (hi : i < G.2.2.1) : zm_get (zh G σ) (42, i) = some (.inr (7, [.inl (σ 42 i 0), .inl (σ 42 i 1), .inl (σ 42 i 2), .inl (σ 42 i 3)])) := by
  rw [zh_get G σ 42 i (by decide)]
  exact if_pos hi
theorem zo42 {i : Nat} (hi : i < G.2.2.1) : zm_isO (zh G σ) (42, i) 7 = true := by
  unfold zm_isO
  rw [zg42 hi]
  rfl
theorem zf42_0 {i : Nat} (hi : i < G.2.2.1) : zm_isF (zh G σ) (42, i) 7 0 = true := by
  unfold zm_isF
  rw [zg42 hi]
  rfl
theorem zq42_0 {i : Nat} (hi : i < G.2.2.1) : zm_getF (zh G σ) (42, i) 0 = .inl (σ 42 i 0) := by
  unfold zm_getF
  rw [zg42 hi]
  rfl
theorem zp42_0 {i : Nat} (hi : i < G.2.2.1) {x : Int32} : zm_putF (zh G σ) (42, i) 0 (.inl x) = zh G (zw σ 42 i 0 x) := by
  unfold zm_putF
  rw [zg42 hi]
  exact zh_set (by decide) (if_pos hi)
theorem zf42_1 {i : Nat} (hi : i < G.2.2.1) : zm_isF (zh G σ) (42, i) 7 1 = true := by
  unfold zm_isF
  rw [zg42 hi]
  rfl
theorem zq42_1 {i : Nat} (hi : i < G.2.2.1) : zm_getF (zh G σ) (42, i) 1 = .inl (σ 42 i 1) := by
  unfold zm_getF
  rw [zg42 hi]
  rfl
theorem zp42_1 {i : Nat} (hi : i < G.2.2.1) {x : Int32} : zm_putF (zh G σ) (42, i) 1 (.inl x) = zh G (zw σ 42 i 1 x) := by
  unfold zm_putF
  rw [zg42 hi]
  exact zh_set (by decide) (if_pos hi)
theorem zf42_2 {i : Nat} (hi : i < G.2.2.1) : zm_isF (zh G σ) (42, i) 7 2 = true := by
  unfold zm_isF
  rw [zg42 hi]
  rfl
theorem zq42_2 {i : Nat} (hi : i < G.2.2.1) : zm_getF (zh G σ) (42, i) 2 = .inl (σ 42 i 2) := by
  unfold zm_getF
  rw [zg42 hi]
  rfl
theorem zp42_2 {i : Nat} (hi : i < G.2.2.1) {x : Int32} : zm_putF (zh G σ) (42, i) 2 (.inl x) = zh G (zw σ 42 i 2 x) := by
  unfold zm_putF
  rw [zg42 hi]
  exact zh_set (by decide) (if_pos hi)
theorem zf42_3 {i : Nat} (hi : i < G.2.2.1) : zm_isF (zh G σ) (42, i) 7 3 = true := by
  unfold zm_isF
  rw [zg42 hi]
  rfl
theorem zq42_3 {i : Nat} (hi : i < G.2.2.1) : zm_getF (zh G σ) (42, i) 3 = .inl (σ 42 i 3) := by
  unfold zm_getF
  rw [zg42 hi]
  rfl
theorem zp42_3 {i : Nat} (hi : i < G.2.2.1) {x : Int32} : zm_putF (zh G σ) (42, i) 3 (.inl x) = zh G (zw σ 42 i 3 x) := by
  unfold zm_putF
  rw [zg42 hi]
  exact zh_set (by decide) (if_pos hi)
theorem zg43 {i : Nat} (hi : i < G.2.2.1) : zm_get (zh G σ) (43, i) = some (.inr (7, [.inl (σ 43 i 0), .inl (σ 43 i 1), .inl (σ 43 i 2), .inl (σ 43 i 3)])) := by
  rw [zh_get G σ 43 i (by decide)]
  exact if_pos hi
theorem zo43 {i : Nat} (hi : i < G.2.2.1) : zm_isO (zh G σ) (43, i) 7 = true := by
  unfold zm_isO
  rw [zg43 hi]
  rfl
theorem zf43_0 {i : Nat} (hi : i < G.2.2.1) : zm_isF (zh G σ) (43, i) 7 0 = true := by
  unfold zm_isF
  rw [zg43 hi]
  rfl
theorem zq43_0 {i : Nat} (hi : i < G.2.2.1) : zm_getF (zh G σ) (43, i) 0 = .inl (σ 43 i 0) := by
  unfold zm_getF
  rw [zg43 hi]
  rfl
theorem zp43_0 {i : Nat} (hi : i < G.2.2.1) {x : Int32} : zm_putF (zh G σ) (43, i) 0 (.inl x) = zh G (zw σ 43 i 0 x) := by
  unfold zm_putF
  rw [zg43 hi]
  exact zh_set (by decide) (if_pos hi)
theorem zf43_1 {i : Nat} (hi : i < G.2.2.1) : zm_isF (zh G σ) (43, i) 7 1 = true := by
  unfold zm_isF
  rw [zg43 hi]
  rfl
theorem zq43_1 {i : Nat} (hi : i < G.2.2.1) : zm_getF (zh G σ) (43, i) 1 = .inl (σ 43 i 1) := by
  unfold zm_getF
  rw [zg43 hi]
  rfl
theorem zp43_1 {i : Nat} (hi : i < G.2.2.1) {x : Int32} : zm_putF (zh G σ) (43, i) 1 (.inl x) = zh G (zw σ 43 i 1 x) := by
  unfold zm_putF
  rw [zg43 hi]
  exact zh_set (by decide) (if_pos hi)
theorem zf43_2 {i : Nat} (hi : i < G.2.2.1) : zm_isF (zh G σ) (43, i) 7 2 = true := by
  unfold zm_isF
  rw [zg43 hi]
  rfl
theorem zq43_2 {i : Nat} (hi : i < G.2.2.1) : zm_getF (zh G σ) (43, i) 2 = .inl (σ 43 i 2) := by
  unfold zm_getF
  rw [zg43 hi]
  rfl
theorem zp43_2 {i : Nat} (hi : i < G.2.2.1) {x : Int32} : zm_putF (zh G σ) (43, i) 2 (.inl x) = zh G (zw σ 43 i 2 x) := by
  unfold zm_putF
  rw [zg43 hi]
  exact zh_set (by decide) (if_pos hi)
theorem zf43_3 {i : Nat} (hi : i < G.2.2.1) : zm_isF (zh G σ) (43, i) 7 3 = true := by
  unfold zm_isF
  rw [zg43 hi]
  rfl
theorem zq43_3 {i : Nat} (hi : i < G.2.2.1) : zm_getF (zh G σ) (43, i) 3 = .inl (σ 43 i 3) := by
  unfold zm_getF
  rw [zg43 hi]
  rfl
theorem zp43_3 {i : Nat} (hi : i < G.2.2.1) {x : Int32} : zm_putF (zh G σ) (43, i) 3 (.inl x) = zh G (zw σ 43 i 3 x) := by
  unfold zm_putF
  rw [zg43 hi]
  exact zh_set (by decide) (if_pos hi)
theorem zg44 {i : Nat} (hi : i < G.2.2.1) : zm_get (zh G σ) (44, i) = some (.inr (7, [.inl (σ 44 i 0), .inl (σ 44 i 1), .inl (σ 44 i 2), .inl (σ 44 i 3)])) := by
  rw [zh_get G σ 44 i (by decide)]
  exact if_pos hi
theorem zo44 {i : Nat} (hi : i < G.2.2.1) : zm_isO (zh G σ) (44, i) 7 = true := by
  unfold zm_isO
  rw [zg44 hi]
  rfl
theorem zf44_0 {i : Nat} (hi : i < G.2.2.1) : zm_isF (zh G σ) (44, i) 7 0 = true := by
  unfold zm_isF
  rw [zg44 hi]
  rfl
theorem zq44_0 {i : Nat} (hi : i < G.2.2.1) : zm_getF (zh G σ) (44, i) 0 = .inl (σ 44 i 0) := by
  unfold zm_getF
  rw [zg44 hi]
  rfl
theorem zp44_0 {i : Nat} (hi : i < G.2.2.1) {x : Int32} : zm_putF (zh G σ) (44, i) 0 (.inl x) = zh G (zw σ 44 i 0 x) := by
  unfold zm_putF
  rw [zg44 hi]
  exact zh_set (by decide) (if_pos hi)
theorem zf44_1 {i : Nat} (hi : i < G.2.2.1) : zm_isF (zh G σ) (44, i) 7 1 = true := by
  unfold zm_isF
  rw [zg44 hi]
  rfl
theorem zq44_1 {i : Nat} (hi : i < G.2.2.1) : zm_getF (zh G σ) (44, i) 1 = .inl (σ 44 i 1) := by
  unfold zm_getF
  rw [zg44 hi]
  rfl
theorem zp44_1 {i : Nat} (hi : i < G.2.2.1) {x : Int32} : zm_putF (zh G σ) (44, i) 1 (.inl x) = zh G (zw σ 44 i 1 x) := by
  unfold zm_putF
  rw [zg44 hi]
  exact zh_set (by decide) (if_pos hi)
theorem zf44_2 {i : Nat} (hi : i < G.2.2.1) : zm_isF (zh G σ) (44, i) 7 2 = true := by
  unfold zm_isF
  rw [zg44 hi]
  rfl
theorem zq44_2 {i : Nat} (hi : i < G.2.2.1) : zm_getF (zh G σ) (44, i) 2 = .inl (σ 44 i 2) := by
  unfold zm_getF
  rw [zg44 hi]
  rfl
theorem zp44_2 {i : Nat} (hi : i < G.2.2.1) {x : Int32} : zm_putF (zh G σ) (44, i) 2 (.inl x) = zh G (zw σ 44 i 2 x) := by
  unfold zm_putF
  rw [zg44 hi]
  exact zh_set (by decide) (if_pos hi)
theorem zf44_3 {i : Nat} (hi : i < G.2.2.1) : zm_isF (zh G σ) (44, i) 7 3 = true := by
  unfold zm_isF
  rw [zg44 hi]
  rfl
theorem zq44_3 {i : Nat} (hi : i < G.2.2.1) : zm_getF (zh G σ) (44, i) 3 = .inl (σ 44 i 3) := by
  unfold zm_getF
  rw [zg44 hi]
  rfl
theorem zp44_3 {i : Nat} (hi : i < G.2.2.1) {x : Int32} : zm_putF (zh G σ) (44, i) 3 (.inl x) = zh G (zw σ 44 i 3 x) := by
  unfold zm_putF
  rw [zg44 hi]
  exact zh_set (by decide) (if_pos hi)
theorem zg45 {i : Nat} (hi : i < G.2.2.2.1) : zm_get (zh G σ) (45, i) = some (.inr (8, [.inl (σ 45 i 0), .inl (σ 45 i 1), .inl (σ 45 i 2), .inl (σ 45 i 3), .inl (σ 45 i 4), .inl (σ 45 i 5), .inl (σ 45 i 6)])) := by
  rw [zh_get G σ 45 i (by decide)]
  exact if_pos hi
theorem zo45 {i : Nat} (hi : i < G.2.2.2.1) : zm_isO (zh G σ) (45, i) 8 = true := by
  unfold zm_isO
  rw [zg45 hi]
  rfl
theorem zf45_0 {i : Nat} (hi : i < G.2.2.2.1) : zm_isF (zh G σ) (45, i) 8 0 = true := by
  unfold zm_isF
  rw [zg45 hi]
  rfl
theorem zq45_0 {i : Nat} (hi : i < G.2.2.2.1) : zm_getF (zh G σ) (45, i) 0 = .inl (σ 45 i 0) := by
  unfold zm_getF
  rw [zg45 hi]
  rfl
theorem zp45_0 {i : Nat} (hi : i < G.2.2.2.1) {x : Int32} : zm_putF (zh G σ) (45, i) 0 (.inl x) = zh G (zw σ 45 i 0 x) := by
  unfold zm_putF
  rw [zg45 hi]
  exact zh_set (by decide) (if_pos hi)
theorem zf45_1 {i : Nat} (hi : i < G.2.2.2.1) : zm_isF (zh G σ) (45, i) 8 1 = true := by
  unfold zm_isF
  rw [zg45 hi]
  rfl
theorem zq45_1 {i : Nat} (hi : i < G.2.2.2.1) : zm_getF (zh G σ) (45, i) 1 = .inl (σ 45 i 1) := by
  unfold zm_getF
  rw [zg45 hi]
  rfl
theorem zp45_1 {i : Nat} (hi : i < G.2.2.2.1) {x : Int32} : zm_putF (zh G σ) (45, i) 1 (.inl x) = zh G (zw σ 45 i 1 x) := by
  unfold zm_putF
  rw [zg45 hi]
  exact zh_set (by decide) (if_pos hi)
theorem zf45_2 {i : Nat} (hi : i < G.2.2.2.1) : zm_isF (zh G σ) (45, i) 8 2 = true := by
  unfold zm_isF
  rw [zg45 hi]
  rfl
theorem zq45_2 {i : Nat} (hi : i < G.2.2.2.1) : zm_getF (zh G σ) (45, i) 2 = .inl (σ 45 i 2) := by
  unfold zm_getF
  rw [zg45 hi]
  rfl
theorem zp45_2 {i : Nat} (hi : i < G.2.2.2.1) {x : Int32} : zm_putF (zh G σ) (45, i) 2 (.inl x) = zh G (zw σ 45 i 2 x) := by
  unfold zm_putF
  rw [zg45 hi]
  exact zh_set (by decide) (if_pos hi)
theorem zf45_3 {i : Nat} (hi : i < G.2.2.2.1) : zm_isF (zh G σ) (45, i) 8 3 = true := by
  unfold zm_isF
  rw [zg45 hi]
  rfl
theorem zq45_3 {i : Nat} (hi : i < G.2.2.2.1) : zm_getF (zh G σ) (45, i) 3 = .inl (σ 45 i 3) := by
  unfold zm_getF
  rw [zg45 hi]
  rfl
theorem zp45_3 {i : Nat} (hi : i < G.2.2.2.1) {x : Int32} : zm_putF (zh G σ) (45, i) 3 (.inl x) = zh G (zw σ 45 i 3 x) := by
  unfold zm_putF
  rw [zg45 hi]
  exact zh_set (by decide) (if_pos hi)
theorem zf45_4 {i : Nat} (hi : i < G.2.2.2.1) : zm_isF (zh G σ) (45, i) 8 4 = true := by
  unfold zm_isF
  rw [zg45 hi]
  rfl
theorem zq45_4 {i : Nat} (hi : i < G.2.2.2.1) : zm_getF (zh G σ) (45, i) 4 = .inl (σ 45 i 4) := by
  unfold zm_getF
  rw [zg45 hi]
  rfl
theorem zp45_4 {i : Nat} (hi : i < G.2.2.2.1) {x : Int32} : zm_putF (zh G σ) (45, i) 4 (.inl x) = zh G (zw σ 45 i 4 x) := by
  unfold zm_putF
  rw [zg45 hi]
  exact zh_set (by decide) (if_pos hi)
theorem zf45_5 {i : Nat} (hi : i < G.2.2.2.1) : zm_isF (zh G σ) (45, i) 8 5 = true := by
  unfold zm_isF
  rw [zg45 hi]
  rfl
theorem zq45_5 {i : Nat} (hi : i < G.2.2.2.1) : zm_getF (zh G σ) (45, i) 5 = .inl (σ 45 i 5) := by
  unfold zm_getF
  rw [zg45 hi]
  rfl
theorem zp45_5 {i : Nat} (hi : i < G.2.2.2.1) {x : Int32} : zm_putF (zh G σ) (45, i) 5 (.inl x) = zh G (zw σ 45 i 5 x) := by
  unfold zm_putF
  rw [zg45 hi]
  exact zh_set (by decide) (if_pos hi)
theorem zf45_6 {i : Nat} (hi : i < G.2.2.2.1) : zm_isF (zh G σ) (45, i) 8 6 = true := by
  unfold zm_isF
  rw [zg45 hi]
  rfl
theorem zq45_6 {i : Nat} (hi : i < G.2.2.2.1) : zm_getF (zh G σ) (45, i) 6 = .inl (σ 45 i 6) := by
  unfold zm_getF
  rw [zg45 hi]
  rfl
theorem zp45_6 {i : Nat} (hi : i < G.2.2.2.1) {x : Int32} : zm_putF (zh G σ) (45, i) 6 (.inl x) = zh G (zw σ 45 i 6 x) := by
  unfold zm_putF
  rw [zg45 hi]
  exact zh_set (by decide) (if_pos hi)
theorem zg46 {i : Nat} (hi : i < G.2.2.2.2) : zm_get (zh G σ) (46, i) = some (.inr (7, [.inl (σ 46 i 0), .inl (σ 46 i 1), .inl (σ 46 i 2), .inl (σ 46 i 3)])) := by
  rw [zh_get G σ 46 i (by decide)]
  exact if_pos hi
theorem zo46 {i : Nat} (hi : i < G.2.2.2.2) : zm_isO (zh G σ) (46, i) 7 = true := by
  unfold zm_isO
  rw [zg46 hi]
  rfl
theorem zf46_0 {i : Nat} (hi : i < G.2.2.2.2) : zm_isF (zh G σ) (46, i) 7 0 = true := by
  unfold zm_isF
  rw [zg46 hi]
  rfl
theorem zq46_0 {i : Nat} (hi : i < G.2.2.2.2) : zm_getF (zh G σ) (46, i) 0 = .inl (σ 46 i 0) := by
  unfold zm_getF
  rw [zg46 hi]
  rfl
theorem zp46_0 {i : Nat} (hi : i < G.2.2.2.2) {x : Int32} : zm_putF (zh G σ) (46, i) 0 (.inl x) = zh G (zw σ 46 i 0 x) := by
  unfold zm_putF
  rw [zg46 hi]
  exact zh_set (by decide) (if_pos hi)
theorem zf46_1 {i : Nat} (hi : i < G.2.2.2.2) : zm_isF (zh G σ) (46, i) 7 1 = true := by
  unfold zm_isF
  rw [zg46 hi]
  rfl
theorem zq46_1 {i : Nat} (hi : i < G.2.2.2.2) : zm_getF (zh G σ) (46, i) 1 = .inl (σ 46 i 1) := by
  unfold zm_getF
  rw [zg46 hi]
  rfl
theorem zp46_1 {i : Nat} (hi : i < G.2.2.2.2) {x : Int32} : zm_putF (zh G σ) (46, i) 1 (.inl x) = zh G (zw σ 46 i 1 x) := by
  unfold zm_putF
  rw [zg46 hi]
  exact zh_set (by decide) (if_pos hi)
theorem zf46_2 {i : Nat} (hi : i < G.2.2.2.2) : zm_isF (zh G σ) (46, i) 7 2 = true := by
  unfold zm_isF
  rw [zg46 hi]
  rfl
theorem zq46_2 {i : Nat} (hi : i < G.2.2.2.2) : zm_getF (zh G σ) (46, i) 2 = .inl (σ 46 i 2) := by
  unfold zm_getF
  rw [zg46 hi]
  rfl
theorem zp46_2 {i : Nat} (hi : i < G.2.2.2.2) {x : Int32} : zm_putF (zh G σ) (46, i) 2 (.inl x) = zh G (zw σ 46 i 2 x) := by
  unfold zm_putF
  rw [zg46 hi]
  exact zh_set (by decide) (if_pos hi)
theorem zf46_3 {i : Nat} (hi : i < G.2.2.2.2) : zm_isF (zh G σ) (46, i) 7 3 = true := by
  unfold zm_isF
  rw [zg46 hi]
  rfl
theorem zq46_3 {i : Nat} (hi : i < G.2.2.2.2) : zm_getF (zh G σ) (46, i) 3 = .inl (σ 46 i 3) := by
  unfold zm_getF
  rw [zg46 hi]
  rfl
theorem zp46_3 {i : Nat} (hi : i < G.2.2.2.2) {x : Int32} : zm_putF (zh G σ) (46, i) 3 (.inl x) = zh G (zw σ 46 i 3 x) := by
  unfold zm_putF
  rw [zg46 hi]
  exact zh_set (by decide) (if_pos hi)
theorem zg17 : zm_get (zh G σ) (17, 0) = some (.inl (.int, 40, .inl (σ 17 0))) := rfl
theorem za17 : zm_isA (zh G σ) (17, 0) = true := by
  unfold zm_isA
  rw [zg17]
theorem zn17 : zm_len (zh G σ) (17, 0) = 40 := by
  unfold zm_len
  rw [zg17]
  rfl
theorem zi17 {x : Int32} : zm_inI (zh G σ) (17, 0) .int x = true ↔ vp_in x 40 := by
  unfold zm_inI
  rw [zg17]
  simp [vp_in]
theorem zl17 {x : Int32} : zm_ldI (zh G σ) (17, 0) x = σ 17 0 x.toNatClampNeg := by
  unfold zm_ldI
  rw [zg17]
theorem zt17 {x y : Int32} : zm_stI (zh G σ) (17, 0) x y = zh G (zw σ 17 0 x.toNatClampNeg y) := by
  unfold zm_stI
  rw [zg17]
  exact zh_set (by decide) rfl
theorem zg18 : zm_get (zh G σ) (18, 0) = some (.inl (.int, 40, .inl (σ 18 0))) := rfl
theorem za18 : zm_isA (zh G σ) (18, 0) = true := by
  unfold zm_isA
  rw [zg18]
theorem zn18 : zm_len (zh G σ) (18, 0) = 40 := by
  unfold zm_len
  rw [zg18]
  rfl
theorem zi18 {x : Int32} : zm_inI (zh G σ) (18, 0) .int x = true ↔ vp_in x 40 := by
  unfold zm_inI
  rw [zg18]
  simp [vp_in]
theorem zl18 {x : Int32} : zm_ldI (zh G σ) (18, 0) x = σ 18 0 x.toNatClampNeg := by
  unfold zm_ldI
  rw [zg18]
theorem zt18 {x y : Int32} : zm_stI (zh G σ) (18, 0) x y = zh G (zw σ 18 0 x.toNatClampNeg y) := by
  unfold zm_stI
  rw [zg18]
  exact zh_set (by decide) rfl
theorem zg19 : zm_get (zh G σ) (19, 0) = some (.inl (.int, 10, .inl (σ 19 0))) := rfl
theorem za19 : zm_isA (zh G σ) (19, 0) = true := by
  unfold zm_isA
  rw [zg19]
theorem zn19 : zm_len (zh G σ) (19, 0) = 10 := by
  unfold zm_len
  rw [zg19]
  rfl
theorem zi19 {x : Int32} : zm_inI (zh G σ) (19, 0) .int x = true ↔ vp_in x 10 := by
  unfold zm_inI
  rw [zg19]
  simp [vp_in]
theorem zl19 {x : Int32} : zm_ldI (zh G σ) (19, 0) x = σ 19 0 x.toNatClampNeg := by
  unfold zm_ldI
  rw [zg19]
theorem zt19 {x y : Int32} : zm_stI (zh G σ) (19, 0) x y = zh G (zw σ 19 0 x.toNatClampNeg y) := by
  unfold zm_stI
  rw [zg19]
  exact zh_set (by decide) rfl
theorem zg20 : zm_get (zh G σ) (20, 0) = some (.inl (.boolean, 10, .inl (σ 20 0))) := rfl
theorem za20 : zm_isA (zh G σ) (20, 0) = true := by
  unfold zm_isA
  rw [zg20]
theorem zn20 : zm_len (zh G σ) (20, 0) = 10 := by
  unfold zm_len
  rw [zg20]
  rfl
theorem zi20 {x : Int32} : zm_inI (zh G σ) (20, 0) .boolean x = true ↔ vp_in x 10 := by
  unfold zm_inI
  rw [zg20]
  simp [vp_in]
theorem zl20 {x : Int32} : zm_ldI (zh G σ) (20, 0) x = σ 20 0 x.toNatClampNeg := by
  unfold zm_ldI
  rw [zg20]
theorem zt20 {x y : Int32} : zm_stI (zh G σ) (20, 0) x y = zh G (zw σ 20 0 x.toNatClampNeg y) := by
  unfold zm_stI
  rw [zg20]
  exact zh_set (by decide) rfl
theorem zg21 : zm_get (zh G σ) (21, 0) = some (.inl (.boolean, 10, .inl (σ 21 0))) := rfl
theorem za21 : zm_isA (zh G σ) (21, 0) = true := by
  unfold zm_isA
  rw [zg21]
theorem zn21 : zm_len (zh G σ) (21, 0) = 10 := by
  unfold zm_len
  rw [zg21]
  rfl
theorem zi21 {x : Int32} : zm_inI (zh G σ) (21, 0) .boolean x = true ↔ vp_in x 10 := by
  unfold zm_inI
  rw [zg21]
  simp [vp_in]
theorem zl21 {x : Int32} : zm_ldI (zh G σ) (21, 0) x = σ 21 0 x.toNatClampNeg := by
  unfold zm_ldI
  rw [zg21]
theorem zt21 {x y : Int32} : zm_stI (zh G σ) (21, 0) x y = zh G (zw σ 21 0 x.toNatClampNeg y) := by
  unfold zm_stI
  rw [zg21]
  exact zh_set (by decide) rfl
theorem zg22 : zm_get (zh G σ) (22, 0) = some (.inl (.int, 100, .inl (σ 22 0))) := rfl
theorem za22 : zm_isA (zh G σ) (22, 0) = true := by
  unfold zm_isA
  rw [zg22]
theorem zn22 : zm_len (zh G σ) (22, 0) = 100 := by
  unfold zm_len
  rw [zg22]
  rfl
theorem zi22 {x : Int32} : zm_inI (zh G σ) (22, 0) .int x = true ↔ vp_in x 100 := by
  unfold zm_inI
  rw [zg22]
  simp [vp_in]
theorem zl22 {x : Int32} : zm_ldI (zh G σ) (22, 0) x = σ 22 0 x.toNatClampNeg := by
  unfold zm_ldI
  rw [zg22]
theorem zt22 {x y : Int32} : zm_stI (zh G σ) (22, 0) x y = zh G (zw σ 22 0 x.toNatClampNeg y) := by
  unfold zm_stI
  rw [zg22]
  exact zh_set (by decide) rfl
theorem zg23 : zm_get (zh G σ) (23, 0) = some (.inl (.int, 60, .inl (σ 23 0))) := rfl
theorem za23 : zm_isA (zh G σ) (23, 0) = true := by
  unfold zm_isA
  rw [zg23]
theorem zn23 : zm_len (zh G σ) (23, 0) = 60 := by
  unfold zm_len
  rw [zg23]
  rfl
theorem zi23 {x : Int32} : zm_inI (zh G σ) (23, 0) .int x = true ↔ vp_in x 60 := by
  unfold zm_inI
  rw [zg23]
  simp [vp_in]
theorem zl23 {x : Int32} : zm_ldI (zh G σ) (23, 0) x = σ 23 0 x.toNatClampNeg := by
  unfold zm_ldI
  rw [zg23]
theorem zt23 {x y : Int32} : zm_stI (zh G σ) (23, 0) x y = zh G (zw σ 23 0 x.toNatClampNeg y) := by
  unfold zm_stI
  rw [zg23]
  exact zh_set (by decide) rfl
theorem zg24 : zm_get (zh G σ) (24, 0) = some (.inl (.int, 60, .inl (σ 24 0))) := rfl
theorem za24 : zm_isA (zh G σ) (24, 0) = true := by
  unfold zm_isA
  rw [zg24]
theorem zn24 : zm_len (zh G σ) (24, 0) = 60 := by
  unfold zm_len
  rw [zg24]
  rfl
theorem zi24 {x : Int32} : zm_inI (zh G σ) (24, 0) .int x = true ↔ vp_in x 60 := by
  unfold zm_inI
  rw [zg24]
  simp [vp_in]
theorem zl24 {x : Int32} : zm_ldI (zh G σ) (24, 0) x = σ 24 0 x.toNatClampNeg := by
  unfold zm_ldI
  rw [zg24]
theorem zt24 {x y : Int32} : zm_stI (zh G σ) (24, 0) x y = zh G (zw σ 24 0 x.toNatClampNeg y) := by
  unfold zm_stI
  rw [zg24]
  exact zh_set (by decide) rfl
theorem zg25 : zm_get (zh G σ) (25, 0) = some (.inl (.int, 60, .inl (σ 25 0))) := rfl
theorem za25 : zm_isA (zh G σ) (25, 0) = true := by
  unfold zm_isA
  rw [zg25]
theorem zn25 : zm_len (zh G σ) (25, 0) = 60 := by
  unfold zm_len
  rw [zg25]
  rfl
theorem zi25 {x : Int32} : zm_inI (zh G σ) (25, 0) .int x = true ↔ vp_in x 60 := by
  unfold zm_inI
  rw [zg25]
  simp [vp_in]
theorem zl25 {x : Int32} : zm_ldI (zh G σ) (25, 0) x = σ 25 0 x.toNatClampNeg := by
  unfold zm_ldI
  rw [zg25]
theorem zt25 {x y : Int32} : zm_stI (zh G σ) (25, 0) x y = zh G (zw σ 25 0 x.toNatClampNeg y) := by
  unfold zm_stI
  rw [zg25]
  exact zh_set (by decide) rfl
theorem zg26 : zm_get (zh G σ) (26, 0) = some (.inl (.int, 60, .inl (σ 26 0))) := rfl
theorem za26 : zm_isA (zh G σ) (26, 0) = true := by
  unfold zm_isA
  rw [zg26]
theorem zn26 : zm_len (zh G σ) (26, 0) = 60 := by
  unfold zm_len
  rw [zg26]
  rfl
theorem zi26 {x : Int32} : zm_inI (zh G σ) (26, 0) .int x = true ↔ vp_in x 60 := by
  unfold zm_inI
  rw [zg26]
  simp [vp_in]
theorem zl26 {x : Int32} : zm_ldI (zh G σ) (26, 0) x = σ 26 0 x.toNatClampNeg := by
  unfold zm_ldI
  rw [zg26]
theorem zt26 {x y : Int32} : zm_stI (zh G σ) (26, 0) x y = zh G (zw σ 26 0 x.toNatClampNeg y) := by
  unfold zm_stI
  rw [zg26]
  exact zh_set (by decide) rfl
theorem zg27 : zm_get (zh G σ) (27, 0) = some (.inl (.int, 60, .inl (σ 27 0))) := rfl
theorem za27 : zm_isA (zh G σ) (27, 0) = true := by
  unfold zm_isA
  rw [zg27]
theorem zn27 : zm_len (zh G σ) (27, 0) = 60 := by
  unfold zm_len
  rw [zg27]
  rfl
theorem zi27 {x : Int32} : zm_inI (zh G σ) (27, 0) .int x = true ↔ vp_in x 60 := by
  unfold zm_inI
  rw [zg27]
  simp [vp_in]
theorem zl27 {x : Int32} : zm_ldI (zh G σ) (27, 0) x = σ 27 0 x.toNatClampNeg := by
  unfold zm_ldI
  rw [zg27]
theorem zt27 {x y : Int32} : zm_stI (zh G σ) (27, 0) x y = zh G (zw σ 27 0 x.toNatClampNeg y) := by
  unfold zm_stI
  rw [zg27]
  exact zh_set (by decide) rfl
theorem zg28 : zm_get (zh G σ) (28, 0) = some (.inl (.int, 60, .inl (σ 28 0))) := rfl
theorem za28 : zm_isA (zh G σ) (28, 0) = true := by
  unfold zm_isA
  rw [zg28]
theorem zn28 : zm_len (zh G σ) (28, 0) = 60 := by
  unfold zm_len
  rw [zg28]
  rfl
theorem zi28 {x : Int32} : zm_inI (zh G σ) (28, 0) .int x = true ↔ vp_in x 60 := by
  unfold zm_inI
  rw [zg28]
  simp [vp_in]
theorem zl28 {x : Int32} : zm_ldI (zh G σ) (28, 0) x = σ 28 0 x.toNatClampNeg := by
  unfold zm_ldI
  rw [zg28]
theorem zt28 {x y : Int32} : zm_stI (zh G σ) (28, 0) x y = zh G (zw σ 28 0 x.toNatClampNeg y) := by
  unfold zm_stI
  rw [zg28]
  exact zh_set (by decide) rfl
theorem zg29 : zm_get (zh G σ) (29, 0) = some (.inl (.boolean, 60, .inl (σ 29 0))) := rfl
theorem za29 : zm_isA (zh G σ) (29, 0) = true := by
  unfold zm_isA
  rw [zg29]
theorem zn29 : zm_len (zh G σ) (29, 0) = 60 := by
  unfold zm_len
  rw [zg29]
  rfl
theorem zi29 {x : Int32} : zm_inI (zh G σ) (29, 0) .boolean x = true ↔ vp_in x 60 := by
  unfold zm_inI
  rw [zg29]
  simp [vp_in]
theorem zl29 {x : Int32} : zm_ldI (zh G σ) (29, 0) x = σ 29 0 x.toNatClampNeg := by
  unfold zm_ldI
  rw [zg29]
theorem zt29 {x y : Int32} : zm_stI (zh G σ) (29, 0) x y = zh G (zw σ 29 0 x.toNatClampNeg y) := by
  unfold zm_stI
  rw [zg29]
  exact zh_set (by decide) rfl
theorem zg30 : zm_get (zh G σ) (30, 0) = some (.inl (.int, 10, .inl (σ 30 0))) := rfl
theorem za30 : zm_isA (zh G σ) (30, 0) = true := by
  unfold zm_isA
  rw [zg30]
theorem zn30 : zm_len (zh G σ) (30, 0) = 10 := by
  unfold zm_len
  rw [zg30]
  rfl
theorem zi30 {x : Int32} : zm_inI (zh G σ) (30, 0) .int x = true ↔ vp_in x 10 := by
  unfold zm_inI
  rw [zg30]
  simp [vp_in]
theorem zl30 {x : Int32} : zm_ldI (zh G σ) (30, 0) x = σ 30 0 x.toNatClampNeg := by
  unfold zm_ldI
  rw [zg30]
theorem zt30 {x y : Int32} : zm_stI (zh G σ) (30, 0) x y = zh G (zw σ 30 0 x.toNatClampNeg y) := by
  unfold zm_stI
  rw [zg30]
  exact zh_set (by decide) rfl
theorem zg31 : zm_get (zh G σ) (31, 0) = some (.inl (.int, 60, .inl (σ 31 0))) := rfl
theorem za31 : zm_isA (zh G σ) (31, 0) = true := by
  unfold zm_isA
  rw [zg31]
theorem zn31 : zm_len (zh G σ) (31, 0) = 60 := by
  unfold zm_len
  rw [zg31]
  rfl
theorem zi31 {x : Int32} : zm_inI (zh G σ) (31, 0) .int x = true ↔ vp_in x 60 := by
  unfold zm_inI
  rw [zg31]
  simp [vp_in]
theorem zl31 {x : Int32} : zm_ldI (zh G σ) (31, 0) x = σ 31 0 x.toNatClampNeg := by
  unfold zm_ldI
  rw [zg31]
theorem zt31 {x y : Int32} : zm_stI (zh G σ) (31, 0) x y = zh G (zw σ 31 0 x.toNatClampNeg y) := by
  unfold zm_stI
  rw [zg31]
  exact zh_set (by decide) rfl
theorem zg32 : zm_get (zh G σ) (32, 0) = some (.inl (.int, 10, .inl (σ 32 0))) := rfl
theorem za32 : zm_isA (zh G σ) (32, 0) = true := by
  unfold zm_isA
  rw [zg32]
theorem zn32 : zm_len (zh G σ) (32, 0) = 10 := by
  unfold zm_len
  rw [zg32]
  rfl
theorem zi32 {x : Int32} : zm_inI (zh G σ) (32, 0) .int x = true ↔ vp_in x 10 := by
  unfold zm_inI
  rw [zg32]
  simp [vp_in]
theorem zl32 {x : Int32} : zm_ldI (zh G σ) (32, 0) x = σ 32 0 x.toNatClampNeg := by
  unfold zm_ldI
  rw [zg32]
theorem zt32 {x y : Int32} : zm_stI (zh G σ) (32, 0) x y = zh G (zw σ 32 0 x.toNatClampNeg y) := by
  unfold zm_stI
  rw [zg32]
  exact zh_set (by decide) rfl
theorem zg33 : zm_get (zh G σ) (33, 0) = some (.inl (.int, 4, .inl (σ 33 0))) := rfl
theorem za33 : zm_isA (zh G σ) (33, 0) = true := by
  unfold zm_isA
  rw [zg33]
theorem zn33 : zm_len (zh G σ) (33, 0) = 4 := by
  unfold zm_len
  rw [zg33]
  rfl
theorem zi33 {x : Int32} : zm_inI (zh G σ) (33, 0) .int x = true ↔ vp_in x 4 := by
  unfold zm_inI
  rw [zg33]
  simp [vp_in]
theorem zl33 {x : Int32} : zm_ldI (zh G σ) (33, 0) x = σ 33 0 x.toNatClampNeg := by
  unfold zm_ldI
  rw [zg33]
theorem zt33 {x y : Int32} : zm_stI (zh G σ) (33, 0) x y = zh G (zw σ 33 0 x.toNatClampNeg y) := by
  unfold zm_stI
  rw [zg33]
  exact zh_set (by decide) rfl
theorem zg34 : zm_get (zh G σ) (34, 0) = some (.inl (.int, 100, .inl (σ 34 0))) := rfl
theorem za34 : zm_isA (zh G σ) (34, 0) = true := by
  unfold zm_isA
  rw [zg34]
theorem zn34 : zm_len (zh G σ) (34, 0) = 100 := by
  unfold zm_len
  rw [zg34]
  rfl
theorem zi34 {x : Int32} : zm_inI (zh G σ) (34, 0) .int x = true ↔ vp_in x 100 := by
  unfold zm_inI
  rw [zg34]
  simp [vp_in]
theorem zl34 {x : Int32} : zm_ldI (zh G σ) (34, 0) x = σ 34 0 x.toNatClampNeg := by
  unfold zm_ldI
  rw [zg34]
theorem zt34 {x y : Int32} : zm_stI (zh G σ) (34, 0) x y = zh G (zw σ 34 0 x.toNatClampNeg y) := by
  unfold zm_stI
  rw [zg34]
  exact zh_set (by decide) rfl
theorem zg35 : zm_get (zh G σ) (35, 0) = some (.inl (.int, 400, .inl (σ 35 0))) := rfl
theorem za35 : zm_isA (zh G σ) (35, 0) = true := by
  unfold zm_isA
  rw [zg35]
theorem zn35 : zm_len (zh G σ) (35, 0) = 400 := by
  unfold zm_len
  rw [zg35]
  rfl
theorem zi35 {x : Int32} : zm_inI (zh G σ) (35, 0) .int x = true ↔ vp_in x 400 := by
  unfold zm_inI
  rw [zg35]
  simp [vp_in]
theorem zl35 {x : Int32} : zm_ldI (zh G σ) (35, 0) x = σ 35 0 x.toNatClampNeg := by
  unfold zm_ldI
  rw [zg35]
theorem zt35 {x y : Int32} : zm_stI (zh G σ) (35, 0) x y = zh G (zw σ 35 0 x.toNatClampNeg y) := by
  unfold zm_stI
  rw [zg35]
  exact zh_set (by decide) rfl
theorem zg36 : zm_get (zh G σ) (36, 0) = some (.inl (.boolean, 10, .inl (σ 36 0))) := rfl
theorem za36 : zm_isA (zh G σ) (36, 0) = true := by
  unfold zm_isA
  rw [zg36]
theorem zn36 : zm_len (zh G σ) (36, 0) = 10 := by
  unfold zm_len
  rw [zg36]
  rfl
theorem zi36 {x : Int32} : zm_inI (zh G σ) (36, 0) .boolean x = true ↔ vp_in x 10 := by
  unfold zm_inI
  rw [zg36]
  simp [vp_in]
theorem zl36 {x : Int32} : zm_ldI (zh G σ) (36, 0) x = σ 36 0 x.toNatClampNeg := by
  unfold zm_ldI
  rw [zg36]
theorem zt36 {x y : Int32} : zm_stI (zh G σ) (36, 0) x y = zh G (zw σ 36 0 x.toNatClampNeg y) := by
  unfold zm_stI
  rw [zg36]
  exact zh_set (by decide) rfl
theorem zg39 : zm_get (zh G σ) (39, 0) = some (.inl (.char, 60, .inl (σ 39 0))) := rfl
theorem za39 : zm_isA (zh G σ) (39, 0) = true := by
  unfold zm_isA
  rw [zg39]
theorem zn39 : zm_len (zh G σ) (39, 0) = 60 := by
  unfold zm_len
  rw [zg39]
  rfl
theorem zi39 {x : Int32} : zm_inI (zh G σ) (39, 0) .char x = true ↔ vp_in x 60 := by
  unfold zm_inI
  rw [zg39]
  simp [vp_in]
theorem zl39 {x : Int32} : zm_ldI (zh G σ) (39, 0) x = σ 39 0 x.toNatClampNeg := by
  unfold zm_ldI
  rw [zg39]
theorem zt39 {x y : Int32} : zm_stI (zh G σ) (39, 0) x y = zh G (zw σ 39 0 x.toNatClampNeg y) := by
  unfold zm_stI
  rw [zg39]
  exact zh_set (by decide) rfl
theorem zg40a : zm_get (zh G σ) (40, 0) = some (.inl (.int, 60, .inl (σ 40 0))) := rfl
theorem za40a : zm_isA (zh G σ) (40, 0) = true := by
  unfold zm_isA
  rw [zg40a]
theorem zn40a : zm_len (zh G σ) (40, 0) = 60 := by
  unfold zm_len
  rw [zg40a]
  rfl
theorem zi40a {x : Int32} : zm_inI (zh G σ) (40, 0) .int x = true ↔ vp_in x 60 := by
  unfold zm_inI
  rw [zg40a]
  simp [vp_in]
theorem zl40a {x : Int32} : zm_ldI (zh G σ) (40, 0) x = σ 40 0 x.toNatClampNeg := by
  unfold zm_ldI
  rw [zg40a]
theorem zt40a {x y : Int32} : zm_stI (zh G σ) (40, 0) x y = zh G (zw σ 40 0 x.toNatClampNeg y) := by
  unfold zm_stI
  rw [zg40a]
  exact zh_set (by decide) rfl
theorem zg40b : zm_get (zh G σ) (40, 1) = some (.inl (.int, 10, .inl (σ 40 1))) := rfl
theorem za40b : zm_isA (zh G σ) (40, 1) = true := by
  unfold zm_isA
  rw [zg40b]
theorem zn40b : zm_len (zh G σ) (40, 1) = 10 := by
  unfold zm_len
  rw [zg40b]
  rfl
theorem zi40b {x : Int32} : zm_inI (zh G σ) (40, 1) .int x = true ↔ vp_in x 10 := by
  unfold zm_inI
  rw [zg40b]
  simp [vp_in]
theorem zl40b {x : Int32} : zm_ldI (zh G σ) (40, 1) x = σ 40 1 x.toNatClampNeg := by
  unfold zm_ldI
  rw [zg40b]
theorem zt40b {x y : Int32} : zm_stI (zh G σ) (40, 1) x y = zh G (zw σ 40 1 x.toNatClampNeg y) := by
  unfold zm_stI
  rw [zg40b]
  exact zh_set (by decide) rfl
theorem zg41 {i : Nat} (hi : i < G.2.2.1) : zm_get (zh G σ) (41, i) = some (.inl (.int, 10, .inl (σ 41 i))) := by
  rw [zh_get G σ 41 i (by decide)]
  exact if_pos hi
theorem za41 {i : Nat} (hi : i < G.2.2.1) : zm_isA (zh G σ) (41, i) = true := by
  unfold zm_isA
  rw [zg41 hi]
theorem zn41 {i : Nat} (hi : i < G.2.2.1) : zm_len (zh G σ) (41, i) = 10 := by
  unfold zm_len
  rw [zg41 hi]
  rfl
theorem zi41 {i : Nat} (hi : i < G.2.2.1) {x : Int32} : zm_inI (zh G σ) (41, i) .int x = true ↔ vp_in x 10 := by
  unfold zm_inI
  rw [zg41 hi]
  simp [vp_in]
theorem zl41 {i : Nat} (hi : i < G.2.2.1) {x : Int32} : zm_ldI (zh G σ) (41, i) x = σ 41 i x.toNatClampNeg := by
  unfold zm_ldI
  rw [zg41 hi]
theorem zt41 {i : Nat} (hi : i < G.2.2.1) {x y : Int32} : zm_stI (zh G σ) (41, i) x y = zh G (zw σ 41 i x.toNatClampNeg y) := by
  unfold zm_stI
  rw [zg41 hi]
  exact zh_set (by decide) (if_pos hi)
theorem zg10 : zm_get (zh G σ) (10, 0) = some (.inl (.object "BumpNotes$Pack", 10, .inr fun j => if j < G.2.2.1 then some (37, j) else none)) := rfl
theorem za10 : zm_isA (zh G σ) (10, 0) = true := rfl
theorem zn10 : zm_len (zh G σ) (10, 0) = 10 := rfl
theorem zi10 {x : Int32} : zm_inQ (zh G σ) (10, 0) x = true ↔ vp_in x 10 := by
  unfold zm_inQ
  rw [zg10]
  simp [vp_in]
theorem zl10 {x : Int32} : zm_ldQ (zh G σ) (10, 0) x = if x.toNatClampNeg < G.2.2.1 then some (37, x.toNatClampNeg) else none := rfl
theorem zg11 : zm_get (zh G σ) (11, 0) = some (.inl (.object "BumpNotes$Change", 60, .inr fun j => if j < G.2.2.2.1 then some (45, j) else none)) := rfl
theorem za11 : zm_isA (zh G σ) (11, 0) = true := rfl
theorem zn11 : zm_len (zh G σ) (11, 0) = 60 := rfl
theorem zi11 {x : Int32} : zm_inQ (zh G σ) (11, 0) x = true ↔ vp_in x 60 := by
  unfold zm_inQ
  rw [zg11]
  simp [vp_in]
theorem zl11 {x : Int32} : zm_ldQ (zh G σ) (11, 0) x = if x.toNatClampNeg < G.2.2.2.1 then some (45, x.toNatClampNeg) else none := rfl
theorem zg12 : zm_get (zh G σ) (12, 0) = some (.inl (.object "BumpNotes$Tag", 100, .inr fun j => if j < G.2.2.2.2 then some (38, j) else none)) := rfl
theorem za12 : zm_isA (zh G σ) (12, 0) = true := rfl
theorem zn12 : zm_len (zh G σ) (12, 0) = 100 := rfl
theorem zi12 {x : Int32} : zm_inQ (zh G σ) (12, 0) x = true ↔ vp_in x 100 := by
  unfold zm_inQ
  rw [zg12]
  simp [vp_in]
theorem zl12 {x : Int32} : zm_ldQ (zh G σ) (12, 0) x = if x.toNatClampNeg < G.2.2.2.2 then some (38, x.toNatClampNeg) else none := rfl
theorem zg0 : zm_get (zh G σ) (0, 0) = some (.inl (.int, G.1.1, .inl G.1.2)) := rfl
theorem za0 : zm_isA (zh G σ) (0, 0) = true := rfl
theorem zn0 : zm_len (zh G σ) (0, 0) = Int32.ofNat G.1.1 := rfl
theorem zl0 {x : Int32} : zm_ldI (zh G σ) (0, 0) x = G.1.2 x.toNatClampNeg := rfl
theorem zi0 {x : Int32} (hL : G.1.1 < 2147483648) : zm_inI (zh G σ) (0, 0) .int x = true ↔ vp_in x G.1.1 := by
  unfold zm_inI
  rw [zg0]
  simp [vp_in, hL]
theorem zg3 : zm_get (zh G σ) (3, 0) = some (.inl (.int, 6, .inl fun j => zs_wt.getD j 0)) := rfl
theorem za3 : zm_isA (zh G σ) (3, 0) = true := rfl
theorem zn3 : zm_len (zh G σ) (3, 0) = 6 := rfl
theorem zl3 {x : Int32} : zm_ldI (zh G σ) (3, 0) x = zs_wt.getD x.toNatClampNeg 0 := rfl
theorem zi3 {x : Int32} : zm_inI (zh G σ) (3, 0) .int x = true ↔ vp_in x 6 := by
  unfold zm_inI
  rw [zg3]
  simp [vp_in]
theorem zg1 {j : Nat} (hj : j < 7) : zm_get (zh G σ) (1, j) = some (.inr (99, [.inr (.inr (some (2, j))), .inl 0])) := if_pos hj
theorem zo1 {j : Nat} (hj : j < 7) : zm_isO (zh G σ) (1, j) 99 = true := by
  unfold zm_isO
  rw [zg1 hj]
  rfl
theorem zf1_0 {j : Nat} (hj : j < 7) : zm_isF (zh G σ) (1, j) 99 0 = true := by
  unfold zm_isF
  rw [zg1 hj]
  rfl
theorem zf1_1 {j : Nat} (hj : j < 7) : zm_isF (zh G σ) (1, j) 99 1 = true := by
  unfold zm_isF
  rw [zg1 hj]
  rfl
theorem zq1_0 {j : Nat} (hj : j < 7) : zm_getF (zh G σ) (1, j) 0 = .inr (.inr (some (2, j))) := by
  unfold zm_getF
  rw [zg1 hj]
  rfl
theorem zq1_1 {j : Nat} (hj : j < 7) : zm_getF (zh G σ) (1, j) 1 = .inl 0 := by
  unfold zm_getF
  rw [zg1 hj]
  rfl
theorem zg2 {j : Nat} (hj : j < 7) : zm_get (zh G σ) (2, j) = some (.inl (.byte, zs_len.getD j 0, .inl fun q => (zs_byt.getD j []).getD q 0)) := if_pos hj
theorem za2 {j : Nat} (hj : j < 7) : zm_isA (zh G σ) (2, j) = true := by
  unfold zm_isA
  rw [zg2 hj]
theorem zn2 {j : Nat} (hj : j < 7) : zm_len (zh G σ) (2, j) = Int32.ofNat (zs_len.getD j 0) := by
  unfold zm_len
  rw [zg2 hj]
theorem zl2 {j : Nat} {x : Int32} (hj : j < 7) : zm_ldI (zh G σ) (2, j) x = (zs_byt.getD j []).getD x.toNatClampNeg 0 := by
  unfold zm_ldI
  rw [zg2 hj]
theorem zs_lens : ∀ j, j < 7 → zs_len.getD j 0 < 9 := by decide +kernel
theorem zi2 {j : Nat} {x : Int32} (hj : j < 7) : zm_inI (zh G σ) (2, j) .byte x = true ↔ vp_in x (zs_len.getD j 0) := by
  unfold zm_inI
  rw [zg2 hj]
  have := zs_lens j hj
  have h2 : zs_len.getD j 0 < 2147483648 := by omega
  simp only [decide_true, Bool.true_and, h2, Bool.and_true, decide_eq_true_eq]
  rfl
end ZH
