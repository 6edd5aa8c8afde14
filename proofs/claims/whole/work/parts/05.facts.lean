theorem zt_fnd {α : Type} {l : List α} {f : α → Bool} {r : α} (h : l.find? f = some r) : r ∈ l ∧ f r = true := ⟨List.mem_of_find?_eq_some h, List.find?_some h⟩
theorem zt_two {a b c d : Nat} (h : (a == c && b == d) = true) : a = c ∧ b = d := by
  rw [Bool.and_eq_true] at h
  exact ⟨by simpa using h.1, by simpa using h.2⟩
def zt_fetch (mi pc : Nat) : Option Instr := match decode (zt_bytes mi) pc with
  | .ok (i, len) => if zm_lk i len = true then some i else none
  | .error _ => none
theorem zt_fetch_ok {mi pc : Nat} {i : Instr} (h : zt_fetch mi pc = some i) : ∃ len, decode (zt_bytes mi) pc = .ok (i, len) ∧ zm_lk i len = true := by
  unfold zt_fetch at h
  split at h
  · next i2 len hd =>
    split at h
    · next hl => cases h; exact ⟨len, hd, hl⟩
    · cases h
  · cases h
theorem zt_m_in (mi : Nat) : zt_m mi ∈ zt_M ∨ zt_m mi = zt_d := by
  unfold zt_m
  by_cases h : mi < zt_M.length
  · left
    rw [List.getD_eq_getElem?_getD, List.getElem?_eq_getElem h]
    exact List.getElem_mem h
  · right
    rw [List.getD_eq_getElem?_getD, List.getElem?_eq_none (by omega)]
    rfl
theorem zt_all {P : zt_Ty → Bool} (h : zt_M.all P = true) (hd : P zt_d = true) (mi : Nat) : P (zt_m mi) = true := by
  rcases zt_m_in mi with q | q
  · exact List.all_eq_true.mp h _ q
  · rw [q]; exact hd
theorem zt_plain (mi : Nat) : plainName (zt_name mi).cls = true := zt_all (P := fun q => plainName q.2.1.cls) (by decide +kernel) (by decide +kernel) mi
theorem zt_owner (mi : Nat) : (zt_name mi).cls = zt_cls (zt_own mi) := by
  exact of_decide_eq_true (zt_all (P := fun q => decide (q.2.1.cls = zt_cls q.1)) (by decide +kernel) (by decide +kernel) mi)
theorem zt_init_ok (mi : Nat) (h : zt_init mi = true) : (zt_name mi).name = "<init>" := by
  have := zt_all (P := fun q => !q.2.2.2.2.2.2 || decide (q.2.1.name = "<init>")) (by decide +kernel) (by decide +kernel) mi
  have h2 : (zt_m mi).2.2.2.2.2.2 = true := h
  rw [h2] at this
  exact of_decide_eq_true this
theorem zt_maxL_le (mi : Nat) : zt_maxL mi ≤ 21 := by
  exact of_decide_eq_true (zt_all (P := fun q => decide (q.2.2.2.1 ≤ 21)) (by decide +kernel) (by decide +kernel) mi)
theorem zt_hand (mi : Nat) : (zt_name mi).cls ≠ "java/lang/invoke/MethodHandle" ∧ (zt_name mi).cls ≠ "java/lang/invoke/VarHandle" := by
  exact of_decide_eq_true (zt_all (P := fun q => decide (q.2.1.cls ≠ "java/lang/invoke/MethodHandle" ∧ q.2.1.cls ≠ "java/lang/invoke/VarHandle")) (by decide +kernel) (by decide +kernel) mi)
def zt_uT (C : String) (fs : List zt_Fd) : u_T := fun k => (C, (fs.getD k zt_fd0).1, (fs.getD k zt_fd0).2.1, (fs.getD k zt_fd0).2.2.1)
def zt_cl : List vw_C := zt_clL.map fun q => (q.1, zt_uT q.1 q.2, q.2.length)
def zt_cn (ci : Nat) : String := (zt_clL.getD ci ("", [])).1
def zt_fs (ci : Nat) : List zt_Fd := (zt_clL.getD ci ("", [])).2
def zt_ty0 (fs : List zt_Fd) (k : Nat) : FieldType := (fs.getD k zt_fd0).2.2.2
theorem zt_cl_99 {q : vw_C} : ¬ zt_cl[99]? = some q := by
  rw [List.getElem?_eq_none (by decide +kernel)]
  exact fun h => by cases h
theorem zt_cl_at {ci : Nat} {q : vw_C} (h : zt_cl[ci]? = some q) : zt_clL[ci]? = some (zt_cn ci, zt_fs ci) ∧ q = (zt_cn ci, zt_uT (zt_cn ci) (zt_fs ci), (zt_fs ci).length) := by
  unfold zt_cl at h
  rw [List.getElem?_map, Option.map_eq_some_iff] at h
  obtain ⟨r, h1, h2⟩ := h
  have h3 : zt_clL.getD ci ("", []) = r := by rw [List.getD_eq_getElem?_getD, h1]; rfl
  unfold zt_cn zt_fs
  rw [h3]
  exact ⟨h1, h2.symm⟩
theorem zt_cl_of {ci : Nat} (h : ci < zt_clL.length) : zt_cl[ci]? = some (zt_cn ci, zt_uT (zt_cn ci) (zt_fs ci), (zt_fs ci).length) := by
  unfold zt_cl zt_cn zt_fs
  rw [List.getElem?_map, List.getD_eq_getElem?_getD, List.getElem?_eq_getElem h]
  rfl
theorem zt_cn_ok {ci : Nat} {q : vw_C} (h : zt_cl[ci]? = some q) : q.1 = zt_cn ci := by rw [(zt_cl_at h).2]
def zt_clW : List Cond := zt_clL.flatMap fun q => u_ws q.1 (zt_uT q.1 q.2) q.2.length
def zt_clP (q : String × List zt_Fd) : Bool := (q.2.all fun f => decide (parseFieldDescriptor f.2.1 = some f.2.2.2) && zm_tyOk f.2.2.2) && decide ((q.2.map fun f => f.1).Nodup)
theorem zt_cl_ok : zt_clL.all zt_clP = true := by decide +kernel
theorem zt_clp {ci : Nat} (h : ci < zt_clL.length) : zt_clP (zt_cn ci, zt_fs ci) = true ∧ (zt_cn ci, zt_fs ci) ∈ zt_clL := by
  have h1 : zt_clL[ci]? = some (zt_cn ci, zt_fs ci) := (zt_cl_at (zt_cl_of h)).1
  have h2 := List.mem_of_getElem? h1
  exact ⟨List.all_eq_true.mp zt_cl_ok _ h2, h2⟩
theorem zt_getD {k : Nat} {fs : List zt_Fd} (h : k < fs.length) : fs[k]? = some (fs.getD k zt_fd0) ∧ fs.getD k zt_fd0 ∈ fs := by
  have h1 : fs[k]? = some fs[k] := List.getElem?_eq_getElem h
  have h2 : fs.getD k zt_fd0 = fs[k] := by rw [List.getD_eq_getElem?_getD, h1]; rfl
  rw [h2]
  exact ⟨h1, List.getElem_mem h⟩
theorem zt_tys {ci : Nat} (h : ci < zt_clL.length) : ∀ k, k < (zt_fs ci).length → parseFieldDescriptor (zt_uT (zt_cn ci) (zt_fs ci) k).2.2.1 = some (zt_ty0 (zt_fs ci) k) ∧ zm_tyOk (zt_ty0 (zt_fs ci) k) = true := by
  intro k hk
  obtain ⟨h1, -⟩ := zt_clp h
  unfold zt_clP at h1
  rw [Bool.and_eq_true] at h1
  have h2 := List.all_eq_true.mp h1.1 _ (zt_getD hk).2
  rw [Bool.and_eq_true] at h2
  exact ⟨of_decide_eq_true h2.1, h2.2⟩
theorem zt_nms {ci : Nat} (h : ci < zt_clL.length) : ∀ a, a < (zt_fs ci).length → ∀ b, b < (zt_fs ci).length → a ≠ b → (zt_uT (zt_cn ci) (zt_fs ci) a).2.1 ≠ (zt_uT (zt_cn ci) (zt_fs ci) b).2.1 := by
  intro a ha b hb hab he
  obtain ⟨h1, -⟩ := zt_clp h
  unfold zt_clP at h1
  rw [Bool.and_eq_true] at h1
  have h2 : ((zt_fs ci).map fun f => f.1).Nodup := by simpa using h1.2
  have ea : ((zt_fs ci).map fun f => f.1)[a]? = some ((zt_fs ci).getD a zt_fd0).1 := by rw [List.getElem?_map, (zt_getD ha).1]; rfl
  have eb : ((zt_fs ci).map fun f => f.1)[b]? = some ((zt_fs ci).getD b zt_fd0).1 := by rw [List.getElem?_map, (zt_getD hb).1]; rfl
  have he2 : ((zt_fs ci).getD a zt_fd0).1 = ((zt_fs ci).getD b zt_fd0).1 := he
  rw [he2, ← eb] at ea
  exact hab ((List.getElem?_inj (by simpa using ha) h2).mp ea)
def zt_fdOf (ci sl : Nat) : zt_Fd := (if ci = 99 then zt_strFl else zt_fs ci).getD sl zt_fd0
def zt_fld (own k : Nat) : Option (Nat × Nat × FieldType × Bool) := (zt_fldL.find? fun r => r.1 == own && r.2.1 == k).map fun r => (r.2.2.1, r.2.2.2, (zt_fdOf r.2.2.1 r.2.2.2).2.2.2, (zt_fdOf r.2.2.1 r.2.2.2).2.2.1)
def zt_strF (j : Nat) : String × String := ((zt_strFl.getD j zt_fd0).1, (zt_strFl.getD j zt_fd0).2.1)
def zt_fldW1 (r : Nat × Nat × Nat × Nat) : Cond := .fieldLink (zt_cls r.1) r.2.1 (if r.2.2.1 = 99 then "java/lang/String" else zt_cn r.2.2.1) (zt_fdOf r.2.2.1 r.2.2.2).1 (zt_fdOf r.2.2.1 r.2.2.2).2.1
def zt_fldW : List Cond := zt_fldL.map zt_fldW1
def zt_fldP (r : Nat × Nat × Nat × Nat) : Bool := r.2.2.1 == 99 || (decide (r.2.2.1 < zt_clL.length) && decide (r.2.2.2 < (zt_fs r.2.2.1).length))
theorem zt_fldP_ok : zt_fldL.all zt_fldP = true := by decide +kernel
theorem zt_ne99 {ci : Nat} (h : ci < zt_clL.length) : ci ≠ 99 := by
  intro e
  subst e
  exact absurd h (by decide +kernel)
def zt_call (own k : Nat) : Option (Nat × Nat × Nat × Nat) := (zt_callL.find? fun r => r.1 == own && r.2.1 == k).map fun r => r.2.2.1
def zt_callW1 (r : Nat × Nat × (Nat × Nat × Nat × Nat) × Bool) : List Cond := [.initialized (zt_name r.2.2.1.2.1).cls] ++ (if r.2.2.2 = true then [] else [.methodLink (zt_cls r.1) r.2.1 (zt_name r.2.2.1.2.1)]) ++ (if r.2.2.1.1 = 2 then [.static (zt_name r.2.2.1.2.1)] else [.instanceMethod (zt_name r.2.2.1.2.1)]) ++ (if r.2.2.1.1 = 0 then [.selects (zt_name r.2.2.1.2.1).cls (zt_name r.2.2.1.2.1) (zt_name r.2.2.1.2.1)] else [])
def zt_callW : List Cond := zt_callL.flatMap zt_callW1
def zt_code1 (q : zt_Ty) : Cond := .code q.2.1 q.2.2.1 q.2.2.2.1 q.2.2.2.2.1
def zt_codeW : List Cond := zt_M.tail.map zt_code1
def zt_newW : List Cond := zt_newL.flatMap fun r => [.classLink (zt_cls r.1) r.2.1 (zt_cn r.2.2), .instantiable (zt_cn r.2.2) (zt_fs r.2.2).length, .initialized (zt_cn r.2.2)]
def zt_arrW : List Cond := zt_arrL.map fun r => .classLink (zt_cls r.1) r.2.1 r.2.2
def zt_ldcW : List Cond := zt_ldcI.map fun r => .constant (zt_cls r.1) r.2.1 r.2.2
def zt_ldc2W : List Cond := zt_ldcJ.map fun r => .constantLong (zt_cls r.1) r.2.1 r.2.2
def zt_oinitW : List Cond := (zt_oinitL.map fun r => .methodLink (zt_cls r.1) r.2 Lib.objectInit) ++ [.instanceMethod Lib.objectInit, .code Lib.objectInit ⟨#[0xb1]⟩ 1 none]
def zt_maxW : List Cond := (zt_maxL2.map fun r => .methodLink (zt_cls r.1) r.2 Lib.Math.max.name) ++ [.static Lib.Math.max.name, .initialized "java/lang/Math", .code Lib.Math.max.name Lib.Math.max.code 2 (some .int)]
def zt_gsW : List Cond := (zt_gs.filter fun r => !r.2.2.2.2.2.2).map fun r => .fieldLink (zt_cls r.1) r.2.1 r.2.2.1 r.2.2.2.1 r.2.2.2.2.1
def zt_arcW : List Cond := zt_arc.map fun t => .arrayClass (newarray.typeOf t)
def zt_T : List Cond := zt_clW ++ (zt_fldW ++ (zt_callW ++ (zt_codeW ++ (zt_newW ++ (zt_arrW ++ (zt_ldcW ++ (zt_ldc2W ++ (zt_oinitW ++ (zt_gsW ++ (zt_arcW ++ zt_maxW))))))))))
theorem zt_in1 {w : Cond} (h : w ∈ zt_clW) : w ∈ zt_T := List.mem_append_left _ h
theorem zt_in2 {w : Cond} (h : w ∈ zt_fldW) : w ∈ zt_T := List.mem_append_right _ (List.mem_append_left _ h)
theorem zt_in3 {w : Cond} (h : w ∈ zt_callW) : w ∈ zt_T := List.mem_append_right _ (List.mem_append_right _ (List.mem_append_left _ h))
theorem zt_in4 {w : Cond} (h : w ∈ zt_codeW) : w ∈ zt_T := List.mem_append_right _ (List.mem_append_right _ (List.mem_append_right _ (List.mem_append_left _ h)))
theorem zt_in5 {w : Cond} (h : w ∈ zt_newW) : w ∈ zt_T := List.mem_append_right _ (List.mem_append_right _ (List.mem_append_right _ (List.mem_append_right _ (List.mem_append_left _ h))))
theorem zt_in6 {w : Cond} (h : w ∈ zt_arrW) : w ∈ zt_T := List.mem_append_right _ (List.mem_append_right _ (List.mem_append_right _ (List.mem_append_right _ (List.mem_append_right _ (List.mem_append_left _ h)))))
theorem zt_in7 {w : Cond} (h : w ∈ zt_ldcW) : w ∈ zt_T := List.mem_append_right _ (List.mem_append_right _ (List.mem_append_right _ (List.mem_append_right _ (List.mem_append_right _ (List.mem_append_right _ (List.mem_append_left _ h))))))
theorem zt_in8 {w : Cond} (h : w ∈ zt_ldc2W) : w ∈ zt_T := List.mem_append_right _ (List.mem_append_right _ (List.mem_append_right _ (List.mem_append_right _ (List.mem_append_right _ (List.mem_append_right _ (List.mem_append_right _ (List.mem_append_left _ h)))))))
theorem zt_in9 {w : Cond} (h : w ∈ zt_oinitW) : w ∈ zt_T := List.mem_append_right _ (List.mem_append_right _ (List.mem_append_right _ (List.mem_append_right _ (List.mem_append_right _ (List.mem_append_right _ (List.mem_append_right _ (List.mem_append_right _ (List.mem_append_left _ h))))))))
theorem zt_in10 {w : Cond} (h : w ∈ zt_gsW) : w ∈ zt_T := List.mem_append_right _ (List.mem_append_right _ (List.mem_append_right _ (List.mem_append_right _ (List.mem_append_right _ (List.mem_append_right _ (List.mem_append_right _ (List.mem_append_right _ (List.mem_append_right _ (List.mem_append_left _ h)))))))))
theorem zt_in11 {w : Cond} (h : w ∈ zt_arcW) : w ∈ zt_T := List.mem_append_right _ (List.mem_append_right _ (List.mem_append_right _ (List.mem_append_right _ (List.mem_append_right _ (List.mem_append_right _ (List.mem_append_right _ (List.mem_append_right _ (List.mem_append_right _ (List.mem_append_right _ (List.mem_append_left _ h))))))))))
theorem zt_in12 {w : Cond} (h : w ∈ zt_maxW) : w ∈ zt_T := List.mem_append_right _ (List.mem_append_right _ (List.mem_append_right _ (List.mem_append_right _ (List.mem_append_right _ (List.mem_append_right _ (List.mem_append_right _ (List.mem_append_right _ (List.mem_append_right _ (List.mem_append_right _ (List.mem_append_right _ h))))))))))
def zt_max (own k : Nat) : Bool := zt_maxL2.contains (own, k)
theorem zt_max_ok {own k : Nat} (h : zt_max own k = true) : Cond.methodLink (zt_cls own) k Lib.Math.max.name ∈ zt_T ∧ Cond.static Lib.Math.max.name ∈ zt_T ∧ Cond.initialized "java/lang/Math" ∈ zt_T ∧ Cond.code Lib.Math.max.name Lib.Math.max.code 2 (some .int) ∈ zt_T := by
  have hm : (own, k) ∈ zt_maxL2 := List.contains_iff_mem.mp h
  exact ⟨zt_in12 (List.mem_append_left _ (List.mem_map.mpr ⟨_, hm, rfl⟩)), zt_in12 (List.mem_append_right _ (by simp)), zt_in12 (List.mem_append_right _ (by simp)), zt_in12 (List.mem_append_right _ (by simp))⟩
theorem zt_uws {ci : Nat} (h : ci < zt_clL.length) : ∀ w ∈ u_ws (zt_cn ci) (zt_uT (zt_cn ci) (zt_fs ci)) (zt_fs ci).length, w ∈ zt_T := fun w hw =>
  zt_in1 (List.mem_flatMap.mpr ⟨_, (zt_clp h).2, hw⟩)
theorem zt_fld_ok {own k : Nat} {q : Nat × Nat × FieldType × Bool} (h : zt_fld own k = some q) :
    (∃ (C : String) (T : u_T) (N : Nat) (ty0 : Nat → FieldType), zt_cl[q.1]? = some (C, T, N) ∧ (∀ w ∈ u_ws C T N, w ∈ zt_T) ∧ (∀ k, k < N → parseFieldDescriptor (T k).2.2.1 = some (ty0 k)) ∧ (∀ a, a < N → ∀ b, b < N → a ≠ b → (T a).2.1 ≠ (T b).2.1) ∧ q.2.1 < N ∧ Cond.fieldLink (zt_cls own) k (T q.2.1).1 (T q.2.1).2.1 (T q.2.1).2.2.1 ∈ zt_T ∧ parseFieldDescriptor (T q.2.1).2.2.1 = some q.2.2.1 ∧ (T q.2.1).2.2.2 = q.2.2.2 ∧ (T q.2.1).1 = zt_cn q.1) ∨
    (q.1 = 99 ∧ True ∧ Cond.fieldLink (zt_cls own) k "java/lang/String" (zt_strF q.2.1).1 (zt_strF q.2.1).2 ∈ zt_T) := by
  unfold zt_fld at h
  rw [Option.map_eq_some_iff] at h
  obtain ⟨⟨o2, k2, ci, sl⟩, h1, rfl⟩ := h
  obtain ⟨hm, he⟩ := zt_fnd h1
  obtain ⟨rfl, rfl⟩ := zt_two he
  have hp := List.all_eq_true.mp zt_fldP_ok _ hm
  have hw : zt_fldW1 (o2, k2, ci, sl) ∈ zt_T := zt_in2 (List.mem_map.mpr ⟨_, hm, rfl⟩)
  by_cases h99 : ci = 99
  · right
    subst h99
    exact ⟨rfl, trivial, hw⟩
  · left
    unfold zt_fldP at hp
    dsimp only at hp
    rw [Bool.or_eq_true, Bool.and_eq_true] at hp
    rcases hp with hp | ⟨hp1, hp2⟩
    · exact absurd (by simpa using hp) h99
    · have hc : ci < zt_clL.length := by simpa using hp1
      have hs : sl < (zt_fs ci).length := by simpa using hp2
      have hfd : zt_fdOf ci sl = (zt_fs ci).getD sl zt_fd0 := by unfold zt_fdOf; rw [if_neg h99]
      refine ⟨_, _, _, zt_ty0 (zt_fs ci), zt_cl_of hc, zt_uws hc, fun j hj => (zt_tys hc j hj).1, zt_nms hc, hs, ?_, ?_, ?_, ?_⟩
      · unfold zt_fldW1 at hw
        dsimp only at hw
        rw [if_neg h99, hfd] at hw
        exact hw
      · show _ = some (zt_fdOf ci sl).2.2.2
        rw [hfd]
        exact (zt_tys hc sl hs).1
      · show _ = (zt_fdOf ci sl).2.2.1
        rw [hfd]
        rfl
      · rfl
def zt_new (own k : Nat) : Option (Nat × List FieldType) := (zt_newL.find? fun r => r.1 == own && r.2.1 == k).map fun r => (r.2.2, (zt_fs r.2.2).map fun f => f.2.2.2)
theorem zt_newP : (zt_newL.all fun r => decide (r.2.2 < zt_clL.length)) = true := by decide +kernel
theorem zt_new_ok {own k : Nat} {q : Nat × List FieldType} (h : zt_new own k = some q) : ∃ (C : String) (T : u_T) (N : Nat) (ty0 : Nat → FieldType), zt_cl[q.1]? = some (C, T, N) ∧ (∀ w ∈ u_ws C T N, w ∈ zt_T) ∧ (∀ k, k < N → parseFieldDescriptor (T k).2.2.1 = some (ty0 k)) ∧ Cond.classLink (zt_cls own) k C ∈ zt_T ∧ Cond.instantiable C N ∈ zt_T ∧ Cond.initialized C ∈ zt_T ∧ q.2.length = N ∧ (∀ j, j < N → q.2[j]? = some (ty0 j)) ∧ ∀ t ∈ q.2, zm_tyOk t = true := by
  unfold zt_new at h
  rw [Option.map_eq_some_iff] at h
  obtain ⟨⟨o2, k2, ci⟩, h1, rfl⟩ := h
  obtain ⟨hm, he⟩ := zt_fnd h1
  obtain ⟨rfl, rfl⟩ := zt_two he
  have hc : ci < zt_clL.length := by simpa using List.all_eq_true.mp zt_newP _ hm
  have hw : ∀ w ∈ ([.classLink (zt_cls o2) k2 (zt_cn ci), .instantiable (zt_cn ci) (zt_fs ci).length, .initialized (zt_cn ci)] : List Cond), w ∈ zt_T := fun w hw => zt_in5 (List.mem_flatMap.mpr ⟨_, hm, hw⟩)
  refine ⟨_, _, _, zt_ty0 (zt_fs ci), zt_cl_of hc, zt_uws hc, fun j hj => (zt_tys hc j hj).1, hw _ (by simp), hw _ (by simp), hw _ (by simp), by simp, fun j hj => ?_, fun t ht => ?_⟩
  · show ((zt_fs ci).map fun f => f.2.2.2)[j]? = _
    rw [List.getElem?_map, (zt_getD hj).1]
    rfl
  · obtain ⟨f, hf, rfl⟩ := List.mem_map.mp ht
    obtain ⟨h2, -⟩ := zt_clp hc
    unfold zt_clP at h2
    rw [Bool.and_eq_true] at h2
    have h3 := List.all_eq_true.mp h2.1 _ hf
    rw [Bool.and_eq_true] at h3
    exact h3.2
def zm_at (t : ArrayType) : Bool := zt_arc.any fun u => decide (u = t)
theorem zm_at_ok {t : ArrayType} (h : zm_at t = true) : Cond.arrayClass (newarray.typeOf t) ∈ zt_T ∧ (∀ (cA : ClassId) (n : Nat), vp_cell cA (n, .inl fun _ => 0) = arrV cA n (fun _ => defaultValue (newarray.typeOf t))) ∧ componentBytes (newarray.typeOf t) ≤ 4 := by
  have hm : t ∈ zt_arc := by
    obtain ⟨u, hu, he⟩ := List.any_eq_true.mp h
    rw [← of_decide_eq_true he]
    exact hu
  refine ⟨zt_in11 (List.mem_map.mpr ⟨t, hm, rfl⟩), ?_⟩
  unfold zm_at at h
  cases t with
  | int => exact ⟨fun _ _ => rfl, by decide⟩
  | char => exact ⟨fun _ _ => rfl, by decide⟩
  | boolean => exact ⟨fun _ _ => rfl, by decide⟩
  | byte => exact absurd h (by decide)
  | short => exact absurd h (by decide)
  | long => exact absurd h (by decide)
  | float => exact absurd h (by decide)
  | double => exact absurd h (by decide)
def zt_arr (own k : Nat) : Option String := (zt_arrL.find? fun r => r.1 == own && r.2.1 == k).map fun r => r.2.2
def zt_AO : List String := zt_arrL.map fun r => r.2.2
theorem zt_arr_ok {own k : Nat} {C : String} (h : zt_arr own k = some C) : Cond.classLink (zt_cls own) k C ∈ zt_T ∧ C ∈ zt_AO := by
  unfold zt_arr at h
  rw [Option.map_eq_some_iff] at h
  obtain ⟨⟨o2, k2, C2⟩, h1, rfl⟩ := h
  obtain ⟨hm, he⟩ := zt_fnd h1
  obtain ⟨rfl, rfl⟩ := zt_two he
  exact ⟨zt_in6 (List.mem_map.mpr ⟨_, hm, rfl⟩), List.mem_map.mpr ⟨_, hm, rfl⟩⟩
def zt_ldc (own k : Nat) : Option zmV := match zt_ldcI.find? fun r => r.1 == own && r.2.1 == k with
  | some r => some (.inl r.2.2)
  | none => (zt_strL.find? fun r => r.1 == own && r.2.1 == k).map fun r => .inr (.inr (some r.2.2.2))
theorem zt_ldc_ok {own k : Nat} {v : zmV} (h : zt_ldc own k = some v) : (∃ x, v = .inl x ∧ Cond.constant (zt_cls own) k x ∈ zt_T) ∨ ∃ tx key, v = .inr (.inr (some key)) ∧ (own, k, tx, key) ∈ zt_strL := by
  unfold zt_ldc at h
  split at h
  · next r hr =>
    obtain ⟨o2, k2, x⟩ := r
    obtain ⟨hm, he⟩ := zt_fnd hr
    obtain ⟨rfl, rfl⟩ := zt_two he
    cases h
    exact Or.inl ⟨x, rfl, zt_in7 (List.mem_map.mpr ⟨_, hm, rfl⟩)⟩
  · rw [Option.map_eq_some_iff] at h
    obtain ⟨⟨o2, k2, tx, key⟩, h1, rfl⟩ := h
    obtain ⟨hm, he⟩ := zt_fnd h1
    obtain ⟨rfl, rfl⟩ := zt_two he
    exact Or.inr ⟨tx, key, rfl, hm⟩
def zt_ldc2 (own k : Nat) : Option Int64 := (zt_ldcJ.find? fun r => r.1 == own && r.2.1 == k).map fun r => r.2.2
theorem zt_ldc2_ok {own k : Nat} {v : Int64} (h : zt_ldc2 own k = some v) : Cond.constantLong (zt_cls own) k v ∈ zt_T := by
  unfold zt_ldc2 at h
  rw [Option.map_eq_some_iff] at h
  obtain ⟨⟨o2, k2, C2⟩, h1, rfl⟩ := h
  obtain ⟨hm, he⟩ := zt_fnd h1
  obtain ⟨rfl, rfl⟩ := zt_two he
  exact zt_in8 (List.mem_map.mpr ⟨_, hm, rfl⟩)
def zt_statL : List (String × String × String × zmV) := zt_gs.map fun r => (r.2.2.1, r.2.2.2.1, r.2.2.2.2.1, r.2.2.2.2.2.1)
def zt_stat (own k : Nat) : Option zmV := (zt_gs.find? fun r => r.1 == own && r.2.1 == k).map fun r => r.2.2.2.2.2.1
def zt_NF : List (String × Nat × String × String × String × String) := (zt_gs.filter fun r => r.2.2.2.2.2.2).map fun r => (zt_cls r.1, r.2.1, r.2.2.1, r.2.2.2.1, r.2.2.2.2.1, zt_host)
theorem zt_stat_ok {own k : Nat} {v : zmV} (h : zt_stat own k = some v) : ∃ C n d, (C, n, d, v) ∈ zt_statL ∧ (Cond.fieldLink (zt_cls own) k C n d ∈ zt_T ∨ ∃ host, (zt_cls own, k, C, n, d, host) ∈ zt_NF) := by
  unfold zt_stat at h
  rw [Option.map_eq_some_iff] at h
  obtain ⟨⟨o2, k2, C, n, d, w, b⟩, h1, rfl⟩ := h
  obtain ⟨hm, he⟩ := zt_fnd h1
  obtain ⟨rfl, rfl⟩ := zt_two he
  refine ⟨C, n, d, List.mem_map.mpr ⟨_, hm, rfl⟩, ?_⟩
  cases b with
  | false => exact Or.inl (zt_in10 (List.mem_map.mpr ⟨_, List.mem_filter.mpr ⟨hm, rfl⟩, rfl⟩))
  | true => exact Or.inr ⟨zt_host, List.mem_map.mpr ⟨_, List.mem_filter.mpr ⟨hm, rfl⟩, rfl⟩⟩
def zt_oinit (own k : Nat) : Bool := zt_oinitL.contains (own, k)
theorem zt_oinit_ok {own k : Nat} (h : zt_oinit own k = true) : Cond.methodLink (zt_cls own) k Lib.objectInit ∈ zt_T ∧ Cond.instanceMethod Lib.objectInit ∈ zt_T ∧ Cond.code Lib.objectInit ⟨#[0xb1]⟩ 1 none ∈ zt_T := by
  have hm : (own, k) ∈ zt_oinitL := List.contains_iff_mem.mp h
  exact ⟨zt_in9 (List.mem_append_left _ (List.mem_map.mpr ⟨_, hm, rfl⟩)), zt_in9 (List.mem_append_right _ (by simp)), zt_in9 (List.mem_append_right _ (by simp))⟩
def zt_callP (r : Nat × Nat × (Nat × Nat × Nat × Nat) × Bool) : Bool := decide (0 < r.2.2.1.2.1) && decide (r.2.2.1.2.1 < zt_M.length) && decide ((parseMethodDescriptor (zt_name r.2.2.1.2.1).desc).map (fun d => d.parameters.length) = some (if r.2.2.1.1 = 2 then r.2.2.1.2.2.1 else r.2.2.1.2.2.1 - 1)) &&
  (if r.2.2.1.1 = 0 then !r.2.2.2 && decide (0 < r.2.2.1.2.2.1) && (if r.2.2.1.2.2.2 = 99 then decide ((zt_name r.2.2.1.2.1).cls = "java/lang/String") else decide ((zt_name r.2.2.1.2.1).cls = zt_cn r.2.2.1.2.2.2)) else if r.2.2.1.1 = 1 then decide (0 < r.2.2.1.2.2.1) && decide ((zt_name r.2.2.1.2.1).name = "<init>") && decide (zt_ret r.2.2.1.2.1 = none) else !r.2.2.2)
theorem zt_callP_ok : zt_callL.all zt_callP = true := by decide +kernel
def zt_NM : List (String × Nat × MethodName × String) := (zt_callL.filter fun r => r.2.2.2).map fun r => (zt_cls r.1, r.2.1, zt_name r.2.2.1.2.1, zt_host)
theorem zt_code_in {m2 : Nat} (h0 : 0 < m2) (h1 : m2 < zt_M.length) : Cond.code (zt_name m2) (zt_bytes m2) (zt_maxL m2) (zt_ret m2) ∈ zt_T := by
  refine zt_in4 (List.mem_map.mpr ⟨zt_m m2, ?_, rfl⟩)
  have h2 : zt_M.tail[m2 - 1]? = some (zt_m m2) := by
    rw [List.getElem?_tail, Nat.sub_add_cancel h0, List.getElem?_eq_getElem h1]
    unfold zt_m
    rw [List.getD_eq_getElem?_getD, List.getElem?_eq_getElem h1]
    rfl
  exact List.mem_of_getElem? h2
theorem zt_call_at {own k : Nat} {q : Nat × Nat × Nat × Nat} (h : zt_call own k = some q) : ∃ b, (own, k, q, b) ∈ zt_callL ∧ zt_callP (own, k, q, b) = true ∧ ∀ w ∈ zt_callW1 (own, k, q, b), w ∈ zt_T := by
  unfold zt_call at h
  rw [Option.map_eq_some_iff] at h
  obtain ⟨⟨o2, k2, q2, b⟩, h1, rfl⟩ := h
  obtain ⟨hm, he⟩ := zt_fnd h1
  obtain ⟨rfl, rfl⟩ := zt_two he
  exact ⟨b, hm, List.all_eq_true.mp zt_callP_ok _ hm, fun w hw => zt_in3 (List.mem_flatMap.mpr ⟨_, hm, hw⟩)⟩
theorem zt_call_ok0 {own k m2 n ci : Nat} (h : zt_call own k = some (0, m2, n, ci)) : Cond.methodLink (zt_cls own) k (zt_name m2) ∈ zt_T ∧ Cond.code (zt_name m2) (zt_bytes m2) (zt_maxL m2) (zt_ret m2) ∈ zt_T ∧ Cond.initialized (zt_name m2).cls ∈ zt_T ∧ ((zt_name m2).cls ≠ "java/lang/invoke/MethodHandle" ∧ (zt_name m2).cls ≠ "java/lang/invoke/VarHandle") ∧ (parseMethodDescriptor (zt_name m2).desc).map (fun d => d.parameters.length) = some (n - 1) ∧ zt_maxL m2 ≤ 21 ∧ Cond.instanceMethod (zt_name m2) ∈ zt_T ∧ Cond.selects (zt_name m2).cls (zt_name m2) (zt_name m2) ∈ zt_T ∧ (ci = 99 → (zt_name m2).cls = "java/lang/String") ∧ ∀ rc : vw_C, zt_cl[ci]? = some rc → (zt_name m2).cls = rc.1 := by
  obtain ⟨b, hm, hp, hw⟩ := zt_call_at h
  unfold zt_callP at hp
  dsimp only at hp
  rw [if_pos rfl, if_neg (by decide), Bool.and_eq_true, Bool.and_eq_true, Bool.and_eq_true, Bool.and_eq_true, Bool.and_eq_true] at hp
  obtain ⟨⟨⟨p1, p2⟩, p3⟩, ⟨p4, p5⟩, p6⟩ := hp
  have hb : b = false := by simpa using p4
  subst hb
  refine ⟨hw _ (by simp [zt_callW1]), zt_code_in (by simpa using p1) (by simpa using p2), hw _ (by simp [zt_callW1]), zt_hand m2, by simpa using p3, zt_maxL_le m2, hw _ (by simp [zt_callW1]), hw _ (by simp [zt_callW1]), fun h99 => ?_, fun rc hrc => ?_⟩
  · rw [if_pos h99] at p6
    simpa using p6
  · have hne : ci ≠ 99 := fun e => by subst e; exact absurd hrc zt_cl_99
    rw [if_neg hne] at p6
    rw [zt_cn_ok hrc]
    simpa using p6
theorem zt_call_ok1 {own k m2 n ci : Nat} (h : zt_call own k = some (1, m2, n, ci)) : (Cond.methodLink (zt_cls own) k (zt_name m2) ∈ zt_T ∨ ∃ host, (zt_cls own, k, zt_name m2, host) ∈ zt_NM) ∧ Cond.code (zt_name m2) (zt_bytes m2) (zt_maxL m2) (zt_ret m2) ∈ zt_T ∧ Cond.initialized (zt_name m2).cls ∈ zt_T ∧ ((zt_name m2).cls ≠ "java/lang/invoke/MethodHandle" ∧ (zt_name m2).cls ≠ "java/lang/invoke/VarHandle") ∧ (parseMethodDescriptor (zt_name m2).desc).map (fun d => d.parameters.length) = some (n - 1) ∧ zt_maxL m2 ≤ 21 ∧ Cond.instanceMethod (zt_name m2) ∈ zt_T ∧ (zt_name m2).name = "<init>" ∧ zt_ret m2 = none := by
  obtain ⟨b, hm, hp, hw⟩ := zt_call_at h
  unfold zt_callP at hp
  dsimp only at hp
  rw [if_neg (by decide), if_neg (by decide), if_pos rfl, Bool.and_eq_true, Bool.and_eq_true, Bool.and_eq_true, Bool.and_eq_true, Bool.and_eq_true] at hp
  obtain ⟨⟨⟨p1, p2⟩, p3⟩, ⟨p4, p5⟩, p6⟩ := hp
  refine ⟨?_, zt_code_in (by simpa using p1) (by simpa using p2), hw _ (by simp [zt_callW1]), zt_hand m2, by simpa using p3, zt_maxL_le m2, hw _ (by simp [zt_callW1]), by simpa using p5, by simpa using p6⟩
  cases b with
  | false => exact Or.inl (hw _ (by simp [zt_callW1]))
  | true => exact Or.inr ⟨zt_host, List.mem_map.mpr ⟨_, List.mem_filter.mpr ⟨hm, rfl⟩, rfl⟩⟩
theorem zt_call_ok2 {own k m2 n ci : Nat} (h : zt_call own k = some (2, m2, n, ci)) : Cond.methodLink (zt_cls own) k (zt_name m2) ∈ zt_T ∧ Cond.code (zt_name m2) (zt_bytes m2) (zt_maxL m2) (zt_ret m2) ∈ zt_T ∧ Cond.initialized (zt_name m2).cls ∈ zt_T ∧ ((zt_name m2).cls ≠ "java/lang/invoke/MethodHandle" ∧ (zt_name m2).cls ≠ "java/lang/invoke/VarHandle") ∧ (parseMethodDescriptor (zt_name m2).desc).map (fun d => d.parameters.length) = some n ∧ zt_maxL m2 ≤ 21 ∧ Cond.static (zt_name m2) ∈ zt_T := by
  obtain ⟨b, hm, hp, hw⟩ := zt_call_at h
  unfold zt_callP at hp
  dsimp only at hp
  rw [if_pos rfl, if_neg (by decide), if_neg (by decide), Bool.and_eq_true, Bool.and_eq_true, Bool.and_eq_true] at hp
  obtain ⟨⟨⟨p1, p2⟩, p3⟩, p4⟩ := hp
  have hb : b = false := by simpa using p4
  subst hb
  exact ⟨hw _ (by simp [zt_callW1]), zt_code_in (by simpa using p1) (by simpa using p2), hw _ (by simp [zt_callW1]), zt_hand m2, by simpa using p3, zt_maxL_le m2, hw _ (by simp [zt_callW1])⟩
theorem zt_goodT : zt_T.all goodWord = true := by decide +kernel
theorem zt_good (w : Cond) (h : w ∈ zt_T) : (w.onTables && w.keeps) = true ∨ ∃ ty, w = .arrayClass ty := good_of_word (List.all_eq_true.mp zt_goodT w h)
