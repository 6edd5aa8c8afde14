def zm_vr (φ : zmK → Option Nat) (v : zmV) (w : Value) : Prop := match v with
  | .inl x => w = .int x
  | .inr (.inl x) => w = .long x
  | .inr (.inr none) => w = .null
  | .inr (.inr (some k)) => (k.1 = 7 ∧ (w = .null ∨ ∃ a, w = .ref a)) ∨ ∃ a, φ k = some a ∧ w = .ref a
def zm_sr (φ : zmK → Option Nat) : List zmV → List Value → Prop
  | [], rs => rs = []
  | v :: st, rs => ∃ w r, rs = w :: r ∧ zm_vr φ v w ∧ zm_sr φ st r
def zm_le (φ ψ : zmK → Option Nat) : Prop := ∀ k a, φ k = some a → ψ k = some a
theorem zm_le.rf {φ : zmK → Option Nat} : zm_le φ φ := fun _ _ h => h
theorem zm_le.tr {φ ψ χ : zmK → Option Nat} (h : zm_le φ ψ) (g : zm_le ψ χ) : zm_le φ χ := fun k a q => g k a (h k a q)
theorem zm_vr.le {φ ψ : zmK → Option Nat} (h : zm_le φ ψ) {v : zmV} {w : Value} (q : zm_vr φ v w) : zm_vr ψ v w := by
  rcases v with x | x | _ | k
  · exact q
  · exact q
  · exact q
  · rcases q with q | ⟨a, h1, h2⟩
    · exact Or.inl q
    · exact Or.inr ⟨a, h k a h1, h2⟩
theorem zm_sr.le {φ ψ : zmK → Option Nat} (h : zm_le φ ψ) : ∀ {st : List zmV} {rs : List Value}, zm_sr φ st rs → zm_sr ψ st rs
  | [], _, q => q
  | _ :: _, _, ⟨w, r, e, hv, hr⟩ => ⟨w, r, e, hv.le h, zm_sr.le h hr⟩
theorem zm_sr.len {φ : zmK → Option Nat} : ∀ {st : List zmV} {rs : List Value}, zm_sr φ st rs → st.length = rs.length
  | [], _, q => by rw [show _ = [] from q]; rfl
  | _ :: _, _, ⟨w, r, e, _, hr⟩ => by rw [e, List.length_cons, List.length_cons, zm_sr.len hr]
theorem zm_sr.get {φ : zmK → Option Nat} : ∀ {st : List zmV} {rs : List Value} {k : Nat} {v : zmV}, zm_sr φ st rs → st[k]? = some v → ∃ w, rs[k]? = some w ∧ zm_vr φ v w
  | [], _, _, _, _, h => by simp at h
  | v0 :: st, _, 0, v, ⟨w, r, e, hv, hr⟩, h => by
    subst e
    simp at h
    subst h
    exact ⟨w, by simp, hv⟩
  | v0 :: st, _, k + 1, v, ⟨w, r, e, hv, hr⟩, h => by
    subst e
    simp at h
    obtain ⟨w2, h1, h2⟩ := zm_sr.get hr h
    exact ⟨w2, by simpa using h1, h2⟩
theorem zm_sr.set {φ : zmK → Option Nat} {v : zmV} {w : Value} (hv : zm_vr φ v w) : ∀ {st : List zmV} {rs : List Value} (k : Nat), zm_sr φ st rs → zm_sr φ (st.set k v) (rs.set k w)
  | [], _, k, q => by rw [show _ = [] from q]; exact rfl
  | v0 :: st, _, 0, ⟨w0, r, e, _, hr⟩ => by
    subst e
    exact ⟨w, r, rfl, hv, hr⟩
  | v0 :: st, _, k + 1, ⟨w0, r, e, h0, hr⟩ => by
    subst e
    exact ⟨w0, r.set k w, rfl, h0, zm_sr.set hv k hr⟩
theorem zm_sr.app {φ : zmK → Option Nat} : ∀ {s1 : List zmV} {r1 : List Value} {s2 : List zmV} {r2 : List Value}, zm_sr φ s1 r1 → zm_sr φ s2 r2 → zm_sr φ (s1 ++ s2) (r1 ++ r2)
  | [], _, _, _, h1, h2 => by rw [show _ = [] from h1]; exact h2
  | v :: s1, _, _, _, ⟨w, r, e, hv, hr⟩, h2 => by
    subst e
    exact ⟨w, r ++ _, rfl, hv, zm_sr.app hr h2⟩
theorem zm_sr.split {φ : zmK → Option Nat} : ∀ {s1 s2 : List zmV} {rs : List Value}, zm_sr φ (s1 ++ s2) rs → ∃ r1 r2, rs = r1 ++ r2 ∧ zm_sr φ s1 r1 ∧ zm_sr φ s2 r2
  | [], _, rs, h => ⟨[], rs, rfl, rfl, h⟩
  | v :: s1, s2, _, ⟨w, r, e, hv, hr⟩ => by
    obtain ⟨r1, r2, e2, h1, h2⟩ := zm_sr.split (s1 := s1) (s2 := s2) hr
    exact ⟨w :: r1, r2, by rw [e, e2]; rfl, ⟨w, r1, rfl, hv, h1⟩, h2⟩
theorem zm_sr.rev {φ : zmK → Option Nat} : ∀ {st : List zmV} {rs : List Value}, zm_sr φ st rs → zm_sr φ st.reverse rs.reverse
  | [], _, q => by rw [show _ = [] from q]; exact rfl
  | v :: st, _, ⟨w, r, e, hv, hr⟩ => by
    subst e
    rw [List.reverse_cons, List.reverse_cons]
    exact zm_sr.app (zm_sr.rev hr) ⟨w, [], rfl, hv, rfl⟩
def zm_qr (φ : zmK → Option Nat) (f : Nat → Option zmK) (g : Nat → Option Nat) : Prop := ∀ j, zm_vr φ (.inr (.inr (f j))) (va_rf (g j))
def zm_cr (φ : zmK → Option Nat) (tys : List (ClassId × FieldType)) (c : zmC) (e : va_E) : Prop := match c with
  | .inl (ty, n, .inl f) => ∃ cA, (cA, ty) ∈ tys ∧ e = .inl (cA, n, .inl f)
  | .inl (ty, n, .inr f) => ∃ cA g, (cA, ty) ∈ tys ∧ zm_qr φ f g ∧ e = .inl (cA, n, .inr (.inr (.inr (.inr g))))
  | .inr (ci, fs) => ∃ gs, zm_sr φ fs gs ∧ e = .inr (ci, gs)
theorem zm_cr.le {φ ψ : zmK → Option Nat} (h : zm_le φ ψ) {tys tys2 : List (ClassId × FieldType)} (ht : ∀ q ∈ tys, q ∈ tys2) {c : zmC} {e : va_E} (q : zm_cr φ tys c e) : zm_cr ψ tys2 c e := by
  rcases c with ⟨ty, n, f | f⟩ | ⟨ci, fs⟩
  · obtain ⟨cA, h1, h2⟩ := q
    exact ⟨cA, ht _ h1, h2⟩
  · obtain ⟨cA, g, h1, h2, h3⟩ := q
    exact ⟨cA, g, ht _ h1, fun j => (h2 j).le h, h3⟩
  · obtain ⟨gs, h1, h2⟩ := q
    exact ⟨gs, h1.le h, h2⟩
def zm_hr (φ : zmK → Option Nat) (tys : List (ClassId × FieldType)) (h : zmH) (ws : va_W) : Prop :=
  (∀ k c, zm_get h k = some c → 8 ≤ k.1 → ∃ (i a : Nat) (e : va_E), φ k = some a ∧ ws[i]? = some (a, e) ∧ zm_cr φ tys c e) ∧
  (∀ k a, φ k = some a → 8 ≤ k.1 → ∃ c, zm_get h k = some c) ∧
  (∀ k k2 a, φ k = some a → φ k2 = some a → 8 ≤ k.1 → 8 ≤ k2.1 → k = k2)
theorem zm_get_set (h : zmH) (k k2 : zmK) (c : zmC) : zm_get (zm_set h k c) k2 = if k2 = k then some c else zm_get h k2 := rfl
theorem zm_get_new (h : zmH) (s : Nat) (c : zmC) (sl : Nat) (k2 : zmK) : zm_get (zm_new h s c sl) k2 = if k2 = (s, h.2.1 s) then some c else zm_get h k2 := rfl
theorem zm_hr.set {φ : zmK → Option Nat} {tys : List (ClassId × FieldType)} {h : zmH} {ws : va_W} {A : Nat → Prop} (H : zm_hr φ tys h ws) (hD : va_D A ws) {k : zmK} {c c2 : zmC} {i a : Nat} {e e2 : va_E} (hk : 8 ≤ k.1) (hc : zm_get h k = some c) (hφ : φ k = some a) (hi : ws[i]? = some (a, e)) (hr : zm_cr φ tys c2 e2) : zm_hr φ tys (zm_set h k c2) (ws.set i (a, e2)) := by
  have hl := (List.getElem?_eq_some_iff.mp hi).1
  refine ⟨fun k1 c1 h1 h8 => ?_, fun k1 a1 h1 h8 => ?_, H.2.2⟩
  · rw [zm_get_set] at h1
    by_cases hkk : k1 = k
    · subst hkk
      rw [if_pos rfl] at h1
      cases h1
      exact ⟨i, a, e2, hφ, List.getElem?_set_self hl, hr⟩
    · rw [if_neg hkk] at h1
      obtain ⟨j, b, e3, g1, g2, g3⟩ := H.1 k1 c1 h1 h8
      have hji : j ≠ i := fun q => by
        subst q
        rw [hi] at g2
        have hab : a = b := congrArg Prod.fst (Option.some.inj g2)
        subst hab
        exact hkk (H.2.2 k1 k a g1 hφ h8 hk)
      exact ⟨j, b, e3, g1, by rw [List.getElem?_set_ne (Ne.symm hji)]; exact g2, g3⟩
  · rw [zm_get_set]
    by_cases hkk : k1 = k
    · rw [if_pos hkk]; exact ⟨c2, rfl⟩
    · rw [if_neg hkk]; exact H.2.1 k1 a1 h1 h8
def zm_ext (φ : zmK → Option Nat) (k : zmK) (a : Nat) : zmK → Option Nat := fun j => if j = k then some a else φ j
theorem zm_ext_le {φ : zmK → Option Nat} {k : zmK} {a : Nat} (h : φ k = none) : zm_le φ (zm_ext φ k a) := by
  intro j b hj
  unfold zm_ext
  by_cases q : j = k
  · subst q; rw [h] at hj; cases hj
  · rw [if_neg q]; exact hj
theorem zm_hr.non {φ : zmK → Option Nat} {tys : List (ClassId × FieldType)} {h : zmH} {ws : va_W} (H : zm_hr φ tys h ws) {k : zmK} (hk : 8 ≤ k.1) (hg : zm_get h k = none) : φ k = none := by
  cases hq : φ k with
  | none => rfl
  | some a =>
    obtain ⟨c, hc⟩ := H.2.1 k a hq hk
    rw [hg] at hc; cases hc
theorem zm_hr.new {φ : zmK → Option Nat} {tys tys2 : List (ClassId × FieldType)} {h : zmH} {ws : va_W} {A : Nat → Prop} (H : zm_hr φ tys h ws) {s : Nat} {c : zmC} {sl a : Nat} {e : va_E} (hD : va_D A (ws ++ [(a, e)])) (hs : 8 ≤ s) (hg : zm_get h (s, h.2.1 s) = none) (ht : ∀ q ∈ tys, q ∈ tys2) (hr : zm_cr (zm_ext φ (s, h.2.1 s) a) tys2 c e) :
    zm_hr (zm_ext φ (s, h.2.1 s) a) tys2 (zm_new h s c sl) (ws ++ [(a, e)]) := by
  have hn : φ (s, h.2.1 s) = none := H.non hs hg
  have hle : zm_le φ (zm_ext φ (s, h.2.1 s) a) := zm_ext_le hn
  have hlast : (ws ++ [(a, e)])[ws.length]? = some (a, e) := by simp
  have old : ∀ k b, φ k = some b → 8 ≤ k.1 → b ≠ a := by
    intro k b hb h8 hba
    obtain ⟨c1, hc1⟩ := H.2.1 k b hb h8
    obtain ⟨i, b2, e2, g1, g2, -⟩ := H.1 k c1 hc1 h8
    have hb2 : b = b2 := Option.some.inj (hb.symm.trans g1)
    subst hb2
    subst hba
    have hl := (List.getElem?_eq_some_iff.mp g2).1
    have g3 : (ws ++ [(b, e)])[i]? = some (b, e2) := by rw [List.getElem?_append_left hl]; exact g2
    have := hD.1 i ws.length (b, e2) (b, e) g3 hlast rfl
    omega
  refine ⟨fun k1 c1 h1 h8 => ?_, fun k1 a1 h1 h8 => ?_, fun k1 k2 a1 h1 h2 h8 h8' => ?_⟩
  · rw [zm_get_new] at h1
    by_cases hkk : k1 = (s, h.2.1 s)
    · rw [if_pos hkk] at h1
      cases h1
      exact ⟨ws.length, a, e, by rw [hkk]; simp [zm_ext], hlast, hr⟩
    · rw [if_neg hkk] at h1
      obtain ⟨j, b, e3, g1, g2, g3⟩ := H.1 k1 c1 h1 h8
      exact ⟨j, b, e3, hle _ _ g1, by rw [List.getElem?_append_left (List.getElem?_eq_some_iff.mp g2).1]; exact g2, g3.le hle ht⟩
  · rw [zm_get_new]
    by_cases hkk : k1 = (s, h.2.1 s)
    · rw [if_pos hkk]; exact ⟨c, rfl⟩
    · rw [if_neg hkk]
      simp only [zm_ext, if_neg hkk] at h1
      exact H.2.1 k1 a1 h1 h8
  · by_cases q1 : k1 = (s, h.2.1 s)
    · by_cases q2 : k2 = (s, h.2.1 s)
      · rw [q1, q2]
      · simp only [zm_ext, if_pos q1, if_neg q2] at h1 h2
        cases h1
        exact absurd rfl (old k2 _ h2 h8')
    · by_cases q2 : k2 = (s, h.2.1 s)
      · simp only [zm_ext, if_neg q1, if_pos q2] at h1 h2
        cases h2
        exact absurd rfl (old k1 _ h1 h8)
      · simp only [zm_ext, if_neg q1, if_neg q2] at h1 h2
        exact H.2.2 k1 k2 a1 h1 h2 h8 h8'
def zm_lr (φ : zmK → Option Nat) (lsl : List Nat) (L : zmL) (lv : List (Nat × Value)) : Prop :=
  (∀ i v, L[i]? = some (some v) → ∃ w, (i, w) ∈ lv ∧ zm_vr φ v w) ∧ ∀ q ∈ lv, q.2.category = 2 → q.1 ∈ lsl
theorem zm_lr.le {φ ψ : zmK → Option Nat} (h : zm_le φ ψ) {lsl : List Nat} {L : zmL} {lv : List (Nat × Value)} (q : zm_lr φ lsl L lv) : zm_lr ψ lsl L lv :=
  ⟨fun i v hv => by obtain ⟨w, h1, h2⟩ := q.1 i v hv; exact ⟨w, h1, h2.le h⟩, q.2⟩
theorem zm_lr.store {φ : zmK → Option Nat} {lsl : List Nat} {L : zmL} {lv : List (Nat × Value)} (q : zm_lr φ lsl L lv) {n : Nat} {v : zmV} {w : Value} (hv : zm_vr φ v w) (hw : w.category = 1) (hn : n < L.length) (h2 : zm_no2 lsl n = true) :
    zm_lr φ lsl (L.set n (some v)) ((n, w) :: lv.filter (fun q => !(q.1 == n) && !(q.1 + 1 == n && q.2.category == 2))) := by
  refine ⟨fun i u hu => ?_, fun x hx hc => ?_⟩
  · by_cases hi : i = n
    · subst hi
      rw [List.getElem?_set_self hn] at hu
      cases hu
      exact ⟨w, List.mem_cons_self, hv⟩
    · rw [List.getElem?_set_ne (Ne.symm hi)] at hu
      obtain ⟨w2, g1, g2⟩ := q.1 i u hu
      refine ⟨w2, List.mem_cons_of_mem _ (List.mem_filter.mpr ⟨g1, ?_⟩), g2⟩
      have a1 : (i == n) = false := by simp [hi]
      have a2 : (i + 1 == n && w2.category == 2) = false := by
        by_cases e1 : i + 1 = n
        · by_cases e2 : w2.category = 2
          · exfalso
            have := q.2 (i, w2) g1 e2
            subst e1
            simp [zm_no2] at h2
            exact h2 this
          · simp [e2]
        · simp [e1]
      show (!(i == n) && !(i + 1 == n && w2.category == 2)) = true
      rw [a1, a2]; rfl
  · rcases List.mem_cons.mp hx with rfl | hx
    · rw [show ((n, w) : Nat × Value).2 = w from rfl, hw] at hc
      cases hc
    · exact q.2 x (List.mem_filter.mp hx).1 hc
theorem zm_lr.storeL {φ : zmK → Option Nat} {lsl : List Nat} {L : zmL} {lv : List (Nat × Value)} (q : zm_lr φ lsl L lv) {n : Nat} {x : Int64} (hn : n + 1 < L.length) (h2 : zm_no2 lsl n = true) (hm : n ∈ lsl) :
    zm_lr φ lsl ((L.set n (some (.inr (.inl x)))).set (n + 1) none) ((n, .long x) :: lv.filter (fun q => !(q.1 == n) && (!(q.1 == n + 1) && !(q.1 + 1 == n && q.2.category == 2)))) := by
  refine ⟨fun i u hu => ?_, fun y hy hc => ?_⟩
  · by_cases hi1 : i = n + 1
    · subst hi1
      rw [List.getElem?_set_self (by rw [List.length_set]; exact hn)] at hu
      cases hu
    · rw [List.getElem?_set_ne (Ne.symm hi1)] at hu
      by_cases hi : i = n
      · subst hi
        rw [List.getElem?_set_self (by omega)] at hu
        cases hu
        exact ⟨.long x, List.mem_cons_self, rfl⟩
      · rw [List.getElem?_set_ne (Ne.symm hi)] at hu
        obtain ⟨w2, g1, g2⟩ := q.1 i u hu
        refine ⟨w2, List.mem_cons_of_mem _ (List.mem_filter.mpr ⟨g1, ?_⟩), g2⟩
        have a1 : (i == n) = false := by simp [hi]
        have a3 : (i == n + 1) = false := by simp [hi1]
        have a2 : (i + 1 == n && w2.category == 2) = false := by
          by_cases e1 : i + 1 = n
          · by_cases e2 : w2.category = 2
            · exfalso
              have := q.2 (i, w2) g1 e2
              subst e1
              simp [zm_no2] at h2
              exact h2 this
            · simp [e2]
          · simp [e1]
        show (!(i == n) && (!(i == n + 1) && !(i + 1 == n && w2.category == 2))) = true
        rw [a1, a2, a3]; rfl
  · rcases List.mem_cons.mp hy with rfl | hy
    · exact hm
    · exact q.2 y (List.mem_filter.mp hy).1 hc
theorem zm_ii_inv {f : Int32 → Int32 → Int32} {st st2 : List zmV} (h : zm_ii f st = some st2) : ∃ x y r, st = .inl y :: .inl x :: r ∧ st2 = .inl (f x y) :: r := by
  unfold zm_ii at h
  split at h
  · cases h; exact ⟨_, _, _, rfl, rfl⟩
  · cases h
theorem zm_i1_inv {f : Int32 → zmV} {st st2 : List zmV} (h : zm_i1 f st = some st2) : ∃ x r, st = .inl x :: r ∧ st2 = f x :: r := by
  unfold zm_i1 at h
  split at h
  · cases h; exact ⟨_, _, rfl, rfl⟩
  · cases h
theorem zm_l1_inv {f : Int64 → zmV} {st st2 : List zmV} (h : zm_l1 f st = some st2) : ∃ x r, st = .inr (.inl x) :: r ∧ st2 = f x :: r := by
  unfold zm_l1 at h
  split at h
  · cases h; exact ⟨_, _, rfl, rfl⟩
  · cases h
theorem zm_ll_inv {f : Int64 → Int64 → zmV} {st st2 : List zmV} (h : zm_ll f st = some st2) : ∃ x y r, st = .inr (.inl y) :: .inr (.inl x) :: r ∧ st2 = f x y :: r := by
  unfold zm_ll at h
  split at h
  · cases h; exact ⟨_, _, _, rfl, rfl⟩
  · cases h
theorem zm_li_inv {f : Int64 → Int32 → Int64} {st st2 : List zmV} (h : zm_li f st = some st2) : ∃ x y r, st = .inl y :: .inr (.inl x) :: r ∧ st2 = .inr (.inl (f x y)) :: r := by
  unfold zm_li at h
  split at h
  · cases h; exact ⟨_, _, _, rfl, rfl⟩
  · cases h
theorem zm_vr_ref {φ : zmK → Option Nat} {q : Option zmK} {w : Value} (h : zm_vr φ (.inr (.inr q)) w) : w = .null ∨ ∃ a, w = .ref a := by
  cases q with
  | none => exact Or.inl h
  | some k =>
    rcases h with ⟨-, h⟩ | ⟨a, -, h⟩
    · exact h
    · exact Or.inr ⟨a, h⟩
theorem zm_vr_n7 {φ : zmK → Option Nat} {k : zmK} {w : Value} (h : zm_vr φ (.inr (.inr (some k))) w) (h7 : k.1 ≠ 7) : ∃ a, φ k = some a ∧ w = .ref a := by
  rcases h with ⟨e, -⟩ | h
  · exact absurd e h7
  · exact h
theorem zm_vr_null {φ : zmK → Option Nat} {q : Option zmK} {w : Value} (h : zm_vr φ (.inr (.inr q)) w) (h7 : zm_n7 q = true) : (w = .null ∧ q = none) ∨ ∃ k a, q = some k ∧ w = .ref a := by
  cases q with
  | none => exact Or.inl ⟨h, rfl⟩
  | some k =>
    obtain ⟨a, -, h2⟩ := zm_vr_n7 h (by simpa [zm_n7] using h7)
    exact Or.inr ⟨k, a, rfl, h2⟩
theorem zm_vr_cat {φ : zmK → Option Nat} {v : zmV} {w : Value} (h : zm_vr φ v w) : w.category = if zm_kd v = 1 then 2 else 1 := by
  rcases v with x | x | q
  · rw [show w = .int x from h]; rfl
  · rw [show w = .long x from h]; rfl
  · rcases zm_vr_ref h with rfl | ⟨a, rfl⟩ <;> rfl
theorem zm_dup_inv {st st2 : List zmV} (h : zm_dup st = some st2) : ∃ v r, st = v :: r ∧ st2 = v :: v :: r ∧ zm_kd v ≠ 1 := by
  unfold zm_dup at h
  split at h
  · cases h; exact ⟨_, _, rfl, rfl, by simp [zm_kd]⟩
  · cases h; exact ⟨_, _, rfl, rfl, by simp [zm_kd]⟩
  · cases h
theorem zm_pop_inv {st st2 : List zmV} (h : zm_pop st = some st2) : ∃ v, st = v :: st2 ∧ zm_kd v ≠ 1 := by
  unfold zm_pop at h
  split at h
  · cases h; exact ⟨_, rfl, by simp [zm_kd]⟩
  · cases h; exact ⟨_, rfl, by simp [zm_kd]⟩
  · cases h
section ZMA
variable {p : Program} {l : Launch} {e : Env} {R : Room} {s : State} {m : MethodId} {args : Array Value} {below : List Frame} {meth : Method} {c : Code} {H : Heap} {locs : List Loc} {cells slots : Nat} {Q : State → Prop}
variable {cc : ByteArray} {pc : Nat} {ls : Array Slot} {rs : List Value} {φ : zmK → Option Nat} {st st2 : List zmV}
theorem zm_two {x y : zmV} {r : List zmV} (h : zm_sr φ (y :: x :: r) rs) : ∃ wy wx rr, rs = wy :: wx :: rr ∧ zm_vr φ y wy ∧ zm_vr φ x wx ∧ zm_sr φ r rr := by
  obtain ⟨w1, r1, rfl, h1, w2, r2, rfl, h2, h3⟩ := h
  exact ⟨w1, w2, r2, rfl, h1, h2, h3⟩
set_option maxHeartbeats 4000000 in
theorem zm_alu_ok {i : Instr} (hx : p.tables.exec = Jvm.exec) (hb : c.code = cc) (hdg : decode cc pc = .ok (i, 1)) (hq : zm_alu i st = some st2) (hsr : zm_sr φ st rs)
    (k : ∀ rs2, zm_sr φ st2 rs2 → W p l e R s m args below meth c H locs cells slots Q (F0 m (pc + 1) ls rs2)) : W p l e R s m args below meth c H locs cells slots Q (F0 m pc ls rs) := by
  cases i with
  | iadd =>
    obtain ⟨x, y, r, rfl, rfl⟩ := zm_ii_inv hq
    obtain ⟨_, _, rr, rfl, rfl, rfl, h3⟩ := zm_two hsr
    exact lv_iadd hx hb hdg (k _ ⟨_, _, rfl, rfl, h3⟩)
  | isub =>
    obtain ⟨x, y, r, rfl, rfl⟩ := zm_ii_inv hq
    obtain ⟨_, _, rr, rfl, rfl, rfl, h3⟩ := zm_two hsr
    exact lv_isub hx hb hdg (k _ ⟨_, _, rfl, rfl, h3⟩)
  | imul =>
    obtain ⟨x, y, r, rfl, rfl⟩ := zm_ii_inv hq
    obtain ⟨_, _, rr, rfl, rfl, rfl, h3⟩ := zm_two hsr
    exact lv_imul hx hb hdg (k _ ⟨_, _, rfl, rfl, h3⟩)
  | iand =>
    obtain ⟨x, y, r, rfl, rfl⟩ := zm_ii_inv hq
    obtain ⟨_, _, rr, rfl, rfl, rfl, h3⟩ := zm_two hsr
    exact lv_iand hx hb hdg (k _ ⟨_, _, rfl, rfl, h3⟩)
  | ior =>
    obtain ⟨x, y, r, rfl, rfl⟩ := zm_ii_inv hq
    obtain ⟨_, _, rr, rfl, rfl, rfl, h3⟩ := zm_two hsr
    exact lv_ior hx hb hdg (k _ ⟨_, _, rfl, rfl, h3⟩)
  | ixor =>
    obtain ⟨x, y, r, rfl, rfl⟩ := zm_ii_inv hq
    obtain ⟨_, _, rr, rfl, rfl, rfl, h3⟩ := zm_two hsr
    exact lv_ixor hx hb hdg (k _ ⟨_, _, rfl, rfl, h3⟩)
  | ishl =>
    obtain ⟨x, y, r, rfl, rfl⟩ := zm_ii_inv hq
    obtain ⟨_, _, rr, rfl, rfl, rfl, h3⟩ := zm_two hsr
    exact lv_ishl hx hb hdg (k _ ⟨_, _, rfl, rfl, h3⟩)
  | ishr =>
    obtain ⟨x, y, r, rfl, rfl⟩ := zm_ii_inv hq
    obtain ⟨_, _, rr, rfl, rfl, rfl, h3⟩ := zm_two hsr
    exact lv_ishr hx hb hdg (k _ ⟨_, _, rfl, rfl, h3⟩)
  | iushr =>
    obtain ⟨x, y, r, rfl, rfl⟩ := zm_ii_inv hq
    obtain ⟨_, _, rr, rfl, rfl, rfl, h3⟩ := zm_two hsr
    exact lv_iushr hx hb hdg rfl (k _ ⟨_, _, rfl, rfl, h3⟩)
  | ineg =>
    obtain ⟨x, r, rfl, rfl⟩ := zm_i1_inv hq
    obtain ⟨_, rr, rfl, rfl, h3⟩ := hsr
    exact lv_ineg hx hb hdg (k _ ⟨_, _, rfl, rfl, h3⟩)
  | i2l =>
    obtain ⟨x, r, rfl, rfl⟩ := zm_i1_inv hq
    obtain ⟨_, rr, rfl, rfl, h3⟩ := hsr
    exact lv_i2l hx hb hdg rfl (k _ ⟨_, _, rfl, rfl, h3⟩)
  | i2c =>
    obtain ⟨x, r, rfl, rfl⟩ := zm_i1_inv hq
    obtain ⟨_, rr, rfl, rfl, h3⟩ := hsr
    exact lv_i2c hx hb hdg rfl (k _ ⟨_, _, rfl, rfl, h3⟩)
  | i2b =>
    obtain ⟨x, r, rfl, rfl⟩ := zm_i1_inv hq
    obtain ⟨_, rr, rfl, rfl, h3⟩ := hsr
    exact lv_i2b hx hb hdg rfl (k _ ⟨_, _, rfl, rfl, h3⟩)
  | l2i =>
    obtain ⟨x, r, rfl, rfl⟩ := zm_l1_inv hq
    obtain ⟨_, rr, rfl, rfl, h3⟩ := hsr
    exact lv_l2i hx hb hdg rfl (k _ ⟨_, _, rfl, rfl, h3⟩)
  | ladd =>
    obtain ⟨x, y, r, rfl, rfl⟩ := zm_ll_inv hq
    obtain ⟨_, _, rr, rfl, rfl, rfl, h3⟩ := zm_two hsr
    exact lv_ladd hx hb hdg (k _ ⟨_, _, rfl, rfl, h3⟩)
  | lmul =>
    obtain ⟨x, y, r, rfl, rfl⟩ := zm_ll_inv hq
    obtain ⟨_, _, rr, rfl, rfl, rfl, h3⟩ := zm_two hsr
    exact lv_lmul hx hb hdg (k _ ⟨_, _, rfl, rfl, h3⟩)
  | land =>
    obtain ⟨x, y, r, rfl, rfl⟩ := zm_ll_inv hq
    obtain ⟨_, _, rr, rfl, rfl, rfl, h3⟩ := zm_two hsr
    exact lv_land hx hb hdg (k _ ⟨_, _, rfl, rfl, h3⟩)
  | lor =>
    obtain ⟨x, y, r, rfl, rfl⟩ := zm_ll_inv hq
    obtain ⟨_, _, rr, rfl, rfl, rfl, h3⟩ := zm_two hsr
    exact lv_lor hx hb hdg (k _ ⟨_, _, rfl, rfl, h3⟩)
  | lcmp =>
    obtain ⟨x, y, r, rfl, rfl⟩ := zm_ll_inv hq
    obtain ⟨_, _, rr, rfl, rfl, rfl, h3⟩ := zm_two hsr
    exact W.lcmp hx hb hdg (k _ ⟨_, _, rfl, rfl, h3⟩)
  | lshl =>
    obtain ⟨x, y, r, rfl, rfl⟩ := zm_li_inv hq
    obtain ⟨_, _, rr, rfl, rfl, rfl, h3⟩ := zm_two hsr
    exact lv_lshl hx hb hdg rfl (k _ ⟨_, _, rfl, rfl, h3⟩)
  | lushr =>
    obtain ⟨x, y, r, rfl, rfl⟩ := zm_li_inv hq
    obtain ⟨_, _, rr, rfl, rfl, rfl, h3⟩ := zm_two hsr
    exact lv_lushr hx hb hdg rfl (k _ ⟨_, _, rfl, rfl, h3⟩)
  | aconst_null =>
    cases hq
    exact lv_null hx hb hdg (k _ ⟨_, _, rfl, rfl, hsr⟩)
  | iconst n =>
    cases hq
    exact lv_iconst hx hb hdg rfl (k _ ⟨_, _, rfl, rfl, hsr⟩)
  | lconst n =>
    cases hq
    exact lv_lconst hx hb hdg rfl (k _ ⟨_, _, rfl, rfl, hsr⟩)
  | dup =>
    obtain ⟨v, r, rfl, rfl, hv⟩ := zm_dup_inv hq
    obtain ⟨w, rr, rfl, h1, h3⟩ := hsr
    exact lv_dup hx hb hdg (by rw [zm_vr_cat h1, if_neg hv]) (k _ ⟨_, _, rfl, h1, _, _, rfl, h1, h3⟩)
  | pop =>
    obtain ⟨v, rfl, hv⟩ := zm_pop_inv hq
    obtain ⟨w, rr, rfl, h1, h3⟩ := hsr
    exact lv_pop hx hb hdg (by rw [zm_vr_cat h1, if_neg hv]) (k _ h3)
  | _ => cases hq
theorem zm_ld_inv {L : zmL} {n kd : Nat} {v : zmV} (h : zm_ld L n kd = some v) : L[n]? = some (some v) ∧ zm_kd v = kd := by
  unfold zm_ld at h
  split at h
  · next u hu =>
    split at h
    · next hk => cases h; exact ⟨hu, hk⟩
    · cases h
  · cases h
theorem zm_kd0 {v : zmV} (h : zm_kd v = 0) : ∃ x, v = .inl x := by
  rcases v with x | x | x
  · exact ⟨x, rfl⟩
  · cases h
  · cases h
theorem zm_kd1 {v : zmV} (h : zm_kd v = 1) : ∃ x, v = .inr (.inl x) := by
  rcases v with x | x | x
  · cases h
  · exact ⟨x, rfl⟩
  · cases h
theorem zm_kd2 {v : zmV} (h : zm_kd v = 2) : ∃ x, v = .inr (.inr x) := by
  rcases v with x | x | x
  · cases h
  · cases h
  · exact ⟨x, rfl⟩
theorem zm_lr.at {lsl : List Nat} {L : zmL} {lv : List (Nat × Value)} {nL n : Nat} {v : zmV} (hl : lv_has ls nL lv) (hr : zm_lr φ lsl L lv) (h : L[n]? = some (some v)) : ∃ w, ls[n]? = some (.val w) ∧ zm_vr φ v w := by
  obtain ⟨w, h1, h2⟩ := hr.1 n v h
  exact ⟨w, hl.2.2 (n, w) h1, h2⟩
theorem zm_sto_inv {lsl : List Nat} {L : zmL} {n kd : Nat} {q : zmL × List zmV} (h : zm_sto lsl L n kd st = some q) : ∃ v, st = v :: q.2 ∧ zm_kd v = kd ∧ n < L.length ∧ zm_no2 lsl n = true ∧ q.1 = L.set n (some v) := by
  unfold zm_sto at h
  split at h
  · split at h
    · next hk => cases h; exact ⟨_, rfl, hk.1, hk.2.1, hk.2.2, rfl⟩
    · cases h
  · cases h
theorem zm_stoL_inv {lsl : List Nat} {L : zmL} {n : Nat} {q : zmL × List zmV} (h : zm_stoL lsl L n st = some q) : ∃ x, st = .inr (.inl x) :: q.2 ∧ n + 1 < L.length ∧ zm_no2 lsl n = true ∧ n ∈ lsl ∧ q.1 = (L.set n (some (.inr (.inl x)))).set (n + 1) none := by
  unfold zm_stoL at h
  split at h
  · split at h
    · next hk => cases h; exact ⟨_, rfl, hk.1, hk.2.1, by simpa using hk.2.2, rfl⟩
    · cases h
  · cases h
theorem zm_tgt_inv {off : Int} {t : Nat} (h : zm_tgt pc off = some t) : (pc : Int) + off = (t : Int) := by
  unfold zm_tgt at h
  split at h
  · next t2 he => cases h; exact he
  · cases h
end ZMA
