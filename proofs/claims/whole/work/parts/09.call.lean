def zm_fr (h h2 : zmH) : Prop := h.1.1 ≤ h2.1.1 ∧ h.1.2 ≤ h2.1.2 ∧ ∀ k : zmK, k.1 < 8 → zm_get h2 k = zm_get h k
theorem zm_fr.rf {h : zmH} : zm_fr h h := ⟨Nat.le_refl _, Nat.le_refl _, fun _ _ => rfl⟩
theorem zm_fr.tr {h h2 h3 : zmH} (a : zm_fr h h2) (b : zm_fr h2 h3) : zm_fr h h3 := ⟨Nat.le_trans a.1 b.1, Nat.le_trans a.2.1 b.2.1, fun k hk => (b.2.2 k hk).trans (a.2.2 k hk)⟩
theorem zm_fr.set {h : zmH} {r : zmK} {c : zmC} (h8 : 8 ≤ r.1) : zm_fr h (zm_set h r c) := ⟨Nat.le_refl _, Nat.le_refl _, zm_set_ro h8⟩
theorem zm_fr.putF {h : zmH} {r : zmK} {k : Nat} {v : zmV} (h8 : 8 ≤ r.1) : zm_fr h (zm_putF h r k v) := by
  unfold zm_putF
  split
  · exact zm_fr.set h8
  · exact zm_fr.rf
theorem zm_fr.stI {h : zmH} {r : zmK} {i x : Int32} (h8 : 8 ≤ r.1) : zm_fr h (zm_stI h r i x) := by
  unfold zm_stI
  split
  · exact zm_fr.set h8
  · exact zm_fr.rf
theorem zm_fr.stQ {h : zmH} {r x : zmK} {i : Int32} (h8 : 8 ≤ r.1) : zm_fr h (zm_stQ h r i x) := by
  unfold zm_stQ
  split
  · exact zm_fr.set h8
  · exact zm_fr.rf
theorem zm_fr.new {h : zmH} {s : Nat} {c : zmC} {sl : Nat} (h8 : 8 ≤ s) : zm_fr h (zm_new h s c sl) := ⟨Nat.le_add_right _ _, Nat.le_add_right _ _, zm_new_ro h8⟩
set_option maxHeartbeats 4000000 in
theorem zm_step_fr {mi pc : Nat} {i : Instr} {L : zmL} {st : List zmV} {h : zmH} {q : Nat × zmL × List zmV × zmH} (hs : zm_step mi pc i L st h = some q) : zm_fr h q.2.2.2 := by
  cases i with
  | iload_n n =>
    simp only [zm_step, Option.map_eq_some_iff] at hs
    obtain ⟨_, _, rfl⟩ := hs
    exact zm_fr.rf
  | iload n =>
    simp only [zm_step, Option.map_eq_some_iff] at hs
    obtain ⟨_, _, rfl⟩ := hs
    exact zm_fr.rf
  | lload n =>
    simp only [zm_step, Option.map_eq_some_iff] at hs
    obtain ⟨_, _, rfl⟩ := hs
    exact zm_fr.rf
  | lload_n n =>
    simp only [zm_step, Option.map_eq_some_iff] at hs
    obtain ⟨_, _, rfl⟩ := hs
    exact zm_fr.rf
  | aload n =>
    simp only [zm_step, Option.map_eq_some_iff] at hs
    obtain ⟨_, _, rfl⟩ := hs
    exact zm_fr.rf
  | aload_n n =>
    simp only [zm_step, Option.map_eq_some_iff] at hs
    obtain ⟨_, _, rfl⟩ := hs
    exact zm_fr.rf
  | istore n =>
    simp only [zm_step, Option.map_eq_some_iff] at hs
    obtain ⟨_, _, rfl⟩ := hs
    exact zm_fr.rf
  | istore_n n =>
    simp only [zm_step, Option.map_eq_some_iff] at hs
    obtain ⟨_, _, rfl⟩ := hs
    exact zm_fr.rf
  | astore n =>
    simp only [zm_step, Option.map_eq_some_iff] at hs
    obtain ⟨_, _, rfl⟩ := hs
    exact zm_fr.rf
  | astore_n n =>
    simp only [zm_step, Option.map_eq_some_iff] at hs
    obtain ⟨_, _, rfl⟩ := hs
    exact zm_fr.rf
  | lstore n =>
    simp only [zm_step, Option.map_eq_some_iff] at hs
    obtain ⟨_, _, rfl⟩ := hs
    exact zm_fr.rf
  | lstore_n n =>
    simp only [zm_step, Option.map_eq_some_iff] at hs
    obtain ⟨_, _, rfl⟩ := hs
    exact zm_fr.rf
  | iinc n d =>
    simp only [zm_step, Option.map_eq_some_iff] at hs
    obtain ⟨_, _, rfl⟩ := hs
    exact zm_fr.rf
  | ldc k =>
    simp only [zm_step, Option.map_eq_some_iff] at hs
    obtain ⟨_, _, rfl⟩ := hs
    exact zm_fr.rf
  | ldc2_w k =>
    simp only [zm_step, Option.map_eq_some_iff] at hs
    obtain ⟨_, _, rfl⟩ := hs
    exact zm_fr.rf
  | goto off =>
    simp only [zm_step, Option.map_eq_some_iff] at hs
    obtain ⟨_, _, rfl⟩ := hs
    exact zm_fr.rf
  | getstatic k =>
    simp only [zm_step, Option.map_eq_some_iff] at hs
    obtain ⟨_, _, rfl⟩ := hs
    exact zm_fr.rf
  | iadd =>
    simp only [zm_step, Option.map_eq_some_iff] at hs
    obtain ⟨_, _, rfl⟩ := hs
    exact zm_fr.rf
  | isub =>
    simp only [zm_step, Option.map_eq_some_iff] at hs
    obtain ⟨_, _, rfl⟩ := hs
    exact zm_fr.rf
  | imul =>
    simp only [zm_step, Option.map_eq_some_iff] at hs
    obtain ⟨_, _, rfl⟩ := hs
    exact zm_fr.rf
  | iand =>
    simp only [zm_step, Option.map_eq_some_iff] at hs
    obtain ⟨_, _, rfl⟩ := hs
    exact zm_fr.rf
  | ior =>
    simp only [zm_step, Option.map_eq_some_iff] at hs
    obtain ⟨_, _, rfl⟩ := hs
    exact zm_fr.rf
  | ixor =>
    simp only [zm_step, Option.map_eq_some_iff] at hs
    obtain ⟨_, _, rfl⟩ := hs
    exact zm_fr.rf
  | ishl =>
    simp only [zm_step, Option.map_eq_some_iff] at hs
    obtain ⟨_, _, rfl⟩ := hs
    exact zm_fr.rf
  | ishr =>
    simp only [zm_step, Option.map_eq_some_iff] at hs
    obtain ⟨_, _, rfl⟩ := hs
    exact zm_fr.rf
  | iushr =>
    simp only [zm_step, Option.map_eq_some_iff] at hs
    obtain ⟨_, _, rfl⟩ := hs
    exact zm_fr.rf
  | ineg =>
    simp only [zm_step, Option.map_eq_some_iff] at hs
    obtain ⟨_, _, rfl⟩ := hs
    exact zm_fr.rf
  | i2l =>
    simp only [zm_step, Option.map_eq_some_iff] at hs
    obtain ⟨_, _, rfl⟩ := hs
    exact zm_fr.rf
  | i2c =>
    simp only [zm_step, Option.map_eq_some_iff] at hs
    obtain ⟨_, _, rfl⟩ := hs
    exact zm_fr.rf
  | i2b =>
    simp only [zm_step, Option.map_eq_some_iff] at hs
    obtain ⟨_, _, rfl⟩ := hs
    exact zm_fr.rf
  | l2i =>
    simp only [zm_step, Option.map_eq_some_iff] at hs
    obtain ⟨_, _, rfl⟩ := hs
    exact zm_fr.rf
  | ladd =>
    simp only [zm_step, Option.map_eq_some_iff] at hs
    obtain ⟨_, _, rfl⟩ := hs
    exact zm_fr.rf
  | lmul =>
    simp only [zm_step, Option.map_eq_some_iff] at hs
    obtain ⟨_, _, rfl⟩ := hs
    exact zm_fr.rf
  | land =>
    simp only [zm_step, Option.map_eq_some_iff] at hs
    obtain ⟨_, _, rfl⟩ := hs
    exact zm_fr.rf
  | lor =>
    simp only [zm_step, Option.map_eq_some_iff] at hs
    obtain ⟨_, _, rfl⟩ := hs
    exact zm_fr.rf
  | lcmp =>
    simp only [zm_step, Option.map_eq_some_iff] at hs
    obtain ⟨_, _, rfl⟩ := hs
    exact zm_fr.rf
  | lshl =>
    simp only [zm_step, Option.map_eq_some_iff] at hs
    obtain ⟨_, _, rfl⟩ := hs
    exact zm_fr.rf
  | lushr =>
    simp only [zm_step, Option.map_eq_some_iff] at hs
    obtain ⟨_, _, rfl⟩ := hs
    exact zm_fr.rf
  | aconst_null =>
    simp only [zm_step, Option.map_eq_some_iff] at hs
    obtain ⟨_, _, rfl⟩ := hs
    exact zm_fr.rf
  | dup =>
    simp only [zm_step, Option.map_eq_some_iff] at hs
    obtain ⟨_, _, rfl⟩ := hs
    exact zm_fr.rf
  | pop =>
    simp only [zm_step, Option.map_eq_some_iff] at hs
    obtain ⟨_, _, rfl⟩ := hs
    exact zm_fr.rf
  | iconst n =>
    simp only [zm_step, Option.map_eq_some_iff] at hs
    obtain ⟨_, _, rfl⟩ := hs
    exact zm_fr.rf
  | lconst n =>
    simp only [zm_step, Option.map_eq_some_iff] at hs
    obtain ⟨_, _, rfl⟩ := hs
    exact zm_fr.rf
  | bipush n =>
    cases hs
    exact zm_fr.rf
  | sipush n =>
    cases hs
    exact zm_fr.rf
  | ifnull off =>
    simp only [zm_step] at hs
    split at hs
    · split at hs
      · simp only [Option.map_eq_some_iff] at hs
        obtain ⟨_, _, rfl⟩ := hs
        exact zm_fr.rf
      · cases hs
    · cases hs
  | ifnonnull off =>
    simp only [zm_step] at hs
    split at hs
    · split at hs
      · simp only [Option.map_eq_some_iff] at hs
        obtain ⟨_, _, rfl⟩ := hs
        exact zm_fr.rf
      · cases hs
    · cases hs
  | ifCond cd off =>
    simp only [zm_step] at hs
    split at hs
    · simp only [Option.map_eq_some_iff] at hs
      obtain ⟨_, _, rfl⟩ := hs
      exact zm_fr.rf
    · cases hs
  | if_icmp cd off =>
    simp only [zm_step] at hs
    split at hs
    · simp only [Option.map_eq_some_iff] at hs
      obtain ⟨_, _, rfl⟩ := hs
      exact zm_fr.rf
    · cases hs
  | tableswitch dflt lo hi offs =>
    simp only [zm_step] at hs
    split at hs
    · simp only [Option.map_eq_some_iff] at hs
      obtain ⟨_, _, rfl⟩ := hs
      exact zm_fr.rf
    · cases hs
  | getfield k =>
    simp only [zm_step] at hs
    split at hs
    · split at hs
      · split at hs
        · next hF =>
          cases hs
          exact zm_fr.rf
        · cases hs
      · cases hs
    · cases hs
  | putfield k =>
    simp only [zm_step] at hs
    split at hs
    · split at hs
      · split at hs
        · next hF =>
          cases hs
          exact zm_fr.putF hF.2.2.1
        · cases hs
      · cases hs
    · cases hs
  | iaload =>
    simp only [zm_step] at hs
    split at hs
    · split at hs
      · next hF =>
        cases hs
        exact zm_fr.rf
      · cases hs
    · cases hs
  | caload =>
    simp only [zm_step] at hs
    split at hs
    · split at hs
      · next hF =>
        cases hs
        exact zm_fr.rf
      · cases hs
    · cases hs
  | baload =>
    simp only [zm_step] at hs
    split at hs
    · split at hs
      · next hF =>
        cases hs
        exact zm_fr.rf
      · cases hs
    · cases hs
  | aaload =>
    simp only [zm_step] at hs
    split at hs
    · split at hs
      · next hF =>
        cases hs
        exact zm_fr.rf
      · cases hs
    · cases hs
  | arraylength =>
    simp only [zm_step] at hs
    split at hs
    · split at hs
      · next hF =>
        cases hs
        exact zm_fr.rf
      · cases hs
    · cases hs
  | iastore =>
    simp only [zm_step] at hs
    split at hs
    · split at hs
      · next hF =>
        cases hs
        exact zm_fr.stI hF.2
      · cases hs
    · cases hs
  | bastore =>
    simp only [zm_step] at hs
    split at hs
    · split at hs
      · next hF =>
        cases hs
        exact zm_fr.stI hF.2
      · cases hs
    · cases hs
  | castore =>
    simp only [zm_step] at hs
    split at hs
    · split at hs
      · next hF =>
        cases hs
        exact zm_fr.stI hF.2
      · cases hs
    · cases hs
  | aastore =>
    simp only [zm_step] at hs
    split at hs
    · split at hs
      · next hF =>
        cases hs
        exact zm_fr.stQ hF.2.2.1
      · cases hs
    · cases hs
  | new k =>
    simp only [zm_step] at hs
    split at hs
    · split at hs
      · next hF =>
        cases hs
        exact zm_fr.new (zm_free_inv hF).1
      · cases hs
    · cases hs
  | newarray t =>
    simp only [zm_step] at hs
    split at hs
    · split at hs
      · next hF =>
        cases hs
        exact zm_fr.new (zm_free_inv hF.1).1
      · cases hs
    · cases hs
  | anewarray k =>
    simp only [zm_step] at hs
    split at hs
    · split at hs
      · split at hs
        · next hF =>
          cases hs
          exact zm_fr.new (zm_free_inv hF.1).1
        · cases hs
      · cases hs
    · cases hs
  | invokestatic k =>
    simp only [zm_step] at hs
    split at hs
    · split at hs
      · next hF =>
        cases hs
        exact zm_fr.rf
      · cases hs
    · cases hs
  | invokespecial k =>
    simp only [zm_step] at hs
    split at hs
    · split at hs
      · next hF =>
        cases hs
        exact zm_fr.rf
      · cases hs
    · cases hs
  | _ => cases hs
theorem zm_run_fr {C : Nat → List zmV → zmH → zmO → Prop} (hC : ∀ mi as h o, C mi as h o → zm_fr h o.2) {mi : Nat} : ∀ (n pc : Nat) (L : zmL) (st : List zmV) (h : zmH) (o : zmO), zm_Run C mi n pc L st h o → zm_fr h o.2 := by
  intro n
  induction n with
  | zero => intro pc L st h o hr; exact hr.elim
  | succ n ih =>
    intro pc L st h o hr
    unfold zm_Run at hr
    split at hr
    · exact hr.elim
    · split at hr
      · next q hq => exact (zm_step_fr hq).tr (ih _ _ _ _ _ hr)
      · split at hr
        · subst hr; exact zm_fr.rf
        · split at hr
          · obtain ⟨r, h1, h2⟩ := hr
            exact (hC _ _ _ _ h1).tr (ih _ _ _ _ _ h2)
          · exact hr.elim
theorem zm_calls_fr : ∀ (d mi : Nat) (as : List zmV) (h : zmH) (o : zmO), zm_Calls d mi as h o → zm_fr h o.2 := by
  intro d
  induction d with
  | zero => intro mi as h o hr; exact hr.elim
  | succ d ih =>
    intro mi as h o hr
    obtain ⟨-, n, hn⟩ := hr
    exact zm_run_fr ih n _ _ _ _ _ hn
def zt_ws (mi : Nat) : List Cond := .code (zt_name mi) (zt_bytes mi) (zt_maxL mi) (zt_ret mi) :: zt_T
def zm_rm (d nc ns : Nat) : Room := { frames := d, cells := nc, slots := ns, locals := 40 * d }
def zm_or (φ : zmK → Option Nat) (v : Option zmV) (w : Option Value) : Prop := match v with
  | none => w = none
  | some v => ∃ x, w = some x ∧ zm_vr φ v x
def zm_Pc (D : va_G) (φ : zmK → Option Nat) (ws : va_W) (tys : List (ClassId × FieldType)) (h : zmH) (sz : Nat) (av : List Value) : Array Value → State → Prop :=
  va_Pc av (fun U => U.heap.size = sz ∧ va_P D zt_cl ws U.heap ∧ va_K D zt_cl tys U ∧ va_D (fun _ => True) ws ∧ zm_hr φ tys h ws ∧ zm_ro φ (va_A ws sz) U h)
def zm_Qb (D : va_G) (φ : zmK → Option Nat) (B : Nat → Prop) (o : zmO) (oc : Outcome) (t : State) : Prop :=
  ∃ (φ2 : zmK → Option Nat) (ws2 : va_W) (tys2 : List (ClassId × FieldType)) (w : Option Value), zm_le φ φ2 ∧ oc = .returned w ∧ zm_or φ2 o.1 w ∧ va_P D zt_cl ws2 t.heap ∧ va_K D zt_cl tys2 t ∧ va_D B ws2 ∧ zm_hr φ2 tys2 o.2 ws2
def zm_Qc (D : va_G) (φ : zmK → Option Nat) (B : Nat → Prop) (o : zmO) : Array Value → State → Outcome → State → Prop := fun _ st oc t => zm_Qb D φ B o oc t ∧ va_F B st t
def zm_S (d mi : Nat) (as : List zmV) (h : zmH) (o : zmO) : Prop := ∀ (l : Launch) (D : va_G) (φ : zmK → Option Nat) (ws : va_W) (tys : List (ClassId × FieldType)) (av : List Value) (sz : Nat), zm_sr φ as av →
  Met l (zt_name mi) (zt_ws mi) (zm_rm d (o.2.1.1 - h.1.1) (o.2.1.2 - h.1.2)) (zm_Pc D φ ws tys h sz av) (zm_Qc D φ (va_A ws sz) o) (o.2.1.1 - h.1.1) (o.2.1.2 - h.1.2) (va_A ws sz)
theorem zm_tk_inv : ∀ {n : Nat} {st : List zmV} {q : List zmV × List zmV}, zm_tk n st = some q → st = q.1.reverse ++ q.2 ∧ q.1.length = n
  | 0, st, q, h => by
    unfold zm_tk at h
    cases h
    exact ⟨rfl, rfl⟩
  | n + 1, [], q, h => by
    unfold zm_tk at h
    cases h
  | n + 1, v :: st, q, h => by
    unfold zm_tk at h
    simp only [Option.map_eq_some_iff] at h
    obtain ⟨q2, h1, rfl⟩ := h
    obtain ⟨g1, g2⟩ := zm_tk_inv h1
    refine ⟨?_, ?_⟩
    · rw [g1]; simp
    · simp [g2]
section ZMF
variable {p : Program} {l : Launch} {e : Env} {R : Room} {s : State} {m : MethodId} {args : Array Value} {below : List Frame} {meth : Method} {c : Code} {H : Heap} {locs : List Loc} {cells slots : Nat} {Q : State → Prop}
variable {pc mi : Nat} {ls : Array Slot} {rs : List Value} {φ : zmK → Option Nat} {st : List zmV} {L : zmL} {h : zmH} {D : va_G} {A : Nat → Prop}
theorem zm_callG {rest st0 : List Value} {A0 A1 : Nat → Prop} {H0 : Heap} {mc ms : Nat} {free : Addr → Prop} {Qb : Outcome → State → Prop} (hr : va_Run p l e R s m args below meth c H locs cells slots mc ms (F0 m pc ls st0) rest (fun st oc t => Qb oc t ∧ va_F A1 st t) free) (hS : va_S A0 H0 H locs) (hA : ∀ q, q < H.size → A1 q → A0 q) (hf : ∀ q, free q → A0 q)
    (kk : ∀ (v : Option Value) (t : State) (H1 : Heap) (locs1 : List Loc), t.heap = H1 → s.vm.Alike t.vm → Qb (.returned v) t → va_S A0 H0 H1 locs1 → W p l e R s m args below meth c H1 locs1 (cells + mc) (slots + ms) Q (F0 m (pc + 3) ls (v.toList ++ rest))) : W p l e R s m args below meth c H locs cells slots Q (F0 m pc ls st0) := by
  intro T hT X
  obtain ⟨v, st₀, t, T', L, h0, X', hL, e1, e2, ⟨hb, hz, hk⟩, st⟩ := hr T hT X
  rw [h0] at hz hk
  obtain ⟨t2, a1, b1⟩ := kk v t T'.heap (locs ++ L) e1.symm (by rw [← e2]; exact X'.warmed.alike) hb
    ⟨Nat.le_trans hS.1 (by rw [e1]; exact hz), fun q h1 h2 => by rw [e1, hk q (Nat.lt_of_lt_of_le h1 hS.1) (fun z => h2 (hA q (Nat.lt_of_lt_of_le h1 hS.1) z))]; exact hS.2.1 q h1 h2, fun q hq => by
      rcases List.mem_append.mp hq with h | h
      · exact hS.2.2 q h
      · exact hf _ (hL q h)⟩ T' rfl X'
  exact ⟨t2, st t2 a1, b1⟩
theorem zm_goodIn {m2 : Nat} (h : Cond.code (zt_name m2) (zt_bytes m2) (zt_maxL m2) (zt_ret m2) ∈ zt_T) : GoodIn zt_T (zt_ws m2) := by
  intro w hw
  rcases List.mem_cons.mp hw with rfl | hw
  · exact ⟨h, zt_good _ h⟩
  · exact ⟨hw, zt_good _ hw⟩
theorem zm_blind {φ : zmK → Option Nat} {ws : va_W} {tys : List (ClassId × FieldType)} {sz : Nat} {av : List Value} : FrameBlind (zm_Pc D φ ws tys h sz av) := by
  intro a U g mk q
  obtain ⟨q0, q1, qP, qK, qD, qH, qR⟩ := q
  exact ⟨q0, q1, qP, va_K.moved (u := U) (U := U.calling g mk a) (Vm.Alike.refl U.vm) qK, qD, qH, qR.calling g mk a⟩
set_option maxHeartbeats 4000000 in
theorem zm_call_ok {d : Nat} {i : Instr} {q : Nat × List zmV × List zmV} {r : zmO} (X : zm_Cx p s m args meth c A mi) (hI : zm_I D A s mi φ L st h H locs ls rs) (hf : zt_fetch mi pc = some i) (hcall : zm_call mi i st h = some q) (hM : zm_S d q.1 q.2.1 h r) (hfr : zm_fr h r.2)
    (hc : cells + (r.2.1.1 - h.1.1) ≤ R.cells) (hsl : slots + (r.2.1.2 - h.1.2) ≤ R.slots) (hR : d + 1 ≤ R.frames ∧ 40 * (d + 1) ≤ R.locals)
    (kk : ∀ φ2 H2 locs2 rs2, zm_le φ φ2 → zm_I D A s mi φ2 L (r.1.toList ++ q.2.2) r.2 H2 locs2 ls rs2 → W p l e R s m args below meth c H2 locs2 (cells + (r.2.1.1 - h.1.1)) (slots + (r.2.1.2 - h.1.2)) Q (F0 m (pc + 3) ls rs2)) : W p l e R s m args below meth c H locs cells slots Q (F0 m pc ls rs) := by
  obtain ⟨hx, hb, hr, hml, hown, hts, hlocks, hin, hA⟩ := X
  obtain ⟨ws, tys, lv, hK, hP, hD, hS, hH, hro, hl, hL, hlr, hst⟩ := hI
  obtain ⟨len, hdg, hlk⟩ := zt_fetch_ok hf
  obtain ⟨m2, as, rest⟩ := q
  have hB : ∀ q, va_A ws H.size q → A q := fun q hq => by
    rcases hq with ⟨k, e2, hk⟩ | hk
    · exact hD.2 k _ hk
    · exact hA q (Nat.le_trans hS.1 hk)
  have pre : ∀ (av : List Value) (U : State), U.heap = H → s.WarmedH U.vm → zm_Pc D φ ws tys h H.size av av.toArray U := fun av U hU hW => ⟨rfl, by rw [hU], by rw [hU]; exact hP, va_K.moved hW.alike hK, hD.weaken (fun _ _ _ _ => trivial), hH, hro.call hS hB hU hW⟩
  have fin : ∀ (rr : List Value), zm_sr φ rest rr → va_Run p l e R s m args below meth c H locs cells slots (r.2.1.1 - h.1.1) (r.2.1.2 - h.1.2) (F0 m pc ls rs) rr (fun st oc t => zm_Qb D φ (va_A ws H.size) r oc t ∧ va_F (va_A ws H.size) st t) (va_A ws H.size) → W p l e R s m args below meth c H locs cells slots Q (F0 m pc ls rs) := by
    intro rr hrr run
    refine zm_callG run hS (fun q _ hq => hB q hq) hB (fun v t H1 locs1 ht hvm hQ hS1 => ?_)
    obtain ⟨φ2, ws2, tys2, w, hle, hv, hor, hP2, hK2, hD2, hH2⟩ := hQ
    cases hv
    have hP2 : va_P D zt_cl ws2 H1 := by rw [← ht]; exact hP2
    refine kk φ2 H1 locs1 (v.toList ++ rr) hle ⟨ws2, tys2, lv, va_K.moved hvm.symm hK2, hP2, hD2.weaken (fun k q _ hq => hB _ hq), hS1, hH2, hro.keep hle hfr.2.2, hl, hL, hlr.le hle, ?_⟩
    obtain ⟨rv, rh⟩ := r
    cases rv with
    | none =>
      cases (show v = none from hor)
      exact hrr.le hle
    | some rv =>
      obtain ⟨x, rfl, hxv⟩ := hor
      exact ⟨x, rr, rfl, hxv, hrr.le hle⟩
  have cut : ∀ n, zm_tk n st = some (as, rest) → ∃ av rr, rs = av.reverse ++ rr ∧ zm_sr φ as av ∧ zm_sr φ rest rr ∧ av.length = n := by
    intro n hn
    obtain ⟨g1, g2⟩ := zm_tk_inv hn
    rw [g1] at hst
    obtain ⟨r1, r2, e1, h1, h2⟩ := zm_sr.split hst
    refine ⟨r1.reverse, r2, by rw [List.reverse_reverse]; exact e1, ?_, h2, ?_⟩
    · have := h1.rev
      rwa [List.reverse_reverse] at this
    · have := h1.len
      simp at this
      rw [List.length_reverse, ← this]; exact g2
  cases i with
  | invokevirtual k =>
    cases zm_len_of hlk (k := 3) rfl
    simp only [zm_call] at hcall
    split at hcall
    · next m3 n ci hz =>
      split at hcall
      · next q3 hq3 =>
        split at hcall
        · next hF =>
          cases hcall
          obtain ⟨av, rr, rfl, hav, hrr, hlen⟩ := cut n hq3
          obtain ⟨f1, f2, f3, f4, f5, f6, f7, f8, f9, f10⟩ := zt_call_ok0 hz
          have hF1 := hF.1
          unfold zm_recv at hF1
          split at hF1
          · next as0 r0 as1 heq =>
            obtain ⟨wb, av1, rfl, hvb, hav1⟩ := (heq ▸ hav : zm_sr φ (.inr (.inr (some r0)) :: as1) av)
            obtain ⟨b, hb1, rfl⟩ : ∃ a, φ r0 = some a ∧ wb = .ref a := by
              have hF2 := hF1
              unfold zm_isO at hF2
              split at hF2
              · next hg => exact hro.key hg hvb
              · cases hF2
            have hrecv : ∃ cellB : Cell, H[b]? = some cellB ∧ cellB.vm.isStatics = false ∧ s.vm.findClass (zt_name m2).cls = some cellB.cls := by
              unfold zm_isO at hF1
              split at hF1
              · next c0 fs hg =>
                have hc0 : c0 = ci := by simpa using hF1
                subst hc0
                by_cases h8 : 8 ≤ r0.1
                · obtain ⟨j, a, e2, q1, q2, gs, q4, rfl⟩ := hH.1 r0 _ hg h8
                  have hab : b = a := Option.some.inj (hb1.symm.trans q1)
                  subst hab
                  obtain ⟨rc, hrc, -⟩ := hP j _ q2
                  have := va_recv hK hP hrc q2
                  rw [f10 rc hrc]
                  exact this
                · obtain ⟨h99, a, q1, q2, -⟩ := hro.2.2.1 r0 _ _ (by omega) hg
                  have hab : b = a := Option.some.inj (hb1.symm.trans q1)
                  subst hab
                  obtain ⟨cell, k1, k2, k3, -⟩ := q2.kept hS.2.1
                  exact ⟨cell, k1, k2, by rw [f9 h99]; exact k3⟩
              · cases hF1
            have hn1 : av1.length + 1 = n := hlen
            have hwd := zm_words hrr hF.2
            refine fin rr hrr (va_runV (As := av1) (rest := rr) (b := b) (C := (zt_name m2).cls) (n := n - 1) (Ts := zt_T) (own := zt_cls (zt_own mi)) (nL := zt_maxL mi) ⟨hx, hb, hml, hown, hts⟩ (hM l D φ ws tys (.ref b :: av1) H.size (heq ▸ hav)) ⟨callB_of (n - 1) hts (zm_goodIn f2) rfl rfl rfl (hts _ f3) (hts _ f1) ⟨f4.1, f4.2, f5⟩ ⟨hR.1, by show 8 + (zt_maxL m2 + 11) + 40 * d ≤ R.locals; omega⟩, hts _ f7, hts _ f8⟩ ⟨zm_blind, hrecv, fun U hU hW => pre _ U hU hW⟩ rfl (by omega) hl.1 (by simp) (lv_room hwd) hdg ⟨hc, hsl⟩)
          · cases hF1
        · cases hcall
      · cases hcall
    · cases hcall
  | invokespecial k =>
    cases zm_len_of hlk (k := 3) rfl
    simp only [zm_call] at hcall
    split at hcall
    · next m3 n ci hz =>
      split at hcall
      · next q3 hq3 =>
        split at hcall
        · next hF =>
          cases hcall
          obtain ⟨av, rr, rfl, hav, hrr, hlen⟩ := cut n hq3
          obtain ⟨f1, f2, f3, f4, f5, f6, f7, f8, f9⟩ := zt_call_ok1 hz
          have hF1 := hF.1
          unfold zm_nn at hF1
          split at hF1
          · next as0 r0 as1 heq =>
            obtain ⟨wb, av1, rfl, hvb, hav1⟩ := (heq ▸ hav : zm_sr φ (.inr (.inr (some r0)) :: as1) av)
            obtain ⟨b, hb1, rfl⟩ := zm_vr_n7 hvb (by have : 8 ≤ r0.1 := by simpa using hF1
                                                     omega)
            have hn1 : av1.length + 1 = n := hlen
            have hwd := zm_words hrr hF.2
            have hfin : 8 + (zt_maxL m2 + 11) + 40 * d ≤ R.locals := by omega
            rcases f1 with f1 | ⟨host, f1⟩
            rotate_left
            · exact fin rr hrr (va_runIN (As := av1) (rest := rr) (b := b) (n := n - 1) (Ts := zt_T) (own := zt_cls (zt_own mi)) (nL := zt_maxL mi) (bytes := zt_bytes m2) (maxL := zt_maxL m2) (host := host) ⟨hx, hb, hml, hown, hts⟩ (hM l D φ ws tys (.ref b :: av1) H.size (heq ▸ hav)) ⟨va_cnB (n - 1) hts (zm_goodIn f2) (show zt_ws m2 = Cond.code (zt_name m2) (zt_bytes m2) (zt_maxL m2) none :: zt_T from by unfold zt_ws; rw [f9]) rfl rfl (hro.2.2.2.2.2.2.1 _ f1) (hts _ f3) ⟨f4.1, f4.2, f5⟩ ⟨hR.1, hfin⟩, f8, hts _ f7⟩ ⟨zm_blind, fun U hU hW => pre _ U hU hW⟩ rfl (by omega) hl.1 (by simp) (lv_room hwd) hdg ⟨hc, hsl⟩)
            refine fin rr hrr (va_runI (As := av1) (rest := rr) (b := b) (n := n - 1) (Ts := zt_T) (own := zt_cls (zt_own mi)) (nL := zt_maxL mi) (bytes := zt_bytes m2) (maxL := zt_maxL m2) ⟨hx, hb, hml, hown, hts⟩ (hM l D φ ws tys (.ref b :: av1) H.size (heq ▸ hav)) ⟨callB_of (n - 1) hts (zm_goodIn f2) (show zt_ws m2 = Cond.code (zt_name m2) (zt_bytes m2) (zt_maxL m2) none :: zt_T from by unfold zt_ws; rw [f9]) rfl rfl (hts _ f3) (hts _ f1) ⟨f4.1, f4.2, f5⟩ ⟨hR.1, by show 8 + (zt_maxL m2 + 11) + 40 * d ≤ R.locals; omega⟩, f8, hts _ f7⟩ ⟨zm_blind, fun U hU hW => pre _ U hU hW⟩ rfl (by omega) hl.1 (by simp) (lv_room hwd) hdg ⟨hc, hsl⟩)
          · cases hF1
        · cases hcall
      · cases hcall
    · cases hcall
  | invokestatic k =>
    cases zm_len_of hlk (k := 3) rfl
    simp only [zm_call] at hcall
    split at hcall
    · next m3 n ci hz =>
      split at hcall
      · next q3 hq3 =>
        split at hcall
        · next hF =>
          cases hcall
          obtain ⟨av, rr, rfl, hav, hrr, hlen⟩ := cut n hq3
          obtain ⟨f1, f2, f3, f4, f5, f6, f7⟩ := zt_call_ok2 hz
          have hwd := zm_words hrr hF
          refine fin rr hrr (va_runS (As := av) (rest := rr) (n := n) (Ts := zt_T) (own := zt_cls (zt_own mi)) (nL := zt_maxL mi) ⟨hx, hb, hml, hown, hts⟩ (hM l D φ ws tys av H.size hav) ⟨callB_of n hts (zm_goodIn f2) rfl rfl rfl (hts _ f3) (hts _ f1) ⟨f4.1, f4.2, f5⟩ ⟨hR.1, by show 8 + (zt_maxL m2 + 11) + 40 * d ≤ R.locals; omega⟩, hts _ f7⟩ ⟨zm_blind, fun U hU hW => pre _ U hU hW⟩ rfl hlen hl.1 rfl (lv_room hwd) hdg ⟨hc, hsl⟩)
        · cases hcall
      · cases hcall
    · cases hcall
  | _ => cases hcall
end ZMF
