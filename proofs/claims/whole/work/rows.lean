section
def lw_okq (q : MethodName × Nat) : Prop := (q.1.cls ≠ "java/lang/invoke/MethodHandle" ∧ q.1.cls ≠ "java/lang/invoke/VarHandle") ∧ Cond.instantiable q.1.cls q.2 ∈ tables_1 ∧ Cond.privateMethod q.1 ∈ tables_1 ∧ Cond.instanceMethod q.1 ∈ tables_1
theorem lw_p0 : lw_okq (⟨"BumpNotes", "packAt", "(I)LBumpNotes$Pack;"⟩, 12) := ⟨⟨by decide +kernel, by decide +kernel⟩, List.mem_of_getElem? (i := 17) (by decide +kernel), List.mem_of_getElem? (i := 192) (by decide +kernel), List.mem_of_getElem? (i := 193) (by decide +kernel)⟩
theorem lw_p1 : lw_okq (⟨"BumpNotes", "addChange", "(I)I"⟩, 12) := ⟨⟨by decide +kernel, by decide +kernel⟩, List.mem_of_getElem? (i := 17) (by decide +kernel), List.mem_of_getElem? (i := 226) (by decide +kernel), List.mem_of_getElem? (i := 227) (by decide +kernel)⟩
theorem lw_p2 : lw_okq (⟨"BumpNotes", "changeAt", "(I)LBumpNotes$Change;"⟩, 12) := ⟨⟨by decide +kernel, by decide +kernel⟩, List.mem_of_getElem? (i := 17) (by decide +kernel), List.mem_of_getElem? (i := 362) (by decide +kernel), List.mem_of_getElem? (i := 363) (by decide +kernel)⟩
theorem lw_p3 : lw_okq (⟨"BumpNotes", "addReverting", "(LBumpNotes$Change;)I"⟩, 12) := ⟨⟨by decide +kernel, by decide +kernel⟩, List.mem_of_getElem? (i := 17) (by decide +kernel), List.mem_of_getElem? (i := 366) (by decide +kernel), List.mem_of_getElem? (i := 367) (by decide +kernel)⟩
theorem lw_p4 : lw_okq (⟨"BumpNotes", "bumpByChanges", "()V"⟩, 12) := ⟨⟨by decide +kernel, by decide +kernel⟩, List.mem_of_getElem? (i := 17) (by decide +kernel), List.mem_of_getElem? (i := 395) (by decide +kernel), List.mem_of_getElem? (i := 396) (by decide +kernel)⟩
theorem lw_p5 : lw_okq (⟨"BumpNotes", "greatestPendingWeight", "(I)I"⟩, 12) := ⟨⟨by decide +kernel, by decide +kernel⟩, List.mem_of_getElem? (i := 17) (by decide +kernel), List.mem_of_getElem? (i := 407) (by decide +kernel), List.mem_of_getElem? (i := 408) (by decide +kernel)⟩
theorem lw_p6 : lw_okq (⟨"BumpNotes$Pack", "beginRow", "()V"⟩, 9) := ⟨⟨by decide +kernel, by decide +kernel⟩, List.mem_of_getElem? (i := 124) (by decide +kernel), List.mem_of_getElem? (i := 415) (by decide +kernel), List.mem_of_getElem? (i := 416) (by decide +kernel)⟩
theorem lw_p7 : lw_okq (⟨"BumpNotes", "bumpByNeeds", "()V"⟩, 12) := ⟨⟨by decide +kernel, by decide +kernel⟩, List.mem_of_getElem? (i := 17) (by decide +kernel), List.mem_of_getElem? (i := 424) (by decide +kernel), List.mem_of_getElem? (i := 425) (by decide +kernel)⟩
theorem lw_p8 : lw_okq (⟨"BumpNotes", "carryOnce", "()Z"⟩, 12) := ⟨⟨by decide +kernel, by decide +kernel⟩, List.mem_of_getElem? (i := 17) (by decide +kernel), List.mem_of_getElem? (i := 428) (by decide +kernel), List.mem_of_getElem? (i := 429) (by decide +kernel)⟩
theorem lw_p9 : lw_okq (⟨"BumpNotes", "hasBrokenNeed", "(LBumpNotes$Pack;)Z"⟩, 12) := ⟨⟨by decide +kernel, by decide +kernel⟩, List.mem_of_getElem? (i := 17) (by decide +kernel), List.mem_of_getElem? (i := 432) (by decide +kernel), List.mem_of_getElem? (i := 433) (by decide +kernel)⟩
theorem lw_p10 : lw_okq (⟨"BumpNotes", "releaseChanges", "()V"⟩, 12) := ⟨⟨by decide +kernel, by decide +kernel⟩, List.mem_of_getElem? (i := 17) (by decide +kernel), List.mem_of_getElem? (i := 452) (by decide +kernel), List.mem_of_getElem? (i := 453) (by decide +kernel)⟩
theorem lw_p11 : lw_okq (⟨"BumpNotes", "writeNotes", "()V"⟩, 12) := ⟨⟨by decide +kernel, by decide +kernel⟩, List.mem_of_getElem? (i := 17) (by decide +kernel), List.mem_of_getElem? (i := 456) (by decide +kernel), List.mem_of_getElem? (i := 457) (by decide +kernel)⟩
theorem lw_p12 : lw_okq (⟨"BumpNotes", "writeNotesOf", "(I)V"⟩, 12) := ⟨⟨by decide +kernel, by decide +kernel⟩, List.mem_of_getElem? (i := 17) (by decide +kernel), List.mem_of_getElem? (i := 464) (by decide +kernel), List.mem_of_getElem? (i := 465) (by decide +kernel)⟩
theorem lw_p13 : lw_okq (⟨"BumpNotes", "tellBreaks", "()V"⟩, 12) := ⟨⟨by decide +kernel, by decide +kernel⟩, List.mem_of_getElem? (i := 17) (by decide +kernel), List.mem_of_getElem? (i := 480) (by decide +kernel), List.mem_of_getElem? (i := 481) (by decide +kernel)⟩
theorem lw_p14 : lw_okq (⟨"BumpNotes", "countBumped", "()I"⟩, 12) := ⟨⟨by decide +kernel, by decide +kernel⟩, List.mem_of_getElem? (i := 17) (by decide +kernel), List.mem_of_getElem? (i := 484) (by decide +kernel), List.mem_of_getElem? (i := 485) (by decide +kernel)⟩
theorem lw_p15 : lw_okq (⟨"BumpNotes", "isTagged", "(LBumpNotes$Pack;)Z"⟩, 12) := ⟨⟨by decide +kernel, by decide +kernel⟩, List.mem_of_getElem? (i := 17) (by decide +kernel), List.mem_of_getElem? (i := 524) (by decide +kernel), List.mem_of_getElem? (i := 525) (by decide +kernel)⟩
def lw_privs_1 : List (MethodName × Nat) := [(⟨"BumpNotes", "packAt", "(I)LBumpNotes$Pack;"⟩, 12), (⟨"BumpNotes", "addChange", "(I)I"⟩, 12), (⟨"BumpNotes", "changeAt", "(I)LBumpNotes$Change;"⟩, 12), (⟨"BumpNotes", "addReverting", "(LBumpNotes$Change;)I"⟩, 12), (⟨"BumpNotes", "bumpByChanges", "()V"⟩, 12), (⟨"BumpNotes", "greatestPendingWeight", "(I)I"⟩, 12), (⟨"BumpNotes$Pack", "beginRow", "()V"⟩, 9), (⟨"BumpNotes", "bumpByNeeds", "()V"⟩, 12), (⟨"BumpNotes", "carryOnce", "()Z"⟩, 12), (⟨"BumpNotes", "hasBrokenNeed", "(LBumpNotes$Pack;)Z"⟩, 12), (⟨"BumpNotes", "releaseChanges", "()V"⟩, 12), (⟨"BumpNotes", "writeNotes", "()V"⟩, 12), (⟨"BumpNotes", "writeNotesOf", "(I)V"⟩, 12), (⟨"BumpNotes", "tellBreaks", "()V"⟩, 12), (⟨"BumpNotes", "countBumped", "()I"⟩, 12), (⟨"BumpNotes", "isTagged", "(LBumpNotes$Pack;)Z"⟩, 12)]
theorem lw_r1 : ∀ q ∈ lw_privs_1, lw_okq q := List.forall_mem_cons.mpr ⟨lw_p0, List.forall_mem_cons.mpr ⟨lw_p1, List.forall_mem_cons.mpr ⟨lw_p2, List.forall_mem_cons.mpr ⟨lw_p3, List.forall_mem_cons.mpr ⟨lw_p4, List.forall_mem_cons.mpr ⟨lw_p5, List.forall_mem_cons.mpr ⟨lw_p6, List.forall_mem_cons.mpr ⟨lw_p7, List.forall_mem_cons.mpr ⟨lw_p8, List.forall_mem_cons.mpr ⟨lw_p9, List.forall_mem_cons.mpr ⟨lw_p10, List.forall_mem_cons.mpr ⟨lw_p11, List.forall_mem_cons.mpr ⟨lw_p12, List.forall_mem_cons.mpr ⟨lw_p13, List.forall_mem_cons.mpr ⟨lw_p14, List.forall_mem_cons.mpr ⟨lw_p15, fun _ h => absurd h List.not_mem_nil⟩⟩⟩⟩⟩⟩⟩⟩⟩⟩⟩⟩⟩⟩⟩⟩
theorem lw_p16 : lw_okq (⟨"BumpNotesModel", "isPack", "(I)Z"⟩, 32) := ⟨⟨by decide +kernel, by decide +kernel⟩, List.mem_of_getElem? (i := 548) (by decide +kernel), List.mem_of_getElem? (i := 663) (by decide +kernel), List.mem_of_getElem? (i := 664) (by decide +kernel)⟩
theorem lw_p17 : lw_okq (⟨"BumpNotesModel", "find", "()V"⟩, 32) := ⟨⟨by decide +kernel, by decide +kernel⟩, List.mem_of_getElem? (i := 548) (by decide +kernel), List.mem_of_getElem? (i := 695) (by decide +kernel), List.mem_of_getElem? (i := 696) (by decide +kernel)⟩
theorem lw_p18 : lw_okq (⟨"BumpNotesModel", "letters", "(I)I"⟩, 32) := ⟨⟨by decide +kernel, by decide +kernel⟩, List.mem_of_getElem? (i := 548) (by decide +kernel), List.mem_of_getElem? (i := 699) (by decide +kernel), List.mem_of_getElem? (i := 700) (by decide +kernel)⟩
theorem lw_p19 : lw_okq (⟨"BumpNotesModel", "signAt", "(I)I"⟩, 32) := ⟨⟨by decide +kernel, by decide +kernel⟩, List.mem_of_getElem? (i := 548) (by decide +kernel), List.mem_of_getElem? (i := 703) (by decide +kernel), List.mem_of_getElem? (i := 704) (by decide +kernel)⟩
theorem lw_p20 : lw_okq (⟨"BumpNotesModel", "kindOf", "(I)I"⟩, 32) := ⟨⟨by decide +kernel, by decide +kernel⟩, List.mem_of_getElem? (i := 548) (by decide +kernel), List.mem_of_getElem? (i := 707) (by decide +kernel), List.mem_of_getElem? (i := 708) (by decide +kernel)⟩
theorem lw_p21 : lw_okq (⟨"BumpNotesModel", "endsBreaking", "(I)Z"⟩, 32) := ⟨⟨by decide +kernel, by decide +kernel⟩, List.mem_of_getElem? (i := 548) (by decide +kernel), List.mem_of_getElem? (i := 718) (by decide +kernel), List.mem_of_getElem? (i := 719) (by decide +kernel)⟩
theorem lw_p22 : lw_okq (⟨"BumpNotesModel", "add", "(I)I"⟩, 32) := ⟨⟨by decide +kernel, by decide +kernel⟩, List.mem_of_getElem? (i := 548) (by decide +kernel), List.mem_of_getElem? (i := 723) (by decide +kernel), List.mem_of_getElem? (i := 724) (by decide +kernel)⟩
theorem lw_p23 : lw_okq (⟨"BumpNotesModel", "isChange", "(I)Z"⟩, 32) := ⟨⟨by decide +kernel, by decide +kernel⟩, List.mem_of_getElem? (i := 548) (by decide +kernel), List.mem_of_getElem? (i := 731) (by decide +kernel), List.mem_of_getElem? (i := 732) (by decide +kernel)⟩
theorem lw_p24 : lw_okq (⟨"BumpNotesModel", "isOpen", "(I)Z"⟩, 32) := ⟨⟨by decide +kernel, by decide +kernel⟩, List.mem_of_getElem? (i := 548) (by decide +kernel), List.mem_of_getElem? (i := 739) (by decide +kernel), List.mem_of_getElem? (i := 740) (by decide +kernel)⟩
theorem lw_p25 : lw_okq (⟨"BumpNotesModel", "findBumps", "()V"⟩, 32) := ⟨⟨by decide +kernel, by decide +kernel⟩, List.mem_of_getElem? (i := 548) (by decide +kernel), List.mem_of_getElem? (i := 751) (by decide +kernel), List.mem_of_getElem? (i := 752) (by decide +kernel)⟩
theorem lw_p26 : lw_okq (⟨"BumpNotesModel", "stays", "(II)Z"⟩, 32) := ⟨⟨by decide +kernel, by decide +kernel⟩, List.mem_of_getElem? (i := 548) (by decide +kernel), List.mem_of_getElem? (i := 755) (by decide +kernel), List.mem_of_getElem? (i := 756) (by decide +kernel)⟩
theorem lw_p27 : lw_okq (⟨"BumpNotesModel", "reckon", "(I)V"⟩, 32) := ⟨⟨by decide +kernel, by decide +kernel⟩, List.mem_of_getElem? (i := 548) (by decide +kernel), List.mem_of_getElem? (i := 759) (by decide +kernel), List.mem_of_getElem? (i := 760) (by decide +kernel)⟩
theorem lw_p28 : lw_okq (⟨"BumpNotesModel", "raise", "([IIII)V"⟩, 32) := ⟨⟨by decide +kernel, by decide +kernel⟩, List.mem_of_getElem? (i := 548) (by decide +kernel), List.mem_of_getElem? (i := 763) (by decide +kernel), List.mem_of_getElem? (i := 764) (by decide +kernel)⟩
theorem lw_p29 : lw_okq (⟨"BumpNotesModel", "become", "(I)V"⟩, 32) := ⟨⟨by decide +kernel, by decide +kernel⟩, List.mem_of_getElem? (i := 548) (by decide +kernel), List.mem_of_getElem? (i := 767) (by decide +kernel), List.mem_of_getElem? (i := 768) (by decide +kernel)⟩
theorem lw_p30 : lw_okq (⟨"BumpNotesModel", "gather", "(II)V"⟩, 32) := ⟨⟨by decide +kernel, by decide +kernel⟩, List.mem_of_getElem? (i := 548) (by decide +kernel), List.mem_of_getElem? (i := 771) (by decide +kernel), List.mem_of_getElem? (i := 772) (by decide +kernel)⟩
theorem lw_p31 : lw_okq (⟨"BumpNotesModel", "group", "(I)I"⟩, 32) := ⟨⟨by decide +kernel, by decide +kernel⟩, List.mem_of_getElem? (i := 548) (by decide +kernel), List.mem_of_getElem? (i := 775) (by decide +kernel), List.mem_of_getElem? (i := 776) (by decide +kernel)⟩
def lw_privs_2 : List (MethodName × Nat) := [(⟨"BumpNotesModel", "isPack", "(I)Z"⟩, 32), (⟨"BumpNotesModel", "find", "()V"⟩, 32), (⟨"BumpNotesModel", "letters", "(I)I"⟩, 32), (⟨"BumpNotesModel", "signAt", "(I)I"⟩, 32), (⟨"BumpNotesModel", "kindOf", "(I)I"⟩, 32), (⟨"BumpNotesModel", "endsBreaking", "(I)Z"⟩, 32), (⟨"BumpNotesModel", "add", "(I)I"⟩, 32), (⟨"BumpNotesModel", "isChange", "(I)Z"⟩, 32), (⟨"BumpNotesModel", "isOpen", "(I)Z"⟩, 32), (⟨"BumpNotesModel", "findBumps", "()V"⟩, 32), (⟨"BumpNotesModel", "stays", "(II)Z"⟩, 32), (⟨"BumpNotesModel", "reckon", "(I)V"⟩, 32), (⟨"BumpNotesModel", "raise", "([IIII)V"⟩, 32), (⟨"BumpNotesModel", "become", "(I)V"⟩, 32), (⟨"BumpNotesModel", "gather", "(II)V"⟩, 32), (⟨"BumpNotesModel", "group", "(I)I"⟩, 32)]
theorem lw_r2 : ∀ q ∈ lw_privs_2, lw_okq q := List.forall_mem_cons.mpr ⟨lw_p16, List.forall_mem_cons.mpr ⟨lw_p17, List.forall_mem_cons.mpr ⟨lw_p18, List.forall_mem_cons.mpr ⟨lw_p19, List.forall_mem_cons.mpr ⟨lw_p20, List.forall_mem_cons.mpr ⟨lw_p21, List.forall_mem_cons.mpr ⟨lw_p22, List.forall_mem_cons.mpr ⟨lw_p23, List.forall_mem_cons.mpr ⟨lw_p24, List.forall_mem_cons.mpr ⟨lw_p25, List.forall_mem_cons.mpr ⟨lw_p26, List.forall_mem_cons.mpr ⟨lw_p27, List.forall_mem_cons.mpr ⟨lw_p28, List.forall_mem_cons.mpr ⟨lw_p29, List.forall_mem_cons.mpr ⟨lw_p30, List.forall_mem_cons.mpr ⟨lw_p31, fun _ h => absurd h List.not_mem_nil⟩⟩⟩⟩⟩⟩⟩⟩⟩⟩⟩⟩⟩⟩⟩⟩
def lw_privs : List (MethodName × Nat) := lw_privs_1 ++ (lw_privs_2)
def lw_tbl : List Cond := k2_sels lw_privs ++ tables_1
theorem lw_privs_ok : ∀ q ∈ lw_privs, lw_okq q := by
  show ∀ q ∈ lw_privs_1 ++ (lw_privs_2), lw_okq q
  exact List.forall_mem_append.mpr ⟨lw_r1, lw_r2⟩
def R_law : String := "BumpNotesLaw"
def lw_P (b : Addr) (xs : List Int32) (args : Array Value) (s : State) : Prop := args = #[.ref b] ∧ s.IntsAt b xs ∧ xs.length ≤ 2048 ∧ (Jvm.Cond.and given_1 narrow_1).before args s = true
def lw_Q (_ : Array Value) (s : State) (o : Outcome) (t : State) : Prop := o = .returned (some (.int 1)) ∧ Framed s o t [] 600000 7302250
def lw_Z (below : List Frame) (a : Array Value) (s : State) : State → Prop := fun t => ∃ o, t.status = .running ∧ Ended t below o ∧ lw_Q a s o t
theorem lw_ret {p : Program} {l : Launch} {e : Env} {s : State} {m : MethodId} {below : List Frame} {meth : Method} {c : Code} {b : Nat} (hx : p.tables.exec = Jvm.exec) (hb : c.code = code) (hr : meth.sig.returnType = ret) (hlocks : meth.locks = false) {pc : Nat} {H : Heap} {ls : Array Slot} (hdg : decode code pc = .ok (.ireturn, 1)) : W p l e room_1 s m #[Value.ref b] below meth c H [] 600000 7302250 (lw_Z below #[Value.ref b] s) (F0 m pc ls [.int 1]) := by
  intro T hT X
  obtain ⟨fs, hret, hrun, hended, hW, hframe⟩ := X.leave (v := some (.int 1)) (hlocks := hlocks) (fun h => by rw [hr] at h; cases h)
  have hmeth' : T.vm.method? m = some meth := X.method'
  refine ⟨T.setFrames fs, ?_, .returned (some (.int 1)), hrun, hended, rfl, ⟨_, rfl⟩, hW, hframe⟩
  jvm_step X.here [X.here.top, hx, hb, hdg, hmeth', hr, ret, narrow_b1]
  (try refine ⟨rfl, ?_⟩); (try refine ⟨rfl, ?_⟩)
  first | (intro acts; rw [hret _ acts rfl rfl rfl]) | rw [hret _ _ rfl rfl rfl]
  exact Steps.refl _
def lw_At (p : Program) (s : State) (m : MethodId) (meth : Method) (c : Code) (b L : Nat) (xs : Nat → Int32) : Prop :=
  p.tables.exec = Jvm.exec ∧ c.code = code ∧ meth.sig.returnType = ret ∧ c.maxLocals = 4 ∧ s.vm.findClass R_law = some m.cls ∧ (∀ w ∈ lw_tbl, w.before #[Value.ref b] s = true) ∧ va_X b L xs s s.heap ∧ b < s.heap.size ∧ meth.locks = false ∧ (Jvm.Cond.and given_1 narrow_1).before #[Value.ref b] s = true
end
section
abbrev zmK : Type := Nat × Nat
abbrev zmV : Type := Int32 ⊕ (Int64 ⊕ Option zmK)
abbrev zmA : Type := Nat × ((Nat → Int32) ⊕ (Nat → Option zmK))
abbrev zmC : Type := (FieldType × zmA) ⊕ (Nat × List zmV)
abbrev zmH : Type := (Nat × Nat) × (Nat → Nat) × (zmK → Option zmC)
abbrev zmL : Type := List (Option zmV)
abbrev zmO : Type := Option zmV × zmH
def zm_get (h : zmH) (k : zmK) : Option zmC := h.2.2 k
def zm_set (h : zmH) (k : zmK) (c : zmC) : zmH := (h.1, h.2.1, fun k' => if k' = k then some c else h.2.2 k')
def zm_new (h : zmH) (s : Nat) (c : zmC) (sl : Nat) : zmH := ((h.1.1 + 1, h.1.2 + sl), (fun s' => if s' = s then h.2.1 s + 1 else h.2.1 s'), fun k' => if k' = (s, h.2.1 s) then some c else h.2.2 k')
def zm_kd (v : zmV) : Nat := match v with
  | .inl _ => 0
  | .inr (.inl _) => 1
  | .inr (.inr _) => 2
def zm_fit (ty : FieldType) (v : zmV) : Bool := match ty, v with
  | .int, .inl _ => true
  | .boolean, .inl x => x == 0 || x == 1
  | .char, .inl x => decide (0 ≤ x) && decide (x ≤ 65535)
  | .byte, .inl x => x.toInt8.toInt32 == x
  | .object _, .inr (.inr _) => true
  | .array _, .inr (.inr _) => true
  | _, _ => false
def zm_dflt (ty : FieldType) : zmV := match ty with
  | .object _ => .inr (.inr none)
  | .array _ => .inr (.inr none)
  | .long => .inr (.inl 0)
  | _ => .inl 0
def zm_isF (h : zmH) (r : zmK) (ci k : Nat) : Bool := match zm_get h r with
  | some (.inr (c, fs)) => c == ci && decide (k < fs.length)
  | _ => false
def zm_getF (h : zmH) (r : zmK) (k : Nat) : zmV := match zm_get h r with
  | some (.inr (_, fs)) => fs.getD k (.inl 0)
  | _ => .inl 0
def zm_putF (h : zmH) (r : zmK) (k : Nat) (v : zmV) : zmH := match zm_get h r with
  | some (.inr (c, fs)) => zm_set h r (.inr (c, fs.set k v))
  | _ => h
def zm_inI (h : zmH) (r : zmK) (ty : FieldType) (i : Int32) : Bool := match zm_get h r with
  | some (.inl (t, n, .inl _)) => decide (t = ty) && decide (¬ (i < 0 ∨ n ≤ i.toNatClampNeg)) && decide (n < 2147483648)
  | _ => false
def zm_ldI (h : zmH) (r : zmK) (i : Int32) : Int32 := match zm_get h r with
  | some (.inl (_, _, .inl f)) => f i.toNatClampNeg
  | _ => 0
def zm_stI (h : zmH) (r : zmK) (i x : Int32) : zmH := match zm_get h r with
  | some (.inl (t, n, .inl f)) => zm_set h r (.inl (t, n, .inl (upd f i.toNatClampNeg x)))
  | _ => h
def zm_inQ (h : zmH) (r : zmK) (i : Int32) : Bool := match zm_get h r with
  | some (.inl (.object _, n, .inr _)) => decide (¬ (i < 0 ∨ n ≤ i.toNatClampNeg)) && decide (n < 2147483648)
  | _ => false
def zm_ldQ (h : zmH) (r : zmK) (i : Int32) : Option zmK := match zm_get h r with
  | some (.inl (_, _, .inr f)) => f i.toNatClampNeg
  | _ => none
def zm_stQ (h : zmH) (r : zmK) (i : Int32) (x : zmK) : zmH := match zm_get h r with
  | some (.inl (t, n, .inr f)) => zm_set h r (.inl (t, n, .inr (va_up f i.toNatClampNeg (some x))))
  | _ => h
def zm_isA (h : zmH) (r : zmK) : Bool := match zm_get h r with
  | some (.inl _) => true
  | _ => false
def zm_len (h : zmH) (r : zmK) : Int32 := match zm_get h r with
  | some (.inl (_, n, _)) => Int32.ofNat n
  | _ => 0
def zm_okQ (cn : Nat → String) (h : zmH) (r x : zmK) : Bool := match zm_get h r, zm_get h x with
  | some (.inl (.object C, _, .inr _)), some (.inr (c, _)) => decide (cn c = C)
  | _, _ => false
def zm_ii (f : Int32 → Int32 → Int32) (st : List zmV) : Option (List zmV) := match st with
  | .inl y :: .inl x :: r => some (.inl (f x y) :: r)
  | _ => none
def zm_i1 (f : Int32 → zmV) (st : List zmV) : Option (List zmV) := match st with
  | .inl x :: r => some (f x :: r)
  | _ => none
def zm_l1 (f : Int64 → zmV) (st : List zmV) : Option (List zmV) := match st with
  | .inr (.inl x) :: r => some (f x :: r)
  | _ => none
def zm_ll (f : Int64 → Int64 → zmV) (st : List zmV) : Option (List zmV) := match st with
  | .inr (.inl y) :: .inr (.inl x) :: r => some (f x y :: r)
  | _ => none
def zm_li (f : Int64 → Int32 → Int64) (st : List zmV) : Option (List zmV) := match st with
  | .inl y :: .inr (.inl x) :: r => some (.inr (.inl (f x y)) :: r)
  | _ => none
def zm_one (v : zmV) : Bool := match v with
  | .inr (.inl _) => false
  | _ => true
def zm_dup (st : List zmV) : Option (List zmV) := match st with
  | .inl x :: r => some (.inl x :: .inl x :: r)
  | .inr (.inr x) :: r => some (.inr (.inr x) :: .inr (.inr x) :: r)
  | _ => none
def zm_pop (st : List zmV) : Option (List zmV) := match st with
  | .inl _ :: r => some r
  | .inr (.inr _) :: r => some r
  | _ => none
def zm_alu (i : Instr) (st : List zmV) : Option (List zmV) := match i with
  | .iadd => zm_ii (fun x y => x + y) st
  | .isub => zm_ii (fun x y => x - y) st
  | .imul => zm_ii (fun x y => x * y) st
  | .iand => zm_ii (fun x y => x &&& y) st
  | .ior => zm_ii (fun x y => x ||| y) st
  | .ixor => zm_ii (fun x y => x ^^^ y) st
  | .ishl => zm_ii (fun x y => x <<< (y &&& 31)) st
  | .ishr => zm_ii (fun x y => x >>> (y &&& 31)) st
  | .iushr => zm_ii (fun x y => (x.toUInt32 >>> (y.toUInt32 &&& Int32.toUInt32 31)).toInt32) st
  | .ineg => zm_i1 (fun x => .inl (-x)) st
  | .i2l => zm_i1 (fun x => .inr (.inl x.toInt64)) st
  | .i2c => zm_i1 (fun x => .inl (x.toUInt32 % 65536).toInt32) st
  | .i2b => zm_i1 (fun x => .inl x.toInt8.toInt32) st
  | .l2i => zm_l1 (fun x => .inl x.toInt32) st
  | .ladd => zm_ll (fun x y => .inr (.inl (x + y))) st
  | .lmul => zm_ll (fun x y => .inr (.inl (x * y))) st
  | .land => zm_ll (fun x y => .inr (.inl (x &&& y))) st
  | .lor => zm_ll (fun x y => .inr (.inl (x ||| y))) st
  | .lcmp => zm_ll (fun x y => .inl (lg_cmp x y)) st
  | .lshl => zm_li (fun x y => x <<< (y.toInt64 &&& 63)) st
  | .lushr => zm_li (fun x y => (x.toUInt64 >>> (y.toInt64.toUInt64 &&& Int64.toUInt64 63)).toInt64) st
  | .aconst_null => some (.inr (.inr none) :: st)
  | .iconst n => some (.inl (Int32.ofInt n) :: st)
  | .lconst n => some (.inr (.inl (Int64.ofNat n)) :: st)
  | .dup => zm_dup st
  | .pop => zm_pop st
  | _ => none
def zm_ld (L : zmL) (n kd : Nat) : Option zmV := match L[n]? with
  | some (some v) => if zm_kd v = kd then some v else none
  | _ => none
def zm_no2 (ls : List Nat) (n : Nat) : Bool := match n with
  | 0 => true
  | k + 1 => !ls.contains k
def zm_sto (ls : List Nat) (L : zmL) (n kd : Nat) (st : List zmV) : Option (zmL × List zmV) := match st with
  | v :: r => if zm_kd v = kd ∧ n < L.length ∧ zm_no2 ls n = true then some (L.set n (some v), r) else none
  | _ => none
def zm_stoL (ls : List Nat) (L : zmL) (n : Nat) (st : List zmV) : Option (zmL × List zmV) := match st with
  | .inr (.inl x) :: r => if n + 1 < L.length ∧ zm_no2 ls n = true ∧ ls.contains n = true then some ((L.set n (some (.inr (.inl x)))).set (n + 1) none, r) else none
  | _ => none
def zm_inc (ls : List Nat) (L : zmL) (n : Nat) (d : Int) : Option zmL := match L[n]? with
  | some (some (.inl x)) => if zm_no2 ls n = true then some (L.set n (some (.inl (x + Int32.ofInt d)))) else none
  | _ => none
def zm_tgt (pc : Nat) (off : Int) : Option Nat := match (pc : Int) + off with
  | .ofNat t => some t
  | _ => none
def zm_cmp (c : ClassFile.Cond) (x y : Int32) : Bool := match c with
  | .eq => decide (x = y)
  | .ne => decide (¬ x = y)
  | .lt => decide (x < y)
  | .ge => decide (y ≤ x)
  | .gt => decide (y < x)
  | .le => decide (x ≤ y)
def zm_isO (h : zmH) (r : zmK) (ci : Nat) : Bool := match zm_get h r with
  | some (.inr (c, _)) => c == ci
  | _ => false
def zm_nn (as : List zmV) : Bool := match as with
  | .inr (.inr (some r)) :: _ => decide (8 ≤ r.1)
  | _ => false
def zm_n7 (q : Option zmK) : Bool := match q with
  | some k => decide (k.1 ≠ 7)
  | none => true
def zm_tyOk (ty : FieldType) : Bool := match ty with
  | .float => false
  | .double => false
  | _ => true
def zm_il (i : Instr) : Option Nat := match i with
  | .iload _ => some 2
  | .lload _ => some 2
  | .aload _ => some 2
  | .istore _ => some 2
  | .astore _ => some 2
  | .lstore _ => some 2
  | .iinc _ _ => some 3
  | .bipush _ => some 2
  | .sipush _ => some 3
  | .ldc _ => some 2
  | .ldc2_w _ => some 3
  | .goto _ => some 3
  | .ifCond _ _ => some 3
  | .if_icmp _ _ => some 3
  | .ifnull _ => some 3
  | .ifnonnull _ => some 3
  | .tableswitch _ _ _ _ => none
  | .getfield _ => some 3
  | .putfield _ => some 3
  | .getstatic _ => some 3
  | .new _ => some 3
  | .newarray _ => some 2
  | .anewarray _ => some 3
  | .invokespecial _ => some 3
  | .invokevirtual _ => some 3
  | .invokestatic _ => some 3
  | _ => some 1
def zm_lk (i : Instr) (len : Nat) : Bool := match zm_il i with
  | some k => k == len
  | none => true
def zm_row (b : ByteArray) (q : Nat × Instr) : Bool := match decode b q.1 with
  | .ok (i, len) => decide (i = q.2) && zm_lk i len
  | .error _ => false
theorem zm_row_ok {b : ByteArray} {q : Nat × Instr} (h : zm_row b q = true) : ∃ len, decode b q.1 = .ok (q.2, len) ∧ zm_lk q.2 len = true := by
  unfold zm_row at h
  split at h
  · next i len hd =>
    rw [Bool.and_eq_true] at h
    have h1 : i = q.2 := by simpa using h.1
    subst h1
    exact ⟨len, hd, h.2⟩
  · cases h
end
section
def zm_vr (φ : zmK → Option Nat) (v : zmV) (w : Value) : Prop := match v with
  | .inl x => w = .int x
  | .inr (.inl x) => w = .long x
  | .inr (.inr none) => w = .null
  | .inr (.inr (some k)) => (k.1 = 7 ∧ (w = .null ∨ ∃ a, w = .ref a)) ∨ ∃ a, φ k = some a ∧ w = .ref a
def zm_sr (φ : zmK → Option Nat) : List zmV → List Value → Prop
  | [], rs => rs = []
  | v :: st, rs => ∃ w r, rs = w :: r ∧ zm_vr φ v w ∧ zm_sr φ st r
def zm_le (φ ψ : zmK → Option Nat) : Prop := ∀ k a, φ k = some a → ψ k = some a
theorem zm_le.rf {φ : zmK → Option Nat} : zm_le φ φ := fun _ _ h => h
theorem zm_le.tr {φ ψ χ : zmK → Option Nat} (h : zm_le φ ψ) (g : zm_le ψ χ) : zm_le φ χ := fun k a q => g k a (h k a q)
theorem zm_vr.le {φ ψ : zmK → Option Nat} (h : zm_le φ ψ) {v : zmV} {w : Value} (q : zm_vr φ v w) : zm_vr ψ v w := by
  rcases v with x | x | _ | k
  · exact q
  · exact q
  · exact q
  · rcases q with q | ⟨a, h1, h2⟩
    · exact Or.inl q
    · exact Or.inr ⟨a, h k a h1, h2⟩
theorem zm_sr.le {φ ψ : zmK → Option Nat} (h : zm_le φ ψ) : ∀ {st : List zmV} {rs : List Value}, zm_sr φ st rs → zm_sr ψ st rs
  | [], _, q => q
  | _ :: _, _, ⟨w, r, e, hv, hr⟩ => ⟨w, r, e, hv.le h, zm_sr.le h hr⟩
theorem zm_sr.len {φ : zmK → Option Nat} : ∀ {st : List zmV} {rs : List Value}, zm_sr φ st rs → st.length = rs.length
  | [], _, q => by rw [show _ = [] from q]; rfl
  | _ :: _, _, ⟨w, r, e, _, hr⟩ => by rw [e, List.length_cons, List.length_cons, zm_sr.len hr]
theorem zm_sr.get {φ : zmK → Option Nat} : ∀ {st : List zmV} {rs : List Value} {k : Nat} {v : zmV}, zm_sr φ st rs → st[k]? = some v → ∃ w, rs[k]? = some w ∧ zm_vr φ v w
  | [], _, _, _, _, h => by simp at h
  | v0 :: st, _, 0, v, ⟨w, r, e, hv, hr⟩, h => by
    subst e
    simp at h
    subst h
    exact ⟨w, by simp, hv⟩
  | v0 :: st, _, k + 1, v, ⟨w, r, e, hv, hr⟩, h => by
    subst e
    simp at h
    obtain ⟨w2, h1, h2⟩ := zm_sr.get hr h
    exact ⟨w2, by simpa using h1, h2⟩
theorem zm_sr.set {φ : zmK → Option Nat} {v : zmV} {w : Value} (hv : zm_vr φ v w) : ∀ {st : List zmV} {rs : List Value} (k : Nat), zm_sr φ st rs → zm_sr φ (st.set k v) (rs.set k w)
  | [], _, k, q => by rw [show _ = [] from q]; exact rfl
  | v0 :: st, _, 0, ⟨w0, r, e, _, hr⟩ => by
    subst e
    exact ⟨w, r, rfl, hv, hr⟩
  | v0 :: st, _, k + 1, ⟨w0, r, e, h0, hr⟩ => by
    subst e
    exact ⟨w0, r.set k w, rfl, h0, zm_sr.set hv k hr⟩
theorem zm_sr.app {φ : zmK → Option Nat} : ∀ {s1 : List zmV} {r1 : List Value} {s2 : List zmV} {r2 : List Value}, zm_sr φ s1 r1 → zm_sr φ s2 r2 → zm_sr φ (s1 ++ s2) (r1 ++ r2)
  | [], _, _, _, h1, h2 => by rw [show _ = [] from h1]; exact h2
  | v :: s1, _, _, _, ⟨w, r, e, hv, hr⟩, h2 => by
    subst e
    exact ⟨w, r ++ _, rfl, hv, zm_sr.app hr h2⟩
theorem zm_sr.split {φ : zmK → Option Nat} : ∀ {s1 s2 : List zmV} {rs : List Value}, zm_sr φ (s1 ++ s2) rs → ∃ r1 r2, rs = r1 ++ r2 ∧ zm_sr φ s1 r1 ∧ zm_sr φ s2 r2
  | [], _, rs, h => ⟨[], rs, rfl, rfl, h⟩
  | v :: s1, s2, _, ⟨w, r, e, hv, hr⟩ => by
    obtain ⟨r1, r2, e2, h1, h2⟩ := zm_sr.split (s1 := s1) (s2 := s2) hr
    exact ⟨w :: r1, r2, by rw [e, e2]; rfl, ⟨w, r1, rfl, hv, h1⟩, h2⟩
theorem zm_sr.rev {φ : zmK → Option Nat} : ∀ {st : List zmV} {rs : List Value}, zm_sr φ st rs → zm_sr φ st.reverse rs.reverse
  | [], _, q => by rw [show _ = [] from q]; exact rfl
  | v :: st, _, ⟨w, r, e, hv, hr⟩ => by
    subst e
    rw [List.reverse_cons, List.reverse_cons]
    exact zm_sr.app (zm_sr.rev hr) ⟨w, [], rfl, hv, rfl⟩
def zm_qr (φ : zmK → Option Nat) (f : Nat → Option zmK) (g : Nat → Option Nat) : Prop := ∀ j, zm_vr φ (.inr (.inr (f j))) (va_rf (g j))
def zm_cr (φ : zmK → Option Nat) (tys : List (ClassId × FieldType)) (c : zmC) (e : va_E) : Prop := match c with
  | .inl (ty, n, .inl f) => ∃ cA, (cA, ty) ∈ tys ∧ e = .inl (cA, n, .inl f)
  | .inl (ty, n, .inr f) => ∃ cA g, (cA, ty) ∈ tys ∧ zm_qr φ f g ∧ e = .inl (cA, n, .inr (.inr (.inr (.inr g))))
  | .inr (ci, fs) => ∃ gs, zm_sr φ fs gs ∧ e = .inr (ci, gs)
theorem zm_cr.le {φ ψ : zmK → Option Nat} (h : zm_le φ ψ) {tys tys2 : List (ClassId × FieldType)} (ht : ∀ q ∈ tys, q ∈ tys2) {c : zmC} {e : va_E} (q : zm_cr φ tys c e) : zm_cr ψ tys2 c e := by
  rcases c with ⟨ty, n, f | f⟩ | ⟨ci, fs⟩
  · obtain ⟨cA, h1, h2⟩ := q
    exact ⟨cA, ht _ h1, h2⟩
  · obtain ⟨cA, g, h1, h2, h3⟩ := q
    exact ⟨cA, g, ht _ h1, fun j => (h2 j).le h, h3⟩
  · obtain ⟨gs, h1, h2⟩ := q
    exact ⟨gs, h1.le h, h2⟩
def zm_hr (φ : zmK → Option Nat) (tys : List (ClassId × FieldType)) (h : zmH) (ws : va_W) : Prop :=
  (∀ k c, zm_get h k = some c → 8 ≤ k.1 → ∃ (i a : Nat) (e : va_E), φ k = some a ∧ ws[i]? = some (a, e) ∧ zm_cr φ tys c e) ∧
  (∀ k a, φ k = some a → 8 ≤ k.1 → ∃ c, zm_get h k = some c) ∧
  (∀ k k2 a, φ k = some a → φ k2 = some a → 8 ≤ k.1 → 8 ≤ k2.1 → k = k2)
theorem zm_get_set (h : zmH) (k k2 : zmK) (c : zmC) : zm_get (zm_set h k c) k2 = if k2 = k then some c else zm_get h k2 := rfl
theorem zm_get_new (h : zmH) (s : Nat) (c : zmC) (sl : Nat) (k2 : zmK) : zm_get (zm_new h s c sl) k2 = if k2 = (s, h.2.1 s) then some c else zm_get h k2 := rfl
theorem zm_hr.set {φ : zmK → Option Nat} {tys : List (ClassId × FieldType)} {h : zmH} {ws : va_W} {A : Nat → Prop} (H : zm_hr φ tys h ws) (hD : va_D A ws) {k : zmK} {c c2 : zmC} {i a : Nat} {e e2 : va_E} (hk : 8 ≤ k.1) (hc : zm_get h k = some c) (hφ : φ k = some a) (hi : ws[i]? = some (a, e)) (hr : zm_cr φ tys c2 e2) : zm_hr φ tys (zm_set h k c2) (ws.set i (a, e2)) := by
  have hl := (List.getElem?_eq_some_iff.mp hi).1
  refine ⟨fun k1 c1 h1 h8 => ?_, fun k1 a1 h1 h8 => ?_, H.2.2⟩
  · rw [zm_get_set] at h1
    by_cases hkk : k1 = k
    · subst hkk
      rw [if_pos rfl] at h1
      cases h1
      exact ⟨i, a, e2, hφ, List.getElem?_set_self hl, hr⟩
    · rw [if_neg hkk] at h1
      obtain ⟨j, b, e3, g1, g2, g3⟩ := H.1 k1 c1 h1 h8
      have hji : j ≠ i := fun q => by
        subst q
        rw [hi] at g2
        have hab : a = b := congrArg Prod.fst (Option.some.inj g2)
        subst hab
        exact hkk (H.2.2 k1 k a g1 hφ h8 hk)
      exact ⟨j, b, e3, g1, by rw [List.getElem?_set_ne (Ne.symm hji)]; exact g2, g3⟩
  · rw [zm_get_set]
    by_cases hkk : k1 = k
    · rw [if_pos hkk]; exact ⟨c2, rfl⟩
    · rw [if_neg hkk]; exact H.2.1 k1 a1 h1 h8
def zm_ext (φ : zmK → Option Nat) (k : zmK) (a : Nat) : zmK → Option Nat := fun j => if j = k then some a else φ j
theorem zm_ext_le {φ : zmK → Option Nat} {k : zmK} {a : Nat} (h : φ k = none) : zm_le φ (zm_ext φ k a) := by
  intro j b hj
  unfold zm_ext
  by_cases q : j = k
  · subst q; rw [h] at hj; cases hj
  · rw [if_neg q]; exact hj
theorem zm_hr.non {φ : zmK → Option Nat} {tys : List (ClassId × FieldType)} {h : zmH} {ws : va_W} (H : zm_hr φ tys h ws) {k : zmK} (hk : 8 ≤ k.1) (hg : zm_get h k = none) : φ k = none := by
  cases hq : φ k with
  | none => rfl
  | some a =>
    obtain ⟨c, hc⟩ := H.2.1 k a hq hk
    rw [hg] at hc; cases hc
theorem zm_hr.new {φ : zmK → Option Nat} {tys tys2 : List (ClassId × FieldType)} {h : zmH} {ws : va_W} {A : Nat → Prop} (H : zm_hr φ tys h ws) {s : Nat} {c : zmC} {sl a : Nat} {e : va_E} (hD : va_D A (ws ++ [(a, e)])) (hs : 8 ≤ s) (hg : zm_get h (s, h.2.1 s) = none) (ht : ∀ q ∈ tys, q ∈ tys2) (hr : zm_cr (zm_ext φ (s, h.2.1 s) a) tys2 c e) :
    zm_hr (zm_ext φ (s, h.2.1 s) a) tys2 (zm_new h s c sl) (ws ++ [(a, e)]) := by
  have hn : φ (s, h.2.1 s) = none := H.non hs hg
  have hle : zm_le φ (zm_ext φ (s, h.2.1 s) a) := zm_ext_le hn
  have hlast : (ws ++ [(a, e)])[ws.length]? = some (a, e) := by simp
  have old : ∀ k b, φ k = some b → 8 ≤ k.1 → b ≠ a := by
    intro k b hb h8 hba
    obtain ⟨c1, hc1⟩ := H.2.1 k b hb h8
    obtain ⟨i, b2, e2, g1, g2, -⟩ := H.1 k c1 hc1 h8
    have hb2 : b = b2 := Option.some.inj (hb.symm.trans g1)
    subst hb2
    subst hba
    have hl := (List.getElem?_eq_some_iff.mp g2).1
    have g3 : (ws ++ [(b, e)])[i]? = some (b, e2) := by rw [List.getElem?_append_left hl]; exact g2
    have := hD.1 i ws.length (b, e2) (b, e) g3 hlast rfl
    omega
  refine ⟨fun k1 c1 h1 h8 => ?_, fun k1 a1 h1 h8 => ?_, fun k1 k2 a1 h1 h2 h8 h8' => ?_⟩
  · rw [zm_get_new] at h1
    by_cases hkk : k1 = (s, h.2.1 s)
    · rw [if_pos hkk] at h1
      cases h1
      exact ⟨ws.length, a, e, by rw [hkk]; simp [zm_ext], hlast, hr⟩
    · rw [if_neg hkk] at h1
      obtain ⟨j, b, e3, g1, g2, g3⟩ := H.1 k1 c1 h1 h8
      exact ⟨j, b, e3, hle _ _ g1, by rw [List.getElem?_append_left (List.getElem?_eq_some_iff.mp g2).1]; exact g2, g3.le hle ht⟩
  · rw [zm_get_new]
    by_cases hkk : k1 = (s, h.2.1 s)
    · rw [if_pos hkk]; exact ⟨c, rfl⟩
    · rw [if_neg hkk]
      simp only [zm_ext, if_neg hkk] at h1
      exact H.2.1 k1 a1 h1 h8
  · by_cases q1 : k1 = (s, h.2.1 s)
    · by_cases q2 : k2 = (s, h.2.1 s)
      · rw [q1, q2]
      · simp only [zm_ext, if_pos q1, if_neg q2] at h1 h2
        cases h1
        exact absurd rfl (old k2 _ h2 h8')
    · by_cases q2 : k2 = (s, h.2.1 s)
      · simp only [zm_ext, if_neg q1, if_pos q2] at h1 h2
        cases h2
        exact absurd rfl (old k1 _ h1 h8)
      · simp only [zm_ext, if_neg q1, if_neg q2] at h1 h2
        exact H.2.2 k1 k2 a1 h1 h2 h8 h8'
def zm_lr (φ : zmK → Option Nat) (lsl : List Nat) (L : zmL) (lv : List (Nat × Value)) : Prop :=
  (∀ i v, L[i]? = some (some v) → ∃ w, (i, w) ∈ lv ∧ zm_vr φ v w) ∧ ∀ q ∈ lv, q.2.category = 2 → q.1 ∈ lsl
theorem zm_lr.le {φ ψ : zmK → Option Nat} (h : zm_le φ ψ) {lsl : List Nat} {L : zmL} {lv : List (Nat × Value)} (q : zm_lr φ lsl L lv) : zm_lr ψ lsl L lv :=
  ⟨fun i v hv => by obtain ⟨w, h1, h2⟩ := q.1 i v hv; exact ⟨w, h1, h2.le h⟩, q.2⟩
theorem zm_lr.store {φ : zmK → Option Nat} {lsl : List Nat} {L : zmL} {lv : List (Nat × Value)} (q : zm_lr φ lsl L lv) {n : Nat} {v : zmV} {w : Value} (hv : zm_vr φ v w) (hw : w.category = 1) (hn : n < L.length) (h2 : zm_no2 lsl n = true) :
    zm_lr φ lsl (L.set n (some v)) ((n, w) :: lv.filter (fun q => !(q.1 == n) && !(q.1 + 1 == n && q.2.category == 2))) := by
  refine ⟨fun i u hu => ?_, fun x hx hc => ?_⟩
  · by_cases hi : i = n
    · subst hi
      rw [List.getElem?_set_self hn] at hu
      cases hu
      exact ⟨w, List.mem_cons_self, hv⟩
    · rw [List.getElem?_set_ne (Ne.symm hi)] at hu
      obtain ⟨w2, g1, g2⟩ := q.1 i u hu
      refine ⟨w2, List.mem_cons_of_mem _ (List.mem_filter.mpr ⟨g1, ?_⟩), g2⟩
      have a1 : (i == n) = false := by simp [hi]
      have a2 : (i + 1 == n && w2.category == 2) = false := by
        by_cases e1 : i + 1 = n
        · by_cases e2 : w2.category = 2
          · exfalso
            have := q.2 (i, w2) g1 e2
            subst e1
            simp [zm_no2] at h2
            exact h2 this
          · simp [e2]
        · simp [e1]
      show (!(i == n) && !(i + 1 == n && w2.category == 2)) = true
      rw [a1, a2]; rfl
  · rcases List.mem_cons.mp hx with rfl | hx
    · rw [show ((n, w) : Nat × Value).2 = w from rfl, hw] at hc
      cases hc
    · exact q.2 x (List.mem_filter.mp hx).1 hc
theorem zm_lr.storeL {φ : zmK → Option Nat} {lsl : List Nat} {L : zmL} {lv : List (Nat × Value)} (q : zm_lr φ lsl L lv) {n : Nat} {x : Int64} (hn : n + 1 < L.length) (h2 : zm_no2 lsl n = true) (hm : n ∈ lsl) :
    zm_lr φ lsl ((L.set n (some (.inr (.inl x)))).set (n + 1) none) ((n, .long x) :: lv.filter (fun q => !(q.1 == n) && (!(q.1 == n + 1) && !(q.1 + 1 == n && q.2.category == 2)))) := by
  refine ⟨fun i u hu => ?_, fun y hy hc => ?_⟩
  · by_cases hi1 : i = n + 1
    · subst hi1
      rw [List.getElem?_set_self (by rw [List.length_set]; exact hn)] at hu
      cases hu
    · rw [List.getElem?_set_ne (Ne.symm hi1)] at hu
      by_cases hi : i = n
      · subst hi
        rw [List.getElem?_set_self (by omega)] at hu
        cases hu
        exact ⟨.long x, List.mem_cons_self, rfl⟩
      · rw [List.getElem?_set_ne (Ne.symm hi)] at hu
        obtain ⟨w2, g1, g2⟩ := q.1 i u hu
        refine ⟨w2, List.mem_cons_of_mem _ (List.mem_filter.mpr ⟨g1, ?_⟩), g2⟩
        have a1 : (i == n) = false := by simp [hi]
        have a3 : (i == n + 1) = false := by simp [hi1]
        have a2 : (i + 1 == n && w2.category == 2) = false := by
          by_cases e1 : i + 1 = n
          · by_cases e2 : w2.category = 2
            · exfalso
              have := q.2 (i, w2) g1 e2
              subst e1
              simp [zm_no2] at h2
              exact h2 this
            · simp [e2]
          · simp [e1]
        show (!(i == n) && (!(i == n + 1) && !(i + 1 == n && w2.category == 2))) = true
        rw [a1, a2, a3]; rfl
  · rcases List.mem_cons.mp hy with rfl | hy
    · exact hm
    · exact q.2 y (List.mem_filter.mp hy).1 hc
theorem zm_ii_inv {f : Int32 → Int32 → Int32} {st st2 : List zmV} (h : zm_ii f st = some st2) : ∃ x y r, st = .inl y :: .inl x :: r ∧ st2 = .inl (f x y) :: r := by
  unfold zm_ii at h
  split at h
  · cases h; exact ⟨_, _, _, rfl, rfl⟩
  · cases h
theorem zm_i1_inv {f : Int32 → zmV} {st st2 : List zmV} (h : zm_i1 f st = some st2) : ∃ x r, st = .inl x :: r ∧ st2 = f x :: r := by
  unfold zm_i1 at h
  split at h
  · cases h; exact ⟨_, _, rfl, rfl⟩
  · cases h
theorem zm_l1_inv {f : Int64 → zmV} {st st2 : List zmV} (h : zm_l1 f st = some st2) : ∃ x r, st = .inr (.inl x) :: r ∧ st2 = f x :: r := by
  unfold zm_l1 at h
  split at h
  · cases h; exact ⟨_, _, rfl, rfl⟩
  · cases h
theorem zm_ll_inv {f : Int64 → Int64 → zmV} {st st2 : List zmV} (h : zm_ll f st = some st2) : ∃ x y r, st = .inr (.inl y) :: .inr (.inl x) :: r ∧ st2 = f x y :: r := by
  unfold zm_ll at h
  split at h
  · cases h; exact ⟨_, _, _, rfl, rfl⟩
  · cases h
theorem zm_li_inv {f : Int64 → Int32 → Int64} {st st2 : List zmV} (h : zm_li f st = some st2) : ∃ x y r, st = .inl y :: .inr (.inl x) :: r ∧ st2 = .inr (.inl (f x y)) :: r := by
  unfold zm_li at h
  split at h
  · cases h; exact ⟨_, _, _, rfl, rfl⟩
  · cases h
theorem zm_vr_ref {φ : zmK → Option Nat} {q : Option zmK} {w : Value} (h : zm_vr φ (.inr (.inr q)) w) : w = .null ∨ ∃ a, w = .ref a := by
  cases q with
  | none => exact Or.inl h
  | some k =>
    rcases h with ⟨-, h⟩ | ⟨a, -, h⟩
    · exact h
    · exact Or.inr ⟨a, h⟩
theorem zm_vr_n7 {φ : zmK → Option Nat} {k : zmK} {w : Value} (h : zm_vr φ (.inr (.inr (some k))) w) (h7 : k.1 ≠ 7) : ∃ a, φ k = some a ∧ w = .ref a := by
  rcases h with ⟨e, -⟩ | h
  · exact absurd e h7
  · exact h
theorem zm_vr_null {φ : zmK → Option Nat} {q : Option zmK} {w : Value} (h : zm_vr φ (.inr (.inr q)) w) (h7 : zm_n7 q = true) : (w = .null ∧ q = none) ∨ ∃ k a, q = some k ∧ w = .ref a := by
  cases q with
  | none => exact Or.inl ⟨h, rfl⟩
  | some k =>
    obtain ⟨a, -, h2⟩ := zm_vr_n7 h (by simpa [zm_n7] using h7)
    exact Or.inr ⟨k, a, rfl, h2⟩
theorem zm_vr_cat {φ : zmK → Option Nat} {v : zmV} {w : Value} (h : zm_vr φ v w) : w.category = if zm_kd v = 1 then 2 else 1 := by
  rcases v with x | x | q
  · rw [show w = .int x from h]; rfl
  · rw [show w = .long x from h]; rfl
  · rcases zm_vr_ref h with rfl | ⟨a, rfl⟩ <;> rfl
theorem zm_dup_inv {st st2 : List zmV} (h : zm_dup st = some st2) : ∃ v r, st = v :: r ∧ st2 = v :: v :: r ∧ zm_kd v ≠ 1 := by
  unfold zm_dup at h
  split at h
  · cases h; exact ⟨_, _, rfl, rfl, by simp [zm_kd]⟩
  · cases h; exact ⟨_, _, rfl, rfl, by simp [zm_kd]⟩
  · cases h
theorem zm_pop_inv {st st2 : List zmV} (h : zm_pop st = some st2) : ∃ v, st = v :: st2 ∧ zm_kd v ≠ 1 := by
  unfold zm_pop at h
  split at h
  · cases h; exact ⟨_, rfl, by simp [zm_kd]⟩
  · cases h; exact ⟨_, rfl, by simp [zm_kd]⟩
  · cases h
section ZMA
variable {p : Program} {l : Launch} {e : Env} {R : Room} {s : State} {m : MethodId} {args : Array Value} {below : List Frame} {meth : Method} {c : Code} {H : Heap} {locs : List Loc} {cells slots : Nat} {Q : State → Prop}
variable {cc : ByteArray} {pc : Nat} {ls : Array Slot} {rs : List Value} {φ : zmK → Option Nat} {st st2 : List zmV}
theorem zm_two {x y : zmV} {r : List zmV} (h : zm_sr φ (y :: x :: r) rs) : ∃ wy wx rr, rs = wy :: wx :: rr ∧ zm_vr φ y wy ∧ zm_vr φ x wx ∧ zm_sr φ r rr := by
  obtain ⟨w1, r1, rfl, h1, w2, r2, rfl, h2, h3⟩ := h
  exact ⟨w1, w2, r2, rfl, h1, h2, h3⟩
set_option maxHeartbeats 4000000 in
theorem zm_alu_ok {i : Instr} (hx : p.tables.exec = Jvm.exec) (hb : c.code = cc) (hdg : decode cc pc = .ok (i, 1)) (hq : zm_alu i st = some st2) (hsr : zm_sr φ st rs)
    (k : ∀ rs2, zm_sr φ st2 rs2 → W p l e R s m args below meth c H locs cells slots Q (F0 m (pc + 1) ls rs2)) : W p l e R s m args below meth c H locs cells slots Q (F0 m pc ls rs) := by
  cases i with
  | iadd =>
    obtain ⟨x, y, r, rfl, rfl⟩ := zm_ii_inv hq
    obtain ⟨_, _, rr, rfl, rfl, rfl, h3⟩ := zm_two hsr
    exact lv_iadd hx hb hdg (k _ ⟨_, _, rfl, rfl, h3⟩)
  | isub =>
    obtain ⟨x, y, r, rfl, rfl⟩ := zm_ii_inv hq
    obtain ⟨_, _, rr, rfl, rfl, rfl, h3⟩ := zm_two hsr
    exact lv_isub hx hb hdg (k _ ⟨_, _, rfl, rfl, h3⟩)
  | imul =>
    obtain ⟨x, y, r, rfl, rfl⟩ := zm_ii_inv hq
    obtain ⟨_, _, rr, rfl, rfl, rfl, h3⟩ := zm_two hsr
    exact lv_imul hx hb hdg (k _ ⟨_, _, rfl, rfl, h3⟩)
  | iand =>
    obtain ⟨x, y, r, rfl, rfl⟩ := zm_ii_inv hq
    obtain ⟨_, _, rr, rfl, rfl, rfl, h3⟩ := zm_two hsr
    exact lv_iand hx hb hdg (k _ ⟨_, _, rfl, rfl, h3⟩)
  | ior =>
    obtain ⟨x, y, r, rfl, rfl⟩ := zm_ii_inv hq
    obtain ⟨_, _, rr, rfl, rfl, rfl, h3⟩ := zm_two hsr
    exact lv_ior hx hb hdg (k _ ⟨_, _, rfl, rfl, h3⟩)
  | ixor =>
    obtain ⟨x, y, r, rfl, rfl⟩ := zm_ii_inv hq
    obtain ⟨_, _, rr, rfl, rfl, rfl, h3⟩ := zm_two hsr
    exact lv_ixor hx hb hdg (k _ ⟨_, _, rfl, rfl, h3⟩)
  | ishl =>
    obtain ⟨x, y, r, rfl, rfl⟩ := zm_ii_inv hq
    obtain ⟨_, _, rr, rfl, rfl, rfl, h3⟩ := zm_two hsr
    exact lv_ishl hx hb hdg (k _ ⟨_, _, rfl, rfl, h3⟩)
  | ishr =>
    obtain ⟨x, y, r, rfl, rfl⟩ := zm_ii_inv hq
    obtain ⟨_, _, rr, rfl, rfl, rfl, h3⟩ := zm_two hsr
    exact lv_ishr hx hb hdg (k _ ⟨_, _, rfl, rfl, h3⟩)
  | iushr =>
    obtain ⟨x, y, r, rfl, rfl⟩ := zm_ii_inv hq
    obtain ⟨_, _, rr, rfl, rfl, rfl, h3⟩ := zm_two hsr
    exact lv_iushr hx hb hdg rfl (k _ ⟨_, _, rfl, rfl, h3⟩)
  | ineg =>
    obtain ⟨x, r, rfl, rfl⟩ := zm_i1_inv hq
    obtain ⟨_, rr, rfl, rfl, h3⟩ := hsr
    exact lv_ineg hx hb hdg (k _ ⟨_, _, rfl, rfl, h3⟩)
  | i2l =>
    obtain ⟨x, r, rfl, rfl⟩ := zm_i1_inv hq
    obtain ⟨_, rr, rfl, rfl, h3⟩ := hsr
    exact lv_i2l hx hb hdg rfl (k _ ⟨_, _, rfl, rfl, h3⟩)
  | i2c =>
    obtain ⟨x, r, rfl, rfl⟩ := zm_i1_inv hq
    obtain ⟨_, rr, rfl, rfl, h3⟩ := hsr
    exact lv_i2c hx hb hdg rfl (k _ ⟨_, _, rfl, rfl, h3⟩)
  | i2b =>
    obtain ⟨x, r, rfl, rfl⟩ := zm_i1_inv hq
    obtain ⟨_, rr, rfl, rfl, h3⟩ := hsr
    exact lv_i2b hx hb hdg rfl (k _ ⟨_, _, rfl, rfl, h3⟩)
  | l2i =>
    obtain ⟨x, r, rfl, rfl⟩ := zm_l1_inv hq
    obtain ⟨_, rr, rfl, rfl, h3⟩ := hsr
    exact lv_l2i hx hb hdg rfl (k _ ⟨_, _, rfl, rfl, h3⟩)
  | ladd =>
    obtain ⟨x, y, r, rfl, rfl⟩ := zm_ll_inv hq
    obtain ⟨_, _, rr, rfl, rfl, rfl, h3⟩ := zm_two hsr
    exact lv_ladd hx hb hdg (k _ ⟨_, _, rfl, rfl, h3⟩)
  | lmul =>
    obtain ⟨x, y, r, rfl, rfl⟩ := zm_ll_inv hq
    obtain ⟨_, _, rr, rfl, rfl, rfl, h3⟩ := zm_two hsr
    exact lv_lmul hx hb hdg (k _ ⟨_, _, rfl, rfl, h3⟩)
  | land =>
    obtain ⟨x, y, r, rfl, rfl⟩ := zm_ll_inv hq
    obtain ⟨_, _, rr, rfl, rfl, rfl, h3⟩ := zm_two hsr
    exact lv_land hx hb hdg (k _ ⟨_, _, rfl, rfl, h3⟩)
  | lor =>
    obtain ⟨x, y, r, rfl, rfl⟩ := zm_ll_inv hq
    obtain ⟨_, _, rr, rfl, rfl, rfl, h3⟩ := zm_two hsr
    exact lv_lor hx hb hdg (k _ ⟨_, _, rfl, rfl, h3⟩)
  | lcmp =>
    obtain ⟨x, y, r, rfl, rfl⟩ := zm_ll_inv hq
    obtain ⟨_, _, rr, rfl, rfl, rfl, h3⟩ := zm_two hsr
    exact W.lcmp hx hb hdg (k _ ⟨_, _, rfl, rfl, h3⟩)
  | lshl =>
    obtain ⟨x, y, r, rfl, rfl⟩ := zm_li_inv hq
    obtain ⟨_, _, rr, rfl, rfl, rfl, h3⟩ := zm_two hsr
    exact lv_lshl hx hb hdg rfl (k _ ⟨_, _, rfl, rfl, h3⟩)
  | lushr =>
    obtain ⟨x, y, r, rfl, rfl⟩ := zm_li_inv hq
    obtain ⟨_, _, rr, rfl, rfl, rfl, h3⟩ := zm_two hsr
    exact lv_lushr hx hb hdg rfl (k _ ⟨_, _, rfl, rfl, h3⟩)
  | aconst_null =>
    cases hq
    exact lv_null hx hb hdg (k _ ⟨_, _, rfl, rfl, hsr⟩)
  | iconst n =>
    cases hq
    exact lv_iconst hx hb hdg rfl (k _ ⟨_, _, rfl, rfl, hsr⟩)
  | lconst n =>
    cases hq
    exact lv_lconst hx hb hdg rfl (k _ ⟨_, _, rfl, rfl, hsr⟩)
  | dup =>
    obtain ⟨v, r, rfl, rfl, hv⟩ := zm_dup_inv hq
    obtain ⟨w, rr, rfl, h1, h3⟩ := hsr
    exact lv_dup hx hb hdg (by rw [zm_vr_cat h1, if_neg hv]) (k _ ⟨_, _, rfl, h1, _, _, rfl, h1, h3⟩)
  | pop =>
    obtain ⟨v, rfl, hv⟩ := zm_pop_inv hq
    obtain ⟨w, rr, rfl, h1, h3⟩ := hsr
    exact lv_pop hx hb hdg (by rw [zm_vr_cat h1, if_neg hv]) (k _ h3)
  | _ => cases hq
theorem zm_ld_inv {L : zmL} {n kd : Nat} {v : zmV} (h : zm_ld L n kd = some v) : L[n]? = some (some v) ∧ zm_kd v = kd := by
  unfold zm_ld at h
  split at h
  · next u hu =>
    split at h
    · next hk => cases h; exact ⟨hu, hk⟩
    · cases h
  · cases h
theorem zm_kd0 {v : zmV} (h : zm_kd v = 0) : ∃ x, v = .inl x := by
  rcases v with x | x | x
  · exact ⟨x, rfl⟩
  · cases h
  · cases h
theorem zm_kd1 {v : zmV} (h : zm_kd v = 1) : ∃ x, v = .inr (.inl x) := by
  rcases v with x | x | x
  · cases h
  · exact ⟨x, rfl⟩
  · cases h
theorem zm_kd2 {v : zmV} (h : zm_kd v = 2) : ∃ x, v = .inr (.inr x) := by
  rcases v with x | x | x
  · cases h
  · cases h
  · exact ⟨x, rfl⟩
theorem zm_lr.at {lsl : List Nat} {L : zmL} {lv : List (Nat × Value)} {nL n : Nat} {v : zmV} (hl : lv_has ls nL lv) (hr : zm_lr φ lsl L lv) (h : L[n]? = some (some v)) : ∃ w, ls[n]? = some (.val w) ∧ zm_vr φ v w := by
  obtain ⟨w, h1, h2⟩ := hr.1 n v h
  exact ⟨w, hl.2.2 (n, w) h1, h2⟩
theorem zm_sto_inv {lsl : List Nat} {L : zmL} {n kd : Nat} {q : zmL × List zmV} (h : zm_sto lsl L n kd st = some q) : ∃ v, st = v :: q.2 ∧ zm_kd v = kd ∧ n < L.length ∧ zm_no2 lsl n = true ∧ q.1 = L.set n (some v) := by
  unfold zm_sto at h
  split at h
  · split at h
    · next hk => cases h; exact ⟨_, rfl, hk.1, hk.2.1, hk.2.2, rfl⟩
    · cases h
  · cases h
theorem zm_stoL_inv {lsl : List Nat} {L : zmL} {n : Nat} {q : zmL × List zmV} (h : zm_stoL lsl L n st = some q) : ∃ x, st = .inr (.inl x) :: q.2 ∧ n + 1 < L.length ∧ zm_no2 lsl n = true ∧ n ∈ lsl ∧ q.1 = (L.set n (some (.inr (.inl x)))).set (n + 1) none := by
  unfold zm_stoL at h
  split at h
  · split at h
    · next hk => cases h; exact ⟨_, rfl, hk.1, hk.2.1, by simpa using hk.2.2, rfl⟩
    · cases h
  · cases h
theorem zm_tgt_inv {off : Int} {t : Nat} (h : zm_tgt pc off = some t) : (pc : Int) + off = (t : Int) := by
  unfold zm_tgt at h
  split at h
  · next t2 he => cases h; exact he
  · cases h
end ZMA
end
section
def zt_clsL : List (String) := ["BumpNotesLaw", "BumpNotes", "BumpNotesModel", "BumpNotes$Tape", "BumpNotes$Reader", "BumpNotes$Row", "BumpNotes$Pack", "BumpNotes$Change", "BumpNotes$Version", "BumpNotes$Tag", "java/util/Arrays", "java/lang/String", "java/lang/StringLatin1", "jdk/internal/util/Preconditions"]
def zt_cls (o : Nat) : String := zt_clsL.getD o ""
abbrev zt_Ty : Type := Nat × MethodName × ByteArray × Nat × Option FieldType × List Nat × Bool
def zt_M_0 : List (zt_Ty) := [(0, ⟨"BumpNotesLaw", "law", "([I)Z"⟩, code, 4, some (.boolean), [], false), (1, ⟨"BumpNotes", "<init>", "()V"⟩, prog_1_method_1_code, 1, none, [], true), (2, ⟨"BumpNotesModel", "<init>", "()V"⟩, prog_10_method_1_code, 1, none, [], true), (1, ⟨"BumpNotes", "pack", "(III)I"⟩, prog_1_method_2_code, 5, some (.int), [], false), (2, ⟨"BumpNotesModel", "pack", "(III)I"⟩, prog_10_method_6_code, 4, some (.int), [], false), (1, ⟨"BumpNotes", "needs", "(III)Z"⟩, prog_1_method_3_code, 5, some (.boolean), [], false), (2, ⟨"BumpNotesModel", "needs", "(III)Z"⟩, prog_10_method_7_code, 4, some (.boolean), [], false), (1, ⟨"BumpNotes", "setting", "(I)Z"⟩, prog_1_method_4_code, 2, some (.boolean), [], false), (2, ⟨"BumpNotesModel", "setting", "(I)Z"⟩, prog_10_method_8_code, 2, some (.boolean), [], false), (1, ⟨"BumpNotes", "pre", "(IZ)Z"⟩, prog_1_method_5_code, 4, some (.boolean), [], false)]
def zt_M_1 : List (zt_Ty) := [(2, ⟨"BumpNotesModel", "pre", "(IZ)Z"⟩, prog_10_method_9_code, 3, some (.boolean), [], false), (1, ⟨"BumpNotes", "text", "(J)Z"⟩, prog_1_method_6_code, 3, some (.boolean), [1], false), (2, ⟨"BumpNotesModel", "text", "(J)Z"⟩, prog_10_method_13_code, 6, some (.boolean), [1], false), (1, ⟨"BumpNotes", "change", "(I)I"⟩, prog_1_method_7_code, 3, some (.int), [], false), (2, ⟨"BumpNotesModel", "change", "(I)I"⟩, prog_10_method_20_code, 2, some (.int), [], false), (1, ⟨"BumpNotes", "revert", "(I)I"⟩, prog_1_method_8_code, 3, some (.int), [], false), (2, ⟨"BumpNotesModel", "revert", "(I)I"⟩, prog_10_method_21_code, 3, some (.int), [], false), (1, ⟨"BumpNotes", "squash", "(II)Z"⟩, prog_1_method_9_code, 5, some (.boolean), [], false), (2, ⟨"BumpNotesModel", "squash", "(II)Z"⟩, prog_10_method_23_code, 3, some (.boolean), [], false), (1, ⟨"BumpNotes", "face", "(I)Z"⟩, prog_1_method_10_code, 3, some (.boolean), [], false)]
def zt_M_2 : List (zt_Ty) := [(2, ⟨"BumpNotesModel", "face", "(I)Z"⟩, prog_10_method_10_code, 2, some (.boolean), [], false), (1, ⟨"BumpNotes", "run", "()I"⟩, prog_1_method_11_code, 1, some (.int), [], false), (2, ⟨"BumpNotesModel", "run", "()I"⟩, prog_10_method_32_code, 4, some (.int), [], false), (1, ⟨"BumpNotes", "bump", "(I)I"⟩, prog_1_method_12_code, 3, some (.int), [], false), (2, ⟨"BumpNotesModel", "bump", "(I)I"⟩, prog_10_method_12_code, 2, some (.int), [], false), (1, ⟨"BumpNotes", "version", "(II)I"⟩, prog_1_method_13_code, 4, some (.int), [], false), (2, ⟨"BumpNotesModel", "version", "(II)I"⟩, prog_10_method_11_code, 3, some (.int), [], false), (1, ⟨"BumpNotes", "about", "(II)I"⟩, prog_1_method_14_code, 4, some (.int), [], false), (2, ⟨"BumpNotesModel", "about", "(II)I"⟩, prog_10_method_24_code, 3, some (.int), [], false), (1, ⟨"BumpNotes", "note", "(I)I"⟩, prog_1_method_15_code, 2, some (.int), [], false)]
def zt_M_3 : List (zt_Ty) := [(2, ⟨"BumpNotesModel", "note", "(I)I"⟩, prog_10_method_33_code, 2, some (.int), [], false), (1, ⟨"BumpNotes", "told", "(I)I"⟩, prog_1_method_16_code, 2, some (.int), [], false), (2, ⟨"BumpNotesModel", "told", "(I)I"⟩, prog_10_method_34_code, 2, some (.int), [], false), (1, ⟨"BumpNotes", "tag", "(I)I"⟩, prog_1_method_17_code, 3, some (.int), [], false), (2, ⟨"BumpNotesModel", "tag", "(I)I"⟩, prog_10_method_35_code, 5, some (.int), [], false), (3, ⟨"BumpNotes$Tape", "<init>", "()V"⟩, prog_7_method_1_code, 1, none, [], true), (4, ⟨"BumpNotes$Reader", "<init>", "()V"⟩, prog_4_method_1_code, 1, none, [], true), (5, ⟨"BumpNotes$Row", "<init>", "(I)V"⟩, prog_5_method_1_code, 2, none, [], true), (1, ⟨"BumpNotes", "isFirstPart", "(I)Z"⟩, prog_1_method_18_code, 1, some (.boolean), [], false), (6, ⟨"BumpNotes$Pack", "<init>", "(IIII)V"⟩, prog_3_method_1_code, 5, none, [], true)]
def zt_M_4 : List (zt_Ty) := [(2, ⟨"BumpNotesModel", "in", "(III)Z"⟩, prog_10_method_3_code, 3, some (.boolean), [], false), (1, ⟨"BumpNotes", "packAt", "(I)LBumpNotes$Pack;"⟩, prog_1_method_19_code, 2, some (.object "BumpNotes$Pack"), [], false), (6, ⟨"BumpNotes$Pack", "bindTo", "(II)V"⟩, prog_3_method_2_code, 3, none, [], false), (2, ⟨"BumpNotesModel", "isPack", "(I)Z"⟩, prog_10_method_4_code, 2, some (.boolean), [], false), (3, ⟨"BumpNotes$Tape", "take", "(J)Z"⟩, prog_7_method_2_code, 6, some (.boolean), [1], false), (1, ⟨"BumpNotes", "addChange", "(I)I"⟩, prog_1_method_21_code, 3, some (.int), [], false), (3, ⟨"BumpNotes$Tape", "empty", "()V"⟩, prog_7_method_3_code, 1, none, [], false), (2, ⟨"BumpNotesModel", "find", "()V"⟩, prog_10_method_18_code, 6, none, [], false), (2, ⟨"BumpNotesModel", "add", "(I)I"⟩, prog_10_method_19_code, 2, some (.int), [], false), (1, ⟨"BumpNotes", "changeAt", "(I)LBumpNotes$Change;"⟩, prog_1_method_20_code, 2, some (.object "BumpNotes$Change"), [], false)]
def zt_M_5 : List (zt_Ty) := [(1, ⟨"BumpNotes", "addReverting", "(LBumpNotes$Change;)I"⟩, prog_1_method_22_code, 4, some (.int), [], false), (2, ⟨"BumpNotesModel", "isChange", "(I)Z"⟩, prog_10_method_5_code, 2, some (.boolean), [], false), (7, ⟨"BumpNotes$Change", "isPending", "()Z"⟩, prog_2_method_3_code, 1, some (.boolean), [], false), (2, ⟨"BumpNotesModel", "isOpen", "(I)Z"⟩, prog_10_method_22_code, 2, some (.boolean), [], false), (1, ⟨"BumpNotes", "bumpByChanges", "()V"⟩, prog_1_method_25_code, 5, none, [], false), (1, ⟨"BumpNotes", "bumpByNeeds", "()V"⟩, prog_1_method_27_code, 2, none, [], false), (1, ⟨"BumpNotes", "releaseChanges", "()V"⟩, prog_1_method_30_code, 6, none, [], false), (1, ⟨"BumpNotes", "writeNotes", "()V"⟩, prog_1_method_31_code, 5, none, [], false), (1, ⟨"BumpNotes", "tellBreaks", "()V"⟩, prog_1_method_33_code, 5, none, [], false), (1, ⟨"BumpNotes", "countBumped", "()I"⟩, prog_1_method_34_code, 6, some (.int), [], false)]
def zt_M_6 : List (zt_Ty) := [(2, ⟨"BumpNotesModel", "findBumps", "()V"⟩, prog_10_method_28_code, 4, none, [], false), (2, ⟨"BumpNotesModel", "become", "(I)V"⟩, prog_10_method_29_code, 4, none, [], false), (2, ⟨"BumpNotesModel", "gather", "(II)V"⟩, prog_10_method_31_code, 5, none, [], false), (8, ⟨"BumpNotes$Version", "part", "(I)I"⟩, prog_8_method_3_code, 2, some (.int), [], false), (7, ⟨"BumpNotes$Change", "detail", "(I)I"⟩, prog_2_method_6_code, 2, some (.int), [], false), (5, ⟨"BumpNotes$Row", "at", "(I)I"⟩, prog_5_method_4_code, 2, some (.int), [], false), (1, ⟨"BumpNotes", "isTagged", "(LBumpNotes$Pack;)Z"⟩, prog_1_method_24_code, 6, some (.boolean), [], false), (9, ⟨"BumpNotes$Tag", "<init>", "(LBumpNotes$Pack;)V"⟩, prog_6_method_1_code, 2, none, [], true), (8, ⟨"BumpNotes$Version", "<init>", "(III)V"⟩, prog_8_method_1_code, 4, none, [], true), (10, ⟨"java/util/Arrays", "fill", "([II)V"⟩, prog_15_method_103_code, 4, none, [], false)]
def zt_M_7 : List (zt_Ty) := [(3, ⟨"BumpNotes$Tape", "countCharacters", "(J)I"⟩, prog_7_method_8_code, 5, some (.int), [0], false), (3, ⟨"BumpNotes$Tape", "byteOf", "(JI)I"⟩, prog_7_method_9_code, 3, some (.int), [0], false), (4, ⟨"BumpNotes$Reader", "read", "(LBumpNotes$Tape;I)V"⟩, prog_4_method_2_code, 8, none, [], false), (7, ⟨"BumpNotes$Change", "<init>", "(IILBumpNotes$Reader;)V"⟩, prog_2_method_1_code, 4, none, [], true), (2, ⟨"BumpNotesModel", "letters", "(I)I"⟩, prog_10_method_15_code, 3, some (.int), [], false), (2, ⟨"BumpNotesModel", "kindOf", "(I)I"⟩, prog_10_method_16_code, 5, some (.int), [2], false), (2, ⟨"BumpNotesModel", "signAt", "(I)I"⟩, prog_10_method_14_code, 2, some (.int), [], false), (2, ⟨"BumpNotesModel", "endsBreaking", "(I)Z"⟩, prog_10_method_17_code, 6, some (.boolean), [3], false), (1, ⟨"BumpNotes", "takeBack", "(LBumpNotes$Change;LBumpNotes$Change;)V"⟩, prog_1_method_23_code, 2, none, [], false), (7, ⟨"BumpNotes$Change", "isReleased", "()Z"⟩, prog_2_method_2_code, 1, some (.boolean), [], false)]
def zt_M_8 : List (zt_Ty) := [(6, ⟨"BumpNotes$Pack", "beginRun", "()V"⟩, prog_3_method_5_code, 1, none, [], false), (1, ⟨"BumpNotes", "greatestPendingWeight", "(I)I"⟩, prog_1_method_26_code, 7, some (.int), [], false), (6, ⟨"BumpNotes$Pack", "takeBump", "(I)V"⟩, prog_3_method_6_code, 2, none, [], false), (1, ⟨"BumpNotes", "carryOnce", "()Z"⟩, prog_1_method_28_code, 6, some (.boolean), [], false), (5, ⟨"BumpNotes$Row", "empty", "()V"⟩, prog_5_method_2_code, 1, none, [], false), (1, ⟨"BumpNotes", "writeNotesOf", "(I)V"⟩, prog_1_method_32_code, 7, none, [], false), (5, ⟨"BumpNotes$Row", "add", "(I)V"⟩, prog_5_method_3_code, 2, none, [], false), (2, ⟨"BumpNotesModel", "stays", "(II)Z"⟩, prog_10_method_27_code, 6, some (.boolean), [], false), (2, ⟨"BumpNotesModel", "reckon", "(I)V"⟩, prog_10_method_26_code, 5, none, [], false), (2, ⟨"BumpNotesModel", "group", "(I)I"⟩, prog_10_method_30_code, 2, some (.int), [], false)]
def zt_M_9 : List (zt_Ty) := [(9, ⟨"BumpNotes$Tag", "isFor", "(LBumpNotes$Pack;)Z"⟩, prog_6_method_2_code, 2, some (.boolean), [], false), (8, ⟨"BumpNotes$Version", "copyFrom", "(LBumpNotes$Version;)V"⟩, prog_8_method_2_code, 2, none, [], false), (4, ⟨"BumpNotes$Reader", "findKind", "(LBumpNotes$Tape;)I"⟩, prog_4_method_3_code, 2, some (.int), [], false), (4, ⟨"BumpNotes$Reader", "wordOf", "(I)Ljava/lang/String;"⟩, prog_4_method_4_code, 1, some (.object "java/lang/String"), [], false), (11, ⟨"java/lang/String", "length", "()I"⟩, prog_12_method_54_code, 1, some (.int), [], false), (3, ⟨"BumpNotes$Tape", "at", "(I)C"⟩, prog_7_method_5_code, 2, some (.char), [], false), (3, ⟨"BumpNotes$Tape", "countLetters", "(I)I"⟩, prog_7_method_7_code, 4, some (.int), [], false), (3, ⟨"BumpNotes$Tape", "length", "()I"⟩, prog_7_method_4_code, 1, some (.int), [], false), (4, ⟨"BumpNotes$Reader", "endsWithBreaking", "(LBumpNotes$Tape;I)Z"⟩, prog_4_method_6_code, 3, some (.boolean), [], false), (4, ⟨"BumpNotes$Reader", "weightOf", "(I)I"⟩, prog_4_method_5_code, 1, some (.int), [], false)]
def zt_M_10 : List (zt_Ty) := [(6, ⟨"BumpNotes$Pack", "beginRow", "()V"⟩, prog_3_method_7_code, 1, none, [], false), (8, ⟨"BumpNotes$Version", "raise", "(I)V"⟩, prog_8_method_4_code, 2, none, [], false), (1, ⟨"BumpNotes", "hasBrokenNeed", "(LBumpNotes$Pack;)Z"⟩, prog_1_method_29_code, 6, some (.boolean), [], false), (7, ⟨"BumpNotes$Change", "isNewsOf", "(I)Z"⟩, prog_2_method_4_code, 2, some (.boolean), [], false), (7, ⟨"BumpNotes$Change", "group", "()I"⟩, prog_2_method_5_code, 1, some (.int), [], false), (2, ⟨"BumpNotesModel", "raise", "([IIII)V"⟩, prog_10_method_25_code, 9, none, [], false), (8, ⟨"BumpNotes$Version", "isSame", "(LBumpNotes$Version;)Z"⟩, prog_8_method_6_code, 2, some (.boolean), [], false), (3, ⟨"BumpNotes$Tape", "has", "(Ljava/lang/String;I)Z"⟩, prog_7_method_6_code, 4, some (.boolean), [], false), (11, ⟨"java/lang/String", "coder", "()B"⟩, prog_12_method_152_code, 1, some (.byte), [], false), (6, ⟨"BumpNotes$Pack", "rangeOf", "(I)I"⟩, prog_3_method_3_code, 2, some (.int), [], false)]
def zt_M_11 : List (zt_Ty) := [(6, ⟨"BumpNotes$Pack", "hasStayedWithin", "(I)Z"⟩, prog_3_method_4_code, 2, some (.boolean), [], false), (11, ⟨"java/lang/String", "charAt", "(I)C"⟩, prog_12_method_56_code, 2, some (.char), [], false), (8, ⟨"BumpNotes$Version", "isWithin", "(ILBumpNotes$Version;)Z"⟩, prog_8_method_5_code, 3, some (.boolean), [], false), (11, ⟨"java/lang/String", "isLatin1", "()Z"⟩, prog_12_method_154_code, 1, some (.boolean), [], false), (12, ⟨"java/lang/StringLatin1", "charAt", "([BI)C"⟩, prog_13_method_2_code, 2, some (.char), [], false), (11, ⟨"java/lang/String", "checkIndex", "(II)V"⟩, prog_12_method_155_code, 2, none, [], false), (13, ⟨"jdk/internal/util/Preconditions", "checkIndex", "(IILjava/util/function/BiFunction;)I"⟩, prog_16_method_11_code, 3, some (.int), [], false)]
def zt_M : List (zt_Ty) := zt_M_0 ++ (zt_M_1 ++ (zt_M_2 ++ (zt_M_3 ++ (zt_M_4 ++ (zt_M_5 ++ (zt_M_6 ++ (zt_M_7 ++ (zt_M_8 ++ (zt_M_9 ++ (zt_M_10 ++ (zt_M_11)))))))))))
def zt_d : zt_Ty := (999, ⟨"", "", ""⟩, ByteArray.empty, 0, none, [], false)
def zt_m (mi : Nat) : zt_Ty := zt_M.getD mi zt_d
def zt_own (mi : Nat) : Nat := (zt_m mi).1
def zt_name (mi : Nat) : MethodName := (zt_m mi).2.1
def zt_bytes (mi : Nat) : ByteArray := (zt_m mi).2.2.1
def zt_maxL (mi : Nat) : Nat := (zt_m mi).2.2.2.1
def zt_ret (mi : Nat) : Option FieldType := (zt_m mi).2.2.2.2.1
def zt_lslot (mi : Nat) : List Nat := (zt_m mi).2.2.2.2.2.1
def zt_init (mi : Nat) : Bool := (zt_m mi).2.2.2.2.2.2
abbrev zt_Fd : Type := String × String × Bool × FieldType
def zt_fd0 : zt_Fd := ("", "", false, .int)
def zt_clL : List (String × List zt_Fd) := [("BumpNotes", [("packs", "[LBumpNotes$Pack;", true, .array (.object "BumpNotes$Pack")), ("packCount", "I", false, .int), ("changes", "[LBumpNotes$Change;", true, .array (.object "BumpNotes$Change")), ("changeCount", "I", false, .int), ("tags", "[LBumpNotes$Tag;", true, .array (.object "BumpNotes$Tag")), ("tagCount", "I", false, .int), ("tape", "LBumpNotes$Tape;", true, .object "BumpNotes$Tape"), ("reader", "LBumpNotes$Reader;", true, .object "BumpNotes$Reader"), ("notes", "LBumpNotes$Row;", true, .object "BumpNotes$Row"), ("breaksTold", "LBumpNotes$Row;", true, .object "BumpNotes$Row"), ("looseWeight", "I", false, .int), ("runs", "I", false, .int)]), ("BumpNotesModel", [("code", "I", false, .int), ("packs", "I", false, .int), ("version", "[I", true, .array .int), ("ahead", "[I", true, .array .int), ("greatest", "[I", true, .array .int), ("mode", "[Z", true, .array .boolean), ("breaks", "[Z", true, .array .boolean), ("need", "[I", true, .array .int), ("setting", "I", false, .int), ("tape", "[I", true, .array .int), ("taped", "I", false, .int), ("changes", "I", false, .int), ("of", "[I", true, .array .int), ("kind", "[I", true, .array .int), ("weight", "[I", true, .array .int), ("scope", "[I", true, .array .int), ("released", "[I", true, .array .int), ("out", "[Z", true, .array .boolean), ("foundKind", "I", false, .int), ("foundWeight", "I", false, .int), ("foundScope", "I", false, .int), ("runs", "I", false, .int), ("bump", "[I", true, .array .int), ("noted", "I", false, .int), ("notes", "[I", true, .array .int), ("toldMany", "I", false, .int), ("tolds", "[I", true, .array .int), ("next", "[I", true, .array .int), ("tags", "I", false, .int), ("tagOf", "[I", true, .array .int), ("tagged", "[I", true, .array .int), ("counted", "[Z", true, .array .boolean)]), ("BumpNotes$Tape", [("characters", "[C", true, .array .char), ("length", "I", false, .int)]), ("BumpNotes$Reader", [("kind", "I", false, .int), ("scopeLength", "I", false, .int), ("weight", "I", false, .int)]), ("BumpNotes$Row", [("numbers", "[I", true, .array .int), ("size", "I", false, .int)]), ("BumpNotes$Pack", [("number", "I", true, .int), ("now", "LBumpNotes$Version;", true, .object "BumpNotes$Version"), ("beforeRun", "LBumpNotes$Version;", true, .object "BumpNotes$Version"), ("aheadOfRow", "LBumpNotes$Version;", true, .object "BumpNotes$Version"), ("ranges", "[I", true, .array .int), ("greatestOfRow", "I", false, .int), ("bump", "I", false, .int), ("preMode", "Z", false, .boolean), ("faceBroken", "Z", false, .boolean)]), ("BumpNotes$Tag", [("pack", "I", true, .int), ("tagged", "LBumpNotes$Version;", true, .object "BumpNotes$Version")]), ("BumpNotes$Version", [("major", "I", false, .int), ("minor", "I", false, .int), ("patch", "I", false, .int), ("pre", "I", false, .int)]), ("BumpNotes$Change", [("number", "I", true, .int), ("pack", "I", true, .int), ("kind", "I", true, .int), ("scopeLength", "I", true, .int), ("weight", "I", false, .int), ("out", "Z", false, .boolean), ("releasedBy", "I", false, .int)])]
def zt_strFl : List (zt_Fd) := [("value", "[B", true, .array .byte), ("coder", "B", true, .byte)]
def zt_fldL_0 : List (Nat × Nat × Nat × Nat) := [(1, 11, 0, 0), (1, 15, 0, 1), (1, 21, 0, 2), (1, 25, 0, 3), (1, 30, 0, 4), (1, 34, 0, 5), (1, 40, 0, 6), (1, 47, 0, 7), (1, 56, 0, 8), (1, 60, 0, 9), (1, 63, 0, 10), (1, 66, 0, 11), (1, 84, 5, 7), (1, 107, 8, 1), (1, 114, 8, 5), (1, 117, 8, 4), (1, 126, 5, 8), (1, 148, 5, 6), (1, 151, 5, 1), (1, 193, 5, 0), (1, 214, 8, 6), (1, 227, 8, 0), (2, 7, 1, 2), (2, 13, 1, 3), (2, 16, 1, 4), (2, 19, 1, 5), (2, 23, 1, 6), (2, 26, 1, 7), (2, 29, 1, 8), (2, 33, 1, 9), (2, 36, 1, 12), (2, 39, 1, 13), (2, 42, 1, 14), (2, 45, 1, 15), (2, 48, 1, 16), (2, 51, 1, 17), (2, 54, 1, 22), (2, 57, 1, 24), (2, 60, 1, 26), (2, 63, 1, 27), (2, 66, 1, 29), (2, 69, 1, 30), (2, 72, 1, 31), (2, 75, 1, 0), (2, 78, 1, 1), (2, 85, 1, 11), (2, 92, 1, 10), (2, 121, 1, 18), (2, 124, 1, 20), (2, 127, 1, 19)]
def zt_fldL_1 : List (Nat × Nat × Nat × Nat) := [(2, 157, 1, 21), (2, 163, 1, 23), (2, 169, 1, 25), (2, 179, 1, 28), (3, 9, 2, 0), (3, 15, 2, 1), (4, 9, 3, 0), (4, 15, 3, 1), (4, 18, 3, 2), (5, 9, 4, 1), (5, 21, 4, 0), (6, 9, 5, 4), (6, 15, 5, 5), (6, 19, 5, 6), (6, 22, 5, 7), (6, 26, 5, 8), (6, 29, 5, 0), (6, 37, 5, 1), (6, 41, 5, 2), (6, 44, 5, 3), (6, 61, 7, 3), (7, 9, 8, 5), (7, 15, 8, 6), (7, 19, 8, 0), (7, 22, 8, 1), (7, 25, 3, 0), (7, 30, 8, 2), (7, 31, 3, 1), (7, 34, 8, 3), (7, 35, 3, 2), (7, 38, 8, 4), (8, 9, 7, 0), (8, 15, 7, 1), (8, 18, 7, 2), (8, 21, 7, 3), (9, 12, 6, 1), (9, 18, 5, 0), (9, 24, 6, 0), (9, 27, 5, 1), (11, 9, 99, 0), (11, 15, 99, 1)]
def zt_fldL : List (Nat × Nat × Nat × Nat) := zt_fldL_0 ++ (zt_fldL_1)
def zt_callL_0 : List (Nat × Nat × (Nat × Nat × Nat × Nat) × Bool) := [(0, 9, (1, 1, 1, 0), false), (0, 12, (1, 2, 1, 0), false), (0, 13, (0, 3, 4, 0), false), (0, 17, (0, 4, 4, 1), false), (0, 18, (0, 5, 4, 0), false), (0, 22, (0, 6, 4, 1), false), (0, 23, (0, 7, 2, 0), false), (0, 27, (0, 8, 2, 1), false), (0, 28, (0, 9, 3, 0), false), (0, 32, (0, 10, 3, 1), false), (0, 35, (0, 11, 2, 0), false), (0, 39, (0, 12, 2, 1), false), (0, 40, (0, 13, 2, 0), false), (0, 44, (0, 14, 2, 1), false), (0, 45, (0, 15, 2, 0), false), (0, 48, (0, 16, 2, 1), false), (0, 49, (0, 17, 3, 0), false), (0, 53, (0, 18, 3, 1), false), (0, 54, (0, 19, 2, 0), false), (0, 57, (0, 20, 2, 1), false), (0, 58, (0, 21, 1, 0), false), (0, 62, (0, 22, 1, 1), false), (0, 63, (0, 23, 2, 0), false), (0, 66, (0, 24, 2, 1), false), (0, 67, (0, 25, 3, 0), false), (0, 71, (0, 26, 3, 1), false), (0, 72, (0, 27, 3, 0), false), (0, 75, (0, 28, 3, 1), false), (0, 76, (0, 29, 2, 0), false), (0, 79, (0, 30, 2, 1), false), (0, 80, (0, 31, 2, 0), false), (0, 83, (0, 32, 2, 1), false), (0, 84, (0, 33, 2, 0), false), (0, 87, (0, 34, 2, 1), false), (1, 39, (1, 35, 1, 0), true), (1, 46, (1, 36, 1, 0), true), (1, 53, (1, 37, 2, 0), false), (1, 69, (2, 38, 1, 0), false), (1, 73, (1, 39, 5, 0), false), (1, 76, (0, 41, 2, 0), false)]
def zt_callL_1 : List (Nat × Nat × (Nat × Nat × Nat × Nat) × Bool) := [(1, 80, (0, 42, 3, 5), false), (1, 88, (0, 44, 2, 2), false), (1, 92, (0, 45, 2, 0), false), (1, 96, (0, 46, 1, 2), false), (1, 99, (0, 49, 2, 0), false), (1, 103, (0, 50, 2, 0), false), (1, 110, (0, 52, 1, 8), false), (1, 129, (0, 54, 1, 0), false), (1, 132, (0, 55, 1, 0), false), (1, 135, (0, 56, 1, 0), false), (1, 138, (0, 57, 1, 0), false), (1, 141, (0, 58, 1, 0), false), (1, 144, (0, 59, 1, 0), false), (1, 155, (0, 63, 2, 7), false), (1, 160, (0, 64, 2, 8), false), (1, 163, (0, 65, 2, 4), false), (1, 166, (0, 66, 2, 0), false), (1, 170, (1, 67, 2, 0), false), (1, 173, (0, 72, 3, 3), false), (1, 177, (1, 73, 4, 0), false), (1, 180, (2, 78, 2, 0), false), (1, 184, (0, 79, 1, 8), false), (1, 187, (0, 90, 2, 6), false), (1, 190, (0, 80, 1, 5), false), (1, 196, (0, 81, 2, 0), false), (1, 199, (0, 82, 2, 5), false), (1, 202, (0, 83, 1, 0), false), (1, 205, (0, 102, 2, 0), false), (1, 208, (0, 109, 2, 5), false), (1, 211, (0, 110, 2, 5), false), (1, 217, (0, 84, 1, 4), false), (1, 218, (0, 85, 2, 0), false), (1, 221, (0, 103, 2, 8), false), (1, 224, (0, 104, 1, 8), false), (1, 228, (0, 86, 2, 4), false), (2, 81, (2, 40, 3, 0), false), (2, 88, (0, 43, 2, 1), false), (2, 95, (0, 76, 2, 1), false), (2, 115, (0, 74, 2, 1), false), (2, 118, (0, 75, 2, 1), false)]
def zt_callL_2 : List (Nat × Nat × (Nat × Nat × Nat × Nat) × Bool) := [(2, 130, (0, 77, 2, 1), false), (2, 133, (0, 47, 1, 1), false), (2, 136, (0, 48, 2, 1), false), (2, 139, (0, 51, 2, 1), false), (2, 142, (0, 53, 2, 1), false), (2, 145, (0, 105, 5, 1), false), (2, 149, (0, 88, 2, 1), false), (2, 153, (0, 87, 3, 1), false), (2, 160, (0, 89, 2, 1), false), (2, 166, (0, 60, 1, 1), false), (2, 172, (0, 61, 2, 1), false), (2, 175, (0, 62, 3, 1), false), (3, 19, (2, 70, 1, 0), false), (3, 23, (2, 71, 2, 0), false), (3, 27, (0, 94, 1, 99), false), (3, 32, (0, 95, 2, 2), false), (3, 36, (0, 111, 2, 99), false), (4, 21, (2, 92, 1, 0), false), (4, 25, (2, 93, 1, 0), false), (4, 29, (0, 94, 1, 99), false), (4, 35, (0, 95, 2, 2), false), (4, 41, (0, 96, 2, 2), false), (4, 45, (0, 97, 1, 2), false), (4, 46, (2, 98, 2, 0), false), (4, 50, (2, 99, 1, 0), false), (4, 53, (0, 107, 3, 2), false), (6, 34, (1, 68, 4, 0), false), (6, 47, (2, 69, 2, 0), false), (6, 53, (0, 112, 3, 7), false), (6, 57, (0, 91, 2, 7), false), (6, 64, (0, 100, 1, 5), false), (6, 73, (0, 101, 2, 7), false), (7, 39, (0, 79, 1, 8), false), (8, 24, (0, 106, 2, 7), false), (9, 9, (1, 68, 4, 0), false), (9, 30, (0, 91, 2, 7), false), (9, 34, (0, 106, 2, 7), false), (11, 335, (0, 108, 1, 99), false), (11, 492, (0, 113, 1, 99), false), (11, 495, (2, 114, 2, 0), false)]
def zt_callL_3 : List (Nat × Nat × (Nat × Nat × Nat × Nat) × Bool) := [(11, 1059, (2, 116, 3, 0), false), (12, 9, (2, 115, 2, 0), false)]
def zt_callL : List (Nat × Nat × (Nat × Nat × Nat × Nat) × Bool) := zt_callL_0 ++ (zt_callL_1 ++ (zt_callL_2 ++ (zt_callL_3)))
def zt_newL : List (Nat × Nat × Nat) := [(0, 7, 0), (0, 10, 1), (1, 9, 5), (1, 19, 8), (1, 28, 6), (1, 37, 2), (1, 44, 3), (1, 51, 4), (6, 32, 7), (9, 7, 7)]
def zt_arrL : List (Nat × Nat × String) := [(1, 9, "BumpNotes$Pack"), (1, 19, "BumpNotes$Change"), (1, 28, "BumpNotes$Tag")]
def zt_ldcI : List (Nat × Nat × Int32) := []
def zt_ldcJ : List (Nat × Nat × Int64) := [(0, 33, 4294967295), (2, 99, 256), (2, 101, 1717920116), (2, 103, 6711672), (2, 105, 1885696614), (2, 107, 1685021555), (2, 109, 1952805748), (2, 111, 426953896549), (2, 113, 4778958301331803719)]
def zt_strL : List (Nat × Nat × String × zmK) := [(4, 57, "feat", (1, 0)), (4, 59, "fix", (1, 1)), (4, 61, "perf", (1, 2)), (4, 63, "docs", (1, 3)), (4, 65, "test", (1, 4)), (4, 67, "chore", (1, 5)), (4, 73, "BREAKING", (1, 6))]
def zt_oinitL : List (Nat × Nat) := [(1, 3), (2, 1), (3, 3), (4, 3), (5, 3), (6, 3), (7, 3), (8, 3), (9, 1)]
def zt_maxL2 : List (Nat × Nat) := [(1, 120), (5, 15), (6, 67)]
def zt_gs : List (Nat × Nat × String × String × String × zmV × Bool) := [(4, 69, "BumpNotes", "WEIGHT_OF_KIND", "[I", .inr (.inr (some (3, 0))), true), (11, 38, "java/lang/String", "COMPACT_STRINGS", "Z", .inl 1, false), (11, 1053, "jdk/internal/util/Preconditions", "SIOOBE_FORMATTER", "Ljava/util/function/BiFunction;", .inr (.inr (some (7, 0))), false)]
def zt_arc : List (ArrayType) := [.boolean, .char, .int]
def zt_host : String := "BumpNotes"
def zt_siteL : List (Nat × Nat × Nat) := [(0, 0, 8), (0, 8, 9), (1, 7, 10), (1, 21, 11), (1, 35, 12), (1, 47, 13), (1, 58, 14), (1, 69, 15), (1, 82, 16), (2, 7, 17), (2, 15, 18), (2, 23, 19), (2, 31, 20), (2, 39, 21), (2, 47, 22), (2, 60, 23), (2, 68, 24), (2, 76, 25), (2, 84, 26), (2, 92, 27), (2, 100, 28), (2, 108, 29), (2, 116, 30), (2, 124, 31), (2, 132, 32), (2, 139, 33), (2, 147, 34), (2, 156, 35), (2, 164, 36), (3, 47, 37), (33, 44, 38), (35, 7, 39), (37, 15, 40), (39, 7, 41), (39, 38, 42), (39, 53, 43), (39, 68, 44), (45, 39, 45), (67, 5, 46)]
def zt_site (mi pc : Nat) : Nat := ((zt_siteL.find? fun r => r.1 == mi && r.2.1 == pc).map fun r => r.2.2).getD 0
end
section
theorem zt_fnd {α : Type} {l : List α} {f : α → Bool} {r : α} (h : l.find? f = some r) : r ∈ l ∧ f r = true := ⟨List.mem_of_find?_eq_some h, List.find?_some h⟩
theorem zt_two {a b c d : Nat} (h : (a == c && b == d) = true) : a = c ∧ b = d := by
  rw [Bool.and_eq_true] at h
  exact ⟨by simpa using h.1, by simpa using h.2⟩
def zt_fetch (mi pc : Nat) : Option Instr := match decode (zt_bytes mi) pc with
  | .ok (i, len) => if zm_lk i len = true then some i else none
  | .error _ => none
theorem zt_fetch_ok {mi pc : Nat} {i : Instr} (h : zt_fetch mi pc = some i) : ∃ len, decode (zt_bytes mi) pc = .ok (i, len) ∧ zm_lk i len = true := by
  unfold zt_fetch at h
  split at h
  · next i2 len hd =>
    split at h
    · next hl => cases h; exact ⟨len, hd, hl⟩
    · cases h
  · cases h
theorem zt_m_in (mi : Nat) : zt_m mi ∈ zt_M ∨ zt_m mi = zt_d := by
  unfold zt_m
  by_cases h : mi < zt_M.length
  · left
    rw [List.getD_eq_getElem?_getD, List.getElem?_eq_getElem h]
    exact List.getElem_mem h
  · right
    rw [List.getD_eq_getElem?_getD, List.getElem?_eq_none (by omega)]
    rfl
theorem zt_all {P : zt_Ty → Bool} (h : zt_M.all P = true) (hd : P zt_d = true) (mi : Nat) : P (zt_m mi) = true := by
  rcases zt_m_in mi with q | q
  · exact List.all_eq_true.mp h _ q
  · rw [q]; exact hd
theorem zt_plain (mi : Nat) : plainName (zt_name mi).cls = true := zt_all (P := fun q => plainName q.2.1.cls) (by decide +kernel) (by decide +kernel) mi
theorem zt_owner (mi : Nat) : (zt_name mi).cls = zt_cls (zt_own mi) := by
  exact of_decide_eq_true (zt_all (P := fun q => decide (q.2.1.cls = zt_cls q.1)) (by decide +kernel) (by decide +kernel) mi)
theorem zt_init_ok (mi : Nat) (h : zt_init mi = true) : (zt_name mi).name = "<init>" := by
  have := zt_all (P := fun q => !q.2.2.2.2.2.2 || decide (q.2.1.name = "<init>")) (by decide +kernel) (by decide +kernel) mi
  have h2 : (zt_m mi).2.2.2.2.2.2 = true := h
  rw [h2] at this
  exact of_decide_eq_true this
theorem zt_maxL_le (mi : Nat) : zt_maxL mi ≤ 21 := by
  exact of_decide_eq_true (zt_all (P := fun q => decide (q.2.2.2.1 ≤ 21)) (by decide +kernel) (by decide +kernel) mi)
theorem zt_hand (mi : Nat) : (zt_name mi).cls ≠ "java/lang/invoke/MethodHandle" ∧ (zt_name mi).cls ≠ "java/lang/invoke/VarHandle" := by
  exact of_decide_eq_true (zt_all (P := fun q => decide (q.2.1.cls ≠ "java/lang/invoke/MethodHandle" ∧ q.2.1.cls ≠ "java/lang/invoke/VarHandle")) (by decide +kernel) (by decide +kernel) mi)
def zt_uT (C : String) (fs : List zt_Fd) : u_T := fun k => (C, (fs.getD k zt_fd0).1, (fs.getD k zt_fd0).2.1, (fs.getD k zt_fd0).2.2.1)
def zt_cl : List vw_C := zt_clL.map fun q => (q.1, zt_uT q.1 q.2, q.2.length)
def zt_cn (ci : Nat) : String := (zt_clL.getD ci ("", [])).1
def zt_fs (ci : Nat) : List zt_Fd := (zt_clL.getD ci ("", [])).2
def zt_ty0 (fs : List zt_Fd) (k : Nat) : FieldType := (fs.getD k zt_fd0).2.2.2
theorem zt_cl_99 {q : vw_C} : ¬ zt_cl[99]? = some q := by
  rw [List.getElem?_eq_none (by decide +kernel)]
  exact fun h => by cases h
theorem zt_cl_at {ci : Nat} {q : vw_C} (h : zt_cl[ci]? = some q) : zt_clL[ci]? = some (zt_cn ci, zt_fs ci) ∧ q = (zt_cn ci, zt_uT (zt_cn ci) (zt_fs ci), (zt_fs ci).length) := by
  unfold zt_cl at h
  rw [List.getElem?_map, Option.map_eq_some_iff] at h
  obtain ⟨r, h1, h2⟩ := h
  have h3 : zt_clL.getD ci ("", []) = r := by rw [List.getD_eq_getElem?_getD, h1]; rfl
  unfold zt_cn zt_fs
  rw [h3]
  exact ⟨h1, h2.symm⟩
theorem zt_cl_of {ci : Nat} (h : ci < zt_clL.length) : zt_cl[ci]? = some (zt_cn ci, zt_uT (zt_cn ci) (zt_fs ci), (zt_fs ci).length) := by
  unfold zt_cl zt_cn zt_fs
  rw [List.getElem?_map, List.getD_eq_getElem?_getD, List.getElem?_eq_getElem h]
  rfl
theorem zt_cn_ok {ci : Nat} {q : vw_C} (h : zt_cl[ci]? = some q) : q.1 = zt_cn ci := by rw [(zt_cl_at h).2]
def zt_clW : List Cond := zt_clL.flatMap fun q => u_ws q.1 (zt_uT q.1 q.2) q.2.length
def zt_clP (q : String × List zt_Fd) : Bool := (q.2.all fun f => decide (parseFieldDescriptor f.2.1 = some f.2.2.2) && zm_tyOk f.2.2.2) && decide ((q.2.map fun f => f.1).Nodup)
theorem zt_cl_ok : zt_clL.all zt_clP = true := by decide +kernel
theorem zt_clp {ci : Nat} (h : ci < zt_clL.length) : zt_clP (zt_cn ci, zt_fs ci) = true ∧ (zt_cn ci, zt_fs ci) ∈ zt_clL := by
  have h1 : zt_clL[ci]? = some (zt_cn ci, zt_fs ci) := (zt_cl_at (zt_cl_of h)).1
  have h2 := List.mem_of_getElem? h1
  exact ⟨List.all_eq_true.mp zt_cl_ok _ h2, h2⟩
theorem zt_getD {k : Nat} {fs : List zt_Fd} (h : k < fs.length) : fs[k]? = some (fs.getD k zt_fd0) ∧ fs.getD k zt_fd0 ∈ fs := by
  have h1 : fs[k]? = some fs[k] := List.getElem?_eq_getElem h
  have h2 : fs.getD k zt_fd0 = fs[k] := by rw [List.getD_eq_getElem?_getD, h1]; rfl
  rw [h2]
  exact ⟨h1, List.getElem_mem h⟩
theorem zt_tys {ci : Nat} (h : ci < zt_clL.length) : ∀ k, k < (zt_fs ci).length → parseFieldDescriptor (zt_uT (zt_cn ci) (zt_fs ci) k).2.2.1 = some (zt_ty0 (zt_fs ci) k) ∧ zm_tyOk (zt_ty0 (zt_fs ci) k) = true := by
  intro k hk
  obtain ⟨h1, -⟩ := zt_clp h
  unfold zt_clP at h1
  rw [Bool.and_eq_true] at h1
  have h2 := List.all_eq_true.mp h1.1 _ (zt_getD hk).2
  rw [Bool.and_eq_true] at h2
  exact ⟨of_decide_eq_true h2.1, h2.2⟩
theorem zt_nms {ci : Nat} (h : ci < zt_clL.length) : ∀ a, a < (zt_fs ci).length → ∀ b, b < (zt_fs ci).length → a ≠ b → (zt_uT (zt_cn ci) (zt_fs ci) a).2.1 ≠ (zt_uT (zt_cn ci) (zt_fs ci) b).2.1 := by
  intro a ha b hb hab he
  obtain ⟨h1, -⟩ := zt_clp h
  unfold zt_clP at h1
  rw [Bool.and_eq_true] at h1
  have h2 : ((zt_fs ci).map fun f => f.1).Nodup := by simpa using h1.2
  have ea : ((zt_fs ci).map fun f => f.1)[a]? = some ((zt_fs ci).getD a zt_fd0).1 := by rw [List.getElem?_map, (zt_getD ha).1]; rfl
  have eb : ((zt_fs ci).map fun f => f.1)[b]? = some ((zt_fs ci).getD b zt_fd0).1 := by rw [List.getElem?_map, (zt_getD hb).1]; rfl
  have he2 : ((zt_fs ci).getD a zt_fd0).1 = ((zt_fs ci).getD b zt_fd0).1 := he
  rw [he2, ← eb] at ea
  exact hab ((List.getElem?_inj (by simpa using ha) h2).mp ea)
def zt_fdOf (ci sl : Nat) : zt_Fd := (if ci = 99 then zt_strFl else zt_fs ci).getD sl zt_fd0
def zt_fld (own k : Nat) : Option (Nat × Nat × FieldType × Bool) := (zt_fldL.find? fun r => r.1 == own && r.2.1 == k).map fun r => (r.2.2.1, r.2.2.2, (zt_fdOf r.2.2.1 r.2.2.2).2.2.2, (zt_fdOf r.2.2.1 r.2.2.2).2.2.1)
def zt_strF (j : Nat) : String × String := ((zt_strFl.getD j zt_fd0).1, (zt_strFl.getD j zt_fd0).2.1)
def zt_fldW1 (r : Nat × Nat × Nat × Nat) : Cond := .fieldLink (zt_cls r.1) r.2.1 (if r.2.2.1 = 99 then "java/lang/String" else zt_cn r.2.2.1) (zt_fdOf r.2.2.1 r.2.2.2).1 (zt_fdOf r.2.2.1 r.2.2.2).2.1
def zt_fldW : List Cond := zt_fldL.map zt_fldW1
def zt_fldP (r : Nat × Nat × Nat × Nat) : Bool := r.2.2.1 == 99 || (decide (r.2.2.1 < zt_clL.length) && decide (r.2.2.2 < (zt_fs r.2.2.1).length))
theorem zt_fldP_ok : zt_fldL.all zt_fldP = true := by decide +kernel
theorem zt_ne99 {ci : Nat} (h : ci < zt_clL.length) : ci ≠ 99 := by
  intro e
  subst e
  exact absurd h (by decide +kernel)
def zt_call (own k : Nat) : Option (Nat × Nat × Nat × Nat) := (zt_callL.find? fun r => r.1 == own && r.2.1 == k).map fun r => r.2.2.1
def zt_callW1 (r : Nat × Nat × (Nat × Nat × Nat × Nat) × Bool) : List Cond := [.initialized (zt_name r.2.2.1.2.1).cls] ++ (if r.2.2.2 = true then [] else [.methodLink (zt_cls r.1) r.2.1 (zt_name r.2.2.1.2.1)]) ++ (if r.2.2.1.1 = 2 then [.static (zt_name r.2.2.1.2.1)] else [.instanceMethod (zt_name r.2.2.1.2.1)]) ++ (if r.2.2.1.1 = 0 then [.selects (zt_name r.2.2.1.2.1).cls (zt_name r.2.2.1.2.1) (zt_name r.2.2.1.2.1)] else [])
def zt_callW : List Cond := zt_callL.flatMap zt_callW1
def zt_code1 (q : zt_Ty) : Cond := .code q.2.1 q.2.2.1 q.2.2.2.1 q.2.2.2.2.1
def zt_codeW : List Cond := zt_M.tail.map zt_code1
def zt_newW : List Cond := zt_newL.flatMap fun r => [.classLink (zt_cls r.1) r.2.1 (zt_cn r.2.2), .instantiable (zt_cn r.2.2) (zt_fs r.2.2).length, .initialized (zt_cn r.2.2)]
def zt_arrW : List Cond := zt_arrL.map fun r => .classLink (zt_cls r.1) r.2.1 r.2.2
def zt_ldcW : List Cond := zt_ldcI.map fun r => .constant (zt_cls r.1) r.2.1 r.2.2
def zt_ldc2W : List Cond := zt_ldcJ.map fun r => .constantLong (zt_cls r.1) r.2.1 r.2.2
def zt_oinitW : List Cond := (zt_oinitL.map fun r => .methodLink (zt_cls r.1) r.2 Lib.objectInit) ++ [.instanceMethod Lib.objectInit, .code Lib.objectInit ⟨#[0xb1]⟩ 1 none]
def zt_maxW : List Cond := (zt_maxL2.map fun r => .methodLink (zt_cls r.1) r.2 Lib.Math.max.name) ++ [.static Lib.Math.max.name, .initialized "java/lang/Math", .code Lib.Math.max.name Lib.Math.max.code 2 (some .int)]
def zt_gsW : List Cond := (zt_gs.filter fun r => !r.2.2.2.2.2.2).map fun r => .fieldLink (zt_cls r.1) r.2.1 r.2.2.1 r.2.2.2.1 r.2.2.2.2.1
def zt_arcW : List Cond := zt_arc.map fun t => .arrayClass (newarray.typeOf t)
def zt_T : List Cond := zt_clW ++ (zt_fldW ++ (zt_callW ++ (zt_codeW ++ (zt_newW ++ (zt_arrW ++ (zt_ldcW ++ (zt_ldc2W ++ (zt_oinitW ++ (zt_gsW ++ (zt_arcW ++ zt_maxW))))))))))
theorem zt_in1 {w : Cond} (h : w ∈ zt_clW) : w ∈ zt_T := List.mem_append_left _ h
theorem zt_in2 {w : Cond} (h : w ∈ zt_fldW) : w ∈ zt_T := List.mem_append_right _ (List.mem_append_left _ h)
theorem zt_in3 {w : Cond} (h : w ∈ zt_callW) : w ∈ zt_T := List.mem_append_right _ (List.mem_append_right _ (List.mem_append_left _ h))
theorem zt_in4 {w : Cond} (h : w ∈ zt_codeW) : w ∈ zt_T := List.mem_append_right _ (List.mem_append_right _ (List.mem_append_right _ (List.mem_append_left _ h)))
theorem zt_in5 {w : Cond} (h : w ∈ zt_newW) : w ∈ zt_T := List.mem_append_right _ (List.mem_append_right _ (List.mem_append_right _ (List.mem_append_right _ (List.mem_append_left _ h))))
theorem zt_in6 {w : Cond} (h : w ∈ zt_arrW) : w ∈ zt_T := List.mem_append_right _ (List.mem_append_right _ (List.mem_append_right _ (List.mem_append_right _ (List.mem_append_right _ (List.mem_append_left _ h)))))
theorem zt_in7 {w : Cond} (h : w ∈ zt_ldcW) : w ∈ zt_T := List.mem_append_right _ (List.mem_append_right _ (List.mem_append_right _ (List.mem_append_right _ (List.mem_append_right _ (List.mem_append_right _ (List.mem_append_left _ h))))))
theorem zt_in8 {w : Cond} (h : w ∈ zt_ldc2W) : w ∈ zt_T := List.mem_append_right _ (List.mem_append_right _ (List.mem_append_right _ (List.mem_append_right _ (List.mem_append_right _ (List.mem_append_right _ (List.mem_append_right _ (List.mem_append_left _ h)))))))
theorem zt_in9 {w : Cond} (h : w ∈ zt_oinitW) : w ∈ zt_T := List.mem_append_right _ (List.mem_append_right _ (List.mem_append_right _ (List.mem_append_right _ (List.mem_append_right _ (List.mem_append_right _ (List.mem_append_right _ (List.mem_append_right _ (List.mem_append_left _ h))))))))
theorem zt_in10 {w : Cond} (h : w ∈ zt_gsW) : w ∈ zt_T := List.mem_append_right _ (List.mem_append_right _ (List.mem_append_right _ (List.mem_append_right _ (List.mem_append_right _ (List.mem_append_right _ (List.mem_append_right _ (List.mem_append_right _ (List.mem_append_right _ (List.mem_append_left _ h)))))))))
theorem zt_in11 {w : Cond} (h : w ∈ zt_arcW) : w ∈ zt_T := List.mem_append_right _ (List.mem_append_right _ (List.mem_append_right _ (List.mem_append_right _ (List.mem_append_right _ (List.mem_append_right _ (List.mem_append_right _ (List.mem_append_right _ (List.mem_append_right _ (List.mem_append_right _ (List.mem_append_left _ h))))))))))
theorem zt_in12 {w : Cond} (h : w ∈ zt_maxW) : w ∈ zt_T := List.mem_append_right _ (List.mem_append_right _ (List.mem_append_right _ (List.mem_append_right _ (List.mem_append_right _ (List.mem_append_right _ (List.mem_append_right _ (List.mem_append_right _ (List.mem_append_right _ (List.mem_append_right _ (List.mem_append_right _ h))))))))))
def zt_max (own k : Nat) : Bool := zt_maxL2.contains (own, k)
theorem zt_max_ok {own k : Nat} (h : zt_max own k = true) : Cond.methodLink (zt_cls own) k Lib.Math.max.name ∈ zt_T ∧ Cond.static Lib.Math.max.name ∈ zt_T ∧ Cond.initialized "java/lang/Math" ∈ zt_T ∧ Cond.code Lib.Math.max.name Lib.Math.max.code 2 (some .int) ∈ zt_T := by
  have hm : (own, k) ∈ zt_maxL2 := List.contains_iff_mem.mp h
  exact ⟨zt_in12 (List.mem_append_left _ (List.mem_map.mpr ⟨_, hm, rfl⟩)), zt_in12 (List.mem_append_right _ (by simp)), zt_in12 (List.mem_append_right _ (by simp)), zt_in12 (List.mem_append_right _ (by simp))⟩
theorem zt_uws {ci : Nat} (h : ci < zt_clL.length) : ∀ w ∈ u_ws (zt_cn ci) (zt_uT (zt_cn ci) (zt_fs ci)) (zt_fs ci).length, w ∈ zt_T := fun w hw =>
  zt_in1 (List.mem_flatMap.mpr ⟨_, (zt_clp h).2, hw⟩)
theorem zt_fld_ok {own k : Nat} {q : Nat × Nat × FieldType × Bool} (h : zt_fld own k = some q) :
    (∃ (C : String) (T : u_T) (N : Nat) (ty0 : Nat → FieldType), zt_cl[q.1]? = some (C, T, N) ∧ (∀ w ∈ u_ws C T N, w ∈ zt_T) ∧ (∀ k, k < N → parseFieldDescriptor (T k).2.2.1 = some (ty0 k)) ∧ (∀ a, a < N → ∀ b, b < N → a ≠ b → (T a).2.1 ≠ (T b).2.1) ∧ q.2.1 < N ∧ Cond.fieldLink (zt_cls own) k (T q.2.1).1 (T q.2.1).2.1 (T q.2.1).2.2.1 ∈ zt_T ∧ parseFieldDescriptor (T q.2.1).2.2.1 = some q.2.2.1 ∧ (T q.2.1).2.2.2 = q.2.2.2 ∧ (T q.2.1).1 = zt_cn q.1) ∨
    (q.1 = 99 ∧ True ∧ Cond.fieldLink (zt_cls own) k "java/lang/String" (zt_strF q.2.1).1 (zt_strF q.2.1).2 ∈ zt_T) := by
  unfold zt_fld at h
  rw [Option.map_eq_some_iff] at h
  obtain ⟨⟨o2, k2, ci, sl⟩, h1, rfl⟩ := h
  obtain ⟨hm, he⟩ := zt_fnd h1
  obtain ⟨rfl, rfl⟩ := zt_two he
  have hp := List.all_eq_true.mp zt_fldP_ok _ hm
  have hw : zt_fldW1 (o2, k2, ci, sl) ∈ zt_T := zt_in2 (List.mem_map.mpr ⟨_, hm, rfl⟩)
  by_cases h99 : ci = 99
  · right
    subst h99
    exact ⟨rfl, trivial, hw⟩
  · left
    unfold zt_fldP at hp
    dsimp only at hp
    rw [Bool.or_eq_true, Bool.and_eq_true] at hp
    rcases hp with hp | ⟨hp1, hp2⟩
    · exact absurd (by simpa using hp) h99
    · have hc : ci < zt_clL.length := by simpa using hp1
      have hs : sl < (zt_fs ci).length := by simpa using hp2
      have hfd : zt_fdOf ci sl = (zt_fs ci).getD sl zt_fd0 := by unfold zt_fdOf; rw [if_neg h99]
      refine ⟨_, _, _, zt_ty0 (zt_fs ci), zt_cl_of hc, zt_uws hc, fun j hj => (zt_tys hc j hj).1, zt_nms hc, hs, ?_, ?_, ?_, ?_⟩
      · unfold zt_fldW1 at hw
        dsimp only at hw
        rw [if_neg h99, hfd] at hw
        exact hw
      · show _ = some (zt_fdOf ci sl).2.2.2
        rw [hfd]
        exact (zt_tys hc sl hs).1
      · show _ = (zt_fdOf ci sl).2.2.1
        rw [hfd]
        rfl
      · rfl
def zt_new (own k : Nat) : Option (Nat × List FieldType) := (zt_newL.find? fun r => r.1 == own && r.2.1 == k).map fun r => (r.2.2, (zt_fs r.2.2).map fun f => f.2.2.2)
theorem zt_newP : (zt_newL.all fun r => decide (r.2.2 < zt_clL.length)) = true := by decide +kernel
theorem zt_new_ok {own k : Nat} {q : Nat × List FieldType} (h : zt_new own k = some q) : ∃ (C : String) (T : u_T) (N : Nat) (ty0 : Nat → FieldType), zt_cl[q.1]? = some (C, T, N) ∧ (∀ w ∈ u_ws C T N, w ∈ zt_T) ∧ (∀ k, k < N → parseFieldDescriptor (T k).2.2.1 = some (ty0 k)) ∧ Cond.classLink (zt_cls own) k C ∈ zt_T ∧ Cond.instantiable C N ∈ zt_T ∧ Cond.initialized C ∈ zt_T ∧ q.2.length = N ∧ (∀ j, j < N → q.2[j]? = some (ty0 j)) ∧ ∀ t ∈ q.2, zm_tyOk t = true := by
  unfold zt_new at h
  rw [Option.map_eq_some_iff] at h
  obtain ⟨⟨o2, k2, ci⟩, h1, rfl⟩ := h
  obtain ⟨hm, he⟩ := zt_fnd h1
  obtain ⟨rfl, rfl⟩ := zt_two he
  have hc : ci < zt_clL.length := by simpa using List.all_eq_true.mp zt_newP _ hm
  have hw : ∀ w ∈ ([.classLink (zt_cls o2) k2 (zt_cn ci), .instantiable (zt_cn ci) (zt_fs ci).length, .initialized (zt_cn ci)] : List Cond), w ∈ zt_T := fun w hw => zt_in5 (List.mem_flatMap.mpr ⟨_, hm, hw⟩)
  refine ⟨_, _, _, zt_ty0 (zt_fs ci), zt_cl_of hc, zt_uws hc, fun j hj => (zt_tys hc j hj).1, hw _ (by simp), hw _ (by simp), hw _ (by simp), by simp, fun j hj => ?_, fun t ht => ?_⟩
  · show ((zt_fs ci).map fun f => f.2.2.2)[j]? = _
    rw [List.getElem?_map, (zt_getD hj).1]
    rfl
  · obtain ⟨f, hf, rfl⟩ := List.mem_map.mp ht
    obtain ⟨h2, -⟩ := zt_clp hc
    unfold zt_clP at h2
    rw [Bool.and_eq_true] at h2
    have h3 := List.all_eq_true.mp h2.1 _ hf
    rw [Bool.and_eq_true] at h3
    exact h3.2
def zm_at (t : ArrayType) : Bool := zt_arc.any fun u => decide (u = t)
theorem zm_at_ok {t : ArrayType} (h : zm_at t = true) : Cond.arrayClass (newarray.typeOf t) ∈ zt_T ∧ (∀ (cA : ClassId) (n : Nat), vp_cell cA (n, .inl fun _ => 0) = arrV cA n (fun _ => defaultValue (newarray.typeOf t))) ∧ componentBytes (newarray.typeOf t) ≤ 4 := by
  have hm : t ∈ zt_arc := by
    obtain ⟨u, hu, he⟩ := List.any_eq_true.mp h
    rw [← of_decide_eq_true he]
    exact hu
  refine ⟨zt_in11 (List.mem_map.mpr ⟨t, hm, rfl⟩), ?_⟩
  unfold zm_at at h
  cases t with
  | int => exact ⟨fun _ _ => rfl, by decide⟩
  | char => exact ⟨fun _ _ => rfl, by decide⟩
  | boolean => exact ⟨fun _ _ => rfl, by decide⟩
  | byte => exact absurd h (by decide)
  | short => exact absurd h (by decide)
  | long => exact absurd h (by decide)
  | float => exact absurd h (by decide)
  | double => exact absurd h (by decide)
def zt_arr (own k : Nat) : Option String := (zt_arrL.find? fun r => r.1 == own && r.2.1 == k).map fun r => r.2.2
def zt_AO : List String := zt_arrL.map fun r => r.2.2
theorem zt_arr_ok {own k : Nat} {C : String} (h : zt_arr own k = some C) : Cond.classLink (zt_cls own) k C ∈ zt_T ∧ C ∈ zt_AO := by
  unfold zt_arr at h
  rw [Option.map_eq_some_iff] at h
  obtain ⟨⟨o2, k2, C2⟩, h1, rfl⟩ := h
  obtain ⟨hm, he⟩ := zt_fnd h1
  obtain ⟨rfl, rfl⟩ := zt_two he
  exact ⟨zt_in6 (List.mem_map.mpr ⟨_, hm, rfl⟩), List.mem_map.mpr ⟨_, hm, rfl⟩⟩
def zt_ldc (own k : Nat) : Option zmV := match zt_ldcI.find? fun r => r.1 == own && r.2.1 == k with
  | some r => some (.inl r.2.2)
  | none => (zt_strL.find? fun r => r.1 == own && r.2.1 == k).map fun r => .inr (.inr (some r.2.2.2))
theorem zt_ldc_ok {own k : Nat} {v : zmV} (h : zt_ldc own k = some v) : (∃ x, v = .inl x ∧ Cond.constant (zt_cls own) k x ∈ zt_T) ∨ ∃ tx key, v = .inr (.inr (some key)) ∧ (own, k, tx, key) ∈ zt_strL := by
  unfold zt_ldc at h
  split at h
  · next r hr =>
    obtain ⟨o2, k2, x⟩ := r
    obtain ⟨hm, he⟩ := zt_fnd hr
    obtain ⟨rfl, rfl⟩ := zt_two he
    cases h
    exact Or.inl ⟨x, rfl, zt_in7 (List.mem_map.mpr ⟨_, hm, rfl⟩)⟩
  · rw [Option.map_eq_some_iff] at h
    obtain ⟨⟨o2, k2, tx, key⟩, h1, rfl⟩ := h
    obtain ⟨hm, he⟩ := zt_fnd h1
    obtain ⟨rfl, rfl⟩ := zt_two he
    exact Or.inr ⟨tx, key, rfl, hm⟩
def zt_ldc2 (own k : Nat) : Option Int64 := (zt_ldcJ.find? fun r => r.1 == own && r.2.1 == k).map fun r => r.2.2
theorem zt_ldc2_ok {own k : Nat} {v : Int64} (h : zt_ldc2 own k = some v) : Cond.constantLong (zt_cls own) k v ∈ zt_T := by
  unfold zt_ldc2 at h
  rw [Option.map_eq_some_iff] at h
  obtain ⟨⟨o2, k2, C2⟩, h1, rfl⟩ := h
  obtain ⟨hm, he⟩ := zt_fnd h1
  obtain ⟨rfl, rfl⟩ := zt_two he
  exact zt_in8 (List.mem_map.mpr ⟨_, hm, rfl⟩)
def zt_statL : List (String × String × String × zmV) := zt_gs.map fun r => (r.2.2.1, r.2.2.2.1, r.2.2.2.2.1, r.2.2.2.2.2.1)
def zt_stat (own k : Nat) : Option zmV := (zt_gs.find? fun r => r.1 == own && r.2.1 == k).map fun r => r.2.2.2.2.2.1
def zt_NF : List (String × Nat × String × String × String × String) := (zt_gs.filter fun r => r.2.2.2.2.2.2).map fun r => (zt_cls r.1, r.2.1, r.2.2.1, r.2.2.2.1, r.2.2.2.2.1, zt_host)
theorem zt_stat_ok {own k : Nat} {v : zmV} (h : zt_stat own k = some v) : ∃ C n d, (C, n, d, v) ∈ zt_statL ∧ (Cond.fieldLink (zt_cls own) k C n d ∈ zt_T ∨ ∃ host, (zt_cls own, k, C, n, d, host) ∈ zt_NF) := by
  unfold zt_stat at h
  rw [Option.map_eq_some_iff] at h
  obtain ⟨⟨o2, k2, C, n, d, w, b⟩, h1, rfl⟩ := h
  obtain ⟨hm, he⟩ := zt_fnd h1
  obtain ⟨rfl, rfl⟩ := zt_two he
  refine ⟨C, n, d, List.mem_map.mpr ⟨_, hm, rfl⟩, ?_⟩
  cases b with
  | false => exact Or.inl (zt_in10 (List.mem_map.mpr ⟨_, List.mem_filter.mpr ⟨hm, rfl⟩, rfl⟩))
  | true => exact Or.inr ⟨zt_host, List.mem_map.mpr ⟨_, List.mem_filter.mpr ⟨hm, rfl⟩, rfl⟩⟩
def zt_oinit (own k : Nat) : Bool := zt_oinitL.contains (own, k)
theorem zt_oinit_ok {own k : Nat} (h : zt_oinit own k = true) : Cond.methodLink (zt_cls own) k Lib.objectInit ∈ zt_T ∧ Cond.instanceMethod Lib.objectInit ∈ zt_T ∧ Cond.code Lib.objectInit ⟨#[0xb1]⟩ 1 none ∈ zt_T := by
  have hm : (own, k) ∈ zt_oinitL := List.contains_iff_mem.mp h
  exact ⟨zt_in9 (List.mem_append_left _ (List.mem_map.mpr ⟨_, hm, rfl⟩)), zt_in9 (List.mem_append_right _ (by simp)), zt_in9 (List.mem_append_right _ (by simp))⟩
def zt_callP (r : Nat × Nat × (Nat × Nat × Nat × Nat) × Bool) : Bool := decide (0 < r.2.2.1.2.1) && decide (r.2.2.1.2.1 < zt_M.length) && decide ((parseMethodDescriptor (zt_name r.2.2.1.2.1).desc).map (fun d => d.parameters.length) = some (if r.2.2.1.1 = 2 then r.2.2.1.2.2.1 else r.2.2.1.2.2.1 - 1)) &&
  (if r.2.2.1.1 = 0 then !r.2.2.2 && decide (0 < r.2.2.1.2.2.1) && (if r.2.2.1.2.2.2 = 99 then decide ((zt_name r.2.2.1.2.1).cls = "java/lang/String") else decide ((zt_name r.2.2.1.2.1).cls = zt_cn r.2.2.1.2.2.2)) else if r.2.2.1.1 = 1 then decide (0 < r.2.2.1.2.2.1) && decide ((zt_name r.2.2.1.2.1).name = "<init>") && decide (zt_ret r.2.2.1.2.1 = none) else !r.2.2.2)
theorem zt_callP_ok : zt_callL.all zt_callP = true := by decide +kernel
def zt_NM : List (String × Nat × MethodName × String) := (zt_callL.filter fun r => r.2.2.2).map fun r => (zt_cls r.1, r.2.1, zt_name r.2.2.1.2.1, zt_host)
theorem zt_code_in {m2 : Nat} (h0 : 0 < m2) (h1 : m2 < zt_M.length) : Cond.code (zt_name m2) (zt_bytes m2) (zt_maxL m2) (zt_ret m2) ∈ zt_T := by
  refine zt_in4 (List.mem_map.mpr ⟨zt_m m2, ?_, rfl⟩)
  have h2 : zt_M.tail[m2 - 1]? = some (zt_m m2) := by
    rw [List.getElem?_tail, Nat.sub_add_cancel h0, List.getElem?_eq_getElem h1]
    unfold zt_m
    rw [List.getD_eq_getElem?_getD, List.getElem?_eq_getElem h1]
    rfl
  exact List.mem_of_getElem? h2
theorem zt_call_at {own k : Nat} {q : Nat × Nat × Nat × Nat} (h : zt_call own k = some q) : ∃ b, (own, k, q, b) ∈ zt_callL ∧ zt_callP (own, k, q, b) = true ∧ ∀ w ∈ zt_callW1 (own, k, q, b), w ∈ zt_T := by
  unfold zt_call at h
  rw [Option.map_eq_some_iff] at h
  obtain ⟨⟨o2, k2, q2, b⟩, h1, rfl⟩ := h
  obtain ⟨hm, he⟩ := zt_fnd h1
  obtain ⟨rfl, rfl⟩ := zt_two he
  exact ⟨b, hm, List.all_eq_true.mp zt_callP_ok _ hm, fun w hw => zt_in3 (List.mem_flatMap.mpr ⟨_, hm, hw⟩)⟩
theorem zt_call_ok0 {own k m2 n ci : Nat} (h : zt_call own k = some (0, m2, n, ci)) : Cond.methodLink (zt_cls own) k (zt_name m2) ∈ zt_T ∧ Cond.code (zt_name m2) (zt_bytes m2) (zt_maxL m2) (zt_ret m2) ∈ zt_T ∧ Cond.initialized (zt_name m2).cls ∈ zt_T ∧ ((zt_name m2).cls ≠ "java/lang/invoke/MethodHandle" ∧ (zt_name m2).cls ≠ "java/lang/invoke/VarHandle") ∧ (parseMethodDescriptor (zt_name m2).desc).map (fun d => d.parameters.length) = some (n - 1) ∧ zt_maxL m2 ≤ 21 ∧ Cond.instanceMethod (zt_name m2) ∈ zt_T ∧ Cond.selects (zt_name m2).cls (zt_name m2) (zt_name m2) ∈ zt_T ∧ (ci = 99 → (zt_name m2).cls = "java/lang/String") ∧ ∀ rc : vw_C, zt_cl[ci]? = some rc → (zt_name m2).cls = rc.1 := by
  obtain ⟨b, hm, hp, hw⟩ := zt_call_at h
  unfold zt_callP at hp
  dsimp only at hp
  rw [if_pos rfl, if_neg (by decide), Bool.and_eq_true, Bool.and_eq_true, Bool.and_eq_true, Bool.and_eq_true, Bool.and_eq_true] at hp
  obtain ⟨⟨⟨p1, p2⟩, p3⟩, ⟨p4, p5⟩, p6⟩ := hp
  have hb : b = false := by simpa using p4
  subst hb
  refine ⟨hw _ (by simp [zt_callW1]), zt_code_in (by simpa using p1) (by simpa using p2), hw _ (by simp [zt_callW1]), zt_hand m2, by simpa using p3, zt_maxL_le m2, hw _ (by simp [zt_callW1]), hw _ (by simp [zt_callW1]), fun h99 => ?_, fun rc hrc => ?_⟩
  · rw [if_pos h99] at p6
    simpa using p6
  · have hne : ci ≠ 99 := fun e => by subst e; exact absurd hrc zt_cl_99
    rw [if_neg hne] at p6
    rw [zt_cn_ok hrc]
    simpa using p6
theorem zt_call_ok1 {own k m2 n ci : Nat} (h : zt_call own k = some (1, m2, n, ci)) : (Cond.methodLink (zt_cls own) k (zt_name m2) ∈ zt_T ∨ ∃ host, (zt_cls own, k, zt_name m2, host) ∈ zt_NM) ∧ Cond.code (zt_name m2) (zt_bytes m2) (zt_maxL m2) (zt_ret m2) ∈ zt_T ∧ Cond.initialized (zt_name m2).cls ∈ zt_T ∧ ((zt_name m2).cls ≠ "java/lang/invoke/MethodHandle" ∧ (zt_name m2).cls ≠ "java/lang/invoke/VarHandle") ∧ (parseMethodDescriptor (zt_name m2).desc).map (fun d => d.parameters.length) = some (n - 1) ∧ zt_maxL m2 ≤ 21 ∧ Cond.instanceMethod (zt_name m2) ∈ zt_T ∧ (zt_name m2).name = "<init>" ∧ zt_ret m2 = none := by
  obtain ⟨b, hm, hp, hw⟩ := zt_call_at h
  unfold zt_callP at hp
  dsimp only at hp
  rw [if_neg (by decide), if_neg (by decide), if_pos rfl, Bool.and_eq_true, Bool.and_eq_true, Bool.and_eq_true, Bool.and_eq_true, Bool.and_eq_true] at hp
  obtain ⟨⟨⟨p1, p2⟩, p3⟩, ⟨p4, p5⟩, p6⟩ := hp
  refine ⟨?_, zt_code_in (by simpa using p1) (by simpa using p2), hw _ (by simp [zt_callW1]), zt_hand m2, by simpa using p3, zt_maxL_le m2, hw _ (by simp [zt_callW1]), by simpa using p5, by simpa using p6⟩
  cases b with
  | false => exact Or.inl (hw _ (by simp [zt_callW1]))
  | true => exact Or.inr ⟨zt_host, List.mem_map.mpr ⟨_, List.mem_filter.mpr ⟨hm, rfl⟩, rfl⟩⟩
theorem zt_call_ok2 {own k m2 n ci : Nat} (h : zt_call own k = some (2, m2, n, ci)) : Cond.methodLink (zt_cls own) k (zt_name m2) ∈ zt_T ∧ Cond.code (zt_name m2) (zt_bytes m2) (zt_maxL m2) (zt_ret m2) ∈ zt_T ∧ Cond.initialized (zt_name m2).cls ∈ zt_T ∧ ((zt_name m2).cls ≠ "java/lang/invoke/MethodHandle" ∧ (zt_name m2).cls ≠ "java/lang/invoke/VarHandle") ∧ (parseMethodDescriptor (zt_name m2).desc).map (fun d => d.parameters.length) = some n ∧ zt_maxL m2 ≤ 21 ∧ Cond.static (zt_name m2) ∈ zt_T := by
  obtain ⟨b, hm, hp, hw⟩ := zt_call_at h
  unfold zt_callP at hp
  dsimp only at hp
  rw [if_pos rfl, if_neg (by decide), if_neg (by decide), Bool.and_eq_true, Bool.and_eq_true, Bool.and_eq_true] at hp
  obtain ⟨⟨⟨p1, p2⟩, p3⟩, p4⟩ := hp
  have hb : b = false := by simpa using p4
  subst hb
  exact ⟨hw _ (by simp [zt_callW1]), zt_code_in (by simpa using p1) (by simpa using p2), hw _ (by simp [zt_callW1]), zt_hand m2, by simpa using p3, zt_maxL_le m2, hw _ (by simp [zt_callW1])⟩
theorem zt_goodT : zt_T.all goodWord = true := by decide +kernel
theorem zt_good (w : Cond) (h : w ∈ zt_T) : (w.onTables && w.keeps) = true ∨ ∃ ty, w = .arrayClass ty := good_of_word (List.all_eq_true.mp zt_goodT w h)
end
section
def zm_tab (pc : Nat) (d lo hi : Int) (offs : Array Int) (x : Int32) : Option Nat :=
  if x.toInt < lo ∨ hi < x.toInt then zm_tgt pc d else match offs[(x.toInt - lo).toNat]? with
  | some off => zm_tgt pc off
  | none => none
def zm_small (n : Int32) : Bool := decide (¬ n < 0) && decide (n.toNatClampNeg ≤ 1000)
def zm_free (h : zmH) (s : Nat) : Bool := decide (8 ≤ s) && (zm_get h (s, h.2.1 s)).isNone
def zm_step (mi pc : Nat) (i : Instr) (L : zmL) (st : List zmV) (h : zmH) : Option (Nat × zmL × List zmV × zmH) := match i with
  | .iload n => (zm_ld L n 0).map fun v => (pc + 2, L, v :: st, h)
  | .iload_n n => (zm_ld L n 0).map fun v => (pc + 1, L, v :: st, h)
  | .lload n => (zm_ld L n 1).map fun v => (pc + 2, L, v :: st, h)
  | .lload_n n => (zm_ld L n 1).map fun v => (pc + 1, L, v :: st, h)
  | .aload n => (zm_ld L n 2).map fun v => (pc + 2, L, v :: st, h)
  | .aload_n n => (zm_ld L n 2).map fun v => (pc + 1, L, v :: st, h)
  | .istore n => (zm_sto (zt_lslot mi) L n 0 st).map fun q => (pc + 2, q.1, q.2, h)
  | .istore_n n => (zm_sto (zt_lslot mi) L n 0 st).map fun q => (pc + 1, q.1, q.2, h)
  | .astore n => (zm_sto (zt_lslot mi) L n 2 st).map fun q => (pc + 2, q.1, q.2, h)
  | .astore_n n => (zm_sto (zt_lslot mi) L n 2 st).map fun q => (pc + 1, q.1, q.2, h)
  | .lstore n => (zm_stoL (zt_lslot mi) L n st).map fun q => (pc + 2, q.1, q.2, h)
  | .lstore_n n => (zm_stoL (zt_lslot mi) L n st).map fun q => (pc + 1, q.1, q.2, h)
  | .iinc n d => (zm_inc (zt_lslot mi) L n d).map fun q => (pc + 3, q, st, h)
  | .bipush n => some (pc + 2, L, .inl (Int8.ofInt n).toInt32 :: st, h)
  | .sipush n => some (pc + 3, L, .inl (Int16.ofInt n).toInt32 :: st, h)
  | .ldc k => (zt_ldc (zt_own mi) k).map fun v => (pc + 2, L, v :: st, h)
  | .ldc2_w k => (zt_ldc2 (zt_own mi) k).map fun v => (pc + 3, L, .inr (.inl v) :: st, h)
  | .goto off => (zm_tgt pc off).map fun t => (t, L, st, h)
  | .ifCond c off => match st with
    | .inl x :: r => (zm_tgt pc off).map fun t => (if zm_cmp c x 0 = true then t else pc + 3, L, r, h)
    | _ => none
  | .if_icmp c off => match st with
    | .inl y :: .inl x :: r => (zm_tgt pc off).map fun t => (if zm_cmp c x y = true then t else pc + 3, L, r, h)
    | _ => none
  | .ifnull off => match st with
    | .inr (.inr q) :: r => if zm_n7 q = true then (zm_tgt pc off).map fun t => (if q = none then t else pc + 3, L, r, h) else none
    | _ => none
  | .ifnonnull off => match st with
    | .inr (.inr q) :: r => if zm_n7 q = true then (zm_tgt pc off).map fun t => (if q = none then pc + 3 else t, L, r, h) else none
    | _ => none
  | .tableswitch d lo hi offs => match st with
    | .inl x :: r => (zm_tab pc d lo hi offs x).map fun t => (t, L, r, h)
    | _ => none
  | .getfield k => match st with
    | .inr (.inr (some r)) :: rest => match zt_fld (zt_own mi) k with
      | some q => if zm_isF h r q.1 q.2.1 = true then some (pc + 3, L, zm_getF h r q.2.1 :: rest, h) else none
      | none => none
    | _ => none
  | .putfield k => match st with
    | v :: .inr (.inr (some r)) :: rest => match zt_fld (zt_own mi) k with
      | some q => if zm_isF h r q.1 q.2.1 = true ∧ zm_fit q.2.2.1 v = true ∧ 8 ≤ r.1 ∧ (q.2.2.2 = false ∨ (zt_init mi = true ∧ zt_cn q.1 = zt_cls (zt_own mi))) then some (pc + 3, L, rest, zm_putF h r q.2.1 v) else none
      | none => none
    | _ => none
  | .getstatic k => (zt_stat (zt_own mi) k).map fun v => (pc + 3, L, v :: st, h)
  | .iaload => match st with
    | .inl i :: .inr (.inr (some r)) :: rest => if zm_inI h r .int i = true then some (pc + 1, L, .inl (zm_ldI h r i) :: rest, h) else none
    | _ => none
  | .caload => match st with
    | .inl i :: .inr (.inr (some r)) :: rest => if zm_inI h r .char i = true ∧ 8 ≤ r.1 then some (pc + 1, L, .inl (zm_ldI h r i) :: rest, h) else none
    | _ => none
  | .baload => match st with
    | .inl i :: .inr (.inr (some r)) :: rest => if (zm_inI h r .byte i = true ∧ r.1 < 8) ∨ (zm_inI h r .boolean i = true ∧ 8 ≤ r.1) then some (pc + 1, L, .inl (zm_ldI h r i) :: rest, h) else none
    | _ => none
  | .aaload => match st with
    | .inl i :: .inr (.inr (some r)) :: rest => if zm_inQ h r i = true ∧ 8 ≤ r.1 then some (pc + 1, L, .inr (.inr (zm_ldQ h r i)) :: rest, h) else none
    | _ => none
  | .iastore => match st with
    | .inl x :: .inl i :: .inr (.inr (some r)) :: rest => if zm_inI h r .int i = true ∧ 8 ≤ r.1 then some (pc + 1, L, rest, zm_stI h r i x) else none
    | _ => none
  | .castore => match st with
    | .inl x :: .inl i :: .inr (.inr (some r)) :: rest => if zm_inI h r .char i = true ∧ 8 ≤ r.1 then some (pc + 1, L, rest, zm_stI h r i (vp_nar .char x)) else none
    | _ => none
  | .bastore => match st with
    | .inl x :: .inl i :: .inr (.inr (some r)) :: rest => if zm_inI h r .boolean i = true ∧ 8 ≤ r.1 then some (pc + 1, L, rest, zm_stI h r i (vp_nar .boolean x)) else none
    | _ => none
  | .aastore => match st with
    | .inr (.inr (some x)) :: .inl i :: .inr (.inr (some r)) :: rest => if zm_inQ h r i = true ∧ zm_okQ zt_cn h r x = true ∧ 8 ≤ r.1 ∧ 8 ≤ x.1 then some (pc + 1, L, rest, zm_stQ h r i x) else none
    | _ => none
  | .arraylength => match st with
    | .inr (.inr (some r)) :: rest => if zm_isA h r = true then some (pc + 1, L, .inl (zm_len h r) :: rest, h) else none
    | _ => none
  | .new k => match zt_new (zt_own mi) k with
    | some q => if zm_free h (zt_site mi pc) = true then some (pc + 3, L, .inr (.inr (some (zt_site mi pc, h.2.1 (zt_site mi pc)))) :: st, zm_new h (zt_site mi pc) (.inr (q.1, q.2.map zm_dflt)) q.2.length) else none
    | none => none
  | .newarray t => match st with
    | .inl n :: rest => if zm_free h (zt_site mi pc) = true ∧ zm_small n = true ∧ zm_at t = true then some (pc + 2, L, .inr (.inr (some (zt_site mi pc, h.2.1 (zt_site mi pc)))) :: rest, zm_new h (zt_site mi pc) (.inl (newarray.typeOf t, n.toNatClampNeg, .inl fun _ => 0)) n.toNatClampNeg) else none
    | _ => none
  | .anewarray k => match st with
    | .inl n :: rest => match zt_arr (zt_own mi) k with
      | some C => if zm_free h (zt_site mi pc) = true ∧ zm_small n = true then some (pc + 3, L, .inr (.inr (some (zt_site mi pc, h.2.1 (zt_site mi pc)))) :: rest, zm_new h (zt_site mi pc) (.inl (.object C, n.toNatClampNeg, .inr fun _ => none)) n.toNatClampNeg) else none
      | none => none
    | _ => none
  | .invokespecial k => match st with
    | .inr (.inr (some r)) :: rest => if zt_oinit (zt_own mi) k = true ∧ rest.length ≤ 4 ∧ 8 ≤ r.1 then some (pc + 3, L, rest, h) else none
    | _ => none
  | .invokestatic k => match st with
    | .inl y :: .inl x :: rest => if zt_max (zt_own mi) k = true ∧ rest.length ≤ 4 then some (pc + 3, L, .inl (if x < y then y else x) :: rest, h) else none
    | _ => none
  | i => (zm_alu i st).map fun q => (pc + 1, L, q, h)
def zm_ret (mi : Nat) (i : Instr) (st : List zmV) : Option (Option zmV) := match i with
  | .ireturn => match st, zt_ret mi with
    | [.inl x], some ty => if zm_fit ty (.inl x) = true then some (some (.inl x)) else none
    | _, _ => none
  | .areturn => match st, zt_ret mi with
    | [.inr (.inr q)], some (.object _) => some (some (.inr (.inr q)))
    | _, _ => none
  | .return_ => match st, zt_ret mi with
    | [], none => some none
    | _, _ => none
  | _ => none
def zm_tk (n : Nat) (st : List zmV) : Option (List zmV × List zmV) := match n, st with
  | 0, st => some ([], st)
  | n + 1, v :: st => (zm_tk n st).map fun q => (q.1 ++ [v], q.2)
  | _, _ => none
def zm_recv (h : zmH) (ci : Nat) (as : List zmV) : Bool := match as with
  | .inr (.inr (some r)) :: _ => zm_isO h r ci
  | _ => false
def zm_call (mi : Nat) (i : Instr) (st : List zmV) (h : zmH) : Option (Nat × List zmV × List zmV) := match i with
  | .invokevirtual k => match zt_call (zt_own mi) k with
    | some (0, m2, n, ci) => match zm_tk n st with
      | some q => if zm_recv h ci q.1 = true ∧ q.2.length ≤ 4 then some (m2, q.1, q.2) else none
      | none => none
    | _ => none
  | .invokespecial k => match zt_call (zt_own mi) k with
    | some (1, m2, n, _) => match zm_tk n st with
      | some q => if zm_nn q.1 = true ∧ q.2.length ≤ 4 then some (m2, q.1, q.2) else none
      | none => none
    | _ => none
  | .invokestatic k => match zt_call (zt_own mi) k with
    | some (2, m2, n, _) => match zm_tk n st with
      | some q => if q.2.length ≤ 4 then some (m2, q.1, q.2) else none
      | none => none
    | _ => none
  | _ => none
def zm_Run (C : Nat → List zmV → zmH → zmO → Prop) (mi : Nat) : Nat → Nat → zmL → List zmV → zmH → zmO → Prop
  | 0, _, _, _, _, _ => False
  | n + 1, pc, L, st, h, o => match zt_fetch mi pc with
    | none => False
    | some i => match zm_step mi pc i L st h with
      | some q => zm_Run C mi n q.1 q.2.1 q.2.2.1 q.2.2.2 o
      | none => match zm_ret mi i st with
        | some v => o = (v, h)
        | none => match zm_call mi i st h with
          | some q => ∃ r : zmO, C q.1 q.2.1 h r ∧ zm_Run C mi n (pc + 3) L (r.1.toList ++ q.2.2) r.2 o
          | none => False
def zm_lay (as : List zmV) : zmL := match as with
  | [] => []
  | .inr (.inl x) :: r => some (.inr (.inl x)) :: none :: zm_lay r
  | v :: r => some v :: zm_lay r
def zm_lng (k : Nat) (as : List zmV) : List Nat := match as with
  | [] => []
  | .inr (.inl _) :: r => k :: zm_lng (k + 2) r
  | _ :: r => zm_lng (k + 1) r
def zm_ini (mi : Nat) (as : List zmV) : zmL := zm_lay as ++ List.replicate (zt_maxL mi - (zm_lay as).length) none
def zm_layOk (mi : Nat) (as : List zmV) : Bool := decide ((zm_lay as).length ≤ zt_maxL mi) && (zm_lng 0 as).all fun k => (zt_lslot mi).contains k
def zm_Calls : Nat → Nat → List zmV → zmH → zmO → Prop
  | 0 => fun _ _ _ _ => False
  | d + 1 => fun mi as h o => zm_layOk mi as = true ∧ ∃ n, zm_Run (zm_Calls d) mi n 0 (zm_ini mi as) [] h o
end
section
def zm_ro (φ : zmK → Option Nat) (A : Nat → Prop) (s : State) (h : zmH) : Prop :=
  (∀ k ty n f, k.1 < 8 → zm_get h k = some (.inl (ty, n, .inl f)) → ∃ a, φ k = some a ∧ va_T ty a n (fun j => .int (f j)) A s s.heap) ∧
  (∀ k ty n f, k.1 < 8 → zm_get h k ≠ some (.inl (ty, n, .inr f))) ∧
  (∀ k ci fs, k.1 < 8 → zm_get h k = some (.inr (ci, fs)) → ci = 99 ∧ ∃ a, φ k = some a ∧ va_O "java/lang/String" a A s s.heap ∧ ∀ j v, fs[j]? = some v → ∃ w, zm_vr φ v w ∧ va_OF "java/lang/String" (zt_strF j).1 (zt_strF j).2 w a A s s.heap) ∧
  (∀ q ∈ zt_statL, ∃ w, zm_vr φ q.2.2.2 w ∧ va_Z q.1 q.2.1 q.2.2.1 w A s s.heap) ∧
  (∀ q ∈ zt_strL, ∃ a, φ q.2.2.2 = some a ∧ vk_R (zt_cls q.1) q.2.1 q.2.2.1 a s) ∧
  (∀ C ∈ zt_AO, va_AO C s) ∧
  (∀ q ∈ zt_NM, va_Nw (.methodLinkNest q.1 q.2.1 q.2.2.1 q.2.2.2) s) ∧
  (∀ q ∈ zt_NF, va_Nw (.fieldLinkNest q.1 q.2.1 q.2.2.1 q.2.2.2.1 q.2.2.2.2.1 q.2.2.2.2.2) s) ∧
  (∀ k : zmK, k.1 = 7 → zm_get h k = none)
theorem zm_ro.keep {φ ψ : zmK → Option Nat} {A : Nat → Prop} {s : State} {h h2 : zmH} (H : zm_ro φ A s h) (hl : zm_le φ ψ) (hg : ∀ k : zmK, k.1 < 8 → zm_get h2 k = zm_get h k) : zm_ro ψ A s h2 := by
  refine ⟨fun k ty n f h8 hk => ?_, fun k ty n f h8 hk => ?_, fun k ci fs h8 hk => ?_, fun q hq => ?_, fun q hq => ?_, H.2.2.2.2.2.1, H.2.2.2.2.2.2.1, H.2.2.2.2.2.2.2.1, fun k h7 => by rw [hg k (by omega)]; exact H.2.2.2.2.2.2.2.2 k h7⟩
  · rw [hg k h8] at hk
    obtain ⟨a, h1, h2⟩ := H.1 k ty n f h8 hk
    exact ⟨a, hl _ _ h1, h2⟩
  · rw [hg k h8] at hk
    exact H.2.1 k ty n f h8 hk
  · rw [hg k h8] at hk
    obtain ⟨h0, a, h1, h2, h3⟩ := H.2.2.1 k ci fs h8 hk
    refine ⟨h0, a, hl _ _ h1, h2, fun j v hv => ?_⟩
    obtain ⟨w, g1, g2⟩ := h3 j v hv
    exact ⟨w, g1.le hl, g2⟩
  · obtain ⟨w, g1, g2⟩ := H.2.2.2.1 q hq
    exact ⟨w, g1.le hl, g2⟩
  · obtain ⟨a, g1, g2⟩ := H.2.2.2.2.1 q hq
    exact ⟨a, hl _ _ g1, g2⟩
theorem zm_ro.call {φ : zmK → Option Nat} {A B : Nat → Prop} {s U : State} {h : zmH} {H : Heap} {locs : List Loc} (X : zm_ro φ A s h) (hS : va_S A s.heap H locs) (hB : ∀ q, B q → A q) (hU : U.heap = H) (hW : s.WarmedH U.vm) : zm_ro φ B U h := by
  subst hU
  refine ⟨fun k ty n f h8 hk => ?_, X.2.1, fun k ci fs h8 hk => ?_, fun q hq => ?_, fun q hq => ?_, fun C hC => va_AO.moved hW.alike (X.2.2.2.2.2.1 C hC), fun q hq => (X.2.2.2.2.2.2.1 q hq).warmM hW, fun q hq => (X.2.2.2.2.2.2.2.1 q hq).warmF hW, X.2.2.2.2.2.2.2.2⟩
  · obtain ⟨a, h1, h2⟩ := X.1 k ty n f h8 hk
    exact ⟨a, h1, ((h2.moved hW.alike).kept hS.2.1).narrow hB⟩
  · obtain ⟨h0, a, h1, h2, h3⟩ := X.2.2.1 k ci fs h8 hk
    refine ⟨h0, a, h1, ((h2.moved hW.alike).kept hS.2.1).narrow hB, fun j v hv => ?_⟩
    obtain ⟨w, g1, g2⟩ := h3 j v hv
    exact ⟨w, g1, ((g2.moved hW.alike).kept hS.2.1).narrow hB⟩
  · obtain ⟨w, g1, g2⟩ := X.2.2.2.1 q hq
    exact ⟨w, g1, ((g2.moved hW.alike).kept hS.2.1).narrow hB⟩
  · obtain ⟨a, g1, g2⟩ := X.2.2.2.2.1 q hq
    exact ⟨a, g1, g2.warm hW⟩
theorem zm_ro.calling {φ : zmK → Option Nat} {A : Nat → Prop} {U : State} {h : zmH} (X : zm_ro φ A U h) (g : JFrame) (mk : MethodId) (a : Array Value) : zm_ro φ A (U.calling g mk a) h := by
  refine ⟨fun k ty n f h8 hk => ?_, X.2.1, fun k ci fs h8 hk => ?_, fun q hq => ?_, fun q hq => ?_, fun C hC => va_AO.moved (u := U) (U := U.calling g mk a) (Vm.Alike.refl U.vm) (X.2.2.2.2.2.1 C hC), fun q hq => (X.2.2.2.2.2.2.1 q hq).same rfl rfl, fun q hq => (X.2.2.2.2.2.2.2.1 q hq).same rfl rfl, X.2.2.2.2.2.2.2.2⟩
  · obtain ⟨b, h1, h2⟩ := X.1 k ty n f h8 hk
    exact ⟨b, h1, h2.moved (U := U.calling g mk a) (Vm.Alike.refl U.vm)⟩
  · obtain ⟨h0, b, h1, h2, h3⟩ := X.2.2.1 k ci fs h8 hk
    refine ⟨h0, b, h1, h2.moved (U := U.calling g mk a) (Vm.Alike.refl U.vm), fun j v hv => ?_⟩
    obtain ⟨w, g1, g2⟩ := h3 j v hv
    exact ⟨w, g1, g2.moved (U := U.calling g mk a) (Vm.Alike.refl U.vm)⟩
  · obtain ⟨w, g1, g2⟩ := X.2.2.2.1 q hq
    exact ⟨w, g1, g2.moved (U := U.calling g mk a) (Vm.Alike.refl U.vm)⟩
  · obtain ⟨b, g1, g2⟩ := X.2.2.2.2.1 q hq
    exact ⟨b, g1, g2.same (U := U.calling g mk a) rfl⟩
theorem zm_ro.key {φ : zmK → Option Nat} {A : Nat → Prop} {s : State} {h : zmH} (X : zm_ro φ A s h) {k : zmK} {c : zmC} {w : Value} (hg : zm_get h k = some c) (hv : zm_vr φ (.inr (.inr (some k))) w) : ∃ a, φ k = some a ∧ w = .ref a :=
  zm_vr_n7 hv (fun e => by rw [X.2.2.2.2.2.2.2.2 k e] at hg; cases hg)
def zm_I (D : va_G) (A : Nat → Prop) (s : State) (mi : Nat) (φ : zmK → Option Nat) (L : zmL) (st : List zmV) (h : zmH) (H : Heap) (locs : List Loc) (ls : Array Slot) (rs : List Value) : Prop :=
  ∃ (ws : va_W) (tys : List (ClassId × FieldType)) (lv : List (Nat × Value)), va_K D zt_cl tys s ∧ va_P D zt_cl ws H ∧ va_D A ws ∧ va_S A s.heap H locs ∧ zm_hr φ tys h ws ∧ zm_ro φ A s h ∧ lv_has ls (zt_maxL mi) lv ∧ L.length = zt_maxL mi ∧ zm_lr φ (zt_lslot mi) L lv ∧ zm_sr φ st rs
def zm_Cx (p : Program) (s : State) (m : MethodId) (args : Array Value) (meth : Method) (c : Code) (A : Nat → Prop) (mi : Nat) : Prop :=
  p.tables.exec = Jvm.exec ∧ c.code = zt_bytes mi ∧ meth.sig.returnType = zt_ret mi ∧ c.maxLocals = zt_maxL mi ∧ s.vm.findClass (zt_cls (zt_own mi)) = some m.cls ∧ (∀ w ∈ zt_T, w.before args s = true) ∧ meth.locks = false ∧ (zt_init mi = true → meth.name = "<init>") ∧ ∀ q, s.heap.size ≤ q → A q
theorem zm_I.stack {D : va_G} {A : Nat → Prop} {s : State} {mi : Nat} {φ : zmK → Option Nat} {L : zmL} {st st2 : List zmV} {h : zmH} {H : Heap} {locs : List Loc} {ls : Array Slot} {rs rs2 : List Value} (X : zm_I D A s mi φ L st h H locs ls rs) (hr : zm_sr φ st2 rs2) : zm_I D A s mi φ L st2 h H locs ls rs2 := by
  obtain ⟨ws, tys, lv, h1, h2, h3, h4, h5, h6, h7, h8, h9, -⟩ := X
  exact ⟨ws, tys, lv, h1, h2, h3, h4, h5, h6, h7, h8, h9, hr⟩
theorem zm_I.sr {D : va_G} {A : Nat → Prop} {s : State} {mi : Nat} {φ : zmK → Option Nat} {L : zmL} {st : List zmV} {h : zmH} {H : Heap} {locs : List Loc} {ls : Array Slot} {rs : List Value} (X : zm_I D A s mi φ L st h H locs ls rs) : zm_sr φ st rs := by
  obtain ⟨ws, tys, lv, -, -, -, -, -, -, -, -, -, hr⟩ := X
  exact hr
section ZMB
variable {p : Program} {l : Launch} {e : Env} {R : Room} {s : State} {m : MethodId} {args : Array Value} {below : List Frame} {meth : Method} {c : Code} {H : Heap} {locs : List Loc} {cells slots : Nat} {Q : State → Prop}
variable {pc mi : Nat} {ls : Array Slot} {rs : List Value} {φ : zmK → Option Nat} {st : List zmV} {L : zmL} {h : zmH} {D : va_G} {A : Nat → Prop}
theorem zm_I.store {v : zmV} {r : List zmV} {w : Value} {rr : List Value} {n : Nat} {ls2 : Array Slot} (X : zm_I D A s mi φ L (v :: r) h H locs ls (w :: rr)) (hw : w.category = 1) (hn : n < L.length) (h2 : zm_no2 (zt_lslot mi) n = true)
    (hls : ∀ lv, lv_has ls (zt_maxL mi) lv → lv_has ls2 (zt_maxL mi) ((n, w) :: lv.filter (fun q => !(q.1 == n) && !(q.1 + 1 == n && q.2.category == 2)))) : zm_I D A s mi φ (L.set n (some v)) r h H locs ls2 rr := by
  obtain ⟨ws, tys, lv, h1, g2, h3, h4, h5, h6, h7, h8, h9, w1, r1, e1, hv, hr⟩ := X
  cases e1
  exact ⟨ws, tys, _, h1, g2, h3, h4, h5, h6, hls lv h7, by rw [List.length_set]; exact h8, h9.store hv hw hn h2, hr⟩
theorem zm_store_ok {i : Instr} {k : Nat} {v : zmV} {r : List zmV} {w : Value} {rr : List Value} {n : Nat} (X : zm_I D A s mi φ L (v :: r) h H locs ls (w :: rr)) (hw : w.category = 1) (hn : n < L.length) (h2 : zm_no2 (zt_lslot mi) n = true)
    (row : ∀ lv, lv_has ls (zt_maxL mi) lv → n < zt_maxL mi → (∀ ls2 : Array Slot, lv_has ls2 (zt_maxL mi) ((n, w) :: lv.filter (fun q => !(q.1 == n) && !(q.1 + 1 == n && q.2.category == 2))) → W p l e R s m args below meth c H locs cells slots Q (F0 m (pc + k) ls2 rr)) → W p l e R s m args below meth c H locs cells slots Q (F0 m pc ls (w :: rr)))
    (kk : ∀ ls2, zm_I D A s mi φ (L.set n (some v)) r h H locs ls2 rr → W p l e R s m args below meth c H locs cells slots Q (F0 m (pc + k) ls2 rr)) : W p l e R s m args below meth c H locs cells slots Q (F0 m pc ls (w :: rr)) := by
  obtain ⟨ws, tys, lv, h1, g2, h3, h4, h5, h6, h7, h8, h9, w1, r1, e1, hv, hr⟩ := X
  cases e1
  exact row lv h7 (by rw [← h8]; exact hn) (fun ls2 hl2 => kk ls2 ⟨ws, tys, _, h1, g2, h3, h4, h5, h6, hl2, by rw [List.length_set]; exact h8, h9.store hv hw hn h2, hr⟩)
theorem zm_storeL_ok {k : Nat} {r : List zmV} {x : Int64} {rr : List Value} {n : Nat} (X : zm_I D A s mi φ L (.inr (.inl x) :: r) h H locs ls (.long x :: rr)) (hn : n + 1 < L.length) (h2 : zm_no2 (zt_lslot mi) n = true) (hm : n ∈ zt_lslot mi)
    (row : ∀ lv, lv_has ls (zt_maxL mi) lv → n + 1 < zt_maxL mi → (∀ ls2 : Array Slot, lv_has ls2 (zt_maxL mi) ((n, .long x) :: lv.filter (fun q => !(q.1 == n) && (!(q.1 == n + 1) && !(q.1 + 1 == n && q.2.category == 2)))) → W p l e R s m args below meth c H locs cells slots Q (F0 m (pc + k) ls2 rr)) → W p l e R s m args below meth c H locs cells slots Q (F0 m pc ls (.long x :: rr)))
    (kk : ∀ ls2, zm_I D A s mi φ ((L.set n (some (.inr (.inl x)))).set (n + 1) none) r h H locs ls2 rr → W p l e R s m args below meth c H locs cells slots Q (F0 m (pc + k) ls2 rr)) : W p l e R s m args below meth c H locs cells slots Q (F0 m pc ls (.long x :: rr)) := by
  obtain ⟨ws, tys, lv, h1, g2, h3, h4, h5, h6, h7, h8, h9, w1, r1, e1, hv, hr⟩ := X
  cases e1
  exact row lv h7 (by rw [← h8]; exact hn) (fun ls2 hl2 => kk ls2 ⟨ws, tys, _, h1, g2, h3, h4, h5, h6, hl2, by rw [List.length_set, List.length_set]; exact h8, h9.storeL hn h2 hm, hr⟩)
theorem zm_I.at {n : Nat} {v : zmV} (X : zm_I D A s mi φ L st h H locs ls rs) (hv : L[n]? = some (some v)) : ∃ w, ls[n]? = some (.val w) ∧ zm_vr φ v w := by
  obtain ⟨ws, tys, lv, h1, g2, h3, h4, h5, h6, h7, h8, h9, hr⟩ := X
  exact zm_lr.at h7 h9 hv
theorem zm_I.obj {r : zmK} {ci : Nat} {fs : List zmV} (X : zm_I D A s mi φ L st h H locs ls rs) (hr : zm_get h r = some (.inr (ci, fs))) (h8 : 8 ≤ r.1) : ∃ (ws : va_W) (tys : List (ClassId × FieldType)) (i a : Nat) (gs : List Value), va_K D zt_cl tys s ∧ va_P D zt_cl ws H ∧ φ r = some a ∧ ws[i]? = some (a, .inr (ci, gs)) ∧ zm_sr φ fs gs := by
  obtain ⟨ws, tys, lv, h1, g2, h3, h4, h5, -⟩ := X
  obtain ⟨i, a, e, q1, q2, gs, q3, rfl⟩ := h5.1 r _ hr h8
  exact ⟨ws, tys, i, a, gs, h1, g2, q1, q2, q3⟩
end ZMB
theorem zm_isF_inv {h : zmH} {r : zmK} {ci k : Nat} (q : zm_isF h r ci k = true) : ∃ fs v, zm_get h r = some (.inr (ci, fs)) ∧ fs[k]? = some v ∧ zm_getF h r k = v ∧ k < fs.length := by
  unfold zm_isF at q
  split at q
  · next c0 fs hg =>
    rw [Bool.and_eq_true] at q
    have h1 : c0 = ci := by simpa using q.1
    have h2 : k < fs.length := by simpa using q.2
    subst h1
    refine ⟨fs, fs[k], hg, List.getElem?_eq_getElem h2, ?_, h2⟩
    unfold zm_getF
    rw [hg]
    simp [h2]
  · cases q
theorem zm_putF_eq {h : zmH} {r : zmK} {ci k : Nat} {fs : List zmV} {v : zmV} (hg : zm_get h r = some (.inr (ci, fs))) : zm_putF h r k v = zm_set h r (.inr (ci, fs.set k v)) := by
  unfold zm_putF; rw [hg]
theorem zm_set_ro {h : zmH} {r : zmK} {c : zmC} (h8 : 8 ≤ r.1) (k : zmK) (hk : k.1 < 8) : zm_get (zm_set h r c) k = zm_get h k := by
  rw [zm_get_set, if_neg]
  intro e; subst e; omega
theorem zm_new_ro {h : zmH} {s : Nat} {c : zmC} {sl : Nat} (h8 : 8 ≤ s) (k : zmK) (hk : k.1 < 8) : zm_get (zm_new h s c sl) k = zm_get h k := by
  rw [zm_get_new, if_neg]
  intro e; subst e; exact absurd hk (by simpa using h8)
theorem zm_fit_ok {φ : zmK → Option Nat} {ty : FieldType} {v : zmV} {w : Value} (hf : zm_fit ty v = true) (hv : zm_vr φ v w) : narrow ty w = w ∧ fits ty w = true := by
  rcases v with x | x | q
  · have hw : w = .int x := hv
    subst hw
    cases ty with
    | int => exact ⟨rfl, rfl⟩
    | boolean =>
      have hx : x = 0 ∨ x = 1 := by simpa [zm_fit] using hf
      rcases hx with rfl | rfl <;> exact ⟨by decide, by decide⟩
    | char =>
      have hx : 0 ≤ x ∧ x ≤ 65535 := by simpa [zm_fit] using hf
      have h0 : (0 : Int) ≤ x.toInt := by have := Int32.le_iff_toInt_le.mp hx.1; simpa using this
      have h1 : x.toInt ≤ 65535 := by have := Int32.le_iff_toInt_le.mp hx.2; simpa using this
      refine ⟨?_, ?_⟩
      · show Value.int x.toUInt32.toUInt16.toUInt32.toInt32 = Value.int x
        rw [lg_i2c_small h0 (by omega)]
      · show (decide (0 ≤ x) && decide (x ≤ 65535)) = true
        simp [hx.1, hx.2]
    | byte =>
      have hx : x.toInt8.toInt32 = x := by simpa [zm_fit] using hf
      refine ⟨?_, ?_⟩
      · show Value.int x.toInt8.toInt32 = Value.int x
        rw [hx]
      · have := pk_fb x
        rw [hx] at this
        exact this
    | _ => cases hf
  · cases ty <;> cases hf
  · rcases zm_vr_ref hv with rfl | ⟨a, rfl⟩ <;> cases ty <;> first | exact ⟨rfl, rfl⟩ | cases hf
section ZMC
variable {p : Program} {l : Launch} {e : Env} {R : Room} {s : State} {m : MethodId} {args : Array Value} {below : List Frame} {meth : Method} {c : Code} {H : Heap} {locs : List Loc} {cells slots : Nat} {Q : State → Prop}
variable {pc mi : Nat} {ls : Array Slot} {rs : List Value} {φ : zmK → Option Nat} {st rest : List zmV} {L : zmL} {h : zmH} {D : va_G} {A : Nat → Prop}
theorem zm_getfield_ok {k : Nat} {r : zmK} {q : Nat × Nat × FieldType × Bool} (X : zm_Cx p s m args meth c A mi) (hI : zm_I D A s mi φ L (.inr (.inr (some r)) :: rest) h H locs ls rs) (hdg : decode (zt_bytes mi) pc = .ok (.getfield k, 3)) (hf : zt_fld (zt_own mi) k = some q) (hF : zm_isF h r q.1 q.2.1 = true)
    (kk : ∀ rs2, zm_I D A s mi φ L (zm_getF h r q.2.1 :: rest) h H locs ls rs2 → W p l e R s m args below meth c H locs cells slots Q (F0 m (pc + 3) ls rs2)) : W p l e R s m args below meth c H locs cells slots Q (F0 m pc ls rs) := by
  obtain ⟨hx, hb, hr, hml, hown, hts, hlocks, hin, hA⟩ := X
  obtain ⟨fs, v, hg, hv, he, hlt⟩ := zm_isF_inv hF
  have hI0 := hI
  obtain ⟨ws, tys, lv, hK, hP, hD, hS, hH, hro, hl, hL, hlr, w0, rr, rfl, hva, hrr⟩ := hI
  obtain ⟨a, ha, rfl⟩ := hro.key hg hva
  by_cases h8 : 8 ≤ r.1
  · obtain ⟨i, b, e2, q1, q2, gs, q3, rfl⟩ := hH.1 r _ hg h8
    have hab : a = b := Option.some.inj (ha.symm.trans q1)
    subst hab
    obtain ⟨w, hw, hvr⟩ := zm_sr.get q3 hv
    rcases zt_fld_ok hf with ⟨C, T, N, ty0, hc, hu, hty, hnm, hk, hlink, -⟩ | ⟨h99, -⟩
    · exact va_get (D := D) (cl := zt_cl) hx hb hts hu hown hK hP i q2 hc q.2.1 hk (hts _ hlink) (fun _ h9 => h9) hw hdg (kk _ (hI0.stack ⟨w, rr, rfl, by rw [he]; exact hvr, hrr⟩))
    · obtain ⟨r1, h1, -⟩ := hP i _ q2
      rw [h99] at h1
      exact absurd h1 zt_cl_99
  · obtain ⟨h99, b, q1, q2, q3⟩ := hro.2.2.1 r _ _ (by omega) hg
    have hab : a = b := Option.some.inj (ha.symm.trans q1)
    subst hab
    obtain ⟨w, hvr, hof⟩ := q3 _ v hv
    rcases zt_fld_ok hf with ⟨C, T, N, ty0, hc, -⟩ | ⟨-, -, hlink⟩
    · rw [h99] at hc
      exact absurd hc zt_cl_99
    · exact vk_getf hx hb hof hS hown (hts _ hlink) (fun _ h9 => h9) hdg (kk _ (hI0.stack ⟨w, rr, rfl, by rw [he]; exact hvr, hrr⟩))
theorem zm_putfield_ok {k : Nat} {r : zmK} {v : zmV} {q : Nat × Nat × FieldType × Bool} (X : zm_Cx p s m args meth c A mi) (hI : zm_I D A s mi φ L (v :: .inr (.inr (some r)) :: rest) h H locs ls rs) (hdg : decode (zt_bytes mi) pc = .ok (.putfield k, 3)) (hf : zt_fld (zt_own mi) k = some q) (hF : zm_isF h r q.1 q.2.1 = true)
    (hfit : zm_fit q.2.2.1 v = true) (h8 : 8 ≤ r.1) (hfin : q.2.2.2 = false ∨ (zt_init mi = true ∧ zt_cn q.1 = zt_cls (zt_own mi)))
    (kk : ∀ H2 locs2 rs2, zm_I D A s mi φ L rest (zm_putF h r q.2.1 v) H2 locs2 ls rs2 → W p l e R s m args below meth c H2 locs2 cells slots Q (F0 m (pc + 3) ls rs2)) : W p l e R s m args below meth c H locs cells slots Q (F0 m pc ls rs) := by
  obtain ⟨hx, hb, hr, hml, hown, hts, hlocks, hin, hA⟩ := X
  obtain ⟨fs, v0, hg, hv, he, hlt⟩ := zm_isF_inv hF
  obtain ⟨ws, tys, lv, hK, hP, hD, hS, hH, hro, hl, hL, hlr, hst⟩ := hI
  obtain ⟨wv, w0, rr, rfl, hwv, hva, hrr⟩ := zm_two hst
  obtain ⟨a, ha, rfl⟩ := hro.key hg hva
  obtain ⟨i, b, e2, q1, q2, gs, q3, rfl⟩ := hH.1 r _ hg h8
  have hab : a = b := Option.some.inj (ha.symm.trans q1)
  subst hab
  obtain ⟨hn, hft⟩ := zm_fit_ok hfit hwv
  have hgl : q.2.1 < gs.length := by rw [← q3.len]; exact hlt
  have fin : ∀ (H1 : Heap) (locs1 : List Loc), va_P D zt_cl (ws.set i (a, .inr (q.1, gs.set q.2.1 wv))) H1 → va_D A (ws.set i (a, .inr (q.1, gs.set q.2.1 wv))) → va_S A s.heap H1 locs1 → W p l e R s m args below meth c H1 locs1 cells slots Q (F0 m (pc + 3) ls rr) := by
    intro H1 locs1 hP1 hD1 hS1
    refine kk H1 locs1 rr ?_
    rw [zm_putF_eq hg]
    exact ⟨_, tys, lv, hK, hP1, hD1, hS1, hH.set hD h8 hg ha q2 ⟨_, q3.set hwv q.2.1, rfl⟩, hro.keep zm_le.rf (zm_set_ro h8), hl, hL, hlr, hrr⟩
  rcases zt_fld_ok hf with ⟨C, T, N, ty0, hc, hu, hty, hnm, hk, hlink, hpd, hfl, hdecl⟩ | ⟨h99, -⟩
  · cases hq : q.2.2.2 with
    | false => exact va_put (D := D) (cl := zt_cl) hx hb hts hu ty0 hty hnm hown hK hP hD hS i q2 hc q.2.1 hk (hts _ hlink) (fun _ h9 => h9) (by rw [hfl]; exact hq) hpd hn hft hgl hdg fin
    | true =>
      rcases hfin with g | g
      · rw [hq] at g; cases g
      · exact va_putF (D := D) (cl := zt_cl) hx hb hts hu ty0 hty hnm hown hK hP hD hS i q2 hc q.2.1 hk (hts _ hlink) (fun _ h9 => h9) (by rw [hfl]; exact hq) (hin g.1) (by rw [hdecl]; exact g.2) hpd hn hft hgl hdg fin
  · obtain ⟨r1, h1, -⟩ := hP i _ q2
    rw [h99] at h1
    exact absurd h1 zt_cl_99
theorem zm_inI_inv {r : zmK} {ty : FieldType} {i : Int32} (q : zm_inI h r ty i = true) : ∃ n f, zm_get h r = some (.inl (ty, n, .inl f)) ∧ vp_in i n ∧ zm_ldI h r i = f i.toNatClampNeg ∧ n < 2147483648 := by
  unfold zm_inI at q
  split at q
  · next t n f hg =>
    rw [Bool.and_eq_true, Bool.and_eq_true] at q
    have h1 : t = ty := by simpa using q.1.1
    have h2 : vp_in i n := show ¬ (i < 0 ∨ n ≤ i.toNatClampNeg) from of_decide_eq_true q.1.2
    have h3 : n < 2147483648 := by simpa using q.2
    subst h1
    exact ⟨n, f, hg, h2, by unfold zm_ldI; rw [hg], h3⟩
  · cases q
theorem zm_arr_at {ws : va_W} {tys : List (ClassId × FieldType)} {r : zmK} {ty : FieldType} {n a : Nat} {f : Nat → Int32} (hH : zm_hr φ tys h ws) (hg : zm_get h r = some (.inl (ty, n, .inl f))) (h8 : 8 ≤ r.1) (ha : φ r = some a) : ∃ (i t0 : Nat) (cA : ClassId), ws[i]? = some (a, .inl (cA, n, .inl f)) ∧ tys[t0]? = some (cA, ty) := by
  obtain ⟨i, b, e2, q1, q2, cA, q3, rfl⟩ := hH.1 r _ hg h8
  have hab : a = b := Option.some.inj (ha.symm.trans q1)
  subst hab
  obtain ⟨t0, ht⟩ := List.getElem?_of_mem q3
  exact ⟨i, t0, cA, q2, ht⟩
theorem zm_iaload_ok {r : zmK} {i : Int32} (X : zm_Cx p s m args meth c A mi) (hI : zm_I D A s mi φ L (.inl i :: .inr (.inr (some r)) :: rest) h H locs ls rs) (hdg : decode (zt_bytes mi) pc = .ok (.iaload, 1)) (hF : zm_inI h r .int i = true)
    (kk : ∀ rs2, zm_I D A s mi φ L (.inl (zm_ldI h r i) :: rest) h H locs ls rs2 → W p l e R s m args below meth c H locs cells slots Q (F0 m (pc + 1) ls rs2)) : W p l e R s m args below meth c H locs cells slots Q (F0 m pc ls rs) := by
  obtain ⟨hx, hb, hr, hml, hown, hts, hlocks, hin, hA⟩ := X
  obtain ⟨n, f, hg, hv, he, hlt⟩ := zm_inI_inv hF
  have hI0 := hI
  obtain ⟨ws, tys, lv, hK, hP, hD, hS, hH, hro, hl, hL, hlr, hst⟩ := hI
  obtain ⟨_, w0, rr, rfl, rfl, hva, hrr⟩ := zm_two hst
  obtain ⟨a, ha, rfl⟩ := hro.key hg hva
  by_cases h8 : 8 ≤ r.1
  · obtain ⟨j, t0, cA, q2, ht⟩ := zm_arr_at hH hg h8 ha
    exact va_iald hx hb hK hP j t0 q2 ht hv hdg (kk _ (hI0.stack ⟨_, rr, rfl, by rw [he]; rfl, hrr⟩))
  · obtain ⟨b, q1, q2⟩ := hro.1 r _ _ _ (by omega) hg
    have hab : a = b := Option.some.inj (ha.symm.trans q1)
    subst hab
    exact va_ti hx hb q2 hS hv rfl hdg (kk _ (hI0.stack ⟨_, rr, rfl, by rw [he]; rfl, hrr⟩))
theorem zm_caload_ok {r : zmK} {i : Int32} (X : zm_Cx p s m args meth c A mi) (hI : zm_I D A s mi φ L (.inl i :: .inr (.inr (some r)) :: rest) h H locs ls rs) (hdg : decode (zt_bytes mi) pc = .ok (.caload, 1)) (hF : zm_inI h r .char i = true) (h8 : 8 ≤ r.1)
    (kk : ∀ rs2, zm_I D A s mi φ L (.inl (zm_ldI h r i) :: rest) h H locs ls rs2 → W p l e R s m args below meth c H locs cells slots Q (F0 m (pc + 1) ls rs2)) : W p l e R s m args below meth c H locs cells slots Q (F0 m pc ls rs) := by
  obtain ⟨hx, hb, hr, hml, hown, hts, hlocks, hin, hA⟩ := X
  obtain ⟨n, f, hg, hv, he, hlt⟩ := zm_inI_inv hF
  have hI0 := hI
  obtain ⟨ws, tys, lv, hK, hP, hD, hS, hH, hro, hl, hL, hlr, hst⟩ := hI
  obtain ⟨_, w0, rr, rfl, rfl, hva, hrr⟩ := zm_two hst
  obtain ⟨a, ha, rfl⟩ := hro.key hg hva
  obtain ⟨j, t0, cA, q2, ht⟩ := zm_arr_at hH hg h8 ha
  exact va_cald hx hb hK hP j t0 q2 ht hv hdg (kk _ (hI0.stack ⟨_, rr, rfl, by rw [he]; rfl, hrr⟩))
theorem zm_baload_ok {r : zmK} {i : Int32} (X : zm_Cx p s m args meth c A mi) (hI : zm_I D A s mi φ L (.inl i :: .inr (.inr (some r)) :: rest) h H locs ls rs) (hdg : decode (zt_bytes mi) pc = .ok (.baload, 1)) (hF : (zm_inI h r .byte i = true ∧ r.1 < 8) ∨ (zm_inI h r .boolean i = true ∧ 8 ≤ r.1))
    (kk : ∀ rs2, zm_I D A s mi φ L (.inl (zm_ldI h r i) :: rest) h H locs ls rs2 → W p l e R s m args below meth c H locs cells slots Q (F0 m (pc + 1) ls rs2)) : W p l e R s m args below meth c H locs cells slots Q (F0 m pc ls rs) := by
  obtain ⟨hx, hb, hr, hml, hown, hts, hlocks, hin, hA⟩ := X
  have hI0 := hI
  obtain ⟨ws, tys, lv, hK, hP, hD, hS, hH, hro, hl, hL, hlr, hst⟩ := hI
  obtain ⟨_, w0, rr, rfl, rfl, hva, hrr⟩ := zm_two hst
  rcases hF with ⟨hF, h8⟩ | ⟨hF, h8⟩
  · obtain ⟨n, f, hg, hv, he, hlt⟩ := zm_inI_inv hF
    obtain ⟨a, ha, rfl⟩ := hro.key hg hva
    obtain ⟨b, q1, q2⟩ := hro.1 r _ _ _ h8 hg
    have hab : a = b := Option.some.inj (ha.symm.trans q1)
    subst hab
    exact va_tb hx hb q2 hS hv rfl hdg (kk _ (hI0.stack ⟨_, rr, rfl, by rw [he]; rfl, hrr⟩))
  · obtain ⟨n, f, hg, hv, he, hlt⟩ := zm_inI_inv hF
    obtain ⟨a, ha, rfl⟩ := hro.key hg hva
    obtain ⟨j, t0, cA, q2, ht⟩ := zm_arr_at hH hg h8 ha
    exact va_zald hx hb hK hP j t0 q2 ht hv hdg (kk _ (hI0.stack ⟨_, rr, rfl, by rw [he]; rfl, hrr⟩))
theorem zm_iastore_ok {r : zmK} {i x : Int32} (X : zm_Cx p s m args meth c A mi) (hI : zm_I D A s mi φ L (.inl x :: .inl i :: .inr (.inr (some r)) :: rest) h H locs ls rs) (hdg : decode (zt_bytes mi) pc = .ok (.iastore, 1)) (hF : zm_inI h r .int i = true) (h8 : 8 ≤ r.1)
    (kk : ∀ H2 locs2 rs2, zm_I D A s mi φ L rest (zm_stI h r i x) H2 locs2 ls rs2 → W p l e R s m args below meth c H2 locs2 cells slots Q (F0 m (pc + 1) ls rs2)) : W p l e R s m args below meth c H locs cells slots Q (F0 m pc ls rs) := by
  obtain ⟨hx, hb, hr, hml, hown, hts, hlocks, hin, hA⟩ := X
  obtain ⟨n, f, hg, hv, he, hlt⟩ := zm_inI_inv hF
  obtain ⟨ws, tys, lv, hK, hP, hD, hS, hH, hro, hl, hL, hlr, wx, r0, rfl, rfl, hst⟩ := hI
  obtain ⟨_, w0, rr, rfl, rfl, hva, hrr⟩ := zm_two hst
  obtain ⟨a, ha, rfl⟩ := hro.key hg hva
  obtain ⟨j, t0, cA, q2, ht⟩ := zm_arr_at hH hg h8 ha
  refine va_iast hx hb hK hP hD hS j t0 q2 ht hv hdg (fun H1 locs1 hP1 hD1 hS1 => kk H1 locs1 rr ?_)
  have hst : zm_stI h r i x = zm_set h r (.inl (.int, n, .inl (upd f i.toNatClampNeg x))) := by unfold zm_stI; rw [hg]
  rw [hst]
  exact ⟨_, tys, lv, hK, hP1, hD1, hS1, hH.set hD h8 hg ha q2 ⟨cA, List.mem_of_getElem? ht, rfl⟩, hro.keep zm_le.rf (zm_set_ro h8), hl, hL, hlr, hrr⟩
theorem zm_castore_ok {r : zmK} {i x : Int32} (X : zm_Cx p s m args meth c A mi) (hI : zm_I D A s mi φ L (.inl x :: .inl i :: .inr (.inr (some r)) :: rest) h H locs ls rs) (hdg : decode (zt_bytes mi) pc = .ok (.castore, 1)) (hF : zm_inI h r .char i = true) (h8 : 8 ≤ r.1)
    (kk : ∀ H2 locs2 rs2, zm_I D A s mi φ L rest (zm_stI h r i (vp_nar .char x)) H2 locs2 ls rs2 → W p l e R s m args below meth c H2 locs2 cells slots Q (F0 m (pc + 1) ls rs2)) : W p l e R s m args below meth c H locs cells slots Q (F0 m pc ls rs) := by
  obtain ⟨hx, hb, hr, hml, hown, hts, hlocks, hin, hA⟩ := X
  obtain ⟨n, f, hg, hv, he, hlt⟩ := zm_inI_inv hF
  obtain ⟨ws, tys, lv, hK, hP, hD, hS, hH, hro, hl, hL, hlr, wx, r0, rfl, rfl, hst⟩ := hI
  obtain ⟨_, w0, rr, rfl, rfl, hva, hrr⟩ := zm_two hst
  obtain ⟨a, ha, rfl⟩ := hro.key hg hva
  obtain ⟨j, t0, cA, q2, ht⟩ := zm_arr_at hH hg h8 ha
  refine va_cast hx hb hK hP hD hS j t0 q2 ht hv hdg (fun H1 locs1 hP1 hD1 hS1 => kk H1 locs1 rr ?_)
  have hst : zm_stI h r i (vp_nar .char x) = zm_set h r (.inl (.char, n, .inl (upd f i.toNatClampNeg (vp_nar .char x)))) := by unfold zm_stI; rw [hg]
  rw [hst]
  exact ⟨_, tys, lv, hK, hP1, hD1, hS1, hH.set hD h8 hg ha q2 ⟨cA, List.mem_of_getElem? ht, rfl⟩, hro.keep zm_le.rf (zm_set_ro h8), hl, hL, hlr, hrr⟩
theorem zm_bastore_ok {r : zmK} {i x : Int32} (X : zm_Cx p s m args meth c A mi) (hI : zm_I D A s mi φ L (.inl x :: .inl i :: .inr (.inr (some r)) :: rest) h H locs ls rs) (hdg : decode (zt_bytes mi) pc = .ok (.bastore, 1)) (hF : zm_inI h r .boolean i = true) (h8 : 8 ≤ r.1)
    (kk : ∀ H2 locs2 rs2, zm_I D A s mi φ L rest (zm_stI h r i (vp_nar .boolean x)) H2 locs2 ls rs2 → W p l e R s m args below meth c H2 locs2 cells slots Q (F0 m (pc + 1) ls rs2)) : W p l e R s m args below meth c H locs cells slots Q (F0 m pc ls rs) := by
  obtain ⟨hx, hb, hr, hml, hown, hts, hlocks, hin, hA⟩ := X
  obtain ⟨n, f, hg, hv, he, hlt⟩ := zm_inI_inv hF
  obtain ⟨ws, tys, lv, hK, hP, hD, hS, hH, hro, hl, hL, hlr, wx, r0, rfl, rfl, hst⟩ := hI
  obtain ⟨_, w0, rr, rfl, rfl, hva, hrr⟩ := zm_two hst
  obtain ⟨a, ha, rfl⟩ := hro.key hg hva
  obtain ⟨j, t0, cA, q2, ht⟩ := zm_arr_at hH hg h8 ha
  refine va_zast hx hb hK hP hD hS j t0 q2 ht hv hdg (fun H1 locs1 hP1 hD1 hS1 => kk H1 locs1 rr ?_)
  have hst : zm_stI h r i (vp_nar .boolean x) = zm_set h r (.inl (.boolean, n, .inl (upd f i.toNatClampNeg (vp_nar .boolean x)))) := by unfold zm_stI; rw [hg]
  rw [hst]
  exact ⟨_, tys, lv, hK, hP1, hD1, hS1, hH.set hD h8 hg ha q2 ⟨cA, List.mem_of_getElem? ht, rfl⟩, hro.keep zm_le.rf (zm_set_ro h8), hl, hL, hlr, hrr⟩
theorem zm_inQ_inv {r : zmK} {i : Int32} (q : zm_inQ h r i = true) : ∃ C n f, zm_get h r = some (.inl (.object C, n, .inr f)) ∧ vp_in i n ∧ zm_ldQ h r i = f i.toNatClampNeg ∧ n < 2147483648 := by
  unfold zm_inQ at q
  split at q
  · next C n f hg =>
    rw [Bool.and_eq_true] at q
    have h2 : vp_in i n := show ¬ (i < 0 ∨ n ≤ i.toNatClampNeg) from of_decide_eq_true q.1
    have h3 : n < 2147483648 := by simpa using q.2
    exact ⟨C, n, f, hg, h2, by unfold zm_ldQ; rw [hg], h3⟩
  · cases q
theorem zm_arrq_at {ws : va_W} {tys : List (ClassId × FieldType)} {r : zmK} {ty : FieldType} {n a : Nat} {f : Nat → Option zmK} (hH : zm_hr φ tys h ws) (hg : zm_get h r = some (.inl (ty, n, .inr f))) (h8 : 8 ≤ r.1) (ha : φ r = some a) : ∃ (i t0 : Nat) (cA : ClassId) (g : Nat → Option Nat), ws[i]? = some (a, .inl (cA, n, .inr (.inr (.inr (.inr g))))) ∧ tys[t0]? = some (cA, ty) ∧ zm_qr φ f g := by
  obtain ⟨i, b, e2, q1, q2, cA, g, q3, q4, rfl⟩ := hH.1 r _ hg h8
  have hab : a = b := Option.some.inj (ha.symm.trans q1)
  subst hab
  obtain ⟨t0, ht⟩ := List.getElem?_of_mem q3
  exact ⟨i, t0, cA, g, q2, ht, q4⟩
theorem zm_aaload_ok {r : zmK} {i : Int32} (X : zm_Cx p s m args meth c A mi) (hI : zm_I D A s mi φ L (.inl i :: .inr (.inr (some r)) :: rest) h H locs ls rs) (hdg : decode (zt_bytes mi) pc = .ok (.aaload, 1)) (hF : zm_inQ h r i = true) (h8 : 8 ≤ r.1)
    (kk : ∀ rs2, zm_I D A s mi φ L (.inr (.inr (zm_ldQ h r i)) :: rest) h H locs ls rs2 → W p l e R s m args below meth c H locs cells slots Q (F0 m (pc + 1) ls rs2)) : W p l e R s m args below meth c H locs cells slots Q (F0 m pc ls rs) := by
  obtain ⟨hx, hb, hr, hml, hown, hts, hlocks, hin, hA⟩ := X
  obtain ⟨C, n, f, hg, hv, he, hlt⟩ := zm_inQ_inv hF
  have hI0 := hI
  obtain ⟨ws, tys, lv, hK, hP, hD, hS, hH, hro, hl, hL, hlr, hst⟩ := hI
  obtain ⟨_, w0, rr, rfl, rfl, hva, hrr⟩ := zm_two hst
  obtain ⟨a, ha, rfl⟩ := hro.key hg hva
  obtain ⟨j, t0, cA, g, q2, ht, q4⟩ := zm_arrq_at hH hg h8 ha
  exact va_aldq hx hb hK hP j t0 q2 ht hv hdg (kk _ (hI0.stack ⟨_, rr, rfl, by rw [he]; exact q4 _, hrr⟩))
theorem zm_aastore_ok {r x : zmK} {i : Int32} (X : zm_Cx p s m args meth c A mi) (hI : zm_I D A s mi φ L (.inr (.inr (some x)) :: .inl i :: .inr (.inr (some r)) :: rest) h H locs ls rs) (hdg : decode (zt_bytes mi) pc = .ok (.aastore, 1)) (hF : zm_inQ h r i = true) (hq : zm_okQ zt_cn h r x = true) (h8 : 8 ≤ r.1) (hx8 : 8 ≤ x.1)
    (kk : ∀ H2 locs2 rs2, zm_I D A s mi φ L rest (zm_stQ h r i x) H2 locs2 ls rs2 → W p l e R s m args below meth c H2 locs2 cells slots Q (F0 m (pc + 1) ls rs2)) : W p l e R s m args below meth c H locs cells slots Q (F0 m pc ls rs) := by
  obtain ⟨hx, hb, hr, hml, hown, hts, hlocks, hin, hA⟩ := X
  obtain ⟨C, n, f, hg, hv, he, hlt⟩ := zm_inQ_inv hF
  obtain ⟨ws, tys, lv, hK, hP, hD, hS, hH, hro, hl, hL, hlr, wx, r0, rfl, hvx, hst⟩ := hI
  obtain ⟨_, w0, rr, rfl, rfl, hva, hrr⟩ := zm_two hst
  obtain ⟨a, ha, rfl⟩ := hro.key hg hva
  obtain ⟨j, t0, cA, g, q2, ht, q4⟩ := zm_arrq_at hH hg h8 ha
  have hcx : ∃ ci fs, zm_get h x = some (.inr (ci, fs)) ∧ zt_cn ci = C := by
    unfold zm_okQ at hq
    rw [hg] at hq
    split at hq
    · next C2 _ _ c2 fs2 e1 e2 =>
      cases e1
      exact ⟨c2, fs2, e2, by simpa using hq⟩
    · cases hq
  obtain ⟨ci, fs, hgx, hcn⟩ := hcx
  obtain ⟨ax, hax, rfl⟩ := hro.key hgx hvx
  obtain ⟨ix, bx, ex, k1, k2, gs, k3, rfl⟩ := hH.1 x _ hgx hx8
  have hab : ax = bx := Option.some.inj (hax.symm.trans k1)
  subst hab
  obtain ⟨rc, hrc, -⟩ := hP ix _ k2
  have hC : rc.1 = C := by rw [← hcn]; exact zt_cn_ok hrc
  refine va_astq hx hb hK hP hD hS j t0 ix ci q2 (by rw [hC]; exact ht) k2 hrc hv hdg (fun H1 locs1 hP1 hD1 hS1 => kk H1 locs1 rr ?_)
  have hst : zm_stQ h r i x = zm_set h r (.inl (.object C, n, .inr (va_up f i.toNatClampNeg (some x)))) := by unfold zm_stQ; rw [hg]
  rw [hst]
  refine ⟨_, tys, lv, hK, hP1, hD1, hS1, hH.set hD h8 hg ha q2 ⟨cA, _, List.mem_of_getElem? ht, fun j2 => ?_, rfl⟩, hro.keep zm_le.rf (zm_set_ro h8), hl, hL, hlr, hrr⟩
  unfold va_up
  by_cases hj : j2 = i.toNatClampNeg
  · rw [if_pos hj, if_pos hj]
    exact Or.inr ⟨ax, hax, rfl⟩
  · rw [if_neg hj, if_neg hj]
    exact q4 j2
theorem zm_alen_ok {r : zmK} (X : zm_Cx p s m args meth c A mi) (hI : zm_I D A s mi φ L (.inr (.inr (some r)) :: rest) h H locs ls rs) (hdg : decode (zt_bytes mi) pc = .ok (.arraylength, 1)) (hF : zm_isA h r = true)
    (kk : ∀ rs2, zm_I D A s mi φ L (.inl (zm_len h r) :: rest) h H locs ls rs2 → W p l e R s m args below meth c H locs cells slots Q (F0 m (pc + 1) ls rs2)) : W p l e R s m args below meth c H locs cells slots Q (F0 m pc ls rs) := by
  obtain ⟨hx, hb, hr, hml, hown, hts, hlocks, hin, hA⟩ := X
  have hI0 := hI
  obtain ⟨ws, tys, lv, hK, hP, hD, hS, hH, hro, hl, hL, hlr, w0, rr, rfl, hva, hrr⟩ := hI
  unfold zm_isA at hF
  split at hF
  · next ar hg =>
    obtain ⟨a, ha, rfl⟩ := hro.key hg hva
    obtain ⟨ty, n, f | f⟩ := ar
    · have hlen : zm_len h r = Int32.ofNat n := by unfold zm_len; rw [hg]
      by_cases h8 : 8 ≤ r.1
      · obtain ⟨j, t0, cA, q2, ht⟩ := zm_arr_at hH hg h8 ha
        exact va_alen hx hb hK hP j t0 q2 ht rfl hdg (kk _ (hI0.stack ⟨_, rr, rfl, by rw [hlen]; rfl, hrr⟩))
      · obtain ⟨b, q1, q2⟩ := hro.1 r _ _ _ (by omega) hg
        have hab : a = b := Option.some.inj (ha.symm.trans q1)
        subst hab
        exact va_tlen hx hb q2 hS rfl hdg (kk _ (hI0.stack ⟨_, rr, rfl, by rw [hlen]; rfl, hrr⟩))
    · have hlen : zm_len h r = Int32.ofNat n := by unfold zm_len; rw [hg]
      by_cases h8 : 8 ≤ r.1
      · obtain ⟨j, t0, cA, g, q2, ht, q4⟩ := zm_arrq_at hH hg h8 ha
        exact va_alen hx hb hK hP j t0 q2 ht rfl hdg (kk _ (hI0.stack ⟨_, rr, rfl, by rw [hlen]; rfl, hrr⟩))
      · exact absurd hg (hro.2.1 r _ _ _ (by omega))
  · cases hF
end ZMC
end
section
theorem zm_words {φ : zmK → Option Nat} : ∀ {st : List zmV} {rs : List Value} {n : Nat}, zm_sr φ st rs → st.length ≤ n → (rs.map fun v => v.category).sum ≤ 2 * n
  | [], _, n, q, _ => by rw [show _ = [] from q]; simp
  | v :: st, _, n, ⟨w, r, e, hv, hr⟩, hn => by
    subst e
    rw [List.length_cons] at hn
    have h1 := zm_words (n := n - 1) hr (by omega)
    have h2 : w.category ≤ 2 := by
      rw [zm_vr_cat hv]
      split <;> omega
    simp only [List.map_cons, List.sum_cons]
    omega
theorem zm_small_inv {n : Int32} (h : zm_small n = true) : ¬ n < 0 ∧ n.toNatClampNeg ≤ 1000 := by
  unfold zm_small at h
  rw [Bool.and_eq_true] at h
  exact ⟨by simpa using h.1, by simpa using h.2⟩
theorem zm_free_inv {h : zmH} {s : Nat} (q : zm_free h s = true) : 8 ≤ s ∧ zm_get h (s, h.2.1 s) = none := by
  unfold zm_free at q
  rw [Bool.and_eq_true] at q
  exact ⟨by simpa using q.1, by simpa using q.2⟩
theorem zm_dflt_ok {φ : zmK → Option Nat} {ty : FieldType} (h : zm_tyOk ty = true) : zm_vr φ (zm_dflt ty) (defaultValue ty) := by
  cases ty <;> first | rfl | cases h
theorem zm_dflts {φ : zmK → Option Nat} : ∀ {tys : List FieldType}, (∀ t ∈ tys, zm_tyOk t = true) → zm_sr φ (tys.map zm_dflt) (tys.map defaultValue)
  | [], _ => rfl
  | t :: tys, h => ⟨_, _, rfl, zm_dflt_ok (h t List.mem_cons_self), zm_dflts (fun u hu => h u (List.mem_cons_of_mem _ hu))⟩
section ZMD
variable {p : Program} {l : Launch} {e : Env} {R : Room} {s : State} {m : MethodId} {args : Array Value} {below : List Frame} {meth : Method} {c : Code} {H : Heap} {locs : List Loc} {cells slots : Nat} {Q : State → Prop}
variable {pc mi : Nat} {ls : Array Slot} {rs : List Value} {φ : zmK → Option Nat} {st rest : List zmV} {L : zmL} {h : zmH} {D : va_G} {A : Nat → Prop}
theorem zm_new_ok {k si : Nat} {q : Nat × List FieldType} (X : zm_Cx p s m args meth c A mi) (hI : zm_I D A s mi φ L st h H locs ls rs) (hdg : decode (zt_bytes mi) pc = .ok (.new k, 3)) (hf : zt_new (zt_own mi) k = some q) (hF : zm_free h si = true) (hc : cells + 1 ≤ R.cells) (hs : slots + q.2.length ≤ R.slots)
    (kk : ∀ φ2 H2 rs2, zm_le φ φ2 → zm_I D A s mi φ2 L (.inr (.inr (some (si, h.2.1 si))) :: st) (zm_new h si (.inr (q.1, q.2.map zm_dflt)) q.2.length) H2 locs ls rs2 → W p l e R s m args below meth c H2 locs (cells + 1) (slots + q.2.length) Q (F0 m (pc + 3) ls rs2)) : W p l e R s m args below meth c H locs cells slots Q (F0 m pc ls rs) := by
  obtain ⟨hx, hb, hr, hml, hown, hts, hlocks, hin, hA⟩ := X
  obtain ⟨h8, hfree⟩ := zm_free_inv hF
  obtain ⟨ws, tys, lv, hK, hP, hD, hS, hH, hro, hl, hL, hlr, hst⟩ := hI
  obtain ⟨C, T, N, ty0, hcl, hu, hty, hlink, hinst, hini, hN, hq, hok⟩ := zt_new_ok hf
  have hfs : ∀ j, j < N → defaultValue (ty0 j) = vp_V (q.2.map defaultValue) j := by
    intro j hj
    have h1 := hq j hj
    unfold vp_V
    rw [List.getD_eq_getElem?_getD, List.getElem?_map, h1]
    rfl
  rw [hN] at hs kk
  refine va_new (D := D) (cl := zt_cl) (fs := q.2.map defaultValue) hx hb hts hu ty0 hty hown (hts _ hlink) (hts _ hinst) (hts _ hini) hK hP hD hS hA hcl hfs hc hs hdg (fun a H1 hP1 hD1 hS1 => ?_)
  have hle : zm_le φ (zm_ext φ (si, h.2.1 si) a) := zm_ext_le (hH.non h8 hfree)
  have hr1 : zm_cr (zm_ext φ (si, h.2.1 si) a) tys (.inr (q.1, q.2.map zm_dflt)) (.inr (q.1, q.2.map defaultValue)) := ⟨_, zm_dflts hok, rfl⟩
  exact kk _ H1 (.ref a :: rs) hle ⟨_, tys, lv, hK, hP1, hD1, hS1, hH.new hD1 h8 hfree (fun _ h => h) hr1, hro.keep hle (zm_new_ro h8), hl, hL, hlr.le hle, _, rs, rfl, Or.inr ⟨a, by simp [zm_ext], rfl⟩, hst.le hle⟩
theorem zm_newarray_ok {t : ArrayType} {si : Nat} {n : Int32} (X : zm_Cx p s m args meth c A mi) (hI : zm_I D A s mi φ L (.inl n :: rest) h H locs ls rs) (hdg : decode (zt_bytes mi) pc = .ok (.newarray t, 2)) (hF : zm_free h si = true) (hn : zm_small n = true) (ht : zm_at t = true) (hc : cells + 1 ≤ R.cells) (hs : slots + n.toNatClampNeg ≤ R.slots)
    (kk : ∀ φ2 H2 rs2, zm_le φ φ2 → zm_I D A s mi φ2 L (.inr (.inr (some (si, h.2.1 si))) :: rest) (zm_new h si (.inl (newarray.typeOf t, n.toNatClampNeg, .inl fun _ => 0)) n.toNatClampNeg) H2 locs ls rs2 → W p l e R s m args below meth c H2 locs (cells + 1) (slots + n.toNatClampNeg) Q (F0 m (pc + 2) ls rs2)) : W p l e R s m args below meth c H locs cells slots Q (F0 m pc ls rs) := by
  obtain ⟨hx, hb, hr, hml, hown, hts, hlocks, hin, hA⟩ := X
  obtain ⟨h8, hfree⟩ := zm_free_inv hF
  obtain ⟨hn0, hn1⟩ := zm_small_inv hn
  obtain ⟨ws, tys, lv, hK, hP, hD, hS, hH, hro, hl, hL, hlr, w0, rr, rfl, rfl, hst⟩ := hI
  obtain ⟨hword, hcell, hbytes⟩ := zm_at_ok ht
  refine va_newa (D := D) (cl := zt_cl) (a0 := (n.toNatClampNeg, .inl fun _ => 0)) hx hb (hts _ hword) rfl hK hP hD hS hA (fun cA => hcell cA _) hn0 rfl (Nat.le_trans (Nat.mul_le_mul hn1 hbytes) (by decide)) hc hs hdg (fun a cA H1 hK1 hP1 hD1 hS1 => ?_)
  have hle : zm_le φ (zm_ext φ (si, h.2.1 si) a) := zm_ext_le (hH.non h8 hfree)
  have hr1 : zm_cr (zm_ext φ (si, h.2.1 si) a) (tys ++ [(cA, newarray.typeOf t)]) (.inl (newarray.typeOf t, n.toNatClampNeg, .inl fun _ => 0)) (.inl (cA, n.toNatClampNeg, .inl fun _ => 0)) := ⟨cA, by simp, rfl⟩
  exact kk _ H1 (.ref a :: rr) hle ⟨_, _, lv, hK1, hP1, hD1, hS1, hH.new hD1 h8 hfree (fun _ h => List.mem_append_left _ h) hr1, hro.keep hle (zm_new_ro h8), hl, hL, hlr.le hle, _, rr, rfl, Or.inr ⟨a, by simp [zm_ext], rfl⟩, hst.le hle⟩
theorem zm_anewarray_ok {k si : Nat} {C : String} {n : Int32} (X : zm_Cx p s m args meth c A mi) (hI : zm_I D A s mi φ L (.inl n :: rest) h H locs ls rs) (hdg : decode (zt_bytes mi) pc = .ok (.anewarray k, 3)) (hf : zt_arr (zt_own mi) k = some C) (hF : zm_free h si = true) (hn : zm_small n = true) (hc : cells + 1 ≤ R.cells) (hs : slots + n.toNatClampNeg ≤ R.slots)
    (kk : ∀ φ2 H2 rs2, zm_le φ φ2 → zm_I D A s mi φ2 L (.inr (.inr (some (si, h.2.1 si))) :: rest) (zm_new h si (.inl (.object C, n.toNatClampNeg, .inr fun _ => none)) n.toNatClampNeg) H2 locs ls rs2 → W p l e R s m args below meth c H2 locs (cells + 1) (slots + n.toNatClampNeg) Q (F0 m (pc + 3) ls rs2)) : W p l e R s m args below meth c H locs cells slots Q (F0 m pc ls rs) := by
  obtain ⟨hx, hb, hr, hml, hown, hts, hlocks, hin, hA⟩ := X
  obtain ⟨h8, hfree⟩ := zm_free_inv hF
  obtain ⟨hn0, hn1⟩ := zm_small_inv hn
  obtain ⟨ws, tys, lv, hK, hP, hD, hS, hH, hro, hl, hL, hlr, w0, rr, rfl, rfl, hst⟩ := hI
  obtain ⟨hlink, hao⟩ := zt_arr_ok hf
  refine va_newq (D := D) (cl := zt_cl) hx hb hown (hts _ hlink) (hro.2.2.2.2.2.1 C hao) hK hP hD hS hA hn0 rfl (by omega) hc hs hdg (fun a cA H1 hK1 hP1 hD1 hS1 => ?_)
  have hle : zm_le φ (zm_ext φ (si, h.2.1 si) a) := zm_ext_le (hH.non h8 hfree)
  have hr1 : zm_cr (zm_ext φ (si, h.2.1 si) a) (tys ++ [(cA, .object C)]) (.inl (.object C, n.toNatClampNeg, .inr fun _ => none)) (.inl (cA, n.toNatClampNeg, .inr (.inr (.inr (.inr fun _ => none))))) := ⟨cA, fun _ => none, by simp, fun _ => (rfl : va_rf none = .null), rfl⟩
  exact kk _ H1 (.ref a :: rr) hle ⟨_, _, lv, hK1, hP1, hD1, hS1, hH.new hD1 h8 hfree (fun _ h => List.mem_append_left _ h) hr1, hro.keep hle (zm_new_ro h8), hl, hL, hlr.le hle, _, rr, rfl, Or.inr ⟨a, by simp [zm_ext], rfl⟩, hst.le hle⟩
theorem zm_ldc_ok {k : Nat} {v : zmV} (X : zm_Cx p s m args meth c A mi) (hI : zm_I D A s mi φ L st h H locs ls rs) (hdg : decode (zt_bytes mi) pc = .ok (.ldc k, 2)) (hf : zt_ldc (zt_own mi) k = some v)
    (kk : ∀ rs2, zm_I D A s mi φ L (v :: st) h H locs ls rs2 → W p l e R s m args below meth c H locs cells slots Q (F0 m (pc + 2) ls rs2)) : W p l e R s m args below meth c H locs cells slots Q (F0 m pc ls rs) := by
  obtain ⟨hx, hb, hr, hml, hown, hts, hlocks, hin, hA⟩ := X
  have hI0 := hI
  obtain ⟨ws, tys, lv, hK, hP, hD, hS, hH, hro, hl, hL, hlr, hst⟩ := hI
  rcases zt_ldc_ok hf with ⟨x, rfl, hw⟩ | ⟨tx, key, rfl, hm⟩
  · exact W.ldc (g := F0 m pc ls rs) hx hb hown (hts _ hw) rfl hdg (kk _ (hI0.stack ⟨_, rs, rfl, rfl, hst⟩))
  · obtain ⟨a, ha, hR⟩ := hro.2.2.2.2.1 _ hm
    exact va_ldcS hx hb hown hR hdg (kk _ (hI0.stack ⟨_, rs, rfl, Or.inr ⟨a, ha, rfl⟩, hst⟩))
theorem zm_getstatic_ok {k : Nat} {v : zmV} (X : zm_Cx p s m args meth c A mi) (hI : zm_I D A s mi φ L st h H locs ls rs) (hdg : decode (zt_bytes mi) pc = .ok (.getstatic k, 3)) (hf : zt_stat (zt_own mi) k = some v)
    (kk : ∀ rs2, zm_I D A s mi φ L (v :: st) h H locs ls rs2 → W p l e R s m args below meth c H locs cells slots Q (F0 m (pc + 3) ls rs2)) : W p l e R s m args below meth c H locs cells slots Q (F0 m pc ls rs) := by
  obtain ⟨hx, hb, hr, hml, hown, hts, hlocks, hin, hA⟩ := X
  have hI0 := hI
  obtain ⟨ws, tys, lv, hK, hP, hD, hS, hH, hro, hl, hL, hlr, hst⟩ := hI
  obtain ⟨C, n, d, hm, hlink⟩ := zt_stat_ok hf
  obtain ⟨w, hw, hZ⟩ := hro.2.2.2.1 _ hm
  rcases hlink with hlink | ⟨host, hlink⟩
  · exact va_gets hx hb hZ hS hown (hts _ hlink) (fun _ h9 => h9) hdg (kk _ (hI0.stack ⟨w, rs, rfl, hw, hst⟩))
  · exact va_getsN hx hb hZ hS hown (va_Nw.use rfl (hro.2.2.2.2.2.2.2.1 _ hlink)) (fun _ h9 => h9) hdg (kk _ (hI0.stack ⟨w, rs, rfl, hw, hst⟩))
end ZMD
theorem zm_putF_1 (h : zmH) (r : zmK) (k : Nat) (v : zmV) : (zm_putF h r k v).1 = h.1 := by
  unfold zm_putF
  split <;> rfl
theorem zm_stI_1 (h : zmH) (r : zmK) (i x : Int32) : (zm_stI h r i x).1 = h.1 := by
  unfold zm_stI
  split <;> rfl
theorem zm_stQ_1 (h : zmH) (r : zmK) (i : Int32) (x : zmK) : (zm_stQ h r i x).1 = h.1 := by
  unfold zm_stQ
  split <;> rfl
theorem zm_new_1 (h : zmH) (s : Nat) (c : zmC) (sl : Nat) : (zm_new h s c sl).1.1 - h.1.1 = 1 := by
  show h.1.1 + 1 - h.1.1 = 1
  omega
theorem zm_new_2 (h : zmH) (s : Nat) (c : zmC) (sl : Nat) : (zm_new h s c sl).1.2 - h.1.2 = sl := by
  show h.1.2 + sl - h.1.2 = sl
  omega
theorem zm_len_of {i : Instr} {len k : Nat} (h : zm_lk i len = true) (hk : zm_il i = some k) : len = k := by
  unfold zm_lk at h
  rw [hk] at h
  exact (by simpa using h : k = len).symm
theorem zm_inc_inv {lsl : List Nat} {L L2 : zmL} {n : Nat} {d : Int} (h : zm_inc lsl L n d = some L2) : ∃ x, L[n]? = some (some (.inl x)) ∧ zm_no2 lsl n = true ∧ L2 = L.set n (some (.inl (x + Int32.ofInt d))) := by
  unfold zm_inc at h
  split at h
  · next x hx =>
    split at h
    · next h2 => cases h; exact ⟨x, hx, h2, rfl⟩
    · cases h
  · cases h
section ZME
variable {p : Program} {l : Launch} {e : Env} {R : Room} {s : State} {m : MethodId} {args : Array Value} {below : List Frame} {meth : Method} {c : Code} {H : Heap} {locs : List Loc} {cells slots : Nat} {Q : State → Prop}
variable {pc mi : Nat} {ls : Array Slot} {rs : List Value} {φ : zmK → Option Nat} {st : List zmV} {L : zmL} {h : zmH} {D : va_G} {A : Nat → Prop}
theorem zm_iinc_ok {n : Nat} {d : Int} {x : Int32} (X : zm_Cx p s m args meth c A mi) (hI : zm_I D A s mi φ L st h H locs ls rs) (hdg : decode (zt_bytes mi) pc = .ok (.iinc n d, 3)) (hx1 : L[n]? = some (some (.inl x))) (h2 : zm_no2 (zt_lslot mi) n = true)
    (kk : ∀ ls2, zm_I D A s mi φ (L.set n (some (.inl (x + Int32.ofInt d)))) st h H locs ls2 rs → W p l e R s m args below meth c H locs cells slots Q (F0 m (pc + 3) ls2 rs)) : W p l e R s m args below meth c H locs cells slots Q (F0 m pc ls rs) := by
  obtain ⟨hx, hb, hr, hml, hown, hts, hlocks, hin, hA⟩ := X
  obtain ⟨ws, tys, lv, hK, hP, hD, hS, hH, hro, hl, hL, hlr, hst⟩ := hI
  obtain ⟨w, hw, hv⟩ := hlr.1 n _ hx1
  have hv : w = .int x := hv
  subst hv
  obtain ⟨k, hk⟩ := List.getElem?_of_mem hw
  have hn : n < L.length := (List.getElem?_eq_some_iff.mp hx1).1
  refine lv_iinc hx hb hdg hl hk rfl (by rw [← hL]; exact hn) rfl (fun ls2 hl2 => kk ls2 ?_)
  exact ⟨ws, tys, _, hK, hP, hD, hS, hH, hro, hl2, by rw [List.length_set]; exact hL, hlr.store (v := .inl (x + Int32.ofInt d)) rfl rfl hn h2, hst⟩
theorem zm_objinit_ok {k : Nat} {r : zmK} {rest : List zmV} (X : zm_Cx p s m args meth c A mi) (hI : zm_I D A s mi φ L (.inr (.inr (some r)) :: rest) h H locs ls rs) (hdg : decode (zt_bytes mi) pc = .ok (.invokespecial k, 3)) (hf : zt_oinit (zt_own mi) k = true) (hlen : rest.length ≤ 4) (h8 : 8 ≤ r.1) (hR : 1 ≤ R.frames ∧ 40 ≤ R.locals)
    (kk : ∀ rs2, zm_I D A s mi φ L rest h H locs ls rs2 → W p l e R s m args below meth c H locs cells slots Q (F0 m (pc + 3) ls rs2)) : W p l e R s m args below meth c H locs cells slots Q (F0 m pc ls rs) := by
  obtain ⟨hx, hb, hr, hml, hown, hts, hlocks, hin, hA⟩ := X
  have hI0 := hI
  obtain ⟨ws, tys, lv, hK, hP, hD, hS, hH, hro, hl, hL, hlr, w0, rr, rfl, hva, hrr⟩ := hI
  obtain ⟨a, ha, rfl⟩ := zm_vr_n7 hva (by omega)
  obtain ⟨h1, h2, h3⟩ := zt_oinit_ok hf
  have hwd := zm_words hrr hlen
  refine W.objInit (g := F0 m pc ls (.ref a :: rr)) hx hb hown (hts _ h1) (hts _ h2) (hts _ h3) rfl (by rw [hml]; exact hl.1) rfl hdg hR.1 ?_ (kk _ (hI0.stack hrr))
  have := lv_room (m := m) (pc := pc) (ls := ls) (rest := .ref a :: rr) (st := rr) (by omega)
  omega

theorem zm_max_ok {k : Nat} {x y : Int32} {rest : List zmV} (X : zm_Cx p s m args meth c A mi) (hI : zm_I D A s mi φ L (.inl y :: .inl x :: rest) h H locs ls rs) (hdg : decode (zt_bytes mi) pc = .ok (.invokestatic k, 3)) (hf : zt_max (zt_own mi) k = true) (hlen : rest.length ≤ 4) (hR : 1 ≤ R.frames ∧ 40 ≤ R.locals) (hc : cells ≤ R.cells) (hs : slots ≤ R.slots)
    (kk : ∀ rs2, zm_I D A s mi φ L (.inl (if x < y then y else x) :: rest) h H locs ls rs2 → W p l e R s m args below meth c H locs cells slots Q (F0 m (pc + 3) ls rs2)) : W p l e R s m args below meth c H locs cells slots Q (F0 m pc ls rs) := by
  obtain ⟨hx, hb, hr, hml, hown, hts, hlocks, hin, hA⟩ := X
  have hI0 := hI
  obtain ⟨ws, tys, lv, hK, hP, hD, hS, hH, hro, hl, hL, hlr, hst⟩ := hI
  obtain ⟨w1, w2, rr, rfl, g1, g2, hrr⟩ := zm_two hst
  cases (show w1 = .int y from g1)
  cases (show w2 = .int x from g2)
  obtain ⟨h1, h2, h3, h4⟩ := zt_max_ok hf
  have hwd := zm_words hrr hlen
  exact va_mmax hx hb (by rw [hml]; exact hl.1.symm) hown (hts _ h1) (hts _ h2) (hts _ h3) (hts _ h4) hR.1 (by omega) hc hs hdg (kk _ (hI0.stack ⟨_, _, rfl, rfl, hrr⟩))

set_option maxHeartbeats 16000000 in
set_option maxRecDepth 100000 in
theorem zm_step_ok {i : Instr} {pc2 : Nat} {L2 : zmL} {st2 : List zmV} {h2 : zmH} (X : zm_Cx p s m args meth c A mi) (hI : zm_I D A s mi φ L st h H locs ls rs) (hf : zt_fetch mi pc = some i) (hs : zm_step mi pc i L st h = some (pc2, L2, st2, h2)) (hc : cells + (h2.1.1 - h.1.1) ≤ R.cells) (hsl : slots + (h2.1.2 - h.1.2) ≤ R.slots) (hR : 1 ≤ R.frames ∧ 40 ≤ R.locals)
    (kk : ∀ φ2 H2 locs2 ls2 rs2, zm_le φ φ2 → zm_I D A s mi φ2 L2 st2 h2 H2 locs2 ls2 rs2 → W p l e R s m args below meth c H2 locs2 (cells + (h2.1.1 - h.1.1)) (slots + (h2.1.2 - h.1.2)) Q (F0 m pc2 ls2 rs2)) : W p l e R s m args below meth c H locs cells slots Q (F0 m pc ls rs) := by
  have X0 := X
  obtain ⟨hx, hb, hr, hml, hown, hts, hlocks, hin, hA⟩ := X
  obtain ⟨len, hdg, hlk⟩ := zt_fetch_ok hf
  cases i with
  | iload n =>
    cases zm_len_of hlk (k := 2) rfl
    simp only [zm_step, Option.map_eq_some_iff] at hs
    obtain ⟨v, hv, he⟩ := hs
    cases he
    simp only [Nat.sub_self, Nat.add_zero] at kk
    obtain ⟨g1, g2⟩ := zm_ld_inv hv
    obtain ⟨x, rfl⟩ := zm_kd0 g2
    obtain ⟨w, g3, g4⟩ := hI.at g1
    cases (show w = .int x from g4)
    exact lv_iload hx hb hdg g3 (kk φ H locs ls _ zm_le.rf (hI.stack ⟨_, _, rfl, rfl, hI.sr⟩))
  | iload_n n =>
    cases zm_len_of hlk (k := 1) rfl
    simp only [zm_step, Option.map_eq_some_iff] at hs
    obtain ⟨v, hv, he⟩ := hs
    cases he
    simp only [Nat.sub_self, Nat.add_zero] at kk
    obtain ⟨g1, g2⟩ := zm_ld_inv hv
    obtain ⟨x, rfl⟩ := zm_kd0 g2
    obtain ⟨w, g3, g4⟩ := hI.at g1
    cases (show w = .int x from g4)
    exact lv_iload_n hx hb hdg rfl g3 (kk φ H locs ls _ zm_le.rf (hI.stack ⟨_, _, rfl, rfl, hI.sr⟩))
  | lload n =>
    cases zm_len_of hlk (k := 2) rfl
    simp only [zm_step, Option.map_eq_some_iff] at hs
    obtain ⟨v, hv, he⟩ := hs
    cases he
    simp only [Nat.sub_self, Nat.add_zero] at kk
    obtain ⟨g1, g2⟩ := zm_ld_inv hv
    obtain ⟨x, rfl⟩ := zm_kd1 g2
    obtain ⟨w, g3, g4⟩ := hI.at g1
    cases (show w = .long x from g4)
    exact lv_lload hx hb hdg g3 (kk φ H locs ls _ zm_le.rf (hI.stack ⟨_, _, rfl, rfl, hI.sr⟩))
  | lload_n n =>
    cases zm_len_of hlk (k := 1) rfl
    simp only [zm_step, Option.map_eq_some_iff] at hs
    obtain ⟨v, hv, he⟩ := hs
    cases he
    simp only [Nat.sub_self, Nat.add_zero] at kk
    obtain ⟨g1, g2⟩ := zm_ld_inv hv
    obtain ⟨x, rfl⟩ := zm_kd1 g2
    obtain ⟨w, g3, g4⟩ := hI.at g1
    cases (show w = .long x from g4)
    exact lv_lload_n hx hb hdg rfl g3 (kk φ H locs ls _ zm_le.rf (hI.stack ⟨_, _, rfl, rfl, hI.sr⟩))
  | aload n =>
    cases zm_len_of hlk (k := 2) rfl
    simp only [zm_step, Option.map_eq_some_iff] at hs
    obtain ⟨v, hv, he⟩ := hs
    cases he
    simp only [Nat.sub_self, Nat.add_zero] at kk
    obtain ⟨g1, g2⟩ := zm_ld_inv hv
    obtain ⟨x, rfl⟩ := zm_kd2 g2
    obtain ⟨w, g3, g4⟩ := hI.at g1
    rcases zm_vr_ref g4 with rfl | ⟨a, rfl⟩
    · exact lv_aloadN hx hb hdg g3 (kk φ H locs ls _ zm_le.rf (hI.stack ⟨_, _, rfl, g4, hI.sr⟩))
    · exact lv_aload hx hb hdg g3 (kk φ H locs ls _ zm_le.rf (hI.stack ⟨_, _, rfl, g4, hI.sr⟩))
  | aload_n n =>
    cases zm_len_of hlk (k := 1) rfl
    simp only [zm_step, Option.map_eq_some_iff] at hs
    obtain ⟨v, hv, he⟩ := hs
    cases he
    simp only [Nat.sub_self, Nat.add_zero] at kk
    obtain ⟨g1, g2⟩ := zm_ld_inv hv
    obtain ⟨x, rfl⟩ := zm_kd2 g2
    obtain ⟨w, g3, g4⟩ := hI.at g1
    rcases zm_vr_ref g4 with rfl | ⟨a, rfl⟩
    · exact lv_aload_nN hx hb hdg rfl g3 (kk φ H locs ls _ zm_le.rf (hI.stack ⟨_, _, rfl, g4, hI.sr⟩))
    · exact lv_aload_n hx hb hdg rfl g3 (kk φ H locs ls _ zm_le.rf (hI.stack ⟨_, _, rfl, g4, hI.sr⟩))
  | istore n =>
    cases zm_len_of hlk (k := 2) rfl
    simp only [zm_step, Option.map_eq_some_iff] at hs
    obtain ⟨⟨q1, q2⟩, hv, he⟩ := hs
    cases he
    simp only [Nat.sub_self, Nat.add_zero] at kk
    obtain ⟨v, rfl, g2, g3, g4, rfl⟩ := zm_sto_inv hv
    obtain ⟨x, rfl⟩ := zm_kd0 g2
    obtain ⟨w, rr, rfl, hw, hrr⟩ := hI.sr
    cases (show w = .int x from hw)
    exact zm_store_ok (i := .istore n) (k := 2) hI rfl g3 g4 (fun lv hl hn h9 => lv_istore hx hb hdg hl hn rfl h9) (fun ls2 h9 => kk φ H locs ls2 _ zm_le.rf h9)
  | istore_n n =>
    cases zm_len_of hlk (k := 1) rfl
    simp only [zm_step, Option.map_eq_some_iff] at hs
    obtain ⟨⟨q1, q2⟩, hv, he⟩ := hs
    cases he
    simp only [Nat.sub_self, Nat.add_zero] at kk
    obtain ⟨v, rfl, g2, g3, g4, rfl⟩ := zm_sto_inv hv
    obtain ⟨x, rfl⟩ := zm_kd0 g2
    obtain ⟨w, rr, rfl, hw, hrr⟩ := hI.sr
    cases (show w = .int x from hw)
    exact zm_store_ok (i := .istore_n n) (k := 1) hI rfl g3 g4 (fun lv hl hn h9 => lv_istore_n hx hb hdg rfl hl hn rfl h9) (fun ls2 h9 => kk φ H locs ls2 _ zm_le.rf h9)
  | astore n =>
    cases zm_len_of hlk (k := 2) rfl
    simp only [zm_step, Option.map_eq_some_iff] at hs
    obtain ⟨⟨q1, q2⟩, hv, he⟩ := hs
    cases he
    simp only [Nat.sub_self, Nat.add_zero] at kk
    obtain ⟨v, rfl, g2, g3, g4, rfl⟩ := zm_sto_inv hv
    obtain ⟨x, rfl⟩ := zm_kd2 g2
    obtain ⟨w, rr, rfl, hw, hrr⟩ := hI.sr
    rcases zm_vr_ref hw with rfl | ⟨a, rfl⟩
    · exact zm_store_ok (i := .astore n) (k := 2) hI rfl g3 g4 (fun lv hl hn h9 => lv_astoreN hx hb hdg hl hn rfl h9) (fun ls2 h9 => kk φ H locs ls2 _ zm_le.rf h9)
    · exact zm_store_ok (i := .astore n) (k := 2) hI rfl g3 g4 (fun lv hl hn h9 => lv_astore hx hb hdg hl hn rfl h9) (fun ls2 h9 => kk φ H locs ls2 _ zm_le.rf h9)
  | astore_n n =>
    cases zm_len_of hlk (k := 1) rfl
    simp only [zm_step, Option.map_eq_some_iff] at hs
    obtain ⟨⟨q1, q2⟩, hv, he⟩ := hs
    cases he
    simp only [Nat.sub_self, Nat.add_zero] at kk
    obtain ⟨v, rfl, g2, g3, g4, rfl⟩ := zm_sto_inv hv
    obtain ⟨x, rfl⟩ := zm_kd2 g2
    obtain ⟨w, rr, rfl, hw, hrr⟩ := hI.sr
    rcases zm_vr_ref hw with rfl | ⟨a, rfl⟩
    · exact zm_store_ok (i := .astore_n n) (k := 1) hI rfl g3 g4 (fun lv hl hn h9 => lv_astore_nN hx hb hdg rfl hl hn rfl h9) (fun ls2 h9 => kk φ H locs ls2 _ zm_le.rf h9)
    · exact zm_store_ok (i := .astore_n n) (k := 1) hI rfl g3 g4 (fun lv hl hn h9 => lv_astore_n hx hb hdg rfl hl hn rfl h9) (fun ls2 h9 => kk φ H locs ls2 _ zm_le.rf h9)
  | lstore n =>
    cases zm_len_of hlk (k := 2) rfl
    simp only [zm_step, Option.map_eq_some_iff] at hs
    obtain ⟨⟨q1, q2⟩, hv, he⟩ := hs
    cases he
    simp only [Nat.sub_self, Nat.add_zero] at kk
    obtain ⟨x, rfl, g3, g4, g5, rfl⟩ := zm_stoL_inv hv
    obtain ⟨w, rr, rfl, hw, hrr⟩ := hI.sr
    cases (show w = .long x from hw)
    exact zm_storeL_ok (k := 2) hI g3 g4 g5 (fun lv hl hn h9 => lv_lstore hx hb hdg hl hn rfl h9) (fun ls2 h9 => kk φ H locs ls2 _ zm_le.rf h9)
  | lstore_n n =>
    cases zm_len_of hlk (k := 1) rfl
    simp only [zm_step, Option.map_eq_some_iff] at hs
    obtain ⟨⟨q1, q2⟩, hv, he⟩ := hs
    cases he
    simp only [Nat.sub_self, Nat.add_zero] at kk
    obtain ⟨x, rfl, g3, g4, g5, rfl⟩ := zm_stoL_inv hv
    obtain ⟨w, rr, rfl, hw, hrr⟩ := hI.sr
    cases (show w = .long x from hw)
    exact zm_storeL_ok (k := 1) hI g3 g4 g5 (fun lv hl hn h9 => lv_lstore_n hx hb hdg rfl hl hn rfl h9) (fun ls2 h9 => kk φ H locs ls2 _ zm_le.rf h9)
  | iinc n d =>
    cases zm_len_of hlk (k := 3) rfl
    simp only [zm_step, Option.map_eq_some_iff] at hs
    obtain ⟨q, hv, he⟩ := hs
    cases he
    simp only [Nat.sub_self, Nat.add_zero] at kk
    obtain ⟨x, g1, g2, rfl⟩ := zm_inc_inv hv
    exact zm_iinc_ok X0 hI hdg g1 g2 (fun ls2 h9 => kk φ H locs ls2 _ zm_le.rf h9)
  | bipush n =>
    cases zm_len_of hlk (k := 2) rfl
    cases hs
    simp only [Nat.sub_self, Nat.add_zero] at kk
    exact lv_bipush hx hb hdg rfl (kk φ H locs ls _ zm_le.rf (hI.stack ⟨_, _, rfl, rfl, hI.sr⟩))
  | sipush n =>
    cases zm_len_of hlk (k := 3) rfl
    cases hs
    simp only [Nat.sub_self, Nat.add_zero] at kk
    exact lv_sipush hx hb hdg rfl (kk φ H locs ls _ zm_le.rf (hI.stack ⟨_, _, rfl, rfl, hI.sr⟩))
  | ldc k =>
    cases zm_len_of hlk (k := 2) rfl
    simp only [zm_step, Option.map_eq_some_iff] at hs
    obtain ⟨v, hv, he⟩ := hs
    cases he
    simp only [Nat.sub_self, Nat.add_zero] at kk
    exact zm_ldc_ok X0 hI hdg hv (fun rs2 h9 => kk φ H locs ls rs2 zm_le.rf h9)
  | ldc2_w k =>
    cases zm_len_of hlk (k := 3) rfl
    simp only [zm_step, Option.map_eq_some_iff] at hs
    obtain ⟨v, hv, he⟩ := hs
    cases he
    simp only [Nat.sub_self, Nat.add_zero] at kk
    exact W.ldc2 (g := F0 m pc ls rs) hx hb hown (hts _ (zt_ldc2_ok hv)) rfl hdg (kk φ H locs ls _ zm_le.rf (hI.stack ⟨_, _, rfl, rfl, hI.sr⟩))
  | goto off =>
    cases zm_len_of hlk (k := 3) rfl
    simp only [zm_step, Option.map_eq_some_iff] at hs
    obtain ⟨v, hv, he⟩ := hs
    cases he
    simp only [Nat.sub_self, Nat.add_zero] at kk
    exact lv_goto hx hb hdg (zm_tgt_inv hv) (kk φ H locs ls _ zm_le.rf hI)
  | ifCond cd off =>
    cases zm_len_of hlk (k := 3) rfl
    simp only [zm_step] at hs
    split at hs
    · next x r =>
      simp only [Option.map_eq_some_iff] at hs
      obtain ⟨t, hv, he⟩ := hs
      cases he
      simp only [Nat.sub_self, Nat.add_zero] at kk
      obtain ⟨w, rr, rfl, hw, hrr⟩ := hI.sr
      cases (show w = .int x from hw)
      have kt : zm_cmp cd x 0 = true → W p l e R s m args below meth c H locs cells slots Q (F0 m t ls rr) := fun q => by
        have := kk φ H locs ls rr zm_le.rf (hI.stack hrr)
        rw [if_pos q] at this; exact this
      have kf : ¬ zm_cmp cd x 0 = true → W p l e R s m args below meth c H locs cells slots Q (F0 m (pc + 3) ls rr) := fun q => by
        have := kk φ H locs ls rr zm_le.rf (hI.stack hrr)
        rw [if_neg q] at this; exact this
      cases cd with
      | eq => exact lv_if_eq hx hb hdg (zm_tgt_inv hv) (fun q => kt (by simpa [zm_cmp] using q)) (fun q => kf (by simpa [zm_cmp] using q))
      | ne => exact lv_if_ne hx hb hdg (zm_tgt_inv hv) (fun q => kt (by simpa [zm_cmp] using q)) (fun q => kf (by simpa [zm_cmp] using q))
      | lt => exact lv_if_lt hx hb hdg (zm_tgt_inv hv) (fun q => kt (by simpa [zm_cmp] using q)) (fun q => kf (by simpa [zm_cmp] using q))
      | ge => exact lv_if_ge hx hb hdg (zm_tgt_inv hv) (fun q => kt (by simpa [zm_cmp] using q)) (fun q => kf (by simpa [zm_cmp] using q))
      | gt => exact lv_if_gt hx hb hdg (zm_tgt_inv hv) (fun q => kt (by simpa [zm_cmp] using q)) (fun q => kf (by simpa [zm_cmp] using q))
      | le => exact lv_if_le hx hb hdg (zm_tgt_inv hv) (fun q => kt (by simpa [zm_cmp] using q)) (fun q => kf (by simpa [zm_cmp] using q))
    · cases hs
  | if_icmp cd off =>
    cases zm_len_of hlk (k := 3) rfl
    simp only [zm_step] at hs
    split at hs
    · next y x r =>
      simp only [Option.map_eq_some_iff] at hs
      obtain ⟨t, hv, he⟩ := hs
      cases he
      simp only [Nat.sub_self, Nat.add_zero] at kk
      obtain ⟨w1, w2, rr, rfl, g1, g2, hrr⟩ := zm_two hI.sr
      cases (show w1 = .int y from g1)
      cases (show w2 = .int x from g2)
      have kt : zm_cmp cd x y = true → W p l e R s m args below meth c H locs cells slots Q (F0 m t ls rr) := fun q => by
        have := kk φ H locs ls rr zm_le.rf (hI.stack hrr)
        rw [if_pos q] at this; exact this
      have kf : ¬ zm_cmp cd x y = true → W p l e R s m args below meth c H locs cells slots Q (F0 m (pc + 3) ls rr) := fun q => by
        have := kk φ H locs ls rr zm_le.rf (hI.stack hrr)
        rw [if_neg q] at this; exact this
      cases cd with
      | eq => exact lv_icmp_eq hx hb hdg (zm_tgt_inv hv) (fun q => kt (by simpa [zm_cmp] using q)) (fun q => kf (by simpa [zm_cmp] using q))
      | ne => exact lv_icmp_ne hx hb hdg (zm_tgt_inv hv) (fun q => kt (by simpa [zm_cmp] using q)) (fun q => kf (by simpa [zm_cmp] using q))
      | lt => exact lv_icmp_lt hx hb hdg (zm_tgt_inv hv) (fun q => kt (by simpa [zm_cmp] using q)) (fun q => kf (by simpa [zm_cmp] using q))
      | ge => exact lv_icmp_ge hx hb hdg (zm_tgt_inv hv) (fun q => kt (by simpa [zm_cmp] using q)) (fun q => kf (by simpa [zm_cmp] using q))
      | gt => exact lv_icmp_gt hx hb hdg (zm_tgt_inv hv) (fun q => kt (by simpa [zm_cmp] using q)) (fun q => kf (by simpa [zm_cmp] using q))
      | le => exact lv_icmp_le hx hb hdg (zm_tgt_inv hv) (fun q => kt (by simpa [zm_cmp] using q)) (fun q => kf (by simpa [zm_cmp] using q))
    · cases hs
  | ifnull off =>
    cases zm_len_of hlk (k := 3) rfl
    simp only [zm_step] at hs
    split at hs
    · next q r =>
      split at hs
      · next h7 =>
        simp only [Option.map_eq_some_iff] at hs
        obtain ⟨t, hv, he⟩ := hs
        cases he
        simp only [Nat.sub_self, Nat.add_zero] at kk
        obtain ⟨w, rr, rfl, hw, hrr⟩ := hI.sr
        have kf := kk φ H locs ls rr zm_le.rf (hI.stack hrr)
        rcases zm_vr_null hw h7 with ⟨rfl, rfl⟩ | ⟨k, a, rfl, rfl⟩
        · exact lv_ifnullN hx hb hdg (zm_tgt_inv hv) kf
        · exact lv_ifnull hx hb hdg kf
      · cases hs
    · cases hs
  | ifnonnull off =>
    cases zm_len_of hlk (k := 3) rfl
    simp only [zm_step] at hs
    split at hs
    · next q r =>
      split at hs
      · next h7 =>
        simp only [Option.map_eq_some_iff] at hs
        obtain ⟨t, hv, he⟩ := hs
        cases he
        simp only [Nat.sub_self, Nat.add_zero] at kk
        obtain ⟨w, rr, rfl, hw, hrr⟩ := hI.sr
        have kf := kk φ H locs ls rr zm_le.rf (hI.stack hrr)
        rcases zm_vr_null hw h7 with ⟨rfl, rfl⟩ | ⟨k, a, rfl, rfl⟩
        · exact lv_ifnonnullN hx hb hdg kf
        · exact lv_ifnonnull hx hb hdg (zm_tgt_inv hv) kf
      · cases hs
    · cases hs
  | tableswitch dflt lo hi offs =>
    simp only [zm_step] at hs
    split at hs
    · next x r =>
      simp only [Option.map_eq_some_iff] at hs
      obtain ⟨t, hv, he⟩ := hs
      cases he
      simp only [Nat.sub_self, Nat.add_zero] at kk
      obtain ⟨w, rr, rfl, hw, hrr⟩ := hI.sr
      cases (show w = .int x from hw)
      have kf := kk φ H locs ls rr zm_le.rf (hI.stack hrr)
      unfold zm_tab at hv
      split at hv
      · next hout => exact lv_tableOut hx hb hdg hout (zm_tgt_inv hv) kf
      · next hout =>
        split at hv
        · next off ho => exact lv_tableIn hx hb hdg (fun q => hout (Or.inl q)) (fun q => hout (Or.inr q)) ho (zm_tgt_inv hv) kf
        · cases hv
    · cases hs
  | getfield k =>
    cases zm_len_of hlk (k := 3) rfl
    simp only [zm_step] at hs
    split at hs
    · next r rest =>
      split at hs
      · next q hq =>
        split at hs
        · next hF =>
          cases hs
          simp only [Nat.sub_self, Nat.add_zero] at kk
          exact zm_getfield_ok X0 hI hdg hq hF (fun rs2 h9 => kk φ H locs ls rs2 zm_le.rf h9)
        · cases hs
      · cases hs
    · cases hs
  | putfield k =>
    cases zm_len_of hlk (k := 3) rfl
    simp only [zm_step] at hs
    split at hs
    · next v r rest =>
      split at hs
      · next q hq =>
        split at hs
        · next hF =>
          cases hs
          obtain ⟨f1, f2, f3, f4⟩ := hF
          rw [zm_putF_1] at kk
          simp only [Nat.sub_self, Nat.add_zero] at kk
          exact zm_putfield_ok X0 hI hdg hq f1 f2 f3 f4 (fun H2 locs2 rs2 h9 => kk φ H2 locs2 ls rs2 zm_le.rf h9)
        · cases hs
      · cases hs
    · cases hs
  | getstatic k =>
    cases zm_len_of hlk (k := 3) rfl
    simp only [zm_step, Option.map_eq_some_iff] at hs
    obtain ⟨v, hv, he⟩ := hs
    cases he
    simp only [Nat.sub_self, Nat.add_zero] at kk
    exact zm_getstatic_ok X0 hI hdg hv (fun rs2 h9 => kk φ H locs ls rs2 zm_le.rf h9)
  | iaload =>
    cases zm_len_of hlk (k := 1) rfl
    simp only [zm_step] at hs
    split at hs
    · split at hs
      · next hF =>
        cases hs
        simp only [Nat.sub_self, Nat.add_zero] at kk
        exact zm_iaload_ok X0 hI hdg hF (fun rs2 h9 => kk φ H locs ls rs2 zm_le.rf h9)
      · cases hs
    · cases hs
  | caload =>
    cases zm_len_of hlk (k := 1) rfl
    simp only [zm_step] at hs
    split at hs
    · split at hs
      · next hF =>
        cases hs
        simp only [Nat.sub_self, Nat.add_zero] at kk
        exact zm_caload_ok X0 hI hdg hF.1 hF.2 (fun rs2 h9 => kk φ H locs ls rs2 zm_le.rf h9)
      · cases hs
    · cases hs
  | baload =>
    cases zm_len_of hlk (k := 1) rfl
    simp only [zm_step] at hs
    split at hs
    · split at hs
      · next hF =>
        cases hs
        simp only [Nat.sub_self, Nat.add_zero] at kk
        exact zm_baload_ok X0 hI hdg hF (fun rs2 h9 => kk φ H locs ls rs2 zm_le.rf h9)
      · cases hs
    · cases hs
  | aaload =>
    cases zm_len_of hlk (k := 1) rfl
    simp only [zm_step] at hs
    split at hs
    · split at hs
      · next hF =>
        cases hs
        simp only [Nat.sub_self, Nat.add_zero] at kk
        exact zm_aaload_ok X0 hI hdg hF.1 hF.2 (fun rs2 h9 => kk φ H locs ls rs2 zm_le.rf h9)
      · cases hs
    · cases hs
  | iastore =>
    cases zm_len_of hlk (k := 1) rfl
    simp only [zm_step] at hs
    split at hs
    · split at hs
      · next hF =>
        cases hs
        rw [zm_stI_1] at kk
        simp only [Nat.sub_self, Nat.add_zero] at kk
        exact zm_iastore_ok X0 hI hdg hF.1 hF.2 (fun H2 locs2 rs2 h9 => kk φ H2 locs2 ls rs2 zm_le.rf h9)
      · cases hs
    · cases hs
  | castore =>
    cases zm_len_of hlk (k := 1) rfl
    simp only [zm_step] at hs
    split at hs
    · split at hs
      · next hF =>
        cases hs
        rw [zm_stI_1] at kk
        simp only [Nat.sub_self, Nat.add_zero] at kk
        exact zm_castore_ok X0 hI hdg hF.1 hF.2 (fun H2 locs2 rs2 h9 => kk φ H2 locs2 ls rs2 zm_le.rf h9)
      · cases hs
    · cases hs
  | bastore =>
    cases zm_len_of hlk (k := 1) rfl
    simp only [zm_step] at hs
    split at hs
    · split at hs
      · next hF =>
        cases hs
        rw [zm_stI_1] at kk
        simp only [Nat.sub_self, Nat.add_zero] at kk
        exact zm_bastore_ok X0 hI hdg hF.1 hF.2 (fun H2 locs2 rs2 h9 => kk φ H2 locs2 ls rs2 zm_le.rf h9)
      · cases hs
    · cases hs
  | aastore =>
    cases zm_len_of hlk (k := 1) rfl
    simp only [zm_step] at hs
    split at hs
    · split at hs
      · next hF =>
        cases hs
        rw [zm_stQ_1] at kk
        simp only [Nat.sub_self, Nat.add_zero] at kk
        exact zm_aastore_ok X0 hI hdg hF.1 hF.2.1 hF.2.2.1 hF.2.2.2 (fun H2 locs2 rs2 h9 => kk φ H2 locs2 ls rs2 zm_le.rf h9)
      · cases hs
    · cases hs
  | arraylength =>
    cases zm_len_of hlk (k := 1) rfl
    simp only [zm_step] at hs
    split at hs
    · split at hs
      · next hF =>
        cases hs
        simp only [Nat.sub_self, Nat.add_zero] at kk
        exact zm_alen_ok X0 hI hdg hF (fun rs2 h9 => kk φ H locs ls rs2 zm_le.rf h9)
      · cases hs
    · cases hs
  | new k =>
    cases zm_len_of hlk (k := 3) rfl
    simp only [zm_step] at hs
    split at hs
    · next q hq =>
      split at hs
      · next hF =>
        cases hs
        rw [zm_new_1, zm_new_2] at kk
        rw [zm_new_1] at hc
        rw [zm_new_2] at hsl
        exact zm_new_ok X0 hI hdg hq hF hc hsl (fun φ2 H2 rs2 hle h9 => kk φ2 H2 locs ls rs2 hle h9)
      · cases hs
    · cases hs
  | newarray t =>
    cases zm_len_of hlk (k := 2) rfl
    simp only [zm_step] at hs
    split at hs
    · split at hs
      · next hF =>
        cases hs
        rw [zm_new_1, zm_new_2] at kk
        rw [zm_new_1] at hc
        rw [zm_new_2] at hsl
        exact zm_newarray_ok X0 hI hdg hF.1 hF.2.1 hF.2.2 hc hsl (fun φ2 H2 rs2 hle h9 => kk φ2 H2 locs ls rs2 hle h9)
      · cases hs
    · cases hs
  | anewarray k =>
    cases zm_len_of hlk (k := 3) rfl
    simp only [zm_step] at hs
    split at hs
    · split at hs
      · next hq =>
        split at hs
        · next hF =>
          cases hs
          rw [zm_new_1, zm_new_2] at kk
          rw [zm_new_1] at hc
          rw [zm_new_2] at hsl
          exact zm_anewarray_ok X0 hI hdg hq hF.1 hF.2 hc hsl (fun φ2 H2 rs2 hle h9 => kk φ2 H2 locs ls rs2 hle h9)
        · cases hs
      · cases hs
    · cases hs
  | invokespecial k =>
    cases zm_len_of hlk (k := 3) rfl
    simp only [zm_step] at hs
    split at hs
    · split at hs
      · next hF =>
        cases hs
        simp only [Nat.sub_self, Nat.add_zero] at kk
        exact zm_objinit_ok X0 hI hdg hF.1 hF.2.1 hF.2.2 hR (fun rs2 h9 => kk φ H locs ls rs2 zm_le.rf h9)
      · cases hs
    · cases hs
  | invokestatic k =>
    cases zm_len_of hlk (k := 3) rfl
    simp only [zm_step] at hs
    split at hs
    · split at hs
      · next hF =>
        cases hs
        simp only [Nat.sub_self, Nat.add_zero] at kk
        exact zm_max_ok X0 hI hdg hF.1 hF.2 hR (by simpa using hc) (by simpa using hsl) (fun rs2 h9 => kk φ H locs ls rs2 zm_le.rf h9)
      · cases hs
    · cases hs
  | iadd =>
    cases zm_len_of hlk (k := 1) rfl
    simp only [zm_step, Option.map_eq_some_iff] at hs
    obtain ⟨q, hv, he⟩ := hs
    cases he
    simp only [Nat.sub_self, Nat.add_zero] at kk
    exact zm_alu_ok hx hb hdg hv hI.sr (fun rs2 h9 => kk φ H locs ls rs2 zm_le.rf (hI.stack h9))
  | isub =>
    cases zm_len_of hlk (k := 1) rfl
    simp only [zm_step, Option.map_eq_some_iff] at hs
    obtain ⟨q, hv, he⟩ := hs
    cases he
    simp only [Nat.sub_self, Nat.add_zero] at kk
    exact zm_alu_ok hx hb hdg hv hI.sr (fun rs2 h9 => kk φ H locs ls rs2 zm_le.rf (hI.stack h9))
  | imul =>
    cases zm_len_of hlk (k := 1) rfl
    simp only [zm_step, Option.map_eq_some_iff] at hs
    obtain ⟨q, hv, he⟩ := hs
    cases he
    simp only [Nat.sub_self, Nat.add_zero] at kk
    exact zm_alu_ok hx hb hdg hv hI.sr (fun rs2 h9 => kk φ H locs ls rs2 zm_le.rf (hI.stack h9))
  | iand =>
    cases zm_len_of hlk (k := 1) rfl
    simp only [zm_step, Option.map_eq_some_iff] at hs
    obtain ⟨q, hv, he⟩ := hs
    cases he
    simp only [Nat.sub_self, Nat.add_zero] at kk
    exact zm_alu_ok hx hb hdg hv hI.sr (fun rs2 h9 => kk φ H locs ls rs2 zm_le.rf (hI.stack h9))
  | ior =>
    cases zm_len_of hlk (k := 1) rfl
    simp only [zm_step, Option.map_eq_some_iff] at hs
    obtain ⟨q, hv, he⟩ := hs
    cases he
    simp only [Nat.sub_self, Nat.add_zero] at kk
    exact zm_alu_ok hx hb hdg hv hI.sr (fun rs2 h9 => kk φ H locs ls rs2 zm_le.rf (hI.stack h9))
  | ixor =>
    cases zm_len_of hlk (k := 1) rfl
    simp only [zm_step, Option.map_eq_some_iff] at hs
    obtain ⟨q, hv, he⟩ := hs
    cases he
    simp only [Nat.sub_self, Nat.add_zero] at kk
    exact zm_alu_ok hx hb hdg hv hI.sr (fun rs2 h9 => kk φ H locs ls rs2 zm_le.rf (hI.stack h9))
  | ishl =>
    cases zm_len_of hlk (k := 1) rfl
    simp only [zm_step, Option.map_eq_some_iff] at hs
    obtain ⟨q, hv, he⟩ := hs
    cases he
    simp only [Nat.sub_self, Nat.add_zero] at kk
    exact zm_alu_ok hx hb hdg hv hI.sr (fun rs2 h9 => kk φ H locs ls rs2 zm_le.rf (hI.stack h9))
  | ishr =>
    cases zm_len_of hlk (k := 1) rfl
    simp only [zm_step, Option.map_eq_some_iff] at hs
    obtain ⟨q, hv, he⟩ := hs
    cases he
    simp only [Nat.sub_self, Nat.add_zero] at kk
    exact zm_alu_ok hx hb hdg hv hI.sr (fun rs2 h9 => kk φ H locs ls rs2 zm_le.rf (hI.stack h9))
  | iushr =>
    cases zm_len_of hlk (k := 1) rfl
    simp only [zm_step, Option.map_eq_some_iff] at hs
    obtain ⟨q, hv, he⟩ := hs
    cases he
    simp only [Nat.sub_self, Nat.add_zero] at kk
    exact zm_alu_ok hx hb hdg hv hI.sr (fun rs2 h9 => kk φ H locs ls rs2 zm_le.rf (hI.stack h9))
  | ineg =>
    cases zm_len_of hlk (k := 1) rfl
    simp only [zm_step, Option.map_eq_some_iff] at hs
    obtain ⟨q, hv, he⟩ := hs
    cases he
    simp only [Nat.sub_self, Nat.add_zero] at kk
    exact zm_alu_ok hx hb hdg hv hI.sr (fun rs2 h9 => kk φ H locs ls rs2 zm_le.rf (hI.stack h9))
  | i2l =>
    cases zm_len_of hlk (k := 1) rfl
    simp only [zm_step, Option.map_eq_some_iff] at hs
    obtain ⟨q, hv, he⟩ := hs
    cases he
    simp only [Nat.sub_self, Nat.add_zero] at kk
    exact zm_alu_ok hx hb hdg hv hI.sr (fun rs2 h9 => kk φ H locs ls rs2 zm_le.rf (hI.stack h9))
  | i2c =>
    cases zm_len_of hlk (k := 1) rfl
    simp only [zm_step, Option.map_eq_some_iff] at hs
    obtain ⟨q, hv, he⟩ := hs
    cases he
    simp only [Nat.sub_self, Nat.add_zero] at kk
    exact zm_alu_ok hx hb hdg hv hI.sr (fun rs2 h9 => kk φ H locs ls rs2 zm_le.rf (hI.stack h9))
  | i2b =>
    cases zm_len_of hlk (k := 1) rfl
    simp only [zm_step, Option.map_eq_some_iff] at hs
    obtain ⟨q, hv, he⟩ := hs
    cases he
    simp only [Nat.sub_self, Nat.add_zero] at kk
    exact zm_alu_ok hx hb hdg hv hI.sr (fun rs2 h9 => kk φ H locs ls rs2 zm_le.rf (hI.stack h9))
  | l2i =>
    cases zm_len_of hlk (k := 1) rfl
    simp only [zm_step, Option.map_eq_some_iff] at hs
    obtain ⟨q, hv, he⟩ := hs
    cases he
    simp only [Nat.sub_self, Nat.add_zero] at kk
    exact zm_alu_ok hx hb hdg hv hI.sr (fun rs2 h9 => kk φ H locs ls rs2 zm_le.rf (hI.stack h9))
  | ladd =>
    cases zm_len_of hlk (k := 1) rfl
    simp only [zm_step, Option.map_eq_some_iff] at hs
    obtain ⟨q, hv, he⟩ := hs
    cases he
    simp only [Nat.sub_self, Nat.add_zero] at kk
    exact zm_alu_ok hx hb hdg hv hI.sr (fun rs2 h9 => kk φ H locs ls rs2 zm_le.rf (hI.stack h9))
  | lmul =>
    cases zm_len_of hlk (k := 1) rfl
    simp only [zm_step, Option.map_eq_some_iff] at hs
    obtain ⟨q, hv, he⟩ := hs
    cases he
    simp only [Nat.sub_self, Nat.add_zero] at kk
    exact zm_alu_ok hx hb hdg hv hI.sr (fun rs2 h9 => kk φ H locs ls rs2 zm_le.rf (hI.stack h9))
  | land =>
    cases zm_len_of hlk (k := 1) rfl
    simp only [zm_step, Option.map_eq_some_iff] at hs
    obtain ⟨q, hv, he⟩ := hs
    cases he
    simp only [Nat.sub_self, Nat.add_zero] at kk
    exact zm_alu_ok hx hb hdg hv hI.sr (fun rs2 h9 => kk φ H locs ls rs2 zm_le.rf (hI.stack h9))
  | lor =>
    cases zm_len_of hlk (k := 1) rfl
    simp only [zm_step, Option.map_eq_some_iff] at hs
    obtain ⟨q, hv, he⟩ := hs
    cases he
    simp only [Nat.sub_self, Nat.add_zero] at kk
    exact zm_alu_ok hx hb hdg hv hI.sr (fun rs2 h9 => kk φ H locs ls rs2 zm_le.rf (hI.stack h9))
  | lcmp =>
    cases zm_len_of hlk (k := 1) rfl
    simp only [zm_step, Option.map_eq_some_iff] at hs
    obtain ⟨q, hv, he⟩ := hs
    cases he
    simp only [Nat.sub_self, Nat.add_zero] at kk
    exact zm_alu_ok hx hb hdg hv hI.sr (fun rs2 h9 => kk φ H locs ls rs2 zm_le.rf (hI.stack h9))
  | lshl =>
    cases zm_len_of hlk (k := 1) rfl
    simp only [zm_step, Option.map_eq_some_iff] at hs
    obtain ⟨q, hv, he⟩ := hs
    cases he
    simp only [Nat.sub_self, Nat.add_zero] at kk
    exact zm_alu_ok hx hb hdg hv hI.sr (fun rs2 h9 => kk φ H locs ls rs2 zm_le.rf (hI.stack h9))
  | lushr =>
    cases zm_len_of hlk (k := 1) rfl
    simp only [zm_step, Option.map_eq_some_iff] at hs
    obtain ⟨q, hv, he⟩ := hs
    cases he
    simp only [Nat.sub_self, Nat.add_zero] at kk
    exact zm_alu_ok hx hb hdg hv hI.sr (fun rs2 h9 => kk φ H locs ls rs2 zm_le.rf (hI.stack h9))
  | aconst_null =>
    cases zm_len_of hlk (k := 1) rfl
    simp only [zm_step, Option.map_eq_some_iff] at hs
    obtain ⟨q, hv, he⟩ := hs
    cases he
    simp only [Nat.sub_self, Nat.add_zero] at kk
    exact zm_alu_ok hx hb hdg hv hI.sr (fun rs2 h9 => kk φ H locs ls rs2 zm_le.rf (hI.stack h9))
  | dup =>
    cases zm_len_of hlk (k := 1) rfl
    simp only [zm_step, Option.map_eq_some_iff] at hs
    obtain ⟨q, hv, he⟩ := hs
    cases he
    simp only [Nat.sub_self, Nat.add_zero] at kk
    exact zm_alu_ok hx hb hdg hv hI.sr (fun rs2 h9 => kk φ H locs ls rs2 zm_le.rf (hI.stack h9))
  | pop =>
    cases zm_len_of hlk (k := 1) rfl
    simp only [zm_step, Option.map_eq_some_iff] at hs
    obtain ⟨q, hv, he⟩ := hs
    cases he
    simp only [Nat.sub_self, Nat.add_zero] at kk
    exact zm_alu_ok hx hb hdg hv hI.sr (fun rs2 h9 => kk φ H locs ls rs2 zm_le.rf (hI.stack h9))
  | iconst n =>
    cases zm_len_of hlk (k := 1) rfl
    simp only [zm_step, Option.map_eq_some_iff] at hs
    obtain ⟨q, hv, he⟩ := hs
    cases he
    simp only [Nat.sub_self, Nat.add_zero] at kk
    exact zm_alu_ok hx hb hdg hv hI.sr (fun rs2 h9 => kk φ H locs ls rs2 zm_le.rf (hI.stack h9))
  | lconst n =>
    cases zm_len_of hlk (k := 1) rfl
    simp only [zm_step, Option.map_eq_some_iff] at hs
    obtain ⟨q, hv, he⟩ := hs
    cases he
    simp only [Nat.sub_self, Nat.add_zero] at kk
    exact zm_alu_ok hx hb hdg hv hI.sr (fun rs2 h9 => kk φ H locs ls rs2 zm_le.rf (hI.stack h9))
  | _ => cases hs
end ZME
end
section
def zm_fr (h h2 : zmH) : Prop := h.1.1 ≤ h2.1.1 ∧ h.1.2 ≤ h2.1.2 ∧ ∀ k : zmK, k.1 < 8 → zm_get h2 k = zm_get h k
theorem zm_fr.rf {h : zmH} : zm_fr h h := ⟨Nat.le_refl _, Nat.le_refl _, fun _ _ => rfl⟩
theorem zm_fr.tr {h h2 h3 : zmH} (a : zm_fr h h2) (b : zm_fr h2 h3) : zm_fr h h3 := ⟨Nat.le_trans a.1 b.1, Nat.le_trans a.2.1 b.2.1, fun k hk => (b.2.2 k hk).trans (a.2.2 k hk)⟩
theorem zm_fr.set {h : zmH} {r : zmK} {c : zmC} (h8 : 8 ≤ r.1) : zm_fr h (zm_set h r c) := ⟨Nat.le_refl _, Nat.le_refl _, zm_set_ro h8⟩
theorem zm_fr.putF {h : zmH} {r : zmK} {k : Nat} {v : zmV} (h8 : 8 ≤ r.1) : zm_fr h (zm_putF h r k v) := by
  unfold zm_putF
  split
  · exact zm_fr.set h8
  · exact zm_fr.rf
theorem zm_fr.stI {h : zmH} {r : zmK} {i x : Int32} (h8 : 8 ≤ r.1) : zm_fr h (zm_stI h r i x) := by
  unfold zm_stI
  split
  · exact zm_fr.set h8
  · exact zm_fr.rf
theorem zm_fr.stQ {h : zmH} {r x : zmK} {i : Int32} (h8 : 8 ≤ r.1) : zm_fr h (zm_stQ h r i x) := by
  unfold zm_stQ
  split
  · exact zm_fr.set h8
  · exact zm_fr.rf
theorem zm_fr.new {h : zmH} {s : Nat} {c : zmC} {sl : Nat} (h8 : 8 ≤ s) : zm_fr h (zm_new h s c sl) := ⟨Nat.le_add_right _ _, Nat.le_add_right _ _, zm_new_ro h8⟩
set_option maxHeartbeats 4000000 in
theorem zm_step_fr {mi pc : Nat} {i : Instr} {L : zmL} {st : List zmV} {h : zmH} {q : Nat × zmL × List zmV × zmH} (hs : zm_step mi pc i L st h = some q) : zm_fr h q.2.2.2 := by
  cases i with
  | iload_n n =>
    simp only [zm_step, Option.map_eq_some_iff] at hs
    obtain ⟨_, _, rfl⟩ := hs
    exact zm_fr.rf
  | iload n =>
    simp only [zm_step, Option.map_eq_some_iff] at hs
    obtain ⟨_, _, rfl⟩ := hs
    exact zm_fr.rf
  | lload n =>
    simp only [zm_step, Option.map_eq_some_iff] at hs
    obtain ⟨_, _, rfl⟩ := hs
    exact zm_fr.rf
  | lload_n n =>
    simp only [zm_step, Option.map_eq_some_iff] at hs
    obtain ⟨_, _, rfl⟩ := hs
    exact zm_fr.rf
  | aload n =>
    simp only [zm_step, Option.map_eq_some_iff] at hs
    obtain ⟨_, _, rfl⟩ := hs
    exact zm_fr.rf
  | aload_n n =>
    simp only [zm_step, Option.map_eq_some_iff] at hs
    obtain ⟨_, _, rfl⟩ := hs
    exact zm_fr.rf
  | istore n =>
    simp only [zm_step, Option.map_eq_some_iff] at hs
    obtain ⟨_, _, rfl⟩ := hs
    exact zm_fr.rf
  | istore_n n =>
    simp only [zm_step, Option.map_eq_some_iff] at hs
    obtain ⟨_, _, rfl⟩ := hs
    exact zm_fr.rf
  | astore n =>
    simp only [zm_step, Option.map_eq_some_iff] at hs
    obtain ⟨_, _, rfl⟩ := hs
    exact zm_fr.rf
  | astore_n n =>
    simp only [zm_step, Option.map_eq_some_iff] at hs
    obtain ⟨_, _, rfl⟩ := hs
    exact zm_fr.rf
  | lstore n =>
    simp only [zm_step, Option.map_eq_some_iff] at hs
    obtain ⟨_, _, rfl⟩ := hs
    exact zm_fr.rf
  | lstore_n n =>
    simp only [zm_step, Option.map_eq_some_iff] at hs
    obtain ⟨_, _, rfl⟩ := hs
    exact zm_fr.rf
  | iinc n d =>
    simp only [zm_step, Option.map_eq_some_iff] at hs
    obtain ⟨_, _, rfl⟩ := hs
    exact zm_fr.rf
  | ldc k =>
    simp only [zm_step, Option.map_eq_some_iff] at hs
    obtain ⟨_, _, rfl⟩ := hs
    exact zm_fr.rf
  | ldc2_w k =>
    simp only [zm_step, Option.map_eq_some_iff] at hs
    obtain ⟨_, _, rfl⟩ := hs
    exact zm_fr.rf
  | goto off =>
    simp only [zm_step, Option.map_eq_some_iff] at hs
    obtain ⟨_, _, rfl⟩ := hs
    exact zm_fr.rf
  | getstatic k =>
    simp only [zm_step, Option.map_eq_some_iff] at hs
    obtain ⟨_, _, rfl⟩ := hs
    exact zm_fr.rf
  | iadd =>
    simp only [zm_step, Option.map_eq_some_iff] at hs
    obtain ⟨_, _, rfl⟩ := hs
    exact zm_fr.rf
  | isub =>
    simp only [zm_step, Option.map_eq_some_iff] at hs
    obtain ⟨_, _, rfl⟩ := hs
    exact zm_fr.rf
  | imul =>
    simp only [zm_step, Option.map_eq_some_iff] at hs
    obtain ⟨_, _, rfl⟩ := hs
    exact zm_fr.rf
  | iand =>
    simp only [zm_step, Option.map_eq_some_iff] at hs
    obtain ⟨_, _, rfl⟩ := hs
    exact zm_fr.rf
  | ior =>
    simp only [zm_step, Option.map_eq_some_iff] at hs
    obtain ⟨_, _, rfl⟩ := hs
    exact zm_fr.rf
  | ixor =>
    simp only [zm_step, Option.map_eq_some_iff] at hs
    obtain ⟨_, _, rfl⟩ := hs
    exact zm_fr.rf
  | ishl =>
    simp only [zm_step, Option.map_eq_some_iff] at hs
    obtain ⟨_, _, rfl⟩ := hs
    exact zm_fr.rf
  | ishr =>
    simp only [zm_step, Option.map_eq_some_iff] at hs
    obtain ⟨_, _, rfl⟩ := hs
    exact zm_fr.rf
  | iushr =>
    simp only [zm_step, Option.map_eq_some_iff] at hs
    obtain ⟨_, _, rfl⟩ := hs
    exact zm_fr.rf
  | ineg =>
    simp only [zm_step, Option.map_eq_some_iff] at hs
    obtain ⟨_, _, rfl⟩ := hs
    exact zm_fr.rf
  | i2l =>
    simp only [zm_step, Option.map_eq_some_iff] at hs
    obtain ⟨_, _, rfl⟩ := hs
    exact zm_fr.rf
  | i2c =>
    simp only [zm_step, Option.map_eq_some_iff] at hs
    obtain ⟨_, _, rfl⟩ := hs
    exact zm_fr.rf
  | i2b =>
    simp only [zm_step, Option.map_eq_some_iff] at hs
    obtain ⟨_, _, rfl⟩ := hs
    exact zm_fr.rf
  | l2i =>
    simp only [zm_step, Option.map_eq_some_iff] at hs
    obtain ⟨_, _, rfl⟩ := hs
    exact zm_fr.rf
  | ladd =>
    simp only [zm_step, Option.map_eq_some_iff] at hs
    obtain ⟨_, _, rfl⟩ := hs
    exact zm_fr.rf
  | lmul =>
    simp only [zm_step, Option.map_eq_some_iff] at hs
    obtain ⟨_, _, rfl⟩ := hs
    exact zm_fr.rf
  | land =>
    simp only [zm_step, Option.map_eq_some_iff] at hs
    obtain ⟨_, _, rfl⟩ := hs
    exact zm_fr.rf
  | lor =>
    simp only [zm_step, Option.map_eq_some_iff] at hs
    obtain ⟨_, _, rfl⟩ := hs
    exact zm_fr.rf
  | lcmp =>
    simp only [zm_step, Option.map_eq_some_iff] at hs
    obtain ⟨_, _, rfl⟩ := hs
    exact zm_fr.rf
  | lshl =>
    simp only [zm_step, Option.map_eq_some_iff] at hs
    obtain ⟨_, _, rfl⟩ := hs
    exact zm_fr.rf
  | lushr =>
    simp only [zm_step, Option.map_eq_some_iff] at hs
    obtain ⟨_, _, rfl⟩ := hs
    exact zm_fr.rf
  | aconst_null =>
    simp only [zm_step, Option.map_eq_some_iff] at hs
    obtain ⟨_, _, rfl⟩ := hs
    exact zm_fr.rf
  | dup =>
    simp only [zm_step, Option.map_eq_some_iff] at hs
    obtain ⟨_, _, rfl⟩ := hs
    exact zm_fr.rf
  | pop =>
    simp only [zm_step, Option.map_eq_some_iff] at hs
    obtain ⟨_, _, rfl⟩ := hs
    exact zm_fr.rf
  | iconst n =>
    simp only [zm_step, Option.map_eq_some_iff] at hs
    obtain ⟨_, _, rfl⟩ := hs
    exact zm_fr.rf
  | lconst n =>
    simp only [zm_step, Option.map_eq_some_iff] at hs
    obtain ⟨_, _, rfl⟩ := hs
    exact zm_fr.rf
  | bipush n =>
    cases hs
    exact zm_fr.rf
  | sipush n =>
    cases hs
    exact zm_fr.rf
  | ifnull off =>
    simp only [zm_step] at hs
    split at hs
    · split at hs
      · simp only [Option.map_eq_some_iff] at hs
        obtain ⟨_, _, rfl⟩ := hs
        exact zm_fr.rf
      · cases hs
    · cases hs
  | ifnonnull off =>
    simp only [zm_step] at hs
    split at hs
    · split at hs
      · simp only [Option.map_eq_some_iff] at hs
        obtain ⟨_, _, rfl⟩ := hs
        exact zm_fr.rf
      · cases hs
    · cases hs
  | ifCond cd off =>
    simp only [zm_step] at hs
    split at hs
    · simp only [Option.map_eq_some_iff] at hs
      obtain ⟨_, _, rfl⟩ := hs
      exact zm_fr.rf
    · cases hs
  | if_icmp cd off =>
    simp only [zm_step] at hs
    split at hs
    · simp only [Option.map_eq_some_iff] at hs
      obtain ⟨_, _, rfl⟩ := hs
      exact zm_fr.rf
    · cases hs
  | tableswitch dflt lo hi offs =>
    simp only [zm_step] at hs
    split at hs
    · simp only [Option.map_eq_some_iff] at hs
      obtain ⟨_, _, rfl⟩ := hs
      exact zm_fr.rf
    · cases hs
  | getfield k =>
    simp only [zm_step] at hs
    split at hs
    · split at hs
      · split at hs
        · next hF =>
          cases hs
          exact zm_fr.rf
        · cases hs
      · cases hs
    · cases hs
  | putfield k =>
    simp only [zm_step] at hs
    split at hs
    · split at hs
      · split at hs
        · next hF =>
          cases hs
          exact zm_fr.putF hF.2.2.1
        · cases hs
      · cases hs
    · cases hs
  | iaload =>
    simp only [zm_step] at hs
    split at hs
    · split at hs
      · next hF =>
        cases hs
        exact zm_fr.rf
      · cases hs
    · cases hs
  | caload =>
    simp only [zm_step] at hs
    split at hs
    · split at hs
      · next hF =>
        cases hs
        exact zm_fr.rf
      · cases hs
    · cases hs
  | baload =>
    simp only [zm_step] at hs
    split at hs
    · split at hs
      · next hF =>
        cases hs
        exact zm_fr.rf
      · cases hs
    · cases hs
  | aaload =>
    simp only [zm_step] at hs
    split at hs
    · split at hs
      · next hF =>
        cases hs
        exact zm_fr.rf
      · cases hs
    · cases hs
  | arraylength =>
    simp only [zm_step] at hs
    split at hs
    · split at hs
      · next hF =>
        cases hs
        exact zm_fr.rf
      · cases hs
    · cases hs
  | iastore =>
    simp only [zm_step] at hs
    split at hs
    · split at hs
      · next hF =>
        cases hs
        exact zm_fr.stI hF.2
      · cases hs
    · cases hs
  | bastore =>
    simp only [zm_step] at hs
    split at hs
    · split at hs
      · next hF =>
        cases hs
        exact zm_fr.stI hF.2
      · cases hs
    · cases hs
  | castore =>
    simp only [zm_step] at hs
    split at hs
    · split at hs
      · next hF =>
        cases hs
        exact zm_fr.stI hF.2
      · cases hs
    · cases hs
  | aastore =>
    simp only [zm_step] at hs
    split at hs
    · split at hs
      · next hF =>
        cases hs
        exact zm_fr.stQ hF.2.2.1
      · cases hs
    · cases hs
  | new k =>
    simp only [zm_step] at hs
    split at hs
    · split at hs
      · next hF =>
        cases hs
        exact zm_fr.new (zm_free_inv hF).1
      · cases hs
    · cases hs
  | newarray t =>
    simp only [zm_step] at hs
    split at hs
    · split at hs
      · next hF =>
        cases hs
        exact zm_fr.new (zm_free_inv hF.1).1
      · cases hs
    · cases hs
  | anewarray k =>
    simp only [zm_step] at hs
    split at hs
    · split at hs
      · split at hs
        · next hF =>
          cases hs
          exact zm_fr.new (zm_free_inv hF.1).1
        · cases hs
      · cases hs
    · cases hs
  | invokestatic k =>
    simp only [zm_step] at hs
    split at hs
    · split at hs
      · next hF =>
        cases hs
        exact zm_fr.rf
      · cases hs
    · cases hs
  | invokespecial k =>
    simp only [zm_step] at hs
    split at hs
    · split at hs
      · next hF =>
        cases hs
        exact zm_fr.rf
      · cases hs
    · cases hs
  | _ => cases hs
theorem zm_run_fr {C : Nat → List zmV → zmH → zmO → Prop} (hC : ∀ mi as h o, C mi as h o → zm_fr h o.2) {mi : Nat} : ∀ (n pc : Nat) (L : zmL) (st : List zmV) (h : zmH) (o : zmO), zm_Run C mi n pc L st h o → zm_fr h o.2 := by
  intro n
  induction n with
  | zero => intro pc L st h o hr; exact hr.elim
  | succ n ih =>
    intro pc L st h o hr
    unfold zm_Run at hr
    split at hr
    · exact hr.elim
    · split at hr
      · next q hq => exact (zm_step_fr hq).tr (ih _ _ _ _ _ hr)
      · split at hr
        · subst hr; exact zm_fr.rf
        · split at hr
          · obtain ⟨r, h1, h2⟩ := hr
            exact (hC _ _ _ _ h1).tr (ih _ _ _ _ _ h2)
          · exact hr.elim
theorem zm_calls_fr : ∀ (d mi : Nat) (as : List zmV) (h : zmH) (o : zmO), zm_Calls d mi as h o → zm_fr h o.2 := by
  intro d
  induction d with
  | zero => intro mi as h o hr; exact hr.elim
  | succ d ih =>
    intro mi as h o hr
    obtain ⟨-, n, hn⟩ := hr
    exact zm_run_fr ih n _ _ _ _ _ hn
def zt_ws (mi : Nat) : List Cond := .code (zt_name mi) (zt_bytes mi) (zt_maxL mi) (zt_ret mi) :: zt_T
def zm_rm (d nc ns : Nat) : Room := { frames := d, cells := nc, slots := ns, locals := 40 * d }
def zm_or (φ : zmK → Option Nat) (v : Option zmV) (w : Option Value) : Prop := match v with
  | none => w = none
  | some v => ∃ x, w = some x ∧ zm_vr φ v x
def zm_Pc (D : va_G) (φ : zmK → Option Nat) (ws : va_W) (tys : List (ClassId × FieldType)) (h : zmH) (sz : Nat) (av : List Value) : Array Value → State → Prop :=
  va_Pc av (fun U => U.heap.size = sz ∧ va_P D zt_cl ws U.heap ∧ va_K D zt_cl tys U ∧ va_D (fun _ => True) ws ∧ zm_hr φ tys h ws ∧ zm_ro φ (va_A ws sz) U h)
def zm_Qb (D : va_G) (φ : zmK → Option Nat) (B : Nat → Prop) (o : zmO) (oc : Outcome) (t : State) : Prop :=
  ∃ (φ2 : zmK → Option Nat) (ws2 : va_W) (tys2 : List (ClassId × FieldType)) (w : Option Value), zm_le φ φ2 ∧ oc = .returned w ∧ zm_or φ2 o.1 w ∧ va_P D zt_cl ws2 t.heap ∧ va_K D zt_cl tys2 t ∧ va_D B ws2 ∧ zm_hr φ2 tys2 o.2 ws2
def zm_Qc (D : va_G) (φ : zmK → Option Nat) (B : Nat → Prop) (o : zmO) : Array Value → State → Outcome → State → Prop := fun _ st oc t => zm_Qb D φ B o oc t ∧ va_F B st t
def zm_S (d mi : Nat) (as : List zmV) (h : zmH) (o : zmO) : Prop := ∀ (l : Launch) (D : va_G) (φ : zmK → Option Nat) (ws : va_W) (tys : List (ClassId × FieldType)) (av : List Value) (sz : Nat), zm_sr φ as av →
  Met l (zt_name mi) (zt_ws mi) (zm_rm d (o.2.1.1 - h.1.1) (o.2.1.2 - h.1.2)) (zm_Pc D φ ws tys h sz av) (zm_Qc D φ (va_A ws sz) o) (o.2.1.1 - h.1.1) (o.2.1.2 - h.1.2) (va_A ws sz)
theorem zm_tk_inv : ∀ {n : Nat} {st : List zmV} {q : List zmV × List zmV}, zm_tk n st = some q → st = q.1.reverse ++ q.2 ∧ q.1.length = n
  | 0, st, q, h => by
    unfold zm_tk at h
    cases h
    exact ⟨rfl, rfl⟩
  | n + 1, [], q, h => by
    unfold zm_tk at h
    cases h
  | n + 1, v :: st, q, h => by
    unfold zm_tk at h
    simp only [Option.map_eq_some_iff] at h
    obtain ⟨q2, h1, rfl⟩ := h
    obtain ⟨g1, g2⟩ := zm_tk_inv h1
    refine ⟨?_, ?_⟩
    · rw [g1]; simp
    · simp [g2]
section ZMF
variable {p : Program} {l : Launch} {e : Env} {R : Room} {s : State} {m : MethodId} {args : Array Value} {below : List Frame} {meth : Method} {c : Code} {H : Heap} {locs : List Loc} {cells slots : Nat} {Q : State → Prop}
variable {pc mi : Nat} {ls : Array Slot} {rs : List Value} {φ : zmK → Option Nat} {st : List zmV} {L : zmL} {h : zmH} {D : va_G} {A : Nat → Prop}
theorem zm_callG {rest st0 : List Value} {A0 A1 : Nat → Prop} {H0 : Heap} {mc ms : Nat} {free : Addr → Prop} {Qb : Outcome → State → Prop} (hr : va_Run p l e R s m args below meth c H locs cells slots mc ms (F0 m pc ls st0) rest (fun st oc t => Qb oc t ∧ va_F A1 st t) free) (hS : va_S A0 H0 H locs) (hA : ∀ q, q < H.size → A1 q → A0 q) (hf : ∀ q, free q → A0 q)
    (kk : ∀ (v : Option Value) (t : State) (H1 : Heap) (locs1 : List Loc), t.heap = H1 → s.vm.Alike t.vm → Qb (.returned v) t → va_S A0 H0 H1 locs1 → W p l e R s m args below meth c H1 locs1 (cells + mc) (slots + ms) Q (F0 m (pc + 3) ls (v.toList ++ rest))) : W p l e R s m args below meth c H locs cells slots Q (F0 m pc ls st0) := by
  intro T hT X
  obtain ⟨v, st₀, t, T', L, h0, X', hL, e1, e2, ⟨hb, hz, hk⟩, st⟩ := hr T hT X
  rw [h0] at hz hk
  obtain ⟨t2, a1, b1⟩ := kk v t T'.heap (locs ++ L) e1.symm (by rw [← e2]; exact X'.warmed.alike) hb
    ⟨Nat.le_trans hS.1 (by rw [e1]; exact hz), fun q h1 h2 => by rw [e1, hk q (Nat.lt_of_lt_of_le h1 hS.1) (fun z => h2 (hA q (Nat.lt_of_lt_of_le h1 hS.1) z))]; exact hS.2.1 q h1 h2, fun q hq => by
      rcases List.mem_append.mp hq with h | h
      · exact hS.2.2 q h
      · exact hf _ (hL q h)⟩ T' rfl X'
  exact ⟨t2, st t2 a1, b1⟩
theorem zm_goodIn {m2 : Nat} (h : Cond.code (zt_name m2) (zt_bytes m2) (zt_maxL m2) (zt_ret m2) ∈ zt_T) : GoodIn zt_T (zt_ws m2) := by
  intro w hw
  rcases List.mem_cons.mp hw with rfl | hw
  · exact ⟨h, zt_good _ h⟩
  · exact ⟨hw, zt_good _ hw⟩
theorem zm_blind {φ : zmK → Option Nat} {ws : va_W} {tys : List (ClassId × FieldType)} {sz : Nat} {av : List Value} : FrameBlind (zm_Pc D φ ws tys h sz av) := by
  intro a U g mk q
  obtain ⟨q0, q1, qP, qK, qD, qH, qR⟩ := q
  exact ⟨q0, q1, qP, va_K.moved (u := U) (U := U.calling g mk a) (Vm.Alike.refl U.vm) qK, qD, qH, qR.calling g mk a⟩
set_option maxHeartbeats 4000000 in
theorem zm_call_ok {d : Nat} {i : Instr} {q : Nat × List zmV × List zmV} {r : zmO} (X : zm_Cx p s m args meth c A mi) (hI : zm_I D A s mi φ L st h H locs ls rs) (hf : zt_fetch mi pc = some i) (hcall : zm_call mi i st h = some q) (hM : zm_S d q.1 q.2.1 h r) (hfr : zm_fr h r.2)
    (hc : cells + (r.2.1.1 - h.1.1) ≤ R.cells) (hsl : slots + (r.2.1.2 - h.1.2) ≤ R.slots) (hR : d + 1 ≤ R.frames ∧ 40 * (d + 1) ≤ R.locals)
    (kk : ∀ φ2 H2 locs2 rs2, zm_le φ φ2 → zm_I D A s mi φ2 L (r.1.toList ++ q.2.2) r.2 H2 locs2 ls rs2 → W p l e R s m args below meth c H2 locs2 (cells + (r.2.1.1 - h.1.1)) (slots + (r.2.1.2 - h.1.2)) Q (F0 m (pc + 3) ls rs2)) : W p l e R s m args below meth c H locs cells slots Q (F0 m pc ls rs) := by
  obtain ⟨hx, hb, hr, hml, hown, hts, hlocks, hin, hA⟩ := X
  obtain ⟨ws, tys, lv, hK, hP, hD, hS, hH, hro, hl, hL, hlr, hst⟩ := hI
  obtain ⟨len, hdg, hlk⟩ := zt_fetch_ok hf
  obtain ⟨m2, as, rest⟩ := q
  have hB : ∀ q, va_A ws H.size q → A q := fun q hq => by
    rcases hq with ⟨k, e2, hk⟩ | hk
    · exact hD.2 k _ hk
    · exact hA q (Nat.le_trans hS.1 hk)
  have pre : ∀ (av : List Value) (U : State), U.heap = H → s.WarmedH U.vm → zm_Pc D φ ws tys h H.size av av.toArray U := fun av U hU hW => ⟨rfl, by rw [hU], by rw [hU]; exact hP, va_K.moved hW.alike hK, hD.weaken (fun _ _ _ _ => trivial), hH, hro.call hS hB hU hW⟩
  have fin : ∀ (rr : List Value), zm_sr φ rest rr → va_Run p l e R s m args below meth c H locs cells slots (r.2.1.1 - h.1.1) (r.2.1.2 - h.1.2) (F0 m pc ls rs) rr (fun st oc t => zm_Qb D φ (va_A ws H.size) r oc t ∧ va_F (va_A ws H.size) st t) (va_A ws H.size) → W p l e R s m args below meth c H locs cells slots Q (F0 m pc ls rs) := by
    intro rr hrr run
    refine zm_callG run hS (fun q _ hq => hB q hq) hB (fun v t H1 locs1 ht hvm hQ hS1 => ?_)
    obtain ⟨φ2, ws2, tys2, w, hle, hv, hor, hP2, hK2, hD2, hH2⟩ := hQ
    cases hv
    have hP2 : va_P D zt_cl ws2 H1 := by rw [← ht]; exact hP2
    refine kk φ2 H1 locs1 (v.toList ++ rr) hle ⟨ws2, tys2, lv, va_K.moved hvm.symm hK2, hP2, hD2.weaken (fun k q _ hq => hB _ hq), hS1, hH2, hro.keep hle hfr.2.2, hl, hL, hlr.le hle, ?_⟩
    obtain ⟨rv, rh⟩ := r
    cases rv with
    | none =>
      cases (show v = none from hor)
      exact hrr.le hle
    | some rv =>
      obtain ⟨x, rfl, hxv⟩ := hor
      exact ⟨x, rr, rfl, hxv, hrr.le hle⟩
  have cut : ∀ n, zm_tk n st = some (as, rest) → ∃ av rr, rs = av.reverse ++ rr ∧ zm_sr φ as av ∧ zm_sr φ rest rr ∧ av.length = n := by
    intro n hn
    obtain ⟨g1, g2⟩ := zm_tk_inv hn
    rw [g1] at hst
    obtain ⟨r1, r2, e1, h1, h2⟩ := zm_sr.split hst
    refine ⟨r1.reverse, r2, by rw [List.reverse_reverse]; exact e1, ?_, h2, ?_⟩
    · have := h1.rev
      rwa [List.reverse_reverse] at this
    · have := h1.len
      simp at this
      rw [List.length_reverse, ← this]; exact g2
  cases i with
  | invokevirtual k =>
    cases zm_len_of hlk (k := 3) rfl
    simp only [zm_call] at hcall
    split at hcall
    · next m3 n ci hz =>
      split at hcall
      · next q3 hq3 =>
        split at hcall
        · next hF =>
          cases hcall
          obtain ⟨av, rr, rfl, hav, hrr, hlen⟩ := cut n hq3
          obtain ⟨f1, f2, f3, f4, f5, f6, f7, f8, f9, f10⟩ := zt_call_ok0 hz
          have hF1 := hF.1
          unfold zm_recv at hF1
          split at hF1
          · next as0 r0 as1 heq =>
            obtain ⟨wb, av1, rfl, hvb, hav1⟩ := (heq ▸ hav : zm_sr φ (.inr (.inr (some r0)) :: as1) av)
            obtain ⟨b, hb1, rfl⟩ : ∃ a, φ r0 = some a ∧ wb = .ref a := by
              have hF2 := hF1
              unfold zm_isO at hF2
              split at hF2
              · next hg => exact hro.key hg hvb
              · cases hF2
            have hrecv : ∃ cellB : Cell, H[b]? = some cellB ∧ cellB.vm.isStatics = false ∧ s.vm.findClass (zt_name m2).cls = some cellB.cls := by
              unfold zm_isO at hF1
              split at hF1
              · next c0 fs hg =>
                have hc0 : c0 = ci := by simpa using hF1
                subst hc0
                by_cases h8 : 8 ≤ r0.1
                · obtain ⟨j, a, e2, q1, q2, gs, q4, rfl⟩ := hH.1 r0 _ hg h8
                  have hab : b = a := Option.some.inj (hb1.symm.trans q1)
                  subst hab
                  obtain ⟨rc, hrc, -⟩ := hP j _ q2
                  have := va_recv hK hP hrc q2
                  rw [f10 rc hrc]
                  exact this
                · obtain ⟨h99, a, q1, q2, -⟩ := hro.2.2.1 r0 _ _ (by omega) hg
                  have hab : b = a := Option.some.inj (hb1.symm.trans q1)
                  subst hab
                  obtain ⟨cell, k1, k2, k3, -⟩ := q2.kept hS.2.1
                  exact ⟨cell, k1, k2, by rw [f9 h99]; exact k3⟩
              · cases hF1
            have hn1 : av1.length + 1 = n := hlen
            have hwd := zm_words hrr hF.2
            refine fin rr hrr (va_runV (As := av1) (rest := rr) (b := b) (C := (zt_name m2).cls) (n := n - 1) (Ts := zt_T) (own := zt_cls (zt_own mi)) (nL := zt_maxL mi) ⟨hx, hb, hml, hown, hts⟩ (hM l D φ ws tys (.ref b :: av1) H.size (heq ▸ hav)) ⟨callB_of (n - 1) hts (zm_goodIn f2) rfl rfl rfl (hts _ f3) (hts _ f1) ⟨f4.1, f4.2, f5⟩ ⟨hR.1, by show 8 + (zt_maxL m2 + 11) + 40 * d ≤ R.locals; omega⟩, hts _ f7, hts _ f8⟩ ⟨zm_blind, hrecv, fun U hU hW => pre _ U hU hW⟩ rfl (by omega) hl.1 (by simp) (lv_room hwd) hdg ⟨hc, hsl⟩)
          · cases hF1
        · cases hcall
      · cases hcall
    · cases hcall
  | invokespecial k =>
    cases zm_len_of hlk (k := 3) rfl
    simp only [zm_call] at hcall
    split at hcall
    · next m3 n ci hz =>
      split at hcall
      · next q3 hq3 =>
        split at hcall
        · next hF =>
          cases hcall
          obtain ⟨av, rr, rfl, hav, hrr, hlen⟩ := cut n hq3
          obtain ⟨f1, f2, f3, f4, f5, f6, f7, f8, f9⟩ := zt_call_ok1 hz
          have hF1 := hF.1
          unfold zm_nn at hF1
          split at hF1
          · next as0 r0 as1 heq =>
            obtain ⟨wb, av1, rfl, hvb, hav1⟩ := (heq ▸ hav : zm_sr φ (.inr (.inr (some r0)) :: as1) av)
            obtain ⟨b, hb1, rfl⟩ := zm_vr_n7 hvb (by have : 8 ≤ r0.1 := by simpa using hF1
                                                     omega)
            have hn1 : av1.length + 1 = n := hlen
            have hwd := zm_words hrr hF.2
            have hfin : 8 + (zt_maxL m2 + 11) + 40 * d ≤ R.locals := by omega
            rcases f1 with f1 | ⟨host, f1⟩
            rotate_left
            · exact fin rr hrr (va_runIN (As := av1) (rest := rr) (b := b) (n := n - 1) (Ts := zt_T) (own := zt_cls (zt_own mi)) (nL := zt_maxL mi) (bytes := zt_bytes m2) (maxL := zt_maxL m2) (host := host) ⟨hx, hb, hml, hown, hts⟩ (hM l D φ ws tys (.ref b :: av1) H.size (heq ▸ hav)) ⟨va_cnB (n - 1) hts (zm_goodIn f2) (show zt_ws m2 = Cond.code (zt_name m2) (zt_bytes m2) (zt_maxL m2) none :: zt_T from by unfold zt_ws; rw [f9]) rfl rfl (hro.2.2.2.2.2.2.1 _ f1) (hts _ f3) ⟨f4.1, f4.2, f5⟩ ⟨hR.1, hfin⟩, f8, hts _ f7⟩ ⟨zm_blind, fun U hU hW => pre _ U hU hW⟩ rfl (by omega) hl.1 (by simp) (lv_room hwd) hdg ⟨hc, hsl⟩)
            refine fin rr hrr (va_runI (As := av1) (rest := rr) (b := b) (n := n - 1) (Ts := zt_T) (own := zt_cls (zt_own mi)) (nL := zt_maxL mi) (bytes := zt_bytes m2) (maxL := zt_maxL m2) ⟨hx, hb, hml, hown, hts⟩ (hM l D φ ws tys (.ref b :: av1) H.size (heq ▸ hav)) ⟨callB_of (n - 1) hts (zm_goodIn f2) (show zt_ws m2 = Cond.code (zt_name m2) (zt_bytes m2) (zt_maxL m2) none :: zt_T from by unfold zt_ws; rw [f9]) rfl rfl (hts _ f3) (hts _ f1) ⟨f4.1, f4.2, f5⟩ ⟨hR.1, by show 8 + (zt_maxL m2 + 11) + 40 * d ≤ R.locals; omega⟩, f8, hts _ f7⟩ ⟨zm_blind, fun U hU hW => pre _ U hU hW⟩ rfl (by omega) hl.1 (by simp) (lv_room hwd) hdg ⟨hc, hsl⟩)
          · cases hF1
        · cases hcall
      · cases hcall
    · cases hcall
  | invokestatic k =>
    cases zm_len_of hlk (k := 3) rfl
    simp only [zm_call] at hcall
    split at hcall
    · next m3 n ci hz =>
      split at hcall
      · next q3 hq3 =>
        split at hcall
        · next hF =>
          cases hcall
          obtain ⟨av, rr, rfl, hav, hrr, hlen⟩ := cut n hq3
          obtain ⟨f1, f2, f3, f4, f5, f6, f7⟩ := zt_call_ok2 hz
          have hwd := zm_words hrr hF
          refine fin rr hrr (va_runS (As := av) (rest := rr) (n := n) (Ts := zt_T) (own := zt_cls (zt_own mi)) (nL := zt_maxL mi) ⟨hx, hb, hml, hown, hts⟩ (hM l D φ ws tys av H.size hav) ⟨callB_of n hts (zm_goodIn f2) rfl rfl rfl (hts _ f3) (hts _ f1) ⟨f4.1, f4.2, f5⟩ ⟨hR.1, by show 8 + (zt_maxL m2 + 11) + 40 * d ≤ R.locals; omega⟩, hts _ f7⟩ ⟨zm_blind, fun U hU hW => pre _ U hU hW⟩ rfl hlen hl.1 rfl (lv_room hwd) hdg ⟨hc, hsl⟩)
        · cases hcall
      · cases hcall
    · cases hcall
  | _ => cases hcall
end ZMF
end
section
section ZMG
variable {p : Program} {l : Launch} {e : Env} {R : Room} {s : State} {m : MethodId} {args : Array Value} {below : List Frame} {meth : Method} {c : Code} {Q : State → Prop} {mi : Nat} {D : va_G} {A : Nat → Prop}
set_option maxHeartbeats 4000000 in
theorem zm_body {d : Nat} (hC : ∀ mi as h o, zm_Calls d mi as h o → zm_S d mi as h o) (X : zm_Cx p s m args meth c A mi) (hR : d + 1 ≤ R.frames ∧ 40 * (d + 1) ≤ R.locals) : ∀ (n pc : Nat) (L : zmL) (st : List zmV) (h : zmH) (o : zmO), zm_Run (zm_Calls d) mi n pc L st h o → ∀ (φ : zmK → Option Nat) (H : Heap) (locs : List Loc) (ls : Array Slot) (rs : List Value) (cells slots : Nat),
    zm_I D A s mi φ L st h H locs ls rs → cells + (o.2.1.1 - h.1.1) ≤ R.cells → slots + (o.2.1.2 - h.1.2) ≤ R.slots →
    (∀ φ2 H2 locs2 ls2 rs2 pc2 i2 L2 st2, zm_le φ φ2 → zt_fetch mi pc2 = some i2 → zm_ret mi i2 st2 = some o.1 → zm_I D A s mi φ2 L2 st2 o.2 H2 locs2 ls2 rs2 → W p l e R s m args below meth c H2 locs2 (cells + (o.2.1.1 - h.1.1)) (slots + (o.2.1.2 - h.1.2)) Q (F0 m pc2 ls2 rs2)) →
    W p l e R s m args below meth c H locs cells slots Q (F0 m pc ls rs) := by
  intro n
  induction n with
  | zero => intro pc L st h o hr; exact hr.elim
  | succ n ih =>
    intro pc L st h o hr φ H locs ls rs cells slots hI hc hsl kk
    unfold zm_Run at hr
    split at hr
    · exact hr.elim
    · next i hf =>
      split at hr
      · next q hq =>
        have f1 := zm_step_fr hq
        have f2 := zm_run_fr (zm_calls_fr d) n _ _ _ _ _ hr
        obtain ⟨pc2, L2, st2, h2⟩ := q
        refine zm_step_ok X hI hf hq (Nat.le_trans (Nat.add_le_add_left (Nat.sub_le_sub_right f2.1 _) _) hc) (Nat.le_trans (Nat.add_le_add_left (Nat.sub_le_sub_right f2.2.1 _) _) hsl) ⟨by omega, by omega⟩ (fun φ2 H2 locs2 ls2 rs2 hle hI2 => ?_)
        have e1 : cells + (h2.1.1 - h.1.1) + (o.2.1.1 - h2.1.1) = cells + (o.2.1.1 - h.1.1) := by
          have := f1.1; have := f2.1; dsimp only at *; omega
        have e2 : slots + (h2.1.2 - h.1.2) + (o.2.1.2 - h2.1.2) = slots + (o.2.1.2 - h.1.2) := by
          have := f1.2.1; have := f2.2.1; dsimp only at *; omega
        refine ih pc2 L2 st2 h2 o hr φ2 H2 locs2 ls2 rs2 _ _ hI2 (by rw [e1]; exact hc) (by rw [e2]; exact hsl) (fun φ3 H3 locs3 ls3 rs3 pc3 i3 L3 st3 hle3 hf3 hr3 hI3 => ?_)
        rw [e1, e2]
        exact kk φ3 H3 locs3 ls3 rs3 pc3 i3 L3 st3 (hle.tr hle3) hf3 hr3 hI3
      · split at hr
        · next v hv =>
          subst hr
          have := kk φ H locs ls rs pc i L st zm_le.rf hf hv hI
          simp only [Nat.sub_self, Nat.add_zero] at this
          exact this
        · split at hr
          · next q hq =>
            obtain ⟨r, h1, h2⟩ := hr
            have f1 := zm_calls_fr d _ _ _ _ h1
            have f2 := zm_run_fr (zm_calls_fr d) n _ _ _ _ _ h2
            refine zm_call_ok X hI hf hq (hC _ _ _ _ h1) f1 (Nat.le_trans (Nat.add_le_add_left (Nat.sub_le_sub_right f2.1 _) _) hc) (Nat.le_trans (Nat.add_le_add_left (Nat.sub_le_sub_right f2.2.1 _) _) hsl) hR (fun φ2 H2 locs2 rs2 hle hI2 => ?_)
            have e1 : cells + (r.2.1.1 - h.1.1) + (o.2.1.1 - r.2.1.1) = cells + (o.2.1.1 - h.1.1) := by
              have := f1.1; have := f2.1; omega
            have e2 : slots + (r.2.1.2 - h.1.2) + (o.2.1.2 - r.2.1.2) = slots + (o.2.1.2 - h.1.2) := by
              have := f1.2.1; have := f2.2.1; omega
            refine ih _ _ _ _ o h2 φ2 H2 locs2 ls rs2 _ _ hI2 (by rw [e1]; exact hc) (by rw [e2]; exact hsl) (fun φ3 H3 locs3 ls3 rs3 pc3 i3 L3 st3 hle3 hf3 hr3 hI3 => ?_)
            rw [e1, e2]
            exact kk φ3 H3 locs3 ls3 rs3 pc3 i3 L3 st3 (hle.tr hle3) hf3 hr3 hI3
          · exact hr.elim
end ZMG
theorem zm_lay_lr {φ : zmK → Option Nat} : ∀ {as : List zmV} {av : List Value}, zm_sr φ as av → ∀ (k : Nat), (lg_sl av).length = (zm_lay as).length ∧ (∀ i v, (zm_lay as)[i]? = some (some v) → ∃ w, (k + i, w) ∈ lv_args k av ∧ zm_vr φ v w) ∧ ∀ q ∈ lv_args k av, q.2.category = 2 → q.1 ∈ zm_lng k as
  | [], _, h, k => by
    rw [show _ = [] from h]
    refine ⟨rfl, fun i v hv => by simp [zm_lay] at hv, fun q hq => by simp [lv_args] at hq⟩
  | .inl x :: as, _, ⟨w, r, e, hv, hr⟩, k => by
    subst e
    cases (show w = .int x from hv)
    obtain ⟨h1, h2, h3⟩ := zm_lay_lr hr (k + 1)
    refine ⟨?_, fun i v hi => ?_, fun q hq hc => ?_⟩
    · simp [lg_sl, zm_lay, Value.category] at h1 ⊢; exact h1
    · cases i with
      | zero =>
        simp [zm_lay] at hi
        subst hi
        exact ⟨_, by simp [lv_args, Value.category], rfl⟩
      | succ i =>
        simp [zm_lay] at hi
        obtain ⟨w2, g1, g2⟩ := h2 i v hi
        exact ⟨w2, by simp [lv_args, Value.category]; rw [show k + (i + 1) = k + 1 + i by omega]; exact g1, g2⟩
    · simp [lv_args, Value.category] at hq
      rcases hq with rfl | hq
      · simp [Value.category] at hc
      · simp [zm_lng]; exact h3 q hq hc
  | .inr (.inl x) :: as, _, ⟨w, r, e, hv, hr⟩, k => by
    subst e
    cases (show w = .long x from hv)
    obtain ⟨h1, h2, h3⟩ := zm_lay_lr hr (k + 2)
    refine ⟨?_, fun i v hi => ?_, fun q hq hc => ?_⟩
    · simp [lg_sl, zm_lay, Value.category] at h1 ⊢; exact h1
    · match i with
      | 0 =>
        simp [zm_lay] at hi
        subst hi
        exact ⟨_, by simp [lv_args, Value.category], rfl⟩
      | 1 => simp [zm_lay] at hi
      | i + 2 =>
        simp [zm_lay] at hi
        obtain ⟨w2, g1, g2⟩ := h2 i v hi
        exact ⟨w2, by simp [lv_args, Value.category]; rw [show k + (i + 2) = k + 2 + i by omega]; exact g1, g2⟩
    · simp [lv_args, Value.category] at hq
      rcases hq with rfl | hq
      · simp [zm_lng]
      · simp [zm_lng]; exact Or.inr (h3 q hq hc)
  | .inr (.inr x) :: as, _, ⟨w, r, e, hv, hr⟩, k => by
    subst e
    have hcat : w.category = 1 := zm_vr_cat hv
    obtain ⟨h1, h2, h3⟩ := zm_lay_lr hr (k + 1)
    refine ⟨?_, fun i v hi => ?_, fun q hq hc => ?_⟩
    · simp [lg_sl, zm_lay, hcat] at h1 ⊢; exact h1
    · cases i with
      | zero =>
        simp [zm_lay] at hi
        subst hi
        exact ⟨w, by simp [lv_args], hv⟩
      | succ i =>
        simp [zm_lay] at hi
        obtain ⟨w2, g1, g2⟩ := h2 i v hi
        exact ⟨w2, by simp [lv_args, hcat]; rw [show k + (i + 1) = k + 1 + i by omega]; exact g1, g2⟩
    · simp [lv_args, hcat] at hq
      rcases hq with rfl | hq
      · simp [hcat] at hc
      · simp [zm_lng]; exact h3 q hq hc
theorem zm_ini_len {mi : Nat} {as : List zmV} (h : zm_layOk mi as = true) : (zm_ini mi as).length = zt_maxL mi := by
  unfold zm_layOk at h
  rw [Bool.and_eq_true] at h
  have h1 : (zm_lay as).length ≤ zt_maxL mi := by simpa using h.1
  unfold zm_ini
  simp
  omega
theorem zm_ini_lr {mi : Nat} {φ : zmK → Option Nat} {as : List zmV} {av : List Value} (h : zm_layOk mi as = true) (hr : zm_sr φ as av) : (lg_sl av).length ≤ zt_maxL mi ∧ zm_lr φ (zt_lslot mi) (zm_ini mi as) (lv_args 0 av) := by
  unfold zm_layOk at h
  rw [Bool.and_eq_true] at h
  have h1 : (zm_lay as).length ≤ zt_maxL mi := by simpa using h.1
  have h2 : ∀ k ∈ zm_lng 0 as, k ∈ zt_lslot mi := by simpa using h.2
  obtain ⟨g1, g2, g3⟩ := zm_lay_lr hr 0
  refine ⟨by rw [g1]; exact h1, fun i v hi => ?_, fun q hq hc => h2 _ (g3 q hq hc)⟩
  have : (zm_lay as)[i]? = some (some v) := by
    unfold zm_ini at hi
    by_cases hl : i < (zm_lay as).length
    · rwa [List.getElem?_append_left hl] at hi
    · rw [List.getElem?_append_right (by omega), List.getElem?_replicate] at hi
      split at hi <;> simp at hi
  obtain ⟨w, k1, k2⟩ := g2 i v this
  exact ⟨w, by simpa using k1, k2⟩
set_option maxHeartbeats 4000000 in
theorem zm_sound : ∀ (d mi : Nat) (as : List zmV) (h : zmH) (o : zmO), zm_Calls d mi as h o → zm_S d mi as h o := by
  intro d
  induction d with
  | zero => intro mi as h o hr; exact hr.elim
  | succ d ih =>
    intro mi as h o hr l D φ ws tys av sz hav
    have hfr := zm_calls_fr (d + 1) mi as h o hr
    obtain ⟨hlay, n, hn⟩ := hr
    obtain ⟨hsl, hlr⟩ := zm_ini_lr hlay hav
    refine Met.ofW (cc := zt_bytes mi) (maxL := zt_maxL mi) (ret := zt_ret mi) (zt_plain mi) rfl ?_
    intro p e s m args below meth c s₁ B hml hv
    obtain ⟨rfl, hsz, hP, hK, hD0, hH, hro⟩ := hv
    have hts0 := atoms_spec (ws := zt_ws mi) B.pre
    have hts : ∀ w ∈ zt_T, w.before av.toArray s = true := fun w hw => hts0 w (List.mem_cons_of_mem _ hw)
    have hown : s.vm.findClass (zt_name mi).cls = some m.cls := findClass_of_methodNamed B.named
    rw [zt_owner mi] at hown
    subst hsz
    have hD := hD0.self (sz := s.heap.size)
    have hA : ∀ q : Nat, s.heap.size ≤ q → va_A ws s.heap.size q := fun q hq => Or.inr hq
    have X : zm_Cx p s m av.toArray meth c (va_A ws s.heap.size) mi := ⟨B.exec, B.bytes, B.returns, hml, hown, hts, B.notSynchronized, fun hi => by
      rw [(name_of_methodNamed B.named B.method).1]; exact zt_init_ok mi hi, hA⟩
    have hl := lv_entry av (n := zt_maxL mi) hsl
    rw [lg_entry_eq]
    generalize (lg_sl av ++ List.replicate (zt_maxL mi - (lg_sl av).length) Slot.unset).toArray = ls at hl ⊢
    have hI : zm_I D (va_A ws s.heap.size) s mi φ (zm_ini mi as) [] h s.heap [] ls [] := ⟨ws, tys, _, hK, hP, hD, va_S.rf, hH, hro, hl, zm_ini_len hlay, hlr, rfl⟩
    refine zm_body (R := (headSpec (zt_ws mi) (zm_rm (d + 1) (o.2.1.1 - h.1.1) (o.2.1.2 - h.1.2))).room) ih X ⟨Nat.le_refl _, Nat.le_refl _⟩ n 0 _ _ _ _ hn φ s.heap [] ls [] 0 0 hI (by rw [Nat.zero_add]; exact Nat.le_refl _) (by rw [Nat.zero_add]; exact Nat.le_refl _) (fun φ2 H2 locs2 ls2 rs2 pc2 i2 L2 st2 hle hf2 hret hI2 => ?_)
    rw [Nat.zero_add, Nat.zero_add]
    obtain ⟨hx, hb, hr, hml, hown, hts, hlocks, hin, hA⟩ := X
    obtain ⟨len, hdg, hlk⟩ := zt_fetch_ok hf2
    obtain ⟨ws2, tys2, lv2, hK2, hP2, hD2, hS2, hH2, hro2, hl2, hL2, hlr2, hst2⟩ := hI2
    have post : ∀ (w : Option Value) (t : State), zm_or φ2 o.1 w → t.heap = H2 → s.WarmedH t.vm → zm_Qc D φ (va_A ws s.heap.size) o av.toArray s (.returned w) t := fun w t hw ht hW =>
      ⟨⟨φ2, ws2, tys2, w, hle, rfl, hw, by rw [ht]; exact hP2, va_K.moved hW.alike hK2, hD2, hH2⟩, hS2.F ht⟩
    cases i2 with
    | ireturn =>
      cases zm_len_of hlk (k := 1) rfl
      simp only [zm_ret] at hret
      split at hret
      · next x ty hty =>
        split at hret
        · next hfit =>
          have ho : o.1 = some (.inl x) := (Option.some.inj hret).symm
          obtain ⟨w, r, rfl, hw, hr0⟩ := hst2
          cases (show r = [] from hr0)
          cases (show w = .int x from hw)
          exact W.zret (ty := ty) hx hb (hr.trans hty) (zm_fit_ok (φ := φ2) hfit (show zm_vr φ2 (.inl x) (.int x) from rfl)).1 (fun t ht hW => post _ t (by rw [ho]; exact ⟨_, rfl, rfl⟩) ht hW) hS2.2.2 hdg
        · cases hret
      · cases hret
    | areturn =>
      cases zm_len_of hlk (k := 1) rfl
      simp only [zm_ret] at hret
      split at hret
      · next q cn hty =>
        have ho : o.1 = some (.inr (.inr q)) := (Option.some.inj hret).symm
        obtain ⟨w, r, rfl, hw, hr0⟩ := hst2
        cases (show r = [] from hr0)
        refine W.aret hx hb (hr.trans hty) (Or.inl ⟨_, rfl⟩) ?_ (fun t ht hW => post _ t (by rw [ho]; exact ⟨_, rfl, hw⟩) ht hW) hS2.2.2 hdg
        exact zm_vr_ref hw
      · cases hret
    | return_ =>
      cases zm_len_of hlk (k := 1) rfl
      simp only [zm_ret] at hret
      split at hret
      · next hty =>
        have ho : o.1 = none := (Option.some.inj hret).symm
        cases (show rs2 = [] from hst2)
        exact W.vret hx hb (hr.trans hty) (fun t ht hW => post _ t (by rw [ho]; exact rfl) ht hW) hS2.2.2 hdg
      · cases hret
    | _ => cases hret
end
section
def zm_E (C : Nat → List zmV → zmH → zmO → Prop) (mi pc : Nat) (L : zmL) (st : List zmV) (h : zmH) (o : zmO) : Prop := ∃ n, zm_Run C mi n pc L st h o
section ZMX
variable {C : Nat → List zmV → zmH → zmO → Prop} {mi pc pc2 : Nat} {i : Instr} {L L2 : zmL} {st st2 : List zmV} {h h2 : zmH} {o : zmO}
theorem zm_go (hf : zt_fetch mi pc = some i) (hs : zm_step mi pc i L st h = some (pc2, L2, st2, h2)) : zm_E C mi pc L st h o ↔ zm_E C mi pc2 L2 st2 h2 o := by
  constructor
  · rintro ⟨n, hn⟩
    cases n with
    | zero => exact hn.elim
    | succ n =>
      simp only [zm_Run, hf, hs] at hn
      exact ⟨n, hn⟩
  · rintro ⟨n, hn⟩
    refine ⟨n + 1, ?_⟩
    simp only [zm_Run, hf, hs]
    exact hn
theorem zm_brn {c : Prop} [Decidable c] {x y : Nat} (hf : zt_fetch mi pc = some i) (hs : zm_step mi pc i L st h = some (if c then x else y, L2, st2, h2)) : zm_E C mi pc L st h o ↔ if c then zm_E C mi x L2 st2 h2 o else zm_E C mi y L2 st2 h2 o := by
  rw [zm_go hf hs]
  by_cases hc : c
  · rw [if_pos hc, if_pos hc]
  · rw [if_neg hc, if_neg hc]
theorem zm_rt {v : Option zmV} (hf : zt_fetch mi pc = some i) (hs : zm_step mi pc i L st h = none) (hr : zm_ret mi i st = some v) : zm_E C mi pc L st h o ↔ o = (v, h) := by
  constructor
  · rintro ⟨n, hn⟩
    cases n with
    | zero => exact hn.elim
    | succ n =>
      simp only [zm_Run, hf, hs, hr] at hn
      exact hn
  · intro ho
    refine ⟨1, ?_⟩
    simp only [zm_Run, hf, hs, hr]
    exact ho
theorem zm_no (hf : zt_fetch mi pc = some i) (hs : zm_step mi pc i L st h = none) (hr : zm_ret mi i st = none) (hc : zm_call mi i st h = none) : zm_E C mi pc L st h o ↔ False := by
  refine ⟨?_, fun q => q.elim⟩
  rintro ⟨n, hn⟩
  cases n with
  | zero => exact hn.elim
  | succ n =>
    simp only [zm_Run, hf, hs, hr, hc] at hn
theorem zm_co {c : Prop} [Decidable c] (hf : zt_fetch mi pc = some i) (hs : zm_step mi pc i L st h = if c then some (pc2, L2, st2, h2) else none) (hr : zm_ret mi i st = none) (hc : zm_call mi i st h = none) : zm_E C mi pc L st h o ↔ c ∧ zm_E C mi pc2 L2 st2 h2 o := by
  by_cases q : c
  · rw [if_pos q] at hs
    rw [zm_go hf hs]
    exact ⟨fun z => ⟨q, z⟩, fun z => z.2⟩
  · rw [if_neg q] at hs
    rw [zm_no hf hs hr hc]
    exact ⟨fun z => z.elim, fun z => q z.1⟩
theorem zm_cx {m2 : Nat} {as rest : List zmV} (hf : zt_fetch mi pc = some i) (hs : zm_step mi pc i L st h = none) (hr : zm_ret mi i st = none) (hc : zm_call mi i st h = some (m2, as, rest)) : zm_E C mi pc L st h o ↔ ∃ r : zmO, C m2 as h r ∧ zm_E C mi (pc + 3) L (r.1.toList ++ rest) r.2 o := by
  constructor
  · rintro ⟨n, hn⟩
    cases n with
    | zero => exact hn.elim
    | succ n =>
      simp only [zm_Run, hf, hs, hr, hc] at hn
      obtain ⟨r, h1, h2⟩ := hn
      exact ⟨r, h1, n, h2⟩
  · rintro ⟨r, h1, n, h2⟩
    refine ⟨n + 1, ?_⟩
    simp only [zm_Run, hf, hs, hr, hc]
    exact ⟨r, h1, h2⟩
theorem zm_cv {k m2 n ci : Nat} {r : zmK} {as rest : List zmV} (hf : zt_fetch mi pc = some (.invokevirtual k)) (hq : zt_call (zt_own mi) k = some (0, m2, n, ci)) (ht : zm_tk n st = some (.inr (.inr (some r)) :: as, rest)) (hl : rest.length ≤ 4) : zm_E C mi pc L st h o ↔ zm_isO h r ci = true ∧ ∃ q : zmO, C m2 (.inr (.inr (some r)) :: as) h q ∧ zm_E C mi (pc + 3) L (q.1.toList ++ rest) q.2 o := by
  by_cases hO : zm_isO h r ci = true
  · rw [zm_cx (m2 := m2) (as := .inr (.inr (some r)) :: as) (rest := rest) hf rfl rfl (by simp only [zm_call, hq, ht]; exact if_pos ⟨hO, hl⟩)]
    exact ⟨fun q => ⟨hO, q⟩, fun q => q.2⟩
  · rw [zm_no hf rfl rfl (by simp only [zm_call, hq, ht]; exact if_neg (fun q => hO q.1))]
    exact ⟨fun q => q.elim, fun q => hO q.1⟩
theorem zm_csp {k m2 n ci : Nat} {r : zmK} {as rest : List zmV} (hf : zt_fetch mi pc = some (.invokespecial k)) (ho : zt_oinit (zt_own mi) k = false) (hq : zt_call (zt_own mi) k = some (1, m2, n, ci)) (ht : zm_tk n st = some (.inr (.inr (some r)) :: as, rest)) (hl : rest.length ≤ 4) : zm_E C mi pc L st h o ↔ 8 ≤ r.1 ∧ ∃ q : zmO, C m2 (.inr (.inr (some r)) :: as) h q ∧ zm_E C mi (pc + 3) L (q.1.toList ++ rest) q.2 o := by
  have hs : zm_step mi pc (.invokespecial k) L st h = none := by
    simp only [zm_step, ho]
    split
    · rw [if_neg (fun q => by cases q.1)]
    · rfl
  by_cases hO : 8 ≤ r.1
  · rw [zm_cx (m2 := m2) (as := .inr (.inr (some r)) :: as) (rest := rest) hf hs rfl (by simp only [zm_call, hq, ht]; exact if_pos ⟨decide_eq_true hO, hl⟩)]
    exact ⟨fun q => ⟨hO, q⟩, fun q => q.2⟩
  · rw [zm_no hf hs rfl (by simp only [zm_call, hq, ht]; exact if_neg (fun q => hO (of_decide_eq_true q.1)))]
    exact ⟨fun q => q.elim, fun q => hO q.1⟩
theorem zm_cst {k m2 n ci : Nat} {as rest : List zmV} (hf : zt_fetch mi pc = some (.invokestatic k)) (hm : zt_max (zt_own mi) k = false) (hq : zt_call (zt_own mi) k = some (2, m2, n, ci)) (ht : zm_tk n st = some (as, rest)) (hl : rest.length ≤ 4) : zm_E C mi pc L st h o ↔ ∃ q : zmO, C m2 as h q ∧ zm_E C mi (pc + 3) L (q.1.toList ++ rest) q.2 o :=
  zm_cx hf (by
    simp only [zm_step, hm]
    split
    · rw [if_neg (fun q => by cases q.1)]
    · rfl) rfl (by simp only [zm_call, hq, ht]; rw [if_pos hl])
theorem zm_mx {k : Nat} {x y : Int32} (hf : zt_fetch mi pc = some (.invokestatic k)) (hm : zt_max (zt_own mi) k = true) (hl : st.length ≤ 4) : zm_E C mi pc L (.inl y :: .inl x :: st) h o ↔ zm_E C mi (pc + 3) L (.inl (if x < y then y else x) :: st) h o :=
  zm_go hf (by simp only [zm_step]; rw [if_pos ⟨hm, hl⟩])
theorem zm_oi {k : Nat} {r : zmK} (hf : zt_fetch mi pc = some (.invokespecial k)) (ho : zt_oinit (zt_own mi) k = true) (hq : zt_call (zt_own mi) k = none) (hl : st.length ≤ 4) : zm_E C mi pc L (.inr (.inr (some r)) :: st) h o ↔ 8 ≤ r.1 ∧ zm_E C mi (pc + 3) L st h o := by
  have h1 : (zt_oinit (zt_own mi) k = true ∧ st.length ≤ 4 ∧ 8 ≤ r.1) ↔ 8 ≤ r.1 := ⟨fun q => q.2.2, fun q => ⟨ho, hl, q⟩⟩
  rw [← h1]
  exact zm_co hf rfl rfl (by simp only [zm_call, hq])
theorem zm_ci {d : Nat} {as : List zmV} (hl : zm_layOk mi as = true) (hi : zm_ini mi as = L) : zm_Calls (d + 1) mi as h o ↔ zm_E (zm_Calls d) mi 0 L [] h o := by
  subst hi
  exact ⟨fun q => q.2, fun q => ⟨hl, q⟩⟩
theorem zm_k1 {n : Int} {x : Int32} (hf : zt_fetch mi pc = some (.iconst n)) (hx : Int32.ofInt n = x) : zm_E C mi pc L st h o ↔ zm_E C mi (pc + 1) L (.inl x :: st) h o := by
  subst hx
  exact zm_go hf rfl
theorem zm_k2 {n : Int} {x : Int32} (hf : zt_fetch mi pc = some (.bipush n)) (hx : (Int8.ofInt n).toInt32 = x) : zm_E C mi pc L st h o ↔ zm_E C mi (pc + 2) L (.inl x :: st) h o := by
  subst hx
  exact zm_go hf rfl
theorem zm_k3 {n : Int} {x : Int32} (hf : zt_fetch mi pc = some (.sipush n)) (hx : (Int16.ofInt n).toInt32 = x) : zm_E C mi pc L st h o ↔ zm_E C mi (pc + 3) L (.inl x :: st) h o := by
  subst hx
  exact zm_go hf rfl
theorem zm_k4 {k : Nat} {v : zmV} (hf : zt_fetch mi pc = some (.ldc k)) (hx : zt_ldc (zt_own mi) k = some v) : zm_E C mi pc L st h o ↔ zm_E C mi (pc + 2) L (v :: st) h o :=
  zm_go hf (by simp only [zm_step, hx, Option.map_some])
theorem zm_k5 {k : Nat} {v : Int64} (hf : zt_fetch mi pc = some (.ldc2_w k)) (hx : zt_ldc2 (zt_own mi) k = some v) : zm_E C mi pc L st h o ↔ zm_E C mi (pc + 3) L (.inr (.inl v) :: st) h o :=
  zm_go hf (by simp only [zm_step, hx, Option.map_some])
theorem zm_k6 {k : Nat} {v : zmV} (hf : zt_fetch mi pc = some (.getstatic k)) (hx : zt_stat (zt_own mi) k = some v) : zm_E C mi pc L st h o ↔ zm_E C mi (pc + 3) L (v :: st) h o :=
  zm_go hf (by simp only [zm_step, hx, Option.map_some])
theorem zm_k7 {n : Int} {d : Nat} {x a : Int32} (hf : zt_fetch mi pc = some (.iinc d n)) (hx : Int32.ofInt n = x) (ha : L[d]? = some (some (.inl a))) (h2 : zm_no2 (zt_lslot mi) d = true) : zm_E C mi pc L st h o ↔ zm_E C mi (pc + 3) (L.set d (some (.inl (a + x)))) st h o := by
  subst hx
  exact zm_go hf (by simp only [zm_step, zm_inc, ha, h2, if_true, Option.map_some])
theorem zm_b1 {c : ClassFile.Cond} {off : Int} {t : Nat} {x : Int32} (hf : zt_fetch mi pc = some (.ifCond c off)) (ht : zm_tgt pc off = some t) : zm_E C mi pc L (.inl x :: st) h o ↔ if zm_cmp c x 0 = true then zm_E C mi t L st h o else zm_E C mi (pc + 3) L st h o :=
  zm_brn hf (by simp only [zm_step, ht, Option.map_some])
theorem zm_b2 {c : ClassFile.Cond} {off : Int} {t : Nat} {x y : Int32} (hf : zt_fetch mi pc = some (.if_icmp c off)) (ht : zm_tgt pc off = some t) : zm_E C mi pc L (.inl y :: .inl x :: st) h o ↔ if zm_cmp c x y = true then zm_E C mi t L st h o else zm_E C mi (pc + 3) L st h o :=
  zm_brn hf (by simp only [zm_step, ht, Option.map_some])
theorem zm_if1 {c : Prop} [Decidable c] {b : Bool} {A B : Prop} (hb : b = true ↔ c) : (if b = true then A else B) ↔ if c then A else B := by
  by_cases q : c
  · rw [if_pos q, if_pos (hb.mpr q)]
  · rw [if_neg q, if_neg (fun z => q (hb.mp z))]
theorem zm_if2 {c : Prop} [Decidable c] {b : Bool} {A B : Prop} (hb : b = true ↔ ¬ c) : (if b = true then A else B) ↔ if c then B else A := by
  by_cases q : c
  · rw [if_pos q, if_neg (fun z => hb.mp z q)]
  · rw [if_neg q, if_pos (hb.mpr q)]
theorem zm_j_eq {off : Int} {t : Nat} {x y : Int32} (hf : zt_fetch mi pc = some (.if_icmp .eq off)) (ht : zm_tgt pc off = some t) : zm_E C mi pc L (.inl y :: .inl x :: st) h o ↔ if x = y then zm_E C mi t L st h o else zm_E C mi (pc + 3) L st h o :=
  (zm_b2 hf ht).trans (zm_if1 (by simp [zm_cmp]))
theorem zm_z_eq {off : Int} {t : Nat} {x : Int32} (hf : zt_fetch mi pc = some (.ifCond .eq off)) (ht : zm_tgt pc off = some t) : zm_E C mi pc L (.inl x :: st) h o ↔ if x = 0 then zm_E C mi t L st h o else zm_E C mi (pc + 3) L st h o :=
  (zm_b1 hf ht).trans (zm_if1 (by simp [zm_cmp]))
theorem zm_j_ne {off : Int} {t : Nat} {x y : Int32} (hf : zt_fetch mi pc = some (.if_icmp .ne off)) (ht : zm_tgt pc off = some t) : zm_E C mi pc L (.inl y :: .inl x :: st) h o ↔ if x = y then zm_E C mi (pc + 3) L st h o else zm_E C mi t L st h o :=
  (zm_b2 hf ht).trans (zm_if2 (by simp [zm_cmp]))
theorem zm_z_ne {off : Int} {t : Nat} {x : Int32} (hf : zt_fetch mi pc = some (.ifCond .ne off)) (ht : zm_tgt pc off = some t) : zm_E C mi pc L (.inl x :: st) h o ↔ if x = 0 then zm_E C mi (pc + 3) L st h o else zm_E C mi t L st h o :=
  (zm_b1 hf ht).trans (zm_if2 (by simp [zm_cmp]))
theorem zm_j_lt {off : Int} {t : Nat} {x y : Int32} (hf : zt_fetch mi pc = some (.if_icmp .lt off)) (ht : zm_tgt pc off = some t) : zm_E C mi pc L (.inl y :: .inl x :: st) h o ↔ if x < y then zm_E C mi t L st h o else zm_E C mi (pc + 3) L st h o :=
  (zm_b2 hf ht).trans (zm_if1 (by simp [zm_cmp]))
theorem zm_z_lt {off : Int} {t : Nat} {x : Int32} (hf : zt_fetch mi pc = some (.ifCond .lt off)) (ht : zm_tgt pc off = some t) : zm_E C mi pc L (.inl x :: st) h o ↔ if x < 0 then zm_E C mi t L st h o else zm_E C mi (pc + 3) L st h o :=
  (zm_b1 hf ht).trans (zm_if1 (by simp [zm_cmp]))
theorem zm_j_ge {off : Int} {t : Nat} {x y : Int32} (hf : zt_fetch mi pc = some (.if_icmp .ge off)) (ht : zm_tgt pc off = some t) : zm_E C mi pc L (.inl y :: .inl x :: st) h o ↔ if x < y then zm_E C mi (pc + 3) L st h o else zm_E C mi t L st h o :=
  (zm_b2 hf ht).trans (zm_if2 (by simp [zm_cmp]))
theorem zm_z_ge {off : Int} {t : Nat} {x : Int32} (hf : zt_fetch mi pc = some (.ifCond .ge off)) (ht : zm_tgt pc off = some t) : zm_E C mi pc L (.inl x :: st) h o ↔ if x < 0 then zm_E C mi (pc + 3) L st h o else zm_E C mi t L st h o :=
  (zm_b1 hf ht).trans (zm_if2 (by simp [zm_cmp]))
theorem zm_j_gt {off : Int} {t : Nat} {x y : Int32} (hf : zt_fetch mi pc = some (.if_icmp .gt off)) (ht : zm_tgt pc off = some t) : zm_E C mi pc L (.inl y :: .inl x :: st) h o ↔ if y < x then zm_E C mi t L st h o else zm_E C mi (pc + 3) L st h o :=
  (zm_b2 hf ht).trans (zm_if1 (by simp [zm_cmp]))
theorem zm_z_gt {off : Int} {t : Nat} {x : Int32} (hf : zt_fetch mi pc = some (.ifCond .gt off)) (ht : zm_tgt pc off = some t) : zm_E C mi pc L (.inl x :: st) h o ↔ if 0 < x then zm_E C mi t L st h o else zm_E C mi (pc + 3) L st h o :=
  (zm_b1 hf ht).trans (zm_if1 (by simp [zm_cmp]))
theorem zm_j_le {off : Int} {t : Nat} {x y : Int32} (hf : zt_fetch mi pc = some (.if_icmp .le off)) (ht : zm_tgt pc off = some t) : zm_E C mi pc L (.inl y :: .inl x :: st) h o ↔ if y < x then zm_E C mi (pc + 3) L st h o else zm_E C mi t L st h o :=
  (zm_b2 hf ht).trans (zm_if2 (by simp [zm_cmp]))
theorem zm_z_le {off : Int} {t : Nat} {x : Int32} (hf : zt_fetch mi pc = some (.ifCond .le off)) (ht : zm_tgt pc off = some t) : zm_E C mi pc L (.inl x :: st) h o ↔ if 0 < x then zm_E C mi (pc + 3) L st h o else zm_E C mi t L st h o :=
  (zm_b1 hf ht).trans (zm_if2 (by simp [zm_cmp]))
theorem zm_b3 {off : Int} {t : Nat} {q : Option zmK} (hf : zt_fetch mi pc = some (.ifnull off)) (ht : zm_tgt pc off = some t) : zm_E C mi pc L (.inr (.inr q) :: st) h o ↔ zm_n7 q = true ∧ if q = none then zm_E C mi t L st h o else zm_E C mi (pc + 3) L st h o := by
  by_cases h7 : zm_n7 q = true
  · rw [zm_brn (L2 := L) (st2 := st) (h2 := h) (c := q = none) (x := t) (y := pc + 3) hf (by simp only [zm_step, h7, if_true, ht, Option.map_some])]
    exact ⟨fun z => ⟨h7, z⟩, fun z => z.2⟩
  · rw [zm_no hf (by simp only [zm_step]; rw [if_neg h7]) rfl rfl]
    exact ⟨fun z => z.elim, fun z => h7 z.1⟩
theorem zm_b4 {off : Int} {t : Nat} {q : Option zmK} (hf : zt_fetch mi pc = some (.ifnonnull off)) (ht : zm_tgt pc off = some t) : zm_E C mi pc L (.inr (.inr q) :: st) h o ↔ zm_n7 q = true ∧ if q = none then zm_E C mi (pc + 3) L st h o else zm_E C mi t L st h o := by
  by_cases h7 : zm_n7 q = true
  · rw [zm_brn (L2 := L) (st2 := st) (h2 := h) (c := q = none) (x := pc + 3) (y := t) hf (by simp only [zm_step, h7, if_true, ht, Option.map_some])]
    exact ⟨fun z => ⟨h7, z⟩, fun z => z.2⟩
  · rw [zm_no hf (by simp only [zm_step]; rw [if_neg h7]) rfl rfl]
    exact ⟨fun z => z.elim, fun z => h7 z.1⟩
theorem zm_sw {df lo hi : Int} {offs : Array Int} {t : Nat} {x : Int32} (hf : zt_fetch mi pc = some (.tableswitch df lo hi offs)) (ht : zm_tab pc df lo hi offs x = some t) : zm_E C mi pc L (.inl x :: st) h o ↔ zm_E C mi t L st h o :=
  zm_go hf (by simp only [zm_step, ht, Option.map_some])
theorem zm_swd {df lo hi : Int} {offs : Array Int} {t : Nat} {x : Int32} (hf : zt_fetch mi pc = some (.tableswitch df lo hi offs)) (hx : x.toInt < lo ∨ hi < x.toInt) (ht : zm_tgt pc df = some t) : zm_E C mi pc L (.inl x :: st) h o ↔ zm_E C mi t L st h o :=
  zm_sw hf (by unfold zm_tab; rw [if_pos hx]; exact ht)
theorem zm_gf {r : zmK} {k ci f : Nat} {ty : FieldType} {fin : Bool} (hf : zt_fetch mi pc = some (.getfield k)) (hq : zt_fld (zt_own mi) k = some (ci, f, ty, fin)) : zm_E C mi pc L (.inr (.inr (some r)) :: st) h o ↔ zm_isF h r ci f = true ∧ zm_E C mi (pc + 3) L (zm_getF h r f :: st) h o :=
  zm_co hf (by simp only [zm_step, hq]) rfl rfl
theorem zm_pf {r : zmK} {v : zmV} {k ci f : Nat} {ty : FieldType} {fin : Bool} (hf : zt_fetch mi pc = some (.putfield k)) (hq : zt_fld (zt_own mi) k = some (ci, f, ty, fin)) (hn : fin = false ∨ (zt_init mi = true ∧ zt_cn ci = zt_cls (zt_own mi))) : zm_E C mi pc L (v :: .inr (.inr (some r)) :: st) h o ↔ (zm_isF h r ci f = true ∧ zm_fit ty v = true ∧ 8 ≤ r.1) ∧ zm_E C mi (pc + 3) L st (zm_putF h r f v) o := by
  have h1 : (zm_isF h r ci f = true ∧ zm_fit ty v = true ∧ 8 ≤ r.1 ∧ (fin = false ∨ (zt_init mi = true ∧ zt_cn ci = zt_cls (zt_own mi)))) ↔ (zm_isF h r ci f = true ∧ zm_fit ty v = true ∧ 8 ≤ r.1) := ⟨fun q => ⟨q.1, q.2.1, q.2.2.1⟩, fun q => ⟨q.1, q.2.1, q.2.2, hn⟩⟩
  rw [← h1]
  exact zm_co hf (by simp only [zm_step, hq]) rfl rfl
theorem zm_il1 {r : zmK} {x : Int32} (hf : zt_fetch mi pc = some .iaload) : zm_E C mi pc L (.inl x :: .inr (.inr (some r)) :: st) h o ↔ zm_inI h r .int x = true ∧ zm_E C mi (pc + 1) L (.inl (zm_ldI h r x) :: st) h o := zm_co hf rfl rfl rfl
theorem zm_cl1 {r : zmK} {x : Int32} (hf : zt_fetch mi pc = some .caload) : zm_E C mi pc L (.inl x :: .inr (.inr (some r)) :: st) h o ↔ (zm_inI h r .char x = true ∧ 8 ≤ r.1) ∧ zm_E C mi (pc + 1) L (.inl (zm_ldI h r x) :: st) h o := zm_co hf rfl rfl rfl
theorem zm_bl1 {r : zmK} {x : Int32} (hf : zt_fetch mi pc = some .baload) : zm_E C mi pc L (.inl x :: .inr (.inr (some r)) :: st) h o ↔ ((zm_inI h r .byte x = true ∧ r.1 < 8) ∨ (zm_inI h r .boolean x = true ∧ 8 ≤ r.1)) ∧ zm_E C mi (pc + 1) L (.inl (zm_ldI h r x) :: st) h o := zm_co hf rfl rfl rfl
theorem zm_zs1 {r : zmK} {x y : Int32} (hf : zt_fetch mi pc = some .bastore) : zm_E C mi pc L (.inl y :: .inl x :: .inr (.inr (some r)) :: st) h o ↔ (zm_inI h r .boolean x = true ∧ 8 ≤ r.1) ∧ zm_E C mi (pc + 1) L st (zm_stI h r x (vp_nar .boolean y)) o := zm_co hf rfl rfl rfl
theorem zm_al1 {r : zmK} {x : Int32} (hf : zt_fetch mi pc = some .aaload) : zm_E C mi pc L (.inl x :: .inr (.inr (some r)) :: st) h o ↔ (zm_inQ h r x = true ∧ 8 ≤ r.1) ∧ zm_E C mi (pc + 1) L (.inr (.inr (zm_ldQ h r x)) :: st) h o := zm_co hf rfl rfl rfl
theorem zm_is1 {r : zmK} {x y : Int32} (hf : zt_fetch mi pc = some .iastore) : zm_E C mi pc L (.inl y :: .inl x :: .inr (.inr (some r)) :: st) h o ↔ (zm_inI h r .int x = true ∧ 8 ≤ r.1) ∧ zm_E C mi (pc + 1) L st (zm_stI h r x y) o := zm_co hf rfl rfl rfl
theorem zm_cs1 {r : zmK} {x y : Int32} (hf : zt_fetch mi pc = some .castore) : zm_E C mi pc L (.inl y :: .inl x :: .inr (.inr (some r)) :: st) h o ↔ (zm_inI h r .char x = true ∧ 8 ≤ r.1) ∧ zm_E C mi (pc + 1) L st (zm_stI h r x (vp_nar .char y)) o := zm_co hf rfl rfl rfl
theorem zm_as1 {r y : zmK} {x : Int32} (hf : zt_fetch mi pc = some .aastore) : zm_E C mi pc L (.inr (.inr (some y)) :: .inl x :: .inr (.inr (some r)) :: st) h o ↔ (zm_inQ h r x = true ∧ zm_okQ zt_cn h r y = true ∧ 8 ≤ r.1 ∧ 8 ≤ y.1) ∧ zm_E C mi (pc + 1) L st (zm_stQ h r x y) o := zm_co hf rfl rfl rfl
theorem zm_ln1 {r : zmK} (hf : zt_fetch mi pc = some .arraylength) : zm_E C mi pc L (.inr (.inr (some r)) :: st) h o ↔ zm_isA h r = true ∧ zm_E C mi (pc + 1) L (.inl (zm_len h r) :: st) h o := zm_co hf rfl rfl rfl
theorem zm_nw1 {k si ci : Nat} {tys : List FieldType} (hf : zt_fetch mi pc = some (.new k)) (hq : zt_new (zt_own mi) k = some (ci, tys)) (hsi : zt_site mi pc = si) : zm_E C mi pc L st h o ↔ zm_free h si = true ∧ zm_E C mi (pc + 3) L (.inr (.inr (some (si, h.2.1 si))) :: st) (zm_new h si (.inr (ci, tys.map zm_dflt)) tys.length) o := by
  subst hsi
  exact zm_co hf (by simp only [zm_step, hq]) rfl rfl
theorem zm_na1 {t : ArrayType} {x : Int32} {si : Nat} (hf : zt_fetch mi pc = some (.newarray t)) (hsi : zt_site mi pc = si) (ht : zm_at t = true) : zm_E C mi pc L (.inl x :: st) h o ↔ (zm_free h si = true ∧ zm_small x = true) ∧ zm_E C mi (pc + 2) L (.inr (.inr (some (si, h.2.1 si))) :: st) (zm_new h si (.inl (newarray.typeOf t, x.toNatClampNeg, .inl fun _ => 0)) x.toNatClampNeg) o := by
  subst hsi
  have h1 : (zm_free h (zt_site mi pc) = true ∧ zm_small x = true ∧ zm_at t = true) ↔ (zm_free h (zt_site mi pc) = true ∧ zm_small x = true) := ⟨fun q => ⟨q.1, q.2.1⟩, fun q => ⟨q.1, q.2, ht⟩⟩
  rw [← h1]
  exact zm_co hf rfl rfl rfl
theorem zm_aa1 {k si : Nat} {cn : String} {x : Int32} (hf : zt_fetch mi pc = some (.anewarray k)) (hq : zt_arr (zt_own mi) k = some cn) (hsi : zt_site mi pc = si) : zm_E C mi pc L (.inl x :: st) h o ↔ (zm_free h si = true ∧ zm_small x = true) ∧ zm_E C mi (pc + 3) L (.inr (.inr (some (si, h.2.1 si))) :: st) (zm_new h si (.inl (.object cn, x.toNatClampNeg, .inr fun _ => none)) x.toNatClampNeg) o := by
  subst hsi
  exact zm_co hf (by simp only [zm_step, hq]) rfl rfl
theorem zm_ir1 {x : Int32} {ty : FieldType} (hf : zt_fetch mi pc = some .ireturn) (hr : zt_ret mi = some ty) : zm_E C mi pc L [.inl x] h o ↔ zm_fit ty (.inl x) = true ∧ o = (some (.inl x), h) := by
  by_cases hv : zm_fit ty (.inl x) = true
  · rw [zm_rt (v := some (.inl x)) hf rfl (by simp only [zm_ret, hr, hv, if_true])]
    exact ⟨fun q => ⟨hv, q⟩, fun q => q.2⟩
  · rw [zm_no hf rfl (by simp only [zm_ret, hr]; rw [if_neg hv]) rfl]
    exact ⟨fun q => q.elim, fun q => hv q.1⟩
end ZMX
end
