section
def lw_okq (q : MethodName × Nat) : Prop := (q.1.cls ≠ "java/lang/invoke/MethodHandle" ∧ q.1.cls ≠ "java/lang/invoke/VarHandle") ∧ Cond.instantiable q.1.cls q.2 ∈ tables_1 ∧ Cond.privateMethod q.1 ∈ tables_1 ∧ Cond.instanceMethod q.1 ∈ tables_1
theorem lw_p0 : lw_okq (⟨"BumpNotes", "packAt", "(I)LBumpNotes$Pack;"⟩, 12) := ⟨⟨by decide +kernel, by decide +kernel⟩, List.mem_of_getElem? (i := 17) (by decide +kernel), List.mem_of_getElem? (i := 192) (by decide +kernel), List.mem_of_getElem? (i := 193) (by decide +kernel)⟩
theorem lw_p1 : lw_okq (⟨"BumpNotes", "addChange", "(I)I"⟩, 12) := ⟨⟨by decide +kernel, by decide +kernel⟩, List.mem_of_getElem? (i := 17) (by decide +kernel), List.mem_of_getElem? (i := 226) (by decide +kernel), List.mem_of_getElem? (i := 227) (by decide +kernel)⟩
theorem lw_p2 : lw_okq (⟨"BumpNotes", "changeAt", "(I)LBumpNotes$Change;"⟩, 12) := ⟨⟨by decide +kernel, by decide +kernel⟩, List.mem_of_getElem? (i := 17) (by decide +kernel), List.mem_of_getElem? (i := 362) (by decide +kernel), List.mem_of_getElem? (i := 363) (by decide +kernel)⟩
theorem lw_p3 : lw_okq (⟨"BumpNotes", "addReverting", "(LBumpNotes$Change;)I"⟩, 12) := ⟨⟨by decide +kernel, by decide +kernel⟩, List.mem_of_getElem? (i := 17) (by decide +kernel), List.mem_of_getElem? (i := 366) (by decide +kernel), List.mem_of_getElem? (i := 367) (by decide +kernel)⟩
theorem lw_p4 : lw_okq (⟨"BumpNotes", "bumpByChanges", "()V"⟩, 12) := ⟨⟨by decide +kernel, by decide +kernel⟩, List.mem_of_getElem? (i := 17) (by decide +kernel), List.mem_of_getElem? (i := 395) (by decide +kernel), List.mem_of_getElem? (i := 396) (by decide +kernel)⟩
theorem lw_p5 : lw_okq (⟨"BumpNotes", "greatestPendingWeight", "(I)I"⟩, 12) := ⟨⟨by decide +kernel, by decide +kernel⟩, List.mem_of_getElem? (i := 17) (by decide +kernel), List.mem_of_getElem? (i := 407) (by decide +kernel), List.mem_of_getElem? (i := 408) (by decide +kernel)⟩
theorem lw_p6 : lw_okq (⟨"BumpNotes$Pack", "beginRow", "()V"⟩, 9) := ⟨⟨by decide +kernel, by decide +kernel⟩, List.mem_of_getElem? (i := 124) (by decide +kernel), List.mem_of_getElem? (i := 415) (by decide +kernel), List.mem_of_getElem? (i := 416) (by decide +kernel)⟩
theorem lw_p7 : lw_okq (⟨"BumpNotes", "bumpByNeeds", "()V"⟩, 12) := ⟨⟨by decide +kernel, by decide +kernel⟩, List.mem_of_getElem? (i := 17) (by decide +kernel), List.mem_of_getElem? (i := 424) (by decide +kernel), List.mem_of_getElem? (i := 425) (by decide +kernel)⟩
theorem lw_p8 : lw_okq (⟨"BumpNotes", "carryOnce", "()Z"⟩, 12) := ⟨⟨by decide +kernel, by decide +kernel⟩, List.mem_of_getElem? (i := 17) (by decide +kernel), List.mem_of_getElem? (i := 428) (by decide +kernel), List.mem_of_getElem? (i := 429) (by decide +kernel)⟩
theorem lw_p9 : lw_okq (⟨"BumpNotes", "hasBrokenNeed", "(LBumpNotes$Pack;)Z"⟩, 12) := ⟨⟨by decide +kernel, by decide +kernel⟩, List.mem_of_getElem? (i := 17) (by decide +kernel), List.mem_of_getElem? (i := 432) (by decide +kernel), List.mem_of_getElem? (i := 433) (by decide +kernel)⟩
theorem lw_p10 : lw_okq (⟨"BumpNotes", "releaseChanges", "()V"⟩, 12) := ⟨⟨by decide +kernel, by decide +kernel⟩, List.mem_of_getElem? (i := 17) (by decide +kernel), List.mem_of_getElem? (i := 452) (by decide +kernel), List.mem_of_getElem? (i := 453) (by decide +kernel)⟩
theorem lw_p11 : lw_okq (⟨"BumpNotes", "writeNotes", "()V"⟩, 12) := ⟨⟨by decide +kernel, by decide +kernel⟩, List.mem_of_getElem? (i := 17) (by decide +kernel), List.mem_of_getElem? (i := 456) (by decide +kernel), List.mem_of_getElem? (i := 457) (by decide +kernel)⟩
theorem lw_p12 : lw_okq (⟨"BumpNotes", "writeNotesOf", "(I)V"⟩, 12) := ⟨⟨by decide +kernel, by decide +kernel⟩, List.mem_of_getElem? (i := 17) (by decide +kernel), List.mem_of_getElem? (i := 464) (by decide +kernel), List.mem_of_getElem? (i := 465) (by decide +kernel)⟩
theorem lw_p13 : lw_okq (⟨"BumpNotes", "tellBreaks", "()V"⟩, 12) := ⟨⟨by decide +kernel, by decide +kernel⟩, List.mem_of_getElem? (i := 17) (by decide +kernel), List.mem_of_getElem? (i := 480) (by decide +kernel), List.mem_of_getElem? (i := 481) (by decide +kernel)⟩
theorem lw_p14 : lw_okq (⟨"BumpNotes", "countBumped", "()I"⟩, 12) := ⟨⟨by decide +kernel, by decide +kernel⟩, List.mem_of_getElem? (i := 17) (by decide +kernel), List.mem_of_getElem? (i := 484) (by decide +kernel), List.mem_of_getElem? (i := 485) (by decide +kernel)⟩
theorem lw_p15 : lw_okq (⟨"BumpNotes", "isTagged", "(LBumpNotes$Pack;)Z"⟩, 12) := ⟨⟨by decide +kernel, by decide +kernel⟩, List.mem_of_getElem? (i := 17) (by decide +kernel), List.mem_of_getElem? (i := 524) (by decide +kernel), List.mem_of_getElem? (i := 525) (by decide +kernel)⟩
def lw_privs_1 : List (MethodName × Nat) := [(⟨"BumpNotes", "packAt", "(I)LBumpNotes$Pack;"⟩, 12), (⟨"BumpNotes", "addChange", "(I)I"⟩, 12), (⟨"BumpNotes", "changeAt", "(I)LBumpNotes$Change;"⟩, 12), (⟨"BumpNotes", "addReverting", "(LBumpNotes$Change;)I"⟩, 12), (⟨"BumpNotes", "bumpByChanges", "()V"⟩, 12), (⟨"BumpNotes", "greatestPendingWeight", "(I)I"⟩, 12), (⟨"BumpNotes$Pack", "beginRow", "()V"⟩, 9), (⟨"BumpNotes", "bumpByNeeds", "()V"⟩, 12), (⟨"BumpNotes", "carryOnce", "()Z"⟩, 12), (⟨"BumpNotes", "hasBrokenNeed", "(LBumpNotes$Pack;)Z"⟩, 12), (⟨"BumpNotes", "releaseChanges", "()V"⟩, 12), (⟨"BumpNotes", "writeNotes", "()V"⟩, 12), (⟨"BumpNotes", "writeNotesOf", "(I)V"⟩, 12), (⟨"BumpNotes", "tellBreaks", "()V"⟩, 12), (⟨"BumpNotes", "countBumped", "()I"⟩, 12), (⟨"BumpNotes", "isTagged", "(LBumpNotes$Pack;)Z"⟩, 12)]
theorem lw_r1 : ∀ q ∈ lw_privs_1, lw_okq q := List.forall_mem_cons.mpr ⟨lw_p0, List.forall_mem_cons.mpr ⟨lw_p1, List.forall_mem_cons.mpr ⟨lw_p2, List.forall_mem_cons.mpr ⟨lw_p3, List.forall_mem_cons.mpr ⟨lw_p4, List.forall_mem_cons.mpr ⟨lw_p5, List.forall_mem_cons.mpr ⟨lw_p6, List.forall_mem_cons.mpr ⟨lw_p7, List.forall_mem_cons.mpr ⟨lw_p8, List.forall_mem_cons.mpr ⟨lw_p9, List.forall_mem_cons.mpr ⟨lw_p10, List.forall_mem_cons.mpr ⟨lw_p11, List.forall_mem_cons.mpr ⟨lw_p12, List.forall_mem_cons.mpr ⟨lw_p13, List.forall_mem_cons.mpr ⟨lw_p14, List.forall_mem_cons.mpr ⟨lw_p15, fun _ h => absurd h List.not_mem_nil⟩⟩⟩⟩⟩⟩⟩⟩⟩⟩⟩⟩⟩⟩⟩⟩
theorem lw_p16 : lw_okq (⟨"BumpNotesModel", "isPack", "(I)Z"⟩, 32) := ⟨⟨by decide +kernel, by decide +kernel⟩, List.mem_of_getElem? (i := 548) (by decide +kernel), List.mem_of_getElem? (i := 663) (by decide +kernel), List.mem_of_getElem? (i := 664) (by decide +kernel)⟩
theorem lw_p17 : lw_okq (⟨"BumpNotesModel", "find", "()V"⟩, 32) := ⟨⟨by decide +kernel, by decide +kernel⟩, List.mem_of_getElem? (i := 548) (by decide +kernel), List.mem_of_getElem? (i := 695) (by decide +kernel), List.mem_of_getElem? (i := 696) (by decide +kernel)⟩
theorem lw_p18 : lw_okq (⟨"BumpNotesModel", "letters", "(I)I"⟩, 32) := ⟨⟨by decide +kernel, by decide +kernel⟩, List.mem_of_getElem? (i := 548) (by decide +kernel), List.mem_of_getElem? (i := 699) (by decide +kernel), List.mem_of_getElem? (i := 700) (by decide +kernel)⟩
theorem lw_p19 : lw_okq (⟨"BumpNotesModel", "signAt", "(I)I"⟩, 32) := ⟨⟨by decide +kernel, by decide +kernel⟩, List.mem_of_getElem? (i := 548) (by decide +kernel), List.mem_of_getElem? (i := 703) (by decide +kernel), List.mem_of_getElem? (i := 704) (by decide +kernel)⟩
theorem lw_p20 : lw_okq (⟨"BumpNotesModel", "kindOf", "(I)I"⟩, 32) := ⟨⟨by decide +kernel, by decide +kernel⟩, List.mem_of_getElem? (i := 548) (by decide +kernel), List.mem_of_getElem? (i := 707) (by decide +kernel), List.mem_of_getElem? (i := 708) (by decide +kernel)⟩
theorem lw_p21 : lw_okq (⟨"BumpNotesModel", "endsBreaking", "(I)Z"⟩, 32) := ⟨⟨by decide +kernel, by decide +kernel⟩, List.mem_of_getElem? (i := 548) (by decide +kernel), List.mem_of_getElem? (i := 718) (by decide +kernel), List.mem_of_getElem? (i := 719) (by decide +kernel)⟩
theorem lw_p22 : lw_okq (⟨"BumpNotesModel", "add", "(I)I"⟩, 32) := ⟨⟨by decide +kernel, by decide +kernel⟩, List.mem_of_getElem? (i := 548) (by decide +kernel), List.mem_of_getElem? (i := 723) (by decide +kernel), List.mem_of_getElem? (i := 724) (by decide +kernel)⟩
theorem lw_p23 : lw_okq (⟨"BumpNotesModel", "isChange", "(I)Z"⟩, 32) := ⟨⟨by decide +kernel, by decide +kernel⟩, List.mem_of_getElem? (i := 548) (by decide +kernel), List.mem_of_getElem? (i := 731) (by decide +kernel), List.mem_of_getElem? (i := 732) (by decide +kernel)⟩
theorem lw_p24 : lw_okq (⟨"BumpNotesModel", "isOpen", "(I)Z"⟩, 32) := ⟨⟨by decide +kernel, by decide +kernel⟩, List.mem_of_getElem? (i := 548) (by decide +kernel), List.mem_of_getElem? (i := 739) (by decide +kernel), List.mem_of_getElem? (i := 740) (by decide +kernel)⟩
theorem lw_p25 : lw_okq (⟨"BumpNotesModel", "findBumps", "()V"⟩, 32) := ⟨⟨by decide +kernel, by decide +kernel⟩, List.mem_of_getElem? (i := 548) (by decide +kernel), List.mem_of_getElem? (i := 751) (by decide +kernel), List.mem_of_getElem? (i := 752) (by decide +kernel)⟩
theorem lw_p26 : lw_okq (⟨"BumpNotesModel", "stays", "(II)Z"⟩, 32) := ⟨⟨by decide +kernel, by decide +kernel⟩, List.mem_of_getElem? (i := 548) (by decide +kernel), List.mem_of_getElem? (i := 755) (by decide +kernel), List.mem_of_getElem? (i := 756) (by decide +kernel)⟩
theorem lw_p27 : lw_okq (⟨"BumpNotesModel", "reckon", "(I)V"⟩, 32) := ⟨⟨by decide +kernel, by decide +kernel⟩, List.mem_of_getElem? (i := 548) (by decide +kernel), List.mem_of_getElem? (i := 759) (by decide +kernel), List.mem_of_getElem? (i := 760) (by decide +kernel)⟩
theorem lw_p28 : lw_okq (⟨"BumpNotesModel", "raise", "([IIII)V"⟩, 32) := ⟨⟨by decide +kernel, by decide +kernel⟩, List.mem_of_getElem? (i := 548) (by decide +kernel), List.mem_of_getElem? (i := 763) (by decide +kernel), List.mem_of_getElem? (i := 764) (by decide +kernel)⟩
theorem lw_p29 : lw_okq (⟨"BumpNotesModel", "become", "(I)V"⟩, 32) := ⟨⟨by decide +kernel, by decide +kernel⟩, List.mem_of_getElem? (i := 548) (by decide +kernel), List.mem_of_getElem? (i := 767) (by decide +kernel), List.mem_of_getElem? (i := 768) (by decide +kernel)⟩
theorem lw_p30 : lw_okq (⟨"BumpNotesModel", "gather", "(II)V"⟩, 32) := ⟨⟨by decide +kernel, by decide +kernel⟩, List.mem_of_getElem? (i := 548) (by decide +kernel), List.mem_of_getElem? (i := 771) (by decide +kernel), List.mem_of_getElem? (i := 772) (by decide +kernel)⟩
theorem lw_p31 : lw_okq (⟨"BumpNotesModel", "group", "(I)I"⟩, 32) := ⟨⟨by decide +kernel, by decide +kernel⟩, List.mem_of_getElem? (i := 548) (by decide +kernel), List.mem_of_getElem? (i := 775) (by decide +kernel), List.mem_of_getElem? (i := 776) (by decide +kernel)⟩
def lw_privs_2 : List (MethodName × Nat) := [(⟨"BumpNotesModel", "isPack", "(I)Z"⟩, 32), (⟨"BumpNotesModel", "find", "()V"⟩, 32), (⟨"BumpNotesModel", "letters", "(I)I"⟩, 32), (⟨"BumpNotesModel", "signAt", "(I)I"⟩, 32), (⟨"BumpNotesModel", "kindOf", "(I)I"⟩, 32), (⟨"BumpNotesModel", "endsBreaking", "(I)Z"⟩, 32), (⟨"BumpNotesModel", "add", "(I)I"⟩, 32), (⟨"BumpNotesModel", "isChange", "(I)Z"⟩, 32), (⟨"BumpNotesModel", "isOpen", "(I)Z"⟩, 32), (⟨"BumpNotesModel", "findBumps", "()V"⟩, 32), (⟨"BumpNotesModel", "stays", "(II)Z"⟩, 32), (⟨"BumpNotesModel", "reckon", "(I)V"⟩, 32), (⟨"BumpNotesModel", "raise", "([IIII)V"⟩, 32), (⟨"BumpNotesModel", "become", "(I)V"⟩, 32), (⟨"BumpNotesModel", "gather", "(II)V"⟩, 32), (⟨"BumpNotesModel", "group", "(I)I"⟩, 32)]
theorem lw_r2 : ∀ q ∈ lw_privs_2, lw_okq q := List.forall_mem_cons.mpr ⟨lw_p16, List.forall_mem_cons.mpr ⟨lw_p17, List.forall_mem_cons.mpr ⟨lw_p18, List.forall_mem_cons.mpr ⟨lw_p19, List.forall_mem_cons.mpr ⟨lw_p20, List.forall_mem_cons.mpr ⟨lw_p21, List.forall_mem_cons.mpr ⟨lw_p22, List.forall_mem_cons.mpr ⟨lw_p23, List.forall_mem_cons.mpr ⟨lw_p24, List.forall_mem_cons.mpr ⟨lw_p25, List.forall_mem_cons.mpr ⟨lw_p26, List.forall_mem_cons.mpr ⟨lw_p27, List.forall_mem_cons.mpr ⟨lw_p28, List.forall_mem_cons.mpr ⟨lw_p29, List.forall_mem_cons.mpr ⟨lw_p30, List.forall_mem_cons.mpr ⟨lw_p31, fun _ h => absurd h List.not_mem_nil⟩⟩⟩⟩⟩⟩⟩⟩⟩⟩⟩⟩⟩⟩⟩⟩
def lw_privs : List (MethodName × Nat) := lw_privs_1 ++ (lw_privs_2)
def lw_tbl : List Cond := k2_sels lw_privs ++ tables_1
theorem lw_privs_ok : ∀ q ∈ lw_privs, lw_okq q := by
  show ∀ q ∈ lw_privs_1 ++ (lw_privs_2), lw_okq q
  exact List.forall_mem_append.mpr ⟨lw_r1, lw_r2⟩
def R_law : String := "BumpNotesLaw"
def lw_P (b : Addr) (xs : List Int32) (args : Array Value) (s : State) : Prop := args = #[.ref b] ∧ s.IntsAt b xs ∧ xs.length ≤ 2048 ∧ (Jvm.Cond.and given_1 narrow_1).before args s = true
def lw_Q (_ : Array Value) (s : State) (o : Outcome) (t : State) : Prop := o = .returned (some (.int 1)) ∧ Framed s o t [] 600000 7302250
def lw_Z (below : List Frame) (a : Array Value) (s : State) : State → Prop := fun t => ∃ o, t.status = .running ∧ Ended t below o ∧ lw_Q a s o t
theorem lw_ret {p : Program} {l : Launch} {e : Env} {s : State} {m : MethodId} {below : List Frame} {meth : Method} {c : Code} {b : Nat} (hx : p.tables.exec = Jvm.exec) (hb : c.code = code) (hr : meth.sig.returnType = ret) (hlocks : meth.locks = false) {pc : Nat} {H : Heap} {ls : Array Slot} (hdg : decode code pc = .ok (.ireturn, 1)) : W p l e room_1 s m #[Value.ref b] below meth c H [] 600000 7302250 (lw_Z below #[Value.ref b] s) (F0 m pc ls [.int 1]) := by
  intro T hT X
  obtain ⟨fs, hret, hrun, hended, hW, hframe⟩ := X.leave (v := some (.int 1)) (hlocks := hlocks) (fun h => by rw [hr] at h; cases h)
  have hmeth' : T.vm.method? m = some meth := X.method'
  refine ⟨T.setFrames fs, ?_, .returned (some (.int 1)), hrun, hended, rfl, ⟨_, rfl⟩, hW, hframe⟩
  jvm_step X.here [X.here.top, hx, hb, hdg, hmeth', hr, ret, narrow_b1]
  (try refine ⟨rfl, ?_⟩); (try refine ⟨rfl, ?_⟩)
  first | (intro acts; rw [hret _ acts rfl rfl rfl]) | rw [hret _ _ rfl rfl rfl]
  exact Steps.refl _
def lw_At (p : Program) (s : State) (m : MethodId) (meth : Method) (c : Code) (b L : Nat) (xs : Nat → Int32) : Prop :=
  p.tables.exec = Jvm.exec ∧ c.code = code ∧ meth.sig.returnType = ret ∧ c.maxLocals = 4 ∧ s.vm.findClass R_law = some m.cls ∧ (∀ w ∈ lw_tbl, w.before #[Value.ref b] s = true) ∧ va_X b L xs s s.heap ∧ b < s.heap.size ∧ meth.locks = false ∧ (Jvm.Cond.and given_1 narrow_1).before #[Value.ref b] s = true
end
section
abbrev zmK : Type := Nat × Nat
abbrev zmV : Type := Int32 ⊕ (Int64 ⊕ Option zmK)
abbrev zmA : Type := Nat × ((Nat → Int32) ⊕ (Nat → Option zmK))
abbrev zmC : Type := (FieldType × zmA) ⊕ (Nat × List zmV)
abbrev zmH : Type := (Nat × Nat) × (Nat → Nat) × (zmK → Option zmC)
abbrev zmL : Type := List (Option zmV)
abbrev zmO : Type := Option zmV × zmH
def zm_get (h : zmH) (k : zmK) : Option zmC := h.2.2 k
def zm_set (h : zmH) (k : zmK) (c : zmC) : zmH := (h.1, h.2.1, fun k' => if k' = k then some c else h.2.2 k')
def zm_new (h : zmH) (s : Nat) (c : zmC) (sl : Nat) : zmH := ((h.1.1 + 1, h.1.2 + sl), (fun s' => if s' = s then h.2.1 s + 1 else h.2.1 s'), fun k' => if k' = (s, h.2.1 s) then some c else h.2.2 k')
def zm_kd (v : zmV) : Nat := match v with
  | .inl _ => 0
  | .inr (.inl _) => 1
  | .inr (.inr _) => 2
def zm_fit (ty : FieldType) (v : zmV) : Bool := match ty, v with
  | .int, .inl _ => true
  | .boolean, .inl x => x == 0 || x == 1
  | .char, .inl x => decide (0 ≤ x) && decide (x ≤ 65535)
  | .byte, .inl x => x.toInt8.toInt32 == x
  | .object _, .inr (.inr _) => true
  | .array _, .inr (.inr _) => true
  | _, _ => false
def zm_dflt (ty : FieldType) : zmV := match ty with
  | .object _ => .inr (.inr none)
  | .array _ => .inr (.inr none)
  | .long => .inr (.inl 0)
  | _ => .inl 0
def zm_isF (h : zmH) (r : zmK) (ci k : Nat) : Bool := match zm_get h r with
  | some (.inr (c, fs)) => c == ci && decide (k < fs.length)
  | _ => false
def zm_getF (h : zmH) (r : zmK) (k : Nat) : zmV := match zm_get h r with
  | some (.inr (_, fs)) => fs.getD k (.inl 0)
  | _ => .inl 0
def zm_putF (h : zmH) (r : zmK) (k : Nat) (v : zmV) : zmH := match zm_get h r with
  | some (.inr (c, fs)) => zm_set h r (.inr (c, fs.set k v))
  | _ => h
def zm_inI (h : zmH) (r : zmK) (ty : FieldType) (i : Int32) : Bool := match zm_get h r with
  | some (.inl (t, n, .inl _)) => decide (t = ty) && decide (¬ (i < 0 ∨ n ≤ i.toNatClampNeg)) && decide (n < 2147483648)
  | _ => false
def zm_ldI (h : zmH) (r : zmK) (i : Int32) : Int32 := match zm_get h r with
  | some (.inl (_, _, .inl f)) => f i.toNatClampNeg
  | _ => 0
def zm_stI (h : zmH) (r : zmK) (i x : Int32) : zmH := match zm_get h r with
  | some (.inl (t, n, .inl f)) => zm_set h r (.inl (t, n, .inl (upd f i.toNatClampNeg x)))
  | _ => h
def zm_inQ (h : zmH) (r : zmK) (i : Int32) : Bool := match zm_get h r with
  | some (.inl (.object _, n, .inr _)) => decide (¬ (i < 0 ∨ n ≤ i.toNatClampNeg)) && decide (n < 2147483648)
  | _ => false
def zm_ldQ (h : zmH) (r : zmK) (i : Int32) : Option zmK := match zm_get h r with
  | some (.inl (_, _, .inr f)) => f i.toNatClampNeg
  | _ => none
def zm_stQ (h : zmH) (r : zmK) (i : Int32) (x : zmK) : zmH := match zm_get h r with
  | some (.inl (t, n, .inr f)) => zm_set h r (.inl (t, n, .inr (va_up f i.toNatClampNeg (some x))))
  | _ => h
def zm_isA (h : zmH) (r : zmK) : Bool := match zm_get h r with
  | some (.inl _) => true
  | _ => false
def zm_len (h : zmH) (r : zmK) : Int32 := match zm_get h r with
  | some (.inl (_, n, _)) => Int32.ofNat n
  | _ => 0
def zm_okQ (cn : Nat → String) (h : zmH) (r x : zmK) : Bool := match zm_get h r, zm_get h x with
  | some (.inl (.object C, _, .inr _)), some (.inr (c, _)) => decide (cn c = C)
  | _, _ => false
def zm_ii (f : Int32 → Int32 → Int32) (st : List zmV) : Option (List zmV) := match st with
  | .inl y :: .inl x :: r => some (.inl (f x y) :: r)
  | _ => none
def zm_i1 (f : Int32 → zmV) (st : List zmV) : Option (List zmV) := match st with
  | .inl x :: r => some (f x :: r)
  | _ => none
def zm_l1 (f : Int64 → zmV) (st : List zmV) : Option (List zmV) := match st with
  | .inr (.inl x) :: r => some (f x :: r)
  | _ => none
def zm_ll (f : Int64 → Int64 → zmV) (st : List zmV) : Option (List zmV) := match st with
  | .inr (.inl y) :: .inr (.inl x) :: r => some (f x y :: r)
  | _ => none
def zm_li (f : Int64 → Int32 → Int64) (st : List zmV) : Option (List zmV) := match st with
  | .inl y :: .inr (.inl x) :: r => some (.inr (.inl (f x y)) :: r)
  | _ => none
def zm_one (v : zmV) : Bool := match v with
  | .inr (.inl _) => false
  | _ => true
def zm_dup (st : List zmV) : Option (List zmV) := match st with
  | .inl x :: r => some (.inl x :: .inl x :: r)
  | .inr (.inr x) :: r => some (.inr (.inr x) :: .inr (.inr x) :: r)
  | _ => none
def zm_pop (st : List zmV) : Option (List zmV) := match st with
  | .inl _ :: r => some r
  | .inr (.inr _) :: r => some r
  | _ => none
def zm_alu (i : Instr) (st : List zmV) : Option (List zmV) := match i with
  | .iadd => zm_ii (fun x y => x + y) st
  | .isub => zm_ii (fun x y => x - y) st
  | .imul => zm_ii (fun x y => x * y) st
  | .iand => zm_ii (fun x y => x &&& y) st
  | .ior => zm_ii (fun x y => x ||| y) st
  | .ixor => zm_ii (fun x y => x ^^^ y) st
  | .ishl => zm_ii (fun x y => x <<< (y &&& 31)) st
  | .ishr => zm_ii (fun x y => x >>> (y &&& 31)) st
  | .iushr => zm_ii (fun x y => (x.toUInt32 >>> (y.toUInt32 &&& Int32.toUInt32 31)).toInt32) st
  | .ineg => zm_i1 (fun x => .inl (-x)) st
  | .i2l => zm_i1 (fun x => .inr (.inl x.toInt64)) st
  | .i2c => zm_i1 (fun x => .inl (x.toUInt32 % 65536).toInt32) st
  | .i2b => zm_i1 (fun x => .inl x.toInt8.toInt32) st
  | .l2i => zm_l1 (fun x => .inl x.toInt32) st
  | .ladd => zm_ll (fun x y => .inr (.inl (x + y))) st
  | .lmul => zm_ll (fun x y => .inr (.inl (x * y))) st
  | .land => zm_ll (fun x y => .inr (.inl (x &&& y))) st
  | .lor => zm_ll (fun x y => .inr (.inl (x ||| y))) st
  | .lcmp => zm_ll (fun x y => .inl (lg_cmp x y)) st
  | .lshl => zm_li (fun x y => x <<< (y.toInt64 &&& 63)) st
  | .lushr => zm_li (fun x y => (x.toUInt64 >>> (y.toInt64.toUInt64 &&& Int64.toUInt64 63)).toInt64) st
  | .aconst_null => some (.inr (.inr none) :: st)
  | .iconst n => some (.inl (Int32.ofInt n) :: st)
  | .lconst n => some (.inr (.inl (Int64.ofNat n)) :: st)
  | .dup => zm_dup st
  | .pop => zm_pop st
  | _ => none
def zm_ld (L : zmL) (n kd : Nat) : Option zmV := match L[n]? with
  | some (some v) => if zm_kd v = kd then some v else none
  | _ => none
def zm_no2 (ls : List Nat) (n : Nat) : Bool := match n with
  | 0 => true
  | k + 1 => !ls.contains k
def zm_sto (ls : List Nat) (L : zmL) (n kd : Nat) (st : List zmV) : Option (zmL × List zmV) := match st with
  | v :: r => if zm_kd v = kd ∧ n < L.length ∧ zm_no2 ls n = true then some (L.set n (some v), r) else none
  | _ => none
def zm_stoL (ls : List Nat) (L : zmL) (n : Nat) (st : List zmV) : Option (zmL × List zmV) := match st with
  | .inr (.inl x) :: r => if n + 1 < L.length ∧ zm_no2 ls n = true ∧ ls.contains n = true then some ((L.set n (some (.inr (.inl x)))).set (n + 1) none, r) else none
  | _ => none
def zm_inc (ls : List Nat) (L : zmL) (n : Nat) (d : Int) : Option zmL := match L[n]? with
  | some (some (.inl x)) => if zm_no2 ls n = true then some (L.set n (some (.inl (x + Int32.ofInt d)))) else none
  | _ => none
def zm_tgt (pc : Nat) (off : Int) : Option Nat := match (pc : Int) + off with
  | .ofNat t => some t
  | _ => none
def zm_cmp (c : ClassFile.Cond) (x y : Int32) : Bool := match c with
  | .eq => decide (x = y)
  | .ne => decide (¬ x = y)
  | .lt => decide (x < y)
  | .ge => decide (y ≤ x)
  | .gt => decide (y < x)
  | .le => decide (x ≤ y)
def zm_isO (h : zmH) (r : zmK) (ci : Nat) : Bool := match zm_get h r with
  | some (.inr (c, _)) => c == ci
  | _ => false
def zm_nn (as : List zmV) : Bool := match as with
  | .inr (.inr (some r)) :: _ => decide (8 ≤ r.1)
  | _ => false
def zm_n7 (q : Option zmK) : Bool := match q with
  | some k => decide (k.1 ≠ 7)
  | none => true
def zm_tyOk (ty : FieldType) : Bool := match ty with
  | .float => false
  | .double => false
  | _ => true
def zm_il (i : Instr) : Option Nat := match i with
  | .iload _ => some 2
  | .lload _ => some 2
  | .aload _ => some 2
  | .istore _ => some 2
  | .astore _ => some 2
  | .lstore _ => some 2
  | .iinc _ _ => some 3
  | .bipush _ => some 2
  | .sipush _ => some 3
  | .ldc _ => some 2
  | .ldc2_w _ => some 3
  | .goto _ => some 3
  | .ifCond _ _ => some 3
  | .if_icmp _ _ => some 3
  | .ifnull _ => some 3
  | .ifnonnull _ => some 3
  | .tableswitch _ _ _ _ => none
  | .getfield _ => some 3
  | .putfield _ => some 3
  | .getstatic _ => some 3
  | .new _ => some 3
  | .newarray _ => some 2
  | .anewarray _ => some 3
  | .invokespecial _ => some 3
  | .invokevirtual _ => some 3
  | .invokestatic _ => some 3
  | _ => some 1
def zm_lk (i : Instr) (len : Nat) : Bool := match zm_il i with
  | some k => k == len
  | none => true
def zm_row (b : ByteArray) (q : Nat × Instr) : Bool := match decode b q.1 with
  | .ok (i, len) => decide (i = q.2) && zm_lk i len
  | .error _ => false
theorem zm_row_ok {b : ByteArray} {q : Nat × Instr} (h : zm_row b q = true) : ∃ len, decode b q.1 = .ok (q.2, len) ∧ zm_lk q.2 len = true := by
  unfold zm_row at h
  split at h
  · next i len hd =>
    rw [Bool.and_eq_true] at h
    have h1 : i = q.2 := by simpa using h.1
    subst h1
    exact ⟨len, hd, h.2⟩
  · cases h
end
section
def zm_vr (φ : zmK → Option Nat) (v : zmV) (w : Value) : Prop := match v with
  | .inl x => w = .int x
  | .inr (.inl x) => w = .long x
  | .inr (.inr none) => w = .null
  | .inr (.inr (some k)) => (k.1 = 7 ∧ (w = .null ∨ ∃ a, w = .ref a)) ∨ ∃ a, φ k = some a ∧ w = .ref a
def zm_sr (φ : zmK → Option Nat) : List zmV → List Value → Prop
  | [], rs => rs = []
  | v :: st, rs => ∃ w r, rs = w :: r ∧ zm_vr φ v w ∧ zm_sr φ st r
def zm_le (φ ψ : zmK → Option Nat) : Prop := ∀ k a, φ k = some a → ψ k = some a
theorem zm_le.rf {φ : zmK → Option Nat} : zm_le φ φ := fun _ _ h => h
theorem zm_le.tr {φ ψ χ : zmK → Option Nat} (h : zm_le φ ψ) (g : zm_le ψ χ) : zm_le φ χ := fun k a q => g k a (h k a q)
theorem zm_vr.le {φ ψ : zmK → Option Nat} (h : zm_le φ ψ) {v : zmV} {w : Value} (q : zm_vr φ v w) : zm_vr ψ v w := by
  rcases v with x | x | _ | k
  · exact q
  · exact q
  · exact q
  · rcases q with q | ⟨a, h1, h2⟩
    · exact Or.inl q
    · exact Or.inr ⟨a, h k a h1, h2⟩
theorem zm_sr.le {φ ψ : zmK → Option Nat} (h : zm_le φ ψ) : ∀ {st : List zmV} {rs : List Value}, zm_sr φ st rs → zm_sr ψ st rs
  | [], _, q => q
  | _ :: _, _, ⟨w, r, e, hv, hr⟩ => ⟨w, r, e, hv.le h, zm_sr.le h hr⟩
theorem zm_sr.len {φ : zmK → Option Nat} : ∀ {st : List zmV} {rs : List Value}, zm_sr φ st rs → st.length = rs.length
  | [], _, q => by rw [show _ = [] from q]; rfl
  | _ :: _, _, ⟨w, r, e, _, hr⟩ => by rw [e, List.length_cons, List.length_cons, zm_sr.len hr]
theorem zm_sr.get {φ : zmK → Option Nat} : ∀ {st : List zmV} {rs : List Value} {k : Nat} {v : zmV}, zm_sr φ st rs → st[k]? = some v → ∃ w, rs[k]? = some w ∧ zm_vr φ v w
  | [], _, _, _, _, h => by simp at h
  | v0 :: st, _, 0, v, ⟨w, r, e, hv, hr⟩, h => by
    subst e
    simp at h
    subst h
    exact ⟨w, by simp, hv⟩
  | v0 :: st, _, k + 1, v, ⟨w, r, e, hv, hr⟩, h => by
    subst e
    simp at h
    obtain ⟨w2, h1, h2⟩ := zm_sr.get hr h
    exact ⟨w2, by simpa using h1, h2⟩
theorem zm_sr.set {φ : zmK → Option Nat} {v : zmV} {w : Value} (hv : zm_vr φ v w) : ∀ {st : List zmV} {rs : List Value} (k : Nat), zm_sr φ st rs → zm_sr φ (st.set k v) (rs.set k w)
  | [], _, k, q => by rw [show _ = [] from q]; exact rfl
  | v0 :: st, _, 0, ⟨w0, r, e, _, hr⟩ => by
    subst e
    exact ⟨w, r, rfl, hv, hr⟩
  | v0 :: st, _, k + 1, ⟨w0, r, e, h0, hr⟩ => by
    subst e
    exact ⟨w0, r.set k w, rfl, h0, zm_sr.set hv k hr⟩
theorem zm_sr.app {φ : zmK → Option Nat} : ∀ {s1 : List zmV} {r1 : List Value} {s2 : List zmV} {r2 : List Value}, zm_sr φ s1 r1 → zm_sr φ s2 r2 → zm_sr φ (s1 ++ s2) (r1 ++ r2)
  | [], _, _, _, h1, h2 => by rw [show _ = [] from h1]; exact h2
  | v :: s1, _, _, _, ⟨w, r, e, hv, hr⟩, h2 => by
    subst e
    exact ⟨w, r ++ _, rfl, hv, zm_sr.app hr h2⟩
theorem zm_sr.split {φ : zmK → Option Nat} : ∀ {s1 s2 : List zmV} {rs : List Value}, zm_sr φ (s1 ++ s2) rs → ∃ r1 r2, rs = r1 ++ r2 ∧ zm_sr φ s1 r1 ∧ zm_sr φ s2 r2
  | [], _, rs, h => ⟨[], rs, rfl, rfl, h⟩
  | v :: s1, s2, _, ⟨w, r, e, hv, hr⟩ => by
    obtain ⟨r1, r2, e2, h1, h2⟩ := zm_sr.split (s1 := s1) (s2 := s2) hr
    exact ⟨w :: r1, r2, by rw [e, e2]; rfl, ⟨w, r1, rfl, hv, h1⟩, h2⟩
theorem zm_sr.rev {φ : zmK → Option Nat} : ∀ {st : List zmV} {rs : List Value}, zm_sr φ st rs → zm_sr φ st.reverse rs.reverse
  | [], _, q => by rw [show _ = [] from q]; exact rfl
  | v :: st, _, ⟨w, r, e, hv, hr⟩ => by
    subst e
    rw [List.reverse_cons, List.reverse_cons]
    exact zm_sr.app (zm_sr.rev hr) ⟨w, [], rfl, hv, rfl⟩
def zm_qr (φ : zmK → Option Nat) (f : Nat → Option zmK) (g : Nat → Option Nat) : Prop := ∀ j, zm_vr φ (.inr (.inr (f j))) (va_rf (g j))
def zm_cr (φ : zmK → Option Nat) (tys : List (ClassId × FieldType)) (c : zmC) (e : va_E) : Prop := match c with
  | .inl (ty, n, .inl f) => ∃ cA, (cA, ty) ∈ tys ∧ e = .inl (cA, n, .inl f)
  | .inl (ty, n, .inr f) => ∃ cA g, (cA, ty) ∈ tys ∧ zm_qr φ f g ∧ e = .inl (cA, n, .inr (.inr (.inr (.inr g))))
  | .inr (ci, fs) => ∃ gs, zm_sr φ fs gs ∧ e = .inr (ci, gs)
theorem zm_cr.le {φ ψ : zmK → Option Nat} (h : zm_le φ ψ) {tys tys2 : List (ClassId × FieldType)} (ht : ∀ q ∈ tys, q ∈ tys2) {c : zmC} {e : va_E} (q : zm_cr φ tys c e) : zm_cr ψ tys2 c e := by
  rcases c with ⟨ty, n, f | f⟩ | ⟨ci, fs⟩
  · obtain ⟨cA, h1, h2⟩ := q
    exact ⟨cA, ht _ h1, h2⟩
  · obtain ⟨cA, g, h1, h2, h3⟩ := q
    exact ⟨cA, g, ht _ h1, fun j => (h2 j).le h, h3⟩
  · obtain ⟨gs, h1, h2⟩ := q
    exact ⟨gs, h1.le h, h2⟩
def zm_hr (φ : zmK → Option Nat) (tys : List (ClassId × FieldType)) (h : zmH) (ws : va_W) : Prop :=
  (∀ k c, zm_get h k = some c → 8 ≤ k.1 → ∃ (i a : Nat) (e : va_E), φ k = some a ∧ ws[i]? = some (a, e) ∧ zm_cr φ tys c e) ∧
  (∀ k a, φ k = some a → 8 ≤ k.1 → ∃ c, zm_get h k = some c) ∧
  (∀ k k2 a, φ k = some a → φ k2 = some a → 8 ≤ k.1 → 8 ≤ k2.1 → k = k2)
theorem zm_get_set (h : zmH) (k k2 : zmK) (c : zmC) : zm_get (zm_set h k c) k2 = if k2 = k then some c else zm_get h k2 := rfl
theorem zm_get_new (h : zmH) (s : Nat) (c : zmC) (sl : Nat) (k2 : zmK) : zm_get (zm_new h s c sl) k2 = if k2 = (s, h.2.1 s) then some c else zm_get h k2 := rfl
theorem zm_hr.set {φ : zmK → Option Nat} {tys : List (ClassId × FieldType)} {h : zmH} {ws : va_W} {A : Nat → Prop} (H : zm_hr φ tys h ws) (hD : va_D A ws) {k : zmK} {c c2 : zmC} {i a : Nat} {e e2 : va_E} (hk : 8 ≤ k.1) (hc : zm_get h k = some c) (hφ : φ k = some a) (hi : ws[i]? = some (a, e)) (hr : zm_cr φ tys c2 e2) : zm_hr φ tys (zm_set h k c2) (ws.set i (a, e2)) := by
  have hl := (List.getElem?_eq_some_iff.mp hi).1
  refine ⟨fun k1 c1 h1 h8 => ?_, fun k1 a1 h1 h8 => ?_, H.2.2⟩
  · rw [zm_get_set] at h1
    by_cases hkk : k1 = k
    · subst hkk
      rw [if_pos rfl] at h1
      cases h1
      exact ⟨i, a, e2, hφ, List.getElem?_set_self hl, hr⟩
    · rw [if_neg hkk] at h1
      obtain ⟨j, b, e3, g1, g2, g3⟩ := H.1 k1 c1 h1 h8
      have hji : j ≠ i := fun q => by
        subst q
        rw [hi] at g2
        have hab : a = b := congrArg Prod.fst (Option.some.inj g2)
        subst hab
        exact hkk (H.2.2 k1 k a g1 hφ h8 hk)
      exact ⟨j, b, e3, g1, by rw [List.getElem?_set_ne (Ne.symm hji)]; exact g2, g3⟩
  · rw [zm_get_set]
    by_cases hkk : k1 = k
    · rw [if_pos hkk]; exact ⟨c2, rfl⟩
    · rw [if_neg hkk]; exact H.2.1 k1 a1 h1 h8
def zm_ext (φ : zmK → Option Nat) (k : zmK) (a : Nat) : zmK → Option Nat := fun j => if j = k then some a else φ j
theorem zm_ext_le {φ : zmK → Option Nat} {k : zmK} {a : Nat} (h : φ k = none) : zm_le φ (zm_ext φ k a) := by
  intro j b hj
  unfold zm_ext
  by_cases q : j = k
  · subst q; rw [h] at hj; cases hj
  · rw [if_neg q]; exact hj
theorem zm_hr.non {φ : zmK → Option Nat} {tys : List (ClassId × FieldType)} {h : zmH} {ws : va_W} (H : zm_hr φ tys h ws) {k : zmK} (hk : 8 ≤ k.1) (hg : zm_get h k = none) : φ k = none := by
  cases hq : φ k with
  | none => rfl
  | some a =>
    obtain ⟨c, hc⟩ := H.2.1 k a hq hk
    rw [hg] at hc; cases hc
theorem zm_hr.new {φ : zmK → Option Nat} {tys tys2 : List (ClassId × FieldType)} {h : zmH} {ws : va_W} {A : Nat → Prop} (H : zm_hr φ tys h ws) {s : Nat} {c : zmC} {sl a : Nat} {e : va_E} (hD : va_D A (ws ++ [(a, e)])) (hs : 8 ≤ s) (hg : zm_get h (s, h.2.1 s) = none) (ht : ∀ q ∈ tys, q ∈ tys2) (hr : zm_cr (zm_ext φ (s, h.2.1 s) a) tys2 c e) :
    zm_hr (zm_ext φ (s, h.2.1 s) a) tys2 (zm_new h s c sl) (ws ++ [(a, e)]) := by
  have hn : φ (s, h.2.1 s) = none := H.non hs hg
  have hle : zm_le φ (zm_ext φ (s, h.2.1 s) a) := zm_ext_le hn
  have hlast : (ws ++ [(a, e)])[ws.length]? = some (a, e) := by simp
  have old : ∀ k b, φ k = some b → 8 ≤ k.1 → b ≠ a := by
    intro k b hb h8 hba
    obtain ⟨c1, hc1⟩ := H.2.1 k b hb h8
    obtain ⟨i, b2, e2, g1, g2, -⟩ := H.1 k c1 hc1 h8
    have hb2 : b = b2 := Option.some.inj (hb.symm.trans g1)
    subst hb2
    subst hba
    have hl := (List.getElem?_eq_some_iff.mp g2).1
    have g3 : (ws ++ [(b, e)])[i]? = some (b, e2) := by rw [List.getElem?_append_left hl]; exact g2
    have := hD.1 i ws.length (b, e2) (b, e) g3 hlast rfl
    omega
  refine ⟨fun k1 c1 h1 h8 => ?_, fun k1 a1 h1 h8 => ?_, fun k1 k2 a1 h1 h2 h8 h8' => ?_⟩
  · rw [zm_get_new] at h1
    by_cases hkk : k1 = (s, h.2.1 s)
    · rw [if_pos hkk] at h1
      cases h1
      exact ⟨ws.length, a, e, by rw [hkk]; simp [zm_ext], hlast, hr⟩
    · rw [if_neg hkk] at h1
      obtain ⟨j, b, e3, g1, g2, g3⟩ := H.1 k1 c1 h1 h8
      exact ⟨j, b, e3, hle _ _ g1, by rw [List.getElem?_append_left (List.getElem?_eq_some_iff.mp g2).1]; exact g2, g3.le hle ht⟩
  · rw [zm_get_new]
    by_cases hkk : k1 = (s, h.2.1 s)
    · rw [if_pos hkk]; exact ⟨c, rfl⟩
    · rw [if_neg hkk]
      simp only [zm_ext, if_neg hkk] at h1
      exact H.2.1 k1 a1 h1 h8
  · by_cases q1 : k1 = (s, h.2.1 s)
    · by_cases q2 : k2 = (s, h.2.1 s)
      · rw [q1, q2]
      · simp only [zm_ext, if_pos q1, if_neg q2] at h1 h2
        cases h1
        exact absurd rfl (old k2 _ h2 h8')
    · by_cases q2 : k2 = (s, h.2.1 s)
      · simp only [zm_ext, if_neg q1, if_pos q2] at h1 h2
        cases h2
        exact absurd rfl (old k1 _ h1 h8)
      · simp only [zm_ext, if_neg q1, if_neg q2] at h1 h2
        exact H.2.2 k1 k2 a1 h1 h2 h8 h8'
def zm_lr (φ : zmK → Option Nat) (lsl : List Nat) (L : zmL) (lv : List (Nat × Value)) : Prop :=
  (∀ i v, L[i]? = some (some v) → ∃ w, (i, w) ∈ lv ∧ zm_vr φ v w) ∧ ∀ q ∈ lv, q.2.category = 2 → q.1 ∈ lsl
theorem zm_lr.le {φ ψ : zmK → Option Nat} (h : zm_le φ ψ) {lsl : List Nat} {L : zmL} {lv : List (Nat × Value)} (q : zm_lr φ lsl L lv) : zm_lr ψ lsl L lv :=
  ⟨fun i v hv => by obtain ⟨w, h1, h2⟩ := q.1 i v hv; exact ⟨w, h1, h2.le h⟩, q.2⟩
theorem zm_lr.store {φ : zmK → Option Nat} {lsl : List Nat} {L : zmL} {lv : List (Nat × Value)} (q : zm_lr φ lsl L lv) {n : Nat} {v : zmV} {w : Value} (hv : zm_vr φ v w) (hw : w.category = 1) (hn : n < L.length) (h2 : zm_no2 lsl n = true) :
    zm_lr φ lsl (L.set n (some v)) ((n, w) :: lv.filter (fun q => !(q.1 == n) && !(q.1 + 1 == n && q.2.category == 2))) := by
  refine ⟨fun i u hu => ?_, fun x hx hc => ?_⟩
  · by_cases hi : i = n
    · subst hi
      rw [List.getElem?_set_self hn] at hu
      cases hu
      exact ⟨w, List.mem_cons_self, hv⟩
    · rw [List.getElem?_set_ne (Ne.symm hi)] at hu
      obtain ⟨w2, g1, g2⟩ := q.1 i u hu
      refine ⟨w2, List.mem_cons_of_mem _ (List.mem_filter.mpr ⟨g1, ?_⟩), g2⟩
      have a1 : (i == n) = false := by simp [hi]
      have a2 : (i + 1 == n && w2.category == 2) = false := by
        by_cases e1 : i + 1 = n
        · by_cases e2 : w2.category = 2
          · exfalso
            have := q.2 (i, w2) g1 e2
            subst e1
            simp [zm_no2] at h2
            exact h2 this
          · simp [e2]
        · simp [e1]
      show (!(i == n) && !(i + 1 == n && w2.category == 2)) = true
      rw [a1, a2]; rfl
  · rcases List.mem_cons.mp hx with rfl | hx
    · rw [show ((n, w) : Nat × Value).2 = w from rfl, hw] at hc
      cases hc
    · exact q.2 x (List.mem_filter.mp hx).1 hc
theorem zm_lr.storeL {φ : zmK → Option Nat} {lsl : List Nat} {L : zmL} {lv : List (Nat × Value)} (q : zm_lr φ lsl L lv) {n : Nat} {x : Int64} (hn : n + 1 < L.length) (h2 : zm_no2 lsl n = true) (hm : n ∈ lsl) :
    zm_lr φ lsl ((L.set n (some (.inr (.inl x)))).set (n + 1) none) ((n, .long x) :: lv.filter (fun q => !(q.1 == n) && (!(q.1 == n + 1) && !(q.1 + 1 == n && q.2.category == 2)))) := by
  refine ⟨fun i u hu => ?_, fun y hy hc => ?_⟩
  · by_cases hi1 : i = n + 1
    · subst hi1
      rw [List.getElem?_set_self (by rw [List.length_set]; exact hn)] at hu
      cases hu
    · rw [List.getElem?_set_ne (Ne.symm hi1)] at hu
      by_cases hi : i = n
      · subst hi
        rw [List.getElem?_set_self (by omega)] at hu
        cases hu
        exact ⟨.long x, List.mem_cons_self, rfl⟩
      · rw [List.getElem?_set_ne (Ne.symm hi)] at hu
        obtain ⟨w2, g1, g2⟩ := q.1 i u hu
        refine ⟨w2, List.mem_cons_of_mem _ (List.mem_filter.mpr ⟨g1, ?_⟩), g2⟩
        have a1 : (i == n) = false := by simp [hi]
        have a3 : (i == n + 1) = false := by simp [hi1]
        have a2 : (i + 1 == n && w2.category == 2) = false := by
          by_cases e1 : i + 1 = n
          · by_cases e2 : w2.category = 2
            · exfalso
              have := q.2 (i, w2) g1 e2
              subst e1
              simp [zm_no2] at h2
              exact h2 this
            · simp [e2]
          · simp [e1]
        show (!(i == n) && (!(i == n + 1) && !(i + 1 == n && w2.category == 2))) = true
        rw [a1, a2, a3]; rfl
  · rcases List.mem_cons.mp hy with rfl | hy
    · exact hm
    · exact q.2 y (List.mem_filter.mp hy).1 hc
theorem zm_ii_inv {f : Int32 → Int32 → Int32} {st st2 : List zmV} (h : zm_ii f st = some st2) : ∃ x y r, st = .inl y :: .inl x :: r ∧ st2 = .inl (f x y) :: r := by
  unfold zm_ii at h
  split at h
  · cases h; exact ⟨_, _, _, rfl, rfl⟩
  · cases h
theorem zm_i1_inv {f : Int32 → zmV} {st st2 : List zmV} (h : zm_i1 f st = some st2) : ∃ x r, st = .inl x :: r ∧ st2 = f x :: r := by
  unfold zm_i1 at h
  split at h
  · cases h; exact ⟨_, _, rfl, rfl⟩
  · cases h
theorem zm_l1_inv {f : Int64 → zmV} {st st2 : List zmV} (h : zm_l1 f st = some st2) : ∃ x r, st = .inr (.inl x) :: r ∧ st2 = f x :: r := by
  unfold zm_l1 at h
  split at h
  · cases h; exact ⟨_, _, rfl, rfl⟩
  · cases h
theorem zm_ll_inv {f : Int64 → Int64 → zmV} {st st2 : List zmV} (h : zm_ll f st = some st2) : ∃ x y r, st = .inr (.inl y) :: .inr (.inl x) :: r ∧ st2 = f x y :: r := by
  unfold zm_ll at h
  split at h
  · cases h; exact ⟨_, _, _, rfl, rfl⟩
  · cases h
theorem zm_li_inv {f : Int64 → Int32 → Int64} {st st2 : List zmV} (h : zm_li f st = some st2) : ∃ x y r, st = .inl y :: .inr (.inl x) :: r ∧ st2 = .inr (.inl (f x y)) :: r := by
  unfold zm_li at h
  split at h
  · cases h; exact ⟨_, _, _, rfl, rfl⟩
  · cases h
theorem zm_vr_ref {φ : zmK → Option Nat} {q : Option zmK} {w : Value} (h : zm_vr φ (.inr (.inr q)) w) : w = .null ∨ ∃ a, w = .ref a := by
  cases q with
  | none => exact Or.inl h
  | some k =>
    rcases h with ⟨-, h⟩ | ⟨a, -, h⟩
    · exact h
    · exact Or.inr ⟨a, h⟩
theorem zm_vr_n7 {φ : zmK → Option Nat} {k : zmK} {w : Value} (h : zm_vr φ (.inr (.inr (some k))) w) (h7 : k.1 ≠ 7) : ∃ a, φ k = some a ∧ w = .ref a := by
  rcases h with ⟨e, -⟩ | h
  · exact absurd e h7
  · exact h
theorem zm_vr_null {φ : zmK → Option Nat} {q : Option zmK} {w : Value} (h : zm_vr φ (.inr (.inr q)) w) (h7 : zm_n7 q = true) : (w = .null ∧ q = none) ∨ ∃ k a, q = some k ∧ w = .ref a := by
  cases q with
  | none => exact Or.inl ⟨h, rfl⟩
  | some k =>
    obtain ⟨a, -, h2⟩ := zm_vr_n7 h (by simpa [zm_n7] using h7)
    exact Or.inr ⟨k, a, rfl, h2⟩
theorem zm_vr_cat {φ : zmK → Option Nat} {v : zmV} {w : Value} (h : zm_vr φ v w) : w.category = if zm_kd v = 1 then 2 else 1 := by
  rcases v with x | x | q
  · rw [show w = .int x from h]; rfl
  · rw [show w = .long x from h]; rfl
  · rcases zm_vr_ref h with rfl | ⟨a, rfl⟩ <;> rfl
theorem zm_dup_inv {st st2 : List zmV} (h : zm_dup st = some st2) : ∃ v r, st = v :: r ∧ st2 = v :: v :: r ∧ zm_kd v ≠ 1 := by
  unfold zm_dup at h
  split at h
  · cases h; exact ⟨_, _, rfl, rfl, by simp [zm_kd]⟩
  · cases h; exact ⟨_, _, rfl, rfl, by simp [zm_kd]⟩
  · cases h
theorem zm_pop_inv {st st2 : List zmV} (h : zm_pop st = some st2) : ∃ v, st = v :: st2 ∧ zm_kd v ≠ 1 := by
  unfold zm_pop at h
  split at h
  · cases h; exact ⟨_, rfl, by simp [zm_kd]⟩
  · cases h; exact ⟨_, rfl, by simp [zm_kd]⟩
  · cases h
section ZMA
variable {p : Program} {l : Launch} {e : Env} {R : Room} {s : State} {m : MethodId} {args : Array Value} {below : List Frame} {meth : Method} {c : Code} {H : Heap} {locs : List Loc} {cells slots : Nat} {Q : State → Prop}
variable {cc : ByteArray} {pc : Nat} {ls : Array Slot} {rs : List Value} {φ : zmK → Option Nat} {st st2 : List zmV}
theorem zm_two {x y : zmV} {r : List zmV} (h : zm_sr φ (y :: x :: r) rs) : ∃ wy wx rr, rs = wy :: wx :: rr ∧ zm_vr φ y wy ∧ zm_vr φ x wx ∧ zm_sr φ r rr := by
  obtain ⟨w1, r1, rfl, h1, w2, r2, rfl, h2, h3⟩ := h
  exact ⟨w1, w2, r2, rfl, h1, h2, h3⟩
set_option maxHeartbeats 4000000 in
theorem zm_alu_ok {i : Instr} (hx : p.tables.exec = Jvm.exec) (hb : c.code = cc) (hdg : decode cc pc = .ok (i, 1)) (hq : zm_alu i st = some st2) (hsr : zm_sr φ st rs)
    (k : ∀ rs2, zm_sr φ st2 rs2 → W p l e R s m args below meth c H locs cells slots Q (F0 m (pc + 1) ls rs2)) : W p l e R s m args below meth c H locs cells slots Q (F0 m pc ls rs) := by
  cases i with
  | iadd =>
    obtain ⟨x, y, r, rfl, rfl⟩ := zm_ii_inv hq
    obtain ⟨_, _, rr, rfl, rfl, rfl, h3⟩ := zm_two hsr
    exact lv_iadd hx hb hdg (k _ ⟨_, _, rfl, rfl, h3⟩)
  | isub =>
    obtain ⟨x, y, r, rfl, rfl⟩ := zm_ii_inv hq
    obtain ⟨_, _, rr, rfl, rfl, rfl, h3⟩ := zm_two hsr
    exact lv_isub hx hb hdg (k _ ⟨_, _, rfl, rfl, h3⟩)
  | imul =>
    obtain ⟨x, y, r, rfl, rfl⟩ := zm_ii_inv hq
    obtain ⟨_, _, rr, rfl, rfl, rfl, h3⟩ := zm_two hsr
    exact lv_imul hx hb hdg (k _ ⟨_, _, rfl, rfl, h3⟩)
  | iand =>
    obtain ⟨x, y, r, rfl, rfl⟩ := zm_ii_inv hq
    obtain ⟨_, _, rr, rfl, rfl, rfl, h3⟩ := zm_two hsr
    exact lv_iand hx hb hdg (k _ ⟨_, _, rfl, rfl, h3⟩)
  | ior =>
    obtain ⟨x, y, r, rfl, rfl⟩ := zm_ii_inv hq
    obtain ⟨_, _, rr, rfl, rfl, rfl, h3⟩ := zm_two hsr
    exact lv_ior hx hb hdg (k _ ⟨_, _, rfl, rfl, h3⟩)
  | ixor =>
    obtain ⟨x, y, r, rfl, rfl⟩ := zm_ii_inv hq
    obtain ⟨_, _, rr, rfl, rfl, rfl, h3⟩ := zm_two hsr
    exact lv_ixor hx hb hdg (k _ ⟨_, _, rfl, rfl, h3⟩)
  | ishl =>
    obtain ⟨x, y, r, rfl, rfl⟩ := zm_ii_inv hq
    obtain ⟨_, _, rr, rfl, rfl, rfl, h3⟩ := zm_two hsr
    exact lv_ishl hx hb hdg (k _ ⟨_, _, rfl, rfl, h3⟩)
  | ishr =>
    obtain ⟨x, y, r, rfl, rfl⟩ := zm_ii_inv hq
    obtain ⟨_, _, rr, rfl, rfl, rfl, h3⟩ := zm_two hsr
    exact lv_ishr hx hb hdg (k _ ⟨_, _, rfl, rfl, h3⟩)
  | iushr =>
    obtain ⟨x, y, r, rfl, rfl⟩ := zm_ii_inv hq
    obtain ⟨_, _, rr, rfl, rfl, rfl, h3⟩ := zm_two hsr
    exact lv_iushr hx hb hdg rfl (k _ ⟨_, _, rfl, rfl, h3⟩)
  | ineg =>
    obtain ⟨x, r, rfl, rfl⟩ := zm_i1_inv hq
    obtain ⟨_, rr, rfl, rfl, h3⟩ := hsr
    exact lv_ineg hx hb hdg (k _ ⟨_, _, rfl, rfl, h3⟩)
  | i2l =>
    obtain ⟨x, r, rfl, rfl⟩ := zm_i1_inv hq
    obtain ⟨_, rr, rfl, rfl, h3⟩ := hsr
    exact lv_i2l hx hb hdg rfl (k _ ⟨_, _, rfl, rfl, h3⟩)
  | i2c =>
    obtain ⟨x, r, rfl, rfl⟩ := zm_i1_inv hq
    obtain ⟨_, rr, rfl, rfl, h3⟩ := hsr
    exact lv_i2c hx hb hdg rfl (k _ ⟨_, _, rfl, rfl, h3⟩)
  | i2b =>
    obtain ⟨x, r, rfl, rfl⟩ := zm_i1_inv hq
    obtain ⟨_, rr, rfl, rfl, h3⟩ := hsr
    exact lv_i2b hx hb hdg rfl (k _ ⟨_, _, rfl, rfl, h3⟩)
  | l2i =>
    obtain ⟨x, r, rfl, rfl⟩ := zm_l1_inv hq
    obtain ⟨_, rr, rfl, rfl, h3⟩ := hsr
    exact lv_l2i hx hb hdg rfl (k _ ⟨_, _, rfl, rfl, h3⟩)
  | ladd =>
    obtain ⟨x, y, r, rfl, rfl⟩ := zm_ll_inv hq
    obtain ⟨_, _, rr, rfl, rfl, rfl, h3⟩ := zm_two hsr
    exact lv_ladd hx hb hdg (k _ ⟨_, _, rfl, rfl, h3⟩)
  | lmul =>
    obtain ⟨x, y, r, rfl, rfl⟩ := zm_ll_inv hq
    obtain ⟨_, _, rr, rfl, rfl, rfl, h3⟩ := zm_two hsr
    exact lv_lmul hx hb hdg (k _ ⟨_, _, rfl, rfl, h3⟩)
  | land =>
    obtain ⟨x, y, r, rfl, rfl⟩ := zm_ll_inv hq
    obtain ⟨_, _, rr, rfl, rfl, rfl, h3⟩ := zm_two hsr
    exact lv_land hx hb hdg (k _ ⟨_, _, rfl, rfl, h3⟩)
  | lor =>
    obtain ⟨x, y, r, rfl, rfl⟩ := zm_ll_inv hq
    obtain ⟨_, _, rr, rfl, rfl, rfl, h3⟩ := zm_two hsr
    exact lv_lor hx hb hdg (k _ ⟨_, _, rfl, rfl, h3⟩)
  | lcmp =>
    obtain ⟨x, y, r, rfl, rfl⟩ := zm_ll_inv hq
    obtain ⟨_, _, rr, rfl, rfl, rfl, h3⟩ := zm_two hsr
    exact W.lcmp hx hb hdg (k _ ⟨_, _, rfl, rfl, h3⟩)
  | lshl =>
    obtain ⟨x, y, r, rfl, rfl⟩ := zm_li_inv hq
    obtain ⟨_, _, rr, rfl, rfl, rfl, h3⟩ := zm_two hsr
    exact lv_lshl hx hb hdg rfl (k _ ⟨_, _, rfl, rfl, h3⟩)
  | lushr =>
    obtain ⟨x, y, r, rfl, rfl⟩ := zm_li_inv hq
    obtain ⟨_, _, rr, rfl, rfl, rfl, h3⟩ := zm_two hsr
    exact lv_lushr hx hb hdg rfl (k _ ⟨_, _, rfl, rfl, h3⟩)
  | aconst_null =>
    cases hq
    exact lv_null hx hb hdg (k _ ⟨_, _, rfl, rfl, hsr⟩)
  | iconst n =>
    cases hq
    exact lv_iconst hx hb hdg rfl (k _ ⟨_, _, rfl, rfl, hsr⟩)
  | lconst n =>
    cases hq
    exact lv_lconst hx hb hdg rfl (k _ ⟨_, _, rfl, rfl, hsr⟩)
  | dup =>
    obtain ⟨v, r, rfl, rfl, hv⟩ := zm_dup_inv hq
    obtain ⟨w, rr, rfl, h1, h3⟩ := hsr
    exact lv_dup hx hb hdg (by rw [zm_vr_cat h1, if_neg hv]) (k _ ⟨_, _, rfl, h1, _, _, rfl, h1, h3⟩)
  | pop =>
    obtain ⟨v, rfl, hv⟩ := zm_pop_inv hq
    obtain ⟨w, rr, rfl, h1, h3⟩ := hsr
    exact lv_pop hx hb hdg (by rw [zm_vr_cat h1, if_neg hv]) (k _ h3)
  | _ => cases hq
theorem zm_ld_inv {L : zmL} {n kd : Nat} {v : zmV} (h : zm_ld L n kd = some v) : L[n]? = some (some v) ∧ zm_kd v = kd := by
  unfold zm_ld at h
  split at h
  · next u hu =>
    split at h
    · next hk => cases h; exact ⟨hu, hk⟩
    · cases h
  · cases h
theorem zm_kd0 {v : zmV} (h : zm_kd v = 0) : ∃ x, v = .inl x := by
  rcases v with x | x | x
  · exact ⟨x, rfl⟩
  · cases h
  · cases h
theorem zm_kd1 {v : zmV} (h : zm_kd v = 1) : ∃ x, v = .inr (.inl x) := by
  rcases v with x | x | x
  · cases h
  · exact ⟨x, rfl⟩
  · cases h
theorem zm_kd2 {v : zmV} (h : zm_kd v = 2) : ∃ x, v = .inr (.inr x) := by
  rcases v with x | x | x
  · cases h
  · cases h
  · exact ⟨x, rfl⟩
theorem zm_lr.at {lsl : List Nat} {L : zmL} {lv : List (Nat × Value)} {nL n : Nat} {v : zmV} (hl : lv_has ls nL lv) (hr : zm_lr φ lsl L lv) (h : L[n]? = some (some v)) : ∃ w, ls[n]? = some (.val w) ∧ zm_vr φ v w := by
  obtain ⟨w, h1, h2⟩ := hr.1 n v h
  exact ⟨w, hl.2.2 (n, w) h1, h2⟩
theorem zm_sto_inv {lsl : List Nat} {L : zmL} {n kd : Nat} {q : zmL × List zmV} (h : zm_sto lsl L n kd st = some q) : ∃ v, st = v :: q.2 ∧ zm_kd v = kd ∧ n < L.length ∧ zm_no2 lsl n = true ∧ q.1 = L.set n (some v) := by
  unfold zm_sto at h
  split at h
  · split at h
    · next hk => cases h; exact ⟨_, rfl, hk.1, hk.2.1, hk.2.2, rfl⟩
    · cases h
  · cases h
theorem zm_stoL_inv {lsl : List Nat} {L : zmL} {n : Nat} {q : zmL × List zmV} (h : zm_stoL lsl L n st = some q) : ∃ x, st = .inr (.inl x) :: q.2 ∧ n + 1 < L.length ∧ zm_no2 lsl n = true ∧ n ∈ lsl ∧ q.1 = (L.set n (some (.inr (.inl x)))).set (n + 1) none := by
  unfold zm_stoL at h
  split at h
  · split at h
    · next hk => cases h; exact ⟨_, rfl, hk.1, hk.2.1, by simpa using hk.2.2, rfl⟩
    · cases h
  · cases h
theorem zm_tgt_inv {off : Int} {t : Nat} (h : zm_tgt pc off = some t) : (pc : Int) + off = (t : Int) := by
  unfold zm_tgt at h
  split at h
  · next t2 he => cases h; exact he
  · cases h
end ZMA
end
