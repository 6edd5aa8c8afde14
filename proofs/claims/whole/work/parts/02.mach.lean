abbrev zmK : Type := Nat × Nat
abbrev zmV : Type := Int32 ⊕ (Int64 ⊕ Option zmK)
abbrev zmA : Type := Nat × ((Nat → Int32) ⊕ (Nat → Option zmK))
abbrev zmC : Type := (FieldType × zmA) ⊕ (Nat × List zmV)
abbrev zmH : Type := (Nat × Nat) × (Nat → Nat) × (zmK → Option zmC)
abbrev zmL : Type := List (Option zmV)
abbrev zmO : Type := Option zmV × zmH
def zm_get (h : zmH) (k : zmK) : Option zmC := h.2.2 k
def zm_set (h : zmH) (k : zmK) (c : zmC) : zmH := (h.1, h.2.1, fun k' => if k' = k then some c else h.2.2 k')
def zm_new (h : zmH) (s : Nat) (c : zmC) (sl : Nat) : zmH := ((h.1.1 + 1, h.1.2 + sl), (fun s' => if s' = s then h.2.1 s + 1 else h.2.1 s'), fun k' => if k' = (s, h.2.1 s) then some c else h.2.2 k')
def zm_kd (v : zmV) : Nat := match v with
  | .inl _ => 0
  | .inr (.inl _) => 1
  | .inr (.inr _) => 2
def zm_fit (ty : FieldType) (v : zmV) : Bool := match ty, v with
  | .int, .inl _ => true
  | .boolean, .inl x => x == 0 || x == 1
  | .char, .inl x => decide (0 ≤ x) && decide (x ≤ 65535)
  | .byte, .inl x => x.toInt8.toInt32 == x
  | .object _, .inr (.inr _) => true
  | .array _, .inr (.inr _) => true
  | _, _ => false
def zm_dflt (ty : FieldType) : zmV := match ty with
  | .object _ => .inr (.inr none)
  | .array _ => .inr (.inr none)
  | .long => .inr (.inl 0)
  | _ => .inl 0
def zm_isF (h : zmH) (r : zmK) (ci k : Nat) : Bool := match zm_get h r with
  | some (.inr (c, fs)) => c == ci && decide (k < fs.length)
  | _ => false
def zm_getF (h : zmH) (r : zmK) (k : Nat) : zmV := match zm_get h r with
  | some (.inr (_, fs)) => fs.getD k (.inl 0)
  | _ => .inl 0
def zm_putF (h : zmH) (r : zmK) (k : Nat) (v : zmV) : zmH := match zm_get h r with
  | some (.inr (c, fs)) => zm_set h r (.inr (c, fs.set k v))
  | _ => h
def zm_inI (h : zmH) (r : zmK) (ty : FieldType) (i : Int32) : Bool := match zm_get h r with
  | some (.inl (t, n, .inl _)) => decide (t = ty) && decide (¬ (i < 0 ∨ n ≤ i.toNatClampNeg)) && decide (n < 2147483648)
  | _ => false
def zm_ldI (h : zmH) (r : zmK) (i : Int32) : Int32 := match zm_get h r with
  | some (.inl (_, _, .inl f)) => f i.toNatClampNeg
  | _ => 0
def zm_stI (h : zmH) (r : zmK) (i x : Int32) : zmH := match zm_get h r with
  | some (.inl (t, n, .inl f)) => zm_set h r (.inl (t, n, .inl (upd f i.toNatClampNeg x)))
  | _ => h
def zm_inQ (h : zmH) (r : zmK) (i : Int32) : Bool := match zm_get h r with
  | some (.inl (.object _, n, .inr _)) => decide (¬ (i < 0 ∨ n ≤ i.toNatClampNeg)) && decide (n < 2147483648)
  | _ => false
def zm_ldQ (h : zmH) (r : zmK) (i : Int32) : Option zmK := match zm_get h r with
  | some (.inl (_, _, .inr f)) => f i.toNatClampNeg
  | _ => none
def zm_stQ (h : zmH) (r : zmK) (i : Int32) (x : zmK) : zmH := match zm_get h r with
  | some (.inl (t, n, .inr f)) => zm_set h r (.inl (t, n, .inr (va_up f i.toNatClampNeg (some x))))
  | _ => h
def zm_isA (h : zmH) (r : zmK) : Bool := match zm_get h r with
  | some (.inl _) => true
  | _ => false
def zm_len (h : zmH) (r : zmK) : Int32 := match zm_get h r with
  | some (.inl (_, n, _)) => Int32.ofNat n
  | _ => 0
def zm_okQ (cn : Nat → String) (h : zmH) (r x : zmK) : Bool := match zm_get h r, zm_get h x with
  | some (.inl (.object C, _, .inr _)), some (.inr (c, _)) => decide (cn c = C)
  | _, _ => false
def zm_ii (f : Int32 → Int32 → Int32) (st : List zmV) : Option (List zmV) := match st with
  | .inl y :: .inl x :: r => some (.inl (f x y) :: r)
  | _ => none
def zm_i1 (f : Int32 → zmV) (st : List zmV) : Option (List zmV) := match st with
  | .inl x :: r => some (f x :: r)
  | _ => none
def zm_l1 (f : Int64 → zmV) (st : List zmV) : Option (List zmV) := match st with
  | .inr (.inl x) :: r => some (f x :: r)
  | _ => none
def zm_ll (f : Int64 → Int64 → zmV) (st : List zmV) : Option (List zmV) := match st with
  | .inr (.inl y) :: .inr (.inl x) :: r => some (f x y :: r)
  | _ => none
def zm_li (f : Int64 → Int32 → Int64) (st : List zmV) : Option (List zmV) := match st with
  | .inl y :: .inr (.inl x) :: r => some (.inr (.inl (f x y)) :: r)
  | _ => none
def zm_one (v : zmV) : Bool := match v with
  | .inr (.inl _) => false
  | _ => true
def zm_dup (st : List zmV) : Option (List zmV) := match st with
  | .inl x :: r => some (.inl x :: .inl x :: r)
  | .inr (.inr x) :: r => some (.inr (.inr x) :: .inr (.inr x) :: r)
  | _ => none
def zm_pop (st : List zmV) : Option (List zmV) := match st with
  | .inl _ :: r => some r
  | .inr (.inr _) :: r => some r
  | _ => none
def zm_alu (i : Instr) (st : List zmV) : Option (List zmV) := match i with
  | .iadd => zm_ii (fun x y => x + y) st
  | .isub => zm_ii (fun x y => x - y) st
  | .imul => zm_ii (fun x y => x * y) st
  | .iand => zm_ii (fun x y => x &&& y) st
  | .ior => zm_ii (fun x y => x ||| y) st
  | .ixor => zm_ii (fun x y => x ^^^ y) st
  | .ishl => zm_ii (fun x y => x <<< (y &&& 31)) st
  | .ishr => zm_ii (fun x y => x >>> (y &&& 31)) st
  | .iushr => zm_ii (fun x y => (x.toUInt32 >>> (y.toUInt32 &&& Int32.toUInt32 31)).toInt32) st
  | .ineg => zm_i1 (fun x => .inl (-x)) st
  | .i2l => zm_i1 (fun x => .inr (.inl x.toInt64)) st
  | .i2c => zm_i1 (fun x => .inl (x.toUInt32 % 65536).toInt32) st
  | .i2b => zm_i1 (fun x => .inl x.toInt8.toInt32) st
  | .l2i => zm_l1 (fun x => .inl x.toInt32) st
  | .ladd => zm_ll (fun x y => .inr (.inl (x + y))) st
  | .lmul => zm_ll (fun x y => .inr (.inl (x * y))) st
  | .land => zm_ll (fun x y => .inr (.inl (x &&& y))) st
  | .lor => zm_ll (fun x y => .inr (.inl (x ||| y))) st
  | .lcmp => zm_ll (fun x y => .inl (lg_cmp x y)) st
  | .lshl => zm_li (fun x y => x <<< (y.toInt64 &&& 63)) st
  | .lushr => zm_li (fun x y => (x.toUInt64 >>> (y.toInt64.toUInt64 &&& Int64.toUInt64 63)).toInt64) st
  | .aconst_null => some (.inr (.inr none) :: st)
  | .iconst n => some (.inl (Int32.ofInt n) :: st)
  | .lconst n => some (.inr (.inl (Int64.ofNat n)) :: st)
  | .dup => zm_dup st
  | .pop => zm_pop st
  | _ => none
def zm_ld (L : zmL) (n kd : Nat) : Option zmV := match L[n]? with
  | some (some v) => if zm_kd v = kd then some v else none
  | _ => none
def zm_no2 (ls : List Nat) (n : Nat) : Bool := match n with
  | 0 => true
  | k + 1 => !ls.contains k
def zm_sto (ls : List Nat) (L : zmL) (n kd : Nat) (st : List zmV) : Option (zmL × List zmV) := match st with
  | v :: r => if zm_kd v = kd ∧ n < L.length ∧ zm_no2 ls n = true then some (L.set n (some v), r) else none
  | _ => none
def zm_stoL (ls : List Nat) (L : zmL) (n : Nat) (st : List zmV) : Option (zmL × List zmV) := match st with
  | .inr (.inl x) :: r => if n + 1 < L.length ∧ zm_no2 ls n = true ∧ ls.contains n = true then some ((L.set n (some (.inr (.inl x)))).set (n + 1) none, r) else none
  | _ => none
def zm_inc (ls : List Nat) (L : zmL) (n : Nat) (d : Int) : Option zmL := match L[n]? with
  | some (some (.inl x)) => if zm_no2 ls n = true then some (L.set n (some (.inl (x + Int32.ofInt d)))) else none
  | _ => none
def zm_tgt (pc : Nat) (off : Int) : Option Nat := match (pc : Int) + off with
  | .ofNat t => some t
  | _ => none
def zm_cmp (c : ClassFile.Cond) (x y : Int32) : Bool := match c with
  | .eq => decide (x = y)
  | .ne => decide (¬ x = y)
  | .lt => decide (x < y)
  | .ge => decide (y ≤ x)
  | .gt => decide (y < x)
  | .le => decide (x ≤ y)
def zm_isO (h : zmH) (r : zmK) (ci : Nat) : Bool := match zm_get h r with
  | some (.inr (c, _)) => c == ci
  | _ => false
def zm_nn (as : List zmV) : Bool := match as with
  | .inr (.inr (some r)) :: _ => decide (8 ≤ r.1)
  | _ => false
def zm_n7 (q : Option zmK) : Bool := match q with
  | some k => decide (k.1 ≠ 7)
  | none => true
def zm_tyOk (ty : FieldType) : Bool := match ty with
  | .float => false
  | .double => false
  | _ => true
def zm_il (i : Instr) : Option Nat := match i with
  | .iload _ => some 2
  | .lload _ => some 2
  | .aload _ => some 2
  | .istore _ => some 2
  | .astore _ => some 2
  | .lstore _ => some 2
  | .iinc _ _ => some 3
  | .bipush _ => some 2
  | .sipush _ => some 3
  | .ldc _ => some 2
  | .ldc2_w _ => some 3
  | .goto _ => some 3
  | .ifCond _ _ => some 3
  | .if_icmp _ _ => some 3
  | .ifnull _ => some 3
  | .ifnonnull _ => some 3
  | .tableswitch _ _ _ _ => none
  | .getfield _ => some 3
  | .putfield _ => some 3
  | .getstatic _ => some 3
  | .new _ => some 3
  | .newarray _ => some 2
  | .anewarray _ => some 3
  | .invokespecial _ => some 3
  | .invokevirtual _ => some 3
  | .invokestatic _ => some 3
  | _ => some 1
def zm_lk (i : Instr) (len : Nat) : Bool := match zm_il i with
  | some k => k == len
  | none => true
def zm_row (b : ByteArray) (q : Nat × Instr) : Bool := match decode b q.1 with
  | .ok (i, len) => decide (i = q.2) && zm_lk i len
  | .error _ => false
theorem zm_row_ok {b : ByteArray} {q : Nat × Instr} (h : zm_row b q = true) : ∃ len, decode b q.1 = .ok (q.2, len) ∧ zm_lk q.2 len = true := by
  unfold zm_row at h
  split at h
  · next i len hd =>
    rw [Bool.and_eq_true] at h
    have h1 : i = q.2 := by simpa using h.1
    subst h1
    exact ⟨len, hd, h.2⟩
  · cases h
