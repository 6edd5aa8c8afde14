def zm_tab (pc : Nat) (d lo hi : Int) (offs : Array Int) (x : Int32) : Option Nat :=
  if x.toInt < lo ∨ hi < x.toInt then zm_tgt pc d else match offs[(x.toInt - lo).toNat]? with
  | some off => zm_tgt pc off
  | none => none
def zm_small (n : Int32) : Bool := decide (¬ n < 0) && decide (n.toNatClampNeg ≤ 1000)
def zm_free (h : zmH) (s : Nat) : Bool := decide (8 ≤ s) && (zm_get h (s, h.2.1 s)).isNone
def zm_step (mi pc : Nat) (i : Instr) (L : zmL) (st : List zmV) (h : zmH) : Option (Nat × zmL × List zmV × zmH) := match i with
  | .iload n => (zm_ld L n 0).map fun v => (pc + 2, L, v :: st, h)
  | .iload_n n => (zm_ld L n 0).map fun v => (pc + 1, L, v :: st, h)
  | .lload n => (zm_ld L n 1).map fun v => (pc + 2, L, v :: st, h)
  | .lload_n n => (zm_ld L n 1).map fun v => (pc + 1, L, v :: st, h)
  | .aload n => (zm_ld L n 2).map fun v => (pc + 2, L, v :: st, h)
  | .aload_n n => (zm_ld L n 2).map fun v => (pc + 1, L, v :: st, h)
  | .istore n => (zm_sto (zt_lslot mi) L n 0 st).map fun q => (pc + 2, q.1, q.2, h)
  | .istore_n n => (zm_sto (zt_lslot mi) L n 0 st).map fun q => (pc + 1, q.1, q.2, h)
  | .astore n => (zm_sto (zt_lslot mi) L n 2 st).map fun q => (pc + 2, q.1, q.2, h)
  | .astore_n n => (zm_sto (zt_lslot mi) L n 2 st).map fun q => (pc + 1, q.1, q.2, h)
  | .lstore n => (zm_stoL (zt_lslot mi) L n st).map fun q => (pc + 2, q.1, q.2, h)
  | .lstore_n n => (zm_stoL (zt_lslot mi) L n st).map fun q => (pc + 1, q.1, q.2, h)
  | .iinc n d => (zm_inc (zt_lslot mi) L n d).map fun q => (pc + 3, q, st, h)
  | .bipush n => some (pc + 2, L, .inl (Int8.ofInt n).toInt32 :: st, h)
  | .sipush n => some (pc + 3, L, .inl (Int16.ofInt n).toInt32 :: st, h)
  | .ldc k => (zt_ldc (zt_own mi) k).map fun v => (pc + 2, L, v :: st, h)
  | .ldc2_w k => (zt_ldc2 (zt_own mi) k).map fun v => (pc + 3, L, .inr (.inl v) :: st, h)
  | .goto off => (zm_tgt pc off).map fun t => (t, L, st, h)
  | .ifCond c off => match st with
    | .inl x :: r => (zm_tgt pc off).map fun t => (if zm_cmp c x 0 = true then t else pc + 3, L, r, h)
    | _ => none
  | .if_icmp c off => match st with
    | .inl y :: .inl x :: r => (zm_tgt pc off).map fun t => (if zm_cmp c x y = true then t else pc + 3, L, r, h)
    | _ => none
  | .ifnull off => match st with
    | .inr (.inr q) :: r => if zm_n7 q = true then (zm_tgt pc off).map fun t => (if q = none then t else pc + 3, L, r, h) else none
    | _ => none
  | .ifnonnull off => match st with
    | .inr (.inr q) :: r => if zm_n7 q = true then (zm_tgt pc off).map fun t => (if q = none then pc + 3 else t, L, r, h) else none
    | _ => none
  | .tableswitch d lo hi offs => match st with
    | .inl x :: r => (zm_tab pc d lo hi offs x).map fun t => (t, L, r, h)
    | _ => none
  | .getfield k => match st with
    | .inr (.inr (some r)) :: rest => match zt_fld (zt_own mi) k with
      | some q => if zm_isF h r q.1 q.2.1 = true then some (pc + 3, L, zm_getF h r q.2.1 :: rest, h) else none
      | none => none
    | _ => none
  | .putfield k => match st with
    | v :: .inr (.inr (some r)) :: rest => match zt_fld (zt_own mi) k with
      | some q => if zm_isF h r q.1 q.2.1 = true ∧ zm_fit q.2.2.1 v = true ∧ 8 ≤ r.1 ∧ (q.2.2.2 = false ∨ (zt_init mi = true ∧ zt_cn q.1 = zt_cls (zt_own mi))) then some (pc + 3, L, rest, zm_putF h r q.2.1 v) else none
      | none => none
    | _ => none
  | .getstatic k => (zt_stat (zt_own mi) k).map fun v => (pc + 3, L, v :: st, h)
  | .iaload => match st with
    | .inl i :: .inr (.inr (some r)) :: rest => if zm_inI h r .int i = true then some (pc + 1, L, .inl (zm_ldI h r i) :: rest, h) else none
    | _ => none
  | .caload => match st with
    | .inl i :: .inr (.inr (some r)) :: rest => if zm_inI h r .char i = true ∧ 8 ≤ r.1 then some (pc + 1, L, .inl (zm_ldI h r i) :: rest, h) else none
    | _ => none
  | .baload => match st with
    | .inl i :: .inr (.inr (some r)) :: rest => if (zm_inI h r .byte i = true ∧ r.1 < 8) ∨ (zm_inI h r .boolean i = true ∧ 8 ≤ r.1) then some (pc + 1, L, .inl (zm_ldI h r i) :: rest, h) else none
    | _ => none
  | .aaload => match st with
    | .inl i :: .inr (.inr (some r)) :: rest => if zm_inQ h r i = true ∧ 8 ≤ r.1 then some (pc + 1, L, .inr (.inr (zm_ldQ h r i)) :: rest, h) else none
    | _ => none
  | .iastore => match st with
    | .inl x :: .inl i :: .inr (.inr (some r)) :: rest => if zm_inI h r .int i = true ∧ 8 ≤ r.1 then some (pc + 1, L, rest, zm_stI h r i x) else none
    | _ => none
  | .castore => match st with
    | .inl x :: .inl i :: .inr (.inr (some r)) :: rest => if zm_inI h r .char i = true ∧ 8 ≤ r.1 then some (pc + 1, L, rest, zm_stI h r i (vp_nar .char x)) else none
    | _ => none
  | .bastore => match st with
    | .inl x :: .inl i :: .inr (.inr (some r)) :: rest => if zm_inI h r .boolean i = true ∧ 8 ≤ r.1 then some (pc + 1, L, rest, zm_stI h r i (vp_nar .boolean x)) else none
    | _ => none
  | .aastore => match st with
    | .inr (.inr (some x)) :: .inl i :: .inr (.inr (some r)) :: rest => if zm_inQ h r i = true ∧ zm_okQ zt_cn h r x = true ∧ 8 ≤ r.1 ∧ 8 ≤ x.1 then some (pc + 1, L, rest, zm_stQ h r i x) else none
    | _ => none
  | .arraylength => match st with
    | .inr (.inr (some r)) :: rest => if zm_isA h r = true then some (pc + 1, L, .inl (zm_len h r) :: rest, h) else none
    | _ => none
  | .new k => match zt_new (zt_own mi) k with
    | some q => if zm_free h (zt_site mi pc) = true then some (pc + 3, L, .inr (.inr (some (zt_site mi pc, h.2.1 (zt_site mi pc)))) :: st, zm_new h (zt_site mi pc) (.inr (q.1, q.2.map zm_dflt)) q.2.length) else none
    | none => none
  | .newarray t => match st with
    | .inl n :: rest => if zm_free h (zt_site mi pc) = true ∧ zm_small n = true ∧ zm_at t = true then some (pc + 2, L, .inr (.inr (some (zt_site mi pc, h.2.1 (zt_site mi pc)))) :: rest, zm_new h (zt_site mi pc) (.inl (newarray.typeOf t, n.toNatClampNeg, .inl fun _ => 0)) n.toNatClampNeg) else none
    | _ => none
  | .anewarray k => match st with
    | .inl n :: rest => match zt_arr (zt_own mi) k with
      | some C => if zm_free h (zt_site mi pc) = true ∧ zm_small n = true then some (pc + 3, L, .inr (.inr (some (zt_site mi pc, h.2.1 (zt_site mi pc)))) :: rest, zm_new h (zt_site mi pc) (.inl (.object C, n.toNatClampNeg, .inr fun _ => none)) n.toNatClampNeg) else none
      | none => none
    | _ => none
  | .invokespecial k => match st with
    | .inr (.inr (some r)) :: rest => if zt_oinit (zt_own mi) k = true ∧ rest.length ≤ 4 ∧ 8 ≤ r.1 then some (pc + 3, L, rest, h) else none
    | _ => none
  | .invokestatic k => match st with
    | .inl y :: .inl x :: rest => if zt_max (zt_own mi) k = true ∧ rest.length ≤ 4 then some (pc + 3, L, .inl (if x < y then y else x) :: rest, h) else none
    | _ => none
  | i => (zm_alu i st).map fun q => (pc + 1, L, q, h)
def zm_ret (mi : Nat) (i : Instr) (st : List zmV) : Option (Option zmV) := match i with
  | .ireturn => match st, zt_ret mi with
    | [.inl x], some ty => if zm_fit ty (.inl x) = true then some (some (.inl x)) else none
    | _, _ => none
  | .areturn => match st, zt_ret mi with
    | [.inr (.inr q)], some (.object _) => some (some (.inr (.inr q)))
    | _, _ => none
  | .return_ => match st, zt_ret mi with
    | [], none => some none
    | _, _ => none
  | _ => none
def zm_tk (n : Nat) (st : List zmV) : Option (List zmV × List zmV) := match n, st with
  | 0, st => some ([], st)
  | n + 1, v :: st => (zm_tk n st).map fun q => (q.1 ++ [v], q.2)
  | _, _ => none
def zm_recv (h : zmH) (ci : Nat) (as : List zmV) : Bool := match as with
  | .inr (.inr (some r)) :: _ => zm_isO h r ci
  | _ => false
def zm_call (mi : Nat) (i : Instr) (st : List zmV) (h : zmH) : Option (Nat × List zmV × List zmV) := match i with
  | .invokevirtual k => match zt_call (zt_own mi) k with
    | some (0, m2, n, ci) => match zm_tk n st with
      | some q => if zm_recv h ci q.1 = true ∧ q.2.length ≤ 4 then some (m2, q.1, q.2) else none
      | none => none
    | _ => none
  | .invokespecial k => match zt_call (zt_own mi) k with
    | some (1, m2, n, _) => match zm_tk n st with
      | some q => if zm_nn q.1 = true ∧ q.2.length ≤ 4 then some (m2, q.1, q.2) else none
      | none => none
    | _ => none
  | .invokestatic k => match zt_call (zt_own mi) k with
    | some (2, m2, n, _) => match zm_tk n st with
      | some q => if q.2.length ≤ 4 then some (m2, q.1, q.2) else none
      | none => none
    | _ => none
  | _ => none
def zm_Run (C : Nat → List zmV → zmH → zmO → Prop) (mi : Nat) : Nat → Nat → zmL → List zmV → zmH → zmO → Prop
  | 0, _, _, _, _, _ => False
  | n + 1, pc, L, st, h, o => match zt_fetch mi pc with
    | none => False
    | some i => match zm_step mi pc i L st h with
      | some q => zm_Run C mi n q.1 q.2.1 q.2.2.1 q.2.2.2 o
      | none => match zm_ret mi i st with
        | some v => o = (v, h)
        | none => match zm_call mi i st h with
          | some q => ∃ r : zmO, C q.1 q.2.1 h r ∧ zm_Run C mi n (pc + 3) L (r.1.toList ++ q.2.2) r.2 o
          | none => False
def zm_lay (as : List zmV) : zmL := match as with
  | [] => []
  | .inr (.inl x) :: r => some (.inr (.inl x)) :: none :: zm_lay r
  | v :: r => some v :: zm_lay r
def zm_lng (k : Nat) (as : List zmV) : List Nat := match as with
  | [] => []
  | .inr (.inl _) :: r => k :: zm_lng (k + 2) r
  | _ :: r => zm_lng (k + 1) r
def zm_ini (mi : Nat) (as : List zmV) : zmL := zm_lay as ++ List.replicate (zt_maxL mi - (zm_lay as).length) none
def zm_layOk (mi : Nat) (as : List zmV) : Bool := decide ((zm_lay as).length ≤ zt_maxL mi) && (zm_lng 0 as).all fun k => (zt_lslot mi).contains k
def zm_Calls : Nat → Nat → List zmV → zmH → zmO → Prop
  | 0 => fun _ _ _ _ => False
  | d + 1 => fun mi as h o => zm_layOk mi as = true ∧ ∃ n, zm_Run (zm_Calls d) mi n 0 (zm_ini mi as) [] h o
