/-! THE PURE MACHINE: the claim's methods run over cells that are numbered as they are made (0: the script, 1 to 3: the static arrays, both only read; from 4 on what is made). -/
abbrev pj_Arr : Type := (Nat → Int32) ⊕ (Nat → Option Nat)
abbrev pj_Cell : Type := (Nat × List Value) ⊕ (Nat × Nat × pj_Arr)
abbrev pj_Heap : Type := Nat → pj_Cell
abbrev pj_Mem : Type := Nat × Nat × pj_Heap
abbrev pj_Loc : Type := List (Option Value)
abbrev pj_Cfg : Type := Nat × pj_Loc × List Value × pj_Mem
def pj_row (k pc : Nat) : Option pj_Row := (pj_cd k).lookup pc
def pj_up (H : pj_Heap) (a : Nat) (c : pj_Cell) : pj_Heap := fun j => if j = a then c else H j
def pj_in (i : Int32) (n : Nat) : Bool := !(decide (i < 0) || decide (n ≤ i.toNatClampNeg))
def pj_nth : List Value → Nat → Option Value
  | [], _ => none
  | v :: _, 0 => some v
  | _ :: l, n + 1 => pj_nth l n
def pj_pu : List Value → Nat → Value → List Value
  | [], _, _ => []
  | _ :: l, 0, v => v :: l
  | a :: l, n + 1, v => a :: pj_pu l n v
def pj_ld : pj_Loc → Nat → Option Value
  | [], _ => none
  | v :: _, 0 => v
  | _ :: l, n + 1 => pj_ld l n
def pj_long : Option Value → Bool
  | some (.long _) => true
  | some (.double _) => true
  | _ => false
/-- a store of one word: not behind a long -/
def pj_st : pj_Loc → Nat → Value → Option pj_Loc
  | [], _, _ => none
  | _ :: l, 0, v => some (some v :: l)
  | a :: l, n + 1, v => if n = 0 ∧ pj_long a = true then none else match pj_st l n v with
    | none => none
    | some l' => some (a :: l')
def pj_stl : pj_Loc → Nat → Value → Option pj_Loc
  | [], _, _ => none
  | _ :: l, 0, v => (match l with
    | [] => none
    | _ :: l' => some (some v :: none :: l'))
  | a :: l, n + 1, v => if n = 0 ∧ pj_long a = true then none else match pj_stl l n v with
    | none => none
    | some l' => some (a :: l')
def pj_le4 : List Value → Bool
  | [] => true
  | [_] => true
  | [_, _] => true
  | [_, _, _] => true
  | [_, _, _, _] => true
  | _ => false
def pj_one1 : Value → Bool
  | .long _ => false
  | .double _ => false
  | _ => true
/-- what a field of a class keeps as it is -/
def pj_fit (ty : FieldType) (v : Value) : Bool := decide (narrow ty v = v) && fits ty v
def pj_fty (a b : Nat) : FieldType := match a with
  | 0 => tyX0 b | 1 => tyX1 b | 2 => tyX2 b | 3 => tyX3 b | 4 => tyX4 b | _ => tyX5 b
def pj_cmp (c : ClassFile.Cond) (x y : Int32) : Bool := match c with
  | .eq => decide (x = y) | .ne => decide (x ≠ y) | .lt => decide (x < y) | .ge => decide (y ≤ x) | .gt => decide (y < x) | .le => decide (x ≤ y)
def pj_tgt (pc : Nat) (off : Int) : Option Nat := if 0 ≤ (pc : Int) + off then some ((pc : Int) + off).toNat else none
def pj_dfl (a : Nat) : List Value := match vwCl[a]? with
  | some q => (List.range q.2.2).map fun k => defaultValue (pj_fty a k)
  | none => []
def pj_bin (f : Int32 → Int32 → Int32) (pc : Nat) (L : pj_Loc) (M : pj_Mem) : List Value → Option pj_Cfg
  | .int y :: .int x :: st => some (pc, L, .int (f x y) :: st, M)
  | _ => none
def pj_binl (f : Int64 → Int64 → Int64) (pc : Nat) (L : pj_Loc) (M : pj_Mem) : List Value → Option pj_Cfg
  | .long y :: .long x :: st => some (pc, L, .long (f x y) :: st, M)
  | _ => none
def pj_un (f : Int32 → Value) (pc : Nat) (L : pj_Loc) (M : pj_Mem) : List Value → Option pj_Cfg
  | .int x :: st => some (pc, L, f x :: st, M)
  | _ => none
def pj_iload (i pc : Nat) (L : pj_Loc) (M : pj_Mem) (st : List Value) : Option pj_Cfg := match pj_ld L i with
  | some (.int x) => some (pc, L, .int x :: st, M)
  | _ => none
def pj_lload (i pc : Nat) (L : pj_Loc) (M : pj_Mem) (st : List Value) : Option pj_Cfg := match pj_ld L i with
  | some (.long x) => some (pc, L, .long x :: st, M)
  | _ => none
def pj_aload (i pc : Nat) (L : pj_Loc) (M : pj_Mem) (st : List Value) : Option pj_Cfg := match pj_ld L i with
  | some (.ref x) => some (pc, L, .ref x :: st, M)
  | _ => none
def pj_to (pc : Nat) (st : List Value) (M : pj_Mem) : Option pj_Loc → Option pj_Cfg
  | some L => some (pc, L, st, M)
  | none => none
def pj_istore (i pc : Nat) (L : pj_Loc) (M : pj_Mem) : List Value → Option pj_Cfg
  | .int x :: st => pj_to pc st M (pj_st L i (.int x))
  | _ => none
def pj_astore (i pc : Nat) (L : pj_Loc) (M : pj_Mem) : List Value → Option pj_Cfg
  | .ref x :: st => pj_to pc st M (pj_st L i (.ref x))
  | _ => none
def pj_lstore (i pc : Nat) (L : pj_Loc) (M : pj_Mem) : List Value → Option pj_Cfg
  | .long x :: st => pj_to pc st M (pj_stl L i (.long x))
  | _ => none
def pj_fld : pj_Cell → Nat → Nat → Option Value
  | .inl (ci, fs), a, b => if ci = a then pj_nth fs b else none
  | _, _, _ => none
def pj_getf (a b pc : Nat) (L : pj_Loc) (M : pj_Mem) : List Value → Option pj_Cfg
  | .ref o :: st => (match pj_fld (M.2.2 o) a b with
    | some v => some (pc, L, v :: st, M)
    | none => none)
  | _ => none
def pj_fset : pj_Cell → Nat → Nat → Value → Option pj_Cell
  | .inl (ci, fs), a, b, v => if ci = a ∧ b < fs.length ∧ pj_fit (pj_fty a b) v = true then some (.inl (ci, pj_pu fs b v)) else none
  | _, _, _, _ => none
def pj_set (pc : Nat) (L : pj_Loc) (st : List Value) (M : pj_Mem) (o : Nat) : Option pj_Cell → Option pj_Cfg
  | some c => some (pc, L, st, (M.1, M.2.1, pj_up M.2.2 o c))
  | none => none
def pj_putf (a b pc : Nat) (L : pj_Loc) (M : pj_Mem) : List Value → Option pj_Cfg
  | v :: .ref o :: st => pj_set pc L st M o (pj_fset (M.2.2 o) a b v)
  | _ => none
/-- reading an int array's place: kinds 0 (made) and 4 (only read) -/
def pj_arl : pj_Cell → Nat → Int32 → Option Int32
  | .inr (t, n, .inl f), u, i => if (t = u ∨ (t = 4 ∧ u = 0)) ∧ pj_in i n = true then some (f i.toNatClampNeg) else none
  | _, _, _ => none
def pj_xald (u pc : Nat) (L : pj_Loc) (M : pj_Mem) : List Value → Option pj_Cfg
  | .int i :: .ref o :: st => (match pj_arl (M.2.2 o) u i with
    | some v => some (pc, L, .int v :: st, M)
    | none => none)
  | _ => none
def pj_ars : pj_Cell → Nat → Int32 → Int32 → Option pj_Cell
  | .inr (t, n, .inl f), u, i, x => if t = u ∧ pj_in i n = true then some (.inr (t, n, .inl (upd f i.toNatClampNeg x))) else none
  | _, _, _, _ => none
def pj_xast (u : Nat) (nar : Int32 → Int32) (pc : Nat) (L : pj_Loc) (M : pj_Mem) : List Value → Option pj_Cfg
  | .int x :: .int i :: .ref o :: st => pj_set pc L st M o (pj_ars (M.2.2 o) u i (nar x))
  | _ => none
def pj_qrl : pj_Cell → Int32 → Option Value
  | .inr (t, n, .inr f), i => if t = 3 ∧ pj_in i n = true then some (va_rf (f i.toNatClampNeg)) else none
  | _, _ => none
def pj_aald (pc : Nat) (L : pj_Loc) (M : pj_Mem) : List Value → Option pj_Cfg
  | .int i :: .ref o :: st => (match pj_qrl (M.2.2 o) i with
    | some v => some (pc, L, v :: st, M)
    | none => none)
  | _ => none
def pj_qrs : pj_Cell → Int32 → Nat → Option pj_Cell
  | .inr (t, n, .inr f), i, x => if t = 3 ∧ pj_in i n = true then some (.inr (t, n, .inr (va_up f i.toNatClampNeg (some x)))) else none
  | _, _, _ => none
def pj_isU (U : Nat) : pj_Cell → Bool
  | .inl (ci, _) => ci == U
  | _ => false
def pj_aast (pc : Nat) (L : pj_Loc) (M : pj_Mem) : List Value → Option pj_Cfg
  | .ref x :: .int i :: .ref o :: st => if pj_isU 4 (M.2.2 x) = true then pj_set pc L st M o (pj_qrs (M.2.2 o) i x) else none
  | _ => none
def pj_len : pj_Cell → Option Int32
  | .inr (_, n, _) => some (Int32.ofNat n)
  | _ => none
def pj_alen (pc : Nat) (L : pj_Loc) (M : pj_Mem) : List Value → Option pj_Cfg
  | .ref o :: st => (match pj_len (M.2.2 o) with
    | some v => some (pc, L, .int v :: st, M)
    | none => none)
  | _ => none
def pj_newa (t pc : Nat) (L : pj_Loc) (M : pj_Mem) : List Value → Option pj_Cfg
  | .int n :: st => if ¬ n < 0 ∧ n.toNatClampNeg ≤ 100000 then some (pc, L, .ref M.1 :: st, (M.1 + 1, M.2.1 + n.toNatClampNeg, pj_up M.2.2 M.1 (.inr (t, n.toNatClampNeg, if t = 3 then .inr (fun _ => none) else .inl (fun _ => 0))))) else none
  | _ => none
def pj_cas : pj_Cell → pj_Cell → Int32 → Int32 → Int32 → Option pj_Cell
  | .inr (t, n0, .inl f), .inr (u, n1, .inl g), sp, dp, n => if t = 0 ∧ u = 0 ∧ ¬ sp < 0 ∧ ¬ dp < 0 ∧ ¬ n < 0 ∧ sp.toNatClampNeg + n.toNatClampNeg ≤ n0 ∧ dp.toNatClampNeg + n.toNatClampNeg ≤ n1 then some (.inr (u, n1, .inl (va_cpy f g sp.toNatClampNeg dp.toNatClampNeg n.toNatClampNeg))) else none
  | _, _, _, _, _ => none
/-- the calls that are one step: Object.<init>, System.arraycopy, Math.max, min, abs -/
def pj_one (z : Int) (pc : Nat) (L : pj_Loc) (M : pj_Mem) (st : List Value) : Option pj_Cfg :=
  if z = 2 then (match st with
    | .ref _ :: r => if pj_le4 r = true then some (pc, L, r, M) else none
    | _ => none)
  else if z = 3 then (match st with
    | .int n :: .int dp :: .ref d :: .int sp :: .ref o :: r => if pj_le4 r = true then pj_set pc L r M d (pj_cas (M.2.2 o) (M.2.2 d) sp dp n) else none
    | _ => none)
  else if z = 4 then (match st with
    | .int y :: .int x :: r => if pj_le4 r = true then some (pc, L, .int (if x < y then y else x) :: r, M) else none
    | _ => none)
  else if z = 5 then (match st with
    | .int y :: .int x :: r => if pj_le4 r = true then some (pc, L, .int (if y < x then y else x) :: r, M) else none
    | _ => none)
  else if z = 6 then (match st with
    | .int x :: r => if pj_le4 r = true then some (pc, L, .int (if 0 ≤ x then x else 0 - x) :: r, M) else none
    | _ => none)
  else none
def pj_br (c : ClassFile.Cond) (t f : Nat) (L : pj_Loc) (M : pj_Mem) : List Value → Option pj_Cfg
  | .int y :: .int x :: st => some (if pj_cmp c x y = true then t else f, L, st, M)
  | _ => none
def pj_br0 (c : ClassFile.Cond) (t f : Nat) (L : pj_Loc) (M : pj_Mem) : List Value → Option pj_Cfg
  | .int x :: st => some (if pj_cmp c x 0 = true then t else f, L, st, M)
  | _ => none
def pj_jmp (pc : Nat) (L : pj_Loc) (M : pj_Mem) (st : List Value) (off : Int) : Option pj_Cfg := match pj_tgt pc off with
  | some t => some (t, L, st, M)
  | none => none
def pj_tsw (pc : Nat) (L : pj_Loc) (M : pj_Mem) (d lo hi : Int) (offs : Array Int) : List Value → Option pj_Cfg
  | .int x :: st => if x.toInt < lo ∨ hi < x.toInt then pj_jmp pc L M st d else (match offs[(x.toInt - lo).toNat]? with
    | some off => pj_jmp pc L M st off
    | none => none)
  | _ => none
def pj_lsw (pc : Nat) (L : pj_Loc) (M : pj_Mem) (d : Int) (ps : Array (Int × Int)) : List Value → Option pj_Cfg
  | .int x :: st => pj_jmp pc L M st (Op.lookupswitch.offset ps.toList d x.toInt)
  | _ => none
def pj_l2i (pc : Nat) (L : pj_Loc) (M : pj_Mem) : List Value → Option pj_Cfg
  | .long x :: st => some (pc, L, .int x.toInt32 :: st, M)
  | _ => none
def pj_lsh (f : Int64 → Int32 → Int64) (pc : Nat) (L : pj_Loc) (M : pj_Mem) : List Value → Option pj_Cfg
  | .int y :: .long x :: st => some (pc, L, .long (f x y) :: st, M)
  | _ => none
def pj_lcmpv (x y : Int64) : Int32 := lg_cmp x y
def pj_lcmp (pc : Nat) (L : pj_Loc) (M : pj_Mem) : List Value → Option pj_Cfg
  | .long y :: .long x :: st => some (pc, L, .int (pj_lcmpv x y) :: st, M)
  | _ => none
def pj_dup (pc : Nat) (L : pj_Loc) (M : pj_Mem) : List Value → Option pj_Cfg
  | v :: st => if pj_one1 v = true then some (pc, L, v :: v :: st, M) else none
  | _ => none
def pj_dup2 (pc : Nat) (L : pj_Loc) (M : pj_Mem) : List Value → Option pj_Cfg
  | v :: w :: st => if pj_one1 v = true ∧ pj_one1 w = true then some (pc, L, v :: w :: v :: w :: st, M) else none
  | _ => none
def pj_pop (pc : Nat) (L : pj_Loc) (M : pj_Mem) : List Value → Option pj_Cfg
  | v :: st => if pj_one1 v = true then some (pc, L, st, M) else none
  | _ => none
/-- one step that is neither a call of a method of the claim nor a return -/
def pj_op (r : pj_Row) (pc : Nat) (L : pj_Loc) (st : List Value) (M : pj_Mem) : Option pj_Cfg :=
  let n := pc + r.2.1
  match r.1 with
  | .iconst i => some (n, L, .int (Int32.ofInt i) :: st, M)
  | .bipush i => some (n, L, .int (Int8.ofInt i).toInt32 :: st, M)
  | .sipush i => some (n, L, .int (Int16.ofInt i).toInt32 :: st, M)
  | .lconst i => some (n, L, .long (Int64.ofNat (i : Nat)) :: st, M)
  | .ldc _ => some (n, L, .int (Int32.ofInt r.2.2.2.2) :: st, M)
  | .ldc_w _ => some (n, L, .int (Int32.ofInt r.2.2.2.2) :: st, M)
  | .ldc2_w _ => some (n, L, .long (Int64.ofInt r.2.2.2.2) :: st, M)
  | .iload i => pj_iload i n L M st
  | .iload_n i => pj_iload i n L M st
  | .lload i => pj_lload i n L M st
  | .lload_n i => pj_lload i n L M st
  | .aload i => pj_aload i n L M st
  | .aload_n i => pj_aload i n L M st
  | .istore i => pj_istore i n L M st
  | .istore_n i => pj_istore i n L M st
  | .lstore i => pj_lstore i n L M st
  | .lstore_n i => pj_lstore i n L M st
  | .astore i => pj_astore i n L M st
  | .astore_n i => pj_astore i n L M st
  | .iinc i d => (match pj_ld L i with
    | some (.int x) => pj_to n st M (pj_st L i (.int (x + Int32.ofInt d)))
    | _ => none)
  | .iadd => pj_bin (fun x y => x + y) n L M st
  | .isub => pj_bin (fun x y => x - y) n L M st
  | .imul => pj_bin (fun x y => x * y) n L M st
  | .iand => pj_bin (fun x y => x &&& y) n L M st
  | .ior => pj_bin (fun x y => x ||| y) n L M st
  | .ixor => pj_bin (fun x y => x ^^^ y) n L M st
  | .ishl => pj_bin (fun x y => x <<< (y &&& 31)) n L M st
  | .ishr => pj_bin (fun x y => x >>> (y &&& 31)) n L M st
  | .iushr => pj_bin (fun x y => (x.toUInt32 >>> (y.toUInt32 &&& Int32.toUInt32 31)).toInt32) n L M st
  | .idiv => (match st with
    | .int y :: .int x :: s => if y = 0 then none else some (n, L, .int (x / y) :: s, M)
    | _ => none)
  | .irem => (match st with
    | .int y :: .int x :: s => if y = 0 then none else some (n, L, .int (x - x / y * y) :: s, M)
    | _ => none)
  | .ineg => pj_un (fun x => .int (-x)) n L M st
  | .i2l => pj_un (fun x => .long x.toInt64) n L M st
  | .i2c => pj_un (fun x => .int (x.toUInt32 % 65536).toInt32) n L M st
  | .l2i => pj_l2i n L M st
  | .land => pj_binl (fun x y => x &&& y) n L M st
  | .lor => pj_binl (fun x y => x ||| y) n L M st
  | .lsub => pj_binl (fun x y => x - y) n L M st
  | .lushr => pj_lsh (fun x y => (x.toUInt64 >>> (y.toInt64.toUInt64 &&& Int64.toUInt64 63)).toInt64) n L M st
  | .lshl => pj_lsh (fun x y => x <<< (y.toInt64 &&& 63)) n L M st
  | .lcmp => pj_lcmp n L M st
  | .dup => pj_dup n L M st
  | .dup2 => pj_dup2 n L M st
  | .pop => pj_pop n L M st
  | .goto _ => some (r.2.2.1, L, st, M)
  | .if_icmp c _ => pj_br c r.2.2.1 n L M st
  | .ifCond c _ => pj_br0 c r.2.2.1 n L M st
  | .tableswitch d lo hi offs => pj_tsw pc L M d lo hi offs st
  | .lookupswitch d ps => pj_lsw pc L M d ps st
  | .getfield _ => pj_getf r.2.2.1 r.2.2.2.1 n L M st
  | .putfield _ => pj_putf r.2.2.1 r.2.2.2.1 n L M st
  | .getstatic _ => some (n, L, .ref r.2.2.1 :: st, M)
  | .iaload => pj_xald 0 n L M st
  | .caload => pj_xald 1 n L M st
  | .baload => pj_xald 2 n L M st
  | .iastore => pj_xast 0 (fun x => x) n L M st
  | .castore => pj_xast 1 (fun x => vp_nar .char x) n L M st
  | .bastore => pj_xast 2 (fun x => vp_nar .boolean x) n L M st
  | .aaload => pj_aald n L M st
  | .aastore => pj_aast n L M st
  | .arraylength => pj_alen n L M st
  | .new _ => some (n, L, .ref M.1 :: st, (M.1 + 1, M.2.1 + (pj_dfl r.2.2.1).length, pj_up M.2.2 M.1 (.inl (r.2.2.1, pj_dfl r.2.2.1))))
  | .newarray _ => pj_newa r.2.2.1 n L M st
  | .anewarray _ => pj_newa r.2.2.1 n L M st
  | .invokestatic _ => pj_one r.2.2.2.2 n L M st
  | .invokespecial _ => pj_one r.2.2.2.2 n L M st
  | _ => none
def pj_sl : List Value → pj_Loc
  | [] => []
  | .long x :: l => some (.long x) :: none :: pj_sl l
  | .double x :: l => some (.double x) :: none :: pj_sl l
  | v :: l => some v :: pj_sl l
def pj_ent (k : Nat) (as : List Value) : Option pj_Loc := if (pj_sl as).length ≤ pj_ml k then some (pj_sl as ++ List.replicate (pj_ml k - (pj_sl as).length) none) else none
/-- a call of a method of the claim: which, its arguments, what stays on the stack -/
def pj_cl (r : pj_Row) (st : List Value) (H : pj_Heap) : Option (Nat × List Value × List Value) :=
  let a := r.2.2.1
  let b := r.2.2.2.1
  if r.2.2.2.2 = 0 ∨ r.2.2.2.2 = 1 then
    (if b ≤ st.length ∧ pj_le4 (st.drop b) = true then
      (match r.1 with
      | .invokestatic _ => some (a, (st.take b).reverse, st.drop b)
      | .invokespecial _ => (match (st.take b).reverse with
        | .ref o :: l => some (a, .ref o :: l, st.drop b)
        | _ => none)
      | .invokevirtual _ => (match (st.take b).reverse with
        | .ref o :: l => if pj_isU (pj_cn a) (H o) = true then some (a, .ref o :: l, st.drop b) else none
        | _ => none)
      | _ => none)
    else none)
  else none
def pj_rtn (k : Nat) (i : Instr) (st : List Value) : Option (Option Value) :=
  match i, st with
  | .return_, [] => if pj_rt k = none then some none else none
  | .ireturn, [.int v] => (match pj_rt k with
    | some ty => if narrow ty (.int v) = .int v then some (some (.int v)) else none
    | none => none)
  | .areturn, [.ref a] => (match pj_rt k with
    | some (.array _) => some (some (.ref a))
    | some (.object _) => some (some (.ref a))
    | _ => none)
  | _, _ => none
def pj_exec : Nat → Nat → pj_Cfg → Option (Option Value × pj_Mem)
  | 0, _, _ => none
  | n + 1, k, (pc, L, st, M) => match pj_row k pc with
    | none => none
    | some r => match pj_rtn k r.1 st with
      | some v => some (v, M)
      | none => match pj_cl r st M.2.2 with
        | some (k', as, rest) => (match pj_ent k' as with
          | none => none
          | some L0 => (match pj_exec n k' (0, L0, [], M) with
            | none => none
            | some (v, M') => pj_exec n k (pc + r.2.1, L, v.toList ++ rest, M')))
        | none => (match pj_op r pc L st M with
          | none => none
          | some c => pj_exec n k c)
