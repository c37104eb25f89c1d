/-! THE STEPS AS ROWS: one equation for each kind of instruction -/
def pj_pv (pc : Nat) (L : pj_Loc) (st : List Value) (M : pj_Mem) : Option Value → Option pj_Cfg
  | some v => some (pc, L, v :: st, M)
  | none => none
def pj_pi (pc : Nat) (L : pj_Loc) (st : List Value) (M : pj_Mem) : Option Int32 → Option pj_Cfg
  | some v => some (pc, L, .int v :: st, M)
  | none => none
def pj_g4 (st : List Value) (x : Option pj_Cfg) : Option pj_Cfg := if pj_le4 st = true then x else none
def pj_isc : Instr → Bool
  | .invokestatic _ => true
  | .invokevirtual _ => true
  | .invokespecial _ => true
  | _ => false
theorem pj_cl_nc {ins : Instr} {len a b : Nat} {z : Int} {st : List Value} {H : pj_Heap} (h : pj_isc ins = false) : pj_cl (ins, len, a, b, z) st H = none := by
  unfold pj_cl
  dsimp only
  split
  · split
    · cases ins <;> first | rfl | cases h
    · rfl
  · rfl
theorem pj_step_op {k pc : Nat} {r : pj_Row} {L : pj_Loc} {st : List Value} {M : pj_Mem} (h : pj_row k pc = some r) (hc : pj_isc r.1 = false) (hv : pj_rtn k r.1 st = none) : pj_step k (pc, L, st, M) = pj_op r pc L st M := by
  rw [pj_step_of h]
  obtain ⟨ins, len, a, b, z⟩ := r
  unfold pj_stp
  rw [hv]
  simp only
  rw [pj_cl_nc hc]
section ST
variable {k pc len a b : Nat} {z : Int} {L : pj_Loc} {st : List Value} {M : pj_Mem} {N S : Nat} {H : pj_Heap}
theorem st_iconst {i : Int} (h : pj_row k pc = some (.iconst i, len, a, b, z)) {v : Int32} (hv : Int32.ofInt i = v) : pj_step k (pc, L, st, M) = some (pc + len, L, .int v :: st, M) := by subst hv; exact (pj_step_op h rfl rfl).trans rfl
theorem st_bipush {i : Int} (h : pj_row k pc = some (.bipush i, len, a, b, z)) {v : Int32} (hv : (Int8.ofInt i).toInt32 = v) : pj_step k (pc, L, st, M) = some (pc + len, L, .int v :: st, M) := by subst hv; exact (pj_step_op h rfl rfl).trans rfl
theorem st_sipush {i : Int} (h : pj_row k pc = some (.sipush i, len, a, b, z)) {v : Int32} (hv : (Int16.ofInt i).toInt32 = v) : pj_step k (pc, L, st, M) = some (pc + len, L, .int v :: st, M) := by subst hv; exact (pj_step_op h rfl rfl).trans rfl
theorem st_lconst {i : Fin 2} (h : pj_row k pc = some (.lconst i, len, a, b, z)) {v : Int64} (hv : Int64.ofNat (i : Nat) = v) : pj_step k (pc, L, st, M) = some (pc + len, L, .long v :: st, M) := by subst hv; exact (pj_step_op h rfl rfl).trans rfl
theorem st_ldc {i : Nat} (h : pj_row k pc = some (.ldc i, len, a, b, z)) {v : Int32} (hv : Int32.ofInt z = v) : pj_step k (pc, L, st, M) = some (pc + len, L, .int v :: st, M) := by subst hv; exact (pj_step_op h rfl rfl).trans rfl
theorem st_ldc_w {i : Nat} (h : pj_row k pc = some (.ldc_w i, len, a, b, z)) {v : Int32} (hv : Int32.ofInt z = v) : pj_step k (pc, L, st, M) = some (pc + len, L, .int v :: st, M) := by subst hv; exact (pj_step_op h rfl rfl).trans rfl
theorem st_ldc2_w {i : Nat} (h : pj_row k pc = some (.ldc2_w i, len, a, b, z)) {v : Int64} (hv : Int64.ofInt z = v) : pj_step k (pc, L, st, M) = some (pc + len, L, .long v :: st, M) := by subst hv; exact (pj_step_op h rfl rfl).trans rfl
theorem st_iload {i : Nat} (h : pj_row k pc = some (.iload i, len, a, b, z)) {x : Int32} (hx : pj_ld L i = some (.int x)) : pj_step k (pc, L, st, M) = some (pc + len, L, .int x :: st, M) := by rw [pj_step_op h rfl rfl]; show pj_iload i _ L M st = _; unfold pj_iload; rw [hx]
theorem st_istore {i : Nat} (h : pj_row k pc = some (.istore i, len, a, b, z)) {x : Int32} {L' : pj_Loc} (hx : pj_st L i (.int x) = some L') : pj_step k (pc, L, .int x :: st, M) = some (pc + len, L', st, M) := by rw [pj_step_op h rfl rfl]; show pj_to _ st M (pj_st L i (.int x)) = _; rw [hx]; rfl
theorem st_iload_n {i : Fin 4} (h : pj_row k pc = some (.iload_n i, len, a, b, z)) {x : Int32} (hx : pj_ld L i = some (.int x)) : pj_step k (pc, L, st, M) = some (pc + len, L, .int x :: st, M) := by rw [pj_step_op h rfl rfl]; show pj_iload i _ L M st = _; unfold pj_iload; rw [hx]
theorem st_istore_n {i : Fin 4} (h : pj_row k pc = some (.istore_n i, len, a, b, z)) {x : Int32} {L' : pj_Loc} (hx : pj_st L i (.int x) = some L') : pj_step k (pc, L, .int x :: st, M) = some (pc + len, L', st, M) := by rw [pj_step_op h rfl rfl]; show pj_to _ st M (pj_st L i (.int x)) = _; rw [hx]; rfl
theorem st_lload {i : Nat} (h : pj_row k pc = some (.lload i, len, a, b, z)) {x : Int64} (hx : pj_ld L i = some (.long x)) : pj_step k (pc, L, st, M) = some (pc + len, L, .long x :: st, M) := by rw [pj_step_op h rfl rfl]; show pj_lload i _ L M st = _; unfold pj_lload; rw [hx]
theorem st_lstore {i : Nat} (h : pj_row k pc = some (.lstore i, len, a, b, z)) {x : Int64} {L' : pj_Loc} (hx : pj_stl L i (.long x) = some L') : pj_step k (pc, L, .long x :: st, M) = some (pc + len, L', st, M) := by rw [pj_step_op h rfl rfl]; show pj_to _ st M (pj_stl L i (.long x)) = _; rw [hx]; rfl
theorem st_lload_n {i : Fin 4} (h : pj_row k pc = some (.lload_n i, len, a, b, z)) {x : Int64} (hx : pj_ld L i = some (.long x)) : pj_step k (pc, L, st, M) = some (pc + len, L, .long x :: st, M) := by rw [pj_step_op h rfl rfl]; show pj_lload i _ L M st = _; unfold pj_lload; rw [hx]
theorem st_lstore_n {i : Fin 4} (h : pj_row k pc = some (.lstore_n i, len, a, b, z)) {x : Int64} {L' : pj_Loc} (hx : pj_stl L i (.long x) = some L') : pj_step k (pc, L, .long x :: st, M) = some (pc + len, L', st, M) := by rw [pj_step_op h rfl rfl]; show pj_to _ st M (pj_stl L i (.long x)) = _; rw [hx]; rfl
theorem st_aload {i : Nat} (h : pj_row k pc = some (.aload i, len, a, b, z)) {x : Nat} (hx : pj_ld L i = some (.ref x)) : pj_step k (pc, L, st, M) = some (pc + len, L, .ref x :: st, M) := by rw [pj_step_op h rfl rfl]; show pj_aload i _ L M st = _; unfold pj_aload; rw [hx]
theorem st_astore {i : Nat} (h : pj_row k pc = some (.astore i, len, a, b, z)) {x : Nat} {L' : pj_Loc} (hx : pj_st L i (.ref x) = some L') : pj_step k (pc, L, .ref x :: st, M) = some (pc + len, L', st, M) := by rw [pj_step_op h rfl rfl]; show pj_to _ st M (pj_st L i (.ref x)) = _; rw [hx]; rfl
theorem st_aload_n {i : Fin 4} (h : pj_row k pc = some (.aload_n i, len, a, b, z)) {x : Nat} (hx : pj_ld L i = some (.ref x)) : pj_step k (pc, L, st, M) = some (pc + len, L, .ref x :: st, M) := by rw [pj_step_op h rfl rfl]; show pj_aload i _ L M st = _; unfold pj_aload; rw [hx]
theorem st_astore_n {i : Fin 4} (h : pj_row k pc = some (.astore_n i, len, a, b, z)) {x : Nat} {L' : pj_Loc} (hx : pj_st L i (.ref x) = some L') : pj_step k (pc, L, .ref x :: st, M) = some (pc + len, L', st, M) := by rw [pj_step_op h rfl rfl]; show pj_to _ st M (pj_st L i (.ref x)) = _; rw [hx]; rfl
theorem st_iinc {i : Nat} {d : Int} (h : pj_row k pc = some (.iinc i d, len, a, b, z)) {x v : Int32} {L' : pj_Loc} (h1 : pj_ld L i = some (.int x)) (hd : x + Int32.ofInt d = v) (hx : pj_st L i (.int v) = some L') : pj_step k (pc, L, st, M) = some (pc + len, L', st, M) := by
  subst hd
  rw [pj_step_op h rfl rfl]
  show (match pj_ld L i with | some (.int x) => pj_to _ st M (pj_st L i (.int (x + Int32.ofInt d))) | _ => none) = _
  rw [h1]
  simp only
  rw [hx]
  rfl
theorem st_iadd  (h : pj_row k pc = some (.iadd, len, a, b, z)) {x y : Int32} : pj_step k (pc, L, .int y :: .int x :: st, M) = some (pc + len, L, .int (x + y) :: st, M) := (pj_step_op h rfl rfl).trans rfl
theorem st_isub  (h : pj_row k pc = some (.isub, len, a, b, z)) {x y : Int32} : pj_step k (pc, L, .int y :: .int x :: st, M) = some (pc + len, L, .int (x - y) :: st, M) := (pj_step_op h rfl rfl).trans rfl
theorem st_imul  (h : pj_row k pc = some (.imul, len, a, b, z)) {x y : Int32} : pj_step k (pc, L, .int y :: .int x :: st, M) = some (pc + len, L, .int (x * y) :: st, M) := (pj_step_op h rfl rfl).trans rfl
theorem st_iand  (h : pj_row k pc = some (.iand, len, a, b, z)) {x y : Int32} : pj_step k (pc, L, .int y :: .int x :: st, M) = some (pc + len, L, .int (x &&& y) :: st, M) := (pj_step_op h rfl rfl).trans rfl
theorem st_ior  (h : pj_row k pc = some (.ior, len, a, b, z)) {x y : Int32} : pj_step k (pc, L, .int y :: .int x :: st, M) = some (pc + len, L, .int (x ||| y) :: st, M) := (pj_step_op h rfl rfl).trans rfl
theorem st_ixor  (h : pj_row k pc = some (.ixor, len, a, b, z)) {x y : Int32} : pj_step k (pc, L, .int y :: .int x :: st, M) = some (pc + len, L, .int (x ^^^ y) :: st, M) := (pj_step_op h rfl rfl).trans rfl
theorem st_ishl  (h : pj_row k pc = some (.ishl, len, a, b, z)) {x y : Int32} : pj_step k (pc, L, .int y :: .int x :: st, M) = some (pc + len, L, .int (x <<< (y &&& 31)) :: st, M) := (pj_step_op h rfl rfl).trans rfl
theorem st_ishr  (h : pj_row k pc = some (.ishr, len, a, b, z)) {x y : Int32} : pj_step k (pc, L, .int y :: .int x :: st, M) = some (pc + len, L, .int (x >>> (y &&& 31)) :: st, M) := (pj_step_op h rfl rfl).trans rfl
theorem st_iushr  (h : pj_row k pc = some (.iushr, len, a, b, z)) {x y : Int32} : pj_step k (pc, L, .int y :: .int x :: st, M) = some (pc + len, L, .int ((x.toUInt32 >>> (y.toUInt32 &&& Int32.toUInt32 31)).toInt32) :: st, M) := (pj_step_op h rfl rfl).trans rfl
theorem st_idiv (h : pj_row k pc = some (.idiv, len, a, b, z)) {x y : Int32} (hy : ¬ y = 0) : pj_step k (pc, L, .int y :: .int x :: st, M) = some (pc + len, L, .int (x / y) :: st, M) := by
  rw [pj_step_op h rfl rfl]
  show (if y = 0 then none else some _) = _
  rw [if_neg hy]
theorem st_irem (h : pj_row k pc = some (.irem, len, a, b, z)) {x y : Int32} (hy : ¬ y = 0) : pj_step k (pc, L, .int y :: .int x :: st, M) = some (pc + len, L, .int (x - x / y * y) :: st, M) := by
  rw [pj_step_op h rfl rfl]
  show (if y = 0 then none else some _) = _
  rw [if_neg hy]
theorem st_land  (h : pj_row k pc = some (.land, len, a, b, z)) {x y : Int64} : pj_step k (pc, L, .long y :: .long x :: st, M) = some (pc + len, L, .long (x &&& y) :: st, M) := (pj_step_op h rfl rfl).trans rfl
theorem st_lor  (h : pj_row k pc = some (.lor, len, a, b, z)) {x y : Int64} : pj_step k (pc, L, .long y :: .long x :: st, M) = some (pc + len, L, .long (x ||| y) :: st, M) := (pj_step_op h rfl rfl).trans rfl
theorem st_lsub  (h : pj_row k pc = some (.lsub, len, a, b, z)) {x y : Int64} : pj_step k (pc, L, .long y :: .long x :: st, M) = some (pc + len, L, .long (x - y) :: st, M) := (pj_step_op h rfl rfl).trans rfl
theorem st_lushr  (h : pj_row k pc = some (.lushr, len, a, b, z)) {x : Int64} {y : Int32} : pj_step k (pc, L, .int y :: .long x :: st, M) = some (pc + len, L, .long ((x.toUInt64 >>> (y.toInt64.toUInt64 &&& Int64.toUInt64 63)).toInt64) :: st, M) := (pj_step_op h rfl rfl).trans rfl
theorem st_lshl  (h : pj_row k pc = some (.lshl, len, a, b, z)) {x : Int64} {y : Int32} : pj_step k (pc, L, .int y :: .long x :: st, M) = some (pc + len, L, .long (x <<< (y.toInt64 &&& 63)) :: st, M) := (pj_step_op h rfl rfl).trans rfl
theorem st_lcmp  (h : pj_row k pc = some (.lcmp, len, a, b, z)) {x y : Int64} : pj_step k (pc, L, .long y :: .long x :: st, M) = some (pc + len, L, .int (lg_cmp x y) :: st, M) := (pj_step_op h rfl rfl).trans rfl
theorem st_ineg  (h : pj_row k pc = some (.ineg, len, a, b, z)) {x : Int32} : pj_step k (pc, L, .int x :: st, M) = some (pc + len, L, .int (-x) :: st, M) := (pj_step_op h rfl rfl).trans rfl
theorem st_i2l  (h : pj_row k pc = some (.i2l, len, a, b, z)) {x : Int32} : pj_step k (pc, L, .int x :: st, M) = some (pc + len, L, .long x.toInt64 :: st, M) := (pj_step_op h rfl rfl).trans rfl
theorem st_i2c  (h : pj_row k pc = some (.i2c, len, a, b, z)) {x : Int32} : pj_step k (pc, L, .int x :: st, M) = some (pc + len, L, .int (x.toUInt32 % 65536).toInt32 :: st, M) := (pj_step_op h rfl rfl).trans rfl
theorem st_l2i  (h : pj_row k pc = some (.l2i, len, a, b, z)) {x : Int64} : pj_step k (pc, L, .long x :: st, M) = some (pc + len, L, .int x.toInt32 :: st, M) := (pj_step_op h rfl rfl).trans rfl
theorem st_dup_int  (h : pj_row k pc = some (.dup, len, a, b, z)) {x : Int32} : pj_step k (pc, L, .int x :: st, M) = some (pc + len, L, .int x :: .int x :: st, M) := (pj_step_op h rfl rfl).trans rfl
theorem st_pop_int  (h : pj_row k pc = some (.pop, len, a, b, z)) {x : Int32} : pj_step k (pc, L, .int x :: st, M) = some (pc + len, L, st, M) := (pj_step_op h rfl rfl).trans rfl
theorem st_dup_ref  (h : pj_row k pc = some (.dup, len, a, b, z)) {x : Nat} : pj_step k (pc, L, .ref x :: st, M) = some (pc + len, L, .ref x :: .ref x :: st, M) := (pj_step_op h rfl rfl).trans rfl
theorem st_pop_ref  (h : pj_row k pc = some (.pop, len, a, b, z)) {x : Nat} : pj_step k (pc, L, .ref x :: st, M) = some (pc + len, L, st, M) := (pj_step_op h rfl rfl).trans rfl
theorem st_dup2  (h : pj_row k pc = some (.dup2, len, a, b, z)) {x : Int32} {o : Nat} : pj_step k (pc, L, .int x :: .ref o :: st, M) = some (pc + len, L, .int x :: .ref o :: .int x :: .ref o :: st, M) := (pj_step_op h rfl rfl).trans rfl
theorem st_goto {off : Int} (h : pj_row k pc = some (.goto off, len, a, b, z))  : pj_step k (pc, L, st, M) = some (a, L, st, M) := (pj_step_op h rfl rfl).trans rfl
theorem st_icmp_eq {off : Int} (h : pj_row k pc = some (.if_icmp .eq off, len, a, b, z)) {x y : Int32} : pj_step k (pc, L, .int y :: .int x :: st, M) = some (if x = y then a else pc + len, L, st, M) := by
  rw [pj_step_op h rfl rfl]
  show some (if pj_cmp .eq x y = true then a else pc + len, L, st, M) = _
  by_cases q : x = y <;> simp [pj_cmp, q]
theorem st_if_eq {off : Int} (h : pj_row k pc = some (.ifCond .eq off, len, a, b, z)) {x : Int32} : pj_step k (pc, L, .int x :: st, M) = some (if x = 0 then a else pc + len, L, st, M) := by
  rw [pj_step_op h rfl rfl]
  show some (if pj_cmp .eq x 0 = true then a else pc + len, L, st, M) = _
  by_cases q : x = 0 <;> simp [pj_cmp, q]
theorem st_icmp_ne {off : Int} (h : pj_row k pc = some (.if_icmp .ne off, len, a, b, z)) {x y : Int32} : pj_step k (pc, L, .int y :: .int x :: st, M) = some (if ¬ x = y then a else pc + len, L, st, M) := by
  rw [pj_step_op h rfl rfl]
  show some (if pj_cmp .ne x y = true then a else pc + len, L, st, M) = _
  by_cases q : ¬ x = y <;> simp [pj_cmp, q]
theorem st_if_ne {off : Int} (h : pj_row k pc = some (.ifCond .ne off, len, a, b, z)) {x : Int32} : pj_step k (pc, L, .int x :: st, M) = some (if ¬ x = 0 then a else pc + len, L, st, M) := by
  rw [pj_step_op h rfl rfl]
  show some (if pj_cmp .ne x 0 = true then a else pc + len, L, st, M) = _
  by_cases q : ¬ x = 0 <;> simp [pj_cmp, q]
theorem st_icmp_lt {off : Int} (h : pj_row k pc = some (.if_icmp .lt off, len, a, b, z)) {x y : Int32} : pj_step k (pc, L, .int y :: .int x :: st, M) = some (if x < y then a else pc + len, L, st, M) := by
  rw [pj_step_op h rfl rfl]
  show some (if pj_cmp .lt x y = true then a else pc + len, L, st, M) = _
  by_cases q : x < y <;> simp [pj_cmp, q]
theorem st_if_lt {off : Int} (h : pj_row k pc = some (.ifCond .lt off, len, a, b, z)) {x : Int32} : pj_step k (pc, L, .int x :: st, M) = some (if x < 0 then a else pc + len, L, st, M) := by
  rw [pj_step_op h rfl rfl]
  show some (if pj_cmp .lt x 0 = true then a else pc + len, L, st, M) = _
  by_cases q : x < 0 <;> simp [pj_cmp, q]
theorem st_icmp_ge {off : Int} (h : pj_row k pc = some (.if_icmp .ge off, len, a, b, z)) {x y : Int32} : pj_step k (pc, L, .int y :: .int x :: st, M) = some (if y ≤ x then a else pc + len, L, st, M) := by
  rw [pj_step_op h rfl rfl]
  show some (if pj_cmp .ge x y = true then a else pc + len, L, st, M) = _
  by_cases q : y ≤ x <;> simp [pj_cmp, q]
theorem st_if_ge {off : Int} (h : pj_row k pc = some (.ifCond .ge off, len, a, b, z)) {x : Int32} : pj_step k (pc, L, .int x :: st, M) = some (if 0 ≤ x then a else pc + len, L, st, M) := by
  rw [pj_step_op h rfl rfl]
  show some (if pj_cmp .ge x 0 = true then a else pc + len, L, st, M) = _
  by_cases q : 0 ≤ x <;> simp [pj_cmp, q]
theorem st_icmp_gt {off : Int} (h : pj_row k pc = some (.if_icmp .gt off, len, a, b, z)) {x y : Int32} : pj_step k (pc, L, .int y :: .int x :: st, M) = some (if y < x then a else pc + len, L, st, M) := by
  rw [pj_step_op h rfl rfl]
  show some (if pj_cmp .gt x y = true then a else pc + len, L, st, M) = _
  by_cases q : y < x <;> simp [pj_cmp, q]
theorem st_if_gt {off : Int} (h : pj_row k pc = some (.ifCond .gt off, len, a, b, z)) {x : Int32} : pj_step k (pc, L, .int x :: st, M) = some (if 0 < x then a else pc + len, L, st, M) := by
  rw [pj_step_op h rfl rfl]
  show some (if pj_cmp .gt x 0 = true then a else pc + len, L, st, M) = _
  by_cases q : 0 < x <;> simp [pj_cmp, q]
theorem st_icmp_le {off : Int} (h : pj_row k pc = some (.if_icmp .le off, len, a, b, z)) {x y : Int32} : pj_step k (pc, L, .int y :: .int x :: st, M) = some (if x ≤ y then a else pc + len, L, st, M) := by
  rw [pj_step_op h rfl rfl]
  show some (if pj_cmp .le x y = true then a else pc + len, L, st, M) = _
  by_cases q : x ≤ y <;> simp [pj_cmp, q]
theorem st_if_le {off : Int} (h : pj_row k pc = some (.ifCond .le off, len, a, b, z)) {x : Int32} : pj_step k (pc, L, .int x :: st, M) = some (if x ≤ 0 then a else pc + len, L, st, M) := by
  rw [pj_step_op h rfl rfl]
  show some (if pj_cmp .le x 0 = true then a else pc + len, L, st, M) = _
  by_cases q : x ≤ 0 <;> simp [pj_cmp, q]
theorem st_tsw {d lo hi : Int} {offs : Array Int} (h : pj_row k pc = some (.tableswitch d lo hi offs, len, a, b, z)) {x : Int32} : pj_step k (pc, L, .int x :: st, M) = pj_tsw pc L M d lo hi offs (.int x :: st) := (pj_step_op h rfl rfl).trans rfl
theorem st_lsw {d : Int} {ps : Array (Int × Int)} (h : pj_row k pc = some (.lookupswitch d ps, len, a, b, z)) {x : Int32} : pj_step k (pc, L, .int x :: st, M) = pj_lsw pc L M d ps (.int x :: st) := (pj_step_op h rfl rfl).trans rfl
theorem st_getfield {i : Nat} (h : pj_row k pc = some (.getfield i, len, a, b, z)) {o : Nat} : pj_step k (pc, L, .ref o :: st, (N, S, H)) = pj_pv (pc + len) L st (N, S, H) (pj_fld (H o) a b) := by rw [pj_step_op h rfl rfl]; show (match pj_fld (H o) a b with | some (v : Value) => some (pc + len, L, v :: st, (N, S, H)) | none => none) = _; cases pj_fld (H o) a b <;> rfl
theorem st_putfield {i : Nat} (h : pj_row k pc = some (.putfield i, len, a, b, z)) {o : Nat} {v : Value} : pj_step k (pc, L, v :: .ref o :: st, (N, S, H)) = pj_set (pc + len) L st (N, S, H) o (pj_fset (H o) a b v) := (pj_step_op h rfl rfl).trans rfl
theorem st_getstatic {i : Nat} (h : pj_row k pc = some (.getstatic i, len, a, b, z)) : pj_step k (pc, L, st, M) = some (pc + len, L, .ref a :: st, M) := (pj_step_op h rfl rfl).trans rfl
theorem st_iaload (h : pj_row k pc = some (.iaload, len, a, b, z)) {o : Nat} {i : Int32} : pj_step k (pc, L, .int i :: .ref o :: st, (N, S, H)) = pj_pi (pc + len) L st (N, S, H) (pj_arl (H o) 0 i) := by rw [pj_step_op h rfl rfl]; show (match pj_arl (H o) 0 i with | some v => some (pc + len, L, Value.int v :: st, (N, S, H)) | none => none) = _; cases pj_arl (H o) 0 i <;> rfl
theorem st_caload (h : pj_row k pc = some (.caload, len, a, b, z)) {o : Nat} {i : Int32} : pj_step k (pc, L, .int i :: .ref o :: st, (N, S, H)) = pj_pi (pc + len) L st (N, S, H) (pj_arl (H o) 1 i) := by rw [pj_step_op h rfl rfl]; show (match pj_arl (H o) 1 i with | some v => some (pc + len, L, Value.int v :: st, (N, S, H)) | none => none) = _; cases pj_arl (H o) 1 i <;> rfl
theorem st_baload (h : pj_row k pc = some (.baload, len, a, b, z)) {o : Nat} {i : Int32} : pj_step k (pc, L, .int i :: .ref o :: st, (N, S, H)) = pj_pi (pc + len) L st (N, S, H) (pj_arl (H o) 2 i) := by rw [pj_step_op h rfl rfl]; show (match pj_arl (H o) 2 i with | some v => some (pc + len, L, Value.int v :: st, (N, S, H)) | none => none) = _; cases pj_arl (H o) 2 i <;> rfl
theorem st_iastore (h : pj_row k pc = some (.iastore, len, a, b, z)) {o : Nat} {i x : Int32} : pj_step k (pc, L, .int x :: .int i :: .ref o :: st, (N, S, H)) = pj_set (pc + len) L st (N, S, H) o (pj_ars (H o) 0 i x) := (pj_step_op h rfl rfl).trans rfl
theorem st_castore (h : pj_row k pc = some (.castore, len, a, b, z)) {o : Nat} {i x : Int32} : pj_step k (pc, L, .int x :: .int i :: .ref o :: st, (N, S, H)) = pj_set (pc + len) L st (N, S, H) o (pj_ars (H o) 1 i (vp_nar .char x)) := (pj_step_op h rfl rfl).trans rfl
theorem st_bastore (h : pj_row k pc = some (.bastore, len, a, b, z)) {o : Nat} {i x : Int32} : pj_step k (pc, L, .int x :: .int i :: .ref o :: st, (N, S, H)) = pj_set (pc + len) L st (N, S, H) o (pj_ars (H o) 2 i (vp_nar .boolean x)) := (pj_step_op h rfl rfl).trans rfl
theorem st_aaload (h : pj_row k pc = some (.aaload, len, a, b, z)) {o : Nat} {i : Int32} : pj_step k (pc, L, .int i :: .ref o :: st, (N, S, H)) = pj_pv (pc + len) L st (N, S, H) (pj_qrl (H o) i) := by rw [pj_step_op h rfl rfl]; show (match pj_qrl (H o) i with | some (v : Value) => some (pc + len, L, v :: st, (N, S, H)) | none => none) = _; cases pj_qrl (H o) i <;> rfl
theorem st_aastore (h : pj_row k pc = some (.aastore, len, a, b, z)) {o x : Nat} {i : Int32} (hx : pj_isU 4 (H x) = true) : pj_step k (pc, L, .ref x :: .int i :: .ref o :: st, (N, S, H)) = pj_set (pc + len) L st (N, S, H) o (pj_qrs (H o) i x) := by rw [pj_step_op h rfl rfl]; show (if pj_isU 4 (H x) = true then _ else none) = _; rw [if_pos hx]
theorem st_arraylength (h : pj_row k pc = some (.arraylength, len, a, b, z)) {o : Nat} : pj_step k (pc, L, .ref o :: st, (N, S, H)) = pj_pi (pc + len) L st (N, S, H) (pj_len (H o)) := by rw [pj_step_op h rfl rfl]; show (match pj_len (H o) with | some v => some (pc + len, L, Value.int v :: st, (N, S, H)) | none => none) = _; cases pj_len (H o) <;> rfl
theorem st_new {i : Nat} (h : pj_row k pc = some (.new i, len, a, b, z)) : pj_step k (pc, L, st, (N, S, H)) = some (pc + len, L, .ref N :: st, (N + 1, S + (pj_dfl a).length, pj_up H N (.inl (a, pj_dfl a)))) := (pj_step_op h rfl rfl).trans rfl
theorem st_newarray {i : ArrayType} (h : pj_row k pc = some (.newarray i, len, a, b, z)) {n : Int32} {n' : Nat} (hn : ¬ n < 0) (he : n.toNatClampNeg = n') (hb : n' ≤ 100000) : pj_step k (pc, L, .int n :: st, (N, S, H)) = some (pc + len, L, .ref N :: st, (N + 1, S + n', pj_up H N (.inr (a, n', if a = 3 then .inr (fun _ => none) else .inl (fun _ => 0))))) := by
  subst he
  rw [pj_step_op h rfl rfl]
  show (if ¬ n < 0 ∧ n.toNatClampNeg ≤ 100000 then some _ else none) = _
  rw [if_pos ⟨hn, hb⟩]
theorem st_anewarray {i : Nat} (h : pj_row k pc = some (.anewarray i, len, a, b, z)) {n : Int32} {n' : Nat} (hn : ¬ n < 0) (he : n.toNatClampNeg = n') (hb : n' ≤ 100000) : pj_step k (pc, L, .int n :: st, (N, S, H)) = some (pc + len, L, .ref N :: st, (N + 1, S + n', pj_up H N (.inr (a, n', if a = 3 then .inr (fun _ => none) else .inl (fun _ => 0))))) := by
  subst he
  rw [pj_step_op h rfl rfl]
  show (if ¬ n < 0 ∧ n.toNatClampNeg ≤ 100000 then some _ else none) = _
  rw [if_pos ⟨hn, hb⟩]
theorem st_obj {i o : Nat} (h : pj_row k pc = some (.invokespecial i, len, a, b, 2)) : pj_step k (pc, L, .ref o :: st, M) = pj_g4 st (some (pc + len, L, st, M)) := (pj_step_of h _ _ _).trans rfl
theorem st_acp {i d o : Nat} {n dp sp : Int32} (h : pj_row k pc = some (.invokestatic i, len, a, b, 3)) : pj_step k (pc, L, .int n :: .int dp :: .ref d :: .int sp :: .ref o :: st, (N, S, H)) = pj_g4 st (pj_set (pc + len) L st (N, S, H) d (pj_cas (H o) (H d) sp dp n)) := (pj_step_of h _ _ _).trans rfl
theorem st_max {i : Nat} {x y : Int32} (h : pj_row k pc = some (.invokestatic i, len, a, b, 4)) : pj_step k (pc, L, .int y :: .int x :: st, M) = pj_g4 st (some (pc + len, L, .int (if x < y then y else x) :: st, M)) := (pj_step_of h _ _ _).trans rfl
theorem st_min {i : Nat} {x y : Int32} (h : pj_row k pc = some (.invokestatic i, len, a, b, 5)) : pj_step k (pc, L, .int y :: .int x :: st, M) = pj_g4 st (some (pc + len, L, .int (if y < x then y else x) :: st, M)) := (pj_step_of h _ _ _).trans rfl
theorem st_abs {i : Nat} {x : Int32} (h : pj_row k pc = some (.invokestatic i, len, a, b, 6)) : pj_step k (pc, L, .int x :: st, M) = pj_g4 st (some (pc + len, L, .int (if 0 ≤ x then x else 0 - x) :: st, M)) := (pj_step_of h _ _ _).trans rfl
variable {o : Option Value × pj_Mem} {M' : pj_Mem} {v : Option Value} {k' : Nat} {L0 : pj_Loc}
theorem ec_s0 {i : Nat}  {z : Int} (h : pj_row k pc = some (.invokestatic i, len, k', 0, z)) (hz : z = 0 ∨ z = 1) (h4 : pj_le4 st = true) (he : pj_ent k' [] = some L0) (h1 : pj_Ends k' (0, L0, [], (N, S, H)) (v, M')) (h2 : pj_Ends k (pc + len, L, v.toList ++ st, M') o) : pj_Ends k (pc, L, st, (N, S, H)) o := pj_Ends.call h rfl (by simp [pj_cl, hz, h4]) he h1 h2
theorem ec_s1 {i : Nat} {x0 : Value} {z : Int} (h : pj_row k pc = some (.invokestatic i, len, k', 1, z)) (hz : z = 0 ∨ z = 1) (h4 : pj_le4 st = true) (he : pj_ent k' [x0] = some L0) (h1 : pj_Ends k' (0, L0, [], (N, S, H)) (v, M')) (h2 : pj_Ends k (pc + len, L, v.toList ++ st, M') o) : pj_Ends k (pc, L, x0 :: st, (N, S, H)) o := pj_Ends.call h rfl (by simp [pj_cl, hz, h4]) he h1 h2
theorem ec_s2 {i : Nat} {x0 : Value} {x1 : Value} {z : Int} (h : pj_row k pc = some (.invokestatic i, len, k', 2, z)) (hz : z = 0 ∨ z = 1) (h4 : pj_le4 st = true) (he : pj_ent k' [x0, x1] = some L0) (h1 : pj_Ends k' (0, L0, [], (N, S, H)) (v, M')) (h2 : pj_Ends k (pc + len, L, v.toList ++ st, M') o) : pj_Ends k (pc, L, x1 :: x0 :: st, (N, S, H)) o := pj_Ends.call h rfl (by simp [pj_cl, hz, h4]) he h1 h2
theorem ec_s3 {i : Nat} {x0 : Value} {x1 : Value} {x2 : Value} {z : Int} (h : pj_row k pc = some (.invokestatic i, len, k', 3, z)) (hz : z = 0 ∨ z = 1) (h4 : pj_le4 st = true) (he : pj_ent k' [x0, x1, x2] = some L0) (h1 : pj_Ends k' (0, L0, [], (N, S, H)) (v, M')) (h2 : pj_Ends k (pc + len, L, v.toList ++ st, M') o) : pj_Ends k (pc, L, x2 :: x1 :: x0 :: st, (N, S, H)) o := pj_Ends.call h rfl (by simp [pj_cl, hz, h4]) he h1 h2
theorem ec_s4 {i : Nat} {x0 : Value} {x1 : Value} {x2 : Value} {x3 : Value} {z : Int} (h : pj_row k pc = some (.invokestatic i, len, k', 4, z)) (hz : z = 0 ∨ z = 1) (h4 : pj_le4 st = true) (he : pj_ent k' [x0, x1, x2, x3] = some L0) (h1 : pj_Ends k' (0, L0, [], (N, S, H)) (v, M')) (h2 : pj_Ends k (pc + len, L, v.toList ++ st, M') o) : pj_Ends k (pc, L, x3 :: x2 :: x1 :: x0 :: st, (N, S, H)) o := pj_Ends.call h rfl (by simp [pj_cl, hz, h4]) he h1 h2
theorem ec_s5 {i : Nat} {x0 : Value} {x1 : Value} {x2 : Value} {x3 : Value} {x4 : Value} {z : Int} (h : pj_row k pc = some (.invokestatic i, len, k', 5, z)) (hz : z = 0 ∨ z = 1) (h4 : pj_le4 st = true) (he : pj_ent k' [x0, x1, x2, x3, x4] = some L0) (h1 : pj_Ends k' (0, L0, [], (N, S, H)) (v, M')) (h2 : pj_Ends k (pc + len, L, v.toList ++ st, M') o) : pj_Ends k (pc, L, x4 :: x3 :: x2 :: x1 :: x0 :: st, (N, S, H)) o := pj_Ends.call h rfl (by simp [pj_cl, hz, h4]) he h1 h2
theorem ec_s6 {i : Nat} {x0 : Value} {x1 : Value} {x2 : Value} {x3 : Value} {x4 : Value} {x5 : Value} {z : Int} (h : pj_row k pc = some (.invokestatic i, len, k', 6, z)) (hz : z = 0 ∨ z = 1) (h4 : pj_le4 st = true) (he : pj_ent k' [x0, x1, x2, x3, x4, x5] = some L0) (h1 : pj_Ends k' (0, L0, [], (N, S, H)) (v, M')) (h2 : pj_Ends k (pc + len, L, v.toList ++ st, M') o) : pj_Ends k (pc, L, x5 :: x4 :: x3 :: x2 :: x1 :: x0 :: st, (N, S, H)) o := pj_Ends.call h rfl (by simp [pj_cl, hz, h4]) he h1 h2
theorem ec_v1 {i : Nat} {x0 : Nat} {z : Int} (h : pj_row k pc = some (.invokevirtual i, len, k', 1, z)) (hz : z = 0 ∨ z = 1) (h4 : pj_le4 st = true) (hu : pj_isU (pj_cn k') (H x0) = true) (he : pj_ent k' [.ref x0] = some L0) (h1 : pj_Ends k' (0, L0, [], (N, S, H)) (v, M')) (h2 : pj_Ends k (pc + len, L, v.toList ++ st, M') o) : pj_Ends k (pc, L, .ref x0 :: st, (N, S, H)) o := pj_Ends.call h rfl (by simp [pj_cl, hz, h4, hu]) he h1 h2
theorem ec_v2 {i : Nat} {x0 : Nat} {x1 : Value} {z : Int} (h : pj_row k pc = some (.invokevirtual i, len, k', 2, z)) (hz : z = 0 ∨ z = 1) (h4 : pj_le4 st = true) (hu : pj_isU (pj_cn k') (H x0) = true) (he : pj_ent k' [.ref x0, x1] = some L0) (h1 : pj_Ends k' (0, L0, [], (N, S, H)) (v, M')) (h2 : pj_Ends k (pc + len, L, v.toList ++ st, M') o) : pj_Ends k (pc, L, x1 :: .ref x0 :: st, (N, S, H)) o := pj_Ends.call h rfl (by simp [pj_cl, hz, h4, hu]) he h1 h2
theorem ec_v3 {i : Nat} {x0 : Nat} {x1 : Value} {x2 : Value} {z : Int} (h : pj_row k pc = some (.invokevirtual i, len, k', 3, z)) (hz : z = 0 ∨ z = 1) (h4 : pj_le4 st = true) (hu : pj_isU (pj_cn k') (H x0) = true) (he : pj_ent k' [.ref x0, x1, x2] = some L0) (h1 : pj_Ends k' (0, L0, [], (N, S, H)) (v, M')) (h2 : pj_Ends k (pc + len, L, v.toList ++ st, M') o) : pj_Ends k (pc, L, x2 :: x1 :: .ref x0 :: st, (N, S, H)) o := pj_Ends.call h rfl (by simp [pj_cl, hz, h4, hu]) he h1 h2
theorem ec_v4 {i : Nat} {x0 : Nat} {x1 : Value} {x2 : Value} {x3 : Value} {z : Int} (h : pj_row k pc = some (.invokevirtual i, len, k', 4, z)) (hz : z = 0 ∨ z = 1) (h4 : pj_le4 st = true) (hu : pj_isU (pj_cn k') (H x0) = true) (he : pj_ent k' [.ref x0, x1, x2, x3] = some L0) (h1 : pj_Ends k' (0, L0, [], (N, S, H)) (v, M')) (h2 : pj_Ends k (pc + len, L, v.toList ++ st, M') o) : pj_Ends k (pc, L, x3 :: x2 :: x1 :: .ref x0 :: st, (N, S, H)) o := pj_Ends.call h rfl (by simp [pj_cl, hz, h4, hu]) he h1 h2
theorem ec_v5 {i : Nat} {x0 : Nat} {x1 : Value} {x2 : Value} {x3 : Value} {x4 : Value} {z : Int} (h : pj_row k pc = some (.invokevirtual i, len, k', 5, z)) (hz : z = 0 ∨ z = 1) (h4 : pj_le4 st = true) (hu : pj_isU (pj_cn k') (H x0) = true) (he : pj_ent k' [.ref x0, x1, x2, x3, x4] = some L0) (h1 : pj_Ends k' (0, L0, [], (N, S, H)) (v, M')) (h2 : pj_Ends k (pc + len, L, v.toList ++ st, M') o) : pj_Ends k (pc, L, x4 :: x3 :: x2 :: x1 :: .ref x0 :: st, (N, S, H)) o := pj_Ends.call h rfl (by simp [pj_cl, hz, h4, hu]) he h1 h2
theorem ec_v6 {i : Nat} {x0 : Nat} {x1 : Value} {x2 : Value} {x3 : Value} {x4 : Value} {x5 : Value} {z : Int} (h : pj_row k pc = some (.invokevirtual i, len, k', 6, z)) (hz : z = 0 ∨ z = 1) (h4 : pj_le4 st = true) (hu : pj_isU (pj_cn k') (H x0) = true) (he : pj_ent k' [.ref x0, x1, x2, x3, x4, x5] = some L0) (h1 : pj_Ends k' (0, L0, [], (N, S, H)) (v, M')) (h2 : pj_Ends k (pc + len, L, v.toList ++ st, M') o) : pj_Ends k (pc, L, x5 :: x4 :: x3 :: x2 :: x1 :: .ref x0 :: st, (N, S, H)) o := pj_Ends.call h rfl (by simp [pj_cl, hz, h4, hu]) he h1 h2
theorem ec_i1 {i : Nat} {x0 : Nat} {z : Int} (h : pj_row k pc = some (.invokespecial i, len, k', 1, z)) (hz : z = 0 ∨ z = 1) (h4 : pj_le4 st = true) (he : pj_ent k' [.ref x0] = some L0) (h1 : pj_Ends k' (0, L0, [], (N, S, H)) (v, M')) (h2 : pj_Ends k (pc + len, L, v.toList ++ st, M') o) : pj_Ends k (pc, L, .ref x0 :: st, (N, S, H)) o := pj_Ends.call h rfl (by simp [pj_cl, hz, h4]) he h1 h2
theorem ec_i2 {i : Nat} {x0 : Nat} {x1 : Value} {z : Int} (h : pj_row k pc = some (.invokespecial i, len, k', 2, z)) (hz : z = 0 ∨ z = 1) (h4 : pj_le4 st = true) (he : pj_ent k' [.ref x0, x1] = some L0) (h1 : pj_Ends k' (0, L0, [], (N, S, H)) (v, M')) (h2 : pj_Ends k (pc + len, L, v.toList ++ st, M') o) : pj_Ends k (pc, L, x1 :: .ref x0 :: st, (N, S, H)) o := pj_Ends.call h rfl (by simp [pj_cl, hz, h4]) he h1 h2
theorem ec_i3 {i : Nat} {x0 : Nat} {x1 : Value} {x2 : Value} {z : Int} (h : pj_row k pc = some (.invokespecial i, len, k', 3, z)) (hz : z = 0 ∨ z = 1) (h4 : pj_le4 st = true) (he : pj_ent k' [.ref x0, x1, x2] = some L0) (h1 : pj_Ends k' (0, L0, [], (N, S, H)) (v, M')) (h2 : pj_Ends k (pc + len, L, v.toList ++ st, M') o) : pj_Ends k (pc, L, x2 :: x1 :: .ref x0 :: st, (N, S, H)) o := pj_Ends.call h rfl (by simp [pj_cl, hz, h4]) he h1 h2
theorem ec_i4 {i : Nat} {x0 : Nat} {x1 : Value} {x2 : Value} {x3 : Value} {z : Int} (h : pj_row k pc = some (.invokespecial i, len, k', 4, z)) (hz : z = 0 ∨ z = 1) (h4 : pj_le4 st = true) (he : pj_ent k' [.ref x0, x1, x2, x3] = some L0) (h1 : pj_Ends k' (0, L0, [], (N, S, H)) (v, M')) (h2 : pj_Ends k (pc + len, L, v.toList ++ st, M') o) : pj_Ends k (pc, L, x3 :: x2 :: x1 :: .ref x0 :: st, (N, S, H)) o := pj_Ends.call h rfl (by simp [pj_cl, hz, h4]) he h1 h2
theorem ec_i5 {i : Nat} {x0 : Nat} {x1 : Value} {x2 : Value} {x3 : Value} {x4 : Value} {z : Int} (h : pj_row k pc = some (.invokespecial i, len, k', 5, z)) (hz : z = 0 ∨ z = 1) (h4 : pj_le4 st = true) (he : pj_ent k' [.ref x0, x1, x2, x3, x4] = some L0) (h1 : pj_Ends k' (0, L0, [], (N, S, H)) (v, M')) (h2 : pj_Ends k (pc + len, L, v.toList ++ st, M') o) : pj_Ends k (pc, L, x4 :: x3 :: x2 :: x1 :: .ref x0 :: st, (N, S, H)) o := pj_Ends.call h rfl (by simp [pj_cl, hz, h4]) he h1 h2
theorem ec_i6 {i : Nat} {x0 : Nat} {x1 : Value} {x2 : Value} {x3 : Value} {x4 : Value} {x5 : Value} {z : Int} (h : pj_row k pc = some (.invokespecial i, len, k', 6, z)) (hz : z = 0 ∨ z = 1) (h4 : pj_le4 st = true) (he : pj_ent k' [.ref x0, x1, x2, x3, x4, x5] = some L0) (h1 : pj_Ends k' (0, L0, [], (N, S, H)) (v, M')) (h2 : pj_Ends k (pc + len, L, v.toList ++ st, M') o) : pj_Ends k (pc, L, x5 :: x4 :: x3 :: x2 :: x1 :: .ref x0 :: st, (N, S, H)) o := pj_Ends.call h rfl (by simp [pj_cl, hz, h4]) he h1 h2
end ST
theorem pj_g4_0 {x : Option pj_Cfg} : pj_g4 [] x = x := rfl
theorem pj_g4_1 {x : Option pj_Cfg} {a : Value} : pj_g4 [a] x = x := rfl
theorem pj_g4_2 {x : Option pj_Cfg} {a b : Value} : pj_g4 [a, b] x = x := rfl
theorem pj_g4_3 {x : Option pj_Cfg} {a b c : Value} : pj_g4 [a, b, c] x = x := rfl
theorem pj_g4_4 {x : Option pj_Cfg} {a b c d : Value} : pj_g4 [a, b, c, d] x = x := rfl
theorem pj_pv_s {pc : Nat} {L : pj_Loc} {st : List Value} {M : pj_Mem} {v : Value} : pj_pv pc L st M (some v) = some (pc, L, v :: st, M) := rfl
theorem pj_pi_s {pc : Nat} {L : pj_Loc} {st : List Value} {M : pj_Mem} {v : Int32} : pj_pi pc L st M (some v) = some (pc, L, .int v :: st, M) := rfl
theorem pj_set_s {pc o N S : Nat} {L : pj_Loc} {st : List Value} {H : pj_Heap} {c : pj_Cell} : pj_set pc L st (N, S, H) o (some c) = some (pc, L, st, (N, S, pj_up H o c)) := rfl
theorem pj_arl_i {n : Nat} {f : Nat → Int32} {u : Nat} {i : Int32} (h : pj_in i n = true) : pj_arl (.inr (u, n, .inl f)) u i = some (f i.toNatClampNeg) := if_pos ⟨Or.inl rfl, h⟩
theorem pj_arl_r {n : Nat} {f : Nat → Int32} {i : Int32} (h : pj_in i n = true) : pj_arl (.inr (4, n, .inl f)) 0 i = some (f i.toNatClampNeg) := if_pos ⟨Or.inr ⟨rfl, rfl⟩, h⟩
theorem pj_ars_i {n : Nat} {f : Nat → Int32} {u : Nat} {i x : Int32} (h : pj_in i n = true) : pj_ars (.inr (u, n, .inl f)) u i x = some (.inr (u, n, .inl (upd f i.toNatClampNeg x))) := if_pos ⟨rfl, h⟩
theorem pj_qrl_i {n : Nat} {f : Nat → Option Nat} {i : Int32} (h : pj_in i n = true) : pj_qrl (.inr (3, n, .inr f)) i = some (va_rf (f i.toNatClampNeg)) := if_pos ⟨rfl, h⟩
theorem pj_qrs_i {n x : Nat} {f : Nat → Option Nat} {i : Int32} (h : pj_in i n = true) : pj_qrs (.inr (3, n, .inr f)) i x = some (.inr (3, n, .inr (va_up f i.toNatClampNeg (some x)))) := if_pos ⟨rfl, h⟩
theorem pj_len_i {t n : Nat} {x : pj_Arr} : pj_len (.inr (t, n, x)) = some (Int32.ofNat n) := rfl
theorem pj_up_eq {H : pj_Heap} {a : Nat} {c : pj_Cell} : pj_up H a c a = c := if_pos rfl
theorem pj_up_ne {H : pj_Heap} {a b : Nat} {c : pj_Cell} (h : b ≠ a) : pj_up H a c b = H b := if_neg h
theorem pj_up_ap {H : pj_Heap} {a b : Nat} {c : pj_Cell} : pj_up H a c b = if b = a then c else H b := rfl
theorem pj_then_s {k : Nat} {o : Option Value × pj_Mem} {g : pj_Cfg} : pj_then k o (some g) = pj_Ends k g o := rfl
theorem pj_steps_0 {k : Nat} {g : pj_Cfg} : pj_steps 0 k g = some g := rfl
theorem pj_fit_int {x : Int32} : pj_fit .int (.int x) = true := by simp [pj_fit, narrow, fits]
theorem pj_fit_obj {C : String} {x : Nat} : pj_fit (.object C) (.ref x) = true := by simp [pj_fit, narrow, fits]
theorem pj_fit_arr {t : FieldType} {x : Nat} : pj_fit (.array t) (.ref x) = true := by simp [pj_fit, narrow, fits]
theorem pj_f0_0 {v0 : Value} {l : List Value} : pj_fld (.inl (0, v0 :: l)) 0 0 = some v0 := rfl
theorem pj_s0_0 {v0 v1 v2 : Value} {x : Nat} : pj_fset (.inl (0, [v0, v1, v2])) 0 0 (.ref x) = some (.inl (0, [.ref x, v1, v2])) := if_pos ⟨rfl, (by decide : 0 < 3), pj_fit_arr⟩
theorem pj_f0_1 {v0 v1 : Value} {l : List Value} : pj_fld (.inl (0, v0 :: v1 :: l)) 0 1 = some v1 := rfl
theorem pj_s0_1 {v0 v1 v2 : Value} {x : Nat} : pj_fset (.inl (0, [v0, v1, v2])) 0 1 (.ref x) = some (.inl (0, [v0, .ref x, v2])) := if_pos ⟨rfl, (by decide : 1 < 3), pj_fit_obj⟩
theorem pj_f0_2 {v0 v1 v2 : Value} {l : List Value} : pj_fld (.inl (0, v0 :: v1 :: v2 :: l)) 0 2 = some v2 := rfl
theorem pj_s0_2 {v0 v1 v2 : Value} {x : Int32} : pj_fset (.inl (0, [v0, v1, v2])) 0 2 (.int x) = some (.inl (0, [v0, v1, .int x])) := if_pos ⟨rfl, (by decide : 2 < 3), pj_fit_int⟩
theorem pj_f1_0 {v0 : Value} {l : List Value} : pj_fld (.inl (1, v0 :: l)) 1 0 = some v0 := rfl
theorem pj_s1_0 {v0 v1 v2 v3 v4 v5 : Value} {x : Nat} : pj_fset (.inl (1, [v0, v1, v2, v3, v4, v5])) 1 0 (.ref x) = some (.inl (1, [.ref x, v1, v2, v3, v4, v5])) := if_pos ⟨rfl, (by decide : 0 < 6), pj_fit_arr⟩
theorem pj_f1_1 {v0 v1 : Value} {l : List Value} : pj_fld (.inl (1, v0 :: v1 :: l)) 1 1 = some v1 := rfl
theorem pj_s1_1 {v0 v1 v2 v3 v4 v5 : Value} {x : Int32} (hx : x = 0 ∨ x = 1) : pj_fset (.inl (1, [v0, v1, v2, v3, v4, v5])) 1 1 (.int x) = some (.inl (1, [v0, .int x, v2, v3, v4, v5])) := if_pos ⟨rfl, (by decide : 1 < 6), (by rcases hx with rfl | rfl <;> decide)⟩
theorem pj_f1_2 {v0 v1 v2 : Value} {l : List Value} : pj_fld (.inl (1, v0 :: v1 :: v2 :: l)) 1 2 = some v2 := rfl
theorem pj_s1_2 {v0 v1 v2 v3 v4 v5 : Value} {x : Int32} : pj_fset (.inl (1, [v0, v1, v2, v3, v4, v5])) 1 2 (.int x) = some (.inl (1, [v0, v1, .int x, v3, v4, v5])) := if_pos ⟨rfl, (by decide : 2 < 6), pj_fit_int⟩
theorem pj_f1_3 {v0 v1 v2 v3 : Value} {l : List Value} : pj_fld (.inl (1, v0 :: v1 :: v2 :: v3 :: l)) 1 3 = some v3 := rfl
theorem pj_s1_3 {v0 v1 v2 v3 v4 v5 : Value} {x : Int32} : pj_fset (.inl (1, [v0, v1, v2, v3, v4, v5])) 1 3 (.int x) = some (.inl (1, [v0, v1, v2, .int x, v4, v5])) := if_pos ⟨rfl, (by decide : 3 < 6), pj_fit_int⟩
theorem pj_f1_4 {v0 v1 v2 v3 v4 : Value} {l : List Value} : pj_fld (.inl (1, v0 :: v1 :: v2 :: v3 :: v4 :: l)) 1 4 = some v4 := rfl
theorem pj_s1_4 {v0 v1 v2 v3 v4 v5 : Value} {x : Int32} (hx : x = 0 ∨ x = 1) : pj_fset (.inl (1, [v0, v1, v2, v3, v4, v5])) 1 4 (.int x) = some (.inl (1, [v0, v1, v2, v3, .int x, v5])) := if_pos ⟨rfl, (by decide : 4 < 6), (by rcases hx with rfl | rfl <;> decide)⟩
theorem pj_f1_5 {v0 v1 v2 v3 v4 v5 : Value} {l : List Value} : pj_fld (.inl (1, v0 :: v1 :: v2 :: v3 :: v4 :: v5 :: l)) 1 5 = some v5 := rfl
theorem pj_s1_5 {v0 v1 v2 v3 v4 v5 : Value} {x : Int32} : pj_fset (.inl (1, [v0, v1, v2, v3, v4, v5])) 1 5 (.int x) = some (.inl (1, [v0, v1, v2, v3, v4, .int x])) := if_pos ⟨rfl, (by decide : 5 < 6), pj_fit_int⟩
theorem pj_f2_0 {v0 : Value} {l : List Value} : pj_fld (.inl (2, v0 :: l)) 2 0 = some v0 := rfl
theorem pj_s2_0 {v0 v1 v2 : Value} {x : Nat} : pj_fset (.inl (2, [v0, v1, v2])) 2 0 (.ref x) = some (.inl (2, [.ref x, v1, v2])) := if_pos ⟨rfl, (by decide : 0 < 3), pj_fit_arr⟩
theorem pj_f2_1 {v0 v1 : Value} {l : List Value} : pj_fld (.inl (2, v0 :: v1 :: l)) 2 1 = some v1 := rfl
theorem pj_s2_1 {v0 v1 v2 : Value} {x : Int32} : pj_fset (.inl (2, [v0, v1, v2])) 2 1 (.int x) = some (.inl (2, [v0, .int x, v2])) := if_pos ⟨rfl, (by decide : 1 < 3), pj_fit_int⟩
theorem pj_f2_2 {v0 v1 v2 : Value} {l : List Value} : pj_fld (.inl (2, v0 :: v1 :: v2 :: l)) 2 2 = some v2 := rfl
theorem pj_s2_2 {v0 v1 v2 : Value} {x : Int32} : pj_fset (.inl (2, [v0, v1, v2])) 2 2 (.int x) = some (.inl (2, [v0, v1, .int x])) := if_pos ⟨rfl, (by decide : 2 < 3), pj_fit_int⟩
theorem pj_f3_0 {v0 : Value} {l : List Value} : pj_fld (.inl (3, v0 :: l)) 3 0 = some v0 := rfl
theorem pj_s3_0 {v0 v1 v2 v3 v4 v5 v6 v7 v8 v9 v10 v11 v12 v13 : Value} {x : Nat} : pj_fset (.inl (3, [v0, v1, v2, v3, v4, v5, v6, v7, v8, v9, v10, v11, v12, v13])) 3 0 (.ref x) = some (.inl (3, [.ref x, v1, v2, v3, v4, v5, v6, v7, v8, v9, v10, v11, v12, v13])) := if_pos ⟨rfl, (by decide : 0 < 14), pj_fit_arr⟩
theorem pj_f3_1 {v0 v1 : Value} {l : List Value} : pj_fld (.inl (3, v0 :: v1 :: l)) 3 1 = some v1 := rfl
theorem pj_s3_1 {v0 v1 v2 v3 v4 v5 v6 v7 v8 v9 v10 v11 v12 v13 : Value} {x : Nat} : pj_fset (.inl (3, [v0, v1, v2, v3, v4, v5, v6, v7, v8, v9, v10, v11, v12, v13])) 3 1 (.ref x) = some (.inl (3, [v0, .ref x, v2, v3, v4, v5, v6, v7, v8, v9, v10, v11, v12, v13])) := if_pos ⟨rfl, (by decide : 1 < 14), pj_fit_arr⟩
theorem pj_f3_2 {v0 v1 v2 : Value} {l : List Value} : pj_fld (.inl (3, v0 :: v1 :: v2 :: l)) 3 2 = some v2 := rfl
theorem pj_s3_2 {v0 v1 v2 v3 v4 v5 v6 v7 v8 v9 v10 v11 v12 v13 : Value} {x : Nat} : pj_fset (.inl (3, [v0, v1, v2, v3, v4, v5, v6, v7, v8, v9, v10, v11, v12, v13])) 3 2 (.ref x) = some (.inl (3, [v0, v1, .ref x, v3, v4, v5, v6, v7, v8, v9, v10, v11, v12, v13])) := if_pos ⟨rfl, (by decide : 2 < 14), pj_fit_arr⟩
theorem pj_f3_3 {v0 v1 v2 v3 : Value} {l : List Value} : pj_fld (.inl (3, v0 :: v1 :: v2 :: v3 :: l)) 3 3 = some v3 := rfl
theorem pj_s3_3 {v0 v1 v2 v3 v4 v5 v6 v7 v8 v9 v10 v11 v12 v13 : Value} {x : Nat} : pj_fset (.inl (3, [v0, v1, v2, v3, v4, v5, v6, v7, v8, v9, v10, v11, v12, v13])) 3 3 (.ref x) = some (.inl (3, [v0, v1, v2, .ref x, v4, v5, v6, v7, v8, v9, v10, v11, v12, v13])) := if_pos ⟨rfl, (by decide : 3 < 14), pj_fit_arr⟩
theorem pj_f3_4 {v0 v1 v2 v3 v4 : Value} {l : List Value} : pj_fld (.inl (3, v0 :: v1 :: v2 :: v3 :: v4 :: l)) 3 4 = some v4 := rfl
theorem pj_s3_4 {v0 v1 v2 v3 v4 v5 v6 v7 v8 v9 v10 v11 v12 v13 : Value} {x : Nat} : pj_fset (.inl (3, [v0, v1, v2, v3, v4, v5, v6, v7, v8, v9, v10, v11, v12, v13])) 3 4 (.ref x) = some (.inl (3, [v0, v1, v2, v3, .ref x, v5, v6, v7, v8, v9, v10, v11, v12, v13])) := if_pos ⟨rfl, (by decide : 4 < 14), pj_fit_arr⟩
theorem pj_f3_5 {v0 v1 v2 v3 v4 v5 : Value} {l : List Value} : pj_fld (.inl (3, v0 :: v1 :: v2 :: v3 :: v4 :: v5 :: l)) 3 5 = some v5 := rfl
theorem pj_s3_5 {v0 v1 v2 v3 v4 v5 v6 v7 v8 v9 v10 v11 v12 v13 : Value} {x : Nat} : pj_fset (.inl (3, [v0, v1, v2, v3, v4, v5, v6, v7, v8, v9, v10, v11, v12, v13])) 3 5 (.ref x) = some (.inl (3, [v0, v1, v2, v3, v4, .ref x, v6, v7, v8, v9, v10, v11, v12, v13])) := if_pos ⟨rfl, (by decide : 5 < 14), pj_fit_arr⟩
theorem pj_f3_6 {v0 v1 v2 v3 v4 v5 v6 : Value} {l : List Value} : pj_fld (.inl (3, v0 :: v1 :: v2 :: v3 :: v4 :: v5 :: v6 :: l)) 3 6 = some v6 := rfl
theorem pj_s3_6 {v0 v1 v2 v3 v4 v5 v6 v7 v8 v9 v10 v11 v12 v13 : Value} {x : Int32} (hx : x = 0 ∨ x = 1) : pj_fset (.inl (3, [v0, v1, v2, v3, v4, v5, v6, v7, v8, v9, v10, v11, v12, v13])) 3 6 (.int x) = some (.inl (3, [v0, v1, v2, v3, v4, v5, .int x, v7, v8, v9, v10, v11, v12, v13])) := if_pos ⟨rfl, (by decide : 6 < 14), (by rcases hx with rfl | rfl <;> decide)⟩
theorem pj_f3_7 {v0 v1 v2 v3 v4 v5 v6 v7 : Value} {l : List Value} : pj_fld (.inl (3, v0 :: v1 :: v2 :: v3 :: v4 :: v5 :: v6 :: v7 :: l)) 3 7 = some v7 := rfl
theorem pj_s3_7 {v0 v1 v2 v3 v4 v5 v6 v7 v8 v9 v10 v11 v12 v13 : Value} {x : Int32} : pj_fset (.inl (3, [v0, v1, v2, v3, v4, v5, v6, v7, v8, v9, v10, v11, v12, v13])) 3 7 (.int x) = some (.inl (3, [v0, v1, v2, v3, v4, v5, v6, .int x, v8, v9, v10, v11, v12, v13])) := if_pos ⟨rfl, (by decide : 7 < 14), pj_fit_int⟩
theorem pj_f3_8 {v0 v1 v2 v3 v4 v5 v6 v7 v8 : Value} {l : List Value} : pj_fld (.inl (3, v0 :: v1 :: v2 :: v3 :: v4 :: v5 :: v6 :: v7 :: v8 :: l)) 3 8 = some v8 := rfl
theorem pj_s3_8 {v0 v1 v2 v3 v4 v5 v6 v7 v8 v9 v10 v11 v12 v13 : Value} {x : Int32} : pj_fset (.inl (3, [v0, v1, v2, v3, v4, v5, v6, v7, v8, v9, v10, v11, v12, v13])) 3 8 (.int x) = some (.inl (3, [v0, v1, v2, v3, v4, v5, v6, v7, .int x, v9, v10, v11, v12, v13])) := if_pos ⟨rfl, (by decide : 8 < 14), pj_fit_int⟩
theorem pj_f3_9 {v0 v1 v2 v3 v4 v5 v6 v7 v8 v9 : Value} {l : List Value} : pj_fld (.inl (3, v0 :: v1 :: v2 :: v3 :: v4 :: v5 :: v6 :: v7 :: v8 :: v9 :: l)) 3 9 = some v9 := rfl
theorem pj_s3_9 {v0 v1 v2 v3 v4 v5 v6 v7 v8 v9 v10 v11 v12 v13 : Value} {x : Int32} : pj_fset (.inl (3, [v0, v1, v2, v3, v4, v5, v6, v7, v8, v9, v10, v11, v12, v13])) 3 9 (.int x) = some (.inl (3, [v0, v1, v2, v3, v4, v5, v6, v7, v8, .int x, v10, v11, v12, v13])) := if_pos ⟨rfl, (by decide : 9 < 14), pj_fit_int⟩
theorem pj_f3_10 {v0 v1 v2 v3 v4 v5 v6 v7 v8 v9 v10 : Value} {l : List Value} : pj_fld (.inl (3, v0 :: v1 :: v2 :: v3 :: v4 :: v5 :: v6 :: v7 :: v8 :: v9 :: v10 :: l)) 3 10 = some v10 := rfl
theorem pj_s3_10 {v0 v1 v2 v3 v4 v5 v6 v7 v8 v9 v10 v11 v12 v13 : Value} {x : Int32} : pj_fset (.inl (3, [v0, v1, v2, v3, v4, v5, v6, v7, v8, v9, v10, v11, v12, v13])) 3 10 (.int x) = some (.inl (3, [v0, v1, v2, v3, v4, v5, v6, v7, v8, v9, .int x, v11, v12, v13])) := if_pos ⟨rfl, (by decide : 10 < 14), pj_fit_int⟩
theorem pj_f3_11 {v0 v1 v2 v3 v4 v5 v6 v7 v8 v9 v10 v11 : Value} {l : List Value} : pj_fld (.inl (3, v0 :: v1 :: v2 :: v3 :: v4 :: v5 :: v6 :: v7 :: v8 :: v9 :: v10 :: v11 :: l)) 3 11 = some v11 := rfl
theorem pj_s3_11 {v0 v1 v2 v3 v4 v5 v6 v7 v8 v9 v10 v11 v12 v13 : Value} {x : Int32} : pj_fset (.inl (3, [v0, v1, v2, v3, v4, v5, v6, v7, v8, v9, v10, v11, v12, v13])) 3 11 (.int x) = some (.inl (3, [v0, v1, v2, v3, v4, v5, v6, v7, v8, v9, v10, .int x, v12, v13])) := if_pos ⟨rfl, (by decide : 11 < 14), pj_fit_int⟩
theorem pj_f3_12 {v0 v1 v2 v3 v4 v5 v6 v7 v8 v9 v10 v11 v12 : Value} {l : List Value} : pj_fld (.inl (3, v0 :: v1 :: v2 :: v3 :: v4 :: v5 :: v6 :: v7 :: v8 :: v9 :: v10 :: v11 :: v12 :: l)) 3 12 = some v12 := rfl
theorem pj_s3_12 {v0 v1 v2 v3 v4 v5 v6 v7 v8 v9 v10 v11 v12 v13 : Value} {x : Int32} : pj_fset (.inl (3, [v0, v1, v2, v3, v4, v5, v6, v7, v8, v9, v10, v11, v12, v13])) 3 12 (.int x) = some (.inl (3, [v0, v1, v2, v3, v4, v5, v6, v7, v8, v9, v10, v11, .int x, v13])) := if_pos ⟨rfl, (by decide : 12 < 14), pj_fit_int⟩
theorem pj_f3_13 {v0 v1 v2 v3 v4 v5 v6 v7 v8 v9 v10 v11 v12 v13 : Value} {l : List Value} : pj_fld (.inl (3, v0 :: v1 :: v2 :: v3 :: v4 :: v5 :: v6 :: v7 :: v8 :: v9 :: v10 :: v11 :: v12 :: v13 :: l)) 3 13 = some v13 := rfl
theorem pj_s3_13 {v0 v1 v2 v3 v4 v5 v6 v7 v8 v9 v10 v11 v12 v13 : Value} {x : Int32} : pj_fset (.inl (3, [v0, v1, v2, v3, v4, v5, v6, v7, v8, v9, v10, v11, v12, v13])) 3 13 (.int x) = some (.inl (3, [v0, v1, v2, v3, v4, v5, v6, v7, v8, v9, v10, v11, v12, .int x])) := if_pos ⟨rfl, (by decide : 13 < 14), pj_fit_int⟩
theorem pj_f4_0 {v0 : Value} {l : List Value} : pj_fld (.inl (4, v0 :: l)) 4 0 = some v0 := rfl
theorem pj_s4_0 {v0 v1 v2 v3 v4 v5 v6 v7 v8 v9 v10 : Value} {x : Nat} : pj_fset (.inl (4, [v0, v1, v2, v3, v4, v5, v6, v7, v8, v9, v10])) 4 0 (.ref x) = some (.inl (4, [.ref x, v1, v2, v3, v4, v5, v6, v7, v8, v9, v10])) := if_pos ⟨rfl, (by decide : 0 < 11), pj_fit_arr⟩
theorem pj_f4_1 {v0 v1 : Value} {l : List Value} : pj_fld (.inl (4, v0 :: v1 :: l)) 4 1 = some v1 := rfl
theorem pj_s4_1 {v0 v1 v2 v3 v4 v5 v6 v7 v8 v9 v10 : Value} {x : Nat} : pj_fset (.inl (4, [v0, v1, v2, v3, v4, v5, v6, v7, v8, v9, v10])) 4 1 (.ref x) = some (.inl (4, [v0, .ref x, v2, v3, v4, v5, v6, v7, v8, v9, v10])) := if_pos ⟨rfl, (by decide : 1 < 11), pj_fit_arr⟩
theorem pj_f4_2 {v0 v1 v2 : Value} {l : List Value} : pj_fld (.inl (4, v0 :: v1 :: v2 :: l)) 4 2 = some v2 := rfl
theorem pj_s4_2 {v0 v1 v2 v3 v4 v5 v6 v7 v8 v9 v10 : Value} {x : Nat} : pj_fset (.inl (4, [v0, v1, v2, v3, v4, v5, v6, v7, v8, v9, v10])) 4 2 (.ref x) = some (.inl (4, [v0, v1, .ref x, v3, v4, v5, v6, v7, v8, v9, v10])) := if_pos ⟨rfl, (by decide : 2 < 11), pj_fit_arr⟩
theorem pj_f4_3 {v0 v1 v2 v3 : Value} {l : List Value} : pj_fld (.inl (4, v0 :: v1 :: v2 :: v3 :: l)) 4 3 = some v3 := rfl
theorem pj_s4_3 {v0 v1 v2 v3 v4 v5 v6 v7 v8 v9 v10 : Value} {x : Nat} : pj_fset (.inl (4, [v0, v1, v2, v3, v4, v5, v6, v7, v8, v9, v10])) 4 3 (.ref x) = some (.inl (4, [v0, v1, v2, .ref x, v4, v5, v6, v7, v8, v9, v10])) := if_pos ⟨rfl, (by decide : 3 < 11), pj_fit_arr⟩
theorem pj_f4_4 {v0 v1 v2 v3 v4 : Value} {l : List Value} : pj_fld (.inl (4, v0 :: v1 :: v2 :: v3 :: v4 :: l)) 4 4 = some v4 := rfl
theorem pj_s4_4 {v0 v1 v2 v3 v4 v5 v6 v7 v8 v9 v10 : Value} {x : Nat} : pj_fset (.inl (4, [v0, v1, v2, v3, v4, v5, v6, v7, v8, v9, v10])) 4 4 (.ref x) = some (.inl (4, [v0, v1, v2, v3, .ref x, v5, v6, v7, v8, v9, v10])) := if_pos ⟨rfl, (by decide : 4 < 11), pj_fit_arr⟩
theorem pj_f4_5 {v0 v1 v2 v3 v4 v5 : Value} {l : List Value} : pj_fld (.inl (4, v0 :: v1 :: v2 :: v3 :: v4 :: v5 :: l)) 4 5 = some v5 := rfl
theorem pj_s4_5 {v0 v1 v2 v3 v4 v5 v6 v7 v8 v9 v10 : Value} {x : Nat} : pj_fset (.inl (4, [v0, v1, v2, v3, v4, v5, v6, v7, v8, v9, v10])) 4 5 (.ref x) = some (.inl (4, [v0, v1, v2, v3, v4, .ref x, v6, v7, v8, v9, v10])) := if_pos ⟨rfl, (by decide : 5 < 11), pj_fit_arr⟩
theorem pj_f4_6 {v0 v1 v2 v3 v4 v5 v6 : Value} {l : List Value} : pj_fld (.inl (4, v0 :: v1 :: v2 :: v3 :: v4 :: v5 :: v6 :: l)) 4 6 = some v6 := rfl
theorem pj_s4_6 {v0 v1 v2 v3 v4 v5 v6 v7 v8 v9 v10 : Value} {x : Nat} : pj_fset (.inl (4, [v0, v1, v2, v3, v4, v5, v6, v7, v8, v9, v10])) 4 6 (.ref x) = some (.inl (4, [v0, v1, v2, v3, v4, v5, .ref x, v7, v8, v9, v10])) := if_pos ⟨rfl, (by decide : 6 < 11), pj_fit_obj⟩
theorem pj_f4_7 {v0 v1 v2 v3 v4 v5 v6 v7 : Value} {l : List Value} : pj_fld (.inl (4, v0 :: v1 :: v2 :: v3 :: v4 :: v5 :: v6 :: v7 :: l)) 4 7 = some v7 := rfl
theorem pj_s4_7 {v0 v1 v2 v3 v4 v5 v6 v7 v8 v9 v10 : Value} {x : Int32} : pj_fset (.inl (4, [v0, v1, v2, v3, v4, v5, v6, v7, v8, v9, v10])) 4 7 (.int x) = some (.inl (4, [v0, v1, v2, v3, v4, v5, v6, .int x, v8, v9, v10])) := if_pos ⟨rfl, (by decide : 7 < 11), pj_fit_int⟩
theorem pj_f4_8 {v0 v1 v2 v3 v4 v5 v6 v7 v8 : Value} {l : List Value} : pj_fld (.inl (4, v0 :: v1 :: v2 :: v3 :: v4 :: v5 :: v6 :: v7 :: v8 :: l)) 4 8 = some v8 := rfl
theorem pj_s4_8 {v0 v1 v2 v3 v4 v5 v6 v7 v8 v9 v10 : Value} {x : Int32} : pj_fset (.inl (4, [v0, v1, v2, v3, v4, v5, v6, v7, v8, v9, v10])) 4 8 (.int x) = some (.inl (4, [v0, v1, v2, v3, v4, v5, v6, v7, .int x, v9, v10])) := if_pos ⟨rfl, (by decide : 8 < 11), pj_fit_int⟩
theorem pj_f4_9 {v0 v1 v2 v3 v4 v5 v6 v7 v8 v9 : Value} {l : List Value} : pj_fld (.inl (4, v0 :: v1 :: v2 :: v3 :: v4 :: v5 :: v6 :: v7 :: v8 :: v9 :: l)) 4 9 = some v9 := rfl
theorem pj_s4_9 {v0 v1 v2 v3 v4 v5 v6 v7 v8 v9 v10 : Value} {x : Int32} : pj_fset (.inl (4, [v0, v1, v2, v3, v4, v5, v6, v7, v8, v9, v10])) 4 9 (.int x) = some (.inl (4, [v0, v1, v2, v3, v4, v5, v6, v7, v8, .int x, v10])) := if_pos ⟨rfl, (by decide : 9 < 11), pj_fit_int⟩
theorem pj_f4_10 {v0 v1 v2 v3 v4 v5 v6 v7 v8 v9 v10 : Value} {l : List Value} : pj_fld (.inl (4, v0 :: v1 :: v2 :: v3 :: v4 :: v5 :: v6 :: v7 :: v8 :: v9 :: v10 :: l)) 4 10 = some v10 := rfl
theorem pj_s4_10 {v0 v1 v2 v3 v4 v5 v6 v7 v8 v9 v10 : Value} {x : Int32} : pj_fset (.inl (4, [v0, v1, v2, v3, v4, v5, v6, v7, v8, v9, v10])) 4 10 (.int x) = some (.inl (4, [v0, v1, v2, v3, v4, v5, v6, v7, v8, v9, .int x])) := if_pos ⟨rfl, (by decide : 10 < 11), pj_fit_int⟩
theorem pj_f5_0 {v0 : Value} {l : List Value} : pj_fld (.inl (5, v0 :: l)) 5 0 = some v0 := rfl
theorem pj_s5_0 {v0 v1 v2 v3 v4 v5 v6 v7 : Value} {x : Nat} : pj_fset (.inl (5, [v0, v1, v2, v3, v4, v5, v6, v7])) 5 0 (.ref x) = some (.inl (5, [.ref x, v1, v2, v3, v4, v5, v6, v7])) := if_pos ⟨rfl, (by decide : 0 < 8), pj_fit_obj⟩
theorem pj_f5_1 {v0 v1 : Value} {l : List Value} : pj_fld (.inl (5, v0 :: v1 :: l)) 5 1 = some v1 := rfl
theorem pj_s5_1 {v0 v1 v2 v3 v4 v5 v6 v7 : Value} {x : Nat} : pj_fset (.inl (5, [v0, v1, v2, v3, v4, v5, v6, v7])) 5 1 (.ref x) = some (.inl (5, [v0, .ref x, v2, v3, v4, v5, v6, v7])) := if_pos ⟨rfl, (by decide : 1 < 8), pj_fit_obj⟩
theorem pj_f5_2 {v0 v1 v2 : Value} {l : List Value} : pj_fld (.inl (5, v0 :: v1 :: v2 :: l)) 5 2 = some v2 := rfl
theorem pj_s5_2 {v0 v1 v2 v3 v4 v5 v6 v7 : Value} {x : Nat} : pj_fset (.inl (5, [v0, v1, v2, v3, v4, v5, v6, v7])) 5 2 (.ref x) = some (.inl (5, [v0, v1, .ref x, v3, v4, v5, v6, v7])) := if_pos ⟨rfl, (by decide : 2 < 8), pj_fit_obj⟩
theorem pj_f5_3 {v0 v1 v2 v3 : Value} {l : List Value} : pj_fld (.inl (5, v0 :: v1 :: v2 :: v3 :: l)) 5 3 = some v3 := rfl
theorem pj_s5_3 {v0 v1 v2 v3 v4 v5 v6 v7 : Value} {x : Nat} : pj_fset (.inl (5, [v0, v1, v2, v3, v4, v5, v6, v7])) 5 3 (.ref x) = some (.inl (5, [v0, v1, v2, .ref x, v4, v5, v6, v7])) := if_pos ⟨rfl, (by decide : 3 < 8), pj_fit_obj⟩
theorem pj_f5_4 {v0 v1 v2 v3 v4 : Value} {l : List Value} : pj_fld (.inl (5, v0 :: v1 :: v2 :: v3 :: v4 :: l)) 5 4 = some v4 := rfl
theorem pj_s5_4 {v0 v1 v2 v3 v4 v5 v6 v7 : Value} {x : Nat} : pj_fset (.inl (5, [v0, v1, v2, v3, v4, v5, v6, v7])) 5 4 (.ref x) = some (.inl (5, [v0, v1, v2, v3, .ref x, v5, v6, v7])) := if_pos ⟨rfl, (by decide : 4 < 8), pj_fit_arr⟩
theorem pj_f5_5 {v0 v1 v2 v3 v4 v5 : Value} {l : List Value} : pj_fld (.inl (5, v0 :: v1 :: v2 :: v3 :: v4 :: v5 :: l)) 5 5 = some v5 := rfl
theorem pj_s5_5 {v0 v1 v2 v3 v4 v5 v6 v7 : Value} {x : Int32} : pj_fset (.inl (5, [v0, v1, v2, v3, v4, v5, v6, v7])) 5 5 (.int x) = some (.inl (5, [v0, v1, v2, v3, v4, .int x, v6, v7])) := if_pos ⟨rfl, (by decide : 5 < 8), pj_fit_int⟩
theorem pj_f5_6 {v0 v1 v2 v3 v4 v5 v6 : Value} {l : List Value} : pj_fld (.inl (5, v0 :: v1 :: v2 :: v3 :: v4 :: v5 :: v6 :: l)) 5 6 = some v6 := rfl
theorem pj_s5_6 {v0 v1 v2 v3 v4 v5 v6 v7 : Value} {x : Nat} : pj_fset (.inl (5, [v0, v1, v2, v3, v4, v5, v6, v7])) 5 6 (.ref x) = some (.inl (5, [v0, v1, v2, v3, v4, v5, .ref x, v7])) := if_pos ⟨rfl, (by decide : 6 < 8), pj_fit_arr⟩
theorem pj_f5_7 {v0 v1 v2 v3 v4 v5 v6 v7 : Value} {l : List Value} : pj_fld (.inl (5, v0 :: v1 :: v2 :: v3 :: v4 :: v5 :: v6 :: v7 :: l)) 5 7 = some v7 := rfl
theorem pj_s5_7 {v0 v1 v2 v3 v4 v5 v6 v7 : Value} {x : Nat} : pj_fset (.inl (5, [v0, v1, v2, v3, v4, v5, v6, v7])) 5 7 (.ref x) = some (.inl (5, [v0, v1, v2, v3, v4, v5, v6, .ref x])) := if_pos ⟨rfl, (by decide : 7 < 8), pj_fit_arr⟩
