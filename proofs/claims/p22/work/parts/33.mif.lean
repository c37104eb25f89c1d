def op_if (f g : Nat → Int32) (c w : Int32) : Int32 := if w = 0 then tk_fi f g c else if w = 1 then tk_m f g + 100000 else if w = 2 then sp_vot (sp_tick f g c) else if w = 3 then tk_lo f g c else if w = 4 then tk_hi f g c else (if sp_tick f g c 7 ≤ 0 then 0 else 1)
def op_ifTick (f : Nat → Int32) (b0 b1 b2 c w : Int32) : Int32 := if sp_rd b0 = 0 then -2 else if sp_rd b1 = 0 then -2 else if sp_rd b2 = 0 then -2 else if 0 ≤ w ∧ w ≤ 5 then op_if f (pj_a3 b0 b1 b2) c w else -2
/-- the least reading: so many readings are left -/
def op_lr (f : Nat → Int32) (a c : Int32) : Nat → Nat → Int32
  | 0, _ => -6
  | n + 1, i => if tk_fi f (pj_a3 (nI i - 500) (nI i - 500) (nI i - 500)) c >>> (a &&& 31) &&& 1 = 1 then nI i - 500 + 100000 else op_lr f a c n (i + 1)
def op_leastReading (f : Nat → Int32) (a c : Int32) : Int32 := if sp_th a = 0 then -1 else op_lr f a c 1001 0
theorem pj_rv {i : Nat} (h : i < 1001) : (nI i - 500).toInt = i - 500 := by
  have e : nI i - 500 = Int32.ofInt ((i : Int) - 500) := by
    rw [Int32.ofInt_sub, Int32.ofInt_eq_ofNat]
    rfl
  rw [e, Int32.toInt_ofInt_of_le (by have : (Int32.size : Int) = 4294967296 := rfl; omega) (by have : (Int32.size : Int) = 4294967296 := rfl; omega)]
theorem pj_rv_rd {i : Nat} (h : i < 1001) : sp_rd (nI i - 500) = 1 := by
  unfold sp_rd
  rw [if_pos]
  rw [Int32.le_iff_toInt_le, Int32.le_iff_toInt_le, pj_rv h]
  have e0 : (-500 : Int32).toInt = -500 := rfl
  have e1 : (500 : Int32).toInt = 500 := rfl
  omega
theorem pj_rv_le {i : Nat} (h : i < 1001) : ¬ 500 < nI i - 500 := by
  rw [Int32.lt_iff_toInt_lt, pj_rv h]
  have e1 : (500 : Int32).toInt = 500 := rfl
  omega
theorem pj_rv_s (i : Nat) : nI i - 500 + 1 = nI (i + 1) - 500 := by
  rw [← nI_1, Int32.sub_eq_add_neg, Int32.sub_eq_add_neg, Int32.add_assoc, Int32.add_assoc, Int32.add_comm (-500) 1]
/-- so many ticks ahead are left -/
def op_tt (g : Nat → Int32) (s : Nat) : Nat → Nat → (Nat → Int32) → Int32
  | 0, n, f => if f (23 + s) = -6 then -6 else nI n
  | m + 1, n, f => if f (23 + s) = -6 then op_tt g s m (n + 1) (sp_tick f g 1) else nI n
def op_ticksTo (f : Nat → Int32) (a r : Int32) : Int32 := if sp_th a = 0 then -1 else if sp_rd r = 0 then -2 else op_tt (pj_a3 r r r) a.toNatClampNeg 50 0 f
