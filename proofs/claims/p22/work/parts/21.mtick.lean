/-! THE REFERENCE'S TICK, 1 -/
def sp_abs (x : Int32) : Int32 := if 0 ≤ x then x else -x
section M1
variable {N S : Nat} {H : pj_Heap} {o : Option Value × pj_Mem} {hl mid lo hi fi pl sp nu ic td : Int32} {f g : Nat → Int32} {r0 r1 r2 a0 a1 a2 : Int32}
def sp_vot (f : Nat → Int32) : Int32 := f 14 + 2 * f 15 + 4 * f 16
def sp_bits (x : Int32) : Int32 := (x &&& 1) + (x >>> ((1 : Int32) &&& 31) &&& 1) + (x >>> ((2 : Int32) &&& 31) &&& 1)
/-- one sensor's share in the count of lesser ones -/
def sp_lc (f a : Nat → Int32) (k s : Nat) : Int32 := if f (14 + k) = 1 then (if a k < a s then 1 else if a k = a s then (if k < s then 1 else 0) else 0) else 0
def sp_below (f a : Nat → Int32) (s : Nat) : Int32 := 0 + sp_lc f a 0 s + sp_lc f a 1 s + sp_lc f a 2 s
/-- the middle, as the reference finds it: one sensor's turn -/
def sp_md (f a : Nat → Int32) (k : Nat) (m : Int32) : Int32 := if f (14 + k) = 1 then (if sp_below f a k = (if sp_bits (sp_vot f) = 3 then 1 else 0) then a k else m) else m
def sp_mid (f a : Nat → Int32) : Int32 := sp_md f a 2 (sp_md f a 1 (sp_md f a 0 0))
end M1
