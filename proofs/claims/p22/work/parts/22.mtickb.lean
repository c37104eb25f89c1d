/-! THE REFERENCE'S TICK, 2 -/
section M2
variable {N S : Nat} {H : pj_Heap} {o : Option Value × pj_Mem} {hl mid lo hi fi pl sp nu ic td : Int32} {f g : Nat → Int32} {r0 r1 r2 a0 a1 a2 : Int32}
def sp_t2 (f a : Nat → Int32) (m : Int32) (c : Int32) (k : Nat) : Nat → Int32 := upd f (14 + k) (if c = 0 then f (14 + k) else if sp_abs (a k - m) ≤ f 4 then f (14 + k) else 0)
def sp_T2 (f a : Nat → Int32) (m : Int32) : Nat → Int32 := sp_t2 (sp_t2 (sp_t2 f a m (if sp_vot f = 7 then 1 else 0) 0) a m (if sp_vot f = 7 then 1 else 0) 1) a m (if sp_vot f = 7 then 1 else 0) 2
def sp_dir (b : Int32) : Int32 := if b ≤ 0 then (if 0 ≤ b then 0 else -1) else 1
def sp_t3 (f g : Nat → Int32) (m c : Int32) (k : Nat) : Nat → Int32 := if c = 0 then (if sp_abs m ≤ 3 then (if f (14 + k) = 1 then upd f (8 + k) (f (8 + k) + sp_dir (g k - f (8 + k))) else f) else f) else f
def sp_T3 (f g : Nat → Int32) (m c : Int32) : Nat → Int32 := sp_t3 (sp_t3 (sp_t3 f g m c 0) g m c 1) g m c 2
def sp_t4 (f a : Nat → Int32) (k : Nat) : Nat → Int32 := upd f (11 + k) (f (11 + k) * 7 / 8 + (if sp_abs (a k) ≤ 4 then 0 else a k))
def sp_T4 (f a : Nat → Int32) : Nat → Int32 := sp_t4 (sp_t4 (sp_t4 f a 0) a 1) a 2
def sp_vb (f : Nat → Int32) (x : Int32) (k : Nat) (b : Int32) : Int32 := if f (14 + k) = 1 then (if f (11 + k) < x then 0 else 1 <<< (b &&& 31)) else 0
def sp_vof (f : Nat → Int32) (x : Int32) : Int32 := 0 ||| sp_vb f x 0 0 ||| sp_vb f x 1 1 ||| sp_vb f x 2 2
end M2
