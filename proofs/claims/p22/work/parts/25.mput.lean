/-! THE REFERENCE'S RECORDER AND WHOLE TICK -/
def sp_put (f g : Nat → Int32) (mid lo hi fi cl : Int32) (a : Nat) : Nat → Int32 :=
  upd (upd (upd (upd (upd (upd (upd (upd (upd (upd (upd f a (f 6)) (a + 1) (g 0 + 100000)) (a + 2) (g 1 + 100000)) (a + 3) (g 2 + 100000)) (a + 4) (if cl = 0 then 0 else 1)) (a + 5) (mid + 100000)) (a + 6) lo) (a + 7) hi) (a + 8) (if f 7 ≤ 0 then 0 else 1)) (a + 9) fi) 30 (f 30 + 1)
def sp_sh (f : Nat → Int32) : Nat → Int32 := if f 30 = 12 then upd (va_cpy f f 41 31 110) 30 (f 30 - 1) else f
section M5
variable {N S : Nat} {H : pj_Heap} {o : Option Value × pj_Mem} {hl mid lo hi fi pl sp nu ic td : Int32} {f g : Nat → Int32} {r0 r1 r2 a0 a1 a2 : Int32}
/-- how many records there are when one is put -/
def sp_at (f : Nat → Int32) : Nat := 31 + 10 * (sp_sh f 30).toNatClampNeg
def sp_left (f : Nat → Int32) (c : Int32) : Int32 := if c = 0 then (if f 7 ≤ 0 then 0 else f 7 - 1) else f 2
end M5
