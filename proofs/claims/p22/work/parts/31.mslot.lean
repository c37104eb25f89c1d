/-! THE REFERENCE'S UNDO AND SLOTS -/
section M8
variable {N S : Nat} {o : Option Value × pj_Mem} {hl mid lo hi fi pl sp nu ic td : Int32} {f g : Nat → Int32}
end M8
def op_undo (x : pj_Sg) : pj_Sg × Int32 := if x.2.1 = 0 then (x, -5) else ((x.2.2.1 (x.2.1 - 1), x.2.1 - 1, x.2.2), nI (x.2.1 - 1))
