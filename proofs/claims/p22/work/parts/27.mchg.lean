def sp_rd (r : Int32) : Int32 := if -500 ≤ r ∧ r ≤ 500 then 1 else 0
def sp_th (k : Int32) : Int32 := if 0 ≤ k ∧ k ≤ 2 then 1 else 0
section MH
variable {N S : Nat} {o : Option Value × pj_Mem} {mid lo hi fi pl sp nu ic td r0 r1 r2 : Int32} {f g : Nat → Int32}
/-- the history's row behind a change, and how long it is -/
def sp_hn (i : Nat) : Nat := if i = 6 then 5 else i
end MH
