/-! THE CLASS'S READER, a character at a time -/
/-- closed, ticks begun, place, negative, digits, readings -/
abbrev rd_S : Type := Int32 × Int32 × Nat × Int32 × Int32 × (Nat → Int32)
def rd_dig (q : rd_S) (d : Int32) : Option rd_S := if ¬ q.1 = 0 then none else if q.2.2.2.2.1 = 0 then none else if 500 < (if q.2.2.2.2.1 = -1 then d else q.2.2.2.2.1 * 10 + d) then none else some (q.1, q.2.1, q.2.2.1, q.2.2.2.1, (if q.2.2.2.2.1 = -1 then d else q.2.2.2.2.1 * 10 + d), upd q.2.2.2.2.2 q.2.2.1 (if q.2.2.2.1 = 0 then (if q.2.2.2.2.1 = -1 then d else q.2.2.2.2.1 * 10 + d) else -(if q.2.2.2.2.1 = -1 then d else q.2.2.2.2.1 * 10 + d)))
def rd_acc (q : rd_S) (ch : Int32) : Option rd_S :=
  if 48 ≤ ch ∧ ch ≤ 57 then rd_dig q (ch - 48)
  else if ch = 44 then (if q.2.2.2.2.1 = -1 then none else if q.2.2.1 = 2 then none else some (q.1, q.2.1, q.2.2.1 + 1, 0, -1, q.2.2.2.2.2))
  else if ch = 45 then (if q.2.2.2.1 = 0 then (if q.2.2.2.2.1 = -1 then some (q.1, q.2.1, q.2.2.1, 1, q.2.2.2.2.1, q.2.2.2.2.2) else none) else none)
  else if ch = 59 then (if q.2.2.1 = 2 then (if q.2.2.2.2.1 = -1 then none else some (0, q.2.1 + 1, 0, 0, -1, q.2.2.2.2.2)) else none)
  else if ch = 99 then (if q.2.2.1 = 2 then (if q.2.2.2.2.1 = -1 then none else if q.1 = 0 then some (1, q.2.1, q.2.2.1, q.2.2.2.1, q.2.2.2.2.1, q.2.2.2.2.2) else none) else none)
  else none
section T40
variable {N S : Nat} {H : pj_Heap} {ic tk pc ng dg : Int32} {R : Nat → Int32}
end T40
