/-! THE REFERENCE'S TICK, 3 -/
section M3
variable {N S : Nat} {H : pj_Heap} {o : Option Value × pj_Mem} {hl mid lo hi fi pl sp nu ic td : Int32} {f g : Nat → Int32} {r0 r1 r2 a0 a1 a2 : Int32}
def sp_hf (f : Nat → Int32) (s : Nat) : Int32 := if f (23 + s) = -6 then 0 else if f 6 - f (23 + s) < f 5 then 0 else 1
def sp_may0 (f : Nat → Int32) (lo hi : Int32) : Int32 := if f 23 = -6 then (if f 26 = 1 then 0 else if f 7 = 0 then 0 else if sp_bits lo < 2 then 0 else 1) else 0
def sp_may1 (f : Nat → Int32) (lo hi : Int32) : Int32 := if f 24 = -6 then (if f 27 = 1 then 0 else if f 7 = 0 then 0 else if sp_bits lo < 2 then 0 else if sp_hf f 0 = 0 then (if f 26 = 1 then 1 else 0) else 1) else 0
def sp_may2 (f : Nat → Int32) (lo hi : Int32) : Int32 := if f 25 = -6 then (if f 28 = 1 then 0 else if f 7 = 0 then 0 else if sp_bits hi < 2 then 0 else if sp_hf f 1 = 0 then 0 else 1) else 0
/-- a stage's turn: the row and what fires -/
def sp_fr (f : Nat → Int32) (y : Int32) (k : Nat) : Nat → Int32 := if y = 0 then f else upd f (23 + k) (f 6)
def sp_fi (n : Int32) (y : Int32) (b : Int32) : Int32 := if y = 0 then n else n ||| 1 <<< (b &&& 31)
def sp_f1 (f : Nat → Int32) (lo hi : Int32) : Nat → Int32 := sp_fr f (sp_may0 f lo hi) 0
def sp_f2 (f : Nat → Int32) (lo hi : Int32) : Nat → Int32 := sp_fr (sp_f1 f lo hi) (sp_may1 (sp_f1 f lo hi) lo hi) 1
def sp_f3 (f : Nat → Int32) (lo hi : Int32) : Nat → Int32 := sp_fr (sp_f2 f lo hi) (sp_may2 (sp_f2 f lo hi) lo hi) 2
def sp_fires (f : Nat → Int32) (lo hi : Int32) : Int32 := sp_fi (sp_fi (sp_fi 0 (sp_may0 f lo hi) 0) (sp_may1 (sp_f1 f lo hi) lo hi) 1) (sp_may2 (sp_f2 f lo hi) lo hi) 2
def sp_rec (f : Nat → Int32) : Int32 := if f 29 = -6 then 1 else if f 29 + 6 < f 6 then 0 else 1
end M3
