/-! THE REFERENCE'S CALLS THAT CHANGE, 2 -/
theorem sp_th_lt {a : Int32} (h : ¬ sp_th a = 0) : a = 0 ∨ a = 1 ∨ a = 2 := by
  unfold sp_th at h
  by_cases q : 0 ≤ a ∧ a ≤ 2
  · rw [Int32.le_iff_toInt_le, Int32.le_iff_toInt_le] at q
    have e0 : (0 : Int32).toInt = 0 := rfl
    have e2 : (2 : Int32).toInt = 2 := rfl
    rw [e0, e2] at q
    have : a.toInt = 0 ∨ a.toInt = 1 ∨ a.toInt = 2 := by omega
    rcases this with e | e | e
    · exact Or.inl (Int32.toInt_inj.mp e)
    · exact Or.inr (Or.inl (Int32.toInt_inj.mp e))
    · exact Or.inr (Or.inr (Int32.toInt_inj.mp e))
  · rw [if_neg q] at h
    exact absurd rfl h
def sp_bar (f : Nat → Int32) : Int32 := f 26 + 2 * f 27 + 4 * f 28
def sp_fb (f : Nat → Int32) (k : Nat) (b : Int32) : Int32 := if f (23 + k) = -6 then 0 else 1 <<< (b &&& 31)
def sp_fired (f : Nat → Int32) : Int32 := 0 ||| sp_fb f 0 0 ||| sp_fb f 1 1 ||| sp_fb f 2 2
section M7
variable {N S : Nat} {H : pj_Heap} {o : Option Value × pj_Mem} {hl mid lo hi fi pl sp nu ic td : Int32} {f g : Nat → Int32}
end M7
def op_bar (x : pj_Sg) (a b : Int32) : pj_Sg × Int32 := if sp_th a = 0 then (x, -1) else if x.1 (26 + a.toNatClampNeg) = b then (x, -5) else if x.1 (23 + a.toNatClampNeg) = -6 then (sp_push x (upd x.1 (26 + a.toNatClampNeg) b), sp_bar (upd x.1 (26 + a.toNatClampNeg) b)) else (x, -5)
def sp_tst (f : Nat → Int32) (k : Nat) : Nat → Int32 := upd (upd (upd (upd f (14 + k) 1) (8 + k) 0) (11 + k) 0) (17 + k) 0
def op_test (x : pj_Sg) (a : Int32) : pj_Sg × Int32 := if sp_th a = 0 then (x, -1) else if sp_fired x.1 = 0 then (sp_push x (sp_tst x.1 a.toNatClampNeg), 1 - x.1 (14 + a.toNatClampNeg)) else (x, -5)
def sp_srv (f : Nat → Int32) : Nat → Int32 := upd (upd (upd (upd (upd (upd (upd (upd (upd f 23 (-6)) 11 0) 24 (-6)) 12 0) 25 (-6)) 13 0) 7 0) 29 (-6)) 30 0
def op_service (x : pj_Sg) : pj_Sg × Int32 := (sp_push x (sp_srv x.1), sp_bits (sp_fired x.1))
