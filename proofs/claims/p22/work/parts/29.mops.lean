def sp_rg (v a b : Int32) : Int32 := if a ≤ v ∧ v ≤ b then 1 else 0
def sp_is (a v : Int32) : Int32 := if a = 0 then sp_rg v 1 2000 else if a = 1 then sp_rg v 1 2000 else if a = 2 then sp_rg v 1 50 else if a = 3 then sp_rg v 2 50 else if a = 4 then sp_rg v 1 500 else if a = 5 then sp_rg v 0 20 else 0
theorem sp_is_lt {a v : Int32} (h : ¬ sp_is a v = 0) : a = 0 ∨ a = 1 ∨ a = 2 ∨ a = 3 ∨ a = 4 ∨ a = 5 := by
  unfold sp_is at h
  by_cases h0 : a = 0
  · exact Or.inl h0
  by_cases h1 : a = 1
  · exact Or.inr (Or.inl h1)
  by_cases h2 : a = 2
  · exact Or.inr (Or.inr (Or.inl h2))
  by_cases h3 : a = 3
  · exact Or.inr (Or.inr (Or.inr (Or.inl h3)))
  by_cases h4 : a = 4
  · exact Or.inr (Or.inr (Or.inr (Or.inr (Or.inl h4))))
  by_cases h5 : a = 5
  · exact Or.inr (Or.inr (Or.inr (Or.inr (Or.inr h5))))
  rw [if_neg h0, if_neg h1, if_neg h2, if_neg h3, if_neg h4, if_neg h5] at h
  exact absurd rfl h
def op_set (x : pj_Sg) (a v : Int32) : pj_Sg × Int32 := if sp_is a v = 0 then (x, -2) else (sp_push x (upd x.1 a.toNatClampNeg v), x.1 a.toNatClampNeg)
def op_tick (x : pj_Sg) (b0 b1 b2 c : Int32) : pj_Sg × Int32 := if sp_rd b0 = 0 then (x, -2) else if sp_rd b1 = 0 then (x, -2) else if sp_rd b2 = 0 then (x, -2) else if 100000 ≤ x.1 6 then (x, -4) else (sp_push x (sp_tick x.1 (pj_a3 b0 b1 b2) c), tk_fi x.1 (pj_a3 b0 b1 b2) c)
