def sp_rg (v a b : Int32) : Int32 := if a ≤ v ∧ v ≤ b then 1 else 0
def sp_is (a v : Int32) : Int32 := if a = 0 then sp_rg v 1 2000 else if a = 1 then sp_rg v 1 2000 else if a = 2 then sp_rg v 1 50 else if a = 3 then sp_rg v 2 50 else if a = 4 then sp_rg v 1 500 else if a = 5 then sp_rg v 0 20 else 0
def op_set (x : pj_Sg) (a v : Int32) : pj_Sg × Int32 := if sp_is a v = 0 then (x, -2) else (sp_push x (upd x.1 a.toNatClampNeg v), x.1 a.toNatClampNeg)
def op_tick (x : pj_Sg) (b0 b1 b2 c : Int32) : pj_Sg × Int32 := if sp_rd b0 = 0 then (x, -2) else if sp_rd b1 = 0 then (x, -2) else if sp_rd b2 = 0 then (x, -2) else if 100000 ≤ x.1 6 then (x, -4) else (sp_push x (sp_tick x.1 (pj_a3 b0 b1 b2) c), tk_fi x.1 (pj_a3 b0 b1 b2) c)
