/-! BRIDGES: the record's row -/
theorem pj_n120_30 {f : Nat → Int32} {x : Int32} : pj_n120 (upd f 30 x) = pj_n120 f := by
  funext j
  unfold pj_n120
  by_cases h : j < 120
  · rw [if_pos h, if_pos h, pj_upd_ap, if_neg (by omega)]
  · rw [if_neg h, if_neg h]
theorem pj_n120_put {F g : Nat → Int32} {mid lo hi fi cl : Int32} {m : Nat} (hm : m < 12) : upd (upd (upd (upd (upd (upd (upd (upd (upd (upd (pj_n120 F) (10 * m) (F 6)) (10 * m + 1) (g 0 + 100000)) (10 * m + 2) (g 1 + 100000)) (10 * m + 3) (g 2 + 100000)) (10 * m + 4) (if cl = 0 then 0 else 1)) (10 * m + 5) (mid + 100000)) (10 * m + 6) lo) (10 * m + 7) hi) (10 * m + 8) (if F 7 ≤ 0 then 0 else 1)) (10 * m + 9) fi = pj_n120 (sp_put F g mid lo hi fi cl (31 + 10 * m)) := by
  unfold sp_put
  rw [pj_n120_30]
  rw [pj_n120_u (by omega), pj_n120_u (by omega), pj_n120_u (by omega), pj_n120_u (by omega), pj_n120_u (by omega), pj_n120_u (by omega), pj_n120_u (by omega), pj_n120_u (by omega), pj_n120_u (by omega), pj_n120_u (by omega)]
  simp only [Nat.add_assoc]

