/-! SMALL METHODS: contracts as runs -/
theorem c_has {s m : Int32} {M : pj_Mem} : pj_Ends 8 (0, [some (.int s), some (.int m)], [], M) (some (.int (if s >>> (m &&& 31) &&& 1 = 1 then 1 else 0)), M) := by
  by_cases h : s >>> (m &&& 31) &&& 1 = 1
  · simp (disch := first | assumption | exact pj_long_i | exact pj_long_r | exact pj_long_n | decide) only [x8_0, x8_1, x8_2, x8_3, x8_4, x8_5, x8_6, x8_9, x8_10, x8_13, simprocAttr, pj_then_s, pj_pv_s, pj_pi_s, pj_set_s, if_true, if_false, not_true_eq_false, not_false_eq_true, pj_up_up, pj_up_sort, pj_up_ap, pj_upd_ap, pj_a3_0, pj_a3_1, pj_a3_2, pj_a3_u0, pj_a3_u1, pj_a3_u2, h, not_true_eq_false]
    exact t8_14 (Or.inr rfl)
  · simp (disch := first | assumption | exact pj_long_i | exact pj_long_r | exact pj_long_n | decide) only [x8_0, x8_1, x8_2, x8_3, x8_4, x8_5, x8_6, x8_9, x8_10, x8_13, simprocAttr, pj_then_s, pj_pv_s, pj_pi_s, pj_set_s, if_true, if_false, not_true_eq_false, not_false_eq_true, pj_up_up, pj_up_sort, pj_up_ap, pj_upd_ap, pj_a3_0, pj_a3_1, pj_a3_2, pj_a3_u0, pj_a3_u1, pj_a3_u2, h, not_false_eq_true]
    exact t8_14 (Or.inl rfl)
theorem c_with {s m : Int32} {M : pj_Mem} : pj_Ends 12 (0, [some (.int s), some (.int m)], [], M) (some (.int (s ||| 1 <<< (m &&& 31))), M) := by
  simp (disch := first | assumption | exact pj_long_i | exact pj_long_r | exact pj_long_n | decide) only [x12_0, x12_1, x12_2, x12_3, x12_4, simprocAttr, pj_then_s, pj_pv_s, pj_pi_s, pj_set_s, if_true, if_false, not_true_eq_false, not_false_eq_true, pj_up_up, pj_up_sort, pj_up_ap, pj_upd_ap, pj_a3_0, pj_a3_1, pj_a3_2, pj_a3_u0, pj_a3_u1, pj_a3_u2]
  exact t12_5
theorem c_without {s m : Int32} {M : pj_Mem} : pj_Ends 17 (0, [some (.int s), some (.int m)], [], M) (some (.int (s &&& ((1 <<< (m &&& 31)) ^^^ (-1)))), M) := by
  simp (disch := first | assumption | exact pj_long_i | exact pj_long_r | exact pj_long_n | decide) only [x17_0, x17_1, x17_2, x17_3, x17_4, x17_5, x17_6, simprocAttr, pj_then_s, pj_pv_s, pj_pi_s, pj_set_s, if_true, if_false, not_true_eq_false, not_false_eq_true, pj_up_up, pj_up_sort, pj_up_ap, pj_upd_ap, pj_a3_0, pj_a3_1, pj_a3_2, pj_a3_u0, pj_a3_u1, pj_a3_u2]
  exact t17_7
theorem c_isReading {r : Int32} {M : pj_Mem} : pj_Ends 31 (0, [some (.int r)], [], M) (some (.int (if -500 ≤ r ∧ r ≤ 500 then 1 else 0)), M) := by
  by_cases h1 : -500 ≤ r
  · by_cases h2 : r ≤ 500
    · have h3 : ¬ r < -500 := Int32.not_lt.mpr h1
      have h4 : ¬ 500 < r := Int32.not_lt.mpr h2
      simp (disch := first | assumption | exact pj_long_i | exact pj_long_r | exact pj_long_n | decide) only [x31_0, x31_1, x31_4, x31_7, x31_8, x31_11, x31_14, x31_15, x31_18, simprocAttr, pj_then_s, pj_pv_s, pj_pi_s, pj_set_s, if_true, if_false, not_true_eq_false, not_false_eq_true, pj_up_up, pj_up_sort, pj_up_ap, pj_upd_ap, pj_a3_0, pj_a3_1, pj_a3_2, pj_a3_u0, pj_a3_u1, pj_a3_u2, h1, h2, h3, h4, and_self]
      exact t31_19 (Or.inr rfl)
    · have h3 : ¬ r < -500 := Int32.not_lt.mpr h1
      have h4 : 500 < r := Int32.not_le.mp h2
      simp (disch := first | assumption | exact pj_long_i | exact pj_long_r | exact pj_long_n | decide) only [x31_0, x31_1, x31_4, x31_7, x31_8, x31_11, x31_14, x31_15, x31_18, simprocAttr, pj_then_s, pj_pv_s, pj_pi_s, pj_set_s, if_true, if_false, not_true_eq_false, not_false_eq_true, pj_up_up, pj_up_sort, pj_up_ap, pj_upd_ap, pj_a3_0, pj_a3_1, pj_a3_2, pj_a3_u0, pj_a3_u1, pj_a3_u2, h1, h2, h3, h4, and_false]
      exact t31_19 (Or.inl rfl)
  · have h3 : r < -500 := Int32.not_le.mp h1
    simp (disch := first | assumption | exact pj_long_i | exact pj_long_r | exact pj_long_n | decide) only [x31_0, x31_1, x31_4, x31_7, x31_8, x31_11, x31_14, x31_15, x31_18, simprocAttr, pj_then_s, pj_pv_s, pj_pi_s, pj_set_s, if_true, if_false, not_true_eq_false, not_false_eq_true, pj_up_up, pj_up_sort, pj_up_ap, pj_upd_ap, pj_a3_0, pj_a3_1, pj_a3_2, pj_a3_u0, pj_a3_u1, pj_a3_u2, h1, h3, false_and]
    exact t31_19 (Or.inl rfl)

