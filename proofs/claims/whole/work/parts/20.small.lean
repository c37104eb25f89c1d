/-! SMALL METHODS: contracts as runs -/
theorem c_has {s m : Int32} {M : pj_Mem} : pj_Ends 21 (0, [some (.int s), some (.int m)], [], M) (some (.int (if s >>> (m &&& 31) &&& 1 = 1 then 1 else 0)), M) := by
  by_cases h : s >>> (m &&& 31) &&& 1 = 1
  · simp (disch := first | assumption | exact pj_long_i | exact pj_long_r | exact pj_long_n | decide) only [x21_0, x21_1, x21_2, x21_3, x21_4, x21_5, x21_6, x21_9, x21_10, x21_13, simprocAttr, pj_then_s, pj_pv_s, pj_pi_s, pj_set_s, if_true, if_false, not_true_eq_false, not_false_eq_true, pj_up_up, pj_up_sort, pj_up_ap, pj_upd_ap, pj_a3_0, pj_a3_1, pj_a3_2, pj_a3_u0, pj_a3_u1, pj_a3_u2, h, not_true_eq_false]
    exact t21_14 (Or.inr rfl)
  · simp (disch := first | assumption | exact pj_long_i | exact pj_long_r | exact pj_long_n | decide) only [x21_0, x21_1, x21_2, x21_3, x21_4, x21_5, x21_6, x21_9, x21_10, x21_13, simprocAttr, pj_then_s, pj_pv_s, pj_pi_s, pj_set_s, if_true, if_false, not_true_eq_false, not_false_eq_true, pj_up_up, pj_up_sort, pj_up_ap, pj_upd_ap, pj_a3_0, pj_a3_1, pj_a3_2, pj_a3_u0, pj_a3_u1, pj_a3_u2, h, not_false_eq_true]
    exact t21_14 (Or.inl rfl)
theorem c_with {s m : Int32} {M : pj_Mem} : pj_Ends 27 (0, [some (.int s), some (.int m)], [], M) (some (.int (s ||| 1 <<< (m &&& 31))), M) := by
  simp (disch := first | assumption | exact pj_long_i | exact pj_long_r | exact pj_long_n | decide) only [x27_0, x27_1, x27_2, x27_3, x27_4, simprocAttr, pj_then_s, pj_pv_s, pj_pi_s, pj_set_s, if_true, if_false, not_true_eq_false, not_false_eq_true, pj_up_up, pj_up_sort, pj_up_ap, pj_upd_ap, pj_a3_0, pj_a3_1, pj_a3_2, pj_a3_u0, pj_a3_u1, pj_a3_u2]
  exact t27_5
theorem c_without {s m : Int32} {M : pj_Mem} : pj_Ends 17 (0, [some (.int s), some (.int m)], [], M) (some (.int (s &&& ((1 <<< (m &&& 31)) ^^^ (-1)))), M) := by
  simp (disch := first | assumption | exact pj_long_i | exact pj_long_r | exact pj_long_n | decide) only [x17_0, x17_1, x17_2, x17_3, x17_4, x17_5, x17_6, simprocAttr, pj_then_s, pj_pv_s, pj_pi_s, pj_set_s, if_true, if_false, not_true_eq_false, not_false_eq_true, pj_up_up, pj_up_sort, pj_up_ap, pj_upd_ap, pj_a3_0, pj_a3_1, pj_a3_2, pj_a3_u0, pj_a3_u1, pj_a3_u2]
  exact t17_7
theorem c_isReading {r : Int32} {M : pj_Mem} : pj_Ends 13 (0, [some (.int r)], [], M) (some (.int (if -500 ≤ r ∧ r ≤ 500 then 1 else 0)), M) := by
  by_cases h1 : -500 ≤ r
  · by_cases h2 : r ≤ 500
    · have h3 : ¬ r < -500 := Int32.not_lt.mpr h1
      have h4 : ¬ 500 < r := Int32.not_lt.mpr h2
      simp (disch := first | assumption | exact pj_long_i | exact pj_long_r | exact pj_long_n | decide) only [x13_0, x13_1, x13_4, x13_7, x13_8, x13_11, x13_14, x13_15, x13_18, simprocAttr, pj_then_s, pj_pv_s, pj_pi_s, pj_set_s, if_true, if_false, not_true_eq_false, not_false_eq_true, pj_up_up, pj_up_sort, pj_up_ap, pj_upd_ap, pj_a3_0, pj_a3_1, pj_a3_2, pj_a3_u0, pj_a3_u1, pj_a3_u2, h1, h2, h3, h4, and_self]
      exact t13_19 (Or.inr rfl)
    · have h3 : ¬ r < -500 := Int32.not_lt.mpr h1
      have h4 : 500 < r := Int32.not_le.mp h2
      simp (disch := first | assumption | exact pj_long_i | exact pj_long_r | exact pj_long_n | decide) only [x13_0, x13_1, x13_4, x13_7, x13_8, x13_11, x13_14, x13_15, x13_18, simprocAttr, pj_then_s, pj_pv_s, pj_pi_s, pj_set_s, if_true, if_false, not_true_eq_false, not_false_eq_true, pj_up_up, pj_up_sort, pj_up_ap, pj_upd_ap, pj_a3_0, pj_a3_1, pj_a3_2, pj_a3_u0, pj_a3_u1, pj_a3_u2, h1, h2, h3, h4, and_false]
      exact t13_19 (Or.inl rfl)
  · have h3 : r < -500 := Int32.not_le.mp h1
    simp (disch := first | assumption | exact pj_long_i | exact pj_long_r | exact pj_long_n | decide) only [x13_0, x13_1, x13_4, x13_7, x13_8, x13_11, x13_14, x13_15, x13_18, simprocAttr, pj_then_s, pj_pv_s, pj_pi_s, pj_set_s, if_true, if_false, not_true_eq_false, not_false_eq_true, pj_up_up, pj_up_sort, pj_up_ap, pj_upd_ap, pj_a3_0, pj_a3_1, pj_a3_2, pj_a3_u0, pj_a3_u1, pj_a3_u2, h1, h3, false_and]
    exact t13_19 (Or.inl rfl)
