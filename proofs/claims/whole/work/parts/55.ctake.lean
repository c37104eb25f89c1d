/-! THE CLASS'S RECORDER TAKES A TICK -/
section T11
variable {N S : Nat} {H : pj_Heap} {r a : Nat} {ic nm vo md ar lo hi fi r0 r1 r2 : Int32} {F : Nat → Int32}
/-- a tick that is not taken -/
theorem c_take_no (h23 : (23 = r) = False) (hk : ck_tk (F 29) nm = 0) (hr : H r = .inl (2, [.ref a, .int (F 30), .int (F 29)])) (hm : H 23 = pj_tc ic nm vo md ar lo hi fi) :
    pj_Ends 33 (0, [some (.ref r), some (.ref 23)], [], (N, S, H)) (none, (N, S, H)) := by
  simp (disch := first | assumption | exact pj_long_i | exact pj_long_r | exact pj_long_n | decide) only [x33_0, x33_1, x33_2, simprocAttr, pj_then_s, pj_pv_s, pj_pi_s, pj_set_s, if_true, if_false, not_true_eq_false, not_false_eq_true, pj_up_up, pj_so24_23, pj_so25_23, pj_so26_23, pj_so27_23, pj_so28_23, pj_so29_23, pj_so25_24, pj_so26_24, pj_so27_24, pj_so28_24, pj_so29_24, pj_so26_25, pj_so27_25, pj_so28_25, pj_so29_25, pj_so27_26, pj_so28_26, pj_so29_26, pj_so28_27, pj_so29_27, pj_so29_28, pj_up_ap, pj_upd_ap, pj_a3_0, pj_a3_1, pj_a3_2, pj_a3_u0, pj_a3_u1, pj_a3_u2, pj_f3_7, hm, pj_tc]
  refine e33_5 rfl (by rw [hr]; rfl) (c_isTaking hr) ?_
  simp (disch := first | assumption | exact pj_long_i | exact pj_long_r | exact pj_long_n | decide) only [x33_8, simprocAttr, pj_then_s, pj_pv_s, pj_pi_s, pj_set_s, if_true, if_false, not_true_eq_false, not_false_eq_true, pj_up_up, pj_so24_23, pj_so25_23, pj_so26_23, pj_so27_23, pj_so28_23, pj_so29_23, pj_so25_24, pj_so26_24, pj_so27_24, pj_so28_24, pj_so29_24, pj_so26_25, pj_so27_25, pj_so28_25, pj_so29_25, pj_so27_26, pj_so28_26, pj_so29_26, pj_so28_27, pj_so29_27, pj_so29_28, pj_up_ap, pj_upd_ap, pj_a3_0, pj_a3_1, pj_a3_2, pj_a3_u0, pj_a3_u1, pj_a3_u2, hk]
  exact t33_11
end T11
