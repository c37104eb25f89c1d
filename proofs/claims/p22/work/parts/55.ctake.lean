/-! THE CLASS'S RECORDER TAKES A TICK -/
section T11
variable {N S : Nat} {H : pj_Heap} {r a : Nat} {ic nm vo md ar lo hi fi r0 r1 r2 : Int32} {F : Nat → Int32}
/-- a tick that is not taken -/
theorem c_take_no (h23 : (23 = r) = False) (hk : ck_tk (F 29) nm = 0) (hr : H r = .inl (2, [.ref a, .int (F 30), .int (F 29)])) (hm : H 23 = pj_tc ic nm vo md ar lo hi fi) :
    pj_Ends 36 (0, [some (.ref r), some (.ref 23)], [], (N, S, H)) (none, (N, S, H)) := by
  simp (disch := first | assumption | exact pj_long_i | exact pj_long_r | exact pj_long_n | decide) only [x36_0, x36_1, x36_2, simprocAttr, pj_then_s, pj_pv_s, pj_pi_s, pj_set_s, if_true, if_false, not_true_eq_false, not_false_eq_true, pj_up_up, pj_so24_23, pj_so25_23, pj_so26_23, pj_so27_23, pj_so28_23, pj_so29_23, pj_so25_24, pj_so26_24, pj_so27_24, pj_so28_24, pj_so29_24, pj_so26_25, pj_so27_25, pj_so28_25, pj_so29_25, pj_so27_26, pj_so28_26, pj_so29_26, pj_so28_27, pj_so29_27, pj_so29_28, pj_up_ap, pj_upd_ap, pj_a3_0, pj_a3_1, pj_a3_2, pj_a3_u0, pj_a3_u1, pj_a3_u2, pj_f3_7, hm, pj_tc]
  refine e36_5 rfl (by rw [hr]; rfl) (c_isTaking hr) ?_
  simp (disch := first | assumption | exact pj_long_i | exact pj_long_r | exact pj_long_n | decide) only [x36_8, simprocAttr, pj_then_s, pj_pv_s, pj_pi_s, pj_set_s, if_true, if_false, not_true_eq_false, not_false_eq_true, pj_up_up, pj_so24_23, pj_so25_23, pj_so26_23, pj_so27_23, pj_so28_23, pj_so29_23, pj_so25_24, pj_so26_24, pj_so27_24, pj_so28_24, pj_so29_24, pj_so26_25, pj_so27_25, pj_so28_25, pj_so29_25, pj_so27_26, pj_so28_26, pj_so29_26, pj_so28_27, pj_so29_27, pj_so29_28, pj_up_ap, pj_upd_ap, pj_a3_0, pj_a3_1, pj_a3_2, pj_a3_u0, pj_a3_u1, pj_a3_u2, hk]
  exact t36_11
/-- the writing, the row as it is behind the dropping -/
theorem c_take_w {m : Nat} {G : Nat → Int32} {e : Int32} (hm11 : m ≤ 11) (hic : ic = 0 ∨ ic = 1) (d1 : (23 = a) = False) (d2 : (24 = a) = False) (d3 : (r = a) = False) (d4 : (23 = r) = False) (d5 : (a = r) = False) (d6 : (24 = r) = False) (h6 : G 6 = nm) (h7 : G 7 = ar) (hr : H r = .inl (2, [.ref a, .int (nI m), .int e])) (ha : H a = .inr (0, 120, .inl (pj_n120 G))) (hm : H 23 = pj_tc ic nm vo md ar lo hi fi) (hR : H 24 = .inr (0, 3, .inl (pj_a3 r0 r1 r2))) :
    pj_Ends 36 (25, [some (.ref r), some (.ref 23)], [], (N, S, H)) (none, (N, S, pj_up (pj_up H a (.inr (0, 120, .inl (pj_n120 (sp_put G (pj_a3 r0 r1 r2) md lo hi fi ic (31 + 10 * m)))))) r (.inl (2, [.ref a, .int (nI (m + 1)), .int (if e = -6 then (if fi = 0 then e else nm) else e)])))) := by
  have hW := c_write (N := N) (S := S) (m := m) (by omega) hic d1 d2 d3 hr ha hm hR
  have hi1 : ic = (if ic = 0 then 0 else 1) := by
    rcases hic with q | q
    · rw [q, if_pos rfl]
    · rw [q, if_neg (by decide)]
  have hB := pj_n120_put (F := G) (g := pj_a3 r0 r1 r2) (mid := md) (lo := lo) (hi := hi) (fi := fi) (cl := ic) (m := m) (by omega)
  rw [← hi1, h6, h7, pj_a3_0, pj_a3_1, pj_a3_2] at hB
  rw [hB] at hW
  generalize sp_put G (pj_a3 r0 r1 r2) md lo hi fi ic (31 + 10 * m) = W at hW ⊢
  have q1 : nI m * (10 : Int32) = nI (10 * m) := (pk_mul m 10).trans (by rw [Nat.mul_comm])
  simp (disch := first | assumption | exact pj_long_i | exact pj_long_r | exact pj_long_n | decide) only [x36_25, x36_26, x36_27, x36_28, x36_31, x36_33, simprocAttr, pj_then_s, pj_pv_s, pj_pi_s, pj_set_s, if_true, if_false, not_true_eq_false, not_false_eq_true, pj_up_up, pj_so24_23, pj_so25_23, pj_so26_23, pj_so27_23, pj_so28_23, pj_so29_23, pj_so25_24, pj_so26_24, pj_so27_24, pj_so28_24, pj_so29_24, pj_so26_25, pj_so27_25, pj_so28_25, pj_so29_25, pj_so27_26, pj_so28_26, pj_so29_26, pj_so28_27, pj_so29_27, pj_so29_28, pj_up_ap, pj_upd_ap, pj_a3_0, pj_a3_1, pj_a3_2, pj_a3_u0, pj_a3_u1, pj_a3_u2, pj_f2_1, hr, q1]
  refine e36_34 rfl (by rw [hr]; rfl) hW ?_
  by_cases c1 : e = -6
  · rw [if_pos c1]
    by_cases c2 : fi = 0
    · rw [if_pos c2]
      simp (disch := first | assumption | exact pj_long_i | exact pj_long_r | exact pj_long_n | decide) only [x36_37, x36_38, x36_38i, x36_39, x36_42, x36_43, x36_44, x36_47, x36_48, x36_51, x36_53, x36_56, x36_57, x36_60, x36_63, x36_64, x36_65, x36_68, simprocAttr, pj_then_s, pj_pv_s, pj_pi_s, pj_set_s, if_true, if_false, not_true_eq_false, not_false_eq_true, pj_up_up, pj_so24_23, pj_so25_23, pj_so26_23, pj_so27_23, pj_so28_23, pj_so29_23, pj_so25_24, pj_so26_24, pj_so27_24, pj_so28_24, pj_so29_24, pj_so26_25, pj_so27_25, pj_so28_25, pj_so29_25, pj_so27_26, pj_so28_26, pj_so29_26, pj_so28_27, pj_so29_27, pj_so29_28, pj_up_ap, pj_upd_ap, pj_a3_0, pj_a3_1, pj_a3_2, pj_a3_u0, pj_a3_u1, pj_a3_u2, pj_f2_1, pj_s2_1, pj_f2_2, pj_f3_13, pj_f3_7, pj_s2_2, hr, hm, pj_tc, d1, d3, d4, nI_1, c1, c2]
      exact t36_71
    · rw [if_neg c2]
      simp (disch := first | assumption | exact pj_long_i | exact pj_long_r | exact pj_long_n | decide) only [x36_37, x36_38, x36_38i, x36_39, x36_42, x36_43, x36_44, x36_47, x36_48, x36_51, x36_53, x36_56, x36_57, x36_60, x36_63, x36_64, x36_65, x36_68, simprocAttr, pj_then_s, pj_pv_s, pj_pi_s, pj_set_s, if_true, if_false, not_true_eq_false, not_false_eq_true, pj_up_up, pj_so24_23, pj_so25_23, pj_so26_23, pj_so27_23, pj_so28_23, pj_so29_23, pj_so25_24, pj_so26_24, pj_so27_24, pj_so28_24, pj_so29_24, pj_so26_25, pj_so27_25, pj_so28_25, pj_so29_25, pj_so27_26, pj_so28_26, pj_so29_26, pj_so28_27, pj_so29_27, pj_so29_28, pj_up_ap, pj_upd_ap, pj_a3_0, pj_a3_1, pj_a3_2, pj_a3_u0, pj_a3_u1, pj_a3_u2, pj_f2_1, pj_s2_1, pj_f2_2, pj_f3_13, pj_f3_7, pj_s2_2, hr, hm, pj_tc, d1, d3, d4, nI_1, c1, c2]
      exact t36_71
  · rw [if_neg c1]
    simp (disch := first | assumption | exact pj_long_i | exact pj_long_r | exact pj_long_n | decide) only [x36_37, x36_38, x36_38i, x36_39, x36_42, x36_43, x36_44, x36_47, x36_48, x36_51, x36_53, x36_56, x36_57, x36_60, x36_63, x36_64, x36_65, x36_68, simprocAttr, pj_then_s, pj_pv_s, pj_pi_s, pj_set_s, if_true, if_false, not_true_eq_false, not_false_eq_true, pj_up_up, pj_so24_23, pj_so25_23, pj_so26_23, pj_so27_23, pj_so28_23, pj_so29_23, pj_so25_24, pj_so26_24, pj_so27_24, pj_so28_24, pj_so29_24, pj_so26_25, pj_so27_25, pj_so28_25, pj_so29_25, pj_so27_26, pj_so28_26, pj_so29_26, pj_so28_27, pj_so29_27, pj_so29_28, pj_up_ap, pj_upd_ap, pj_a3_0, pj_a3_1, pj_a3_2, pj_a3_u0, pj_a3_u1, pj_a3_u2, pj_f2_1, pj_s2_1, pj_f2_2, pj_f3_13, pj_f3_7, pj_s2_2, hr, hm, pj_tc, d1, d3, d4, nI_1, c1]
    exact t36_71
end T11
