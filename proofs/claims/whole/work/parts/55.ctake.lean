/-! THE CLASS'S RECORDER TAKES A TICK -/
section T11
variable {N S : Nat} {H : pj_Heap} {r a : Nat} {ic nm vo md ar lo hi fi r0 r1 r2 : Int32} {F : Nat → Int32}
/-- a tick that is not taken -/
theorem c_take_no (h23 : (23 = r) = False) (hk : ck_tk (F 29) nm = 0) (hr : H r = .inl (2, [.ref a, .int (F 30), .int (F 29)])) (hm : H 23 = pj_tc ic nm vo md ar lo hi fi) :
    pj_Ends 33 (0, [some (.ref r), some (.ref 23)], [], (N, S, H)) (none, (N, S, H)) := by
  simp (disch := first | assumption | exact pj_long_i | exact pj_long_r | exact pj_long_n | decide) only [x33_0, x33_1, x33_2, simprocAttr, pj_then_s, pj_pv_s, pj_pi_s, pj_set_s, if_true, if_false, not_true_eq_false, not_false_eq_true, pj_up_up, pj_so24_23, pj_so25_23, pj_so26_23, pj_so27_23, pj_so28_23, pj_so29_23, pj_so25_24, pj_so26_24, pj_so27_24, pj_so28_24, pj_so29_24, pj_so26_25, pj_so27_25, pj_so28_25, pj_so29_25, pj_so27_26, pj_so28_26, pj_so29_26, pj_so28_27, pj_so29_27, pj_so29_28, pj_up_ap, pj_upd_ap, pj_a3_0, pj_a3_1, pj_a3_2, pj_a3_u0, pj_a3_u1, pj_a3_u2, pj_f3_7, hm, pj_tc]
  refine e33_5 rfl (by rw [hr]; rfl) (c_isTaking hr) ?_
  simp (disch := first | assumption | exact pj_long_i | exact pj_long_r | exact pj_long_n | decide) only [x33_8, simprocAttr, pj_then_s, pj_pv_s, pj_pi_s, pj_set_s, if_true, if_false, not_true_eq_false, not_false_eq_true, pj_up_up, pj_so24_23, pj_so25_23, pj_so26_23, pj_so27_23, pj_so28_23, pj_so29_23, pj_so25_24, pj_so26_24, pj_so27_24, pj_so28_24, pj_so29_24, pj_so26_25, pj_so27_25, pj_so28_25, pj_so29_25, pj_so27_26, pj_so28_26, pj_so29_26, pj_so28_27, pj_so29_27, pj_so29_28, pj_up_ap, pj_upd_ap, pj_a3_0, pj_a3_1, pj_a3_2, pj_a3_u0, pj_a3_u1, pj_a3_u2, hk]
  exact t33_11
/-- the writing, the row as it is behind the dropping -/
theorem c_take_w {m : Nat} {G : Nat → Int32} {e : Int32} (hm11 : m ≤ 11) (hic : ic = 0 ∨ ic = 1) (d1 : (23 = a) = False) (d2 : (24 = a) = False) (d3 : (r = a) = False) (d4 : (23 = r) = False) (d5 : (a = r) = False) (d6 : (24 = r) = False) (h6 : G 6 = nm) (h7 : G 7 = ar) (hr : H r = .inl (2, [.ref a, .int (nI m), .int e])) (ha : H a = .inr (0, 120, .inl (pj_n120 G))) (hm : H 23 = pj_tc ic nm vo md ar lo hi fi) (hR : H 24 = .inr (0, 3, .inl (pj_a3 r0 r1 r2))) :
    pj_Ends 33 (25, [some (.ref r), some (.ref 23)], [], (N, S, H)) (none, (N, S, pj_up (pj_up H a (.inr (0, 120, .inl (pj_n120 (sp_put G (pj_a3 r0 r1 r2) md lo hi fi ic (31 + 10 * m)))))) r (.inl (2, [.ref a, .int (nI (m + 1)), .int (if e = -6 then (if fi = 0 then e else nm) else e)])))) := by
  have hW := c_write (N := N) (S := S) (m := m) (by omega) hic d1 d2 d3 hr ha hm hR
  have hi1 : ic = (if ic = 0 then 0 else 1) := by
    rcases hic with q | q
    · rw [q, if_pos rfl]
    · rw [q, if_neg (by decide)]
  have hB := pj_n120_put (F := G) (g := pj_a3 r0 r1 r2) (mid := md) (lo := lo) (hi := hi) (fi := fi) (cl := ic) (m := m) (by omega)
  rw [← hi1, h6, h7, pj_a3_0, pj_a3_1, pj_a3_2] at hB
  rw [hB] at hW
  generalize sp_put G (pj_a3 r0 r1 r2) md lo hi fi ic (31 + 10 * m) = W at hW ⊢
  have q1 : nI m * (10 : Int32) = nI (10 * m) := (pk_mul m 10).trans (by rw [Nat.mul_comm])
  simp (disch := first | assumption | exact pj_long_i | exact pj_long_r | exact pj_long_n | decide) only [x33_25, x33_26, x33_27, x33_28, x33_31, x33_33, simprocAttr, pj_then_s, pj_pv_s, pj_pi_s, pj_set_s, if_true, if_false, not_true_eq_false, not_false_eq_true, pj_up_up, pj_so24_23, pj_so25_23, pj_so26_23, pj_so27_23, pj_so28_23, pj_so29_23, pj_so25_24, pj_so26_24, pj_so27_24, pj_so28_24, pj_so29_24, pj_so26_25, pj_so27_25, pj_so28_25, pj_so29_25, pj_so27_26, pj_so28_26, pj_so29_26, pj_so28_27, pj_so29_27, pj_so29_28, pj_up_ap, pj_upd_ap, pj_a3_0, pj_a3_1, pj_a3_2, pj_a3_u0, pj_a3_u1, pj_a3_u2, pj_f2_1, hr, q1]
  refine e33_34 rfl (by rw [hr]; rfl) hW ?_
  by_cases c1 : e = -6
  · rw [if_pos c1]
    by_cases c2 : fi = 0
    · rw [if_pos c2]
      simp (disch := first | assumption | exact pj_long_i | exact pj_long_r | exact pj_long_n | decide) only [x33_37, x33_38, x33_38i, x33_39, x33_42, x33_43, x33_44, x33_47, x33_48, x33_51, x33_53, x33_56, x33_57, x33_60, x33_63, x33_64, x33_65, x33_68, simprocAttr, pj_then_s, pj_pv_s, pj_pi_s, pj_set_s, if_true, if_false, not_true_eq_false, not_false_eq_true, pj_up_up, pj_so24_23, pj_so25_23, pj_so26_23, pj_so27_23, pj_so28_23, pj_so29_23, pj_so25_24, pj_so26_24, pj_so27_24, pj_so28_24, pj_so29_24, pj_so26_25, pj_so27_25, pj_so28_25, pj_so29_25, pj_so27_26, pj_so28_26, pj_so29_26, pj_so28_27, pj_so29_27, pj_so29_28, pj_up_ap, pj_upd_ap, pj_a3_0, pj_a3_1, pj_a3_2, pj_a3_u0, pj_a3_u1, pj_a3_u2, pj_f2_1, pj_s2_1, pj_f2_2, pj_f3_13, pj_f3_7, pj_s2_2, hr, hm, pj_tc, d1, d3, d4, nI_1, c1, c2]
      exact t33_71
    · rw [if_neg c2]
      simp (disch := first | assumption | exact pj_long_i | exact pj_long_r | exact pj_long_n | decide) only [x33_37, x33_38, x33_38i, x33_39, x33_42, x33_43, x33_44, x33_47, x33_48, x33_51, x33_53, x33_56, x33_57, x33_60, x33_63, x33_64, x33_65, x33_68, simprocAttr, pj_then_s, pj_pv_s, pj_pi_s, pj_set_s, if_true, if_false, not_true_eq_false, not_false_eq_true, pj_up_up, pj_so24_23, pj_so25_23, pj_so26_23, pj_so27_23, pj_so28_23, pj_so29_23, pj_so25_24, pj_so26_24, pj_so27_24, pj_so28_24, pj_so29_24, pj_so26_25, pj_so27_25, pj_so28_25, pj_so29_25, pj_so27_26, pj_so28_26, pj_so29_26, pj_so28_27, pj_so29_27, pj_so29_28, pj_up_ap, pj_upd_ap, pj_a3_0, pj_a3_1, pj_a3_2, pj_a3_u0, pj_a3_u1, pj_a3_u2, pj_f2_1, pj_s2_1, pj_f2_2, pj_f3_13, pj_f3_7, pj_s2_2, hr, hm, pj_tc, d1, d3, d4, nI_1, c1, c2]
      exact t33_71
  · rw [if_neg c1]
    simp (disch := first | assumption | exact pj_long_i | exact pj_long_r | exact pj_long_n | decide) only [x33_37, x33_38, x33_38i, x33_39, x33_42, x33_43, x33_44, x33_47, x33_48, x33_51, x33_53, x33_56, x33_57, x33_60, x33_63, x33_64, x33_65, x33_68, simprocAttr, pj_then_s, pj_pv_s, pj_pi_s, pj_set_s, if_true, if_false, not_true_eq_false, not_false_eq_true, pj_up_up, pj_so24_23, pj_so25_23, pj_so26_23, pj_so27_23, pj_so28_23, pj_so29_23, pj_so25_24, pj_so26_24, pj_so27_24, pj_so28_24, pj_so29_24, pj_so26_25, pj_so27_25, pj_so28_25, pj_so29_25, pj_so27_26, pj_so28_26, pj_so29_26, pj_so28_27, pj_so29_27, pj_so29_28, pj_up_ap, pj_upd_ap, pj_a3_0, pj_a3_1, pj_a3_2, pj_a3_u0, pj_a3_u1, pj_a3_u2, pj_f2_1, pj_s2_1, pj_f2_2, pj_f3_13, pj_f3_7, pj_s2_2, hr, hm, pj_tc, d1, d3, d4, nI_1, c1]
    exact t33_71
end T11
