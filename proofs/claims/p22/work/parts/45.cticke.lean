/-! THE CLASS'S TICK, 5 -/
theorem c_bitCount {a b c : Int32} {N S : Nat} {H : pj_Heap} (h : pj_b3 a b c) : pj_Ends 28 (0, [some (.int (pj_pk a b c))], [], (N, S, H)) (some (.int (a + b + c)), (N, S, H)) := by
  obtain ⟨h1, h2, h3⟩ := h
  rcases h1 with rfl | rfl <;> rcases h2 with rfl | rfl <;> rcases h3 with rfl | rfl
  · rw [show pj_pk 0 0 0 = 0 from rfl, show (0 : Int32) + 0 + 0 = 0 from rfl]
    simp (disch := first | assumption | exact pj_long_i | exact pj_long_r | exact pj_long_n | decide) only [x28_0, x28_1, x28_2, x28_3, x28_4, x28_7, x28_8, x28_9, x28_10, x28_11, x28_14, x28_15, x28_16, x28_17, x28_18, x28_21, x28_22, x28_23, x28_24, x28_25, x28_26, x28_27, x28_28, x28_29, x28_32, x28_33, x28_34, x28_35, x28_36, x28_38, x28_39, x28_40, x28_41, x28_42, x28_43, x28_45, x28_46, x28_47, x28_48, x28_49, x28_51, simprocAttr, pj_then_s, pj_pv_s, pj_pi_s, pj_set_s, if_true, if_false, not_true_eq_false, not_false_eq_true, pj_up_up, pj_so24_23, pj_so25_23, pj_so26_23, pj_so27_23, pj_so28_23, pj_so29_23, pj_so25_24, pj_so26_24, pj_so27_24, pj_so28_24, pj_so29_24, pj_so26_25, pj_so27_25, pj_so28_25, pj_so29_25, pj_so27_26, pj_so28_26, pj_so29_26, pj_so28_27, pj_so29_27, pj_so29_28, pj_up_ap, pj_upd_ap, pj_a3_0, pj_a3_1, pj_a3_2, pj_a3_u0, pj_a3_u1, pj_a3_u2, pj_long_i, pj_long_r, pj_long_n]
    exact t28_52.res (congrArg (fun q => ((some (Value.int q), N, S, H) : Option Value × pj_Mem)) (by decide +kernel))
  · rw [show pj_pk 0 0 1 = 4 from rfl, show (0 : Int32) + 0 + 1 = 1 from rfl]
    simp (disch := first | assumption | exact pj_long_i | exact pj_long_r | exact pj_long_n | decide) only [x28_0, x28_1, x28_2, x28_3, x28_4, x28_7, x28_8, x28_9, x28_10, x28_11, x28_14, x28_15, x28_16, x28_17, x28_18, x28_21, x28_22, x28_23, x28_24, x28_25, x28_26, x28_27, x28_28, x28_29, x28_32, x28_33, x28_34, x28_35, x28_36, x28_38, x28_39, x28_40, x28_41, x28_42, x28_43, x28_45, x28_46, x28_47, x28_48, x28_49, x28_51, simprocAttr, pj_then_s, pj_pv_s, pj_pi_s, pj_set_s, if_true, if_false, not_true_eq_false, not_false_eq_true, pj_up_up, pj_so24_23, pj_so25_23, pj_so26_23, pj_so27_23, pj_so28_23, pj_so29_23, pj_so25_24, pj_so26_24, pj_so27_24, pj_so28_24, pj_so29_24, pj_so26_25, pj_so27_25, pj_so28_25, pj_so29_25, pj_so27_26, pj_so28_26, pj_so29_26, pj_so28_27, pj_so29_27, pj_so29_28, pj_up_ap, pj_upd_ap, pj_a3_0, pj_a3_1, pj_a3_2, pj_a3_u0, pj_a3_u1, pj_a3_u2, pj_long_i, pj_long_r, pj_long_n]
    exact t28_52.res (congrArg (fun q => ((some (Value.int q), N, S, H) : Option Value × pj_Mem)) (by decide +kernel))
  · rw [show pj_pk 0 1 0 = 2 from rfl, show (0 : Int32) + 1 + 0 = 1 from rfl]
    simp (disch := first | assumption | exact pj_long_i | exact pj_long_r | exact pj_long_n | decide) only [x28_0, x28_1, x28_2, x28_3, x28_4, x28_7, x28_8, x28_9, x28_10, x28_11, x28_14, x28_15, x28_16, x28_17, x28_18, x28_21, x28_22, x28_23, x28_24, x28_25, x28_26, x28_27, x28_28, x28_29, x28_32, x28_33, x28_34, x28_35, x28_36, x28_38, x28_39, x28_40, x28_41, x28_42, x28_43, x28_45, x28_46, x28_47, x28_48, x28_49, x28_51, simprocAttr, pj_then_s, pj_pv_s, pj_pi_s, pj_set_s, if_true, if_false, not_true_eq_false, not_false_eq_true, pj_up_up, pj_so24_23, pj_so25_23, pj_so26_23, pj_so27_23, pj_so28_23, pj_so29_23, pj_so25_24, pj_so26_24, pj_so27_24, pj_so28_24, pj_so29_24, pj_so26_25, pj_so27_25, pj_so28_25, pj_so29_25, pj_so27_26, pj_so28_26, pj_so29_26, pj_so28_27, pj_so29_27, pj_so29_28, pj_up_ap, pj_upd_ap, pj_a3_0, pj_a3_1, pj_a3_2, pj_a3_u0, pj_a3_u1, pj_a3_u2, pj_long_i, pj_long_r, pj_long_n]
    exact t28_52.res (congrArg (fun q => ((some (Value.int q), N, S, H) : Option Value × pj_Mem)) (by decide +kernel))
  · rw [show pj_pk 0 1 1 = 6 from rfl, show (0 : Int32) + 1 + 1 = 2 from rfl]
    simp (disch := first | assumption | exact pj_long_i | exact pj_long_r | exact pj_long_n | decide) only [x28_0, x28_1, x28_2, x28_3, x28_4, x28_7, x28_8, x28_9, x28_10, x28_11, x28_14, x28_15, x28_16, x28_17, x28_18, x28_21, x28_22, x28_23, x28_24, x28_25, x28_26, x28_27, x28_28, x28_29, x28_32, x28_33, x28_34, x28_35, x28_36, x28_38, x28_39, x28_40, x28_41, x28_42, x28_43, x28_45, x28_46, x28_47, x28_48, x28_49, x28_51, simprocAttr, pj_then_s, pj_pv_s, pj_pi_s, pj_set_s, if_true, if_false, not_true_eq_false, not_false_eq_true, pj_up_up, pj_so24_23, pj_so25_23, pj_so26_23, pj_so27_23, pj_so28_23, pj_so29_23, pj_so25_24, pj_so26_24, pj_so27_24, pj_so28_24, pj_so29_24, pj_so26_25, pj_so27_25, pj_so28_25, pj_so29_25, pj_so27_26, pj_so28_26, pj_so29_26, pj_so28_27, pj_so29_27, pj_so29_28, pj_up_ap, pj_upd_ap, pj_a3_0, pj_a3_1, pj_a3_2, pj_a3_u0, pj_a3_u1, pj_a3_u2, pj_long_i, pj_long_r, pj_long_n]
    exact t28_52.res (congrArg (fun q => ((some (Value.int q), N, S, H) : Option Value × pj_Mem)) (by decide +kernel))
  · rw [show pj_pk 1 0 0 = 1 from rfl, show (1 : Int32) + 0 + 0 = 1 from rfl]
    simp (disch := first | assumption | exact pj_long_i | exact pj_long_r | exact pj_long_n | decide) only [x28_0, x28_1, x28_2, x28_3, x28_4, x28_7, x28_8, x28_9, x28_10, x28_11, x28_14, x28_15, x28_16, x28_17, x28_18, x28_21, x28_22, x28_23, x28_24, x28_25, x28_26, x28_27, x28_28, x28_29, x28_32, x28_33, x28_34, x28_35, x28_36, x28_38, x28_39, x28_40, x28_41, x28_42, x28_43, x28_45, x28_46, x28_47, x28_48, x28_49, x28_51, simprocAttr, pj_then_s, pj_pv_s, pj_pi_s, pj_set_s, if_true, if_false, not_true_eq_false, not_false_eq_true, pj_up_up, pj_so24_23, pj_so25_23, pj_so26_23, pj_so27_23, pj_so28_23, pj_so29_23, pj_so25_24, pj_so26_24, pj_so27_24, pj_so28_24, pj_so29_24, pj_so26_25, pj_so27_25, pj_so28_25, pj_so29_25, pj_so27_26, pj_so28_26, pj_so29_26, pj_so28_27, pj_so29_27, pj_so29_28, pj_up_ap, pj_upd_ap, pj_a3_0, pj_a3_1, pj_a3_2, pj_a3_u0, pj_a3_u1, pj_a3_u2, pj_long_i, pj_long_r, pj_long_n]
    exact t28_52.res (congrArg (fun q => ((some (Value.int q), N, S, H) : Option Value × pj_Mem)) (by decide +kernel))
  · rw [show pj_pk 1 0 1 = 5 from rfl, show (1 : Int32) + 0 + 1 = 2 from rfl]
    simp (disch := first | assumption | exact pj_long_i | exact pj_long_r | exact pj_long_n | decide) only [x28_0, x28_1, x28_2, x28_3, x28_4, x28_7, x28_8, x28_9, x28_10, x28_11, x28_14, x28_15, x28_16, x28_17, x28_18, x28_21, x28_22, x28_23, x28_24, x28_25, x28_26, x28_27, x28_28, x28_29, x28_32, x28_33, x28_34, x28_35, x28_36, x28_38, x28_39, x28_40, x28_41, x28_42, x28_43, x28_45, x28_46, x28_47, x28_48, x28_49, x28_51, simprocAttr, pj_then_s, pj_pv_s, pj_pi_s, pj_set_s, if_true, if_false, not_true_eq_false, not_false_eq_true, pj_up_up, pj_so24_23, pj_so25_23, pj_so26_23, pj_so27_23, pj_so28_23, pj_so29_23, pj_so25_24, pj_so26_24, pj_so27_24, pj_so28_24, pj_so29_24, pj_so26_25, pj_so27_25, pj_so28_25, pj_so29_25, pj_so27_26, pj_so28_26, pj_so29_26, pj_so28_27, pj_so29_27, pj_so29_28, pj_up_ap, pj_upd_ap, pj_a3_0, pj_a3_1, pj_a3_2, pj_a3_u0, pj_a3_u1, pj_a3_u2, pj_long_i, pj_long_r, pj_long_n]
    exact t28_52.res (congrArg (fun q => ((some (Value.int q), N, S, H) : Option Value × pj_Mem)) (by decide +kernel))
  · rw [show pj_pk 1 1 0 = 3 from rfl, show (1 : Int32) + 1 + 0 = 2 from rfl]
    simp (disch := first | assumption | exact pj_long_i | exact pj_long_r | exact pj_long_n | decide) only [x28_0, x28_1, x28_2, x28_3, x28_4, x28_7, x28_8, x28_9, x28_10, x28_11, x28_14, x28_15, x28_16, x28_17, x28_18, x28_21, x28_22, x28_23, x28_24, x28_25, x28_26, x28_27, x28_28, x28_29, x28_32, x28_33, x28_34, x28_35, x28_36, x28_38, x28_39, x28_40, x28_41, x28_42, x28_43, x28_45, x28_46, x28_47, x28_48, x28_49, x28_51, simprocAttr, pj_then_s, pj_pv_s, pj_pi_s, pj_set_s, if_true, if_false, not_true_eq_false, not_false_eq_true, pj_up_up, pj_so24_23, pj_so25_23, pj_so26_23, pj_so27_23, pj_so28_23, pj_so29_23, pj_so25_24, pj_so26_24, pj_so27_24, pj_so28_24, pj_so29_24, pj_so26_25, pj_so27_25, pj_so28_25, pj_so29_25, pj_so27_26, pj_so28_26, pj_so29_26, pj_so28_27, pj_so29_27, pj_so29_28, pj_up_ap, pj_upd_ap, pj_a3_0, pj_a3_1, pj_a3_2, pj_a3_u0, pj_a3_u1, pj_a3_u2, pj_long_i, pj_long_r, pj_long_n]
    exact t28_52.res (congrArg (fun q => ((some (Value.int q), N, S, H) : Option Value × pj_Mem)) (by decide +kernel))
  · rw [show pj_pk 1 1 1 = 7 from rfl, show (1 : Int32) + 1 + 1 = 3 from rfl]
    simp (disch := first | assumption | exact pj_long_i | exact pj_long_r | exact pj_long_n | decide) only [x28_0, x28_1, x28_2, x28_3, x28_4, x28_7, x28_8, x28_9, x28_10, x28_11, x28_14, x28_15, x28_16, x28_17, x28_18, x28_21, x28_22, x28_23, x28_24, x28_25, x28_26, x28_27, x28_28, x28_29, x28_32, x28_33, x28_34, x28_35, x28_36, x28_38, x28_39, x28_40, x28_41, x28_42, x28_43, x28_45, x28_46, x28_47, x28_48, x28_49, x28_51, simprocAttr, pj_then_s, pj_pv_s, pj_pi_s, pj_set_s, if_true, if_false, not_true_eq_false, not_false_eq_true, pj_up_up, pj_so24_23, pj_so25_23, pj_so26_23, pj_so27_23, pj_so28_23, pj_so29_23, pj_so25_24, pj_so26_24, pj_so27_24, pj_so28_24, pj_so29_24, pj_so26_25, pj_so27_25, pj_so28_25, pj_so29_25, pj_so27_26, pj_so28_26, pj_so29_26, pj_so28_27, pj_so29_27, pj_so29_28, pj_up_ap, pj_upd_ap, pj_a3_0, pj_a3_1, pj_a3_2, pj_a3_u0, pj_a3_u1, pj_a3_u2, pj_long_i, pj_long_r, pj_long_n]
    exact t28_52.res (congrArg (fun q => ((some (Value.int q), N, S, H) : Option Value × pj_Mem)) (by decide +kernel))
def ck_hw (nm t d : Int32) : Int32 := if t = -6 then 0 else if nm - t < d then 0 else 1
theorem ck_hw_01 {nm t d : Int32} : ck_hw nm t d = 0 ∨ ck_hw nm t d = 1 := by
  unfold ck_hw
  split
  · exact Or.inl rfl
  · split
    · exact Or.inl rfl
    · exact Or.inr rfl
section T5
variable {N S : Nat} {H : pj_Heap} {o : Option Value × pj_Mem} {ic nm vo md ar fi : Int32} {f g : Nat → Int32} {t0 t1 t2 l0 l1 l2 h0 h1 h2 q0 q1 q2 : Int32}
theorem c_hasWaited_0 {lo hi d : Int32} (hm : H 23 = pj_tc ic nm vo md ar lo hi fi) (hT : H 29 = .inr (0, 3, .inl (pj_a3 t0 t1 t2))) :
    pj_Ends 29 (0, [some (.ref 23), some (.int 0), some (.int d)], [], (N, S, H)) (some (.int (ck_hw nm t0 d)), (N, S, H)) := by
  unfold ck_hw
  by_cases c1 : t0 = -6
  · rw [if_pos c1]
    simp (disch := first | assumption | exact pj_long_i | exact pj_long_r | exact pj_long_n | decide) only [x29_0, x29_1, x29_4, x29_5, x29_6, x29_8, x29_11, x29_12, x29_15, x29_16, x29_19, x29_20, x29_21, x29_22, x29_23, x29_26, x29_27, x29_30, simprocAttr, pj_then_s, pj_pv_s, pj_pi_s, pj_set_s, if_true, if_false, not_true_eq_false, not_false_eq_true, pj_up_up, pj_so24_23, pj_so25_23, pj_so26_23, pj_so27_23, pj_so28_23, pj_so29_23, pj_so25_24, pj_so26_24, pj_so27_24, pj_so28_24, pj_so29_24, pj_so26_25, pj_so27_25, pj_so28_25, pj_so29_25, pj_so27_26, pj_so28_26, pj_so29_26, pj_so28_27, pj_so29_27, pj_so29_28, pj_up_ap, pj_upd_ap, pj_a3_0, pj_a3_1, pj_a3_2, pj_a3_u0, pj_a3_u1, pj_a3_u2, pj_f3_5, pj_arl_i, pj_f3_7, hm, hT, pj_tc, c1]
    exact t29_31 (Or.inl rfl)
  · rw [if_neg c1]
    by_cases c2 : nm - t0 < d
    · rw [if_pos c2]
      simp (disch := first | assumption | exact pj_long_i | exact pj_long_r | exact pj_long_n | decide) only [x29_0, x29_1, x29_4, x29_5, x29_6, x29_8, x29_11, x29_12, x29_15, x29_16, x29_19, x29_20, x29_21, x29_22, x29_23, x29_26, x29_27, x29_30, simprocAttr, pj_then_s, pj_pv_s, pj_pi_s, pj_set_s, if_true, if_false, not_true_eq_false, not_false_eq_true, pj_up_up, pj_so24_23, pj_so25_23, pj_so26_23, pj_so27_23, pj_so28_23, pj_so29_23, pj_so25_24, pj_so26_24, pj_so27_24, pj_so28_24, pj_so29_24, pj_so26_25, pj_so27_25, pj_so28_25, pj_so29_25, pj_so27_26, pj_so28_26, pj_so29_26, pj_so28_27, pj_so29_27, pj_so29_28, pj_up_ap, pj_upd_ap, pj_a3_0, pj_a3_1, pj_a3_2, pj_a3_u0, pj_a3_u1, pj_a3_u2, pj_f3_5, pj_arl_i, pj_f3_7, hm, hT, pj_tc, c1, c2]
      exact t29_31 (Or.inl rfl)
    · rw [if_neg c2]
      simp (disch := first | assumption | exact pj_long_i | exact pj_long_r | exact pj_long_n | decide) only [x29_0, x29_1, x29_4, x29_5, x29_6, x29_8, x29_11, x29_12, x29_15, x29_16, x29_19, x29_20, x29_21, x29_22, x29_23, x29_26, x29_27, x29_30, simprocAttr, pj_then_s, pj_pv_s, pj_pi_s, pj_set_s, if_true, if_false, not_true_eq_false, not_false_eq_true, pj_up_up, pj_so24_23, pj_so25_23, pj_so26_23, pj_so27_23, pj_so28_23, pj_so29_23, pj_so25_24, pj_so26_24, pj_so27_24, pj_so28_24, pj_so29_24, pj_so26_25, pj_so27_25, pj_so28_25, pj_so29_25, pj_so27_26, pj_so28_26, pj_so29_26, pj_so28_27, pj_so29_27, pj_so29_28, pj_up_ap, pj_upd_ap, pj_a3_0, pj_a3_1, pj_a3_2, pj_a3_u0, pj_a3_u1, pj_a3_u2, pj_f3_5, pj_arl_i, pj_f3_7, hm, hT, pj_tc, c1, c2]
      exact t29_31 (Or.inr rfl)
theorem c_hasWaited_1 {lo hi d : Int32} (hm : H 23 = pj_tc ic nm vo md ar lo hi fi) (hT : H 29 = .inr (0, 3, .inl (pj_a3 t0 t1 t2))) :
    pj_Ends 29 (0, [some (.ref 23), some (.int 1), some (.int d)], [], (N, S, H)) (some (.int (ck_hw nm t1 d)), (N, S, H)) := by
  unfold ck_hw
  by_cases c1 : t1 = -6
  · rw [if_pos c1]
    simp (disch := first | assumption | exact pj_long_i | exact pj_long_r | exact pj_long_n | decide) only [x29_0, x29_1, x29_4, x29_5, x29_6, x29_8, x29_11, x29_12, x29_15, x29_16, x29_19, x29_20, x29_21, x29_22, x29_23, x29_26, x29_27, x29_30, simprocAttr, pj_then_s, pj_pv_s, pj_pi_s, pj_set_s, if_true, if_false, not_true_eq_false, not_false_eq_true, pj_up_up, pj_so24_23, pj_so25_23, pj_so26_23, pj_so27_23, pj_so28_23, pj_so29_23, pj_so25_24, pj_so26_24, pj_so27_24, pj_so28_24, pj_so29_24, pj_so26_25, pj_so27_25, pj_so28_25, pj_so29_25, pj_so27_26, pj_so28_26, pj_so29_26, pj_so28_27, pj_so29_27, pj_so29_28, pj_up_ap, pj_upd_ap, pj_a3_0, pj_a3_1, pj_a3_2, pj_a3_u0, pj_a3_u1, pj_a3_u2, pj_f3_5, pj_arl_i, pj_f3_7, hm, hT, pj_tc, c1]
    exact t29_31 (Or.inl rfl)
  · rw [if_neg c1]
    by_cases c2 : nm - t1 < d
    · rw [if_pos c2]
      simp (disch := first | assumption | exact pj_long_i | exact pj_long_r | exact pj_long_n | decide) only [x29_0, x29_1, x29_4, x29_5, x29_6, x29_8, x29_11, x29_12, x29_15, x29_16, x29_19, x29_20, x29_21, x29_22, x29_23, x29_26, x29_27, x29_30, simprocAttr, pj_then_s, pj_pv_s, pj_pi_s, pj_set_s, if_true, if_false, not_true_eq_false, not_false_eq_true, pj_up_up, pj_so24_23, pj_so25_23, pj_so26_23, pj_so27_23, pj_so28_23, pj_so29_23, pj_so25_24, pj_so26_24, pj_so27_24, pj_so28_24, pj_so29_24, pj_so26_25, pj_so27_25, pj_so28_25, pj_so29_25, pj_so27_26, pj_so28_26, pj_so29_26, pj_so28_27, pj_so29_27, pj_so29_28, pj_up_ap, pj_upd_ap, pj_a3_0, pj_a3_1, pj_a3_2, pj_a3_u0, pj_a3_u1, pj_a3_u2, pj_f3_5, pj_arl_i, pj_f3_7, hm, hT, pj_tc, c1, c2]
      exact t29_31 (Or.inl rfl)
    · rw [if_neg c2]
      simp (disch := first | assumption | exact pj_long_i | exact pj_long_r | exact pj_long_n | decide) only [x29_0, x29_1, x29_4, x29_5, x29_6, x29_8, x29_11, x29_12, x29_15, x29_16, x29_19, x29_20, x29_21, x29_22, x29_23, x29_26, x29_27, x29_30, simprocAttr, pj_then_s, pj_pv_s, pj_pi_s, pj_set_s, if_true, if_false, not_true_eq_false, not_false_eq_true, pj_up_up, pj_so24_23, pj_so25_23, pj_so26_23, pj_so27_23, pj_so28_23, pj_so29_23, pj_so25_24, pj_so26_24, pj_so27_24, pj_so28_24, pj_so29_24, pj_so26_25, pj_so27_25, pj_so28_25, pj_so29_25, pj_so27_26, pj_so28_26, pj_so29_26, pj_so28_27, pj_so29_27, pj_so29_28, pj_up_ap, pj_upd_ap, pj_a3_0, pj_a3_1, pj_a3_2, pj_a3_u0, pj_a3_u1, pj_a3_u2, pj_f3_5, pj_arl_i, pj_f3_7, hm, hT, pj_tc, c1, c2]
      exact t29_31 (Or.inr rfl)
def ck_d0 (l : Int32) : Int32 := if l < 2 then 0 else 1
def ck_d1 (l nm t d b : Int32) : Int32 := if l < 2 then 0 else if ck_hw nm t d = 0 then b else 1
def ck_d2 (h nm t d : Int32) : Int32 := if h < 2 then 0 else ck_hw nm t d
/-- the way to the switch -/
theorem c_due_5 {k : Int32} (bl : pj_b3 l0 l1 l2) (bh : pj_b3 h0 h1 h2) (hm : H 23 = pj_tc ic nm vo md ar (pj_pk l0 l1 l2) (pj_pk h0 h1 h2) fi) (hT : H 29 = .inr (0, 3, .inl (pj_a3 t0 t1 t2))) (hu : H 5 = pj_uc 5 f) (hu1 : H 6 = .inr (0, 6, .inl (pj_a6 (f 0) (f 1) (f 2) (f 3) (f 4) (f 5)))) (K : pj_Ends 27 (43, [some (.ref 23), some (.ref 5), some (.int k), some (.int (f 5)), some (.int (ck_d0 (l0 + l1 + l2))), some (.int (ck_d0 (h0 + h1 + h2)))], [], (N, S, H)) o) :
    pj_Ends 27 (0, [some (.ref 23), some (.ref 5), some (.int k), none, none, none], [], (N, S, H)) o := by
  have q5 : pj_a6 (f 0) (f 1) (f 2) (f 3) (f 4) (f 5) 5 = f 5 := rfl
  have hx : pj_uc 5 f = .inl (4, [.ref 6, .ref 7, .ref 8, .ref 9, .ref 10, .ref 11, .ref 12, .int (sp_vot f), .int (sp_bar f), .int (f 7), .int (f 6)]) := rfl
  unfold ck_d0 at K
  simp (disch := first | assumption | exact pj_long_i | exact pj_long_r | exact pj_long_n | decide) only [x27_0, x27_1, x27_4, x27_5, x27_6, x27_7, x27_8, simprocAttr, pj_then_s, pj_pv_s, pj_pi_s, pj_set_s, if_true, if_false, not_true_eq_false, not_false_eq_true, pj_up_up, pj_so24_23, pj_so25_23, pj_so26_23, pj_so27_23, pj_so28_23, pj_so29_23, pj_so25_24, pj_so26_24, pj_so27_24, pj_so28_24, pj_so29_24, pj_so26_25, pj_so27_25, pj_so28_25, pj_so29_25, pj_so27_26, pj_so28_26, pj_so29_26, pj_so28_27, pj_so29_27, pj_so29_28, pj_up_ap, pj_upd_ap, pj_a3_0, pj_a3_1, pj_a3_2, pj_a3_u0, pj_a3_u1, pj_a3_u2, pj_f4_0, pj_arl_i, pj_long_i, pj_long_r, pj_long_n, pj_f3_11, hm, hu, hu1, hx, pj_tc, q5]
  refine e27_11 rfl (c_bitCount bl) ?_
  by_cases c1 : l0 + l1 + l2 < 2
  · rw [if_pos c1] at K
    simp (disch := first | assumption | exact pj_long_i | exact pj_long_r | exact pj_long_n | decide) only [x27_14, x27_15, x27_18, x27_19, x27_22, x27_23, x27_25, x27_26, simprocAttr, pj_then_s, pj_pv_s, pj_pi_s, pj_set_s, if_true, if_false, not_true_eq_false, not_false_eq_true, pj_up_up, pj_so24_23, pj_so25_23, pj_so26_23, pj_so27_23, pj_so28_23, pj_so29_23, pj_so25_24, pj_so26_24, pj_so27_24, pj_so28_24, pj_so29_24, pj_so26_25, pj_so27_25, pj_so28_25, pj_so29_25, pj_so27_26, pj_so28_26, pj_so29_26, pj_so28_27, pj_so29_27, pj_so29_28, pj_up_ap, pj_upd_ap, pj_a3_0, pj_a3_1, pj_a3_2, pj_a3_u0, pj_a3_u1, pj_a3_u2, pj_long_i, pj_long_r, pj_long_n, pj_f3_12, hm, pj_tc, c1]
    refine e27_29 rfl (c_bitCount bh) ?_
    by_cases c2 : h0 + h1 + h2 < 2
    · rw [if_pos c2] at K
      simp (disch := first | assumption | exact pj_long_i | exact pj_long_r | exact pj_long_n | decide) only [x27_32, x27_33, x27_36, x27_37, x27_40, x27_41, simprocAttr, pj_then_s, pj_pv_s, pj_pi_s, pj_set_s, if_true, if_false, not_true_eq_false, not_false_eq_true, pj_up_up, pj_so24_23, pj_so25_23, pj_so26_23, pj_so27_23, pj_so28_23, pj_so29_23, pj_so25_24, pj_so26_24, pj_so27_24, pj_so28_24, pj_so29_24, pj_so26_25, pj_so27_25, pj_so28_25, pj_so29_25, pj_so27_26, pj_so28_26, pj_so29_26, pj_so28_27, pj_so29_27, pj_so29_28, pj_up_ap, pj_upd_ap, pj_a3_0, pj_a3_1, pj_a3_2, pj_a3_u0, pj_a3_u1, pj_a3_u2, pj_long_i, pj_long_r, pj_long_n, c2]
      exact K
    · rw [if_neg c2] at K
      simp (disch := first | assumption | exact pj_long_i | exact pj_long_r | exact pj_long_n | decide) only [x27_32, x27_33, x27_36, x27_37, x27_40, x27_41, simprocAttr, pj_then_s, pj_pv_s, pj_pi_s, pj_set_s, if_true, if_false, not_true_eq_false, not_false_eq_true, pj_up_up, pj_so24_23, pj_so25_23, pj_so26_23, pj_so27_23, pj_so28_23, pj_so29_23, pj_so25_24, pj_so26_24, pj_so27_24, pj_so28_24, pj_so29_24, pj_so26_25, pj_so27_25, pj_so28_25, pj_so29_25, pj_so27_26, pj_so28_26, pj_so29_26, pj_so28_27, pj_so29_27, pj_so29_28, pj_up_ap, pj_upd_ap, pj_a3_0, pj_a3_1, pj_a3_2, pj_a3_u0, pj_a3_u1, pj_a3_u2, pj_long_i, pj_long_r, pj_long_n, c2]
      exact K
  · rw [if_neg c1] at K
    simp (disch := first | assumption | exact pj_long_i | exact pj_long_r | exact pj_long_n | decide) only [x27_14, x27_15, x27_18, x27_19, x27_22, x27_23, x27_25, x27_26, simprocAttr, pj_then_s, pj_pv_s, pj_pi_s, pj_set_s, if_true, if_false, not_true_eq_false, not_false_eq_true, pj_up_up, pj_so24_23, pj_so25_23, pj_so26_23, pj_so27_23, pj_so28_23, pj_so29_23, pj_so25_24, pj_so26_24, pj_so27_24, pj_so28_24, pj_so29_24, pj_so26_25, pj_so27_25, pj_so28_25, pj_so29_25, pj_so27_26, pj_so28_26, pj_so29_26, pj_so28_27, pj_so29_27, pj_so29_28, pj_up_ap, pj_upd_ap, pj_a3_0, pj_a3_1, pj_a3_2, pj_a3_u0, pj_a3_u1, pj_a3_u2, pj_long_i, pj_long_r, pj_long_n, pj_f3_12, hm, pj_tc, c1]
    refine e27_29 rfl (c_bitCount bh) ?_
    by_cases c2 : h0 + h1 + h2 < 2
    · rw [if_pos c2] at K
      simp (disch := first | assumption | exact pj_long_i | exact pj_long_r | exact pj_long_n | decide) only [x27_32, x27_33, x27_36, x27_37, x27_40, x27_41, simprocAttr, pj_then_s, pj_pv_s, pj_pi_s, pj_set_s, if_true, if_false, not_true_eq_false, not_false_eq_true, pj_up_up, pj_so24_23, pj_so25_23, pj_so26_23, pj_so27_23, pj_so28_23, pj_so29_23, pj_so25_24, pj_so26_24, pj_so27_24, pj_so28_24, pj_so29_24, pj_so26_25, pj_so27_25, pj_so28_25, pj_so29_25, pj_so27_26, pj_so28_26, pj_so29_26, pj_so28_27, pj_so29_27, pj_so29_28, pj_up_ap, pj_upd_ap, pj_a3_0, pj_a3_1, pj_a3_2, pj_a3_u0, pj_a3_u1, pj_a3_u2, pj_long_i, pj_long_r, pj_long_n, c2]
      exact K
    · rw [if_neg c2] at K
      simp (disch := first | assumption | exact pj_long_i | exact pj_long_r | exact pj_long_n | decide) only [x27_32, x27_33, x27_36, x27_37, x27_40, x27_41, simprocAttr, pj_then_s, pj_pv_s, pj_pi_s, pj_set_s, if_true, if_false, not_true_eq_false, not_false_eq_true, pj_up_up, pj_so24_23, pj_so25_23, pj_so26_23, pj_so27_23, pj_so28_23, pj_so29_23, pj_so25_24, pj_so26_24, pj_so27_24, pj_so28_24, pj_so29_24, pj_so26_25, pj_so27_25, pj_so28_25, pj_so29_25, pj_so27_26, pj_so28_26, pj_so29_26, pj_so28_27, pj_so29_27, pj_so29_28, pj_up_ap, pj_upd_ap, pj_a3_0, pj_a3_1, pj_a3_2, pj_a3_u0, pj_a3_u1, pj_a3_u2, pj_long_i, pj_long_r, pj_long_n, c2]
      exact K
theorem c_due_5_0 (bl : pj_b3 l0 l1 l2) (bh : pj_b3 h0 h1 h2) (hm : H 23 = pj_tc ic nm vo md ar (pj_pk l0 l1 l2) (pj_pk h0 h1 h2) fi) (hT : H 29 = .inr (0, 3, .inl (pj_a3 t0 t1 t2))) (hu : H 5 = pj_uc 5 f) (hu1 : H 6 = .inr (0, 6, .inl (pj_a6 (f 0) (f 1) (f 2) (f 3) (f 4) (f 5)))) : pj_Ends 27 (0, [some (.ref 23), some (.ref 5), some (.int 0), none, none, none], [], (N, S, H)) (some (.int (ck_d0 (l0 + l1 + l2))), (N, S, H)) := by
  refine c_due_5 bl bh hm hT hu hu1 ?_
  simp (disch := first | assumption | exact pj_long_i | exact pj_long_r | exact pj_long_n | decide) only [x27_43, x27_44, x27_72, simprocAttr, pj_then_s, pj_pv_s, pj_pi_s, pj_set_s, if_true, if_false, not_true_eq_false, not_false_eq_true, pj_up_up, pj_so24_23, pj_so25_23, pj_so26_23, pj_so27_23, pj_so28_23, pj_so29_23, pj_so25_24, pj_so26_24, pj_so27_24, pj_so28_24, pj_so29_24, pj_so26_25, pj_so27_25, pj_so28_25, pj_so29_25, pj_so27_26, pj_so28_26, pj_so29_26, pj_so28_27, pj_so29_27, pj_so29_28, pj_up_ap, pj_upd_ap, pj_a3_0, pj_a3_1, pj_a3_2, pj_a3_u0, pj_a3_u1, pj_a3_u2]
  refine t27_74 ?_
  unfold ck_d0
  split
  · exact Or.inl rfl
  · exact Or.inr rfl
theorem c_due_5_1 (bb : pj_b3 (f 26) (f 27) (f 28)) (bl : pj_b3 l0 l1 l2) (bh : pj_b3 h0 h1 h2) (hm : H 23 = pj_tc ic nm vo md ar (pj_pk l0 l1 l2) (pj_pk h0 h1 h2) fi) (hT : H 29 = .inr (0, 3, .inl (pj_a3 t0 t1 t2))) (hu : H 5 = pj_uc 5 f) (hu1 : H 6 = .inr (0, 6, .inl (pj_a6 (f 0) (f 1) (f 2) (f 3) (f 4) (f 5)))) : pj_Ends 27 (0, [some (.ref 23), some (.ref 5), some (.int 1), none, none, none], [], (N, S, H)) (some (.int (ck_d1 (l0 + l1 + l2) nm t0 (f 5) (f 26))), (N, S, H)) := by
  refine c_due_5 bl bh hm hT hu hu1 ?_
  have hb : sp_bar f = pj_pk (f 26) (f 27) (f 28) := rfl
  have hx : pj_uc 5 f = .inl (4, [.ref 6, .ref 7, .ref 8, .ref 9, .ref 10, .ref 11, .ref 12, .int (sp_vot f), .int (pj_pk (f 26) (f 27) (f 28)), .int (f 7), .int (f 6)]) := rfl
  generalize ck_d0 (h0 + h1 + h2) = z
  unfold ck_d1 ck_d0
  by_cases c1 : l0 + l1 + l2 < 2
  · rw [if_pos c1, if_pos c1]
    simp (disch := first | assumption | exact pj_long_i | exact pj_long_r | exact pj_long_n | decide) only [x27_43, x27_44, x27_72, x27_75, x27_77, x27_80, x27_81, x27_82, x27_86, x27_89, x27_90, x27_93, x27_97, x27_100, x27_101, x27_104, simprocAttr, pj_then_s, pj_pv_s, pj_pi_s, pj_set_s, if_true, if_false, not_true_eq_false, not_false_eq_true, pj_up_up, pj_so24_23, pj_so25_23, pj_so26_23, pj_so27_23, pj_so28_23, pj_so29_23, pj_so25_24, pj_so26_24, pj_so27_24, pj_so28_24, pj_so29_24, pj_so26_25, pj_so27_25, pj_so28_25, pj_so29_25, pj_so27_26, pj_so28_26, pj_so29_26, pj_so28_27, pj_so29_27, pj_so29_28, pj_up_ap, pj_upd_ap, pj_a3_0, pj_a3_1, pj_a3_2, pj_a3_u0, pj_a3_u1, pj_a3_u2, pj_f4_8]
    exact t27_105 (Or.inl rfl)
  · rw [if_neg c1, if_neg c1]
    simp (disch := first | assumption | exact pj_long_i | exact pj_long_r | exact pj_long_n | decide) only [x27_43, x27_44, x27_72, x27_75, x27_77, x27_80, x27_81, x27_82, simprocAttr, pj_then_s, pj_pv_s, pj_pi_s, pj_set_s, if_true, if_false, not_true_eq_false, not_false_eq_true, pj_up_up, pj_so24_23, pj_so25_23, pj_so26_23, pj_so27_23, pj_so28_23, pj_so29_23, pj_so25_24, pj_so26_24, pj_so27_24, pj_so28_24, pj_so29_24, pj_so26_25, pj_so27_25, pj_so28_25, pj_so29_25, pj_so27_26, pj_so28_26, pj_so29_26, pj_so28_27, pj_so29_27, pj_so29_28, pj_up_ap, pj_upd_ap, pj_a3_0, pj_a3_1, pj_a3_2, pj_a3_u0, pj_a3_u1, pj_a3_u2]
    refine e27_83 rfl (by rw [hm]; rfl) (c_hasWaited_0 hm hT) ?_
    by_cases c2 : ck_hw nm t0 (f 5) = 0
    · rw [if_pos c2]
      simp (disch := first | assumption | exact pj_long_i | exact pj_long_r | exact pj_long_n | decide) only [x27_86, x27_89, x27_90, x27_93, simprocAttr, pj_then_s, pj_pv_s, pj_pi_s, pj_set_s, if_true, if_false, not_true_eq_false, not_false_eq_true, pj_up_up, pj_so24_23, pj_so25_23, pj_so26_23, pj_so27_23, pj_so28_23, pj_so29_23, pj_so25_24, pj_so26_24, pj_so27_24, pj_so28_24, pj_so29_24, pj_so26_25, pj_so27_25, pj_so28_25, pj_so29_25, pj_so27_26, pj_so28_26, pj_so29_26, pj_so28_27, pj_so29_27, pj_so29_28, pj_up_ap, pj_upd_ap, pj_a3_0, pj_a3_1, pj_a3_2, pj_a3_u0, pj_a3_u1, pj_a3_u2, pj_f4_8, c2, hu, hx]
      refine e27_94 rfl (c_has_0 bb) ?_
      rcases bb.1 with e | e
      · rw [e]
        simp (disch := first | assumption | exact pj_long_i | exact pj_long_r | exact pj_long_n | decide) only [x27_97, x27_100, x27_101, x27_104, simprocAttr, pj_then_s, pj_pv_s, pj_pi_s, pj_set_s, if_true, if_false, not_true_eq_false, not_false_eq_true, pj_up_up, pj_so24_23, pj_so25_23, pj_so26_23, pj_so27_23, pj_so28_23, pj_so29_23, pj_so25_24, pj_so26_24, pj_so27_24, pj_so28_24, pj_so29_24, pj_so26_25, pj_so27_25, pj_so28_25, pj_so29_25, pj_so27_26, pj_so28_26, pj_so29_26, pj_so28_27, pj_so29_27, pj_so29_28, pj_up_ap, pj_upd_ap, pj_a3_0, pj_a3_1, pj_a3_2, pj_a3_u0, pj_a3_u1, pj_a3_u2]
        exact t27_105 (Or.inl rfl)
      · rw [e]
        simp (disch := first | assumption | exact pj_long_i | exact pj_long_r | exact pj_long_n | decide) only [x27_97, x27_100, x27_101, x27_104, simprocAttr, pj_then_s, pj_pv_s, pj_pi_s, pj_set_s, if_true, if_false, not_true_eq_false, not_false_eq_true, pj_up_up, pj_so24_23, pj_so25_23, pj_so26_23, pj_so27_23, pj_so28_23, pj_so29_23, pj_so25_24, pj_so26_24, pj_so27_24, pj_so28_24, pj_so29_24, pj_so26_25, pj_so27_25, pj_so28_25, pj_so29_25, pj_so27_26, pj_so28_26, pj_so29_26, pj_so28_27, pj_so29_27, pj_so29_28, pj_up_ap, pj_upd_ap, pj_a3_0, pj_a3_1, pj_a3_2, pj_a3_u0, pj_a3_u1, pj_a3_u2]
        exact t27_105 (Or.inr rfl)
    · rw [if_neg c2]
      simp (disch := first | assumption | exact pj_long_i | exact pj_long_r | exact pj_long_n | decide) only [x27_86, x27_89, x27_90, x27_93, x27_97, x27_100, x27_101, x27_104, simprocAttr, pj_then_s, pj_pv_s, pj_pi_s, pj_set_s, if_true, if_false, not_true_eq_false, not_false_eq_true, pj_up_up, pj_so24_23, pj_so25_23, pj_so26_23, pj_so27_23, pj_so28_23, pj_so29_23, pj_so25_24, pj_so26_24, pj_so27_24, pj_so28_24, pj_so29_24, pj_so26_25, pj_so27_25, pj_so28_25, pj_so29_25, pj_so27_26, pj_so28_26, pj_so29_26, pj_so28_27, pj_so29_27, pj_so29_28, pj_up_ap, pj_upd_ap, pj_a3_0, pj_a3_1, pj_a3_2, pj_a3_u0, pj_a3_u1, pj_a3_u2, pj_f4_8, c2]
      exact t27_105 (Or.inr rfl)
theorem c_due_5_2 (bl : pj_b3 l0 l1 l2) (bh : pj_b3 h0 h1 h2) (hm : H 23 = pj_tc ic nm vo md ar (pj_pk l0 l1 l2) (pj_pk h0 h1 h2) fi) (hT : H 29 = .inr (0, 3, .inl (pj_a3 t0 t1 t2))) (hu : H 5 = pj_uc 5 f) (hu1 : H 6 = .inr (0, 6, .inl (pj_a6 (f 0) (f 1) (f 2) (f 3) (f 4) (f 5)))) : pj_Ends 27 (0, [some (.ref 23), some (.ref 5), some (.int 2), none, none, none], [], (N, S, H)) (some (.int (ck_d2 (h0 + h1 + h2) nm t1 (f 5))), (N, S, H)) := by
  refine c_due_5 bl bh hm hT hu hu1 ?_
  generalize ck_d0 (l0 + l1 + l2) = z
  unfold ck_d2 ck_d0
  by_cases c1 : h0 + h1 + h2 < 2
  · rw [if_pos c1, if_pos c1]
    simp (disch := first | assumption | exact pj_long_i | exact pj_long_r | exact pj_long_n | decide) only [x27_43, x27_44, x27_72, x27_75, x27_77, x27_80, x27_81, x27_82, x27_86, x27_89, x27_90, x27_93, x27_97, x27_100, x27_101, x27_104, x27_106, x27_108, x27_111, x27_112, x27_113, x27_117, x27_120, x27_121, x27_124, simprocAttr, pj_then_s, pj_pv_s, pj_pi_s, pj_set_s, if_true, if_false, not_true_eq_false, not_false_eq_true, pj_up_up, pj_so24_23, pj_so25_23, pj_so26_23, pj_so27_23, pj_so28_23, pj_so29_23, pj_so25_24, pj_so26_24, pj_so27_24, pj_so28_24, pj_so29_24, pj_so26_25, pj_so27_25, pj_so28_25, pj_so29_25, pj_so27_26, pj_so28_26, pj_so29_26, pj_so28_27, pj_so29_27, pj_so29_28, pj_up_ap, pj_upd_ap, pj_a3_0, pj_a3_1, pj_a3_2, pj_a3_u0, pj_a3_u1, pj_a3_u2, pj_f4_8]
    exact t27_125 (Or.inl rfl)
  · rw [if_neg c1, if_neg c1]
    simp (disch := first | assumption | exact pj_long_i | exact pj_long_r | exact pj_long_n | decide) only [x27_43, x27_44, x27_72, x27_75, x27_77, x27_80, x27_81, x27_82, x27_86, x27_89, x27_90, x27_93, x27_97, x27_100, x27_101, x27_104, x27_106, x27_108, x27_111, x27_112, x27_113, simprocAttr, pj_then_s, pj_pv_s, pj_pi_s, pj_set_s, if_true, if_false, not_true_eq_false, not_false_eq_true, pj_up_up, pj_so24_23, pj_so25_23, pj_so26_23, pj_so27_23, pj_so28_23, pj_so29_23, pj_so25_24, pj_so26_24, pj_so27_24, pj_so28_24, pj_so29_24, pj_so26_25, pj_so27_25, pj_so28_25, pj_so29_25, pj_so27_26, pj_so28_26, pj_so29_26, pj_so28_27, pj_so29_27, pj_so29_28, pj_up_ap, pj_upd_ap, pj_a3_0, pj_a3_1, pj_a3_2, pj_a3_u0, pj_a3_u1, pj_a3_u2, pj_f4_8]
    refine e27_114 rfl (by rw [hm]; rfl) (c_hasWaited_1 hm hT) ?_
    rcases ck_hw_01 (nm := nm) (t := t1) (d := f 5) with e | e
    · rw [e]
      simp (disch := first | assumption | exact pj_long_i | exact pj_long_r | exact pj_long_n | decide) only [x27_117, x27_120, x27_121, x27_124, simprocAttr, pj_then_s, pj_pv_s, pj_pi_s, pj_set_s, if_true, if_false, not_true_eq_false, not_false_eq_true, pj_up_up, pj_so24_23, pj_so25_23, pj_so26_23, pj_so27_23, pj_so28_23, pj_so29_23, pj_so25_24, pj_so26_24, pj_so27_24, pj_so28_24, pj_so29_24, pj_so26_25, pj_so27_25, pj_so28_25, pj_so29_25, pj_so27_26, pj_so28_26, pj_so29_26, pj_so28_27, pj_so29_27, pj_so29_28, pj_up_ap, pj_upd_ap, pj_a3_0, pj_a3_1, pj_a3_2, pj_a3_u0, pj_a3_u1, pj_a3_u2]
      exact t27_125 (Or.inl rfl)
    · rw [e]
      simp (disch := first | assumption | exact pj_long_i | exact pj_long_r | exact pj_long_n | decide) only [x27_117, x27_120, x27_121, x27_124, simprocAttr, pj_then_s, pj_pv_s, pj_pi_s, pj_set_s, if_true, if_false, not_true_eq_false, not_false_eq_true, pj_up_up, pj_so24_23, pj_so25_23, pj_so26_23, pj_so27_23, pj_so28_23, pj_so29_23, pj_so25_24, pj_so26_24, pj_so27_24, pj_so28_24, pj_so29_24, pj_so26_25, pj_so27_25, pj_so28_25, pj_so29_25, pj_so27_26, pj_so28_26, pj_so29_26, pj_so28_27, pj_so29_27, pj_so29_28, pj_up_ap, pj_upd_ap, pj_a3_0, pj_a3_1, pj_a3_2, pj_a3_u0, pj_a3_u1, pj_a3_u2]
      exact t27_125 (Or.inr rfl)
/-- the way to the switch -/
theorem c_due_14 {k : Int32} (bl : pj_b3 l0 l1 l2) (bh : pj_b3 h0 h1 h2) (hm : H 23 = pj_tc ic nm vo md ar (pj_pk l0 l1 l2) (pj_pk h0 h1 h2) fi) (hT : H 29 = .inr (0, 3, .inl (pj_a3 t0 t1 t2))) (hu : H 14 = pj_uc 14 f) (hu1 : H 15 = .inr (0, 6, .inl (pj_a6 (f 0) (f 1) (f 2) (f 3) (f 4) (f 5)))) (K : pj_Ends 27 (43, [some (.ref 23), some (.ref 14), some (.int k), some (.int (f 5)), some (.int (ck_d0 (l0 + l1 + l2))), some (.int (ck_d0 (h0 + h1 + h2)))], [], (N, S, H)) o) :
    pj_Ends 27 (0, [some (.ref 23), some (.ref 14), some (.int k), none, none, none], [], (N, S, H)) o := by
  have q5 : pj_a6 (f 0) (f 1) (f 2) (f 3) (f 4) (f 5) 5 = f 5 := rfl
  have hx : pj_uc 14 f = .inl (4, [.ref 15, .ref 16, .ref 17, .ref 18, .ref 19, .ref 20, .ref 21, .int (sp_vot f), .int (sp_bar f), .int (f 7), .int (f 6)]) := rfl
  unfold ck_d0 at K
  simp (disch := first | assumption | exact pj_long_i | exact pj_long_r | exact pj_long_n | decide) only [x27_0, x27_1, x27_4, x27_5, x27_6, x27_7, x27_8, simprocAttr, pj_then_s, pj_pv_s, pj_pi_s, pj_set_s, if_true, if_false, not_true_eq_false, not_false_eq_true, pj_up_up, pj_so24_23, pj_so25_23, pj_so26_23, pj_so27_23, pj_so28_23, pj_so29_23, pj_so25_24, pj_so26_24, pj_so27_24, pj_so28_24, pj_so29_24, pj_so26_25, pj_so27_25, pj_so28_25, pj_so29_25, pj_so27_26, pj_so28_26, pj_so29_26, pj_so28_27, pj_so29_27, pj_so29_28, pj_up_ap, pj_upd_ap, pj_a3_0, pj_a3_1, pj_a3_2, pj_a3_u0, pj_a3_u1, pj_a3_u2, pj_f4_0, pj_arl_i, pj_long_i, pj_long_r, pj_long_n, pj_f3_11, hm, hu, hu1, hx, pj_tc, q5]
  refine e27_11 rfl (c_bitCount bl) ?_
  by_cases c1 : l0 + l1 + l2 < 2
  · rw [if_pos c1] at K
    simp (disch := first | assumption | exact pj_long_i | exact pj_long_r | exact pj_long_n | decide) only [x27_14, x27_15, x27_18, x27_19, x27_22, x27_23, x27_25, x27_26, simprocAttr, pj_then_s, pj_pv_s, pj_pi_s, pj_set_s, if_true, if_false, not_true_eq_false, not_false_eq_true, pj_up_up, pj_so24_23, pj_so25_23, pj_so26_23, pj_so27_23, pj_so28_23, pj_so29_23, pj_so25_24, pj_so26_24, pj_so27_24, pj_so28_24, pj_so29_24, pj_so26_25, pj_so27_25, pj_so28_25, pj_so29_25, pj_so27_26, pj_so28_26, pj_so29_26, pj_so28_27, pj_so29_27, pj_so29_28, pj_up_ap, pj_upd_ap, pj_a3_0, pj_a3_1, pj_a3_2, pj_a3_u0, pj_a3_u1, pj_a3_u2, pj_long_i, pj_long_r, pj_long_n, pj_f3_12, hm, pj_tc, c1]
    refine e27_29 rfl (c_bitCount bh) ?_
    by_cases c2 : h0 + h1 + h2 < 2
    · rw [if_pos c2] at K
      simp (disch := first | assumption | exact pj_long_i | exact pj_long_r | exact pj_long_n | decide) only [x27_32, x27_33, x27_36, x27_37, x27_40, x27_41, simprocAttr, pj_then_s, pj_pv_s, pj_pi_s, pj_set_s, if_true, if_false, not_true_eq_false, not_false_eq_true, pj_up_up, pj_so24_23, pj_so25_23, pj_so26_23, pj_so27_23, pj_so28_23, pj_so29_23, pj_so25_24, pj_so26_24, pj_so27_24, pj_so28_24, pj_so29_24, pj_so26_25, pj_so27_25, pj_so28_25, pj_so29_25, pj_so27_26, pj_so28_26, pj_so29_26, pj_so28_27, pj_so29_27, pj_so29_28, pj_up_ap, pj_upd_ap, pj_a3_0, pj_a3_1, pj_a3_2, pj_a3_u0, pj_a3_u1, pj_a3_u2, pj_long_i, pj_long_r, pj_long_n, c2]
      exact K
    · rw [if_neg c2] at K
      simp (disch := first | assumption | exact pj_long_i | exact pj_long_r | exact pj_long_n | decide) only [x27_32, x27_33, x27_36, x27_37, x27_40, x27_41, simprocAttr, pj_then_s, pj_pv_s, pj_pi_s, pj_set_s, if_true, if_false, not_true_eq_false, not_false_eq_true, pj_up_up, pj_so24_23, pj_so25_23, pj_so26_23, pj_so27_23, pj_so28_23, pj_so29_23, pj_so25_24, pj_so26_24, pj_so27_24, pj_so28_24, pj_so29_24, pj_so26_25, pj_so27_25, pj_so28_25, pj_so29_25, pj_so27_26, pj_so28_26, pj_so29_26, pj_so28_27, pj_so29_27, pj_so29_28, pj_up_ap, pj_upd_ap, pj_a3_0, pj_a3_1, pj_a3_2, pj_a3_u0, pj_a3_u1, pj_a3_u2, pj_long_i, pj_long_r, pj_long_n, c2]
      exact K
  · rw [if_neg c1] at K
    simp (disch := first | assumption | exact pj_long_i | exact pj_long_r | exact pj_long_n | decide) only [x27_14, x27_15, x27_18, x27_19, x27_22, x27_23, x27_25, x27_26, simprocAttr, pj_then_s, pj_pv_s, pj_pi_s, pj_set_s, if_true, if_false, not_true_eq_false, not_false_eq_true, pj_up_up, pj_so24_23, pj_so25_23, pj_so26_23, pj_so27_23, pj_so28_23, pj_so29_23, pj_so25_24, pj_so26_24, pj_so27_24, pj_so28_24, pj_so29_24, pj_so26_25, pj_so27_25, pj_so28_25, pj_so29_25, pj_so27_26, pj_so28_26, pj_so29_26, pj_so28_27, pj_so29_27, pj_so29_28, pj_up_ap, pj_upd_ap, pj_a3_0, pj_a3_1, pj_a3_2, pj_a3_u0, pj_a3_u1, pj_a3_u2, pj_long_i, pj_long_r, pj_long_n, pj_f3_12, hm, pj_tc, c1]
    refine e27_29 rfl (c_bitCount bh) ?_
    by_cases c2 : h0 + h1 + h2 < 2
    · rw [if_pos c2] at K
      simp (disch := first | assumption | exact pj_long_i | exact pj_long_r | exact pj_long_n | decide) only [x27_32, x27_33, x27_36, x27_37, x27_40, x27_41, simprocAttr, pj_then_s, pj_pv_s, pj_pi_s, pj_set_s, if_true, if_false, not_true_eq_false, not_false_eq_true, pj_up_up, pj_so24_23, pj_so25_23, pj_so26_23, pj_so27_23, pj_so28_23, pj_so29_23, pj_so25_24, pj_so26_24, pj_so27_24, pj_so28_24, pj_so29_24, pj_so26_25, pj_so27_25, pj_so28_25, pj_so29_25, pj_so27_26, pj_so28_26, pj_so29_26, pj_so28_27, pj_so29_27, pj_so29_28, pj_up_ap, pj_upd_ap, pj_a3_0, pj_a3_1, pj_a3_2, pj_a3_u0, pj_a3_u1, pj_a3_u2, pj_long_i, pj_long_r, pj_long_n, c2]
      exact K
    · rw [if_neg c2] at K
      simp (disch := first | assumption | exact pj_long_i | exact pj_long_r | exact pj_long_n | decide) only [x27_32, x27_33, x27_36, x27_37, x27_40, x27_41, simprocAttr, pj_then_s, pj_pv_s, pj_pi_s, pj_set_s, if_true, if_false, not_true_eq_false, not_false_eq_true, pj_up_up, pj_so24_23, pj_so25_23, pj_so26_23, pj_so27_23, pj_so28_23, pj_so29_23, pj_so25_24, pj_so26_24, pj_so27_24, pj_so28_24, pj_so29_24, pj_so26_25, pj_so27_25, pj_so28_25, pj_so29_25, pj_so27_26, pj_so28_26, pj_so29_26, pj_so28_27, pj_so29_27, pj_so29_28, pj_up_ap, pj_upd_ap, pj_a3_0, pj_a3_1, pj_a3_2, pj_a3_u0, pj_a3_u1, pj_a3_u2, pj_long_i, pj_long_r, pj_long_n, c2]
      exact K
theorem c_due_14_0 (bl : pj_b3 l0 l1 l2) (bh : pj_b3 h0 h1 h2) (hm : H 23 = pj_tc ic nm vo md ar (pj_pk l0 l1 l2) (pj_pk h0 h1 h2) fi) (hT : H 29 = .inr (0, 3, .inl (pj_a3 t0 t1 t2))) (hu : H 14 = pj_uc 14 f) (hu1 : H 15 = .inr (0, 6, .inl (pj_a6 (f 0) (f 1) (f 2) (f 3) (f 4) (f 5)))) : pj_Ends 27 (0, [some (.ref 23), some (.ref 14), some (.int 0), none, none, none], [], (N, S, H)) (some (.int (ck_d0 (l0 + l1 + l2))), (N, S, H)) := by
  refine c_due_14 bl bh hm hT hu hu1 ?_
  simp (disch := first | assumption | exact pj_long_i | exact pj_long_r | exact pj_long_n | decide) only [x27_43, x27_44, x27_72, simprocAttr, pj_then_s, pj_pv_s, pj_pi_s, pj_set_s, if_true, if_false, not_true_eq_false, not_false_eq_true, pj_up_up, pj_so24_23, pj_so25_23, pj_so26_23, pj_so27_23, pj_so28_23, pj_so29_23, pj_so25_24, pj_so26_24, pj_so27_24, pj_so28_24, pj_so29_24, pj_so26_25, pj_so27_25, pj_so28_25, pj_so29_25, pj_so27_26, pj_so28_26, pj_so29_26, pj_so28_27, pj_so29_27, pj_so29_28, pj_up_ap, pj_upd_ap, pj_a3_0, pj_a3_1, pj_a3_2, pj_a3_u0, pj_a3_u1, pj_a3_u2]
  refine t27_74 ?_
  unfold ck_d0
  split
  · exact Or.inl rfl
  · exact Or.inr rfl
theorem c_due_14_1 (bb : pj_b3 (f 26) (f 27) (f 28)) (bl : pj_b3 l0 l1 l2) (bh : pj_b3 h0 h1 h2) (hm : H 23 = pj_tc ic nm vo md ar (pj_pk l0 l1 l2) (pj_pk h0 h1 h2) fi) (hT : H 29 = .inr (0, 3, .inl (pj_a3 t0 t1 t2))) (hu : H 14 = pj_uc 14 f) (hu1 : H 15 = .inr (0, 6, .inl (pj_a6 (f 0) (f 1) (f 2) (f 3) (f 4) (f 5)))) : pj_Ends 27 (0, [some (.ref 23), some (.ref 14), some (.int 1), none, none, none], [], (N, S, H)) (some (.int (ck_d1 (l0 + l1 + l2) nm t0 (f 5) (f 26))), (N, S, H)) := by
  refine c_due_14 bl bh hm hT hu hu1 ?_
  have hb : sp_bar f = pj_pk (f 26) (f 27) (f 28) := rfl
  have hx : pj_uc 14 f = .inl (4, [.ref 15, .ref 16, .ref 17, .ref 18, .ref 19, .ref 20, .ref 21, .int (sp_vot f), .int (pj_pk (f 26) (f 27) (f 28)), .int (f 7), .int (f 6)]) := rfl
  generalize ck_d0 (h0 + h1 + h2) = z
  unfold ck_d1 ck_d0
  by_cases c1 : l0 + l1 + l2 < 2
  · rw [if_pos c1, if_pos c1]
    simp (disch := first | assumption | exact pj_long_i | exact pj_long_r | exact pj_long_n | decide) only [x27_43, x27_44, x27_72, x27_75, x27_77, x27_80, x27_81, x27_82, x27_86, x27_89, x27_90, x27_93, x27_97, x27_100, x27_101, x27_104, simprocAttr, pj_then_s, pj_pv_s, pj_pi_s, pj_set_s, if_true, if_false, not_true_eq_false, not_false_eq_true, pj_up_up, pj_so24_23, pj_so25_23, pj_so26_23, pj_so27_23, pj_so28_23, pj_so29_23, pj_so25_24, pj_so26_24, pj_so27_24, pj_so28_24, pj_so29_24, pj_so26_25, pj_so27_25, pj_so28_25, pj_so29_25, pj_so27_26, pj_so28_26, pj_so29_26, pj_so28_27, pj_so29_27, pj_so29_28, pj_up_ap, pj_upd_ap, pj_a3_0, pj_a3_1, pj_a3_2, pj_a3_u0, pj_a3_u1, pj_a3_u2, pj_f4_8]
    exact t27_105 (Or.inl rfl)
  · rw [if_neg c1, if_neg c1]
    simp (disch := first | assumption | exact pj_long_i | exact pj_long_r | exact pj_long_n | decide) only [x27_43, x27_44, x27_72, x27_75, x27_77, x27_80, x27_81, x27_82, simprocAttr, pj_then_s, pj_pv_s, pj_pi_s, pj_set_s, if_true, if_false, not_true_eq_false, not_false_eq_true, pj_up_up, pj_so24_23, pj_so25_23, pj_so26_23, pj_so27_23, pj_so28_23, pj_so29_23, pj_so25_24, pj_so26_24, pj_so27_24, pj_so28_24, pj_so29_24, pj_so26_25, pj_so27_25, pj_so28_25, pj_so29_25, pj_so27_26, pj_so28_26, pj_so29_26, pj_so28_27, pj_so29_27, pj_so29_28, pj_up_ap, pj_upd_ap, pj_a3_0, pj_a3_1, pj_a3_2, pj_a3_u0, pj_a3_u1, pj_a3_u2]
    refine e27_83 rfl (by rw [hm]; rfl) (c_hasWaited_0 hm hT) ?_
    by_cases c2 : ck_hw nm t0 (f 5) = 0
    · rw [if_pos c2]
      simp (disch := first | assumption | exact pj_long_i | exact pj_long_r | exact pj_long_n | decide) only [x27_86, x27_89, x27_90, x27_93, simprocAttr, pj_then_s, pj_pv_s, pj_pi_s, pj_set_s, if_true, if_false, not_true_eq_false, not_false_eq_true, pj_up_up, pj_so24_23, pj_so25_23, pj_so26_23, pj_so27_23, pj_so28_23, pj_so29_23, pj_so25_24, pj_so26_24, pj_so27_24, pj_so28_24, pj_so29_24, pj_so26_25, pj_so27_25, pj_so28_25, pj_so29_25, pj_so27_26, pj_so28_26, pj_so29_26, pj_so28_27, pj_so29_27, pj_so29_28, pj_up_ap, pj_upd_ap, pj_a3_0, pj_a3_1, pj_a3_2, pj_a3_u0, pj_a3_u1, pj_a3_u2, pj_f4_8, c2, hu, hx]
      refine e27_94 rfl (c_has_0 bb) ?_
      rcases bb.1 with e | e
      · rw [e]
        simp (disch := first | assumption | exact pj_long_i | exact pj_long_r | exact pj_long_n | decide) only [x27_97, x27_100, x27_101, x27_104, simprocAttr, pj_then_s, pj_pv_s, pj_pi_s, pj_set_s, if_true, if_false, not_true_eq_false, not_false_eq_true, pj_up_up, pj_so24_23, pj_so25_23, pj_so26_23, pj_so27_23, pj_so28_23, pj_so29_23, pj_so25_24, pj_so26_24, pj_so27_24, pj_so28_24, pj_so29_24, pj_so26_25, pj_so27_25, pj_so28_25, pj_so29_25, pj_so27_26, pj_so28_26, pj_so29_26, pj_so28_27, pj_so29_27, pj_so29_28, pj_up_ap, pj_upd_ap, pj_a3_0, pj_a3_1, pj_a3_2, pj_a3_u0, pj_a3_u1, pj_a3_u2]
        exact t27_105 (Or.inl rfl)
      · rw [e]
        simp (disch := first | assumption | exact pj_long_i | exact pj_long_r | exact pj_long_n | decide) only [x27_97, x27_100, x27_101, x27_104, simprocAttr, pj_then_s, pj_pv_s, pj_pi_s, pj_set_s, if_true, if_false, not_true_eq_false, not_false_eq_true, pj_up_up, pj_so24_23, pj_so25_23, pj_so26_23, pj_so27_23, pj_so28_23, pj_so29_23, pj_so25_24, pj_so26_24, pj_so27_24, pj_so28_24, pj_so29_24, pj_so26_25, pj_so27_25, pj_so28_25, pj_so29_25, pj_so27_26, pj_so28_26, pj_so29_26, pj_so28_27, pj_so29_27, pj_so29_28, pj_up_ap, pj_upd_ap, pj_a3_0, pj_a3_1, pj_a3_2, pj_a3_u0, pj_a3_u1, pj_a3_u2]
        exact t27_105 (Or.inr rfl)
    · rw [if_neg c2]
      simp (disch := first | assumption | exact pj_long_i | exact pj_long_r | exact pj_long_n | decide) only [x27_86, x27_89, x27_90, x27_93, x27_97, x27_100, x27_101, x27_104, simprocAttr, pj_then_s, pj_pv_s, pj_pi_s, pj_set_s, if_true, if_false, not_true_eq_false, not_false_eq_true, pj_up_up, pj_so24_23, pj_so25_23, pj_so26_23, pj_so27_23, pj_so28_23, pj_so29_23, pj_so25_24, pj_so26_24, pj_so27_24, pj_so28_24, pj_so29_24, pj_so26_25, pj_so27_25, pj_so28_25, pj_so29_25, pj_so27_26, pj_so28_26, pj_so29_26, pj_so28_27, pj_so29_27, pj_so29_28, pj_up_ap, pj_upd_ap, pj_a3_0, pj_a3_1, pj_a3_2, pj_a3_u0, pj_a3_u1, pj_a3_u2, pj_f4_8, c2]
      exact t27_105 (Or.inr rfl)
theorem c_due_14_2 (bl : pj_b3 l0 l1 l2) (bh : pj_b3 h0 h1 h2) (hm : H 23 = pj_tc ic nm vo md ar (pj_pk l0 l1 l2) (pj_pk h0 h1 h2) fi) (hT : H 29 = .inr (0, 3, .inl (pj_a3 t0 t1 t2))) (hu : H 14 = pj_uc 14 f) (hu1 : H 15 = .inr (0, 6, .inl (pj_a6 (f 0) (f 1) (f 2) (f 3) (f 4) (f 5)))) : pj_Ends 27 (0, [some (.ref 23), some (.ref 14), some (.int 2), none, none, none], [], (N, S, H)) (some (.int (ck_d2 (h0 + h1 + h2) nm t1 (f 5))), (N, S, H)) := by
  refine c_due_14 bl bh hm hT hu hu1 ?_
  generalize ck_d0 (l0 + l1 + l2) = z
  unfold ck_d2 ck_d0
  by_cases c1 : h0 + h1 + h2 < 2
  · rw [if_pos c1, if_pos c1]
    simp (disch := first | assumption | exact pj_long_i | exact pj_long_r | exact pj_long_n | decide) only [x27_43, x27_44, x27_72, x27_75, x27_77, x27_80, x27_81, x27_82, x27_86, x27_89, x27_90, x27_93, x27_97, x27_100, x27_101, x27_104, x27_106, x27_108, x27_111, x27_112, x27_113, x27_117, x27_120, x27_121, x27_124, simprocAttr, pj_then_s, pj_pv_s, pj_pi_s, pj_set_s, if_true, if_false, not_true_eq_false, not_false_eq_true, pj_up_up, pj_so24_23, pj_so25_23, pj_so26_23, pj_so27_23, pj_so28_23, pj_so29_23, pj_so25_24, pj_so26_24, pj_so27_24, pj_so28_24, pj_so29_24, pj_so26_25, pj_so27_25, pj_so28_25, pj_so29_25, pj_so27_26, pj_so28_26, pj_so29_26, pj_so28_27, pj_so29_27, pj_so29_28, pj_up_ap, pj_upd_ap, pj_a3_0, pj_a3_1, pj_a3_2, pj_a3_u0, pj_a3_u1, pj_a3_u2, pj_f4_8]
    exact t27_125 (Or.inl rfl)
  · rw [if_neg c1, if_neg c1]
    simp (disch := first | assumption | exact pj_long_i | exact pj_long_r | exact pj_long_n | decide) only [x27_43, x27_44, x27_72, x27_75, x27_77, x27_80, x27_81, x27_82, x27_86, x27_89, x27_90, x27_93, x27_97, x27_100, x27_101, x27_104, x27_106, x27_108, x27_111, x27_112, x27_113, simprocAttr, pj_then_s, pj_pv_s, pj_pi_s, pj_set_s, if_true, if_false, not_true_eq_false, not_false_eq_true, pj_up_up, pj_so24_23, pj_so25_23, pj_so26_23, pj_so27_23, pj_so28_23, pj_so29_23, pj_so25_24, pj_so26_24, pj_so27_24, pj_so28_24, pj_so29_24, pj_so26_25, pj_so27_25, pj_so28_25, pj_so29_25, pj_so27_26, pj_so28_26, pj_so29_26, pj_so28_27, pj_so29_27, pj_so29_28, pj_up_ap, pj_upd_ap, pj_a3_0, pj_a3_1, pj_a3_2, pj_a3_u0, pj_a3_u1, pj_a3_u2, pj_f4_8]
    refine e27_114 rfl (by rw [hm]; rfl) (c_hasWaited_1 hm hT) ?_
    rcases ck_hw_01 (nm := nm) (t := t1) (d := f 5) with e | e
    · rw [e]
      simp (disch := first | assumption | exact pj_long_i | exact pj_long_r | exact pj_long_n | decide) only [x27_117, x27_120, x27_121, x27_124, simprocAttr, pj_then_s, pj_pv_s, pj_pi_s, pj_set_s, if_true, if_false, not_true_eq_false, not_false_eq_true, pj_up_up, pj_so24_23, pj_so25_23, pj_so26_23, pj_so27_23, pj_so28_23, pj_so29_23, pj_so25_24, pj_so26_24, pj_so27_24, pj_so28_24, pj_so29_24, pj_so26_25, pj_so27_25, pj_so28_25, pj_so29_25, pj_so27_26, pj_so28_26, pj_so29_26, pj_so28_27, pj_so29_27, pj_so29_28, pj_up_ap, pj_upd_ap, pj_a3_0, pj_a3_1, pj_a3_2, pj_a3_u0, pj_a3_u1, pj_a3_u2]
      exact t27_125 (Or.inl rfl)
    · rw [e]
      simp (disch := first | assumption | exact pj_long_i | exact pj_long_r | exact pj_long_n | decide) only [x27_117, x27_120, x27_121, x27_124, simprocAttr, pj_then_s, pj_pv_s, pj_pi_s, pj_set_s, if_true, if_false, not_true_eq_false, not_false_eq_true, pj_up_up, pj_so24_23, pj_so25_23, pj_so26_23, pj_so27_23, pj_so28_23, pj_so29_23, pj_so25_24, pj_so26_24, pj_so27_24, pj_so28_24, pj_so29_24, pj_so26_25, pj_so27_25, pj_so28_25, pj_so29_25, pj_so27_26, pj_so28_26, pj_so29_26, pj_so28_27, pj_so29_27, pj_so29_28, pj_up_ap, pj_upd_ap, pj_a3_0, pj_a3_1, pj_a3_2, pj_a3_u0, pj_a3_u1, pj_a3_u2]
      exact t27_125 (Or.inr rfl)
end T5
