/-! THE CLASS'S TICK, 6 -/
def ck_y (t b due : Int32) : Int32 := if t = -6 then (if b = 0 then due else 0) else 0
def ck_n (y x z : Int32) : Int32 := if y = 0 then x else z
theorem ck_d0_01 {l : Int32} : ck_d0 l = 0 ∨ ck_d0 l = 1 := by
  unfold ck_d0
  split
  · exact Or.inl rfl
  · exact Or.inr rfl
theorem ck_d1_01 {l nm t d b : Int32} (hb : b = 0 ∨ b = 1) : ck_d1 l nm t d b = 0 ∨ ck_d1 l nm t d b = 1 := by
  unfold ck_d1
  split
  · exact Or.inl rfl
  · split
    · exact hb
    · exact Or.inr rfl
theorem ck_d2_01 {l nm t d : Int32} : ck_d2 l nm t d = 0 ∨ ck_d2 l nm t d = 1 := by
  unfold ck_d2
  split
  · exact Or.inl rfl
  · exact ck_hw_01
theorem ck_n_01 {y x : Int32} (h : x = 0 ∨ x = 1) : ck_n y x 1 = 0 ∨ ck_n y x 1 = 1 := by
  unfold ck_n
  split
  · exact h
  · exact Or.inr rfl
section T6
variable {N S : Nat} {H : pj_Heap} {o : Option Value × pj_Mem} {ic nm vo md ar fi : Int32} {f g : Nat → Int32} {t0 t1 t2 l0 l1 l2 h0 h1 h2 q0 q1 q2 : Int32}
theorem c_fire_5_0 (bb : pj_b3 (f 26) (f 27) (f 28)) (bq : pj_b3 q0 q1 q2) (bl : pj_b3 l0 l1 l2) (bh : pj_b3 h0 h1 h2) (hm : H 23 = pj_tc ic nm vo md ar (pj_pk l0 l1 l2) (pj_pk h0 h1 h2) (pj_pk q0 q1 q2)) (hT : H 29 = .inr (0, 3, .inl (pj_a3 t0 t1 t2))) (hu : H 5 = pj_uc 5 f) (hu1 : H 6 = .inr (0, 6, .inl (pj_a6 (f 0) (f 1) (f 2) (f 3) (f 4) (f 5))))
    (K : pj_Ends 26 (29, [some (.ref 23), some (.ref 5), some (.int 1)], [], (N, S, pj_up (pj_up H 23 (pj_tc ic nm vo md ar (pj_pk l0 l1 l2) (pj_pk h0 h1 h2) (pj_pk (ck_n (ck_y t0 (f 26) (ck_d0 (l0 + l1 + l2))) q0 1) q1 q2))) 29 (.inr (0, 3, .inl (pj_a3 (ck_n (ck_y t0 (f 26) (ck_d0 (l0 + l1 + l2))) t0 nm) t1 t2))))) o) :
    pj_Ends 26 (29, [some (.ref 23), some (.ref 5), some (.int 0)], [], (N, S, H)) o := by
  have hh : pj_up H 23 (pj_tc ic nm vo md ar (pj_pk l0 l1 l2) (pj_pk h0 h1 h2) (pj_pk q0 q1 q2)) = H := pj_up_id hm
  have ht : pj_up H 29 (.inr (0, 3, .inl (pj_a3 t0 t1 t2))) = H := pj_up_id hT
  have hx : pj_uc 5 f = .inl (4, [.ref 6, .ref 7, .ref 8, .ref 9, .ref 10, .ref 11, .ref 12, .int (sp_vot f), .int (pj_pk (f 26) (f 27) (f 28)), .int (f 7), .int (f 6)]) := rfl
  have hD := c_due_5_0 (N := N) (S := S) bl bh hm hT hu hu1
  have d01 := ck_d0_01 (l := l0 + l1 + l2)
  generalize (ck_d0 (l0 + l1 + l2)) = due at K hD d01
  unfold ck_y at K
  have b01 := bb.1
  rw [x26_29]
  by_cases c1 : t0 = -6
  · rw [if_pos c1] at K
    simp (disch := first | assumption | exact pj_long_i | exact pj_long_r | exact pj_long_n | decide) only [x26_30, x26_31, x26_34, x26_35, x26_38, x26_39, x26_40, x26_42, x26_45, x26_46, x26_49, simprocAttr, pj_then_s, pj_pv_s, pj_pi_s, pj_set_s, if_true, if_false, not_true_eq_false, not_false_eq_true, pj_up_up, pj_so24_23, pj_so25_23, pj_so26_23, pj_so27_23, pj_so28_23, pj_so29_23, pj_so25_24, pj_so26_24, pj_so27_24, pj_so28_24, pj_so29_24, pj_so26_25, pj_so27_25, pj_so28_25, pj_so29_25, pj_so27_26, pj_so28_26, pj_so29_26, pj_so28_27, pj_so29_27, pj_so29_28, pj_up_ap, pj_upd_ap, pj_a3_0, pj_a3_1, pj_a3_2, pj_a3_u0, pj_a3_u1, pj_a3_u2, pj_f3_5, pj_arl_i, pj_f4_8, hm, hT, hu, hx, pj_tc, c1]
    refine e26_50 rfl (c_has_0 bb) ?_
    rcases b01 with e | e
    · rw [if_pos e] at K
      simp (disch := first | assumption | exact pj_long_i | exact pj_long_r | exact pj_long_n | decide) only [x26_53, x26_56, x26_57, x26_58, simprocAttr, pj_then_s, pj_pv_s, pj_pi_s, pj_set_s, if_true, if_false, not_true_eq_false, not_false_eq_true, pj_up_up, pj_so24_23, pj_so25_23, pj_so26_23, pj_so27_23, pj_so28_23, pj_so29_23, pj_so25_24, pj_so26_24, pj_so27_24, pj_so28_24, pj_so29_24, pj_so26_25, pj_so27_25, pj_so28_25, pj_so29_25, pj_so27_26, pj_so28_26, pj_so29_26, pj_so28_27, pj_so29_27, pj_so29_28, pj_up_ap, pj_upd_ap, pj_a3_0, pj_a3_1, pj_a3_2, pj_a3_u0, pj_a3_u1, pj_a3_u2, e]
      refine e26_59 rfl (by rw [hm]; rfl) hD ?_
      rcases d01 with e2 | e2
      · rw [e2, show ck_n 0 q0 1 = q0 from rfl, show ck_n 0 t0 nm = t0 from rfl, hh, ht] at K
        rw [e2]
        simp (disch := first | assumption | exact pj_long_i | exact pj_long_r | exact pj_long_n | decide) only [x26_62, x26_65, x26_66, x26_69, x26_70, x26_71, x26_74, x26_75, x26_76, x26_77, x26_80, x26_84, x26_87, x26_90, simprocAttr, pj_then_s, pj_pv_s, pj_pi_s, pj_set_s, if_true, if_false, not_true_eq_false, not_false_eq_true, pj_up_up, pj_so24_23, pj_so25_23, pj_so26_23, pj_so27_23, pj_so28_23, pj_so29_23, pj_so25_24, pj_so26_24, pj_so27_24, pj_so28_24, pj_so29_24, pj_so26_25, pj_so27_25, pj_so28_25, pj_so29_25, pj_so27_26, pj_so28_26, pj_so29_26, pj_so28_27, pj_so29_27, pj_so29_28, pj_up_ap, pj_upd_ap, pj_a3_0, pj_a3_1, pj_a3_2, pj_a3_u0, pj_a3_u1, pj_a3_u2, pj_f3_5, pj_f3_7, pj_ars_i, pj_f3_13, pj_s3_13, pj_long_i, pj_long_r, pj_long_n]
        exact K
      · rw [e2, show ck_n 1 q0 1 = 1 from rfl, show ck_n 1 t0 nm = nm from rfl] at K
        rw [e2]
        simp (disch := first | assumption | exact pj_long_i | exact pj_long_r | exact pj_long_n | decide) only [x26_62, x26_65, x26_66, x26_69, x26_70, x26_71, x26_74, x26_75, x26_76, x26_77, x26_80, simprocAttr, pj_then_s, pj_pv_s, pj_pi_s, pj_set_s, if_true, if_false, not_true_eq_false, not_false_eq_true, pj_up_up, pj_so24_23, pj_so25_23, pj_so26_23, pj_so27_23, pj_so28_23, pj_so29_23, pj_so25_24, pj_so26_24, pj_so27_24, pj_so28_24, pj_so29_24, pj_so26_25, pj_so27_25, pj_so28_25, pj_so29_25, pj_so27_26, pj_so28_26, pj_so29_26, pj_so28_27, pj_so29_27, pj_so29_28, pj_up_ap, pj_upd_ap, pj_a3_0, pj_a3_1, pj_a3_2, pj_a3_u0, pj_a3_u1, pj_a3_u2, pj_f3_5, pj_f3_7, pj_ars_i, pj_f3_13, hm, hT, pj_tc]
        refine e26_81 rfl (c_wi_0 bq) ?_
        simp (disch := first | assumption | exact pj_long_i | exact pj_long_r | exact pj_long_n | decide) only [x26_84, x26_87, x26_90, simprocAttr, pj_then_s, pj_pv_s, pj_pi_s, pj_set_s, if_true, if_false, not_true_eq_false, not_false_eq_true, pj_up_up, pj_so24_23, pj_so25_23, pj_so26_23, pj_so27_23, pj_so28_23, pj_so29_23, pj_so25_24, pj_so26_24, pj_so27_24, pj_so28_24, pj_so29_24, pj_so26_25, pj_so27_25, pj_so28_25, pj_so29_25, pj_so27_26, pj_so28_26, pj_so29_26, pj_so28_27, pj_so29_27, pj_so29_28, pj_up_ap, pj_upd_ap, pj_a3_0, pj_a3_1, pj_a3_2, pj_a3_u0, pj_a3_u1, pj_a3_u2, pj_s3_13, pj_long_i, pj_long_r, pj_long_n, hm, pj_tc]
        exact K
    · rw [if_neg (by rw [e]; exact (by decide : ¬ (1 : Int32) = 0)), show ck_n 0 q0 1 = q0 from rfl, show ck_n 0 t0 nm = t0 from rfl, hh, ht] at K
      simp (disch := first | assumption | exact pj_long_i | exact pj_long_r | exact pj_long_n | decide) only [x26_53, x26_56, x26_57, x26_58, x26_62, x26_65, x26_66, x26_69, x26_70, x26_71, x26_74, x26_75, x26_76, x26_77, x26_80, x26_84, x26_87, x26_90, simprocAttr, pj_then_s, pj_pv_s, pj_pi_s, pj_set_s, if_true, if_false, not_true_eq_false, not_false_eq_true, pj_up_up, pj_so24_23, pj_so25_23, pj_so26_23, pj_so27_23, pj_so28_23, pj_so29_23, pj_so25_24, pj_so26_24, pj_so27_24, pj_so28_24, pj_so29_24, pj_so26_25, pj_so27_25, pj_so28_25, pj_so29_25, pj_so27_26, pj_so28_26, pj_so29_26, pj_so28_27, pj_so29_27, pj_so29_28, pj_up_ap, pj_upd_ap, pj_a3_0, pj_a3_1, pj_a3_2, pj_a3_u0, pj_a3_u1, pj_a3_u2, pj_f3_5, pj_f3_7, pj_ars_i, pj_f3_13, pj_s3_13, pj_long_i, pj_long_r, pj_long_n, e]
      exact K
  · rw [if_neg c1, show ck_n 0 q0 1 = q0 from rfl, show ck_n 0 t0 nm = t0 from rfl, hh, ht] at K
    simp (disch := first | assumption | exact pj_long_i | exact pj_long_r | exact pj_long_n | decide) only [x26_30, x26_31, x26_34, x26_35, x26_38, x26_39, x26_40, x26_42, x26_45, x26_46, x26_49, x26_53, x26_56, x26_57, x26_58, x26_62, x26_65, x26_66, x26_69, x26_70, x26_71, x26_74, x26_75, x26_76, x26_77, x26_80, x26_84, x26_87, x26_90, simprocAttr, pj_then_s, pj_pv_s, pj_pi_s, pj_set_s, if_true, if_false, not_true_eq_false, not_false_eq_true, pj_up_up, pj_so24_23, pj_so25_23, pj_so26_23, pj_so27_23, pj_so28_23, pj_so29_23, pj_so25_24, pj_so26_24, pj_so27_24, pj_so28_24, pj_so29_24, pj_so26_25, pj_so27_25, pj_so28_25, pj_so29_25, pj_so27_26, pj_so28_26, pj_so29_26, pj_so28_27, pj_so29_27, pj_so29_28, pj_up_ap, pj_upd_ap, pj_a3_0, pj_a3_1, pj_a3_2, pj_a3_u0, pj_a3_u1, pj_a3_u2, pj_f3_5, pj_arl_i, pj_f4_8, pj_f3_7, pj_ars_i, pj_f3_13, pj_s3_13, pj_long_i, pj_long_r, pj_long_n, hm, hT, pj_tc, c1]
    exact K
theorem c_fire_5_1 (bb : pj_b3 (f 26) (f 27) (f 28)) (bq : pj_b3 q0 q1 q2) (bl : pj_b3 l0 l1 l2) (bh : pj_b3 h0 h1 h2) (hm : H 23 = pj_tc ic nm vo md ar (pj_pk l0 l1 l2) (pj_pk h0 h1 h2) (pj_pk q0 q1 q2)) (hT : H 29 = .inr (0, 3, .inl (pj_a3 t0 t1 t2))) (hu : H 5 = pj_uc 5 f) (hu1 : H 6 = .inr (0, 6, .inl (pj_a6 (f 0) (f 1) (f 2) (f 3) (f 4) (f 5))))
    (K : pj_Ends 26 (29, [some (.ref 23), some (.ref 5), some (.int 2)], [], (N, S, pj_up (pj_up H 23 (pj_tc ic nm vo md ar (pj_pk l0 l1 l2) (pj_pk h0 h1 h2) (pj_pk q0 (ck_n (ck_y t1 (f 27) (ck_d1 (l0 + l1 + l2) nm t0 (f 5) (f 26))) q1 1) q2))) 29 (.inr (0, 3, .inl (pj_a3 t0 (ck_n (ck_y t1 (f 27) (ck_d1 (l0 + l1 + l2) nm t0 (f 5) (f 26))) t1 nm) t2))))) o) :
    pj_Ends 26 (29, [some (.ref 23), some (.ref 5), some (.int 1)], [], (N, S, H)) o := by
  have hh : pj_up H 23 (pj_tc ic nm vo md ar (pj_pk l0 l1 l2) (pj_pk h0 h1 h2) (pj_pk q0 q1 q2)) = H := pj_up_id hm
  have ht : pj_up H 29 (.inr (0, 3, .inl (pj_a3 t0 t1 t2))) = H := pj_up_id hT
  have hx : pj_uc 5 f = .inl (4, [.ref 6, .ref 7, .ref 8, .ref 9, .ref 10, .ref 11, .ref 12, .int (sp_vot f), .int (pj_pk (f 26) (f 27) (f 28)), .int (f 7), .int (f 6)]) := rfl
  have hD := c_due_5_1 (N := N) (S := S) bb bl bh hm hT hu hu1
  have d01 := ck_d1_01 (l := l0 + l1 + l2) (nm := nm) (t := t0) (d := f 5) bb.1
  generalize (ck_d1 (l0 + l1 + l2) nm t0 (f 5) (f 26)) = due at K hD d01
  unfold ck_y at K
  have b01 := bb.2.1
  rw [x26_29]
  by_cases c1 : t1 = -6
  · rw [if_pos c1] at K
    simp (disch := first | assumption | exact pj_long_i | exact pj_long_r | exact pj_long_n | decide) only [x26_30, x26_31, x26_34, x26_35, x26_38, x26_39, x26_40, x26_42, x26_45, x26_46, x26_49, simprocAttr, pj_then_s, pj_pv_s, pj_pi_s, pj_set_s, if_true, if_false, not_true_eq_false, not_false_eq_true, pj_up_up, pj_so24_23, pj_so25_23, pj_so26_23, pj_so27_23, pj_so28_23, pj_so29_23, pj_so25_24, pj_so26_24, pj_so27_24, pj_so28_24, pj_so29_24, pj_so26_25, pj_so27_25, pj_so28_25, pj_so29_25, pj_so27_26, pj_so28_26, pj_so29_26, pj_so28_27, pj_so29_27, pj_so29_28, pj_up_ap, pj_upd_ap, pj_a3_0, pj_a3_1, pj_a3_2, pj_a3_u0, pj_a3_u1, pj_a3_u2, pj_f3_5, pj_arl_i, pj_f4_8, hm, hT, hu, hx, pj_tc, c1]
    refine e26_50 rfl (c_has_1 bb) ?_
    rcases b01 with e | e
    · rw [if_pos e] at K
      simp (disch := first | assumption | exact pj_long_i | exact pj_long_r | exact pj_long_n | decide) only [x26_53, x26_56, x26_57, x26_58, simprocAttr, pj_then_s, pj_pv_s, pj_pi_s, pj_set_s, if_true, if_false, not_true_eq_false, not_false_eq_true, pj_up_up, pj_so24_23, pj_so25_23, pj_so26_23, pj_so27_23, pj_so28_23, pj_so29_23, pj_so25_24, pj_so26_24, pj_so27_24, pj_so28_24, pj_so29_24, pj_so26_25, pj_so27_25, pj_so28_25, pj_so29_25, pj_so27_26, pj_so28_26, pj_so29_26, pj_so28_27, pj_so29_27, pj_so29_28, pj_up_ap, pj_upd_ap, pj_a3_0, pj_a3_1, pj_a3_2, pj_a3_u0, pj_a3_u1, pj_a3_u2, e]
      refine e26_59 rfl (by rw [hm]; rfl) hD ?_
      rcases d01 with e2 | e2
      · rw [e2, show ck_n 0 q1 1 = q1 from rfl, show ck_n 0 t1 nm = t1 from rfl, hh, ht] at K
        rw [e2]
        simp (disch := first | assumption | exact pj_long_i | exact pj_long_r | exact pj_long_n | decide) only [x26_62, x26_65, x26_66, x26_69, x26_70, x26_71, x26_74, x26_75, x26_76, x26_77, x26_80, x26_84, x26_87, x26_90, simprocAttr, pj_then_s, pj_pv_s, pj_pi_s, pj_set_s, if_true, if_false, not_true_eq_false, not_false_eq_true, pj_up_up, pj_so24_23, pj_so25_23, pj_so26_23, pj_so27_23, pj_so28_23, pj_so29_23, pj_so25_24, pj_so26_24, pj_so27_24, pj_so28_24, pj_so29_24, pj_so26_25, pj_so27_25, pj_so28_25, pj_so29_25, pj_so27_26, pj_so28_26, pj_so29_26, pj_so28_27, pj_so29_27, pj_so29_28, pj_up_ap, pj_upd_ap, pj_a3_0, pj_a3_1, pj_a3_2, pj_a3_u0, pj_a3_u1, pj_a3_u2, pj_f3_5, pj_f3_7, pj_ars_i, pj_f3_13, pj_s3_13, pj_long_i, pj_long_r, pj_long_n]
        exact K
      · rw [e2, show ck_n 1 q1 1 = 1 from rfl, show ck_n 1 t1 nm = nm from rfl] at K
        rw [e2]
        simp (disch := first | assumption | exact pj_long_i | exact pj_long_r | exact pj_long_n | decide) only [x26_62, x26_65, x26_66, x26_69, x26_70, x26_71, x26_74, x26_75, x26_76, x26_77, x26_80, simprocAttr, pj_then_s, pj_pv_s, pj_pi_s, pj_set_s, if_true, if_false, not_true_eq_false, not_false_eq_true, pj_up_up, pj_so24_23, pj_so25_23, pj_so26_23, pj_so27_23, pj_so28_23, pj_so29_23, pj_so25_24, pj_so26_24, pj_so27_24, pj_so28_24, pj_so29_24, pj_so26_25, pj_so27_25, pj_so28_25, pj_so29_25, pj_so27_26, pj_so28_26, pj_so29_26, pj_so28_27, pj_so29_27, pj_so29_28, pj_up_ap, pj_upd_ap, pj_a3_0, pj_a3_1, pj_a3_2, pj_a3_u0, pj_a3_u1, pj_a3_u2, pj_f3_5, pj_f3_7, pj_ars_i, pj_f3_13, hm, hT, pj_tc]
        refine e26_81 rfl (c_wi_1 bq) ?_
        simp (disch := first | assumption | exact pj_long_i | exact pj_long_r | exact pj_long_n | decide) only [x26_84, x26_87, x26_90, simprocAttr, pj_then_s, pj_pv_s, pj_pi_s, pj_set_s, if_true, if_false, not_true_eq_false, not_false_eq_true, pj_up_up, pj_so24_23, pj_so25_23, pj_so26_23, pj_so27_23, pj_so28_23, pj_so29_23, pj_so25_24, pj_so26_24, pj_so27_24, pj_so28_24, pj_so29_24, pj_so26_25, pj_so27_25, pj_so28_25, pj_so29_25, pj_so27_26, pj_so28_26, pj_so29_26, pj_so28_27, pj_so29_27, pj_so29_28, pj_up_ap, pj_upd_ap, pj_a3_0, pj_a3_1, pj_a3_2, pj_a3_u0, pj_a3_u1, pj_a3_u2, pj_s3_13, pj_long_i, pj_long_r, pj_long_n, hm, pj_tc]
        exact K
    · rw [if_neg (by rw [e]; exact (by decide : ¬ (1 : Int32) = 0)), show ck_n 0 q1 1 = q1 from rfl, show ck_n 0 t1 nm = t1 from rfl, hh, ht] at K
      simp (disch := first | assumption | exact pj_long_i | exact pj_long_r | exact pj_long_n | decide) only [x26_53, x26_56, x26_57, x26_58, x26_62, x26_65, x26_66, x26_69, x26_70, x26_71, x26_74, x26_75, x26_76, x26_77, x26_80, x26_84, x26_87, x26_90, simprocAttr, pj_then_s, pj_pv_s, pj_pi_s, pj_set_s, if_true, if_false, not_true_eq_false, not_false_eq_true, pj_up_up, pj_so24_23, pj_so25_23, pj_so26_23, pj_so27_23, pj_so28_23, pj_so29_23, pj_so25_24, pj_so26_24, pj_so27_24, pj_so28_24, pj_so29_24, pj_so26_25, pj_so27_25, pj_so28_25, pj_so29_25, pj_so27_26, pj_so28_26, pj_so29_26, pj_so28_27, pj_so29_27, pj_so29_28, pj_up_ap, pj_upd_ap, pj_a3_0, pj_a3_1, pj_a3_2, pj_a3_u0, pj_a3_u1, pj_a3_u2, pj_f3_5, pj_f3_7, pj_ars_i, pj_f3_13, pj_s3_13, pj_long_i, pj_long_r, pj_long_n, e]
      exact K
  · rw [if_neg c1, show ck_n 0 q1 1 = q1 from rfl, show ck_n 0 t1 nm = t1 from rfl, hh, ht] at K
    simp (disch := first | assumption | exact pj_long_i | exact pj_long_r | exact pj_long_n | decide) only [x26_30, x26_31, x26_34, x26_35, x26_38, x26_39, x26_40, x26_42, x26_45, x26_46, x26_49, x26_53, x26_56, x26_57, x26_58, x26_62, x26_65, x26_66, x26_69, x26_70, x26_71, x26_74, x26_75, x26_76, x26_77, x26_80, x26_84, x26_87, x26_90, simprocAttr, pj_then_s, pj_pv_s, pj_pi_s, pj_set_s, if_true, if_false, not_true_eq_false, not_false_eq_true, pj_up_up, pj_so24_23, pj_so25_23, pj_so26_23, pj_so27_23, pj_so28_23, pj_so29_23, pj_so25_24, pj_so26_24, pj_so27_24, pj_so28_24, pj_so29_24, pj_so26_25, pj_so27_25, pj_so28_25, pj_so29_25, pj_so27_26, pj_so28_26, pj_so29_26, pj_so28_27, pj_so29_27, pj_so29_28, pj_up_ap, pj_upd_ap, pj_a3_0, pj_a3_1, pj_a3_2, pj_a3_u0, pj_a3_u1, pj_a3_u2, pj_f3_5, pj_arl_i, pj_f4_8, pj_f3_7, pj_ars_i, pj_f3_13, pj_s3_13, pj_long_i, pj_long_r, pj_long_n, hm, hT, pj_tc, c1]
    exact K
theorem c_fire_5_2 (bb : pj_b3 (f 26) (f 27) (f 28)) (bq : pj_b3 q0 q1 q2) (bl : pj_b3 l0 l1 l2) (bh : pj_b3 h0 h1 h2) (hm : H 23 = pj_tc ic nm vo md ar (pj_pk l0 l1 l2) (pj_pk h0 h1 h2) (pj_pk q0 q1 q2)) (hT : H 29 = .inr (0, 3, .inl (pj_a3 t0 t1 t2))) (hu : H 5 = pj_uc 5 f) (hu1 : H 6 = .inr (0, 6, .inl (pj_a6 (f 0) (f 1) (f 2) (f 3) (f 4) (f 5))))
    (K : pj_Ends 26 (29, [some (.ref 23), some (.ref 5), some (.int 3)], [], (N, S, pj_up (pj_up H 23 (pj_tc ic nm vo md ar (pj_pk l0 l1 l2) (pj_pk h0 h1 h2) (pj_pk q0 q1 (ck_n (ck_y t2 (f 28) (ck_d2 (h0 + h1 + h2) nm t1 (f 5))) q2 1)))) 29 (.inr (0, 3, .inl (pj_a3 t0 t1 (ck_n (ck_y t2 (f 28) (ck_d2 (h0 + h1 + h2) nm t1 (f 5))) t2 nm)))))) o) :
    pj_Ends 26 (29, [some (.ref 23), some (.ref 5), some (.int 2)], [], (N, S, H)) o := by
  have hh : pj_up H 23 (pj_tc ic nm vo md ar (pj_pk l0 l1 l2) (pj_pk h0 h1 h2) (pj_pk q0 q1 q2)) = H := pj_up_id hm
  have ht : pj_up H 29 (.inr (0, 3, .inl (pj_a3 t0 t1 t2))) = H := pj_up_id hT
  have hx : pj_uc 5 f = .inl (4, [.ref 6, .ref 7, .ref 8, .ref 9, .ref 10, .ref 11, .ref 12, .int (sp_vot f), .int (pj_pk (f 26) (f 27) (f 28)), .int (f 7), .int (f 6)]) := rfl
  have hD := c_due_5_2 (N := N) (S := S) bl bh hm hT hu hu1
  have d01 := ck_d2_01 (l := h0 + h1 + h2) (nm := nm) (t := t1) (d := f 5)
  generalize (ck_d2 (h0 + h1 + h2) nm t1 (f 5)) = due at K hD d01
  unfold ck_y at K
  have b01 := bb.2.2
  rw [x26_29]
  by_cases c1 : t2 = -6
  · rw [if_pos c1] at K
    simp (disch := first | assumption | exact pj_long_i | exact pj_long_r | exact pj_long_n | decide) only [x26_30, x26_31, x26_34, x26_35, x26_38, x26_39, x26_40, x26_42, x26_45, x26_46, x26_49, simprocAttr, pj_then_s, pj_pv_s, pj_pi_s, pj_set_s, if_true, if_false, not_true_eq_false, not_false_eq_true, pj_up_up, pj_so24_23, pj_so25_23, pj_so26_23, pj_so27_23, pj_so28_23, pj_so29_23, pj_so25_24, pj_so26_24, pj_so27_24, pj_so28_24, pj_so29_24, pj_so26_25, pj_so27_25, pj_so28_25, pj_so29_25, pj_so27_26, pj_so28_26, pj_so29_26, pj_so28_27, pj_so29_27, pj_so29_28, pj_up_ap, pj_upd_ap, pj_a3_0, pj_a3_1, pj_a3_2, pj_a3_u0, pj_a3_u1, pj_a3_u2, pj_f3_5, pj_arl_i, pj_f4_8, hm, hT, hu, hx, pj_tc, c1]
    refine e26_50 rfl (c_has_2 bb) ?_
    rcases b01 with e | e
    · rw [if_pos e] at K
      simp (disch := first | assumption | exact pj_long_i | exact pj_long_r | exact pj_long_n | decide) only [x26_53, x26_56, x26_57, x26_58, simprocAttr, pj_then_s, pj_pv_s, pj_pi_s, pj_set_s, if_true, if_false, not_true_eq_false, not_false_eq_true, pj_up_up, pj_so24_23, pj_so25_23, pj_so26_23, pj_so27_23, pj_so28_23, pj_so29_23, pj_so25_24, pj_so26_24, pj_so27_24, pj_so28_24, pj_so29_24, pj_so26_25, pj_so27_25, pj_so28_25, pj_so29_25, pj_so27_26, pj_so28_26, pj_so29_26, pj_so28_27, pj_so29_27, pj_so29_28, pj_up_ap, pj_upd_ap, pj_a3_0, pj_a3_1, pj_a3_2, pj_a3_u0, pj_a3_u1, pj_a3_u2, e]
      refine e26_59 rfl (by rw [hm]; rfl) hD ?_
      rcases d01 with e2 | e2
      · rw [e2, show ck_n 0 q2 1 = q2 from rfl, show ck_n 0 t2 nm = t2 from rfl, hh, ht] at K
        rw [e2]
        simp (disch := first | assumption | exact pj_long_i | exact pj_long_r | exact pj_long_n | decide) only [x26_62, x26_65, x26_66, x26_69, x26_70, x26_71, x26_74, x26_75, x26_76, x26_77, x26_80, x26_84, x26_87, x26_90, simprocAttr, pj_then_s, pj_pv_s, pj_pi_s, pj_set_s, if_true, if_false, not_true_eq_false, not_false_eq_true, pj_up_up, pj_so24_23, pj_so25_23, pj_so26_23, pj_so27_23, pj_so28_23, pj_so29_23, pj_so25_24, pj_so26_24, pj_so27_24, pj_so28_24, pj_so29_24, pj_so26_25, pj_so27_25, pj_so28_25, pj_so29_25, pj_so27_26, pj_so28_26, pj_so29_26, pj_so28_27, pj_so29_27, pj_so29_28, pj_up_ap, pj_upd_ap, pj_a3_0, pj_a3_1, pj_a3_2, pj_a3_u0, pj_a3_u1, pj_a3_u2, pj_f3_5, pj_f3_7, pj_ars_i, pj_f3_13, pj_s3_13, pj_long_i, pj_long_r, pj_long_n]
        exact K
      · rw [e2, show ck_n 1 q2 1 = 1 from rfl, show ck_n 1 t2 nm = nm from rfl] at K
        rw [e2]
        simp (disch := first | assumption | exact pj_long_i | exact pj_long_r | exact pj_long_n | decide) only [x26_62, x26_65, x26_66, x26_69, x26_70, x26_71, x26_74, x26_75, x26_76, x26_77, x26_80, simprocAttr, pj_then_s, pj_pv_s, pj_pi_s, pj_set_s, if_true, if_false, not_true_eq_false, not_false_eq_true, pj_up_up, pj_so24_23, pj_so25_23, pj_so26_23, pj_so27_23, pj_so28_23, pj_so29_23, pj_so25_24, pj_so26_24, pj_so27_24, pj_so28_24, pj_so29_24, pj_so26_25, pj_so27_25, pj_so28_25, pj_so29_25, pj_so27_26, pj_so28_26, pj_so29_26, pj_so28_27, pj_so29_27, pj_so29_28, pj_up_ap, pj_upd_ap, pj_a3_0, pj_a3_1, pj_a3_2, pj_a3_u0, pj_a3_u1, pj_a3_u2, pj_f3_5, pj_f3_7, pj_ars_i, pj_f3_13, hm, hT, pj_tc]
        refine e26_81 rfl (c_wi_2 bq) ?_
        simp (disch := first | assumption | exact pj_long_i | exact pj_long_r | exact pj_long_n | decide) only [x26_84, x26_87, x26_90, simprocAttr, pj_then_s, pj_pv_s, pj_pi_s, pj_set_s, if_true, if_false, not_true_eq_false, not_false_eq_true, pj_up_up, pj_so24_23, pj_so25_23, pj_so26_23, pj_so27_23, pj_so28_23, pj_so29_23, pj_so25_24, pj_so26_24, pj_so27_24, pj_so28_24, pj_so29_24, pj_so26_25, pj_so27_25, pj_so28_25, pj_so29_25, pj_so27_26, pj_so28_26, pj_so29_26, pj_so28_27, pj_so29_27, pj_so29_28, pj_up_ap, pj_upd_ap, pj_a3_0, pj_a3_1, pj_a3_2, pj_a3_u0, pj_a3_u1, pj_a3_u2, pj_s3_13, pj_long_i, pj_long_r, pj_long_n, hm, pj_tc]
        exact K
    · rw [if_neg (by rw [e]; exact (by decide : ¬ (1 : Int32) = 0)), show ck_n 0 q2 1 = q2 from rfl, show ck_n 0 t2 nm = t2 from rfl, hh, ht] at K
      simp (disch := first | assumption | exact pj_long_i | exact pj_long_r | exact pj_long_n | decide) only [x26_53, x26_56, x26_57, x26_58, x26_62, x26_65, x26_66, x26_69, x26_70, x26_71, x26_74, x26_75, x26_76, x26_77, x26_80, x26_84, x26_87, x26_90, simprocAttr, pj_then_s, pj_pv_s, pj_pi_s, pj_set_s, if_true, if_false, not_true_eq_false, not_false_eq_true, pj_up_up, pj_so24_23, pj_so25_23, pj_so26_23, pj_so27_23, pj_so28_23, pj_so29_23, pj_so25_24, pj_so26_24, pj_so27_24, pj_so28_24, pj_so29_24, pj_so26_25, pj_so27_25, pj_so28_25, pj_so29_25, pj_so27_26, pj_so28_26, pj_so29_26, pj_so28_27, pj_so29_27, pj_so29_28, pj_up_ap, pj_upd_ap, pj_a3_0, pj_a3_1, pj_a3_2, pj_a3_u0, pj_a3_u1, pj_a3_u2, pj_f3_5, pj_f3_7, pj_ars_i, pj_f3_13, pj_s3_13, pj_long_i, pj_long_r, pj_long_n, e]
      exact K
  · rw [if_neg c1, show ck_n 0 q2 1 = q2 from rfl, show ck_n 0 t2 nm = t2 from rfl, hh, ht] at K
    simp (disch := first | assumption | exact pj_long_i | exact pj_long_r | exact pj_long_n | decide) only [x26_30, x26_31, x26_34, x26_35, x26_38, x26_39, x26_40, x26_42, x26_45, x26_46, x26_49, x26_53, x26_56, x26_57, x26_58, x26_62, x26_65, x26_66, x26_69, x26_70, x26_71, x26_74, x26_75, x26_76, x26_77, x26_80, x26_84, x26_87, x26_90, simprocAttr, pj_then_s, pj_pv_s, pj_pi_s, pj_set_s, if_true, if_false, not_true_eq_false, not_false_eq_true, pj_up_up, pj_so24_23, pj_so25_23, pj_so26_23, pj_so27_23, pj_so28_23, pj_so29_23, pj_so25_24, pj_so26_24, pj_so27_24, pj_so28_24, pj_so29_24, pj_so26_25, pj_so27_25, pj_so28_25, pj_so29_25, pj_so27_26, pj_so28_26, pj_so29_26, pj_so28_27, pj_so29_27, pj_so29_28, pj_up_ap, pj_upd_ap, pj_a3_0, pj_a3_1, pj_a3_2, pj_a3_u0, pj_a3_u1, pj_a3_u2, pj_f3_5, pj_arl_i, pj_f4_8, pj_f3_7, pj_ars_i, pj_f3_13, pj_s3_13, pj_long_i, pj_long_r, pj_long_n, hm, hT, pj_tc, c1]
    exact K
theorem c_fire_14_0 (bb : pj_b3 (f 26) (f 27) (f 28)) (bq : pj_b3 q0 q1 q2) (bl : pj_b3 l0 l1 l2) (bh : pj_b3 h0 h1 h2) (hm : H 23 = pj_tc ic nm vo md ar (pj_pk l0 l1 l2) (pj_pk h0 h1 h2) (pj_pk q0 q1 q2)) (hT : H 29 = .inr (0, 3, .inl (pj_a3 t0 t1 t2))) (hu : H 14 = pj_uc 14 f) (hu1 : H 15 = .inr (0, 6, .inl (pj_a6 (f 0) (f 1) (f 2) (f 3) (f 4) (f 5))))
    (K : pj_Ends 26 (29, [some (.ref 23), some (.ref 14), some (.int 1)], [], (N, S, pj_up (pj_up H 23 (pj_tc ic nm vo md ar (pj_pk l0 l1 l2) (pj_pk h0 h1 h2) (pj_pk (ck_n (ck_y t0 (f 26) (ck_d0 (l0 + l1 + l2))) q0 1) q1 q2))) 29 (.inr (0, 3, .inl (pj_a3 (ck_n (ck_y t0 (f 26) (ck_d0 (l0 + l1 + l2))) t0 nm) t1 t2))))) o) :
    pj_Ends 26 (29, [some (.ref 23), some (.ref 14), some (.int 0)], [], (N, S, H)) o := by
  have hh : pj_up H 23 (pj_tc ic nm vo md ar (pj_pk l0 l1 l2) (pj_pk h0 h1 h2) (pj_pk q0 q1 q2)) = H := pj_up_id hm
  have ht : pj_up H 29 (.inr (0, 3, .inl (pj_a3 t0 t1 t2))) = H := pj_up_id hT
  have hx : pj_uc 14 f = .inl (4, [.ref 15, .ref 16, .ref 17, .ref 18, .ref 19, .ref 20, .ref 21, .int (sp_vot f), .int (pj_pk (f 26) (f 27) (f 28)), .int (f 7), .int (f 6)]) := rfl
  have hD := c_due_14_0 (N := N) (S := S) bl bh hm hT hu hu1
  have d01 := ck_d0_01 (l := l0 + l1 + l2)
  generalize (ck_d0 (l0 + l1 + l2)) = due at K hD d01
  unfold ck_y at K
  have b01 := bb.1
  rw [x26_29]
  by_cases c1 : t0 = -6
  · rw [if_pos c1] at K
    simp (disch := first | assumption | exact pj_long_i | exact pj_long_r | exact pj_long_n | decide) only [x26_30, x26_31, x26_34, x26_35, x26_38, x26_39, x26_40, x26_42, x26_45, x26_46, x26_49, simprocAttr, pj_then_s, pj_pv_s, pj_pi_s, pj_set_s, if_true, if_false, not_true_eq_false, not_false_eq_true, pj_up_up, pj_so24_23, pj_so25_23, pj_so26_23, pj_so27_23, pj_so28_23, pj_so29_23, pj_so25_24, pj_so26_24, pj_so27_24, pj_so28_24, pj_so29_24, pj_so26_25, pj_so27_25, pj_so28_25, pj_so29_25, pj_so27_26, pj_so28_26, pj_so29_26, pj_so28_27, pj_so29_27, pj_so29_28, pj_up_ap, pj_upd_ap, pj_a3_0, pj_a3_1, pj_a3_2, pj_a3_u0, pj_a3_u1, pj_a3_u2, pj_f3_5, pj_arl_i, pj_f4_8, hm, hT, hu, hx, pj_tc, c1]
    refine e26_50 rfl (c_has_0 bb) ?_
    rcases b01 with e | e
    · rw [if_pos e] at K
      simp (disch := first | assumption | exact pj_long_i | exact pj_long_r | exact pj_long_n | decide) only [x26_53, x26_56, x26_57, x26_58, simprocAttr, pj_then_s, pj_pv_s, pj_pi_s, pj_set_s, if_true, if_false, not_true_eq_false, not_false_eq_true, pj_up_up, pj_so24_23, pj_so25_23, pj_so26_23, pj_so27_23, pj_so28_23, pj_so29_23, pj_so25_24, pj_so26_24, pj_so27_24, pj_so28_24, pj_so29_24, pj_so26_25, pj_so27_25, pj_so28_25, pj_so29_25, pj_so27_26, pj_so28_26, pj_so29_26, pj_so28_27, pj_so29_27, pj_so29_28, pj_up_ap, pj_upd_ap, pj_a3_0, pj_a3_1, pj_a3_2, pj_a3_u0, pj_a3_u1, pj_a3_u2, e]
      refine e26_59 rfl (by rw [hm]; rfl) hD ?_
      rcases d01 with e2 | e2
      · rw [e2, show ck_n 0 q0 1 = q0 from rfl, show ck_n 0 t0 nm = t0 from rfl, hh, ht] at K
        rw [e2]
        simp (disch := first | assumption | exact pj_long_i | exact pj_long_r | exact pj_long_n | decide) only [x26_62, x26_65, x26_66, x26_69, x26_70, x26_71, x26_74, x26_75, x26_76, x26_77, x26_80, x26_84, x26_87, x26_90, simprocAttr, pj_then_s, pj_pv_s, pj_pi_s, pj_set_s, if_true, if_false, not_true_eq_false, not_false_eq_true, pj_up_up, pj_so24_23, pj_so25_23, pj_so26_23, pj_so27_23, pj_so28_23, pj_so29_23, pj_so25_24, pj_so26_24, pj_so27_24, pj_so28_24, pj_so29_24, pj_so26_25, pj_so27_25, pj_so28_25, pj_so29_25, pj_so27_26, pj_so28_26, pj_so29_26, pj_so28_27, pj_so29_27, pj_so29_28, pj_up_ap, pj_upd_ap, pj_a3_0, pj_a3_1, pj_a3_2, pj_a3_u0, pj_a3_u1, pj_a3_u2, pj_f3_5, pj_f3_7, pj_ars_i, pj_f3_13, pj_s3_13, pj_long_i, pj_long_r, pj_long_n]
        exact K
      · rw [e2, show ck_n 1 q0 1 = 1 from rfl, show ck_n 1 t0 nm = nm from rfl] at K
        rw [e2]
        simp (disch := first | assumption | exact pj_long_i | exact pj_long_r | exact pj_long_n | decide) only [x26_62, x26_65, x26_66, x26_69, x26_70, x26_71, x26_74, x26_75, x26_76, x26_77, x26_80, simprocAttr, pj_then_s, pj_pv_s, pj_pi_s, pj_set_s, if_true, if_false, not_true_eq_false, not_false_eq_true, pj_up_up, pj_so24_23, pj_so25_23, pj_so26_23, pj_so27_23, pj_so28_23, pj_so29_23, pj_so25_24, pj_so26_24, pj_so27_24, pj_so28_24, pj_so29_24, pj_so26_25, pj_so27_25, pj_so28_25, pj_so29_25, pj_so27_26, pj_so28_26, pj_so29_26, pj_so28_27, pj_so29_27, pj_so29_28, pj_up_ap, pj_upd_ap, pj_a3_0, pj_a3_1, pj_a3_2, pj_a3_u0, pj_a3_u1, pj_a3_u2, pj_f3_5, pj_f3_7, pj_ars_i, pj_f3_13, hm, hT, pj_tc]
        refine e26_81 rfl (c_wi_0 bq) ?_
        simp (disch := first | assumption | exact pj_long_i | exact pj_long_r | exact pj_long_n | decide) only [x26_84, x26_87, x26_90, simprocAttr, pj_then_s, pj_pv_s, pj_pi_s, pj_set_s, if_true, if_false, not_true_eq_false, not_false_eq_true, pj_up_up, pj_so24_23, pj_so25_23, pj_so26_23, pj_so27_23, pj_so28_23, pj_so29_23, pj_so25_24, pj_so26_24, pj_so27_24, pj_so28_24, pj_so29_24, pj_so26_25, pj_so27_25, pj_so28_25, pj_so29_25, pj_so27_26, pj_so28_26, pj_so29_26, pj_so28_27, pj_so29_27, pj_so29_28, pj_up_ap, pj_upd_ap, pj_a3_0, pj_a3_1, pj_a3_2, pj_a3_u0, pj_a3_u1, pj_a3_u2, pj_s3_13, pj_long_i, pj_long_r, pj_long_n, hm, pj_tc]
        exact K
    · rw [if_neg (by rw [e]; exact (by decide : ¬ (1 : Int32) = 0)), show ck_n 0 q0 1 = q0 from rfl, show ck_n 0 t0 nm = t0 from rfl, hh, ht] at K
      simp (disch := first | assumption | exact pj_long_i | exact pj_long_r | exact pj_long_n | decide) only [x26_53, x26_56, x26_57, x26_58, x26_62, x26_65, x26_66, x26_69, x26_70, x26_71, x26_74, x26_75, x26_76, x26_77, x26_80, x26_84, x26_87, x26_90, simprocAttr, pj_then_s, pj_pv_s, pj_pi_s, pj_set_s, if_true, if_false, not_true_eq_false, not_false_eq_true, pj_up_up, pj_so24_23, pj_so25_23, pj_so26_23, pj_so27_23, pj_so28_23, pj_so29_23, pj_so25_24, pj_so26_24, pj_so27_24, pj_so28_24, pj_so29_24, pj_so26_25, pj_so27_25, pj_so28_25, pj_so29_25, pj_so27_26, pj_so28_26, pj_so29_26, pj_so28_27, pj_so29_27, pj_so29_28, pj_up_ap, pj_upd_ap, pj_a3_0, pj_a3_1, pj_a3_2, pj_a3_u0, pj_a3_u1, pj_a3_u2, pj_f3_5, pj_f3_7, pj_ars_i, pj_f3_13, pj_s3_13, pj_long_i, pj_long_r, pj_long_n, e]
      exact K
  · rw [if_neg c1, show ck_n 0 q0 1 = q0 from rfl, show ck_n 0 t0 nm = t0 from rfl, hh, ht] at K
    simp (disch := first | assumption | exact pj_long_i | exact pj_long_r | exact pj_long_n | decide) only [x26_30, x26_31, x26_34, x26_35, x26_38, x26_39, x26_40, x26_42, x26_45, x26_46, x26_49, x26_53, x26_56, x26_57, x26_58, x26_62, x26_65, x26_66, x26_69, x26_70, x26_71, x26_74, x26_75, x26_76, x26_77, x26_80, x26_84, x26_87, x26_90, simprocAttr, pj_then_s, pj_pv_s, pj_pi_s, pj_set_s, if_true, if_false, not_true_eq_false, not_false_eq_true, pj_up_up, pj_so24_23, pj_so25_23, pj_so26_23, pj_so27_23, pj_so28_23, pj_so29_23, pj_so25_24, pj_so26_24, pj_so27_24, pj_so28_24, pj_so29_24, pj_so26_25, pj_so27_25, pj_so28_25, pj_so29_25, pj_so27_26, pj_so28_26, pj_so29_26, pj_so28_27, pj_so29_27, pj_so29_28, pj_up_ap, pj_upd_ap, pj_a3_0, pj_a3_1, pj_a3_2, pj_a3_u0, pj_a3_u1, pj_a3_u2, pj_f3_5, pj_arl_i, pj_f4_8, pj_f3_7, pj_ars_i, pj_f3_13, pj_s3_13, pj_long_i, pj_long_r, pj_long_n, hm, hT, pj_tc, c1]
    exact K
theorem c_fire_14_1 (bb : pj_b3 (f 26) (f 27) (f 28)) (bq : pj_b3 q0 q1 q2) (bl : pj_b3 l0 l1 l2) (bh : pj_b3 h0 h1 h2) (hm : H 23 = pj_tc ic nm vo md ar (pj_pk l0 l1 l2) (pj_pk h0 h1 h2) (pj_pk q0 q1 q2)) (hT : H 29 = .inr (0, 3, .inl (pj_a3 t0 t1 t2))) (hu : H 14 = pj_uc 14 f) (hu1 : H 15 = .inr (0, 6, .inl (pj_a6 (f 0) (f 1) (f 2) (f 3) (f 4) (f 5))))
    (K : pj_Ends 26 (29, [some (.ref 23), some (.ref 14), some (.int 2)], [], (N, S, pj_up (pj_up H 23 (pj_tc ic nm vo md ar (pj_pk l0 l1 l2) (pj_pk h0 h1 h2) (pj_pk q0 (ck_n (ck_y t1 (f 27) (ck_d1 (l0 + l1 + l2) nm t0 (f 5) (f 26))) q1 1) q2))) 29 (.inr (0, 3, .inl (pj_a3 t0 (ck_n (ck_y t1 (f 27) (ck_d1 (l0 + l1 + l2) nm t0 (f 5) (f 26))) t1 nm) t2))))) o) :
    pj_Ends 26 (29, [some (.ref 23), some (.ref 14), some (.int 1)], [], (N, S, H)) o := by
  have hh : pj_up H 23 (pj_tc ic nm vo md ar (pj_pk l0 l1 l2) (pj_pk h0 h1 h2) (pj_pk q0 q1 q2)) = H := pj_up_id hm
  have ht : pj_up H 29 (.inr (0, 3, .inl (pj_a3 t0 t1 t2))) = H := pj_up_id hT
  have hx : pj_uc 14 f = .inl (4, [.ref 15, .ref 16, .ref 17, .ref 18, .ref 19, .ref 20, .ref 21, .int (sp_vot f), .int (pj_pk (f 26) (f 27) (f 28)), .int (f 7), .int (f 6)]) := rfl
  have hD := c_due_14_1 (N := N) (S := S) bb bl bh hm hT hu hu1
  have d01 := ck_d1_01 (l := l0 + l1 + l2) (nm := nm) (t := t0) (d := f 5) bb.1
  generalize (ck_d1 (l0 + l1 + l2) nm t0 (f 5) (f 26)) = due at K hD d01
  unfold ck_y at K
  have b01 := bb.2.1
  rw [x26_29]
  by_cases c1 : t1 = -6
  · rw [if_pos c1] at K
    simp (disch := first | assumption | exact pj_long_i | exact pj_long_r | exact pj_long_n | decide) only [x26_30, x26_31, x26_34, x26_35, x26_38, x26_39, x26_40, x26_42, x26_45, x26_46, x26_49, simprocAttr, pj_then_s, pj_pv_s, pj_pi_s, pj_set_s, if_true, if_false, not_true_eq_false, not_false_eq_true, pj_up_up, pj_so24_23, pj_so25_23, pj_so26_23, pj_so27_23, pj_so28_23, pj_so29_23, pj_so25_24, pj_so26_24, pj_so27_24, pj_so28_24, pj_so29_24, pj_so26_25, pj_so27_25, pj_so28_25, pj_so29_25, pj_so27_26, pj_so28_26, pj_so29_26, pj_so28_27, pj_so29_27, pj_so29_28, pj_up_ap, pj_upd_ap, pj_a3_0, pj_a3_1, pj_a3_2, pj_a3_u0, pj_a3_u1, pj_a3_u2, pj_f3_5, pj_arl_i, pj_f4_8, hm, hT, hu, hx, pj_tc, c1]
    refine e26_50 rfl (c_has_1 bb) ?_
    rcases b01 with e | e
    · rw [if_pos e] at K
      simp (disch := first | assumption | exact pj_long_i | exact pj_long_r | exact pj_long_n | decide) only [x26_53, x26_56, x26_57, x26_58, simprocAttr, pj_then_s, pj_pv_s, pj_pi_s, pj_set_s, if_true, if_false, not_true_eq_false, not_false_eq_true, pj_up_up, pj_so24_23, pj_so25_23, pj_so26_23, pj_so27_23, pj_so28_23, pj_so29_23, pj_so25_24, pj_so26_24, pj_so27_24, pj_so28_24, pj_so29_24, pj_so26_25, pj_so27_25, pj_so28_25, pj_so29_25, pj_so27_26, pj_so28_26, pj_so29_26, pj_so28_27, pj_so29_27, pj_so29_28, pj_up_ap, pj_upd_ap, pj_a3_0, pj_a3_1, pj_a3_2, pj_a3_u0, pj_a3_u1, pj_a3_u2, e]
      refine e26_59 rfl (by rw [hm]; rfl) hD ?_
      rcases d01 with e2 | e2
      · rw [e2, show ck_n 0 q1 1 = q1 from rfl, show ck_n 0 t1 nm = t1 from rfl, hh, ht] at K
        rw [e2]
        simp (disch := first | assumption | exact pj_long_i | exact pj_long_r | exact pj_long_n | decide) only [x26_62, x26_65, x26_66, x26_69, x26_70, x26_71, x26_74, x26_75, x26_76, x26_77, x26_80, x26_84, x26_87, x26_90, simprocAttr, pj_then_s, pj_pv_s, pj_pi_s, pj_set_s, if_true, if_false, not_true_eq_false, not_false_eq_true, pj_up_up, pj_so24_23, pj_so25_23, pj_so26_23, pj_so27_23, pj_so28_23, pj_so29_23, pj_so25_24, pj_so26_24, pj_so27_24, pj_so28_24, pj_so29_24, pj_so26_25, pj_so27_25, pj_so28_25, pj_so29_25, pj_so27_26, pj_so28_26, pj_so29_26, pj_so28_27, pj_so29_27, pj_so29_28, pj_up_ap, pj_upd_ap, pj_a3_0, pj_a3_1, pj_a3_2, pj_a3_u0, pj_a3_u1, pj_a3_u2, pj_f3_5, pj_f3_7, pj_ars_i, pj_f3_13, pj_s3_13, pj_long_i, pj_long_r, pj_long_n]
        exact K
      · rw [e2, show ck_n 1 q1 1 = 1 from rfl, show ck_n 1 t1 nm = nm from rfl] at K
        rw [e2]
        simp (disch := first | assumption | exact pj_long_i | exact pj_long_r | exact pj_long_n | decide) only [x26_62, x26_65, x26_66, x26_69, x26_70, x26_71, x26_74, x26_75, x26_76, x26_77, x26_80, simprocAttr, pj_then_s, pj_pv_s, pj_pi_s, pj_set_s, if_true, if_false, not_true_eq_false, not_false_eq_true, pj_up_up, pj_so24_23, pj_so25_23, pj_so26_23, pj_so27_23, pj_so28_23, pj_so29_23, pj_so25_24, pj_so26_24, pj_so27_24, pj_so28_24, pj_so29_24, pj_so26_25, pj_so27_25, pj_so28_25, pj_so29_25, pj_so27_26, pj_so28_26, pj_so29_26, pj_so28_27, pj_so29_27, pj_so29_28, pj_up_ap, pj_upd_ap, pj_a3_0, pj_a3_1, pj_a3_2, pj_a3_u0, pj_a3_u1, pj_a3_u2, pj_f3_5, pj_f3_7, pj_ars_i, pj_f3_13, hm, hT, pj_tc]
        refine e26_81 rfl (c_wi_1 bq) ?_
        simp (disch := first | assumption | exact pj_long_i | exact pj_long_r | exact pj_long_n | decide) only [x26_84, x26_87, x26_90, simprocAttr, pj_then_s, pj_pv_s, pj_pi_s, pj_set_s, if_true, if_false, not_true_eq_false, not_false_eq_true, pj_up_up, pj_so24_23, pj_so25_23, pj_so26_23, pj_so27_23, pj_so28_23, pj_so29_23, pj_so25_24, pj_so26_24, pj_so27_24, pj_so28_24, pj_so29_24, pj_so26_25, pj_so27_25, pj_so28_25, pj_so29_25, pj_so27_26, pj_so28_26, pj_so29_26, pj_so28_27, pj_so29_27, pj_so29_28, pj_up_ap, pj_upd_ap, pj_a3_0, pj_a3_1, pj_a3_2, pj_a3_u0, pj_a3_u1, pj_a3_u2, pj_s3_13, pj_long_i, pj_long_r, pj_long_n, hm, pj_tc]
        exact K
    · rw [if_neg (by rw [e]; exact (by decide : ¬ (1 : Int32) = 0)), show ck_n 0 q1 1 = q1 from rfl, show ck_n 0 t1 nm = t1 from rfl, hh, ht] at K
      simp (disch := first | assumption | exact pj_long_i | exact pj_long_r | exact pj_long_n | decide) only [x26_53, x26_56, x26_57, x26_58, x26_62, x26_65, x26_66, x26_69, x26_70, x26_71, x26_74, x26_75, x26_76, x26_77, x26_80, x26_84, x26_87, x26_90, simprocAttr, pj_then_s, pj_pv_s, pj_pi_s, pj_set_s, if_true, if_false, not_true_eq_false, not_false_eq_true, pj_up_up, pj_so24_23, pj_so25_23, pj_so26_23, pj_so27_23, pj_so28_23, pj_so29_23, pj_so25_24, pj_so26_24, pj_so27_24, pj_so28_24, pj_so29_24, pj_so26_25, pj_so27_25, pj_so28_25, pj_so29_25, pj_so27_26, pj_so28_26, pj_so29_26, pj_so28_27, pj_so29_27, pj_so29_28, pj_up_ap, pj_upd_ap, pj_a3_0, pj_a3_1, pj_a3_2, pj_a3_u0, pj_a3_u1, pj_a3_u2, pj_f3_5, pj_f3_7, pj_ars_i, pj_f3_13, pj_s3_13, pj_long_i, pj_long_r, pj_long_n, e]
      exact K
  · rw [if_neg c1, show ck_n 0 q1 1 = q1 from rfl, show ck_n 0 t1 nm = t1 from rfl, hh, ht] at K
    simp (disch := first | assumption | exact pj_long_i | exact pj_long_r | exact pj_long_n | decide) only [x26_30, x26_31, x26_34, x26_35, x26_38, x26_39, x26_40, x26_42, x26_45, x26_46, x26_49, x26_53, x26_56, x26_57, x26_58, x26_62, x26_65, x26_66, x26_69, x26_70, x26_71, x26_74, x26_75, x26_76, x26_77, x26_80, x26_84, x26_87, x26_90, simprocAttr, pj_then_s, pj_pv_s, pj_pi_s, pj_set_s, if_true, if_false, not_true_eq_false, not_false_eq_true, pj_up_up, pj_so24_23, pj_so25_23, pj_so26_23, pj_so27_23, pj_so28_23, pj_so29_23, pj_so25_24, pj_so26_24, pj_so27_24, pj_so28_24, pj_so29_24, pj_so26_25, pj_so27_25, pj_so28_25, pj_so29_25, pj_so27_26, pj_so28_26, pj_so29_26, pj_so28_27, pj_so29_27, pj_so29_28, pj_up_ap, pj_upd_ap, pj_a3_0, pj_a3_1, pj_a3_2, pj_a3_u0, pj_a3_u1, pj_a3_u2, pj_f3_5, pj_arl_i, pj_f4_8, pj_f3_7, pj_ars_i, pj_f3_13, pj_s3_13, pj_long_i, pj_long_r, pj_long_n, hm, hT, pj_tc, c1]
    exact K
theorem c_fire_14_2 (bb : pj_b3 (f 26) (f 27) (f 28)) (bq : pj_b3 q0 q1 q2) (bl : pj_b3 l0 l1 l2) (bh : pj_b3 h0 h1 h2) (hm : H 23 = pj_tc ic nm vo md ar (pj_pk l0 l1 l2) (pj_pk h0 h1 h2) (pj_pk q0 q1 q2)) (hT : H 29 = .inr (0, 3, .inl (pj_a3 t0 t1 t2))) (hu : H 14 = pj_uc 14 f) (hu1 : H 15 = .inr (0, 6, .inl (pj_a6 (f 0) (f 1) (f 2) (f 3) (f 4) (f 5))))
    (K : pj_Ends 26 (29, [some (.ref 23), some (.ref 14), some (.int 3)], [], (N, S, pj_up (pj_up H 23 (pj_tc ic nm vo md ar (pj_pk l0 l1 l2) (pj_pk h0 h1 h2) (pj_pk q0 q1 (ck_n (ck_y t2 (f 28) (ck_d2 (h0 + h1 + h2) nm t1 (f 5))) q2 1)))) 29 (.inr (0, 3, .inl (pj_a3 t0 t1 (ck_n (ck_y t2 (f 28) (ck_d2 (h0 + h1 + h2) nm t1 (f 5))) t2 nm)))))) o) :
    pj_Ends 26 (29, [some (.ref 23), some (.ref 14), some (.int 2)], [], (N, S, H)) o := by
  have hh : pj_up H 23 (pj_tc ic nm vo md ar (pj_pk l0 l1 l2) (pj_pk h0 h1 h2) (pj_pk q0 q1 q2)) = H := pj_up_id hm
  have ht : pj_up H 29 (.inr (0, 3, .inl (pj_a3 t0 t1 t2))) = H := pj_up_id hT
  have hx : pj_uc 14 f = .inl (4, [.ref 15, .ref 16, .ref 17, .ref 18, .ref 19, .ref 20, .ref 21, .int (sp_vot f), .int (pj_pk (f 26) (f 27) (f 28)), .int (f 7), .int (f 6)]) := rfl
  have hD := c_due_14_2 (N := N) (S := S) bl bh hm hT hu hu1
  have d01 := ck_d2_01 (l := h0 + h1 + h2) (nm := nm) (t := t1) (d := f 5)
  generalize (ck_d2 (h0 + h1 + h2) nm t1 (f 5)) = due at K hD d01
  unfold ck_y at K
  have b01 := bb.2.2
  rw [x26_29]
  by_cases c1 : t2 = -6
  · rw [if_pos c1] at K
    simp (disch := first | assumption | exact pj_long_i | exact pj_long_r | exact pj_long_n | decide) only [x26_30, x26_31, x26_34, x26_35, x26_38, x26_39, x26_40, x26_42, x26_45, x26_46, x26_49, simprocAttr, pj_then_s, pj_pv_s, pj_pi_s, pj_set_s, if_true, if_false, not_true_eq_false, not_false_eq_true, pj_up_up, pj_so24_23, pj_so25_23, pj_so26_23, pj_so27_23, pj_so28_23, pj_so29_23, pj_so25_24, pj_so26_24, pj_so27_24, pj_so28_24, pj_so29_24, pj_so26_25, pj_so27_25, pj_so28_25, pj_so29_25, pj_so27_26, pj_so28_26, pj_so29_26, pj_so28_27, pj_so29_27, pj_so29_28, pj_up_ap, pj_upd_ap, pj_a3_0, pj_a3_1, pj_a3_2, pj_a3_u0, pj_a3_u1, pj_a3_u2, pj_f3_5, pj_arl_i, pj_f4_8, hm, hT, hu, hx, pj_tc, c1]
    refine e26_50 rfl (c_has_2 bb) ?_
    rcases b01 with e | e
    · rw [if_pos e] at K
      simp (disch := first | assumption | exact pj_long_i | exact pj_long_r | exact pj_long_n | decide) only [x26_53, x26_56, x26_57, x26_58, simprocAttr, pj_then_s, pj_pv_s, pj_pi_s, pj_set_s, if_true, if_false, not_true_eq_false, not_false_eq_true, pj_up_up, pj_so24_23, pj_so25_23, pj_so26_23, pj_so27_23, pj_so28_23, pj_so29_23, pj_so25_24, pj_so26_24, pj_so27_24, pj_so28_24, pj_so29_24, pj_so26_25, pj_so27_25, pj_so28_25, pj_so29_25, pj_so27_26, pj_so28_26, pj_so29_26, pj_so28_27, pj_so29_27, pj_so29_28, pj_up_ap, pj_upd_ap, pj_a3_0, pj_a3_1, pj_a3_2, pj_a3_u0, pj_a3_u1, pj_a3_u2, e]
      refine e26_59 rfl (by rw [hm]; rfl) hD ?_
      rcases d01 with e2 | e2
      · rw [e2, show ck_n 0 q2 1 = q2 from rfl, show ck_n 0 t2 nm = t2 from rfl, hh, ht] at K
        rw [e2]
        simp (disch := first | assumption | exact pj_long_i | exact pj_long_r | exact pj_long_n | decide) only [x26_62, x26_65, x26_66, x26_69, x26_70, x26_71, x26_74, x26_75, x26_76, x26_77, x26_80, x26_84, x26_87, x26_90, simprocAttr, pj_then_s, pj_pv_s, pj_pi_s, pj_set_s, if_true, if_false, not_true_eq_false, not_false_eq_true, pj_up_up, pj_so24_23, pj_so25_23, pj_so26_23, pj_so27_23, pj_so28_23, pj_so29_23, pj_so25_24, pj_so26_24, pj_so27_24, pj_so28_24, pj_so29_24, pj_so26_25, pj_so27_25, pj_so28_25, pj_so29_25, pj_so27_26, pj_so28_26, pj_so29_26, pj_so28_27, pj_so29_27, pj_so29_28, pj_up_ap, pj_upd_ap, pj_a3_0, pj_a3_1, pj_a3_2, pj_a3_u0, pj_a3_u1, pj_a3_u2, pj_f3_5, pj_f3_7, pj_ars_i, pj_f3_13, pj_s3_13, pj_long_i, pj_long_r, pj_long_n]
        exact K
      · rw [e2, show ck_n 1 q2 1 = 1 from rfl, show ck_n 1 t2 nm = nm from rfl] at K
        rw [e2]
        simp (disch := first | assumption | exact pj_long_i | exact pj_long_r | exact pj_long_n | decide) only [x26_62, x26_65, x26_66, x26_69, x26_70, x26_71, x26_74, x26_75, x26_76, x26_77, x26_80, simprocAttr, pj_then_s, pj_pv_s, pj_pi_s, pj_set_s, if_true, if_false, not_true_eq_false, not_false_eq_true, pj_up_up, pj_so24_23, pj_so25_23, pj_so26_23, pj_so27_23, pj_so28_23, pj_so29_23, pj_so25_24, pj_so26_24, pj_so27_24, pj_so28_24, pj_so29_24, pj_so26_25, pj_so27_25, pj_so28_25, pj_so29_25, pj_so27_26, pj_so28_26, pj_so29_26, pj_so28_27, pj_so29_27, pj_so29_28, pj_up_ap, pj_upd_ap, pj_a3_0, pj_a3_1, pj_a3_2, pj_a3_u0, pj_a3_u1, pj_a3_u2, pj_f3_5, pj_f3_7, pj_ars_i, pj_f3_13, hm, hT, pj_tc]
        refine e26_81 rfl (c_wi_2 bq) ?_
        simp (disch := first | assumption | exact pj_long_i | exact pj_long_r | exact pj_long_n | decide) only [x26_84, x26_87, x26_90, simprocAttr, pj_then_s, pj_pv_s, pj_pi_s, pj_set_s, if_true, if_false, not_true_eq_false, not_false_eq_true, pj_up_up, pj_so24_23, pj_so25_23, pj_so26_23, pj_so27_23, pj_so28_23, pj_so29_23, pj_so25_24, pj_so26_24, pj_so27_24, pj_so28_24, pj_so29_24, pj_so26_25, pj_so27_25, pj_so28_25, pj_so29_25, pj_so27_26, pj_so28_26, pj_so29_26, pj_so28_27, pj_so29_27, pj_so29_28, pj_up_ap, pj_upd_ap, pj_a3_0, pj_a3_1, pj_a3_2, pj_a3_u0, pj_a3_u1, pj_a3_u2, pj_s3_13, pj_long_i, pj_long_r, pj_long_n, hm, pj_tc]
        exact K
    · rw [if_neg (by rw [e]; exact (by decide : ¬ (1 : Int32) = 0)), show ck_n 0 q2 1 = q2 from rfl, show ck_n 0 t2 nm = t2 from rfl, hh, ht] at K
      simp (disch := first | assumption | exact pj_long_i | exact pj_long_r | exact pj_long_n | decide) only [x26_53, x26_56, x26_57, x26_58, x26_62, x26_65, x26_66, x26_69, x26_70, x26_71, x26_74, x26_75, x26_76, x26_77, x26_80, x26_84, x26_87, x26_90, simprocAttr, pj_then_s, pj_pv_s, pj_pi_s, pj_set_s, if_true, if_false, not_true_eq_false, not_false_eq_true, pj_up_up, pj_so24_23, pj_so25_23, pj_so26_23, pj_so27_23, pj_so28_23, pj_so29_23, pj_so25_24, pj_so26_24, pj_so27_24, pj_so28_24, pj_so29_24, pj_so26_25, pj_so27_25, pj_so28_25, pj_so29_25, pj_so27_26, pj_so28_26, pj_so29_26, pj_so28_27, pj_so29_27, pj_so29_28, pj_up_ap, pj_upd_ap, pj_a3_0, pj_a3_1, pj_a3_2, pj_a3_u0, pj_a3_u1, pj_a3_u2, pj_f3_5, pj_f3_7, pj_ars_i, pj_f3_13, pj_s3_13, pj_long_i, pj_long_r, pj_long_n, e]
      exact K
  · rw [if_neg c1, show ck_n 0 q2 1 = q2 from rfl, show ck_n 0 t2 nm = t2 from rfl, hh, ht] at K
    simp (disch := first | assumption | exact pj_long_i | exact pj_long_r | exact pj_long_n | decide) only [x26_30, x26_31, x26_34, x26_35, x26_38, x26_39, x26_40, x26_42, x26_45, x26_46, x26_49, x26_53, x26_56, x26_57, x26_58, x26_62, x26_65, x26_66, x26_69, x26_70, x26_71, x26_74, x26_75, x26_76, x26_77, x26_80, x26_84, x26_87, x26_90, simprocAttr, pj_then_s, pj_pv_s, pj_pi_s, pj_set_s, if_true, if_false, not_true_eq_false, not_false_eq_true, pj_up_up, pj_so24_23, pj_so25_23, pj_so26_23, pj_so27_23, pj_so28_23, pj_so29_23, pj_so25_24, pj_so26_24, pj_so27_24, pj_so28_24, pj_so29_24, pj_so26_25, pj_so27_25, pj_so28_25, pj_so29_25, pj_so27_26, pj_so28_26, pj_so29_26, pj_so28_27, pj_so29_27, pj_so29_28, pj_up_ap, pj_upd_ap, pj_a3_0, pj_a3_1, pj_a3_2, pj_a3_u0, pj_a3_u1, pj_a3_u2, pj_f3_5, pj_arl_i, pj_f4_8, pj_f3_7, pj_ars_i, pj_f3_13, pj_s3_13, pj_long_i, pj_long_r, pj_long_n, hm, hT, pj_tc, c1]
    exact K
end T6
/-- the stages behind a tick: when each fired, and which fire now -/
def ck_yy (f : Nat → Int32) (nm L Hh : Int32) (k : Nat) : Int32 :=
  if k = 0 then ck_y (f 23) (f 26) (ck_d0 L)
  else if k = 1 then ck_y (f 24) (f 27) (ck_d1 L nm (ck_n (ck_y (f 23) (f 26) (ck_d0 L)) (f 23) nm) (f 5) (f 26))
  else ck_y (f 25) (f 28) (ck_d2 Hh nm (ck_n (ck_y (f 24) (f 27) (ck_d1 L nm (ck_n (ck_y (f 23) (f 26) (ck_d0 L)) (f 23) nm) (f 5) (f 26))) (f 24) nm) (f 5))
section T7
variable {N S : Nat} {H : pj_Heap} {ic nm vo md ar fi : Int32} {f : Nat → Int32} {l0 l1 l2 h0 h1 h2 : Int32}
theorem c_fireStages_5 {t0 t1 t2 : Int32} (bb : pj_b3 (f 26) (f 27) (f 28)) (bl : pj_b3 l0 l1 l2) (bh : pj_b3 h0 h1 h2) (hm : H 23 = pj_tc ic nm vo md ar (pj_pk l0 l1 l2) (pj_pk h0 h1 h2) fi) (hT : H 29 = .inr (0, 3, .inl (pj_a3 t0 t1 t2))) (hu : H 5 = pj_uc 5 f) (hu1 : H 6 = .inr (0, 6, .inl (pj_a6 (f 0) (f 1) (f 2) (f 3) (f 4) (f 5)))) (hu6 : H 11 = .inr (0, 3, .inl (pj_a3 (f 23) (f 24) (f 25)))) :
    pj_Ends 26 (0, [some (.ref 23), some (.ref 5), none], [], (N, S, H)) (none, (N, S, if 0 < ar then pj_up (pj_up H 23 (pj_tc ic nm vo md ar (pj_pk l0 l1 l2) (pj_pk h0 h1 h2) (pj_pk (ck_n (ck_yy f nm (l0 + l1 + l2) (h0 + h1 + h2) 0) 0 1) (ck_n (ck_yy f nm (l0 + l1 + l2) (h0 + h1 + h2) 1) 0 1) (ck_n (ck_yy f nm (l0 + l1 + l2) (h0 + h1 + h2) 2) 0 1)))) 29 (.inr (0, 3, .inl (pj_a3 (ck_n (ck_yy f nm (l0 + l1 + l2) (h0 + h1 + h2) 0) (f 23) nm) (ck_n (ck_yy f nm (l0 + l1 + l2) (h0 + h1 + h2) 1) (f 24) nm) (ck_n (ck_yy f nm (l0 + l1 + l2) (h0 + h1 + h2) 2) (f 25) nm)))) else pj_up (pj_up H 23 (pj_tc ic nm vo md ar (pj_pk l0 l1 l2) (pj_pk h0 h1 h2) 0)) 29 (.inr (0, 3, .inl (pj_a3 (f 23) (f 24) (f 25)))))) := by
  have hx : pj_uc 5 f = .inl (4, [.ref 6, .ref 7, .ref 8, .ref 9, .ref 10, .ref 11, .ref 12, .int (sp_vot f), .int (sp_bar f), .int (f 7), .int (f 6)]) := rfl
  by_cases c : 0 < ar
  · rw [if_pos c]
    have K : ∀ G, G = pj_up (pj_up H 23 (pj_tc ic nm vo md ar (pj_pk l0 l1 l2) (pj_pk h0 h1 h2) (pj_pk 0 0 0))) 29 (.inr (0, 3, .inl (pj_a3 (f 23) (f 24) (f 25)))) → pj_Ends 26 (29, [some (.ref 23), some (.ref 5), some (.int 0)], [], (N, S, G)) (none, (N, S, pj_up (pj_up H 23 (pj_tc ic nm vo md ar (pj_pk l0 l1 l2) (pj_pk h0 h1 h2) (pj_pk (ck_n (ck_yy f nm (l0 + l1 + l2) (h0 + h1 + h2) 0) 0 1) (ck_n (ck_yy f nm (l0 + l1 + l2) (h0 + h1 + h2) 1) 0 1) (ck_n (ck_yy f nm (l0 + l1 + l2) (h0 + h1 + h2) 2) 0 1)))) 29 (.inr (0, 3, .inl (pj_a3 (ck_n (ck_yy f nm (l0 + l1 + l2) (h0 + h1 + h2) 0) (f 23) nm) (ck_n (ck_yy f nm (l0 + l1 + l2) (h0 + h1 + h2) 1) (f 24) nm) (ck_n (ck_yy f nm (l0 + l1 + l2) (h0 + h1 + h2) 2) (f 25) nm)))))) := by
      intro G hG
      subst hG
      refine c_fire_5_0 (ic := ic) (nm := nm) (vo := vo) (md := md) (ar := ar) (f := f) (t0 := f 23) (t1 := f 24) (t2 := f 25) (q0 := 0) (q1 := 0) (q2 := 0) bb ⟨Or.inl rfl, Or.inl rfl, Or.inl rfl⟩ bl bh (by (try simp (disch := decide) only [simprocAttr, pj_up_ap, if_true, if_false, pj_mo, hm]) <;> rfl) (by (try simp (disch := decide) only [simprocAttr, pj_up_ap, if_true, if_false, pj_mo, hm]) <;> rfl) (by (try simp (disch := decide) only [simprocAttr, pj_up_ap, if_true, if_false, pj_mo, hu]) <;> rfl) (by (try simp (disch := decide) only [simprocAttr, pj_up_ap, if_true, if_false, pj_mo, hu1]) <;> rfl) ?_
      rw [show ck_y (f 23) (f 26) (ck_d0 (l0 + l1 + l2)) = (ck_yy f nm (l0 + l1 + l2) (h0 + h1 + h2) 0) from rfl]
      refine c_fire_5_1 (ic := ic) (nm := nm) (vo := vo) (md := md) (ar := ar) (f := f) (t0 := ck_n (ck_yy f nm (l0 + l1 + l2) (h0 + h1 + h2) 0) (f 23) nm) (t1 := f 24) (t2 := f 25) (q0 := ck_n (ck_yy f nm (l0 + l1 + l2) (h0 + h1 + h2) 0) 0 1) (q1 := 0) (q2 := 0) bb ⟨ck_n_01 (Or.inl rfl), Or.inl rfl, Or.inl rfl⟩ bl bh (by (try simp (disch := decide) only [simprocAttr, pj_up_ap, if_true, if_false, pj_mo, hm]) <;> rfl) (by (try simp (disch := decide) only [simprocAttr, pj_up_ap, if_true, if_false, pj_mo, hm]) <;> rfl) (by (try simp (disch := decide) only [simprocAttr, pj_up_ap, if_true, if_false, pj_mo, hu]) <;> rfl) (by (try simp (disch := decide) only [simprocAttr, pj_up_ap, if_true, if_false, pj_mo, hu1]) <;> rfl) ?_
      rw [show ck_y (f 24) (f 27) (ck_d1 (l0 + l1 + l2) nm (ck_n (ck_yy f nm (l0 + l1 + l2) (h0 + h1 + h2) 0) (f 23) nm) (f 5) (f 26)) = (ck_yy f nm (l0 + l1 + l2) (h0 + h1 + h2) 1) from rfl]
      refine c_fire_5_2 (ic := ic) (nm := nm) (vo := vo) (md := md) (ar := ar) (f := f) (t0 := ck_n (ck_yy f nm (l0 + l1 + l2) (h0 + h1 + h2) 0) (f 23) nm) (t1 := ck_n (ck_yy f nm (l0 + l1 + l2) (h0 + h1 + h2) 1) (f 24) nm) (t2 := f 25) (q0 := ck_n (ck_yy f nm (l0 + l1 + l2) (h0 + h1 + h2) 0) 0 1) (q1 := ck_n (ck_yy f nm (l0 + l1 + l2) (h0 + h1 + h2) 1) 0 1) (q2 := 0) bb ⟨ck_n_01 (Or.inl rfl), ck_n_01 (Or.inl rfl), Or.inl rfl⟩ bl bh (by (try simp (disch := decide) only [simprocAttr, pj_up_ap, if_true, if_false, pj_mo, hm]) <;> rfl) (by (try simp (disch := decide) only [simprocAttr, pj_up_ap, if_true, if_false, pj_mo, hm]) <;> rfl) (by (try simp (disch := decide) only [simprocAttr, pj_up_ap, if_true, if_false, pj_mo, hu]) <;> rfl) (by (try simp (disch := decide) only [simprocAttr, pj_up_ap, if_true, if_false, pj_mo, hu1]) <;> rfl) ?_
      rw [show ck_y (f 25) (f 28) (ck_d2 (h0 + h1 + h2) nm (ck_n (ck_yy f nm (l0 + l1 + l2) (h0 + h1 + h2) 1) (f 24) nm) (f 5)) = (ck_yy f nm (l0 + l1 + l2) (h0 + h1 + h2) 2) from rfl]
      simp (disch := first | assumption | exact pj_long_i | exact pj_long_r | exact pj_long_n | decide) only [x26_29, x26_30, x26_31, x26_34, x26_35, x26_38, x26_39, x26_40, x26_42, x26_45, x26_46, x26_49, x26_53, x26_56, x26_57, x26_58, x26_62, x26_65, x26_66, x26_69, x26_70, x26_71, x26_74, x26_75, x26_76, x26_77, x26_80, x26_84, x26_87, x26_90, simprocAttr, pj_then_s, pj_pv_s, pj_pi_s, pj_set_s, if_true, if_false, not_true_eq_false, not_false_eq_true, pj_up_up, pj_so24_23, pj_so25_23, pj_so26_23, pj_so27_23, pj_so28_23, pj_so29_23, pj_so25_24, pj_so26_24, pj_so27_24, pj_so28_24, pj_so29_24, pj_so26_25, pj_so27_25, pj_so28_25, pj_so29_25, pj_so27_26, pj_so28_26, pj_so29_26, pj_so28_27, pj_so29_27, pj_so29_28, pj_up_ap, pj_upd_ap, pj_a3_0, pj_a3_1, pj_a3_2, pj_a3_u0, pj_a3_u1, pj_a3_u2, pj_f3_5, pj_arl_i, pj_f4_8, pj_f3_7, pj_ars_i, pj_f3_13, pj_s3_13, pj_long_i, pj_long_r, pj_long_n]
      exact t26_93
    have e0 : pj_pk 0 0 0 = 0 := rfl
    rw [e0] at K
    simp (disch := first | assumption | exact pj_long_i | exact pj_long_r | exact pj_long_n | decide) only [x26_0, x26_1, x26_4, x26_5, x26_6, x26_9, x26_10, x26_11, x26_14, x26_15, x26_16, x26_19, x26_20, x26_23, x26_27, x26_28, simprocAttr, pj_then_s, pj_pv_s, pj_pi_s, pj_set_s, if_true, if_false, not_true_eq_false, not_false_eq_true, pj_up_up, pj_so24_23, pj_so25_23, pj_so26_23, pj_so27_23, pj_so28_23, pj_so29_23, pj_so25_24, pj_so26_24, pj_so27_24, pj_so28_24, pj_so29_24, pj_so26_25, pj_so27_25, pj_so28_25, pj_so29_25, pj_so27_26, pj_so28_26, pj_so29_26, pj_so28_27, pj_so29_27, pj_so29_28, pj_up_ap, pj_upd_ap, pj_a3_0, pj_a3_1, pj_a3_2, pj_a3_u0, pj_a3_u1, pj_a3_u2, pj_f4_5, pj_f3_5, pj_g4_0, pj_g4_1, pj_g4_2, pj_g4_3, pj_g4_4, pj_s3_13, pj_f3_10, pj_long_i, pj_long_r, pj_long_n, hm, hT, hu, hu6, hx, pj_tc, pj_cas_3, pj_a3_cpy, c]
    exact K _ rfl
  · rw [if_neg c]
    simp (disch := first | assumption | exact pj_long_i | exact pj_long_r | exact pj_long_n | decide) only [x26_0, x26_1, x26_4, x26_5, x26_6, x26_9, x26_10, x26_11, x26_14, x26_15, x26_16, x26_19, x26_20, x26_23, simprocAttr, pj_then_s, pj_pv_s, pj_pi_s, pj_set_s, if_true, if_false, not_true_eq_false, not_false_eq_true, pj_up_up, pj_so24_23, pj_so25_23, pj_so26_23, pj_so27_23, pj_so28_23, pj_so29_23, pj_so25_24, pj_so26_24, pj_so27_24, pj_so28_24, pj_so29_24, pj_so26_25, pj_so27_25, pj_so28_25, pj_so29_25, pj_so27_26, pj_so28_26, pj_so29_26, pj_so28_27, pj_so29_27, pj_so29_28, pj_up_ap, pj_upd_ap, pj_a3_0, pj_a3_1, pj_a3_2, pj_a3_u0, pj_a3_u1, pj_a3_u2, pj_f4_5, pj_f3_5, pj_g4_0, pj_g4_1, pj_g4_2, pj_g4_3, pj_g4_4, pj_s3_13, pj_f3_10, hm, hT, hu, hu6, hx, pj_tc, pj_cas_3, pj_a3_cpy, c]
    exact t26_26
theorem c_fireStages_14 {t0 t1 t2 : Int32} (bb : pj_b3 (f 26) (f 27) (f 28)) (bl : pj_b3 l0 l1 l2) (bh : pj_b3 h0 h1 h2) (hm : H 23 = pj_tc ic nm vo md ar (pj_pk l0 l1 l2) (pj_pk h0 h1 h2) fi) (hT : H 29 = .inr (0, 3, .inl (pj_a3 t0 t1 t2))) (hu : H 14 = pj_uc 14 f) (hu1 : H 15 = .inr (0, 6, .inl (pj_a6 (f 0) (f 1) (f 2) (f 3) (f 4) (f 5)))) (hu6 : H 20 = .inr (0, 3, .inl (pj_a3 (f 23) (f 24) (f 25)))) :
    pj_Ends 26 (0, [some (.ref 23), some (.ref 14), none], [], (N, S, H)) (none, (N, S, if 0 < ar then pj_up (pj_up H 23 (pj_tc ic nm vo md ar (pj_pk l0 l1 l2) (pj_pk h0 h1 h2) (pj_pk (ck_n (ck_yy f nm (l0 + l1 + l2) (h0 + h1 + h2) 0) 0 1) (ck_n (ck_yy f nm (l0 + l1 + l2) (h0 + h1 + h2) 1) 0 1) (ck_n (ck_yy f nm (l0 + l1 + l2) (h0 + h1 + h2) 2) 0 1)))) 29 (.inr (0, 3, .inl (pj_a3 (ck_n (ck_yy f nm (l0 + l1 + l2) (h0 + h1 + h2) 0) (f 23) nm) (ck_n (ck_yy f nm (l0 + l1 + l2) (h0 + h1 + h2) 1) (f 24) nm) (ck_n (ck_yy f nm (l0 + l1 + l2) (h0 + h1 + h2) 2) (f 25) nm)))) else pj_up (pj_up H 23 (pj_tc ic nm vo md ar (pj_pk l0 l1 l2) (pj_pk h0 h1 h2) 0)) 29 (.inr (0, 3, .inl (pj_a3 (f 23) (f 24) (f 25)))))) := by
  have hx : pj_uc 14 f = .inl (4, [.ref 15, .ref 16, .ref 17, .ref 18, .ref 19, .ref 20, .ref 21, .int (sp_vot f), .int (sp_bar f), .int (f 7), .int (f 6)]) := rfl
  by_cases c : 0 < ar
  · rw [if_pos c]
    have K : ∀ G, G = pj_up (pj_up H 23 (pj_tc ic nm vo md ar (pj_pk l0 l1 l2) (pj_pk h0 h1 h2) (pj_pk 0 0 0))) 29 (.inr (0, 3, .inl (pj_a3 (f 23) (f 24) (f 25)))) → pj_Ends 26 (29, [some (.ref 23), some (.ref 14), some (.int 0)], [], (N, S, G)) (none, (N, S, pj_up (pj_up H 23 (pj_tc ic nm vo md ar (pj_pk l0 l1 l2) (pj_pk h0 h1 h2) (pj_pk (ck_n (ck_yy f nm (l0 + l1 + l2) (h0 + h1 + h2) 0) 0 1) (ck_n (ck_yy f nm (l0 + l1 + l2) (h0 + h1 + h2) 1) 0 1) (ck_n (ck_yy f nm (l0 + l1 + l2) (h0 + h1 + h2) 2) 0 1)))) 29 (.inr (0, 3, .inl (pj_a3 (ck_n (ck_yy f nm (l0 + l1 + l2) (h0 + h1 + h2) 0) (f 23) nm) (ck_n (ck_yy f nm (l0 + l1 + l2) (h0 + h1 + h2) 1) (f 24) nm) (ck_n (ck_yy f nm (l0 + l1 + l2) (h0 + h1 + h2) 2) (f 25) nm)))))) := by
      intro G hG
      subst hG
      refine c_fire_14_0 (ic := ic) (nm := nm) (vo := vo) (md := md) (ar := ar) (f := f) (t0 := f 23) (t1 := f 24) (t2 := f 25) (q0 := 0) (q1 := 0) (q2 := 0) bb ⟨Or.inl rfl, Or.inl rfl, Or.inl rfl⟩ bl bh (by (try simp (disch := decide) only [simprocAttr, pj_up_ap, if_true, if_false, pj_mo, hm]) <;> rfl) (by (try simp (disch := decide) only [simprocAttr, pj_up_ap, if_true, if_false, pj_mo, hm]) <;> rfl) (by (try simp (disch := decide) only [simprocAttr, pj_up_ap, if_true, if_false, pj_mo, hu]) <;> rfl) (by (try simp (disch := decide) only [simprocAttr, pj_up_ap, if_true, if_false, pj_mo, hu1]) <;> rfl) ?_
      rw [show ck_y (f 23) (f 26) (ck_d0 (l0 + l1 + l2)) = (ck_yy f nm (l0 + l1 + l2) (h0 + h1 + h2) 0) from rfl]
      refine c_fire_14_1 (ic := ic) (nm := nm) (vo := vo) (md := md) (ar := ar) (f := f) (t0 := ck_n (ck_yy f nm (l0 + l1 + l2) (h0 + h1 + h2) 0) (f 23) nm) (t1 := f 24) (t2 := f 25) (q0 := ck_n (ck_yy f nm (l0 + l1 + l2) (h0 + h1 + h2) 0) 0 1) (q1 := 0) (q2 := 0) bb ⟨ck_n_01 (Or.inl rfl), Or.inl rfl, Or.inl rfl⟩ bl bh (by (try simp (disch := decide) only [simprocAttr, pj_up_ap, if_true, if_false, pj_mo, hm]) <;> rfl) (by (try simp (disch := decide) only [simprocAttr, pj_up_ap, if_true, if_false, pj_mo, hm]) <;> rfl) (by (try simp (disch := decide) only [simprocAttr, pj_up_ap, if_true, if_false, pj_mo, hu]) <;> rfl) (by (try simp (disch := decide) only [simprocAttr, pj_up_ap, if_true, if_false, pj_mo, hu1]) <;> rfl) ?_
      rw [show ck_y (f 24) (f 27) (ck_d1 (l0 + l1 + l2) nm (ck_n (ck_yy f nm (l0 + l1 + l2) (h0 + h1 + h2) 0) (f 23) nm) (f 5) (f 26)) = (ck_yy f nm (l0 + l1 + l2) (h0 + h1 + h2) 1) from rfl]
      refine c_fire_14_2 (ic := ic) (nm := nm) (vo := vo) (md := md) (ar := ar) (f := f) (t0 := ck_n (ck_yy f nm (l0 + l1 + l2) (h0 + h1 + h2) 0) (f 23) nm) (t1 := ck_n (ck_yy f nm (l0 + l1 + l2) (h0 + h1 + h2) 1) (f 24) nm) (t2 := f 25) (q0 := ck_n (ck_yy f nm (l0 + l1 + l2) (h0 + h1 + h2) 0) 0 1) (q1 := ck_n (ck_yy f nm (l0 + l1 + l2) (h0 + h1 + h2) 1) 0 1) (q2 := 0) bb ⟨ck_n_01 (Or.inl rfl), ck_n_01 (Or.inl rfl), Or.inl rfl⟩ bl bh (by (try simp (disch := decide) only [simprocAttr, pj_up_ap, if_true, if_false, pj_mo, hm]) <;> rfl) (by (try simp (disch := decide) only [simprocAttr, pj_up_ap, if_true, if_false, pj_mo, hm]) <;> rfl) (by (try simp (disch := decide) only [simprocAttr, pj_up_ap, if_true, if_false, pj_mo, hu]) <;> rfl) (by (try simp (disch := decide) only [simprocAttr, pj_up_ap, if_true, if_false, pj_mo, hu1]) <;> rfl) ?_
      rw [show ck_y (f 25) (f 28) (ck_d2 (h0 + h1 + h2) nm (ck_n (ck_yy f nm (l0 + l1 + l2) (h0 + h1 + h2) 1) (f 24) nm) (f 5)) = (ck_yy f nm (l0 + l1 + l2) (h0 + h1 + h2) 2) from rfl]
      simp (disch := first | assumption | exact pj_long_i | exact pj_long_r | exact pj_long_n | decide) only [x26_29, x26_30, x26_31, x26_34, x26_35, x26_38, x26_39, x26_40, x26_42, x26_45, x26_46, x26_49, x26_53, x26_56, x26_57, x26_58, x26_62, x26_65, x26_66, x26_69, x26_70, x26_71, x26_74, x26_75, x26_76, x26_77, x26_80, x26_84, x26_87, x26_90, simprocAttr, pj_then_s, pj_pv_s, pj_pi_s, pj_set_s, if_true, if_false, not_true_eq_false, not_false_eq_true, pj_up_up, pj_so24_23, pj_so25_23, pj_so26_23, pj_so27_23, pj_so28_23, pj_so29_23, pj_so25_24, pj_so26_24, pj_so27_24, pj_so28_24, pj_so29_24, pj_so26_25, pj_so27_25, pj_so28_25, pj_so29_25, pj_so27_26, pj_so28_26, pj_so29_26, pj_so28_27, pj_so29_27, pj_so29_28, pj_up_ap, pj_upd_ap, pj_a3_0, pj_a3_1, pj_a3_2, pj_a3_u0, pj_a3_u1, pj_a3_u2, pj_f3_5, pj_arl_i, pj_f4_8, pj_f3_7, pj_ars_i, pj_f3_13, pj_s3_13, pj_long_i, pj_long_r, pj_long_n]
      exact t26_93
    have e0 : pj_pk 0 0 0 = 0 := rfl
    rw [e0] at K
    simp (disch := first | assumption | exact pj_long_i | exact pj_long_r | exact pj_long_n | decide) only [x26_0, x26_1, x26_4, x26_5, x26_6, x26_9, x26_10, x26_11, x26_14, x26_15, x26_16, x26_19, x26_20, x26_23, x26_27, x26_28, simprocAttr, pj_then_s, pj_pv_s, pj_pi_s, pj_set_s, if_true, if_false, not_true_eq_false, not_false_eq_true, pj_up_up, pj_so24_23, pj_so25_23, pj_so26_23, pj_so27_23, pj_so28_23, pj_so29_23, pj_so25_24, pj_so26_24, pj_so27_24, pj_so28_24, pj_so29_24, pj_so26_25, pj_so27_25, pj_so28_25, pj_so29_25, pj_so27_26, pj_so28_26, pj_so29_26, pj_so28_27, pj_so29_27, pj_so29_28, pj_up_ap, pj_upd_ap, pj_a3_0, pj_a3_1, pj_a3_2, pj_a3_u0, pj_a3_u1, pj_a3_u2, pj_f4_5, pj_f3_5, pj_g4_0, pj_g4_1, pj_g4_2, pj_g4_3, pj_g4_4, pj_s3_13, pj_f3_10, pj_long_i, pj_long_r, pj_long_n, hm, hT, hu, hu6, hx, pj_tc, pj_cas_3, pj_a3_cpy, c]
    exact K _ rfl
  · rw [if_neg c]
    simp (disch := first | assumption | exact pj_long_i | exact pj_long_r | exact pj_long_n | decide) only [x26_0, x26_1, x26_4, x26_5, x26_6, x26_9, x26_10, x26_11, x26_14, x26_15, x26_16, x26_19, x26_20, x26_23, simprocAttr, pj_then_s, pj_pv_s, pj_pi_s, pj_set_s, if_true, if_false, not_true_eq_false, not_false_eq_true, pj_up_up, pj_so24_23, pj_so25_23, pj_so26_23, pj_so27_23, pj_so28_23, pj_so29_23, pj_so25_24, pj_so26_24, pj_so27_24, pj_so28_24, pj_so29_24, pj_so26_25, pj_so27_25, pj_so28_25, pj_so29_25, pj_so27_26, pj_so28_26, pj_so29_26, pj_so28_27, pj_so29_27, pj_so29_28, pj_up_ap, pj_upd_ap, pj_a3_0, pj_a3_1, pj_a3_2, pj_a3_u0, pj_a3_u1, pj_a3_u2, pj_f4_5, pj_f3_5, pj_g4_0, pj_g4_1, pj_g4_2, pj_g4_3, pj_g4_4, pj_s3_13, pj_f3_10, hm, hT, hu, hu6, hx, pj_tc, pj_cas_3, pj_a3_cpy, c]
    exact t26_26
end T7
