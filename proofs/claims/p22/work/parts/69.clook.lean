/-! THE CLASS'S CALLS THAT LOOK -/
section T27
variable {N S : Nat} {H : pj_Heap} {x : pj_Sg} {w : Int32}
theorem c_sensor_0 (hx : pj_In x) (hC : pj_C H x) : pj_Ends 59 (0, [some (.ref 4), some (.int 0), some (.int w)], [], (N, S, H)) (some (.int (op_sensor x.1 0 w)), (N, S, H)) := by
  obtain ⟨t, ht, hR⟩ := hx.1
  obtain ⟨-, -, -, rv, -⟩ := hR
  have bv : pj_b3 (x.1 14) (x.1 15) (x.1 16) := ⟨rv 0 (by decide), rv 1 (by decide), rv 2 (by decide)⟩
  obtain ⟨hu, hu1, hu2, hu3, hu4, hu5, hu6, hu7, hu8⟩ := hC.2.2.1
  have hV := hC.2.1
  have hx5 : pj_uc 5 x.1 = .inl (4, [.ref 6, .ref 7, .ref 8, .ref 9, .ref 10, .ref 11, .ref 12, .int (pj_pk (x.1 14) (x.1 15) (x.1 16)), .int (sp_bar x.1), .int (x.1 7), .int (x.1 6)]) := rfl
  unfold op_sensor
  rw [show sp_th 0 = 1 from by decide, if_neg (by decide : ¬ (1 : Int32) = 0), show (0 : Int32).toNatClampNeg = 0 from rfl]
  by_cases w0 : w = 0
  · subst w0
    rw [if_pos rfl]
    simp (disch := first | assumption | exact pj_long_i | exact pj_long_r | exact pj_long_n | decide) only [x59_0, x59_1, x59_4, x59_5, x59_6, x59_9, x59_11, x59_12, x59_48, x59_49, x59_52, x59_55, x59_56, x59_57, x59_59, simprocAttr, pj_then_s, pj_pv_s, pj_pi_s, pj_set_s, if_true, if_false, not_true_eq_false, not_false_eq_true, pj_up_up, pj_so110_109, pj_so111_109, pj_so112_109, pj_so113_109, pj_so114_109, pj_so115_109, pj_so116_109, pj_so117_109, pj_so111_110, pj_so112_110, pj_so113_110, pj_so114_110, pj_so115_110, pj_so116_110, pj_so117_110, pj_so112_111, pj_so113_111, pj_so114_111, pj_so115_111, pj_so116_111, pj_so117_111, pj_so113_112, pj_so114_112, pj_so115_112, pj_so116_112, pj_so117_112, pj_so114_113, pj_so115_113, pj_so116_113, pj_so117_113, pj_so115_114, pj_so116_114, pj_so117_114, pj_so116_115, pj_so117_115, pj_so117_116, pj_up_ap, pj_upd_ap, pj_a3_0, pj_a3_1, pj_a3_2, pj_a3_u0, pj_a3_u1, pj_a3_u2, pj_f5_0, pj_f4_1, pj_arl_i, hV, pj_vc, hu, hx5, hu2]
    exact t59_60
  rw [if_neg w0]
  by_cases w1 : w = 1
  · subst w1
    rw [if_pos rfl]
    simp (disch := first | assumption | exact pj_long_i | exact pj_long_r | exact pj_long_n | decide) only [x59_0, x59_1, x59_4, x59_5, x59_6, x59_9, x59_11, x59_12, x59_48, x59_49, x59_52, x59_55, x59_56, x59_57, x59_59, x59_61, x59_62, x59_65, x59_68, x59_69, x59_70, x59_72, simprocAttr, pj_then_s, pj_pv_s, pj_pi_s, pj_set_s, if_true, if_false, not_true_eq_false, not_false_eq_true, pj_up_up, pj_so110_109, pj_so111_109, pj_so112_109, pj_so113_109, pj_so114_109, pj_so115_109, pj_so116_109, pj_so117_109, pj_so111_110, pj_so112_110, pj_so113_110, pj_so114_110, pj_so115_110, pj_so116_110, pj_so117_110, pj_so112_111, pj_so113_111, pj_so114_111, pj_so115_111, pj_so116_111, pj_so117_111, pj_so113_112, pj_so114_112, pj_so115_112, pj_so116_112, pj_so117_112, pj_so114_113, pj_so115_113, pj_so116_113, pj_so117_113, pj_so115_114, pj_so116_114, pj_so117_114, pj_so116_115, pj_so117_115, pj_so117_116, pj_up_ap, pj_upd_ap, pj_a3_0, pj_a3_1, pj_a3_2, pj_a3_u0, pj_a3_u1, pj_a3_u2, pj_f5_0, pj_f4_1, pj_arl_i, pj_f4_2, hV, pj_vc, hu, hx5, hu3]
    exact t59_73
  rw [if_neg w1]
  by_cases w2 : w = 2
  · subst w2
    rw [if_pos rfl]
    simp (disch := first | assumption | exact pj_long_i | exact pj_long_r | exact pj_long_n | decide) only [x59_0, x59_1, x59_4, x59_5, x59_6, x59_9, x59_11, x59_12, x59_48, x59_49, x59_52, x59_55, x59_56, x59_57, x59_59, x59_61, x59_62, x59_65, x59_68, x59_69, x59_70, x59_72, x59_74, x59_75, x59_78, x59_81, simprocAttr, pj_then_s, pj_pv_s, pj_pi_s, pj_set_s, if_true, if_false, not_true_eq_false, not_false_eq_true, pj_up_up, pj_so110_109, pj_so111_109, pj_so112_109, pj_so113_109, pj_so114_109, pj_so115_109, pj_so116_109, pj_so117_109, pj_so111_110, pj_so112_110, pj_so113_110, pj_so114_110, pj_so115_110, pj_so116_110, pj_so117_110, pj_so112_111, pj_so113_111, pj_so114_111, pj_so115_111, pj_so116_111, pj_so117_111, pj_so113_112, pj_so114_112, pj_so115_112, pj_so116_112, pj_so117_112, pj_so114_113, pj_so115_113, pj_so116_113, pj_so117_113, pj_so115_114, pj_so116_114, pj_so117_114, pj_so116_115, pj_so117_115, pj_so117_116, pj_up_ap, pj_upd_ap, pj_a3_0, pj_a3_1, pj_a3_2, pj_a3_u0, pj_a3_u1, pj_a3_u2, pj_f5_0, pj_f4_1, pj_arl_i, pj_f4_2, pj_f4_7, hV, pj_vc, hu, hx5]
    refine e59_82 rfl (c_has_0 bv) ?_
    refine e59_85 rfl (c_asNumber (rv 0 (by decide))) ?_
    exact t59_88
  rw [if_neg w2]
  by_cases w3 : w = 3
  · subst w3
    rw [if_pos rfl]
    simp (disch := first | assumption | exact pj_long_i | exact pj_long_r | exact pj_long_n | decide) only [x59_0, x59_1, x59_4, x59_5, x59_6, x59_9, x59_11, x59_12, x59_48, x59_49, x59_52, x59_55, x59_56, x59_57, x59_59, x59_61, x59_62, x59_65, x59_68, x59_69, x59_70, x59_72, x59_74, x59_75, x59_78, x59_81, x59_89, x59_90, x59_93, x59_96, x59_97, simprocAttr, pj_then_s, pj_pv_s, pj_pi_s, pj_set_s, if_true, if_false, not_true_eq_false, not_false_eq_true, pj_up_up, pj_so110_109, pj_so111_109, pj_so112_109, pj_so113_109, pj_so114_109, pj_so115_109, pj_so116_109, pj_so117_109, pj_so111_110, pj_so112_110, pj_so113_110, pj_so114_110, pj_so115_110, pj_so116_110, pj_so117_110, pj_so112_111, pj_so113_111, pj_so114_111, pj_so115_111, pj_so116_111, pj_so117_111, pj_so113_112, pj_so114_112, pj_so115_112, pj_so116_112, pj_so117_112, pj_so114_113, pj_so115_113, pj_so116_113, pj_so117_113, pj_so115_114, pj_so116_114, pj_so117_114, pj_so116_115, pj_so117_115, pj_so117_116, pj_up_ap, pj_upd_ap, pj_a3_0, pj_a3_1, pj_a3_2, pj_a3_u0, pj_a3_u1, pj_a3_u2, pj_f5_0, pj_f4_1, pj_arl_i, pj_f4_2, pj_f4_7, pj_f4_3, hV, pj_vc, hu, hx5, hu4]
    exact t59_98
  rw [if_neg w3]
  by_cases w4 : w = 4
  · subst w4
    rw [if_pos rfl]
    by_cases c : x.1 6 = 0
    · rw [if_pos c]
      simp (disch := first | assumption | exact pj_long_i | exact pj_long_r | exact pj_long_n | decide) only [x59_0, x59_1, x59_4, x59_5, x59_6, x59_9, x59_11, x59_12, x59_48, x59_49, x59_52, x59_55, x59_56, x59_57, x59_59, x59_61, x59_62, x59_65, x59_68, x59_69, x59_70, x59_72, x59_74, x59_75, x59_78, x59_81, x59_89, x59_90, x59_93, x59_96, x59_97, x59_99, x59_100, x59_103, x59_106, x59_109, x59_111, simprocAttr, pj_then_s, pj_pv_s, pj_pi_s, pj_set_s, if_true, if_false, not_true_eq_false, not_false_eq_true, pj_up_up, pj_so110_109, pj_so111_109, pj_so112_109, pj_so113_109, pj_so114_109, pj_so115_109, pj_so116_109, pj_so117_109, pj_so111_110, pj_so112_110, pj_so113_110, pj_so114_110, pj_so115_110, pj_so116_110, pj_so117_110, pj_so112_111, pj_so113_111, pj_so114_111, pj_so115_111, pj_so116_111, pj_so117_111, pj_so113_112, pj_so114_112, pj_so115_112, pj_so116_112, pj_so117_112, pj_so114_113, pj_so115_113, pj_so116_113, pj_so117_113, pj_so115_114, pj_so116_114, pj_so117_114, pj_so116_115, pj_so117_115, pj_so117_116, pj_up_ap, pj_upd_ap, pj_a3_0, pj_a3_1, pj_a3_2, pj_a3_u0, pj_a3_u1, pj_a3_u2, pj_f5_0, pj_f4_1, pj_arl_i, pj_f4_2, pj_f4_7, pj_f4_3, pj_f4_10, hV, pj_vc, hu, hx5, c]
      exact t59_126
    · rw [if_neg c]
      simp (disch := first | assumption | exact pj_long_i | exact pj_long_r | exact pj_long_n | decide) only [x59_0, x59_1, x59_4, x59_5, x59_6, x59_9, x59_11, x59_12, x59_48, x59_49, x59_52, x59_55, x59_56, x59_57, x59_59, x59_61, x59_62, x59_65, x59_68, x59_69, x59_70, x59_72, x59_74, x59_75, x59_78, x59_81, x59_89, x59_90, x59_93, x59_96, x59_97, x59_99, x59_100, x59_103, x59_106, x59_109, x59_111, x59_114, x59_115, x59_118, x59_121, x59_122, x59_123, x59_125, simprocAttr, pj_then_s, pj_pv_s, pj_pi_s, pj_set_s, if_true, if_false, not_true_eq_false, not_false_eq_true, pj_up_up, pj_so110_109, pj_so111_109, pj_so112_109, pj_so113_109, pj_so114_109, pj_so115_109, pj_so116_109, pj_so117_109, pj_so111_110, pj_so112_110, pj_so113_110, pj_so114_110, pj_so115_110, pj_so116_110, pj_so117_110, pj_so112_111, pj_so113_111, pj_so114_111, pj_so115_111, pj_so116_111, pj_so117_111, pj_so113_112, pj_so114_112, pj_so115_112, pj_so116_112, pj_so117_112, pj_so114_113, pj_so115_113, pj_so116_113, pj_so117_113, pj_so115_114, pj_so116_114, pj_so117_114, pj_so116_115, pj_so117_115, pj_so117_116, pj_up_ap, pj_upd_ap, pj_a3_0, pj_a3_1, pj_a3_2, pj_a3_u0, pj_a3_u1, pj_a3_u2, pj_f5_0, pj_f4_1, pj_arl_i, pj_f4_2, pj_f4_7, pj_f4_3, pj_f4_10, pj_f4_4, hV, pj_vc, hu, hx5, hu5, c]
      exact t59_126
  rw [if_neg w4]
  simp (disch := first | assumption | exact pj_long_i | exact pj_long_r | exact pj_long_n | decide) only [x59_0, x59_1, x59_4, x59_5, x59_6, x59_9, x59_11, x59_12, x59_48, x59_49, x59_52, x59_55, x59_56, x59_57, x59_59, x59_61, x59_62, x59_65, x59_68, x59_69, x59_70, x59_72, x59_74, x59_75, x59_78, x59_81, x59_89, x59_90, x59_93, x59_96, x59_97, x59_99, x59_100, x59_103, x59_106, x59_109, x59_111, x59_114, x59_115, x59_118, x59_121, x59_122, x59_123, x59_125, x59_127, simprocAttr, pj_then_s, pj_pv_s, pj_pi_s, pj_set_s, if_true, if_false, not_true_eq_false, not_false_eq_true, pj_up_up, pj_so110_109, pj_so111_109, pj_so112_109, pj_so113_109, pj_so114_109, pj_so115_109, pj_so116_109, pj_so117_109, pj_so111_110, pj_so112_110, pj_so113_110, pj_so114_110, pj_so115_110, pj_so116_110, pj_so117_110, pj_so112_111, pj_so113_111, pj_so114_111, pj_so115_111, pj_so116_111, pj_so117_111, pj_so113_112, pj_so114_112, pj_so115_112, pj_so116_112, pj_so117_112, pj_so114_113, pj_so115_113, pj_so116_113, pj_so117_113, pj_so115_114, pj_so116_114, pj_so117_114, pj_so116_115, pj_so117_115, pj_so117_116, pj_up_ap, pj_upd_ap, pj_a3_0, pj_a3_1, pj_a3_2, pj_a3_u0, pj_a3_u1, pj_a3_u2, pj_f5_0, pj_f4_1, pj_arl_i, pj_f4_2, pj_f4_7, pj_f4_3, pj_f4_10, pj_f4_4, w0, w1, w2, w3, w4]
  exact t59_129
theorem c_stage_0 (hx : pj_In x) (hC : pj_C H x) : pj_Ends 7 (0, [some (.ref 4), some (.int 0), some (.int w)], [], (N, S, H)) (some (.int (op_stage x.1 0 w)), (N, S, H)) := by
  obtain ⟨t, ht, hR⟩ := hx.1
  obtain ⟨-, -, -, -, rv, -⟩ := hR
  have bv : pj_b3 (x.1 26) (x.1 27) (x.1 28) := ⟨rv 0 (by decide), rv 1 (by decide), rv 2 (by decide)⟩
  obtain ⟨hu, hu1, hu2, hu3, hu4, hu5, hu6, hu7, hu8⟩ := hC.2.2.1
  have hV := hC.2.1
  have hx5 : pj_uc 5 x.1 = .inl (4, [.ref 6, .ref 7, .ref 8, .ref 9, .ref 10, .ref 11, .ref 12, .int (sp_vot x.1), .int (pj_pk (x.1 26) (x.1 27) (x.1 28)), .int (x.1 7), .int (x.1 6)]) := rfl
  unfold op_stage
  rw [show sp_th 0 = 1 from by decide, if_neg (by decide : ¬ (1 : Int32) = 0), show (0 : Int32).toNatClampNeg = 0 from rfl]
  by_cases w0 : w = 0
  · subst w0
    rw [if_pos rfl]
    simp (disch := first | assumption | exact pj_long_i | exact pj_long_r | exact pj_long_n | decide) only [x7_0, x7_1, x7_4, x7_5, x7_6, x7_9, x7_11, x7_12, x7_40, x7_41, x7_44, x7_47, x7_48, simprocAttr, pj_then_s, pj_pv_s, pj_pi_s, pj_set_s, if_true, if_false, not_true_eq_false, not_false_eq_true, pj_up_up, pj_so110_109, pj_so111_109, pj_so112_109, pj_so113_109, pj_so114_109, pj_so115_109, pj_so116_109, pj_so117_109, pj_so111_110, pj_so112_110, pj_so113_110, pj_so114_110, pj_so115_110, pj_so116_110, pj_so117_110, pj_so112_111, pj_so113_111, pj_so114_111, pj_so115_111, pj_so116_111, pj_so117_111, pj_so113_112, pj_so114_112, pj_so115_112, pj_so116_112, pj_so117_112, pj_so114_113, pj_so115_113, pj_so116_113, pj_so117_113, pj_so115_114, pj_so116_114, pj_so117_114, pj_so116_115, pj_so117_115, pj_so117_116, pj_up_ap, pj_upd_ap, pj_a3_0, pj_a3_1, pj_a3_2, pj_a3_u0, pj_a3_u1, pj_a3_u2, pj_f5_0, pj_f4_5, pj_arl_i, hV, pj_vc, hu, hx5, hu6]
    exact t7_49
  rw [if_neg w0]
  by_cases w1 : w = 1
  · subst w1
    rw [if_pos rfl]
    simp (disch := first | assumption | exact pj_long_i | exact pj_long_r | exact pj_long_n | decide) only [x7_0, x7_1, x7_4, x7_5, x7_6, x7_9, x7_11, x7_12, x7_40, x7_41, x7_44, x7_47, x7_48, x7_50, x7_51, x7_54, x7_57, simprocAttr, pj_then_s, pj_pv_s, pj_pi_s, pj_set_s, if_true, if_false, not_true_eq_false, not_false_eq_true, pj_up_up, pj_so110_109, pj_so111_109, pj_so112_109, pj_so113_109, pj_so114_109, pj_so115_109, pj_so116_109, pj_so117_109, pj_so111_110, pj_so112_110, pj_so113_110, pj_so114_110, pj_so115_110, pj_so116_110, pj_so117_110, pj_so112_111, pj_so113_111, pj_so114_111, pj_so115_111, pj_so116_111, pj_so117_111, pj_so113_112, pj_so114_112, pj_so115_112, pj_so116_112, pj_so117_112, pj_so114_113, pj_so115_113, pj_so116_113, pj_so117_113, pj_so115_114, pj_so116_114, pj_so117_114, pj_so116_115, pj_so117_115, pj_so117_116, pj_up_ap, pj_upd_ap, pj_a3_0, pj_a3_1, pj_a3_2, pj_a3_u0, pj_a3_u1, pj_a3_u2, pj_f5_0, pj_f4_5, pj_arl_i, pj_f4_8, hV, pj_vc, hu, hx5]
    refine e7_58 rfl (c_has_0 bv) ?_
    refine e7_61 rfl (c_asNumber (rv 0 (by decide))) ?_
    exact t7_64
  rw [if_neg w1]
  simp (disch := first | assumption | exact pj_long_i | exact pj_long_r | exact pj_long_n | decide) only [x7_0, x7_1, x7_4, x7_5, x7_6, x7_9, x7_11, x7_12, x7_40, x7_41, x7_44, x7_47, x7_48, x7_50, x7_51, x7_54, x7_57, x7_65, simprocAttr, pj_then_s, pj_pv_s, pj_pi_s, pj_set_s, if_true, if_false, not_true_eq_false, not_false_eq_true, pj_up_up, pj_so110_109, pj_so111_109, pj_so112_109, pj_so113_109, pj_so114_109, pj_so115_109, pj_so116_109, pj_so117_109, pj_so111_110, pj_so112_110, pj_so113_110, pj_so114_110, pj_so115_110, pj_so116_110, pj_so117_110, pj_so112_111, pj_so113_111, pj_so114_111, pj_so115_111, pj_so116_111, pj_so117_111, pj_so113_112, pj_so114_112, pj_so115_112, pj_so116_112, pj_so117_112, pj_so114_113, pj_so115_113, pj_so116_113, pj_so117_113, pj_so115_114, pj_so116_114, pj_so117_114, pj_so116_115, pj_so117_115, pj_so117_116, pj_up_ap, pj_upd_ap, pj_a3_0, pj_a3_1, pj_a3_2, pj_a3_u0, pj_a3_u1, pj_a3_u2, pj_f5_0, pj_f4_5, pj_arl_i, pj_f4_8, w0, w1]
  exact t7_67
theorem c_sensor_1 (hx : pj_In x) (hC : pj_C H x) : pj_Ends 59 (0, [some (.ref 4), some (.int 1), some (.int w)], [], (N, S, H)) (some (.int (op_sensor x.1 1 w)), (N, S, H)) := by
  obtain ⟨t, ht, hR⟩ := hx.1
  obtain ⟨-, -, -, rv, -⟩ := hR
  have bv : pj_b3 (x.1 14) (x.1 15) (x.1 16) := ⟨rv 0 (by decide), rv 1 (by decide), rv 2 (by decide)⟩
  obtain ⟨hu, hu1, hu2, hu3, hu4, hu5, hu6, hu7, hu8⟩ := hC.2.2.1
  have hV := hC.2.1
  have hx5 : pj_uc 5 x.1 = .inl (4, [.ref 6, .ref 7, .ref 8, .ref 9, .ref 10, .ref 11, .ref 12, .int (pj_pk (x.1 14) (x.1 15) (x.1 16)), .int (sp_bar x.1), .int (x.1 7), .int (x.1 6)]) := rfl
  unfold op_sensor
  rw [show sp_th 1 = 1 from by decide, if_neg (by decide : ¬ (1 : Int32) = 0), show (1 : Int32).toNatClampNeg = 1 from rfl]
  by_cases w0 : w = 0
  · subst w0
    rw [if_pos rfl]
    simp (disch := first | assumption | exact pj_long_i | exact pj_long_r | exact pj_long_n | decide) only [x59_0, x59_1, x59_4, x59_5, x59_6, x59_9, x59_11, x59_12, x59_48, x59_49, x59_52, x59_55, x59_56, x59_57, x59_59, simprocAttr, pj_then_s, pj_pv_s, pj_pi_s, pj_set_s, if_true, if_false, not_true_eq_false, not_false_eq_true, pj_up_up, pj_so110_109, pj_so111_109, pj_so112_109, pj_so113_109, pj_so114_109, pj_so115_109, pj_so116_109, pj_so117_109, pj_so111_110, pj_so112_110, pj_so113_110, pj_so114_110, pj_so115_110, pj_so116_110, pj_so117_110, pj_so112_111, pj_so113_111, pj_so114_111, pj_so115_111, pj_so116_111, pj_so117_111, pj_so113_112, pj_so114_112, pj_so115_112, pj_so116_112, pj_so117_112, pj_so114_113, pj_so115_113, pj_so116_113, pj_so117_113, pj_so115_114, pj_so116_114, pj_so117_114, pj_so116_115, pj_so117_115, pj_so117_116, pj_up_ap, pj_upd_ap, pj_a3_0, pj_a3_1, pj_a3_2, pj_a3_u0, pj_a3_u1, pj_a3_u2, pj_f5_0, pj_f4_1, pj_arl_i, hV, pj_vc, hu, hx5, hu2]
    exact t59_60
  rw [if_neg w0]
  by_cases w1 : w = 1
  · subst w1
    rw [if_pos rfl]
    simp (disch := first | assumption | exact pj_long_i | exact pj_long_r | exact pj_long_n | decide) only [x59_0, x59_1, x59_4, x59_5, x59_6, x59_9, x59_11, x59_12, x59_48, x59_49, x59_52, x59_55, x59_56, x59_57, x59_59, x59_61, x59_62, x59_65, x59_68, x59_69, x59_70, x59_72, simprocAttr, pj_then_s, pj_pv_s, pj_pi_s, pj_set_s, if_true, if_false, not_true_eq_false, not_false_eq_true, pj_up_up, pj_so110_109, pj_so111_109, pj_so112_109, pj_so113_109, pj_so114_109, pj_so115_109, pj_so116_109, pj_so117_109, pj_so111_110, pj_so112_110, pj_so113_110, pj_so114_110, pj_so115_110, pj_so116_110, pj_so117_110, pj_so112_111, pj_so113_111, pj_so114_111, pj_so115_111, pj_so116_111, pj_so117_111, pj_so113_112, pj_so114_112, pj_so115_112, pj_so116_112, pj_so117_112, pj_so114_113, pj_so115_113, pj_so116_113, pj_so117_113, pj_so115_114, pj_so116_114, pj_so117_114, pj_so116_115, pj_so117_115, pj_so117_116, pj_up_ap, pj_upd_ap, pj_a3_0, pj_a3_1, pj_a3_2, pj_a3_u0, pj_a3_u1, pj_a3_u2, pj_f5_0, pj_f4_1, pj_arl_i, pj_f4_2, hV, pj_vc, hu, hx5, hu3]
    exact t59_73
  rw [if_neg w1]
  by_cases w2 : w = 2
  · subst w2
    rw [if_pos rfl]
    simp (disch := first | assumption | exact pj_long_i | exact pj_long_r | exact pj_long_n | decide) only [x59_0, x59_1, x59_4, x59_5, x59_6, x59_9, x59_11, x59_12, x59_48, x59_49, x59_52, x59_55, x59_56, x59_57, x59_59, x59_61, x59_62, x59_65, x59_68, x59_69, x59_70, x59_72, x59_74, x59_75, x59_78, x59_81, simprocAttr, pj_then_s, pj_pv_s, pj_pi_s, pj_set_s, if_true, if_false, not_true_eq_false, not_false_eq_true, pj_up_up, pj_so110_109, pj_so111_109, pj_so112_109, pj_so113_109, pj_so114_109, pj_so115_109, pj_so116_109, pj_so117_109, pj_so111_110, pj_so112_110, pj_so113_110, pj_so114_110, pj_so115_110, pj_so116_110, pj_so117_110, pj_so112_111, pj_so113_111, pj_so114_111, pj_so115_111, pj_so116_111, pj_so117_111, pj_so113_112, pj_so114_112, pj_so115_112, pj_so116_112, pj_so117_112, pj_so114_113, pj_so115_113, pj_so116_113, pj_so117_113, pj_so115_114, pj_so116_114, pj_so117_114, pj_so116_115, pj_so117_115, pj_so117_116, pj_up_ap, pj_upd_ap, pj_a3_0, pj_a3_1, pj_a3_2, pj_a3_u0, pj_a3_u1, pj_a3_u2, pj_f5_0, pj_f4_1, pj_arl_i, pj_f4_2, pj_f4_7, hV, pj_vc, hu, hx5]
    refine e59_82 rfl (c_has_1 bv) ?_
    refine e59_85 rfl (c_asNumber (rv 1 (by decide))) ?_
    exact t59_88
  rw [if_neg w2]
  by_cases w3 : w = 3
  · subst w3
    rw [if_pos rfl]
    simp (disch := first | assumption | exact pj_long_i | exact pj_long_r | exact pj_long_n | decide) only [x59_0, x59_1, x59_4, x59_5, x59_6, x59_9, x59_11, x59_12, x59_48, x59_49, x59_52, x59_55, x59_56, x59_57, x59_59, x59_61, x59_62, x59_65, x59_68, x59_69, x59_70, x59_72, x59_74, x59_75, x59_78, x59_81, x59_89, x59_90, x59_93, x59_96, x59_97, simprocAttr, pj_then_s, pj_pv_s, pj_pi_s, pj_set_s, if_true, if_false, not_true_eq_false, not_false_eq_true, pj_up_up, pj_so110_109, pj_so111_109, pj_so112_109, pj_so113_109, pj_so114_109, pj_so115_109, pj_so116_109, pj_so117_109, pj_so111_110, pj_so112_110, pj_so113_110, pj_so114_110, pj_so115_110, pj_so116_110, pj_so117_110, pj_so112_111, pj_so113_111, pj_so114_111, pj_so115_111, pj_so116_111, pj_so117_111, pj_so113_112, pj_so114_112, pj_so115_112, pj_so116_112, pj_so117_112, pj_so114_113, pj_so115_113, pj_so116_113, pj_so117_113, pj_so115_114, pj_so116_114, pj_so117_114, pj_so116_115, pj_so117_115, pj_so117_116, pj_up_ap, pj_upd_ap, pj_a3_0, pj_a3_1, pj_a3_2, pj_a3_u0, pj_a3_u1, pj_a3_u2, pj_f5_0, pj_f4_1, pj_arl_i, pj_f4_2, pj_f4_7, pj_f4_3, hV, pj_vc, hu, hx5, hu4]
    exact t59_98
  rw [if_neg w3]
  by_cases w4 : w = 4
  · subst w4
    rw [if_pos rfl]
    by_cases c : x.1 6 = 0
    · rw [if_pos c]
      simp (disch := first | assumption | exact pj_long_i | exact pj_long_r | exact pj_long_n | decide) only [x59_0, x59_1, x59_4, x59_5, x59_6, x59_9, x59_11, x59_12, x59_48, x59_49, x59_52, x59_55, x59_56, x59_57, x59_59, x59_61, x59_62, x59_65, x59_68, x59_69, x59_70, x59_72, x59_74, x59_75, x59_78, x59_81, x59_89, x59_90, x59_93, x59_96, x59_97, x59_99, x59_100, x59_103, x59_106, x59_109, x59_111, simprocAttr, pj_then_s, pj_pv_s, pj_pi_s, pj_set_s, if_true, if_false, not_true_eq_false, not_false_eq_true, pj_up_up, pj_so110_109, pj_so111_109, pj_so112_109, pj_so113_109, pj_so114_109, pj_so115_109, pj_so116_109, pj_so117_109, pj_so111_110, pj_so112_110, pj_so113_110, pj_so114_110, pj_so115_110, pj_so116_110, pj_so117_110, pj_so112_111, pj_so113_111, pj_so114_111, pj_so115_111, pj_so116_111, pj_so117_111, pj_so113_112, pj_so114_112, pj_so115_112, pj_so116_112, pj_so117_112, pj_so114_113, pj_so115_113, pj_so116_113, pj_so117_113, pj_so115_114, pj_so116_114, pj_so117_114, pj_so116_115, pj_so117_115, pj_so117_116, pj_up_ap, pj_upd_ap, pj_a3_0, pj_a3_1, pj_a3_2, pj_a3_u0, pj_a3_u1, pj_a3_u2, pj_f5_0, pj_f4_1, pj_arl_i, pj_f4_2, pj_f4_7, pj_f4_3, pj_f4_10, hV, pj_vc, hu, hx5, c]
      exact t59_126
    · rw [if_neg c]
      simp (disch := first | assumption | exact pj_long_i | exact pj_long_r | exact pj_long_n | decide) only [x59_0, x59_1, x59_4, x59_5, x59_6, x59_9, x59_11, x59_12, x59_48, x59_49, x59_52, x59_55, x59_56, x59_57, x59_59, x59_61, x59_62, x59_65, x59_68, x59_69, x59_70, x59_72, x59_74, x59_75, x59_78, x59_81, x59_89, x59_90, x59_93, x59_96, x59_97, x59_99, x59_100, x59_103, x59_106, x59_109, x59_111, x59_114, x59_115, x59_118, x59_121, x59_122, x59_123, x59_125, simprocAttr, pj_then_s, pj_pv_s, pj_pi_s, pj_set_s, if_true, if_false, not_true_eq_false, not_false_eq_true, pj_up_up, pj_so110_109, pj_so111_109, pj_so112_109, pj_so113_109, pj_so114_109, pj_so115_109, pj_so116_109, pj_so117_109, pj_so111_110, pj_so112_110, pj_so113_110, pj_so114_110, pj_so115_110, pj_so116_110, pj_so117_110, pj_so112_111, pj_so113_111, pj_so114_111, pj_so115_111, pj_so116_111, pj_so117_111, pj_so113_112, pj_so114_112, pj_so115_112, pj_so116_112, pj_so117_112, pj_so114_113, pj_so115_113, pj_so116_113, pj_so117_113, pj_so115_114, pj_so116_114, pj_so117_114, pj_so116_115, pj_so117_115, pj_so117_116, pj_up_ap, pj_upd_ap, pj_a3_0, pj_a3_1, pj_a3_2, pj_a3_u0, pj_a3_u1, pj_a3_u2, pj_f5_0, pj_f4_1, pj_arl_i, pj_f4_2, pj_f4_7, pj_f4_3, pj_f4_10, pj_f4_4, hV, pj_vc, hu, hx5, hu5, c]
      exact t59_126
  rw [if_neg w4]
  simp (disch := first | assumption | exact pj_long_i | exact pj_long_r | exact pj_long_n | decide) only [x59_0, x59_1, x59_4, x59_5, x59_6, x59_9, x59_11, x59_12, x59_48, x59_49, x59_52, x59_55, x59_56, x59_57, x59_59, x59_61, x59_62, x59_65, x59_68, x59_69, x59_70, x59_72, x59_74, x59_75, x59_78, x59_81, x59_89, x59_90, x59_93, x59_96, x59_97, x59_99, x59_100, x59_103, x59_106, x59_109, x59_111, x59_114, x59_115, x59_118, x59_121, x59_122, x59_123, x59_125, x59_127, simprocAttr, pj_then_s, pj_pv_s, pj_pi_s, pj_set_s, if_true, if_false, not_true_eq_false, not_false_eq_true, pj_up_up, pj_so110_109, pj_so111_109, pj_so112_109, pj_so113_109, pj_so114_109, pj_so115_109, pj_so116_109, pj_so117_109, pj_so111_110, pj_so112_110, pj_so113_110, pj_so114_110, pj_so115_110, pj_so116_110, pj_so117_110, pj_so112_111, pj_so113_111, pj_so114_111, pj_so115_111, pj_so116_111, pj_so117_111, pj_so113_112, pj_so114_112, pj_so115_112, pj_so116_112, pj_so117_112, pj_so114_113, pj_so115_113, pj_so116_113, pj_so117_113, pj_so115_114, pj_so116_114, pj_so117_114, pj_so116_115, pj_so117_115, pj_so117_116, pj_up_ap, pj_upd_ap, pj_a3_0, pj_a3_1, pj_a3_2, pj_a3_u0, pj_a3_u1, pj_a3_u2, pj_f5_0, pj_f4_1, pj_arl_i, pj_f4_2, pj_f4_7, pj_f4_3, pj_f4_10, pj_f4_4, w0, w1, w2, w3, w4]
  exact t59_129
theorem c_stage_1 (hx : pj_In x) (hC : pj_C H x) : pj_Ends 7 (0, [some (.ref 4), some (.int 1), some (.int w)], [], (N, S, H)) (some (.int (op_stage x.1 1 w)), (N, S, H)) := by
  obtain ⟨t, ht, hR⟩ := hx.1
  obtain ⟨-, -, -, -, rv, -⟩ := hR
  have bv : pj_b3 (x.1 26) (x.1 27) (x.1 28) := ⟨rv 0 (by decide), rv 1 (by decide), rv 2 (by decide)⟩
  obtain ⟨hu, hu1, hu2, hu3, hu4, hu5, hu6, hu7, hu8⟩ := hC.2.2.1
  have hV := hC.2.1
  have hx5 : pj_uc 5 x.1 = .inl (4, [.ref 6, .ref 7, .ref 8, .ref 9, .ref 10, .ref 11, .ref 12, .int (sp_vot x.1), .int (pj_pk (x.1 26) (x.1 27) (x.1 28)), .int (x.1 7), .int (x.1 6)]) := rfl
  unfold op_stage
  rw [show sp_th 1 = 1 from by decide, if_neg (by decide : ¬ (1 : Int32) = 0), show (1 : Int32).toNatClampNeg = 1 from rfl]
  by_cases w0 : w = 0
  · subst w0
    rw [if_pos rfl]
    simp (disch := first | assumption | exact pj_long_i | exact pj_long_r | exact pj_long_n | decide) only [x7_0, x7_1, x7_4, x7_5, x7_6, x7_9, x7_11, x7_12, x7_40, x7_41, x7_44, x7_47, x7_48, simprocAttr, pj_then_s, pj_pv_s, pj_pi_s, pj_set_s, if_true, if_false, not_true_eq_false, not_false_eq_true, pj_up_up, pj_so110_109, pj_so111_109, pj_so112_109, pj_so113_109, pj_so114_109, pj_so115_109, pj_so116_109, pj_so117_109, pj_so111_110, pj_so112_110, pj_so113_110, pj_so114_110, pj_so115_110, pj_so116_110, pj_so117_110, pj_so112_111, pj_so113_111, pj_so114_111, pj_so115_111, pj_so116_111, pj_so117_111, pj_so113_112, pj_so114_112, pj_so115_112, pj_so116_112, pj_so117_112, pj_so114_113, pj_so115_113, pj_so116_113, pj_so117_113, pj_so115_114, pj_so116_114, pj_so117_114, pj_so116_115, pj_so117_115, pj_so117_116, pj_up_ap, pj_upd_ap, pj_a3_0, pj_a3_1, pj_a3_2, pj_a3_u0, pj_a3_u1, pj_a3_u2, pj_f5_0, pj_f4_5, pj_arl_i, hV, pj_vc, hu, hx5, hu6]
    exact t7_49
  rw [if_neg w0]
  by_cases w1 : w = 1
  · subst w1
    rw [if_pos rfl]
    simp (disch := first | assumption | exact pj_long_i | exact pj_long_r | exact pj_long_n | decide) only [x7_0, x7_1, x7_4, x7_5, x7_6, x7_9, x7_11, x7_12, x7_40, x7_41, x7_44, x7_47, x7_48, x7_50, x7_51, x7_54, x7_57, simprocAttr, pj_then_s, pj_pv_s, pj_pi_s, pj_set_s, if_true, if_false, not_true_eq_false, not_false_eq_true, pj_up_up, pj_so110_109, pj_so111_109, pj_so112_109, pj_so113_109, pj_so114_109, pj_so115_109, pj_so116_109, pj_so117_109, pj_so111_110, pj_so112_110, pj_so113_110, pj_so114_110, pj_so115_110, pj_so116_110, pj_so117_110, pj_so112_111, pj_so113_111, pj_so114_111, pj_so115_111, pj_so116_111, pj_so117_111, pj_so113_112, pj_so114_112, pj_so115_112, pj_so116_112, pj_so117_112, pj_so114_113, pj_so115_113, pj_so116_113, pj_so117_113, pj_so115_114, pj_so116_114, pj_so117_114, pj_so116_115, pj_so117_115, pj_so117_116, pj_up_ap, pj_upd_ap, pj_a3_0, pj_a3_1, pj_a3_2, pj_a3_u0, pj_a3_u1, pj_a3_u2, pj_f5_0, pj_f4_5, pj_arl_i, pj_f4_8, hV, pj_vc, hu, hx5]
    refine e7_58 rfl (c_has_1 bv) ?_
    refine e7_61 rfl (c_asNumber (rv 1 (by decide))) ?_
    exact t7_64
  rw [if_neg w1]
  simp (disch := first | assumption | exact pj_long_i | exact pj_long_r | exact pj_long_n | decide) only [x7_0, x7_1, x7_4, x7_5, x7_6, x7_9, x7_11, x7_12, x7_40, x7_41, x7_44, x7_47, x7_48, x7_50, x7_51, x7_54, x7_57, x7_65, simprocAttr, pj_then_s, pj_pv_s, pj_pi_s, pj_set_s, if_true, if_false, not_true_eq_false, not_false_eq_true, pj_up_up, pj_so110_109, pj_so111_109, pj_so112_109, pj_so113_109, pj_so114_109, pj_so115_109, pj_so116_109, pj_so117_109, pj_so111_110, pj_so112_110, pj_so113_110, pj_so114_110, pj_so115_110, pj_so116_110, pj_so117_110, pj_so112_111, pj_so113_111, pj_so114_111, pj_so115_111, pj_so116_111, pj_so117_111, pj_so113_112, pj_so114_112, pj_so115_112, pj_so116_112, pj_so117_112, pj_so114_113, pj_so115_113, pj_so116_113, pj_so117_113, pj_so115_114, pj_so116_114, pj_so117_114, pj_so116_115, pj_so117_115, pj_so117_116, pj_up_ap, pj_upd_ap, pj_a3_0, pj_a3_1, pj_a3_2, pj_a3_u0, pj_a3_u1, pj_a3_u2, pj_f5_0, pj_f4_5, pj_arl_i, pj_f4_8, w0, w1]
  exact t7_67
theorem c_sensor_2 (hx : pj_In x) (hC : pj_C H x) : pj_Ends 59 (0, [some (.ref 4), some (.int 2), some (.int w)], [], (N, S, H)) (some (.int (op_sensor x.1 2 w)), (N, S, H)) := by
  obtain ⟨t, ht, hR⟩ := hx.1
  obtain ⟨-, -, -, rv, -⟩ := hR
  have bv : pj_b3 (x.1 14) (x.1 15) (x.1 16) := ⟨rv 0 (by decide), rv 1 (by decide), rv 2 (by decide)⟩
  obtain ⟨hu, hu1, hu2, hu3, hu4, hu5, hu6, hu7, hu8⟩ := hC.2.2.1
  have hV := hC.2.1
  have hx5 : pj_uc 5 x.1 = .inl (4, [.ref 6, .ref 7, .ref 8, .ref 9, .ref 10, .ref 11, .ref 12, .int (pj_pk (x.1 14) (x.1 15) (x.1 16)), .int (sp_bar x.1), .int (x.1 7), .int (x.1 6)]) := rfl
  unfold op_sensor
  rw [show sp_th 2 = 1 from by decide, if_neg (by decide : ¬ (1 : Int32) = 0), show (2 : Int32).toNatClampNeg = 2 from rfl]
  by_cases w0 : w = 0
  · subst w0
    rw [if_pos rfl]
    simp (disch := first | assumption | exact pj_long_i | exact pj_long_r | exact pj_long_n | decide) only [x59_0, x59_1, x59_4, x59_5, x59_6, x59_9, x59_11, x59_12, x59_48, x59_49, x59_52, x59_55, x59_56, x59_57, x59_59, simprocAttr, pj_then_s, pj_pv_s, pj_pi_s, pj_set_s, if_true, if_false, not_true_eq_false, not_false_eq_true, pj_up_up, pj_so110_109, pj_so111_109, pj_so112_109, pj_so113_109, pj_so114_109, pj_so115_109, pj_so116_109, pj_so117_109, pj_so111_110, pj_so112_110, pj_so113_110, pj_so114_110, pj_so115_110, pj_so116_110, pj_so117_110, pj_so112_111, pj_so113_111, pj_so114_111, pj_so115_111, pj_so116_111, pj_so117_111, pj_so113_112, pj_so114_112, pj_so115_112, pj_so116_112, pj_so117_112, pj_so114_113, pj_so115_113, pj_so116_113, pj_so117_113, pj_so115_114, pj_so116_114, pj_so117_114, pj_so116_115, pj_so117_115, pj_so117_116, pj_up_ap, pj_upd_ap, pj_a3_0, pj_a3_1, pj_a3_2, pj_a3_u0, pj_a3_u1, pj_a3_u2, pj_f5_0, pj_f4_1, pj_arl_i, hV, pj_vc, hu, hx5, hu2]
    exact t59_60
  rw [if_neg w0]
  by_cases w1 : w = 1
  · subst w1
    rw [if_pos rfl]
    simp (disch := first | assumption | exact pj_long_i | exact pj_long_r | exact pj_long_n | decide) only [x59_0, x59_1, x59_4, x59_5, x59_6, x59_9, x59_11, x59_12, x59_48, x59_49, x59_52, x59_55, x59_56, x59_57, x59_59, x59_61, x59_62, x59_65, x59_68, x59_69, x59_70, x59_72, simprocAttr, pj_then_s, pj_pv_s, pj_pi_s, pj_set_s, if_true, if_false, not_true_eq_false, not_false_eq_true, pj_up_up, pj_so110_109, pj_so111_109, pj_so112_109, pj_so113_109, pj_so114_109, pj_so115_109, pj_so116_109, pj_so117_109, pj_so111_110, pj_so112_110, pj_so113_110, pj_so114_110, pj_so115_110, pj_so116_110, pj_so117_110, pj_so112_111, pj_so113_111, pj_so114_111, pj_so115_111, pj_so116_111, pj_so117_111, pj_so113_112, pj_so114_112, pj_so115_112, pj_so116_112, pj_so117_112, pj_so114_113, pj_so115_113, pj_so116_113, pj_so117_113, pj_so115_114, pj_so116_114, pj_so117_114, pj_so116_115, pj_so117_115, pj_so117_116, pj_up_ap, pj_upd_ap, pj_a3_0, pj_a3_1, pj_a3_2, pj_a3_u0, pj_a3_u1, pj_a3_u2, pj_f5_0, pj_f4_1, pj_arl_i, pj_f4_2, hV, pj_vc, hu, hx5, hu3]
    exact t59_73
  rw [if_neg w1]
  by_cases w2 : w = 2
  · subst w2
    rw [if_pos rfl]
    simp (disch := first | assumption | exact pj_long_i | exact pj_long_r | exact pj_long_n | decide) only [x59_0, x59_1, x59_4, x59_5, x59_6, x59_9, x59_11, x59_12, x59_48, x59_49, x59_52, x59_55, x59_56, x59_57, x59_59, x59_61, x59_62, x59_65, x59_68, x59_69, x59_70, x59_72, x59_74, x59_75, x59_78, x59_81, simprocAttr, pj_then_s, pj_pv_s, pj_pi_s, pj_set_s, if_true, if_false, not_true_eq_false, not_false_eq_true, pj_up_up, pj_so110_109, pj_so111_109, pj_so112_109, pj_so113_109, pj_so114_109, pj_so115_109, pj_so116_109, pj_so117_109, pj_so111_110, pj_so112_110, pj_so113_110, pj_so114_110, pj_so115_110, pj_so116_110, pj_so117_110, pj_so112_111, pj_so113_111, pj_so114_111, pj_so115_111, pj_so116_111, pj_so117_111, pj_so113_112, pj_so114_112, pj_so115_112, pj_so116_112, pj_so117_112, pj_so114_113, pj_so115_113, pj_so116_113, pj_so117_113, pj_so115_114, pj_so116_114, pj_so117_114, pj_so116_115, pj_so117_115, pj_so117_116, pj_up_ap, pj_upd_ap, pj_a3_0, pj_a3_1, pj_a3_2, pj_a3_u0, pj_a3_u1, pj_a3_u2, pj_f5_0, pj_f4_1, pj_arl_i, pj_f4_2, pj_f4_7, hV, pj_vc, hu, hx5]
    refine e59_82 rfl (c_has_2 bv) ?_
    refine e59_85 rfl (c_asNumber (rv 2 (by decide))) ?_
    exact t59_88
  rw [if_neg w2]
  by_cases w3 : w = 3
  · subst w3
    rw [if_pos rfl]
    simp (disch := first | assumption | exact pj_long_i | exact pj_long_r | exact pj_long_n | decide) only [x59_0, x59_1, x59_4, x59_5, x59_6, x59_9, x59_11, x59_12, x59_48, x59_49, x59_52, x59_55, x59_56, x59_57, x59_59, x59_61, x59_62, x59_65, x59_68, x59_69, x59_70, x59_72, x59_74, x59_75, x59_78, x59_81, x59_89, x59_90, x59_93, x59_96, x59_97, simprocAttr, pj_then_s, pj_pv_s, pj_pi_s, pj_set_s, if_true, if_false, not_true_eq_false, not_false_eq_true, pj_up_up, pj_so110_109, pj_so111_109, pj_so112_109, pj_so113_109, pj_so114_109, pj_so115_109, pj_so116_109, pj_so117_109, pj_so111_110, pj_so112_110, pj_so113_110, pj_so114_110, pj_so115_110, pj_so116_110, pj_so117_110, pj_so112_111, pj_so113_111, pj_so114_111, pj_so115_111, pj_so116_111, pj_so117_111, pj_so113_112, pj_so114_112, pj_so115_112, pj_so116_112, pj_so117_112, pj_so114_113, pj_so115_113, pj_so116_113, pj_so117_113, pj_so115_114, pj_so116_114, pj_so117_114, pj_so116_115, pj_so117_115, pj_so117_116, pj_up_ap, pj_upd_ap, pj_a3_0, pj_a3_1, pj_a3_2, pj_a3_u0, pj_a3_u1, pj_a3_u2, pj_f5_0, pj_f4_1, pj_arl_i, pj_f4_2, pj_f4_7, pj_f4_3, hV, pj_vc, hu, hx5, hu4]
    exact t59_98
  rw [if_neg w3]
  by_cases w4 : w = 4
  · subst w4
    rw [if_pos rfl]
    by_cases c : x.1 6 = 0
    · rw [if_pos c]
      simp (disch := first | assumption | exact pj_long_i | exact pj_long_r | exact pj_long_n | decide) only [x59_0, x59_1, x59_4, x59_5, x59_6, x59_9, x59_11, x59_12, x59_48, x59_49, x59_52, x59_55, x59_56, x59_57, x59_59, x59_61, x59_62, x59_65, x59_68, x59_69, x59_70, x59_72, x59_74, x59_75, x59_78, x59_81, x59_89, x59_90, x59_93, x59_96, x59_97, x59_99, x59_100, x59_103, x59_106, x59_109, x59_111, simprocAttr, pj_then_s, pj_pv_s, pj_pi_s, pj_set_s, if_true, if_false, not_true_eq_false, not_false_eq_true, pj_up_up, pj_so110_109, pj_so111_109, pj_so112_109, pj_so113_109, pj_so114_109, pj_so115_109, pj_so116_109, pj_so117_109, pj_so111_110, pj_so112_110, pj_so113_110, pj_so114_110, pj_so115_110, pj_so116_110, pj_so117_110, pj_so112_111, pj_so113_111, pj_so114_111, pj_so115_111, pj_so116_111, pj_so117_111, pj_so113_112, pj_so114_112, pj_so115_112, pj_so116_112, pj_so117_112, pj_so114_113, pj_so115_113, pj_so116_113, pj_so117_113, pj_so115_114, pj_so116_114, pj_so117_114, pj_so116_115, pj_so117_115, pj_so117_116, pj_up_ap, pj_upd_ap, pj_a3_0, pj_a3_1, pj_a3_2, pj_a3_u0, pj_a3_u1, pj_a3_u2, pj_f5_0, pj_f4_1, pj_arl_i, pj_f4_2, pj_f4_7, pj_f4_3, pj_f4_10, hV, pj_vc, hu, hx5, c]
      exact t59_126
    · rw [if_neg c]
      simp (disch := first | assumption | exact pj_long_i | exact pj_long_r | exact pj_long_n | decide) only [x59_0, x59_1, x59_4, x59_5, x59_6, x59_9, x59_11, x59_12, x59_48, x59_49, x59_52, x59_55, x59_56, x59_57, x59_59, x59_61, x59_62, x59_65, x59_68, x59_69, x59_70, x59_72, x59_74, x59_75, x59_78, x59_81, x59_89, x59_90, x59_93, x59_96, x59_97, x59_99, x59_100, x59_103, x59_106, x59_109, x59_111, x59_114, x59_115, x59_118, x59_121, x59_122, x59_123, x59_125, simprocAttr, pj_then_s, pj_pv_s, pj_pi_s, pj_set_s, if_true, if_false, not_true_eq_false, not_false_eq_true, pj_up_up, pj_so110_109, pj_so111_109, pj_so112_109, pj_so113_109, pj_so114_109, pj_so115_109, pj_so116_109, pj_so117_109, pj_so111_110, pj_so112_110, pj_so113_110, pj_so114_110, pj_so115_110, pj_so116_110, pj_so117_110, pj_so112_111, pj_so113_111, pj_so114_111, pj_so115_111, pj_so116_111, pj_so117_111, pj_so113_112, pj_so114_112, pj_so115_112, pj_so116_112, pj_so117_112, pj_so114_113, pj_so115_113, pj_so116_113, pj_so117_113, pj_so115_114, pj_so116_114, pj_so117_114, pj_so116_115, pj_so117_115, pj_so117_116, pj_up_ap, pj_upd_ap, pj_a3_0, pj_a3_1, pj_a3_2, pj_a3_u0, pj_a3_u1, pj_a3_u2, pj_f5_0, pj_f4_1, pj_arl_i, pj_f4_2, pj_f4_7, pj_f4_3, pj_f4_10, pj_f4_4, hV, pj_vc, hu, hx5, hu5, c]
      exact t59_126
  rw [if_neg w4]
  simp (disch := first | assumption | exact pj_long_i | exact pj_long_r | exact pj_long_n | decide) only [x59_0, x59_1, x59_4, x59_5, x59_6, x59_9, x59_11, x59_12, x59_48, x59_49, x59_52, x59_55, x59_56, x59_57, x59_59, x59_61, x59_62, x59_65, x59_68, x59_69, x59_70, x59_72, x59_74, x59_75, x59_78, x59_81, x59_89, x59_90, x59_93, x59_96, x59_97, x59_99, x59_100, x59_103, x59_106, x59_109, x59_111, x59_114, x59_115, x59_118, x59_121, x59_122, x59_123, x59_125, x59_127, simprocAttr, pj_then_s, pj_pv_s, pj_pi_s, pj_set_s, if_true, if_false, not_true_eq_false, not_false_eq_true, pj_up_up, pj_so110_109, pj_so111_109, pj_so112_109, pj_so113_109, pj_so114_109, pj_so115_109, pj_so116_109, pj_so117_109, pj_so111_110, pj_so112_110, pj_so113_110, pj_so114_110, pj_so115_110, pj_so116_110, pj_so117_110, pj_so112_111, pj_so113_111, pj_so114_111, pj_so115_111, pj_so116_111, pj_so117_111, pj_so113_112, pj_so114_112, pj_so115_112, pj_so116_112, pj_so117_112, pj_so114_113, pj_so115_113, pj_so116_113, pj_so117_113, pj_so115_114, pj_so116_114, pj_so117_114, pj_so116_115, pj_so117_115, pj_so117_116, pj_up_ap, pj_upd_ap, pj_a3_0, pj_a3_1, pj_a3_2, pj_a3_u0, pj_a3_u1, pj_a3_u2, pj_f5_0, pj_f4_1, pj_arl_i, pj_f4_2, pj_f4_7, pj_f4_3, pj_f4_10, pj_f4_4, w0, w1, w2, w3, w4]
  exact t59_129
theorem c_stage_2 (hx : pj_In x) (hC : pj_C H x) : pj_Ends 7 (0, [some (.ref 4), some (.int 2), some (.int w)], [], (N, S, H)) (some (.int (op_stage x.1 2 w)), (N, S, H)) := by
  obtain ⟨t, ht, hR⟩ := hx.1
  obtain ⟨-, -, -, -, rv, -⟩ := hR
  have bv : pj_b3 (x.1 26) (x.1 27) (x.1 28) := ⟨rv 0 (by decide), rv 1 (by decide), rv 2 (by decide)⟩
  obtain ⟨hu, hu1, hu2, hu3, hu4, hu5, hu6, hu7, hu8⟩ := hC.2.2.1
  have hV := hC.2.1
  have hx5 : pj_uc 5 x.1 = .inl (4, [.ref 6, .ref 7, .ref 8, .ref 9, .ref 10, .ref 11, .ref 12, .int (sp_vot x.1), .int (pj_pk (x.1 26) (x.1 27) (x.1 28)), .int (x.1 7), .int (x.1 6)]) := rfl
  unfold op_stage
  rw [show sp_th 2 = 1 from by decide, if_neg (by decide : ¬ (1 : Int32) = 0), show (2 : Int32).toNatClampNeg = 2 from rfl]
  by_cases w0 : w = 0
  · subst w0
    rw [if_pos rfl]
    simp (disch := first | assumption | exact pj_long_i | exact pj_long_r | exact pj_long_n | decide) only [x7_0, x7_1, x7_4, x7_5, x7_6, x7_9, x7_11, x7_12, x7_40, x7_41, x7_44, x7_47, x7_48, simprocAttr, pj_then_s, pj_pv_s, pj_pi_s, pj_set_s, if_true, if_false, not_true_eq_false, not_false_eq_true, pj_up_up, pj_so110_109, pj_so111_109, pj_so112_109, pj_so113_109, pj_so114_109, pj_so115_109, pj_so116_109, pj_so117_109, pj_so111_110, pj_so112_110, pj_so113_110, pj_so114_110, pj_so115_110, pj_so116_110, pj_so117_110, pj_so112_111, pj_so113_111, pj_so114_111, pj_so115_111, pj_so116_111, pj_so117_111, pj_so113_112, pj_so114_112, pj_so115_112, pj_so116_112, pj_so117_112, pj_so114_113, pj_so115_113, pj_so116_113, pj_so117_113, pj_so115_114, pj_so116_114, pj_so117_114, pj_so116_115, pj_so117_115, pj_so117_116, pj_up_ap, pj_upd_ap, pj_a3_0, pj_a3_1, pj_a3_2, pj_a3_u0, pj_a3_u1, pj_a3_u2, pj_f5_0, pj_f4_5, pj_arl_i, hV, pj_vc, hu, hx5, hu6]
    exact t7_49
  rw [if_neg w0]
  by_cases w1 : w = 1
  · subst w1
    rw [if_pos rfl]
    simp (disch := first | assumption | exact pj_long_i | exact pj_long_r | exact pj_long_n | decide) only [x7_0, x7_1, x7_4, x7_5, x7_6, x7_9, x7_11, x7_12, x7_40, x7_41, x7_44, x7_47, x7_48, x7_50, x7_51, x7_54, x7_57, simprocAttr, pj_then_s, pj_pv_s, pj_pi_s, pj_set_s, if_true, if_false, not_true_eq_false, not_false_eq_true, pj_up_up, pj_so110_109, pj_so111_109, pj_so112_109, pj_so113_109, pj_so114_109, pj_so115_109, pj_so116_109, pj_so117_109, pj_so111_110, pj_so112_110, pj_so113_110, pj_so114_110, pj_so115_110, pj_so116_110, pj_so117_110, pj_so112_111, pj_so113_111, pj_so114_111, pj_so115_111, pj_so116_111, pj_so117_111, pj_so113_112, pj_so114_112, pj_so115_112, pj_so116_112, pj_so117_112, pj_so114_113, pj_so115_113, pj_so116_113, pj_so117_113, pj_so115_114, pj_so116_114, pj_so117_114, pj_so116_115, pj_so117_115, pj_so117_116, pj_up_ap, pj_upd_ap, pj_a3_0, pj_a3_1, pj_a3_2, pj_a3_u0, pj_a3_u1, pj_a3_u2, pj_f5_0, pj_f4_5, pj_arl_i, pj_f4_8, hV, pj_vc, hu, hx5]
    refine e7_58 rfl (c_has_2 bv) ?_
    refine e7_61 rfl (c_asNumber (rv 2 (by decide))) ?_
    exact t7_64
  rw [if_neg w1]
  simp (disch := first | assumption | exact pj_long_i | exact pj_long_r | exact pj_long_n | decide) only [x7_0, x7_1, x7_4, x7_5, x7_6, x7_9, x7_11, x7_12, x7_40, x7_41, x7_44, x7_47, x7_48, x7_50, x7_51, x7_54, x7_57, x7_65, simprocAttr, pj_then_s, pj_pv_s, pj_pi_s, pj_set_s, if_true, if_false, not_true_eq_false, not_false_eq_true, pj_up_up, pj_so110_109, pj_so111_109, pj_so112_109, pj_so113_109, pj_so114_109, pj_so115_109, pj_so116_109, pj_so117_109, pj_so111_110, pj_so112_110, pj_so113_110, pj_so114_110, pj_so115_110, pj_so116_110, pj_so117_110, pj_so112_111, pj_so113_111, pj_so114_111, pj_so115_111, pj_so116_111, pj_so117_111, pj_so113_112, pj_so114_112, pj_so115_112, pj_so116_112, pj_so117_112, pj_so114_113, pj_so115_113, pj_so116_113, pj_so117_113, pj_so115_114, pj_so116_114, pj_so117_114, pj_so116_115, pj_so117_115, pj_so117_116, pj_up_ap, pj_upd_ap, pj_a3_0, pj_a3_1, pj_a3_2, pj_a3_u0, pj_a3_u1, pj_a3_u2, pj_f5_0, pj_f4_5, pj_arl_i, pj_f4_8, w0, w1]
  exact t7_67
theorem C_sensor {a : Int32} (hx : pj_In x) (hC : pj_C H x) : pj_Co N S H 59 [some (.ref 4), some (.int a), some (.int w)] (x, op_sensor x.1 a w) := by
  refine pj_Co_same hC ?_
  by_cases c : sp_th a = 0
  · unfold op_sensor
    rw [if_pos c]
    rcases i32_th c with q | ⟨q, q2⟩
    · simp (disch := first | assumption | exact pj_long_i | exact pj_long_r | exact pj_long_n | decide) only [x59_0, x59_1, x59_4, x59_5, x59_6, x59_9, simprocAttr, pj_then_s, pj_pv_s, pj_pi_s, pj_set_s, if_true, if_false, not_true_eq_false, not_false_eq_true, pj_up_up, pj_so110_109, pj_so111_109, pj_so112_109, pj_so113_109, pj_so114_109, pj_so115_109, pj_so116_109, pj_so117_109, pj_so111_110, pj_so112_110, pj_so113_110, pj_so114_110, pj_so115_110, pj_so116_110, pj_so117_110, pj_so112_111, pj_so113_111, pj_so114_111, pj_so115_111, pj_so116_111, pj_so117_111, pj_so113_112, pj_so114_112, pj_so115_112, pj_so116_112, pj_so117_112, pj_so114_113, pj_so115_113, pj_so116_113, pj_so117_113, pj_so115_114, pj_so116_114, pj_so117_114, pj_so116_115, pj_so117_115, pj_so117_116, pj_up_ap, pj_upd_ap, pj_a3_0, pj_a3_1, pj_a3_2, pj_a3_u0, pj_a3_u1, pj_a3_u2, q]
      exact t59_10
    · simp (disch := first | assumption | exact pj_long_i | exact pj_long_r | exact pj_long_n | decide) only [x59_0, x59_1, x59_4, x59_5, x59_6, x59_9, simprocAttr, pj_then_s, pj_pv_s, pj_pi_s, pj_set_s, if_true, if_false, not_true_eq_false, not_false_eq_true, pj_up_up, pj_so110_109, pj_so111_109, pj_so112_109, pj_so113_109, pj_so114_109, pj_so115_109, pj_so116_109, pj_so117_109, pj_so111_110, pj_so112_110, pj_so113_110, pj_so114_110, pj_so115_110, pj_so116_110, pj_so117_110, pj_so112_111, pj_so113_111, pj_so114_111, pj_so115_111, pj_so116_111, pj_so117_111, pj_so113_112, pj_so114_112, pj_so115_112, pj_so116_112, pj_so117_112, pj_so114_113, pj_so115_113, pj_so116_113, pj_so117_113, pj_so115_114, pj_so116_114, pj_so117_114, pj_so116_115, pj_so117_115, pj_so117_116, pj_up_ap, pj_upd_ap, pj_a3_0, pj_a3_1, pj_a3_2, pj_a3_u0, pj_a3_u1, pj_a3_u2, q, q2]
      exact t59_10
  · rcases sp_th_lt c with e | e | e <;> subst e
    · exact c_sensor_0 hx hC
    · exact c_sensor_1 hx hC
    · exact c_sensor_2 hx hC
theorem C_stage {a : Int32} (hx : pj_In x) (hC : pj_C H x) : pj_Co N S H 7 [some (.ref 4), some (.int a), some (.int w)] (x, op_stage x.1 a w) := by
  refine pj_Co_same hC ?_
  by_cases c : sp_th a = 0
  · unfold op_stage
    rw [if_pos c]
    rcases i32_th c with q | ⟨q, q2⟩
    · simp (disch := first | assumption | exact pj_long_i | exact pj_long_r | exact pj_long_n | decide) only [x7_0, x7_1, x7_4, x7_5, x7_6, x7_9, simprocAttr, pj_then_s, pj_pv_s, pj_pi_s, pj_set_s, if_true, if_false, not_true_eq_false, not_false_eq_true, pj_up_up, pj_so110_109, pj_so111_109, pj_so112_109, pj_so113_109, pj_so114_109, pj_so115_109, pj_so116_109, pj_so117_109, pj_so111_110, pj_so112_110, pj_so113_110, pj_so114_110, pj_so115_110, pj_so116_110, pj_so117_110, pj_so112_111, pj_so113_111, pj_so114_111, pj_so115_111, pj_so116_111, pj_so117_111, pj_so113_112, pj_so114_112, pj_so115_112, pj_so116_112, pj_so117_112, pj_so114_113, pj_so115_113, pj_so116_113, pj_so117_113, pj_so115_114, pj_so116_114, pj_so117_114, pj_so116_115, pj_so117_115, pj_so117_116, pj_up_ap, pj_upd_ap, pj_a3_0, pj_a3_1, pj_a3_2, pj_a3_u0, pj_a3_u1, pj_a3_u2, q]
      exact t7_10
    · simp (disch := first | assumption | exact pj_long_i | exact pj_long_r | exact pj_long_n | decide) only [x7_0, x7_1, x7_4, x7_5, x7_6, x7_9, simprocAttr, pj_then_s, pj_pv_s, pj_pi_s, pj_set_s, if_true, if_false, not_true_eq_false, not_false_eq_true, pj_up_up, pj_so110_109, pj_so111_109, pj_so112_109, pj_so113_109, pj_so114_109, pj_so115_109, pj_so116_109, pj_so117_109, pj_so111_110, pj_so112_110, pj_so113_110, pj_so114_110, pj_so115_110, pj_so116_110, pj_so117_110, pj_so112_111, pj_so113_111, pj_so114_111, pj_so115_111, pj_so116_111, pj_so117_111, pj_so113_112, pj_so114_112, pj_so115_112, pj_so116_112, pj_so117_112, pj_so114_113, pj_so115_113, pj_so116_113, pj_so117_113, pj_so115_114, pj_so116_114, pj_so117_114, pj_so116_115, pj_so117_115, pj_so117_116, pj_up_ap, pj_upd_ap, pj_a3_0, pj_a3_1, pj_a3_2, pj_a3_u0, pj_a3_u1, pj_a3_u2, q, q2]
      exact t7_10
  · rcases sp_th_lt c with e | e | e <;> subst e
    · exact c_stage_0 hx hC
    · exact c_stage_1 hx hC
    · exact c_stage_2 hx hC
theorem C_record {p : Int32} (hx : pj_In x) (hC : pj_C H x) : pj_Co N S H 60 [some (.ref 4), some (.int p), some (.int w)] (x, op_record x.1 p w) := by
  refine pj_Co_same hC ?_
  obtain ⟨t, ht, hR⟩ := hx.1
  obtain ⟨-, ⟨m, hm, r30⟩, -⟩ := hR
  obtain ⟨hu, hu1, hu2, hu3, hu4, hu5, hu6, hu7, hu8⟩ := hC.2.2.1
  have hV := hC.2.1
  have hx5 : pj_uc 5 x.1 = .inl (4, [.ref 6, .ref 7, .ref 8, .ref 9, .ref 10, .ref 11, .ref 12, .int (sp_vot x.1), .int (sp_bar x.1), .int (x.1 7), .int (x.1 6)]) := rfl
  unfold op_record
  by_cases p0 : p < 0
  · rw [if_neg (fun q => Int32.not_le.mpr p0 q.1)]
    simp (disch := first | assumption | exact pj_long_i | exact pj_long_r | exact pj_long_n | decide) only [x60_0, x60_1, x60_4, x60_5, x60_6, x60_9, x60_12, x60_15, x60_18, simprocAttr, pj_then_s, pj_pv_s, pj_pi_s, pj_set_s, if_true, if_false, not_true_eq_false, not_false_eq_true, pj_up_up, pj_so110_109, pj_so111_109, pj_so112_109, pj_so113_109, pj_so114_109, pj_so115_109, pj_so116_109, pj_so117_109, pj_so111_110, pj_so112_110, pj_so113_110, pj_so114_110, pj_so115_110, pj_so116_110, pj_so117_110, pj_so112_111, pj_so113_111, pj_so114_111, pj_so115_111, pj_so116_111, pj_so117_111, pj_so113_112, pj_so114_112, pj_so115_112, pj_so116_112, pj_so117_112, pj_so114_113, pj_so115_113, pj_so116_113, pj_so117_113, pj_so115_114, pj_so116_114, pj_so117_114, pj_so116_115, pj_so117_115, pj_so117_116, pj_up_ap, pj_upd_ap, pj_a3_0, pj_a3_1, pj_a3_2, pj_a3_u0, pj_a3_u1, pj_a3_u2, pj_f5_0, pj_f4_6, pj_f2_1, p0]
    exact t60_19
  by_cases p1 : p < x.1 30
  · rw [if_pos ⟨Int32.not_lt.mp p0, p1⟩]
    by_cases w0 : w < 0
    · rw [if_neg (fun q => Int32.not_le.mpr w0 q.1)]
      simp (disch := first | assumption | exact pj_long_i | exact pj_long_r | exact pj_long_n | decide) only [x60_0, x60_1, x60_4, x60_5, x60_6, x60_9, x60_12, x60_15, x60_18, x60_20, x60_21, x60_24, x60_25, x60_27, x60_30, simprocAttr, pj_then_s, pj_pv_s, pj_pi_s, pj_set_s, if_true, if_false, not_true_eq_false, not_false_eq_true, pj_up_up, pj_so110_109, pj_so111_109, pj_so112_109, pj_so113_109, pj_so114_109, pj_so115_109, pj_so116_109, pj_so117_109, pj_so111_110, pj_so112_110, pj_so113_110, pj_so114_110, pj_so115_110, pj_so116_110, pj_so117_110, pj_so112_111, pj_so113_111, pj_so114_111, pj_so115_111, pj_so116_111, pj_so117_111, pj_so113_112, pj_so114_112, pj_so115_112, pj_so116_112, pj_so117_112, pj_so114_113, pj_so115_113, pj_so116_113, pj_so117_113, pj_so115_114, pj_so116_114, pj_so117_114, pj_so116_115, pj_so117_115, pj_so117_116, pj_up_ap, pj_upd_ap, pj_a3_0, pj_a3_1, pj_a3_2, pj_a3_u0, pj_a3_u1, pj_a3_u2, pj_f5_0, pj_f4_6, pj_f2_1, p0, p1, hV, pj_vc, hu, hx5, hu7, w0]
      exact t60_32
    by_cases w1 : w < 10
    · have w9 : w ≤ 9 := by
        rw [Int32.lt_iff_toInt_lt] at w1
        rw [Int32.le_iff_toInt_le]
        have e3 : (10 : Int32).toInt = 10 := rfl
        have e2 : (9 : Int32).toInt = 9 := rfl
        omega
      rw [if_pos ⟨Int32.not_lt.mp w0, w9⟩]
      have p1' := p1
      rw [r30] at p1'
      obtain ⟨i, hi, ei⟩ := pj_nI_of (by omega) (Int32.not_lt.mp p0) p1'
      obtain ⟨j, hj, ej⟩ := pj_nI_of (b := 10) (by decide) (Int32.not_lt.mp w0) w1
      have e1 : p * 10 + w = nI (10 * i + j) := by
        have q1 : nI i * (10 : Int32) = nI (10 * i) := (pk_mul i 10).trans (by rw [Nat.mul_comm])
        rw [ei, ej, q1, nI_add]
      have e2 : (nI (10 * i + j)).toNatClampNeg = 10 * i + j := nI_clamp (by omega)
      have e3 : pj_in (nI (10 * i + j)) 120 = true := pj_in_nI (by omega) (by decide)
      have e4 : pj_n120 x.1 (10 * i + j) = x.1 (31 + 10 * p.toNatClampNeg + w.toNatClampNeg) := by
        unfold pj_n120
        rw [if_pos (by omega), ei, ej, nI_clamp (by omega), nI_clamp (by omega)]
        exact congrArg x.1 (by omega)
      rw [← e4]
      simp (disch := first | assumption | exact pj_long_i | exact pj_long_r | exact pj_long_n | decide) only [x60_0, x60_1, x60_4, x60_5, x60_6, x60_9, x60_12, x60_15, x60_18, x60_20, x60_21, x60_24, x60_25, x60_27, x60_30, x60_33, x60_34, x60_37, x60_40, x60_43, x60_44, x60_46, x60_47, x60_48, x60_49, simprocAttr, pj_then_s, pj_pv_s, pj_pi_s, pj_set_s, if_true, if_false, not_true_eq_false, not_false_eq_true, pj_up_up, pj_so110_109, pj_so111_109, pj_so112_109, pj_so113_109, pj_so114_109, pj_so115_109, pj_so116_109, pj_so117_109, pj_so111_110, pj_so112_110, pj_so113_110, pj_so114_110, pj_so115_110, pj_so116_110, pj_so117_110, pj_so112_111, pj_so113_111, pj_so114_111, pj_so115_111, pj_so116_111, pj_so117_111, pj_so113_112, pj_so114_112, pj_so115_112, pj_so116_112, pj_so117_112, pj_so114_113, pj_so115_113, pj_so116_113, pj_so117_113, pj_so115_114, pj_so116_114, pj_so117_114, pj_so116_115, pj_so117_115, pj_so117_116, pj_up_ap, pj_upd_ap, pj_a3_0, pj_a3_1, pj_a3_2, pj_a3_u0, pj_a3_u1, pj_a3_u2, pj_f5_0, pj_f4_6, pj_f2_1, pj_f2_0, pj_arl_i, p0, p1, hV, pj_vc, hu, hx5, hu7, hu8, w0, w1, e1, e2, e3]
      exact t60_50
    · rw [if_neg (fun q => w1 (by
        have := q.2
        rw [Int32.le_iff_toInt_le] at this
        rw [Int32.lt_iff_toInt_lt]
        have e3 : (10 : Int32).toInt = 10 := rfl
        have e2 : (9 : Int32).toInt = 9 := rfl
        omega))]
      simp (disch := first | assumption | exact pj_long_i | exact pj_long_r | exact pj_long_n | decide) only [x60_0, x60_1, x60_4, x60_5, x60_6, x60_9, x60_12, x60_15, x60_18, x60_20, x60_21, x60_24, x60_25, x60_27, x60_30, simprocAttr, pj_then_s, pj_pv_s, pj_pi_s, pj_set_s, if_true, if_false, not_true_eq_false, not_false_eq_true, pj_up_up, pj_so110_109, pj_so111_109, pj_so112_109, pj_so113_109, pj_so114_109, pj_so115_109, pj_so116_109, pj_so117_109, pj_so111_110, pj_so112_110, pj_so113_110, pj_so114_110, pj_so115_110, pj_so116_110, pj_so117_110, pj_so112_111, pj_so113_111, pj_so114_111, pj_so115_111, pj_so116_111, pj_so117_111, pj_so113_112, pj_so114_112, pj_so115_112, pj_so116_112, pj_so117_112, pj_so114_113, pj_so115_113, pj_so116_113, pj_so117_113, pj_so115_114, pj_so116_114, pj_so117_114, pj_so116_115, pj_so117_115, pj_so117_116, pj_up_ap, pj_upd_ap, pj_a3_0, pj_a3_1, pj_a3_2, pj_a3_u0, pj_a3_u1, pj_a3_u2, pj_f5_0, pj_f4_6, pj_f2_1, p0, p1, hV, pj_vc, hu, hx5, hu7, w0, w1]
      exact t60_32
  · rw [if_neg (fun q => p1 q.2)]
    simp (disch := first | assumption | exact pj_long_i | exact pj_long_r | exact pj_long_n | decide) only [x60_0, x60_1, x60_4, x60_5, x60_6, x60_9, x60_12, x60_15, x60_18, simprocAttr, pj_then_s, pj_pv_s, pj_pi_s, pj_set_s, if_true, if_false, not_true_eq_false, not_false_eq_true, pj_up_up, pj_so110_109, pj_so111_109, pj_so112_109, pj_so113_109, pj_so114_109, pj_so115_109, pj_so116_109, pj_so117_109, pj_so111_110, pj_so112_110, pj_so113_110, pj_so114_110, pj_so115_110, pj_so116_110, pj_so117_110, pj_so112_111, pj_so113_111, pj_so114_111, pj_so115_111, pj_so116_111, pj_so117_111, pj_so113_112, pj_so114_112, pj_so115_112, pj_so116_112, pj_so117_112, pj_so114_113, pj_so115_113, pj_so116_113, pj_so117_113, pj_so115_114, pj_so116_114, pj_so117_114, pj_so116_115, pj_so117_115, pj_so117_116, pj_up_ap, pj_upd_ap, pj_a3_0, pj_a3_1, pj_a3_2, pj_a3_u0, pj_a3_u1, pj_a3_u2, pj_f5_0, pj_f4_6, pj_f2_1, p0, p1, hV, pj_vc, hu, hx5, hu7]
    exact t60_19
theorem ck_tk_01 {e t : Int32} : ck_tk e t = 0 ∨ ck_tk e t = 1 := by
  unfold ck_tk
  split
  · exact Or.inr rfl
  · split
    · exact Or.inl rfl
    · exact Or.inr rfl
theorem C_count (hx : pj_In x) (hC : pj_C H x) : pj_Co N S H 10 [some (.ref 4), some (.int w)] (x, op_count x w) := by
  refine pj_Co_same hC ?_
  obtain ⟨t, ht, hR⟩ := hx.1
  obtain ⟨-, -, r6, -, -, -, -, -, -, r29⟩ := hR
  have hU := hC.2.2.1
  obtain ⟨hu, hu1, hu2, hu3, hu4, hu5, hu6, hu7, hu8⟩ := hC.2.2.1
  have hV := hC.2.1
  have hP := hC.2.2.2.2.1.1
  have hx5 : pj_uc 5 x.1 = .inl (4, [.ref 6, .ref 7, .ref 8, .ref 9, .ref 10, .ref 11, .ref 12, .int (sp_vot x.1), .int (sp_bar x.1), .int (x.1 7), .int (x.1 6)]) := rfl
  unfold op_count
  by_cases c1 : 8 ≤ w ∧ w ≤ 13
  · rw [if_pos c1]
    rcases sp_813 c1 with e | e | e | e | e | e
    · subst e
      have y : pj_a6 (x.1 0) (x.1 1) (x.1 2) (x.1 3) (x.1 4) (x.1 5) 0 = x.1 0 := rfl
      simp (disch := first | assumption | exact pj_long_i | exact pj_long_r | exact pj_long_n | decide) only [x10_0, x10_1, x10_3, x10_6, x10_7, x10_9, x10_12, x10_13, x10_16, x10_19, x10_20, x10_22, x10_23, simprocAttr, pj_then_s, pj_pv_s, pj_pi_s, pj_set_s, if_true, if_false, not_true_eq_false, not_false_eq_true, pj_up_up, pj_so110_109, pj_so111_109, pj_so112_109, pj_so113_109, pj_so114_109, pj_so115_109, pj_so116_109, pj_so117_109, pj_so111_110, pj_so112_110, pj_so113_110, pj_so114_110, pj_so115_110, pj_so116_110, pj_so117_110, pj_so112_111, pj_so113_111, pj_so114_111, pj_so115_111, pj_so116_111, pj_so117_111, pj_so113_112, pj_so114_112, pj_so115_112, pj_so116_112, pj_so117_112, pj_so114_113, pj_so115_113, pj_so116_113, pj_so117_113, pj_so115_114, pj_so116_114, pj_so117_114, pj_so116_115, pj_so117_115, pj_so117_116, pj_up_ap, pj_upd_ap, pj_a3_0, pj_a3_1, pj_a3_2, pj_a3_u0, pj_a3_u1, pj_a3_u2, pj_f5_0, pj_f4_0, pj_arl_i, hV, pj_vc, hu, hx5, hu1, y]
      exact t10_24
    · subst e
      have y : pj_a6 (x.1 0) (x.1 1) (x.1 2) (x.1 3) (x.1 4) (x.1 5) 1 = x.1 1 := rfl
      simp (disch := first | assumption | exact pj_long_i | exact pj_long_r | exact pj_long_n | decide) only [x10_0, x10_1, x10_3, x10_6, x10_7, x10_9, x10_12, x10_13, x10_16, x10_19, x10_20, x10_22, x10_23, simprocAttr, pj_then_s, pj_pv_s, pj_pi_s, pj_set_s, if_true, if_false, not_true_eq_false, not_false_eq_true, pj_up_up, pj_so110_109, pj_so111_109, pj_so112_109, pj_so113_109, pj_so114_109, pj_so115_109, pj_so116_109, pj_so117_109, pj_so111_110, pj_so112_110, pj_so113_110, pj_so114_110, pj_so115_110, pj_so116_110, pj_so117_110, pj_so112_111, pj_so113_111, pj_so114_111, pj_so115_111, pj_so116_111, pj_so117_111, pj_so113_112, pj_so114_112, pj_so115_112, pj_so116_112, pj_so117_112, pj_so114_113, pj_so115_113, pj_so116_113, pj_so117_113, pj_so115_114, pj_so116_114, pj_so117_114, pj_so116_115, pj_so117_115, pj_so117_116, pj_up_ap, pj_upd_ap, pj_a3_0, pj_a3_1, pj_a3_2, pj_a3_u0, pj_a3_u1, pj_a3_u2, pj_f5_0, pj_f4_0, pj_arl_i, hV, pj_vc, hu, hx5, hu1, y]
      exact t10_24
    · subst e
      have y : pj_a6 (x.1 0) (x.1 1) (x.1 2) (x.1 3) (x.1 4) (x.1 5) 2 = x.1 2 := rfl
      simp (disch := first | assumption | exact pj_long_i | exact pj_long_r | exact pj_long_n | decide) only [x10_0, x10_1, x10_3, x10_6, x10_7, x10_9, x10_12, x10_13, x10_16, x10_19, x10_20, x10_22, x10_23, simprocAttr, pj_then_s, pj_pv_s, pj_pi_s, pj_set_s, if_true, if_false, not_true_eq_false, not_false_eq_true, pj_up_up, pj_so110_109, pj_so111_109, pj_so112_109, pj_so113_109, pj_so114_109, pj_so115_109, pj_so116_109, pj_so117_109, pj_so111_110, pj_so112_110, pj_so113_110, pj_so114_110, pj_so115_110, pj_so116_110, pj_so117_110, pj_so112_111, pj_so113_111, pj_so114_111, pj_so115_111, pj_so116_111, pj_so117_111, pj_so113_112, pj_so114_112, pj_so115_112, pj_so116_112, pj_so117_112, pj_so114_113, pj_so115_113, pj_so116_113, pj_so117_113, pj_so115_114, pj_so116_114, pj_so117_114, pj_so116_115, pj_so117_115, pj_so117_116, pj_up_ap, pj_upd_ap, pj_a3_0, pj_a3_1, pj_a3_2, pj_a3_u0, pj_a3_u1, pj_a3_u2, pj_f5_0, pj_f4_0, pj_arl_i, hV, pj_vc, hu, hx5, hu1, y]
      exact t10_24
    · subst e
      have y : pj_a6 (x.1 0) (x.1 1) (x.1 2) (x.1 3) (x.1 4) (x.1 5) 3 = x.1 3 := rfl
      simp (disch := first | assumption | exact pj_long_i | exact pj_long_r | exact pj_long_n | decide) only [x10_0, x10_1, x10_3, x10_6, x10_7, x10_9, x10_12, x10_13, x10_16, x10_19, x10_20, x10_22, x10_23, simprocAttr, pj_then_s, pj_pv_s, pj_pi_s, pj_set_s, if_true, if_false, not_true_eq_false, not_false_eq_true, pj_up_up, pj_so110_109, pj_so111_109, pj_so112_109, pj_so113_109, pj_so114_109, pj_so115_109, pj_so116_109, pj_so117_109, pj_so111_110, pj_so112_110, pj_so113_110, pj_so114_110, pj_so115_110, pj_so116_110, pj_so117_110, pj_so112_111, pj_so113_111, pj_so114_111, pj_so115_111, pj_so116_111, pj_so117_111, pj_so113_112, pj_so114_112, pj_so115_112, pj_so116_112, pj_so117_112, pj_so114_113, pj_so115_113, pj_so116_113, pj_so117_113, pj_so115_114, pj_so116_114, pj_so117_114, pj_so116_115, pj_so117_115, pj_so117_116, pj_up_ap, pj_upd_ap, pj_a3_0, pj_a3_1, pj_a3_2, pj_a3_u0, pj_a3_u1, pj_a3_u2, pj_f5_0, pj_f4_0, pj_arl_i, hV, pj_vc, hu, hx5, hu1, y]
      exact t10_24
    · subst e
      have y : pj_a6 (x.1 0) (x.1 1) (x.1 2) (x.1 3) (x.1 4) (x.1 5) 4 = x.1 4 := rfl
      simp (disch := first | assumption | exact pj_long_i | exact pj_long_r | exact pj_long_n | decide) only [x10_0, x10_1, x10_3, x10_6, x10_7, x10_9, x10_12, x10_13, x10_16, x10_19, x10_20, x10_22, x10_23, simprocAttr, pj_then_s, pj_pv_s, pj_pi_s, pj_set_s, if_true, if_false, not_true_eq_false, not_false_eq_true, pj_up_up, pj_so110_109, pj_so111_109, pj_so112_109, pj_so113_109, pj_so114_109, pj_so115_109, pj_so116_109, pj_so117_109, pj_so111_110, pj_so112_110, pj_so113_110, pj_so114_110, pj_so115_110, pj_so116_110, pj_so117_110, pj_so112_111, pj_so113_111, pj_so114_111, pj_so115_111, pj_so116_111, pj_so117_111, pj_so113_112, pj_so114_112, pj_so115_112, pj_so116_112, pj_so117_112, pj_so114_113, pj_so115_113, pj_so116_113, pj_so117_113, pj_so115_114, pj_so116_114, pj_so117_114, pj_so116_115, pj_so117_115, pj_so117_116, pj_up_ap, pj_upd_ap, pj_a3_0, pj_a3_1, pj_a3_2, pj_a3_u0, pj_a3_u1, pj_a3_u2, pj_f5_0, pj_f4_0, pj_arl_i, hV, pj_vc, hu, hx5, hu1, y]
      exact t10_24
    · subst e
      have y : pj_a6 (x.1 0) (x.1 1) (x.1 2) (x.1 3) (x.1 4) (x.1 5) 5 = x.1 5 := rfl
      simp (disch := first | assumption | exact pj_long_i | exact pj_long_r | exact pj_long_n | decide) only [x10_0, x10_1, x10_3, x10_6, x10_7, x10_9, x10_12, x10_13, x10_16, x10_19, x10_20, x10_22, x10_23, simprocAttr, pj_then_s, pj_pv_s, pj_pi_s, pj_set_s, if_true, if_false, not_true_eq_false, not_false_eq_true, pj_up_up, pj_so110_109, pj_so111_109, pj_so112_109, pj_so113_109, pj_so114_109, pj_so115_109, pj_so116_109, pj_so117_109, pj_so111_110, pj_so112_110, pj_so113_110, pj_so114_110, pj_so115_110, pj_so116_110, pj_so117_110, pj_so112_111, pj_so113_111, pj_so114_111, pj_so115_111, pj_so116_111, pj_so117_111, pj_so113_112, pj_so114_112, pj_so115_112, pj_so116_112, pj_so117_112, pj_so114_113, pj_so115_113, pj_so116_113, pj_so117_113, pj_so115_114, pj_so116_114, pj_so117_114, pj_so116_115, pj_so117_115, pj_so117_116, pj_up_ap, pj_upd_ap, pj_a3_0, pj_a3_1, pj_a3_2, pj_a3_u0, pj_a3_u1, pj_a3_u2, pj_f5_0, pj_f4_0, pj_arl_i, hV, pj_vc, hu, hx5, hu1, y]
      exact t10_24
  rw [if_neg c1]
  have big : ¬ w < 8 → ¬ w < 14 → True := fun _ _ => trivial
  by_cases w0 : w = 0
  · subst w0
    simp (disch := first | assumption | exact pj_long_i | exact pj_long_r | exact pj_long_n | decide) only [x10_0, x10_1, x10_3, x10_6, x10_7, x10_9, x10_12, x10_13, x10_16, x10_19, x10_20, x10_22, x10_23, x10_25, x10_26, x10_104, x10_105, x10_108, x10_112, x10_113, x10_116, x10_120, x10_121, x10_124, x10_128, x10_129, x10_136, x10_137, x10_140, x10_144, x10_145, x10_148, x10_151, x10_155, x10_156, x10_159, x10_162, x10_166, x10_167, x10_170, x10_173, x10_174, x10_177, simprocAttr, pj_then_s, pj_pv_s, pj_pi_s, pj_set_s, if_true, if_false, not_true_eq_false, not_false_eq_true, pj_up_up, pj_so110_109, pj_so111_109, pj_so112_109, pj_so113_109, pj_so114_109, pj_so115_109, pj_so116_109, pj_so117_109, pj_so111_110, pj_so112_110, pj_so113_110, pj_so114_110, pj_so115_110, pj_so116_110, pj_so117_110, pj_so112_111, pj_so113_111, pj_so114_111, pj_so115_111, pj_so116_111, pj_so117_111, pj_so113_112, pj_so114_112, pj_so115_112, pj_so116_112, pj_so117_112, pj_so114_113, pj_so115_113, pj_so116_113, pj_so117_113, pj_so115_114, pj_so116_114, pj_so117_114, pj_so116_115, pj_so117_115, pj_so117_116, pj_up_ap, pj_upd_ap, pj_a3_0, pj_a3_1, pj_a3_2, pj_a3_u0, pj_a3_u1, pj_a3_u2, pj_f5_0, pj_f4_0, pj_arl_i, pj_f4_10, pj_f4_9, pj_f4_7, pj_f4_8, pj_f4_6, pj_f2_1, pj_f2_2, hV, pj_vc, hu, hx5]
    exact t10_111
  by_cases w1 : w = 1
  · subst w1
    simp (disch := first | assumption | exact pj_long_i | exact pj_long_r | exact pj_long_n | decide) only [x10_0, x10_1, x10_3, x10_6, x10_7, x10_9, x10_12, x10_13, x10_16, x10_19, x10_20, x10_22, x10_23, x10_25, x10_26, x10_104, x10_105, x10_108, x10_112, x10_113, x10_116, x10_120, x10_121, x10_124, x10_128, x10_129, x10_136, x10_137, x10_140, x10_144, x10_145, x10_148, x10_151, x10_155, x10_156, x10_159, x10_162, x10_166, x10_167, x10_170, x10_173, x10_174, x10_177, simprocAttr, pj_then_s, pj_pv_s, pj_pi_s, pj_set_s, if_true, if_false, not_true_eq_false, not_false_eq_true, pj_up_up, pj_so110_109, pj_so111_109, pj_so112_109, pj_so113_109, pj_so114_109, pj_so115_109, pj_so116_109, pj_so117_109, pj_so111_110, pj_so112_110, pj_so113_110, pj_so114_110, pj_so115_110, pj_so116_110, pj_so117_110, pj_so112_111, pj_so113_111, pj_so114_111, pj_so115_111, pj_so116_111, pj_so117_111, pj_so113_112, pj_so114_112, pj_so115_112, pj_so116_112, pj_so117_112, pj_so114_113, pj_so115_113, pj_so116_113, pj_so117_113, pj_so115_114, pj_so116_114, pj_so117_114, pj_so116_115, pj_so117_115, pj_so117_116, pj_up_ap, pj_upd_ap, pj_a3_0, pj_a3_1, pj_a3_2, pj_a3_u0, pj_a3_u1, pj_a3_u2, pj_f5_0, pj_f4_0, pj_arl_i, pj_f4_10, pj_f4_9, pj_f4_7, pj_f4_8, pj_f4_6, pj_f2_1, pj_f2_2, hV, pj_vc, hu, hx5]
    exact t10_119
  by_cases w2 : w = 2
  · subst w2
    simp (disch := first | assumption | exact pj_long_i | exact pj_long_r | exact pj_long_n | decide) only [x10_0, x10_1, x10_3, x10_6, x10_7, x10_9, x10_12, x10_13, x10_16, x10_19, x10_20, x10_22, x10_23, x10_25, x10_26, x10_104, x10_105, x10_108, x10_112, x10_113, x10_116, x10_120, x10_121, x10_124, x10_128, x10_129, x10_136, x10_137, x10_140, x10_144, x10_145, x10_148, x10_151, x10_155, x10_156, x10_159, x10_162, x10_166, x10_167, x10_170, x10_173, x10_174, x10_177, simprocAttr, pj_then_s, pj_pv_s, pj_pi_s, pj_set_s, if_true, if_false, not_true_eq_false, not_false_eq_true, pj_up_up, pj_so110_109, pj_so111_109, pj_so112_109, pj_so113_109, pj_so114_109, pj_so115_109, pj_so116_109, pj_so117_109, pj_so111_110, pj_so112_110, pj_so113_110, pj_so114_110, pj_so115_110, pj_so116_110, pj_so117_110, pj_so112_111, pj_so113_111, pj_so114_111, pj_so115_111, pj_so116_111, pj_so117_111, pj_so113_112, pj_so114_112, pj_so115_112, pj_so116_112, pj_so117_112, pj_so114_113, pj_so115_113, pj_so116_113, pj_so117_113, pj_so115_114, pj_so116_114, pj_so117_114, pj_so116_115, pj_so117_115, pj_so117_116, pj_up_ap, pj_upd_ap, pj_a3_0, pj_a3_1, pj_a3_2, pj_a3_u0, pj_a3_u1, pj_a3_u2, pj_f5_0, pj_f4_0, pj_arl_i, pj_f4_10, pj_f4_9, pj_f4_7, pj_f4_8, pj_f4_6, pj_f2_1, pj_f2_2, hV, pj_vc, hu, hx5]
    exact t10_127
  by_cases w3 : w = 3
  · subst w3
    simp (disch := first | assumption | exact pj_long_i | exact pj_long_r | exact pj_long_n | decide) only [x10_0, x10_1, x10_3, x10_6, x10_7, x10_9, x10_12, x10_13, x10_16, x10_19, x10_20, x10_22, x10_23, x10_25, x10_26, x10_104, x10_105, x10_108, x10_112, x10_113, x10_116, x10_120, x10_121, x10_124, x10_128, x10_129, simprocAttr, pj_then_s, pj_pv_s, pj_pi_s, pj_set_s, if_true, if_false, not_true_eq_false, not_false_eq_true, pj_up_up, pj_so110_109, pj_so111_109, pj_so112_109, pj_so113_109, pj_so114_109, pj_so115_109, pj_so116_109, pj_so117_109, pj_so111_110, pj_so112_110, pj_so113_110, pj_so114_110, pj_so115_110, pj_so116_110, pj_so117_110, pj_so112_111, pj_so113_111, pj_so114_111, pj_so115_111, pj_so116_111, pj_so117_111, pj_so113_112, pj_so114_112, pj_so115_112, pj_so116_112, pj_so117_112, pj_so114_113, pj_so115_113, pj_so116_113, pj_so117_113, pj_so115_114, pj_so116_114, pj_so117_114, pj_so116_115, pj_so117_115, pj_so117_116, pj_up_ap, pj_upd_ap, pj_a3_0, pj_a3_1, pj_a3_2, pj_a3_u0, pj_a3_u1, pj_a3_u2, pj_f5_0, pj_f4_0, pj_arl_i, pj_f4_10, pj_f4_9, pj_f4_7, hV, pj_vc]
    refine e10_132 rfl (by rw [hu]; rfl) (c_firedStages hU) ?_
    exact t10_135
  by_cases w4 : w = 4
  · subst w4
    simp (disch := first | assumption | exact pj_long_i | exact pj_long_r | exact pj_long_n | decide) only [x10_0, x10_1, x10_3, x10_6, x10_7, x10_9, x10_12, x10_13, x10_16, x10_19, x10_20, x10_22, x10_23, x10_25, x10_26, x10_104, x10_105, x10_108, x10_112, x10_113, x10_116, x10_120, x10_121, x10_124, x10_128, x10_129, x10_136, x10_137, x10_140, x10_144, x10_145, x10_148, x10_151, x10_155, x10_156, x10_159, x10_162, x10_166, x10_167, x10_170, x10_173, x10_174, x10_177, simprocAttr, pj_then_s, pj_pv_s, pj_pi_s, pj_set_s, if_true, if_false, not_true_eq_false, not_false_eq_true, pj_up_up, pj_so110_109, pj_so111_109, pj_so112_109, pj_so113_109, pj_so114_109, pj_so115_109, pj_so116_109, pj_so117_109, pj_so111_110, pj_so112_110, pj_so113_110, pj_so114_110, pj_so115_110, pj_so116_110, pj_so117_110, pj_so112_111, pj_so113_111, pj_so114_111, pj_so115_111, pj_so116_111, pj_so117_111, pj_so113_112, pj_so114_112, pj_so115_112, pj_so116_112, pj_so117_112, pj_so114_113, pj_so115_113, pj_so116_113, pj_so117_113, pj_so115_114, pj_so116_114, pj_so117_114, pj_so116_115, pj_so117_115, pj_so117_116, pj_up_ap, pj_upd_ap, pj_a3_0, pj_a3_1, pj_a3_2, pj_a3_u0, pj_a3_u1, pj_a3_u2, pj_f5_0, pj_f4_0, pj_arl_i, pj_f4_10, pj_f4_9, pj_f4_7, pj_f4_8, pj_f4_6, pj_f2_1, pj_f2_2, hV, pj_vc, hu, hx5]
    exact t10_143
  by_cases w5 : w = 5
  · subst w5
    simp (disch := first | assumption | exact pj_long_i | exact pj_long_r | exact pj_long_n | decide) only [x10_0, x10_1, x10_3, x10_6, x10_7, x10_9, x10_12, x10_13, x10_16, x10_19, x10_20, x10_22, x10_23, x10_25, x10_26, x10_104, x10_105, x10_108, x10_112, x10_113, x10_116, x10_120, x10_121, x10_124, x10_128, x10_129, x10_136, x10_137, x10_140, x10_144, x10_145, x10_148, x10_151, x10_155, x10_156, x10_159, x10_162, x10_166, x10_167, x10_170, x10_173, x10_174, x10_177, simprocAttr, pj_then_s, pj_pv_s, pj_pi_s, pj_set_s, if_true, if_false, not_true_eq_false, not_false_eq_true, pj_up_up, pj_so110_109, pj_so111_109, pj_so112_109, pj_so113_109, pj_so114_109, pj_so115_109, pj_so116_109, pj_so117_109, pj_so111_110, pj_so112_110, pj_so113_110, pj_so114_110, pj_so115_110, pj_so116_110, pj_so117_110, pj_so112_111, pj_so113_111, pj_so114_111, pj_so115_111, pj_so116_111, pj_so117_111, pj_so113_112, pj_so114_112, pj_so115_112, pj_so116_112, pj_so117_112, pj_so114_113, pj_so115_113, pj_so116_113, pj_so117_113, pj_so115_114, pj_so116_114, pj_so117_114, pj_so116_115, pj_so117_115, pj_so117_116, pj_up_ap, pj_upd_ap, pj_a3_0, pj_a3_1, pj_a3_2, pj_a3_u0, pj_a3_u1, pj_a3_u2, pj_f5_0, pj_f4_0, pj_arl_i, pj_f4_10, pj_f4_9, pj_f4_7, pj_f4_8, pj_f4_6, pj_f2_1, pj_f2_2, hV, pj_vc, hu, hx5, hu7]
    exact t10_154
  by_cases w6 : w = 6
  · subst w6
    simp (disch := first | assumption | exact pj_long_i | exact pj_long_r | exact pj_long_n | decide) only [x10_0, x10_1, x10_3, x10_6, x10_7, x10_9, x10_12, x10_13, x10_16, x10_19, x10_20, x10_22, x10_23, x10_25, x10_26, x10_104, x10_105, x10_108, x10_112, x10_113, x10_116, x10_120, x10_121, x10_124, x10_128, x10_129, x10_136, x10_137, x10_140, x10_144, x10_145, x10_148, x10_151, x10_155, x10_156, x10_159, x10_162, x10_166, x10_167, x10_170, x10_173, x10_174, x10_177, simprocAttr, pj_then_s, pj_pv_s, pj_pi_s, pj_set_s, if_true, if_false, not_true_eq_false, not_false_eq_true, pj_up_up, pj_so110_109, pj_so111_109, pj_so112_109, pj_so113_109, pj_so114_109, pj_so115_109, pj_so116_109, pj_so117_109, pj_so111_110, pj_so112_110, pj_so113_110, pj_so114_110, pj_so115_110, pj_so116_110, pj_so117_110, pj_so112_111, pj_so113_111, pj_so114_111, pj_so115_111, pj_so116_111, pj_so117_111, pj_so113_112, pj_so114_112, pj_so115_112, pj_so116_112, pj_so117_112, pj_so114_113, pj_so115_113, pj_so116_113, pj_so117_113, pj_so115_114, pj_so116_114, pj_so117_114, pj_so116_115, pj_so117_115, pj_so117_116, pj_up_ap, pj_upd_ap, pj_a3_0, pj_a3_1, pj_a3_2, pj_a3_u0, pj_a3_u1, pj_a3_u2, pj_f5_0, pj_f4_0, pj_arl_i, pj_f4_10, pj_f4_9, pj_f4_7, pj_f4_8, pj_f4_6, pj_f2_1, pj_f2_2, hV, pj_vc, hu, hx5, hu7]
    exact t10_165
  by_cases w7 : w = 7
  · subst w7
    have e := sp_rec_ck (F := x.1) (by omega) r6 r29
    simp only [simprocAttr, if_true, if_false]
    rw [e]
    simp (disch := first | assumption | exact pj_long_i | exact pj_long_r | exact pj_long_n | decide) only [x10_0, x10_1, x10_3, x10_6, x10_7, x10_9, x10_12, x10_13, x10_16, x10_19, x10_20, x10_22, x10_23, x10_25, x10_26, x10_104, x10_105, x10_108, x10_112, x10_113, x10_116, x10_120, x10_121, x10_124, x10_128, x10_129, x10_136, x10_137, x10_140, x10_144, x10_145, x10_148, x10_151, x10_155, x10_156, x10_159, x10_162, x10_166, x10_167, x10_170, x10_173, x10_174, x10_177, simprocAttr, pj_then_s, pj_pv_s, pj_pi_s, pj_set_s, if_true, if_false, not_true_eq_false, not_false_eq_true, pj_up_up, pj_so110_109, pj_so111_109, pj_so112_109, pj_so113_109, pj_so114_109, pj_so115_109, pj_so116_109, pj_so117_109, pj_so111_110, pj_so112_110, pj_so113_110, pj_so114_110, pj_so115_110, pj_so116_110, pj_so117_110, pj_so112_111, pj_so113_111, pj_so114_111, pj_so115_111, pj_so116_111, pj_so117_111, pj_so113_112, pj_so114_112, pj_so115_112, pj_so116_112, pj_so117_112, pj_so114_113, pj_so115_113, pj_so116_113, pj_so117_113, pj_so115_114, pj_so116_114, pj_so117_114, pj_so116_115, pj_so117_115, pj_so117_116, pj_up_ap, pj_upd_ap, pj_a3_0, pj_a3_1, pj_a3_2, pj_a3_u0, pj_a3_u1, pj_a3_u2, pj_f5_0, pj_f4_0, pj_arl_i, pj_f4_10, pj_f4_9, pj_f4_7, pj_f4_8, pj_f4_6, pj_f2_1, pj_f2_2, hV, pj_vc, hu, hx5]
    refine e10_180 rfl (by rw [hu7]; rfl) (c_isTaking hu7) ?_
    refine e10_183 rfl (c_asNumber ck_tk_01) ?_
    exact t10_186
  by_cases w14 : w = 14
  · subst w14
    simp (disch := first | assumption | exact pj_long_i | exact pj_long_r | exact pj_long_n | decide) only [x10_0, x10_1, x10_3, x10_6, x10_7, x10_9, x10_12, x10_13, x10_16, x10_19, x10_20, x10_22, x10_23, x10_25, x10_26, x10_104, x10_105, x10_108, x10_112, x10_113, x10_116, x10_120, x10_121, x10_124, x10_128, x10_129, x10_136, x10_137, x10_140, x10_144, x10_145, x10_148, x10_151, x10_155, x10_156, x10_159, x10_162, x10_166, x10_167, x10_170, x10_173, x10_174, x10_177, x10_187, x10_188, x10_191, simprocAttr, pj_then_s, pj_pv_s, pj_pi_s, pj_set_s, if_true, if_false, not_true_eq_false, not_false_eq_true, pj_up_up, pj_so110_109, pj_so111_109, pj_so112_109, pj_so113_109, pj_so114_109, pj_so115_109, pj_so116_109, pj_so117_109, pj_so111_110, pj_so112_110, pj_so113_110, pj_so114_110, pj_so115_110, pj_so116_110, pj_so117_110, pj_so112_111, pj_so113_111, pj_so114_111, pj_so115_111, pj_so116_111, pj_so117_111, pj_so113_112, pj_so114_112, pj_so115_112, pj_so116_112, pj_so117_112, pj_so114_113, pj_so115_113, pj_so116_113, pj_so117_113, pj_so115_114, pj_so116_114, pj_so117_114, pj_so116_115, pj_so117_115, pj_so117_116, pj_up_ap, pj_upd_ap, pj_a3_0, pj_a3_1, pj_a3_2, pj_a3_u0, pj_a3_u1, pj_a3_u2, pj_f5_0, pj_f4_0, pj_arl_i, pj_f4_10, pj_f4_9, pj_f4_7, pj_f4_8, pj_f4_6, pj_f2_1, pj_f2_2, pj_f5_3, pj_f0_2, hV, pj_vc, hP, pj_pc]
    exact t10_194
  by_cases w15 : w = 15
  · subst w15
    simp (disch := first | assumption | exact pj_long_i | exact pj_long_r | exact pj_long_n | decide) only [x10_0, x10_1, x10_3, x10_6, x10_7, x10_9, x10_12, x10_13, x10_16, x10_19, x10_20, x10_22, x10_23, x10_25, x10_26, x10_104, x10_105, x10_108, x10_112, x10_113, x10_116, x10_120, x10_121, x10_124, x10_128, x10_129, x10_136, x10_137, x10_140, x10_144, x10_145, x10_148, x10_151, x10_155, x10_156, x10_159, x10_162, x10_166, x10_167, x10_170, x10_173, x10_174, x10_177, x10_187, x10_188, x10_191, x10_195, x10_196, simprocAttr, pj_then_s, pj_pv_s, pj_pi_s, pj_set_s, if_true, if_false, not_true_eq_false, not_false_eq_true, pj_up_up, pj_so110_109, pj_so111_109, pj_so112_109, pj_so113_109, pj_so114_109, pj_so115_109, pj_so116_109, pj_so117_109, pj_so111_110, pj_so112_110, pj_so113_110, pj_so114_110, pj_so115_110, pj_so116_110, pj_so117_110, pj_so112_111, pj_so113_111, pj_so114_111, pj_so115_111, pj_so116_111, pj_so117_111, pj_so113_112, pj_so114_112, pj_so115_112, pj_so116_112, pj_so117_112, pj_so114_113, pj_so115_113, pj_so116_113, pj_so117_113, pj_so115_114, pj_so116_114, pj_so117_114, pj_so116_115, pj_so117_115, pj_so117_116, pj_up_ap, pj_upd_ap, pj_a3_0, pj_a3_1, pj_a3_2, pj_a3_u0, pj_a3_u1, pj_a3_u2, pj_f5_0, pj_f4_0, pj_arl_i, pj_f4_10, pj_f4_9, pj_f4_7, pj_f4_8, pj_f4_6, pj_f2_1, pj_f2_2, pj_f5_3, pj_f0_2, pj_f5_5, hV, pj_vc]
    exact t10_199
  have w8 : ¬ w = 8 := fun q => c1 (by subst q; decide)
  have w9 : ¬ w = 9 := fun q => c1 (by subst q; decide)
  have w10 : ¬ w = 10 := fun q => c1 (by subst q; decide)
  have w11 : ¬ w = 11 := fun q => c1 (by subst q; decide)
  have w12 : ¬ w = 12 := fun q => c1 (by subst q; decide)
  have w13 : ¬ w = 13 := fun q => c1 (by subst q; decide)
  by_cases c8 : w < 8
  · simp (disch := first | assumption | exact pj_long_i | exact pj_long_r | exact pj_long_n | decide) only [x10_0, x10_1, x10_3, x10_6, x10_7, x10_9, x10_12, x10_13, x10_16, x10_19, x10_20, x10_22, x10_23, x10_25, x10_26, x10_104, x10_105, x10_108, x10_112, x10_113, x10_116, x10_120, x10_121, x10_124, x10_128, x10_129, x10_136, x10_137, x10_140, x10_144, x10_145, x10_148, x10_151, x10_155, x10_156, x10_159, x10_162, x10_166, x10_167, x10_170, x10_173, x10_174, x10_177, x10_187, x10_188, x10_191, x10_195, x10_196, x10_200, simprocAttr, pj_then_s, pj_pv_s, pj_pi_s, pj_set_s, if_true, if_false, not_true_eq_false, not_false_eq_true, pj_up_up, pj_so110_109, pj_so111_109, pj_so112_109, pj_so113_109, pj_so114_109, pj_so115_109, pj_so116_109, pj_so117_109, pj_so111_110, pj_so112_110, pj_so113_110, pj_so114_110, pj_so115_110, pj_so116_110, pj_so117_110, pj_so112_111, pj_so113_111, pj_so114_111, pj_so115_111, pj_so116_111, pj_so117_111, pj_so113_112, pj_so114_112, pj_so115_112, pj_so116_112, pj_so117_112, pj_so114_113, pj_so115_113, pj_so116_113, pj_so117_113, pj_so115_114, pj_so116_114, pj_so117_114, pj_so116_115, pj_so117_115, pj_so117_116, pj_up_ap, pj_upd_ap, pj_a3_0, pj_a3_1, pj_a3_2, pj_a3_u0, pj_a3_u1, pj_a3_u2, pj_f5_0, pj_f4_0, pj_arl_i, pj_f4_10, pj_f4_9, pj_f4_7, pj_f4_8, pj_f4_6, pj_f2_1, pj_f2_2, pj_f5_3, pj_f0_2, pj_f5_5, c8, w0, w1, w2, w3, w4, w5, w6, w7, w8, w9, w10, w11, w12, w13, w14, w15]
    exact t10_202
  · have c14 : ¬ w < 14 := by
      intro q
      apply c1
      refine ⟨Int32.not_lt.mp c8, ?_⟩
      rw [Int32.lt_iff_toInt_lt] at q
      rw [Int32.le_iff_toInt_le]
      have e3 : (14 : Int32).toInt = 14 := rfl
      have e2 : (13 : Int32).toInt = 13 := rfl
      omega
    have c14' : 14 ≤ w := Int32.not_lt.mp c14
    simp (disch := first | assumption | exact pj_long_i | exact pj_long_r | exact pj_long_n | decide) only [x10_0, x10_1, x10_3, x10_6, x10_7, x10_9, x10_12, x10_13, x10_16, x10_19, x10_20, x10_22, x10_23, x10_25, x10_26, x10_104, x10_105, x10_108, x10_112, x10_113, x10_116, x10_120, x10_121, x10_124, x10_128, x10_129, x10_136, x10_137, x10_140, x10_144, x10_145, x10_148, x10_151, x10_155, x10_156, x10_159, x10_162, x10_166, x10_167, x10_170, x10_173, x10_174, x10_177, x10_187, x10_188, x10_191, x10_195, x10_196, x10_200, simprocAttr, pj_then_s, pj_pv_s, pj_pi_s, pj_set_s, if_true, if_false, not_true_eq_false, not_false_eq_true, pj_up_up, pj_so110_109, pj_so111_109, pj_so112_109, pj_so113_109, pj_so114_109, pj_so115_109, pj_so116_109, pj_so117_109, pj_so111_110, pj_so112_110, pj_so113_110, pj_so114_110, pj_so115_110, pj_so116_110, pj_so117_110, pj_so112_111, pj_so113_111, pj_so114_111, pj_so115_111, pj_so116_111, pj_so117_111, pj_so113_112, pj_so114_112, pj_so115_112, pj_so116_112, pj_so117_112, pj_so114_113, pj_so115_113, pj_so116_113, pj_so117_113, pj_so115_114, pj_so116_114, pj_so117_114, pj_so116_115, pj_so117_115, pj_so117_116, pj_up_ap, pj_upd_ap, pj_a3_0, pj_a3_1, pj_a3_2, pj_a3_u0, pj_a3_u1, pj_a3_u2, pj_f5_0, pj_f4_0, pj_arl_i, pj_f4_10, pj_f4_9, pj_f4_7, pj_f4_8, pj_f4_6, pj_f2_1, pj_f2_2, pj_f5_3, pj_f0_2, pj_f5_5, c8, c14, c14', w0, w1, w2, w3, w4, w5, w6, w7, w8, w9, w10, w11, w12, w13, w14, w15]
    exact t10_202
end T27
