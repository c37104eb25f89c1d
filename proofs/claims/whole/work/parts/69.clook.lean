/-! THE CLASS'S CALLS THAT LOOK -/
section T27
variable {N S : Nat} {H : pj_Heap} {x : pj_Sg} {w : Int32}
theorem c_sensor_0 (hx : pj_In x) (hC : pj_C H x) : pj_Ends 44 (0, [some (.ref 4), some (.int 0), some (.int w)], [], (N, S, H)) (some (.int (op_sensor x.1 0 w)), (N, S, H)) := by
  obtain ⟨t, ht, hR⟩ := hx.1
  obtain ⟨-, -, -, rv, -⟩ := hR
  have bv : pj_b3 (x.1 14) (x.1 15) (x.1 16) := ⟨rv 0 (by decide), rv 1 (by decide), rv 2 (by decide)⟩
  obtain ⟨hu, hu1, hu2, hu3, hu4, hu5, hu6, hu7, hu8⟩ := hC.2.2.1
  have hV := hC.2.1
  have hx5 : pj_uc 5 x.1 = .inl (4, [.ref 6, .ref 7, .ref 8, .ref 9, .ref 10, .ref 11, .ref 12, .int (pj_pk (x.1 14) (x.1 15) (x.1 16)), .int (sp_bar x.1), .int (x.1 7), .int (x.1 6)]) := rfl
  unfold op_sensor
  rw [show sp_th 0 = 1 from by decide, if_neg (by decide : ¬ (1 : Int32) = 0), show (0 : Int32).toNatClampNeg = 0 from rfl]
  by_cases w0 : w = 0
  · subst w0
    rw [if_pos rfl]
    simp (disch := first | assumption | exact pj_long_i | exact pj_long_r | exact pj_long_n | decide) only [x44_0, x44_1, x44_4, x44_5, x44_6, x44_9, x44_11, x44_12, x44_48, x44_49, x44_52, x44_55, x44_56, x44_57, x44_59, simprocAttr, pj_then_s, pj_pv_s, pj_pi_s, pj_set_s, if_true, if_false, not_true_eq_false, not_false_eq_true, pj_up_up, pj_so110_109, pj_so111_109, pj_so112_109, pj_so113_109, pj_so114_109, pj_so115_109, pj_so116_109, pj_so117_109, pj_so111_110, pj_so112_110, pj_so113_110, pj_so114_110, pj_so115_110, pj_so116_110, pj_so117_110, pj_so112_111, pj_so113_111, pj_so114_111, pj_so115_111, pj_so116_111, pj_so117_111, pj_so113_112, pj_so114_112, pj_so115_112, pj_so116_112, pj_so117_112, pj_so114_113, pj_so115_113, pj_so116_113, pj_so117_113, pj_so115_114, pj_so116_114, pj_so117_114, pj_so116_115, pj_so117_115, pj_so117_116, pj_up_ap, pj_upd_ap, pj_a3_0, pj_a3_1, pj_a3_2, pj_a3_u0, pj_a3_u1, pj_a3_u2, pj_f5_0, pj_f4_1, pj_arl_i, hV, pj_vc, hu, hx5, hu2]
    exact t44_60
  rw [if_neg w0]
  by_cases w1 : w = 1
  · subst w1
    rw [if_pos rfl]
    simp (disch := first | assumption | exact pj_long_i | exact pj_long_r | exact pj_long_n | decide) only [x44_0, x44_1, x44_4, x44_5, x44_6, x44_9, x44_11, x44_12, x44_48, x44_49, x44_52, x44_55, x44_56, x44_57, x44_59, x44_61, x44_62, x44_65, x44_68, x44_69, x44_70, x44_72, simprocAttr, pj_then_s, pj_pv_s, pj_pi_s, pj_set_s, if_true, if_false, not_true_eq_false, not_false_eq_true, pj_up_up, pj_so110_109, pj_so111_109, pj_so112_109, pj_so113_109, pj_so114_109, pj_so115_109, pj_so116_109, pj_so117_109, pj_so111_110, pj_so112_110, pj_so113_110, pj_so114_110, pj_so115_110, pj_so116_110, pj_so117_110, pj_so112_111, pj_so113_111, pj_so114_111, pj_so115_111, pj_so116_111, pj_so117_111, pj_so113_112, pj_so114_112, pj_so115_112, pj_so116_112, pj_so117_112, pj_so114_113, pj_so115_113, pj_so116_113, pj_so117_113, pj_so115_114, pj_so116_114, pj_so117_114, pj_so116_115, pj_so117_115, pj_so117_116, pj_up_ap, pj_upd_ap, pj_a3_0, pj_a3_1, pj_a3_2, pj_a3_u0, pj_a3_u1, pj_a3_u2, pj_f5_0, pj_f4_1, pj_arl_i, pj_f4_2, hV, pj_vc, hu, hx5, hu3]
    exact t44_73
  rw [if_neg w1]
  by_cases w2 : w = 2
  · subst w2
    rw [if_pos rfl]
    simp (disch := first | assumption | exact pj_long_i | exact pj_long_r | exact pj_long_n | decide) only [x44_0, x44_1, x44_4, x44_5, x44_6, x44_9, x44_11, x44_12, x44_48, x44_49, x44_52, x44_55, x44_56, x44_57, x44_59, x44_61, x44_62, x44_65, x44_68, x44_69, x44_70, x44_72, x44_74, x44_75, x44_78, x44_81, simprocAttr, pj_then_s, pj_pv_s, pj_pi_s, pj_set_s, if_true, if_false, not_true_eq_false, not_false_eq_true, pj_up_up, pj_so110_109, pj_so111_109, pj_so112_109, pj_so113_109, pj_so114_109, pj_so115_109, pj_so116_109, pj_so117_109, pj_so111_110, pj_so112_110, pj_so113_110, pj_so114_110, pj_so115_110, pj_so116_110, pj_so117_110, pj_so112_111, pj_so113_111, pj_so114_111, pj_so115_111, pj_so116_111, pj_so117_111, pj_so113_112, pj_so114_112, pj_so115_112, pj_so116_112, pj_so117_112, pj_so114_113, pj_so115_113, pj_so116_113, pj_so117_113, pj_so115_114, pj_so116_114, pj_so117_114, pj_so116_115, pj_so117_115, pj_so117_116, pj_up_ap, pj_upd_ap, pj_a3_0, pj_a3_1, pj_a3_2, pj_a3_u0, pj_a3_u1, pj_a3_u2, pj_f5_0, pj_f4_1, pj_arl_i, pj_f4_2, pj_f4_7, hV, pj_vc, hu, hx5]
    refine e44_82 rfl (c_has_0 bv) ?_
    refine e44_85 rfl (c_asNumber (rv 0 (by decide))) ?_
    exact t44_88
  rw [if_neg w2]
  by_cases w3 : w = 3
  · subst w3
    rw [if_pos rfl]
    simp (disch := first | assumption | exact pj_long_i | exact pj_long_r | exact pj_long_n | decide) only [x44_0, x44_1, x44_4, x44_5, x44_6, x44_9, x44_11, x44_12, x44_48, x44_49, x44_52, x44_55, x44_56, x44_57, x44_59, x44_61, x44_62, x44_65, x44_68, x44_69, x44_70, x44_72, x44_74, x44_75, x44_78, x44_81, x44_89, x44_90, x44_93, x44_96, x44_97, simprocAttr, pj_then_s, pj_pv_s, pj_pi_s, pj_set_s, if_true, if_false, not_true_eq_false, not_false_eq_true, pj_up_up, pj_so110_109, pj_so111_109, pj_so112_109, pj_so113_109, pj_so114_109, pj_so115_109, pj_so116_109, pj_so117_109, pj_so111_110, pj_so112_110, pj_so113_110, pj_so114_110, pj_so115_110, pj_so116_110, pj_so117_110, pj_so112_111, pj_so113_111, pj_so114_111, pj_so115_111, pj_so116_111, pj_so117_111, pj_so113_112, pj_so114_112, pj_so115_112, pj_so116_112, pj_so117_112, pj_so114_113, pj_so115_113, pj_so116_113, pj_so117_113, pj_so115_114, pj_so116_114, pj_so117_114, pj_so116_115, pj_so117_115, pj_so117_116, pj_up_ap, pj_upd_ap, pj_a3_0, pj_a3_1, pj_a3_2, pj_a3_u0, pj_a3_u1, pj_a3_u2, pj_f5_0, pj_f4_1, pj_arl_i, pj_f4_2, pj_f4_7, pj_f4_3, hV, pj_vc, hu, hx5, hu4]
    exact t44_98
  rw [if_neg w3]
  by_cases w4 : w = 4
  · subst w4
    rw [if_pos rfl]
    by_cases c : x.1 6 = 0
    · rw [if_pos c]
      simp (disch := first | assumption | exact pj_long_i | exact pj_long_r | exact pj_long_n | decide) only [x44_0, x44_1, x44_4, x44_5, x44_6, x44_9, x44_11, x44_12, x44_48, x44_49, x44_52, x44_55, x44_56, x44_57, x44_59, x44_61, x44_62, x44_65, x44_68, x44_69, x44_70, x44_72, x44_74, x44_75, x44_78, x44_81, x44_89, x44_90, x44_93, x44_96, x44_97, x44_99, x44_100, x44_103, x44_106, x44_109, x44_111, simprocAttr, pj_then_s, pj_pv_s, pj_pi_s, pj_set_s, if_true, if_false, not_true_eq_false, not_false_eq_true, pj_up_up, pj_so110_109, pj_so111_109, pj_so112_109, pj_so113_109, pj_so114_109, pj_so115_109, pj_so116_109, pj_so117_109, pj_so111_110, pj_so112_110, pj_so113_110, pj_so114_110, pj_so115_110, pj_so116_110, pj_so117_110, pj_so112_111, pj_so113_111, pj_so114_111, pj_so115_111, pj_so116_111, pj_so117_111, pj_so113_112, pj_so114_112, pj_so115_112, pj_so116_112, pj_so117_112, pj_so114_113, pj_so115_113, pj_so116_113, pj_so117_113, pj_so115_114, pj_so116_114, pj_so117_114, pj_so116_115, pj_so117_115, pj_so117_116, pj_up_ap, pj_upd_ap, pj_a3_0, pj_a3_1, pj_a3_2, pj_a3_u0, pj_a3_u1, pj_a3_u2, pj_f5_0, pj_f4_1, pj_arl_i, pj_f4_2, pj_f4_7, pj_f4_3, pj_f4_10, hV, pj_vc, hu, hx5, c]
      exact t44_126
    · rw [if_neg c]
      simp (disch := first | assumption | exact pj_long_i | exact pj_long_r | exact pj_long_n | decide) only [x44_0, x44_1, x44_4, x44_5, x44_6, x44_9, x44_11, x44_12, x44_48, x44_49, x44_52, x44_55, x44_56, x44_57, x44_59, x44_61, x44_62, x44_65, x44_68, x44_69, x44_70, x44_72, x44_74, x44_75, x44_78, x44_81, x44_89, x44_90, x44_93, x44_96, x44_97, x44_99, x44_100, x44_103, x44_106, x44_109, x44_111, x44_114, x44_115, x44_118, x44_121, x44_122, x44_123, x44_125, simprocAttr, pj_then_s, pj_pv_s, pj_pi_s, pj_set_s, if_true, if_false, not_true_eq_false, not_false_eq_true, pj_up_up, pj_so110_109, pj_so111_109, pj_so112_109, pj_so113_109, pj_so114_109, pj_so115_109, pj_so116_109, pj_so117_109, pj_so111_110, pj_so112_110, pj_so113_110, pj_so114_110, pj_so115_110, pj_so116_110, pj_so117_110, pj_so112_111, pj_so113_111, pj_so114_111, pj_so115_111, pj_so116_111, pj_so117_111, pj_so113_112, pj_so114_112, pj_so115_112, pj_so116_112, pj_so117_112, pj_so114_113, pj_so115_113, pj_so116_113, pj_so117_113, pj_so115_114, pj_so116_114, pj_so117_114, pj_so116_115, pj_so117_115, pj_so117_116, pj_up_ap, pj_upd_ap, pj_a3_0, pj_a3_1, pj_a3_2, pj_a3_u0, pj_a3_u1, pj_a3_u2, pj_f5_0, pj_f4_1, pj_arl_i, pj_f4_2, pj_f4_7, pj_f4_3, pj_f4_10, pj_f4_4, hV, pj_vc, hu, hx5, hu5, c]
      exact t44_126
  rw [if_neg w4]
  simp (disch := first | assumption | exact pj_long_i | exact pj_long_r | exact pj_long_n | decide) only [x44_0, x44_1, x44_4, x44_5, x44_6, x44_9, x44_11, x44_12, x44_48, x44_49, x44_52, x44_55, x44_56, x44_57, x44_59, x44_61, x44_62, x44_65, x44_68, x44_69, x44_70, x44_72, x44_74, x44_75, x44_78, x44_81, x44_89, x44_90, x44_93, x44_96, x44_97, x44_99, x44_100, x44_103, x44_106, x44_109, x44_111, x44_114, x44_115, x44_118, x44_121, x44_122, x44_123, x44_125, x44_127, simprocAttr, pj_then_s, pj_pv_s, pj_pi_s, pj_set_s, if_true, if_false, not_true_eq_false, not_false_eq_true, pj_up_up, pj_so110_109, pj_so111_109, pj_so112_109, pj_so113_109, pj_so114_109, pj_so115_109, pj_so116_109, pj_so117_109, pj_so111_110, pj_so112_110, pj_so113_110, pj_so114_110, pj_so115_110, pj_so116_110, pj_so117_110, pj_so112_111, pj_so113_111, pj_so114_111, pj_so115_111, pj_so116_111, pj_so117_111, pj_so113_112, pj_so114_112, pj_so115_112, pj_so116_112, pj_so117_112, pj_so114_113, pj_so115_113, pj_so116_113, pj_so117_113, pj_so115_114, pj_so116_114, pj_so117_114, pj_so116_115, pj_so117_115, pj_so117_116, pj_up_ap, pj_upd_ap, pj_a3_0, pj_a3_1, pj_a3_2, pj_a3_u0, pj_a3_u1, pj_a3_u2, pj_f5_0, pj_f4_1, pj_arl_i, pj_f4_2, pj_f4_7, pj_f4_3, pj_f4_10, pj_f4_4, w0, w1, w2, w3, w4]
  exact t44_129
theorem c_stage_0 (hx : pj_In x) (hC : pj_C H x) : pj_Ends 45 (0, [some (.ref 4), some (.int 0), some (.int w)], [], (N, S, H)) (some (.int (op_stage x.1 0 w)), (N, S, H)) := by
  obtain ⟨t, ht, hR⟩ := hx.1
  obtain ⟨-, -, -, -, rv, -⟩ := hR
  have bv : pj_b3 (x.1 26) (x.1 27) (x.1 28) := ⟨rv 0 (by decide), rv 1 (by decide), rv 2 (by decide)⟩
  obtain ⟨hu, hu1, hu2, hu3, hu4, hu5, hu6, hu7, hu8⟩ := hC.2.2.1
  have hV := hC.2.1
  have hx5 : pj_uc 5 x.1 = .inl (4, [.ref 6, .ref 7, .ref 8, .ref 9, .ref 10, .ref 11, .ref 12, .int (sp_vot x.1), .int (pj_pk (x.1 26) (x.1 27) (x.1 28)), .int (x.1 7), .int (x.1 6)]) := rfl
  unfold op_stage
  rw [show sp_th 0 = 1 from by decide, if_neg (by decide : ¬ (1 : Int32) = 0), show (0 : Int32).toNatClampNeg = 0 from rfl]
  by_cases w0 : w = 0
  · subst w0
    rw [if_pos rfl]
    simp (disch := first | assumption | exact pj_long_i | exact pj_long_r | exact pj_long_n | decide) only [x45_0, x45_1, x45_4, x45_5, x45_6, x45_9, x45_11, x45_12, x45_40, x45_41, x45_44, x45_47, x45_48, simprocAttr, pj_then_s, pj_pv_s, pj_pi_s, pj_set_s, if_true, if_false, not_true_eq_false, not_false_eq_true, pj_up_up, pj_so110_109, pj_so111_109, pj_so112_109, pj_so113_109, pj_so114_109, pj_so115_109, pj_so116_109, pj_so117_109, pj_so111_110, pj_so112_110, pj_so113_110, pj_so114_110, pj_so115_110, pj_so116_110, pj_so117_110, pj_so112_111, pj_so113_111, pj_so114_111, pj_so115_111, pj_so116_111, pj_so117_111, pj_so113_112, pj_so114_112, pj_so115_112, pj_so116_112, pj_so117_112, pj_so114_113, pj_so115_113, pj_so116_113, pj_so117_113, pj_so115_114, pj_so116_114, pj_so117_114, pj_so116_115, pj_so117_115, pj_so117_116, pj_up_ap, pj_upd_ap, pj_a3_0, pj_a3_1, pj_a3_2, pj_a3_u0, pj_a3_u1, pj_a3_u2, pj_f5_0, pj_f4_5, pj_arl_i, hV, pj_vc, hu, hx5, hu6]
    exact t45_49
  rw [if_neg w0]
  by_cases w1 : w = 1
  · subst w1
    rw [if_pos rfl]
    simp (disch := first | assumption | exact pj_long_i | exact pj_long_r | exact pj_long_n | decide) only [x45_0, x45_1, x45_4, x45_5, x45_6, x45_9, x45_11, x45_12, x45_40, x45_41, x45_44, x45_47, x45_48, x45_50, x45_51, x45_54, x45_57, simprocAttr, pj_then_s, pj_pv_s, pj_pi_s, pj_set_s, if_true, if_false, not_true_eq_false, not_false_eq_true, pj_up_up, pj_so110_109, pj_so111_109, pj_so112_109, pj_so113_109, pj_so114_109, pj_so115_109, pj_so116_109, pj_so117_109, pj_so111_110, pj_so112_110, pj_so113_110, pj_so114_110, pj_so115_110, pj_so116_110, pj_so117_110, pj_so112_111, pj_so113_111, pj_so114_111, pj_so115_111, pj_so116_111, pj_so117_111, pj_so113_112, pj_so114_112, pj_so115_112, pj_so116_112, pj_so117_112, pj_so114_113, pj_so115_113, pj_so116_113, pj_so117_113, pj_so115_114, pj_so116_114, pj_so117_114, pj_so116_115, pj_so117_115, pj_so117_116, pj_up_ap, pj_upd_ap, pj_a3_0, pj_a3_1, pj_a3_2, pj_a3_u0, pj_a3_u1, pj_a3_u2, pj_f5_0, pj_f4_5, pj_arl_i, pj_f4_8, hV, pj_vc, hu, hx5]
    refine e45_58 rfl (c_has_0 bv) ?_
    refine e45_61 rfl (c_asNumber (rv 0 (by decide))) ?_
    exact t45_64
  rw [if_neg w1]
  simp (disch := first | assumption | exact pj_long_i | exact pj_long_r | exact pj_long_n | decide) only [x45_0, x45_1, x45_4, x45_5, x45_6, x45_9, x45_11, x45_12, x45_40, x45_41, x45_44, x45_47, x45_48, x45_50, x45_51, x45_54, x45_57, x45_65, simprocAttr, pj_then_s, pj_pv_s, pj_pi_s, pj_set_s, if_true, if_false, not_true_eq_false, not_false_eq_true, pj_up_up, pj_so110_109, pj_so111_109, pj_so112_109, pj_so113_109, pj_so114_109, pj_so115_109, pj_so116_109, pj_so117_109, pj_so111_110, pj_so112_110, pj_so113_110, pj_so114_110, pj_so115_110, pj_so116_110, pj_so117_110, pj_so112_111, pj_so113_111, pj_so114_111, pj_so115_111, pj_so116_111, pj_so117_111, pj_so113_112, pj_so114_112, pj_so115_112, pj_so116_112, pj_so117_112, pj_so114_113, pj_so115_113, pj_so116_113, pj_so117_113, pj_so115_114, pj_so116_114, pj_so117_114, pj_so116_115, pj_so117_115, pj_so117_116, pj_up_ap, pj_upd_ap, pj_a3_0, pj_a3_1, pj_a3_2, pj_a3_u0, pj_a3_u1, pj_a3_u2, pj_f5_0, pj_f4_5, pj_arl_i, pj_f4_8, w0, w1]
  exact t45_67
theorem c_sensor_1 (hx : pj_In x) (hC : pj_C H x) : pj_Ends 44 (0, [some (.ref 4), some (.int 1), some (.int w)], [], (N, S, H)) (some (.int (op_sensor x.1 1 w)), (N, S, H)) := by
  obtain ⟨t, ht, hR⟩ := hx.1
  obtain ⟨-, -, -, rv, -⟩ := hR
  have bv : pj_b3 (x.1 14) (x.1 15) (x.1 16) := ⟨rv 0 (by decide), rv 1 (by decide), rv 2 (by decide)⟩
  obtain ⟨hu, hu1, hu2, hu3, hu4, hu5, hu6, hu7, hu8⟩ := hC.2.2.1
  have hV := hC.2.1
  have hx5 : pj_uc 5 x.1 = .inl (4, [.ref 6, .ref 7, .ref 8, .ref 9, .ref 10, .ref 11, .ref 12, .int (pj_pk (x.1 14) (x.1 15) (x.1 16)), .int (sp_bar x.1), .int (x.1 7), .int (x.1 6)]) := rfl
  unfold op_sensor
  rw [show sp_th 1 = 1 from by decide, if_neg (by decide : ¬ (1 : Int32) = 0), show (1 : Int32).toNatClampNeg = 1 from rfl]
  by_cases w0 : w = 0
  · subst w0
    rw [if_pos rfl]
    simp (disch := first | assumption | exact pj_long_i | exact pj_long_r | exact pj_long_n | decide) only [x44_0, x44_1, x44_4, x44_5, x44_6, x44_9, x44_11, x44_12, x44_48, x44_49, x44_52, x44_55, x44_56, x44_57, x44_59, simprocAttr, pj_then_s, pj_pv_s, pj_pi_s, pj_set_s, if_true, if_false, not_true_eq_false, not_false_eq_true, pj_up_up, pj_so110_109, pj_so111_109, pj_so112_109, pj_so113_109, pj_so114_109, pj_so115_109, pj_so116_109, pj_so117_109, pj_so111_110, pj_so112_110, pj_so113_110, pj_so114_110, pj_so115_110, pj_so116_110, pj_so117_110, pj_so112_111, pj_so113_111, pj_so114_111, pj_so115_111, pj_so116_111, pj_so117_111, pj_so113_112, pj_so114_112, pj_so115_112, pj_so116_112, pj_so117_112, pj_so114_113, pj_so115_113, pj_so116_113, pj_so117_113, pj_so115_114, pj_so116_114, pj_so117_114, pj_so116_115, pj_so117_115, pj_so117_116, pj_up_ap, pj_upd_ap, pj_a3_0, pj_a3_1, pj_a3_2, pj_a3_u0, pj_a3_u1, pj_a3_u2, pj_f5_0, pj_f4_1, pj_arl_i, hV, pj_vc, hu, hx5, hu2]
    exact t44_60
  rw [if_neg w0]
  by_cases w1 : w = 1
  · subst w1
    rw [if_pos rfl]
    simp (disch := first | assumption | exact pj_long_i | exact pj_long_r | exact pj_long_n | decide) only [x44_0, x44_1, x44_4, x44_5, x44_6, x44_9, x44_11, x44_12, x44_48, x44_49, x44_52, x44_55, x44_56, x44_57, x44_59, x44_61, x44_62, x44_65, x44_68, x44_69, x44_70, x44_72, simprocAttr, pj_then_s, pj_pv_s, pj_pi_s, pj_set_s, if_true, if_false, not_true_eq_false, not_false_eq_true, pj_up_up, pj_so110_109, pj_so111_109, pj_so112_109, pj_so113_109, pj_so114_109, pj_so115_109, pj_so116_109, pj_so117_109, pj_so111_110, pj_so112_110, pj_so113_110, pj_so114_110, pj_so115_110, pj_so116_110, pj_so117_110, pj_so112_111, pj_so113_111, pj_so114_111, pj_so115_111, pj_so116_111, pj_so117_111, pj_so113_112, pj_so114_112, pj_so115_112, pj_so116_112, pj_so117_112, pj_so114_113, pj_so115_113, pj_so116_113, pj_so117_113, pj_so115_114, pj_so116_114, pj_so117_114, pj_so116_115, pj_so117_115, pj_so117_116, pj_up_ap, pj_upd_ap, pj_a3_0, pj_a3_1, pj_a3_2, pj_a3_u0, pj_a3_u1, pj_a3_u2, pj_f5_0, pj_f4_1, pj_arl_i, pj_f4_2, hV, pj_vc, hu, hx5, hu3]
    exact t44_73
  rw [if_neg w1]
  by_cases w2 : w = 2
  · subst w2
    rw [if_pos rfl]
    simp (disch := first | assumption | exact pj_long_i | exact pj_long_r | exact pj_long_n | decide) only [x44_0, x44_1, x44_4, x44_5, x44_6, x44_9, x44_11, x44_12, x44_48, x44_49, x44_52, x44_55, x44_56, x44_57, x44_59, x44_61, x44_62, x44_65, x44_68, x44_69, x44_70, x44_72, x44_74, x44_75, x44_78, x44_81, simprocAttr, pj_then_s, pj_pv_s, pj_pi_s, pj_set_s, if_true, if_false, not_true_eq_false, not_false_eq_true, pj_up_up, pj_so110_109, pj_so111_109, pj_so112_109, pj_so113_109, pj_so114_109, pj_so115_109, pj_so116_109, pj_so117_109, pj_so111_110, pj_so112_110, pj_so113_110, pj_so114_110, pj_so115_110, pj_so116_110, pj_so117_110, pj_so112_111, pj_so113_111, pj_so114_111, pj_so115_111, pj_so116_111, pj_so117_111, pj_so113_112, pj_so114_112, pj_so115_112, pj_so116_112, pj_so117_112, pj_so114_113, pj_so115_113, pj_so116_113, pj_so117_113, pj_so115_114, pj_so116_114, pj_so117_114, pj_so116_115, pj_so117_115, pj_so117_116, pj_up_ap, pj_upd_ap, pj_a3_0, pj_a3_1, pj_a3_2, pj_a3_u0, pj_a3_u1, pj_a3_u2, pj_f5_0, pj_f4_1, pj_arl_i, pj_f4_2, pj_f4_7, hV, pj_vc, hu, hx5]
    refine e44_82 rfl (c_has_1 bv) ?_
    refine e44_85 rfl (c_asNumber (rv 1 (by decide))) ?_
    exact t44_88
  rw [if_neg w2]
  by_cases w3 : w = 3
  · subst w3
    rw [if_pos rfl]
    simp (disch := first | assumption | exact pj_long_i | exact pj_long_r | exact pj_long_n | decide) only [x44_0, x44_1, x44_4, x44_5, x44_6, x44_9, x44_11, x44_12, x44_48, x44_49, x44_52, x44_55, x44_56, x44_57, x44_59, x44_61, x44_62, x44_65, x44_68, x44_69, x44_70, x44_72, x44_74, x44_75, x44_78, x44_81, x44_89, x44_90, x44_93, x44_96, x44_97, simprocAttr, pj_then_s, pj_pv_s, pj_pi_s, pj_set_s, if_true, if_false, not_true_eq_false, not_false_eq_true, pj_up_up, pj_so110_109, pj_so111_109, pj_so112_109, pj_so113_109, pj_so114_109, pj_so115_109, pj_so116_109, pj_so117_109, pj_so111_110, pj_so112_110, pj_so113_110, pj_so114_110, pj_so115_110, pj_so116_110, pj_so117_110, pj_so112_111, pj_so113_111, pj_so114_111, pj_so115_111, pj_so116_111, pj_so117_111, pj_so113_112, pj_so114_112, pj_so115_112, pj_so116_112, pj_so117_112, pj_so114_113, pj_so115_113, pj_so116_113, pj_so117_113, pj_so115_114, pj_so116_114, pj_so117_114, pj_so116_115, pj_so117_115, pj_so117_116, pj_up_ap, pj_upd_ap, pj_a3_0, pj_a3_1, pj_a3_2, pj_a3_u0, pj_a3_u1, pj_a3_u2, pj_f5_0, pj_f4_1, pj_arl_i, pj_f4_2, pj_f4_7, pj_f4_3, hV, pj_vc, hu, hx5, hu4]
    exact t44_98
  rw [if_neg w3]
  by_cases w4 : w = 4
  · subst w4
    rw [if_pos rfl]
    by_cases c : x.1 6 = 0
    · rw [if_pos c]
      simp (disch := first | assumption | exact pj_long_i | exact pj_long_r | exact pj_long_n | decide) only [x44_0, x44_1, x44_4, x44_5, x44_6, x44_9, x44_11, x44_12, x44_48, x44_49, x44_52, x44_55, x44_56, x44_57, x44_59, x44_61, x44_62, x44_65, x44_68, x44_69, x44_70, x44_72, x44_74, x44_75, x44_78, x44_81, x44_89, x44_90, x44_93, x44_96, x44_97, x44_99, x44_100, x44_103, x44_106, x44_109, x44_111, simprocAttr, pj_then_s, pj_pv_s, pj_pi_s, pj_set_s, if_true, if_false, not_true_eq_false, not_false_eq_true, pj_up_up, pj_so110_109, pj_so111_109, pj_so112_109, pj_so113_109, pj_so114_109, pj_so115_109, pj_so116_109, pj_so117_109, pj_so111_110, pj_so112_110, pj_so113_110, pj_so114_110, pj_so115_110, pj_so116_110, pj_so117_110, pj_so112_111, pj_so113_111, pj_so114_111, pj_so115_111, pj_so116_111, pj_so117_111, pj_so113_112, pj_so114_112, pj_so115_112, pj_so116_112, pj_so117_112, pj_so114_113, pj_so115_113, pj_so116_113, pj_so117_113, pj_so115_114, pj_so116_114, pj_so117_114, pj_so116_115, pj_so117_115, pj_so117_116, pj_up_ap, pj_upd_ap, pj_a3_0, pj_a3_1, pj_a3_2, pj_a3_u0, pj_a3_u1, pj_a3_u2, pj_f5_0, pj_f4_1, pj_arl_i, pj_f4_2, pj_f4_7, pj_f4_3, pj_f4_10, hV, pj_vc, hu, hx5, c]
      exact t44_126
    · rw [if_neg c]
      simp (disch := first | assumption | exact pj_long_i | exact pj_long_r | exact pj_long_n | decide) only [x44_0, x44_1, x44_4, x44_5, x44_6, x44_9, x44_11, x44_12, x44_48, x44_49, x44_52, x44_55, x44_56, x44_57, x44_59, x44_61, x44_62, x44_65, x44_68, x44_69, x44_70, x44_72, x44_74, x44_75, x44_78, x44_81, x44_89, x44_90, x44_93, x44_96, x44_97, x44_99, x44_100, x44_103, x44_106, x44_109, x44_111, x44_114, x44_115, x44_118, x44_121, x44_122, x44_123, x44_125, simprocAttr, pj_then_s, pj_pv_s, pj_pi_s, pj_set_s, if_true, if_false, not_true_eq_false, not_false_eq_true, pj_up_up, pj_so110_109, pj_so111_109, pj_so112_109, pj_so113_109, pj_so114_109, pj_so115_109, pj_so116_109, pj_so117_109, pj_so111_110, pj_so112_110, pj_so113_110, pj_so114_110, pj_so115_110, pj_so116_110, pj_so117_110, pj_so112_111, pj_so113_111, pj_so114_111, pj_so115_111, pj_so116_111, pj_so117_111, pj_so113_112, pj_so114_112, pj_so115_112, pj_so116_112, pj_so117_112, pj_so114_113, pj_so115_113, pj_so116_113, pj_so117_113, pj_so115_114, pj_so116_114, pj_so117_114, pj_so116_115, pj_so117_115, pj_so117_116, pj_up_ap, pj_upd_ap, pj_a3_0, pj_a3_1, pj_a3_2, pj_a3_u0, pj_a3_u1, pj_a3_u2, pj_f5_0, pj_f4_1, pj_arl_i, pj_f4_2, pj_f4_7, pj_f4_3, pj_f4_10, pj_f4_4, hV, pj_vc, hu, hx5, hu5, c]
      exact t44_126
  rw [if_neg w4]
  simp (disch := first | assumption | exact pj_long_i | exact pj_long_r | exact pj_long_n | decide) only [x44_0, x44_1, x44_4, x44_5, x44_6, x44_9, x44_11, x44_12, x44_48, x44_49, x44_52, x44_55, x44_56, x44_57, x44_59, x44_61, x44_62, x44_65, x44_68, x44_69, x44_70, x44_72, x44_74, x44_75, x44_78, x44_81, x44_89, x44_90, x44_93, x44_96, x44_97, x44_99, x44_100, x44_103, x44_106, x44_109, x44_111, x44_114, x44_115, x44_118, x44_121, x44_122, x44_123, x44_125, x44_127, simprocAttr, pj_then_s, pj_pv_s, pj_pi_s, pj_set_s, if_true, if_false, not_true_eq_false, not_false_eq_true, pj_up_up, pj_so110_109, pj_so111_109, pj_so112_109, pj_so113_109, pj_so114_109, pj_so115_109, pj_so116_109, pj_so117_109, pj_so111_110, pj_so112_110, pj_so113_110, pj_so114_110, pj_so115_110, pj_so116_110, pj_so117_110, pj_so112_111, pj_so113_111, pj_so114_111, pj_so115_111, pj_so116_111, pj_so117_111, pj_so113_112, pj_so114_112, pj_so115_112, pj_so116_112, pj_so117_112, pj_so114_113, pj_so115_113, pj_so116_113, pj_so117_113, pj_so115_114, pj_so116_114, pj_so117_114, pj_so116_115, pj_so117_115, pj_so117_116, pj_up_ap, pj_upd_ap, pj_a3_0, pj_a3_1, pj_a3_2, pj_a3_u0, pj_a3_u1, pj_a3_u2, pj_f5_0, pj_f4_1, pj_arl_i, pj_f4_2, pj_f4_7, pj_f4_3, pj_f4_10, pj_f4_4, w0, w1, w2, w3, w4]
  exact t44_129
theorem c_stage_1 (hx : pj_In x) (hC : pj_C H x) : pj_Ends 45 (0, [some (.ref 4), some (.int 1), some (.int w)], [], (N, S, H)) (some (.int (op_stage x.1 1 w)), (N, S, H)) := by
  obtain ⟨t, ht, hR⟩ := hx.1
  obtain ⟨-, -, -, -, rv, -⟩ := hR
  have bv : pj_b3 (x.1 26) (x.1 27) (x.1 28) := ⟨rv 0 (by decide), rv 1 (by decide), rv 2 (by decide)⟩
  obtain ⟨hu, hu1, hu2, hu3, hu4, hu5, hu6, hu7, hu8⟩ := hC.2.2.1
  have hV := hC.2.1
  have hx5 : pj_uc 5 x.1 = .inl (4, [.ref 6, .ref 7, .ref 8, .ref 9, .ref 10, .ref 11, .ref 12, .int (sp_vot x.1), .int (pj_pk (x.1 26) (x.1 27) (x.1 28)), .int (x.1 7), .int (x.1 6)]) := rfl
  unfold op_stage
  rw [show sp_th 1 = 1 from by decide, if_neg (by decide : ¬ (1 : Int32) = 0), show (1 : Int32).toNatClampNeg = 1 from rfl]
  by_cases w0 : w = 0
  · subst w0
    rw [if_pos rfl]
    simp (disch := first | assumption | exact pj_long_i | exact pj_long_r | exact pj_long_n | decide) only [x45_0, x45_1, x45_4, x45_5, x45_6, x45_9, x45_11, x45_12, x45_40, x45_41, x45_44, x45_47, x45_48, simprocAttr, pj_then_s, pj_pv_s, pj_pi_s, pj_set_s, if_true, if_false, not_true_eq_false, not_false_eq_true, pj_up_up, pj_so110_109, pj_so111_109, pj_so112_109, pj_so113_109, pj_so114_109, pj_so115_109, pj_so116_109, pj_so117_109, pj_so111_110, pj_so112_110, pj_so113_110, pj_so114_110, pj_so115_110, pj_so116_110, pj_so117_110, pj_so112_111, pj_so113_111, pj_so114_111, pj_so115_111, pj_so116_111, pj_so117_111, pj_so113_112, pj_so114_112, pj_so115_112, pj_so116_112, pj_so117_112, pj_so114_113, pj_so115_113, pj_so116_113, pj_so117_113, pj_so115_114, pj_so116_114, pj_so117_114, pj_so116_115, pj_so117_115, pj_so117_116, pj_up_ap, pj_upd_ap, pj_a3_0, pj_a3_1, pj_a3_2, pj_a3_u0, pj_a3_u1, pj_a3_u2, pj_f5_0, pj_f4_5, pj_arl_i, hV, pj_vc, hu, hx5, hu6]
    exact t45_49
  rw [if_neg w0]
  by_cases w1 : w = 1
  · subst w1
    rw [if_pos rfl]
    simp (disch := first | assumption | exact pj_long_i | exact pj_long_r | exact pj_long_n | decide) only [x45_0, x45_1, x45_4, x45_5, x45_6, x45_9, x45_11, x45_12, x45_40, x45_41, x45_44, x45_47, x45_48, x45_50, x45_51, x45_54, x45_57, simprocAttr, pj_then_s, pj_pv_s, pj_pi_s, pj_set_s, if_true, if_false, not_true_eq_false, not_false_eq_true, pj_up_up, pj_so110_109, pj_so111_109, pj_so112_109, pj_so113_109, pj_so114_109, pj_so115_109, pj_so116_109, pj_so117_109, pj_so111_110, pj_so112_110, pj_so113_110, pj_so114_110, pj_so115_110, pj_so116_110, pj_so117_110, pj_so112_111, pj_so113_111, pj_so114_111, pj_so115_111, pj_so116_111, pj_so117_111, pj_so113_112, pj_so114_112, pj_so115_112, pj_so116_112, pj_so117_112, pj_so114_113, pj_so115_113, pj_so116_113, pj_so117_113, pj_so115_114, pj_so116_114, pj_so117_114, pj_so116_115, pj_so117_115, pj_so117_116, pj_up_ap, pj_upd_ap, pj_a3_0, pj_a3_1, pj_a3_2, pj_a3_u0, pj_a3_u1, pj_a3_u2, pj_f5_0, pj_f4_5, pj_arl_i, pj_f4_8, hV, pj_vc, hu, hx5]
    refine e45_58 rfl (c_has_1 bv) ?_
    refine e45_61 rfl (c_asNumber (rv 1 (by decide))) ?_
    exact t45_64
  rw [if_neg w1]
  simp (disch := first | assumption | exact pj_long_i | exact pj_long_r | exact pj_long_n | decide) only [x45_0, x45_1, x45_4, x45_5, x45_6, x45_9, x45_11, x45_12, x45_40, x45_41, x45_44, x45_47, x45_48, x45_50, x45_51, x45_54, x45_57, x45_65, simprocAttr, pj_then_s, pj_pv_s, pj_pi_s, pj_set_s, if_true, if_false, not_true_eq_false, not_false_eq_true, pj_up_up, pj_so110_109, pj_so111_109, pj_so112_109, pj_so113_109, pj_so114_109, pj_so115_109, pj_so116_109, pj_so117_109, pj_so111_110, pj_so112_110, pj_so113_110, pj_so114_110, pj_so115_110, pj_so116_110, pj_so117_110, pj_so112_111, pj_so113_111, pj_so114_111, pj_so115_111, pj_so116_111, pj_so117_111, pj_so113_112, pj_so114_112, pj_so115_112, pj_so116_112, pj_so117_112, pj_so114_113, pj_so115_113, pj_so116_113, pj_so117_113, pj_so115_114, pj_so116_114, pj_so117_114, pj_so116_115, pj_so117_115, pj_so117_116, pj_up_ap, pj_upd_ap, pj_a3_0, pj_a3_1, pj_a3_2, pj_a3_u0, pj_a3_u1, pj_a3_u2, pj_f5_0, pj_f4_5, pj_arl_i, pj_f4_8, w0, w1]
  exact t45_67
theorem c_sensor_2 (hx : pj_In x) (hC : pj_C H x) : pj_Ends 44 (0, [some (.ref 4), some (.int 2), some (.int w)], [], (N, S, H)) (some (.int (op_sensor x.1 2 w)), (N, S, H)) := by
  obtain ⟨t, ht, hR⟩ := hx.1
  obtain ⟨-, -, -, rv, -⟩ := hR
  have bv : pj_b3 (x.1 14) (x.1 15) (x.1 16) := ⟨rv 0 (by decide), rv 1 (by decide), rv 2 (by decide)⟩
  obtain ⟨hu, hu1, hu2, hu3, hu4, hu5, hu6, hu7, hu8⟩ := hC.2.2.1
  have hV := hC.2.1
  have hx5 : pj_uc 5 x.1 = .inl (4, [.ref 6, .ref 7, .ref 8, .ref 9, .ref 10, .ref 11, .ref 12, .int (pj_pk (x.1 14) (x.1 15) (x.1 16)), .int (sp_bar x.1), .int (x.1 7), .int (x.1 6)]) := rfl
  unfold op_sensor
  rw [show sp_th 2 = 1 from by decide, if_neg (by decide : ¬ (1 : Int32) = 0), show (2 : Int32).toNatClampNeg = 2 from rfl]
  by_cases w0 : w = 0
  · subst w0
    rw [if_pos rfl]
    simp (disch := first | assumption | exact pj_long_i | exact pj_long_r | exact pj_long_n | decide) only [x44_0, x44_1, x44_4, x44_5, x44_6, x44_9, x44_11, x44_12, x44_48, x44_49, x44_52, x44_55, x44_56, x44_57, x44_59, simprocAttr, pj_then_s, pj_pv_s, pj_pi_s, pj_set_s, if_true, if_false, not_true_eq_false, not_false_eq_true, pj_up_up, pj_so110_109, pj_so111_109, pj_so112_109, pj_so113_109, pj_so114_109, pj_so115_109, pj_so116_109, pj_so117_109, pj_so111_110, pj_so112_110, pj_so113_110, pj_so114_110, pj_so115_110, pj_so116_110, pj_so117_110, pj_so112_111, pj_so113_111, pj_so114_111, pj_so115_111, pj_so116_111, pj_so117_111, pj_so113_112, pj_so114_112, pj_so115_112, pj_so116_112, pj_so117_112, pj_so114_113, pj_so115_113, pj_so116_113, pj_so117_113, pj_so115_114, pj_so116_114, pj_so117_114, pj_so116_115, pj_so117_115, pj_so117_116, pj_up_ap, pj_upd_ap, pj_a3_0, pj_a3_1, pj_a3_2, pj_a3_u0, pj_a3_u1, pj_a3_u2, pj_f5_0, pj_f4_1, pj_arl_i, hV, pj_vc, hu, hx5, hu2]
    exact t44_60
  rw [if_neg w0]
  by_cases w1 : w = 1
  · subst w1
    rw [if_pos rfl]
    simp (disch := first | assumption | exact pj_long_i | exact pj_long_r | exact pj_long_n | decide) only [x44_0, x44_1, x44_4, x44_5, x44_6, x44_9, x44_11, x44_12, x44_48, x44_49, x44_52, x44_55, x44_56, x44_57, x44_59, x44_61, x44_62, x44_65, x44_68, x44_69, x44_70, x44_72, simprocAttr, pj_then_s, pj_pv_s, pj_pi_s, pj_set_s, if_true, if_false, not_true_eq_false, not_false_eq_true, pj_up_up, pj_so110_109, pj_so111_109, pj_so112_109, pj_so113_109, pj_so114_109, pj_so115_109, pj_so116_109, pj_so117_109, pj_so111_110, pj_so112_110, pj_so113_110, pj_so114_110, pj_so115_110, pj_so116_110, pj_so117_110, pj_so112_111, pj_so113_111, pj_so114_111, pj_so115_111, pj_so116_111, pj_so117_111, pj_so113_112, pj_so114_112, pj_so115_112, pj_so116_112, pj_so117_112, pj_so114_113, pj_so115_113, pj_so116_113, pj_so117_113, pj_so115_114, pj_so116_114, pj_so117_114, pj_so116_115, pj_so117_115, pj_so117_116, pj_up_ap, pj_upd_ap, pj_a3_0, pj_a3_1, pj_a3_2, pj_a3_u0, pj_a3_u1, pj_a3_u2, pj_f5_0, pj_f4_1, pj_arl_i, pj_f4_2, hV, pj_vc, hu, hx5, hu3]
    exact t44_73
  rw [if_neg w1]
  by_cases w2 : w = 2
  · subst w2
    rw [if_pos rfl]
    simp (disch := first | assumption | exact pj_long_i | exact pj_long_r | exact pj_long_n | decide) only [x44_0, x44_1, x44_4, x44_5, x44_6, x44_9, x44_11, x44_12, x44_48, x44_49, x44_52, x44_55, x44_56, x44_57, x44_59, x44_61, x44_62, x44_65, x44_68, x44_69, x44_70, x44_72, x44_74, x44_75, x44_78, x44_81, simprocAttr, pj_then_s, pj_pv_s, pj_pi_s, pj_set_s, if_true, if_false, not_true_eq_false, not_false_eq_true, pj_up_up, pj_so110_109, pj_so111_109, pj_so112_109, pj_so113_109, pj_so114_109, pj_so115_109, pj_so116_109, pj_so117_109, pj_so111_110, pj_so112_110, pj_so113_110, pj_so114_110, pj_so115_110, pj_so116_110, pj_so117_110, pj_so112_111, pj_so113_111, pj_so114_111, pj_so115_111, pj_so116_111, pj_so117_111, pj_so113_112, pj_so114_112, pj_so115_112, pj_so116_112, pj_so117_112, pj_so114_113, pj_so115_113, pj_so116_113, pj_so117_113, pj_so115_114, pj_so116_114, pj_so117_114, pj_so116_115, pj_so117_115, pj_so117_116, pj_up_ap, pj_upd_ap, pj_a3_0, pj_a3_1, pj_a3_2, pj_a3_u0, pj_a3_u1, pj_a3_u2, pj_f5_0, pj_f4_1, pj_arl_i, pj_f4_2, pj_f4_7, hV, pj_vc, hu, hx5]
    refine e44_82 rfl (c_has_2 bv) ?_
    refine e44_85 rfl (c_asNumber (rv 2 (by decide))) ?_
    exact t44_88
  rw [if_neg w2]
  by_cases w3 : w = 3
  · subst w3
    rw [if_pos rfl]
    simp (disch := first | assumption | exact pj_long_i | exact pj_long_r | exact pj_long_n | decide) only [x44_0, x44_1, x44_4, x44_5, x44_6, x44_9, x44_11, x44_12, x44_48, x44_49, x44_52, x44_55, x44_56, x44_57, x44_59, x44_61, x44_62, x44_65, x44_68, x44_69, x44_70, x44_72, x44_74, x44_75, x44_78, x44_81, x44_89, x44_90, x44_93, x44_96, x44_97, simprocAttr, pj_then_s, pj_pv_s, pj_pi_s, pj_set_s, if_true, if_false, not_true_eq_false, not_false_eq_true, pj_up_up, pj_so110_109, pj_so111_109, pj_so112_109, pj_so113_109, pj_so114_109, pj_so115_109, pj_so116_109, pj_so117_109, pj_so111_110, pj_so112_110, pj_so113_110, pj_so114_110, pj_so115_110, pj_so116_110, pj_so117_110, pj_so112_111, pj_so113_111, pj_so114_111, pj_so115_111, pj_so116_111, pj_so117_111, pj_so113_112, pj_so114_112, pj_so115_112, pj_so116_112, pj_so117_112, pj_so114_113, pj_so115_113, pj_so116_113, pj_so117_113, pj_so115_114, pj_so116_114, pj_so117_114, pj_so116_115, pj_so117_115, pj_so117_116, pj_up_ap, pj_upd_ap, pj_a3_0, pj_a3_1, pj_a3_2, pj_a3_u0, pj_a3_u1, pj_a3_u2, pj_f5_0, pj_f4_1, pj_arl_i, pj_f4_2, pj_f4_7, pj_f4_3, hV, pj_vc, hu, hx5, hu4]
    exact t44_98
  rw [if_neg w3]
  by_cases w4 : w = 4
  · subst w4
    rw [if_pos rfl]
    by_cases c : x.1 6 = 0
    · rw [if_pos c]
      simp (disch := first | assumption | exact pj_long_i | exact pj_long_r | exact pj_long_n | decide) only [x44_0, x44_1, x44_4, x44_5, x44_6, x44_9, x44_11, x44_12, x44_48, x44_49, x44_52, x44_55, x44_56, x44_57, x44_59, x44_61, x44_62, x44_65, x44_68, x44_69, x44_70, x44_72, x44_74, x44_75, x44_78, x44_81, x44_89, x44_90, x44_93, x44_96, x44_97, x44_99, x44_100, x44_103, x44_106, x44_109, x44_111, simprocAttr, pj_then_s, pj_pv_s, pj_pi_s, pj_set_s, if_true, if_false, not_true_eq_false, not_false_eq_true, pj_up_up, pj_so110_109, pj_so111_109, pj_so112_109, pj_so113_109, pj_so114_109, pj_so115_109, pj_so116_109, pj_so117_109, pj_so111_110, pj_so112_110, pj_so113_110, pj_so114_110, pj_so115_110, pj_so116_110, pj_so117_110, pj_so112_111, pj_so113_111, pj_so114_111, pj_so115_111, pj_so116_111, pj_so117_111, pj_so113_112, pj_so114_112, pj_so115_112, pj_so116_112, pj_so117_112, pj_so114_113, pj_so115_113, pj_so116_113, pj_so117_113, pj_so115_114, pj_so116_114, pj_so117_114, pj_so116_115, pj_so117_115, pj_so117_116, pj_up_ap, pj_upd_ap, pj_a3_0, pj_a3_1, pj_a3_2, pj_a3_u0, pj_a3_u1, pj_a3_u2, pj_f5_0, pj_f4_1, pj_arl_i, pj_f4_2, pj_f4_7, pj_f4_3, pj_f4_10, hV, pj_vc, hu, hx5, c]
      exact t44_126
    · rw [if_neg c]
      simp (disch := first | assumption | exact pj_long_i | exact pj_long_r | exact pj_long_n | decide) only [x44_0, x44_1, x44_4, x44_5, x44_6, x44_9, x44_11, x44_12, x44_48, x44_49, x44_52, x44_55, x44_56, x44_57, x44_59, x44_61, x44_62, x44_65, x44_68, x44_69, x44_70, x44_72, x44_74, x44_75, x44_78, x44_81, x44_89, x44_90, x44_93, x44_96, x44_97, x44_99, x44_100, x44_103, x44_106, x44_109, x44_111, x44_114, x44_115, x44_118, x44_121, x44_122, x44_123, x44_125, simprocAttr, pj_then_s, pj_pv_s, pj_pi_s, pj_set_s, if_true, if_false, not_true_eq_false, not_false_eq_true, pj_up_up, pj_so110_109, pj_so111_109, pj_so112_109, pj_so113_109, pj_so114_109, pj_so115_109, pj_so116_109, pj_so117_109, pj_so111_110, pj_so112_110, pj_so113_110, pj_so114_110, pj_so115_110, pj_so116_110, pj_so117_110, pj_so112_111, pj_so113_111, pj_so114_111, pj_so115_111, pj_so116_111, pj_so117_111, pj_so113_112, pj_so114_112, pj_so115_112, pj_so116_112, pj_so117_112, pj_so114_113, pj_so115_113, pj_so116_113, pj_so117_113, pj_so115_114, pj_so116_114, pj_so117_114, pj_so116_115, pj_so117_115, pj_so117_116, pj_up_ap, pj_upd_ap, pj_a3_0, pj_a3_1, pj_a3_2, pj_a3_u0, pj_a3_u1, pj_a3_u2, pj_f5_0, pj_f4_1, pj_arl_i, pj_f4_2, pj_f4_7, pj_f4_3, pj_f4_10, pj_f4_4, hV, pj_vc, hu, hx5, hu5, c]
      exact t44_126
  rw [if_neg w4]
  simp (disch := first | assumption | exact pj_long_i | exact pj_long_r | exact pj_long_n | decide) only [x44_0, x44_1, x44_4, x44_5, x44_6, x44_9, x44_11, x44_12, x44_48, x44_49, x44_52, x44_55, x44_56, x44_57, x44_59, x44_61, x44_62, x44_65, x44_68, x44_69, x44_70, x44_72, x44_74, x44_75, x44_78, x44_81, x44_89, x44_90, x44_93, x44_96, x44_97, x44_99, x44_100, x44_103, x44_106, x44_109, x44_111, x44_114, x44_115, x44_118, x44_121, x44_122, x44_123, x44_125, x44_127, simprocAttr, pj_then_s, pj_pv_s, pj_pi_s, pj_set_s, if_true, if_false, not_true_eq_false, not_false_eq_true, pj_up_up, pj_so110_109, pj_so111_109, pj_so112_109, pj_so113_109, pj_so114_109, pj_so115_109, pj_so116_109, pj_so117_109, pj_so111_110, pj_so112_110, pj_so113_110, pj_so114_110, pj_so115_110, pj_so116_110, pj_so117_110, pj_so112_111, pj_so113_111, pj_so114_111, pj_so115_111, pj_so116_111, pj_so117_111, pj_so113_112, pj_so114_112, pj_so115_112, pj_so116_112, pj_so117_112, pj_so114_113, pj_so115_113, pj_so116_113, pj_so117_113, pj_so115_114, pj_so116_114, pj_so117_114, pj_so116_115, pj_so117_115, pj_so117_116, pj_up_ap, pj_upd_ap, pj_a3_0, pj_a3_1, pj_a3_2, pj_a3_u0, pj_a3_u1, pj_a3_u2, pj_f5_0, pj_f4_1, pj_arl_i, pj_f4_2, pj_f4_7, pj_f4_3, pj_f4_10, pj_f4_4, w0, w1, w2, w3, w4]
  exact t44_129
theorem c_stage_2 (hx : pj_In x) (hC : pj_C H x) : pj_Ends 45 (0, [some (.ref 4), some (.int 2), some (.int w)], [], (N, S, H)) (some (.int (op_stage x.1 2 w)), (N, S, H)) := by
  obtain ⟨t, ht, hR⟩ := hx.1
  obtain ⟨-, -, -, -, rv, -⟩ := hR
  have bv : pj_b3 (x.1 26) (x.1 27) (x.1 28) := ⟨rv 0 (by decide), rv 1 (by decide), rv 2 (by decide)⟩
  obtain ⟨hu, hu1, hu2, hu3, hu4, hu5, hu6, hu7, hu8⟩ := hC.2.2.1
  have hV := hC.2.1
  have hx5 : pj_uc 5 x.1 = .inl (4, [.ref 6, .ref 7, .ref 8, .ref 9, .ref 10, .ref 11, .ref 12, .int (sp_vot x.1), .int (pj_pk (x.1 26) (x.1 27) (x.1 28)), .int (x.1 7), .int (x.1 6)]) := rfl
  unfold op_stage
  rw [show sp_th 2 = 1 from by decide, if_neg (by decide : ¬ (1 : Int32) = 0), show (2 : Int32).toNatClampNeg = 2 from rfl]
  by_cases w0 : w = 0
  · subst w0
    rw [if_pos rfl]
    simp (disch := first | assumption | exact pj_long_i | exact pj_long_r | exact pj_long_n | decide) only [x45_0, x45_1, x45_4, x45_5, x45_6, x45_9, x45_11, x45_12, x45_40, x45_41, x45_44, x45_47, x45_48, simprocAttr, pj_then_s, pj_pv_s, pj_pi_s, pj_set_s, if_true, if_false, not_true_eq_false, not_false_eq_true, pj_up_up, pj_so110_109, pj_so111_109, pj_so112_109, pj_so113_109, pj_so114_109, pj_so115_109, pj_so116_109, pj_so117_109, pj_so111_110, pj_so112_110, pj_so113_110, pj_so114_110, pj_so115_110, pj_so116_110, pj_so117_110, pj_so112_111, pj_so113_111, pj_so114_111, pj_so115_111, pj_so116_111, pj_so117_111, pj_so113_112, pj_so114_112, pj_so115_112, pj_so116_112, pj_so117_112, pj_so114_113, pj_so115_113, pj_so116_113, pj_so117_113, pj_so115_114, pj_so116_114, pj_so117_114, pj_so116_115, pj_so117_115, pj_so117_116, pj_up_ap, pj_upd_ap, pj_a3_0, pj_a3_1, pj_a3_2, pj_a3_u0, pj_a3_u1, pj_a3_u2, pj_f5_0, pj_f4_5, pj_arl_i, hV, pj_vc, hu, hx5, hu6]
    exact t45_49
  rw [if_neg w0]
  by_cases w1 : w = 1
  · subst w1
    rw [if_pos rfl]
    simp (disch := first | assumption | exact pj_long_i | exact pj_long_r | exact pj_long_n | decide) only [x45_0, x45_1, x45_4, x45_5, x45_6, x45_9, x45_11, x45_12, x45_40, x45_41, x45_44, x45_47, x45_48, x45_50, x45_51, x45_54, x45_57, simprocAttr, pj_then_s, pj_pv_s, pj_pi_s, pj_set_s, if_true, if_false, not_true_eq_false, not_false_eq_true, pj_up_up, pj_so110_109, pj_so111_109, pj_so112_109, pj_so113_109, pj_so114_109, pj_so115_109, pj_so116_109, pj_so117_109, pj_so111_110, pj_so112_110, pj_so113_110, pj_so114_110, pj_so115_110, pj_so116_110, pj_so117_110, pj_so112_111, pj_so113_111, pj_so114_111, pj_so115_111, pj_so116_111, pj_so117_111, pj_so113_112, pj_so114_112, pj_so115_112, pj_so116_112, pj_so117_112, pj_so114_113, pj_so115_113, pj_so116_113, pj_so117_113, pj_so115_114, pj_so116_114, pj_so117_114, pj_so116_115, pj_so117_115, pj_so117_116, pj_up_ap, pj_upd_ap, pj_a3_0, pj_a3_1, pj_a3_2, pj_a3_u0, pj_a3_u1, pj_a3_u2, pj_f5_0, pj_f4_5, pj_arl_i, pj_f4_8, hV, pj_vc, hu, hx5]
    refine e45_58 rfl (c_has_2 bv) ?_
    refine e45_61 rfl (c_asNumber (rv 2 (by decide))) ?_
    exact t45_64
  rw [if_neg w1]
  simp (disch := first | assumption | exact pj_long_i | exact pj_long_r | exact pj_long_n | decide) only [x45_0, x45_1, x45_4, x45_5, x45_6, x45_9, x45_11, x45_12, x45_40, x45_41, x45_44, x45_47, x45_48, x45_50, x45_51, x45_54, x45_57, x45_65, simprocAttr, pj_then_s, pj_pv_s, pj_pi_s, pj_set_s, if_true, if_false, not_true_eq_false, not_false_eq_true, pj_up_up, pj_so110_109, pj_so111_109, pj_so112_109, pj_so113_109, pj_so114_109, pj_so115_109, pj_so116_109, pj_so117_109, pj_so111_110, pj_so112_110, pj_so113_110, pj_so114_110, pj_so115_110, pj_so116_110, pj_so117_110, pj_so112_111, pj_so113_111, pj_so114_111, pj_so115_111, pj_so116_111, pj_so117_111, pj_so113_112, pj_so114_112, pj_so115_112, pj_so116_112, pj_so117_112, pj_so114_113, pj_so115_113, pj_so116_113, pj_so117_113, pj_so115_114, pj_so116_114, pj_so117_114, pj_so116_115, pj_so117_115, pj_so117_116, pj_up_ap, pj_upd_ap, pj_a3_0, pj_a3_1, pj_a3_2, pj_a3_u0, pj_a3_u1, pj_a3_u2, pj_f5_0, pj_f4_5, pj_arl_i, pj_f4_8, w0, w1]
  exact t45_67
theorem C_sensor {a : Int32} (hx : pj_In x) (hC : pj_C H x) : pj_Co N S H 44 [some (.ref 4), some (.int a), some (.int w)] (x, op_sensor x.1 a w) := by
  refine pj_Co_same hC ?_
  by_cases c : sp_th a = 0
  · unfold op_sensor
    rw [if_pos c]
    rcases i32_th c with q | ⟨q, q2⟩
    · simp (disch := first | assumption | exact pj_long_i | exact pj_long_r | exact pj_long_n | decide) only [x44_0, x44_1, x44_4, x44_5, x44_6, x44_9, simprocAttr, pj_then_s, pj_pv_s, pj_pi_s, pj_set_s, if_true, if_false, not_true_eq_false, not_false_eq_true, pj_up_up, pj_so110_109, pj_so111_109, pj_so112_109, pj_so113_109, pj_so114_109, pj_so115_109, pj_so116_109, pj_so117_109, pj_so111_110, pj_so112_110, pj_so113_110, pj_so114_110, pj_so115_110, pj_so116_110, pj_so117_110, pj_so112_111, pj_so113_111, pj_so114_111, pj_so115_111, pj_so116_111, pj_so117_111, pj_so113_112, pj_so114_112, pj_so115_112, pj_so116_112, pj_so117_112, pj_so114_113, pj_so115_113, pj_so116_113, pj_so117_113, pj_so115_114, pj_so116_114, pj_so117_114, pj_so116_115, pj_so117_115, pj_so117_116, pj_up_ap, pj_upd_ap, pj_a3_0, pj_a3_1, pj_a3_2, pj_a3_u0, pj_a3_u1, pj_a3_u2, q]
      exact t44_10
    · simp (disch := first | assumption | exact pj_long_i | exact pj_long_r | exact pj_long_n | decide) only [x44_0, x44_1, x44_4, x44_5, x44_6, x44_9, simprocAttr, pj_then_s, pj_pv_s, pj_pi_s, pj_set_s, if_true, if_false, not_true_eq_false, not_false_eq_true, pj_up_up, pj_so110_109, pj_so111_109, pj_so112_109, pj_so113_109, pj_so114_109, pj_so115_109, pj_so116_109, pj_so117_109, pj_so111_110, pj_so112_110, pj_so113_110, pj_so114_110, pj_so115_110, pj_so116_110, pj_so117_110, pj_so112_111, pj_so113_111, pj_so114_111, pj_so115_111, pj_so116_111, pj_so117_111, pj_so113_112, pj_so114_112, pj_so115_112, pj_so116_112, pj_so117_112, pj_so114_113, pj_so115_113, pj_so116_113, pj_so117_113, pj_so115_114, pj_so116_114, pj_so117_114, pj_so116_115, pj_so117_115, pj_so117_116, pj_up_ap, pj_upd_ap, pj_a3_0, pj_a3_1, pj_a3_2, pj_a3_u0, pj_a3_u1, pj_a3_u2, q, q2]
      exact t44_10
  · rcases sp_th_lt c with e | e | e <;> subst e
    · exact c_sensor_0 hx hC
    · exact c_sensor_1 hx hC
    · exact c_sensor_2 hx hC
theorem C_stage {a : Int32} (hx : pj_In x) (hC : pj_C H x) : pj_Co N S H 45 [some (.ref 4), some (.int a), some (.int w)] (x, op_stage x.1 a w) := by
  refine pj_Co_same hC ?_
  by_cases c : sp_th a = 0
  · unfold op_stage
    rw [if_pos c]
    rcases i32_th c with q | ⟨q, q2⟩
    · simp (disch := first | assumption | exact pj_long_i | exact pj_long_r | exact pj_long_n | decide) only [x45_0, x45_1, x45_4, x45_5, x45_6, x45_9, simprocAttr, pj_then_s, pj_pv_s, pj_pi_s, pj_set_s, if_true, if_false, not_true_eq_false, not_false_eq_true, pj_up_up, pj_so110_109, pj_so111_109, pj_so112_109, pj_so113_109, pj_so114_109, pj_so115_109, pj_so116_109, pj_so117_109, pj_so111_110, pj_so112_110, pj_so113_110, pj_so114_110, pj_so115_110, pj_so116_110, pj_so117_110, pj_so112_111, pj_so113_111, pj_so114_111, pj_so115_111, pj_so116_111, pj_so117_111, pj_so113_112, pj_so114_112, pj_so115_112, pj_so116_112, pj_so117_112, pj_so114_113, pj_so115_113, pj_so116_113, pj_so117_113, pj_so115_114, pj_so116_114, pj_so117_114, pj_so116_115, pj_so117_115, pj_so117_116, pj_up_ap, pj_upd_ap, pj_a3_0, pj_a3_1, pj_a3_2, pj_a3_u0, pj_a3_u1, pj_a3_u2, q]
      exact t45_10
    · simp (disch := first | assumption | exact pj_long_i | exact pj_long_r | exact pj_long_n | decide) only [x45_0, x45_1, x45_4, x45_5, x45_6, x45_9, simprocAttr, pj_then_s, pj_pv_s, pj_pi_s, pj_set_s, if_true, if_false, not_true_eq_false, not_false_eq_true, pj_up_up, pj_so110_109, pj_so111_109, pj_so112_109, pj_so113_109, pj_so114_109, pj_so115_109, pj_so116_109, pj_so117_109, pj_so111_110, pj_so112_110, pj_so113_110, pj_so114_110, pj_so115_110, pj_so116_110, pj_so117_110, pj_so112_111, pj_so113_111, pj_so114_111, pj_so115_111, pj_so116_111, pj_so117_111, pj_so113_112, pj_so114_112, pj_so115_112, pj_so116_112, pj_so117_112, pj_so114_113, pj_so115_113, pj_so116_113, pj_so117_113, pj_so115_114, pj_so116_114, pj_so117_114, pj_so116_115, pj_so117_115, pj_so117_116, pj_up_ap, pj_upd_ap, pj_a3_0, pj_a3_1, pj_a3_2, pj_a3_u0, pj_a3_u1, pj_a3_u2, q, q2]
      exact t45_10
  · rcases sp_th_lt c with e | e | e <;> subst e
    · exact c_stage_0 hx hC
    · exact c_stage_1 hx hC
    · exact c_stage_2 hx hC
theorem C_record {p : Int32} (hx : pj_In x) (hC : pj_C H x) : pj_Co N S H 46 [some (.ref 4), some (.int p), some (.int w)] (x, op_record x.1 p w) := by
  refine pj_Co_same hC ?_
  obtain ⟨t, ht, hR⟩ := hx.1
  obtain ⟨-, ⟨m, hm, r30⟩, -⟩ := hR
  obtain ⟨hu, hu1, hu2, hu3, hu4, hu5, hu6, hu7, hu8⟩ := hC.2.2.1
  have hV := hC.2.1
  have hx5 : pj_uc 5 x.1 = .inl (4, [.ref 6, .ref 7, .ref 8, .ref 9, .ref 10, .ref 11, .ref 12, .int (sp_vot x.1), .int (sp_bar x.1), .int (x.1 7), .int (x.1 6)]) := rfl
  unfold op_record
  by_cases p0 : p < 0
  · rw [if_neg (fun q => Int32.not_le.mpr p0 q.1)]
    simp (disch := first | assumption | exact pj_long_i | exact pj_long_r | exact pj_long_n | decide) only [x46_0, x46_1, x46_4, x46_5, x46_6, x46_9, x46_12, x46_15, x46_18, simprocAttr, pj_then_s, pj_pv_s, pj_pi_s, pj_set_s, if_true, if_false, not_true_eq_false, not_false_eq_true, pj_up_up, pj_so110_109, pj_so111_109, pj_so112_109, pj_so113_109, pj_so114_109, pj_so115_109, pj_so116_109, pj_so117_109, pj_so111_110, pj_so112_110, pj_so113_110, pj_so114_110, pj_so115_110, pj_so116_110, pj_so117_110, pj_so112_111, pj_so113_111, pj_so114_111, pj_so115_111, pj_so116_111, pj_so117_111, pj_so113_112, pj_so114_112, pj_so115_112, pj_so116_112, pj_so117_112, pj_so114_113, pj_so115_113, pj_so116_113, pj_so117_113, pj_so115_114, pj_so116_114, pj_so117_114, pj_so116_115, pj_so117_115, pj_so117_116, pj_up_ap, pj_upd_ap, pj_a3_0, pj_a3_1, pj_a3_2, pj_a3_u0, pj_a3_u1, pj_a3_u2, pj_f5_0, pj_f4_6, pj_f2_1, p0]
    exact t46_19
  by_cases p1 : p < x.1 30
  · rw [if_pos ⟨Int32.not_lt.mp p0, p1⟩]
    by_cases w0 : w < 0
    · rw [if_neg (fun q => Int32.not_le.mpr w0 q.1)]
      simp (disch := first | assumption | exact pj_long_i | exact pj_long_r | exact pj_long_n | decide) only [x46_0, x46_1, x46_4, x46_5, x46_6, x46_9, x46_12, x46_15, x46_18, x46_20, x46_21, x46_24, x46_25, x46_27, x46_30, simprocAttr, pj_then_s, pj_pv_s, pj_pi_s, pj_set_s, if_true, if_false, not_true_eq_false, not_false_eq_true, pj_up_up, pj_so110_109, pj_so111_109, pj_so112_109, pj_so113_109, pj_so114_109, pj_so115_109, pj_so116_109, pj_so117_109, pj_so111_110, pj_so112_110, pj_so113_110, pj_so114_110, pj_so115_110, pj_so116_110, pj_so117_110, pj_so112_111, pj_so113_111, pj_so114_111, pj_so115_111, pj_so116_111, pj_so117_111, pj_so113_112, pj_so114_112, pj_so115_112, pj_so116_112, pj_so117_112, pj_so114_113, pj_so115_113, pj_so116_113, pj_so117_113, pj_so115_114, pj_so116_114, pj_so117_114, pj_so116_115, pj_so117_115, pj_so117_116, pj_up_ap, pj_upd_ap, pj_a3_0, pj_a3_1, pj_a3_2, pj_a3_u0, pj_a3_u1, pj_a3_u2, pj_f5_0, pj_f4_6, pj_f2_1, p0, p1, hV, pj_vc, hu, hx5, hu7, w0]
      exact t46_32
    by_cases w1 : w < 10
    · have w9 : w ≤ 9 := by
        rw [Int32.lt_iff_toInt_lt] at w1
        rw [Int32.le_iff_toInt_le]
        have e3 : (10 : Int32).toInt = 10 := rfl
        have e2 : (9 : Int32).toInt = 9 := rfl
        omega
      rw [if_pos ⟨Int32.not_lt.mp w0, w9⟩]
      have p1' := p1
      rw [r30] at p1'
      obtain ⟨i, hi, ei⟩ := pj_nI_of (by omega) (Int32.not_lt.mp p0) p1'
      obtain ⟨j, hj, ej⟩ := pj_nI_of (b := 10) (by decide) (Int32.not_lt.mp w0) w1
      have e1 : p * 10 + w = nI (10 * i + j) := by
        have q1 : nI i * (10 : Int32) = nI (10 * i) := (pk_mul i 10).trans (by rw [Nat.mul_comm])
        rw [ei, ej, q1, nI_add]
      have e2 : (nI (10 * i + j)).toNatClampNeg = 10 * i + j := nI_clamp (by omega)
      have e3 : pj_in (nI (10 * i + j)) 120 = true := pj_in_nI (by omega) (by decide)
      have e4 : pj_n120 x.1 (10 * i + j) = x.1 (31 + 10 * p.toNatClampNeg + w.toNatClampNeg) := by
        unfold pj_n120
        rw [if_pos (by omega), ei, ej, nI_clamp (by omega), nI_clamp (by omega)]
        exact congrArg x.1 (by omega)
      rw [← e4]
      simp (disch := first | assumption | exact pj_long_i | exact pj_long_r | exact pj_long_n | decide) only [x46_0, x46_1, x46_4, x46_5, x46_6, x46_9, x46_12, x46_15, x46_18, x46_20, x46_21, x46_24, x46_25, x46_27, x46_30, x46_33, x46_34, x46_37, x46_40, x46_43, x46_44, x46_46, x46_47, x46_48, x46_49, simprocAttr, pj_then_s, pj_pv_s, pj_pi_s, pj_set_s, if_true, if_false, not_true_eq_false, not_false_eq_true, pj_up_up, pj_so110_109, pj_so111_109, pj_so112_109, pj_so113_109, pj_so114_109, pj_so115_109, pj_so116_109, pj_so117_109, pj_so111_110, pj_so112_110, pj_so113_110, pj_so114_110, pj_so115_110, pj_so116_110, pj_so117_110, pj_so112_111, pj_so113_111, pj_so114_111, pj_so115_111, pj_so116_111, pj_so117_111, pj_so113_112, pj_so114_112, pj_so115_112, pj_so116_112, pj_so117_112, pj_so114_113, pj_so115_113, pj_so116_113, pj_so117_113, pj_so115_114, pj_so116_114, pj_so117_114, pj_so116_115, pj_so117_115, pj_so117_116, pj_up_ap, pj_upd_ap, pj_a3_0, pj_a3_1, pj_a3_2, pj_a3_u0, pj_a3_u1, pj_a3_u2, pj_f5_0, pj_f4_6, pj_f2_1, pj_f2_0, pj_arl_i, p0, p1, hV, pj_vc, hu, hx5, hu7, hu8, w0, w1, e1, e2, e3]
      exact t46_50
    · rw [if_neg (fun q => w1 (by
        have := q.2
        rw [Int32.le_iff_toInt_le] at this
        rw [Int32.lt_iff_toInt_lt]
        have e3 : (10 : Int32).toInt = 10 := rfl
        have e2 : (9 : Int32).toInt = 9 := rfl
        omega))]
      simp (disch := first | assumption | exact pj_long_i | exact pj_long_r | exact pj_long_n | decide) only [x46_0, x46_1, x46_4, x46_5, x46_6, x46_9, x46_12, x46_15, x46_18, x46_20, x46_21, x46_24, x46_25, x46_27, x46_30, simprocAttr, pj_then_s, pj_pv_s, pj_pi_s, pj_set_s, if_true, if_false, not_true_eq_false, not_false_eq_true, pj_up_up, pj_so110_109, pj_so111_109, pj_so112_109, pj_so113_109, pj_so114_109, pj_so115_109, pj_so116_109, pj_so117_109, pj_so111_110, pj_so112_110, pj_so113_110, pj_so114_110, pj_so115_110, pj_so116_110, pj_so117_110, pj_so112_111, pj_so113_111, pj_so114_111, pj_so115_111, pj_so116_111, pj_so117_111, pj_so113_112, pj_so114_112, pj_so115_112, pj_so116_112, pj_so117_112, pj_so114_113, pj_so115_113, pj_so116_113, pj_so117_113, pj_so115_114, pj_so116_114, pj_so117_114, pj_so116_115, pj_so117_115, pj_so117_116, pj_up_ap, pj_upd_ap, pj_a3_0, pj_a3_1, pj_a3_2, pj_a3_u0, pj_a3_u1, pj_a3_u2, pj_f5_0, pj_f4_6, pj_f2_1, p0, p1, hV, pj_vc, hu, hx5, hu7, w0, w1]
      exact t46_32
  · rw [if_neg (fun q => p1 q.2)]
    simp (disch := first | assumption | exact pj_long_i | exact pj_long_r | exact pj_long_n | decide) only [x46_0, x46_1, x46_4, x46_5, x46_6, x46_9, x46_12, x46_15, x46_18, simprocAttr, pj_then_s, pj_pv_s, pj_pi_s, pj_set_s, if_true, if_false, not_true_eq_false, not_false_eq_true, pj_up_up, pj_so110_109, pj_so111_109, pj_so112_109, pj_so113_109, pj_so114_109, pj_so115_109, pj_so116_109, pj_so117_109, pj_so111_110, pj_so112_110, pj_so113_110, pj_so114_110, pj_so115_110, pj_so116_110, pj_so117_110, pj_so112_111, pj_so113_111, pj_so114_111, pj_so115_111, pj_so116_111, pj_so117_111, pj_so113_112, pj_so114_112, pj_so115_112, pj_so116_112, pj_so117_112, pj_so114_113, pj_so115_113, pj_so116_113, pj_so117_113, pj_so115_114, pj_so116_114, pj_so117_114, pj_so116_115, pj_so117_115, pj_so117_116, pj_up_ap, pj_upd_ap, pj_a3_0, pj_a3_1, pj_a3_2, pj_a3_u0, pj_a3_u1, pj_a3_u2, pj_f5_0, pj_f4_6, pj_f2_1, p0, p1, hV, pj_vc, hu, hx5, hu7]
    exact t46_19
theorem ck_tk_01 {e t : Int32} : ck_tk e t = 0 ∨ ck_tk e t = 1 := by
  unfold ck_tk
  split
  · exact Or.inr rfl
  · split
    · exact Or.inl rfl
    · exact Or.inr rfl
theorem C_count (hx : pj_In x) (hC : pj_C H x) : pj_Co N S H 47 [some (.ref 4), some (.int w)] (x, op_count x w) := by
  refine pj_Co_same hC ?_
  obtain ⟨t, ht, hR⟩ := hx.1
  obtain ⟨-, -, r6, -, -, -, -, -, -, r29⟩ := hR
  have hU := hC.2.2.1
  obtain ⟨hu, hu1, hu2, hu3, hu4, hu5, hu6, hu7, hu8⟩ := hC.2.2.1
  have hV := hC.2.1
  have hP := hC.2.2.2.2.1.1
  have hx5 : pj_uc 5 x.1 = .inl (4, [.ref 6, .ref 7, .ref 8, .ref 9, .ref 10, .ref 11, .ref 12, .int (sp_vot x.1), .int (sp_bar x.1), .int (x.1 7), .int (x.1 6)]) := rfl
  unfold op_count
  by_cases c1 : 8 ≤ w ∧ w ≤ 13
  · rw [if_pos c1]
    rcases sp_813 c1 with e | e | e | e | e | e
    · subst e
      have y : pj_a6 (x.1 0) (x.1 1) (x.1 2) (x.1 3) (x.1 4) (x.1 5) 0 = x.1 0 := rfl
      simp (disch := first | assumption | exact pj_long_i | exact pj_long_r | exact pj_long_n | decide) only [x47_0, x47_1, x47_3, x47_6, x47_7, x47_9, x47_12, x47_13, x47_16, x47_19, x47_20, x47_22, x47_23, simprocAttr, pj_then_s, pj_pv_s, pj_pi_s, pj_set_s, if_true, if_false, not_true_eq_false, not_false_eq_true, pj_up_up, pj_so110_109, pj_so111_109, pj_so112_109, pj_so113_109, pj_so114_109, pj_so115_109, pj_so116_109, pj_so117_109, pj_so111_110, pj_so112_110, pj_so113_110, pj_so114_110, pj_so115_110, pj_so116_110, pj_so117_110, pj_so112_111, pj_so113_111, pj_so114_111, pj_so115_111, pj_so116_111, pj_so117_111, pj_so113_112, pj_so114_112, pj_so115_112, pj_so116_112, pj_so117_112, pj_so114_113, pj_so115_113, pj_so116_113, pj_so117_113, pj_so115_114, pj_so116_114, pj_so117_114, pj_so116_115, pj_so117_115, pj_so117_116, pj_up_ap, pj_upd_ap, pj_a3_0, pj_a3_1, pj_a3_2, pj_a3_u0, pj_a3_u1, pj_a3_u2, pj_f5_0, pj_f4_0, pj_arl_i, hV, pj_vc, hu, hx5, hu1, y]
      exact t47_24
    · subst e
      have y : pj_a6 (x.1 0) (x.1 1) (x.1 2) (x.1 3) (x.1 4) (x.1 5) 1 = x.1 1 := rfl
      simp (disch := first | assumption | exact pj_long_i | exact pj_long_r | exact pj_long_n | decide) only [x47_0, x47_1, x47_3, x47_6, x47_7, x47_9, x47_12, x47_13, x47_16, x47_19, x47_20, x47_22, x47_23, simprocAttr, pj_then_s, pj_pv_s, pj_pi_s, pj_set_s, if_true, if_false, not_true_eq_false, not_false_eq_true, pj_up_up, pj_so110_109, pj_so111_109, pj_so112_109, pj_so113_109, pj_so114_109, pj_so115_109, pj_so116_109, pj_so117_109, pj_so111_110, pj_so112_110, pj_so113_110, pj_so114_110, pj_so115_110, pj_so116_110, pj_so117_110, pj_so112_111, pj_so113_111, pj_so114_111, pj_so115_111, pj_so116_111, pj_so117_111, pj_so113_112, pj_so114_112, pj_so115_112, pj_so116_112, pj_so117_112, pj_so114_113, pj_so115_113, pj_so116_113, pj_so117_113, pj_so115_114, pj_so116_114, pj_so117_114, pj_so116_115, pj_so117_115, pj_so117_116, pj_up_ap, pj_upd_ap, pj_a3_0, pj_a3_1, pj_a3_2, pj_a3_u0, pj_a3_u1, pj_a3_u2, pj_f5_0, pj_f4_0, pj_arl_i, hV, pj_vc, hu, hx5, hu1, y]
      exact t47_24
    · subst e
      have y : pj_a6 (x.1 0) (x.1 1) (x.1 2) (x.1 3) (x.1 4) (x.1 5) 2 = x.1 2 := rfl
      simp (disch := first | assumption | exact pj_long_i | exact pj_long_r | exact pj_long_n | decide) only [x47_0, x47_1, x47_3, x47_6, x47_7, x47_9, x47_12, x47_13, x47_16, x47_19, x47_20, x47_22, x47_23, simprocAttr, pj_then_s, pj_pv_s, pj_pi_s, pj_set_s, if_true, if_false, not_true_eq_false, not_false_eq_true, pj_up_up, pj_so110_109, pj_so111_109, pj_so112_109, pj_so113_109, pj_so114_109, pj_so115_109, pj_so116_109, pj_so117_109, pj_so111_110, pj_so112_110, pj_so113_110, pj_so114_110, pj_so115_110, pj_so116_110, pj_so117_110, pj_so112_111, pj_so113_111, pj_so114_111, pj_so115_111, pj_so116_111, pj_so117_111, pj_so113_112, pj_so114_112, pj_so115_112, pj_so116_112, pj_so117_112, pj_so114_113, pj_so115_113, pj_so116_113, pj_so117_113, pj_so115_114, pj_so116_114, pj_so117_114, pj_so116_115, pj_so117_115, pj_so117_116, pj_up_ap, pj_upd_ap, pj_a3_0, pj_a3_1, pj_a3_2, pj_a3_u0, pj_a3_u1, pj_a3_u2, pj_f5_0, pj_f4_0, pj_arl_i, hV, pj_vc, hu, hx5, hu1, y]
      exact t47_24
    · subst e
      have y : pj_a6 (x.1 0) (x.1 1) (x.1 2) (x.1 3) (x.1 4) (x.1 5) 3 = x.1 3 := rfl
      simp (disch := first | assumption | exact pj_long_i | exact pj_long_r | exact pj_long_n | decide) only [x47_0, x47_1, x47_3, x47_6, x47_7, x47_9, x47_12, x47_13, x47_16, x47_19, x47_20, x47_22, x47_23, simprocAttr, pj_then_s, pj_pv_s, pj_pi_s, pj_set_s, if_true, if_false, not_true_eq_false, not_false_eq_true, pj_up_up, pj_so110_109, pj_so111_109, pj_so112_109, pj_so113_109, pj_so114_109, pj_so115_109, pj_so116_109, pj_so117_109, pj_so111_110, pj_so112_110, pj_so113_110, pj_so114_110, pj_so115_110, pj_so116_110, pj_so117_110, pj_so112_111, pj_so113_111, pj_so114_111, pj_so115_111, pj_so116_111, pj_so117_111, pj_so113_112, pj_so114_112, pj_so115_112, pj_so116_112, pj_so117_112, pj_so114_113, pj_so115_113, pj_so116_113, pj_so117_113, pj_so115_114, pj_so116_114, pj_so117_114, pj_so116_115, pj_so117_115, pj_so117_116, pj_up_ap, pj_upd_ap, pj_a3_0, pj_a3_1, pj_a3_2, pj_a3_u0, pj_a3_u1, pj_a3_u2, pj_f5_0, pj_f4_0, pj_arl_i, hV, pj_vc, hu, hx5, hu1, y]
      exact t47_24
    · subst e
      have y : pj_a6 (x.1 0) (x.1 1) (x.1 2) (x.1 3) (x.1 4) (x.1 5) 4 = x.1 4 := rfl
      simp (disch := first | assumption | exact pj_long_i | exact pj_long_r | exact pj_long_n | decide) only [x47_0, x47_1, x47_3, x47_6, x47_7, x47_9, x47_12, x47_13, x47_16, x47_19, x47_20, x47_22, x47_23, simprocAttr, pj_then_s, pj_pv_s, pj_pi_s, pj_set_s, if_true, if_false, not_true_eq_false, not_false_eq_true, pj_up_up, pj_so110_109, pj_so111_109, pj_so112_109, pj_so113_109, pj_so114_109, pj_so115_109, pj_so116_109, pj_so117_109, pj_so111_110, pj_so112_110, pj_so113_110, pj_so114_110, pj_so115_110, pj_so116_110, pj_so117_110, pj_so112_111, pj_so113_111, pj_so114_111, pj_so115_111, pj_so116_111, pj_so117_111, pj_so113_112, pj_so114_112, pj_so115_112, pj_so116_112, pj_so117_112, pj_so114_113, pj_so115_113, pj_so116_113, pj_so117_113, pj_so115_114, pj_so116_114, pj_so117_114, pj_so116_115, pj_so117_115, pj_so117_116, pj_up_ap, pj_upd_ap, pj_a3_0, pj_a3_1, pj_a3_2, pj_a3_u0, pj_a3_u1, pj_a3_u2, pj_f5_0, pj_f4_0, pj_arl_i, hV, pj_vc, hu, hx5, hu1, y]
      exact t47_24
    · subst e
      have y : pj_a6 (x.1 0) (x.1 1) (x.1 2) (x.1 3) (x.1 4) (x.1 5) 5 = x.1 5 := rfl
      simp (disch := first | assumption | exact pj_long_i | exact pj_long_r | exact pj_long_n | decide) only [x47_0, x47_1, x47_3, x47_6, x47_7, x47_9, x47_12, x47_13, x47_16, x47_19, x47_20, x47_22, x47_23, simprocAttr, pj_then_s, pj_pv_s, pj_pi_s, pj_set_s, if_true, if_false, not_true_eq_false, not_false_eq_true, pj_up_up, pj_so110_109, pj_so111_109, pj_so112_109, pj_so113_109, pj_so114_109, pj_so115_109, pj_so116_109, pj_so117_109, pj_so111_110, pj_so112_110, pj_so113_110, pj_so114_110, pj_so115_110, pj_so116_110, pj_so117_110, pj_so112_111, pj_so113_111, pj_so114_111, pj_so115_111, pj_so116_111, pj_so117_111, pj_so113_112, pj_so114_112, pj_so115_112, pj_so116_112, pj_so117_112, pj_so114_113, pj_so115_113, pj_so116_113, pj_so117_113, pj_so115_114, pj_so116_114, pj_so117_114, pj_so116_115, pj_so117_115, pj_so117_116, pj_up_ap, pj_upd_ap, pj_a3_0, pj_a3_1, pj_a3_2, pj_a3_u0, pj_a3_u1, pj_a3_u2, pj_f5_0, pj_f4_0, pj_arl_i, hV, pj_vc, hu, hx5, hu1, y]
      exact t47_24
  rw [if_neg c1]
  have big : ¬ w < 8 → ¬ w < 14 → True := fun _ _ => trivial
  by_cases w0 : w = 0
  · subst w0
    simp (disch := first | assumption | exact pj_long_i | exact pj_long_r | exact pj_long_n | decide) only [x47_0, x47_1, x47_3, x47_6, x47_7, x47_9, x47_12, x47_13, x47_16, x47_19, x47_20, x47_22, x47_23, x47_25, x47_26, x47_104, x47_105, x47_108, x47_112, x47_113, x47_116, x47_120, x47_121, x47_124, x47_128, x47_129, x47_136, x47_137, x47_140, x47_144, x47_145, x47_148, x47_151, x47_155, x47_156, x47_159, x47_162, x47_166, x47_167, x47_170, x47_173, x47_174, x47_177, simprocAttr, pj_then_s, pj_pv_s, pj_pi_s, pj_set_s, if_true, if_false, not_true_eq_false, not_false_eq_true, pj_up_up, pj_so110_109, pj_so111_109, pj_so112_109, pj_so113_109, pj_so114_109, pj_so115_109, pj_so116_109, pj_so117_109, pj_so111_110, pj_so112_110, pj_so113_110, pj_so114_110, pj_so115_110, pj_so116_110, pj_so117_110, pj_so112_111, pj_so113_111, pj_so114_111, pj_so115_111, pj_so116_111, pj_so117_111, pj_so113_112, pj_so114_112, pj_so115_112, pj_so116_112, pj_so117_112, pj_so114_113, pj_so115_113, pj_so116_113, pj_so117_113, pj_so115_114, pj_so116_114, pj_so117_114, pj_so116_115, pj_so117_115, pj_so117_116, pj_up_ap, pj_upd_ap, pj_a3_0, pj_a3_1, pj_a3_2, pj_a3_u0, pj_a3_u1, pj_a3_u2, pj_f5_0, pj_f4_0, pj_arl_i, pj_f4_10, pj_f4_9, pj_f4_7, pj_f4_8, pj_f4_6, pj_f2_1, pj_f2_2, hV, pj_vc, hu, hx5]
    exact t47_111
  by_cases w1 : w = 1
  · subst w1
    simp (disch := first | assumption | exact pj_long_i | exact pj_long_r | exact pj_long_n | decide) only [x47_0, x47_1, x47_3, x47_6, x47_7, x47_9, x47_12, x47_13, x47_16, x47_19, x47_20, x47_22, x47_23, x47_25, x47_26, x47_104, x47_105, x47_108, x47_112, x47_113, x47_116, x47_120, x47_121, x47_124, x47_128, x47_129, x47_136, x47_137, x47_140, x47_144, x47_145, x47_148, x47_151, x47_155, x47_156, x47_159, x47_162, x47_166, x47_167, x47_170, x47_173, x47_174, x47_177, simprocAttr, pj_then_s, pj_pv_s, pj_pi_s, pj_set_s, if_true, if_false, not_true_eq_false, not_false_eq_true, pj_up_up, pj_so110_109, pj_so111_109, pj_so112_109, pj_so113_109, pj_so114_109, pj_so115_109, pj_so116_109, pj_so117_109, pj_so111_110, pj_so112_110, pj_so113_110, pj_so114_110, pj_so115_110, pj_so116_110, pj_so117_110, pj_so112_111, pj_so113_111, pj_so114_111, pj_so115_111, pj_so116_111, pj_so117_111, pj_so113_112, pj_so114_112, pj_so115_112, pj_so116_112, pj_so117_112, pj_so114_113, pj_so115_113, pj_so116_113, pj_so117_113, pj_so115_114, pj_so116_114, pj_so117_114, pj_so116_115, pj_so117_115, pj_so117_116, pj_up_ap, pj_upd_ap, pj_a3_0, pj_a3_1, pj_a3_2, pj_a3_u0, pj_a3_u1, pj_a3_u2, pj_f5_0, pj_f4_0, pj_arl_i, pj_f4_10, pj_f4_9, pj_f4_7, pj_f4_8, pj_f4_6, pj_f2_1, pj_f2_2, hV, pj_vc, hu, hx5]
    exact t47_119
  by_cases w2 : w = 2
  · subst w2
    simp (disch := first | assumption | exact pj_long_i | exact pj_long_r | exact pj_long_n | decide) only [x47_0, x47_1, x47_3, x47_6, x47_7, x47_9, x47_12, x47_13, x47_16, x47_19, x47_20, x47_22, x47_23, x47_25, x47_26, x47_104, x47_105, x47_108, x47_112, x47_113, x47_116, x47_120, x47_121, x47_124, x47_128, x47_129, x47_136, x47_137, x47_140, x47_144, x47_145, x47_148, x47_151, x47_155, x47_156, x47_159, x47_162, x47_166, x47_167, x47_170, x47_173, x47_174, x47_177, simprocAttr, pj_then_s, pj_pv_s, pj_pi_s, pj_set_s, if_true, if_false, not_true_eq_false, not_false_eq_true, pj_up_up, pj_so110_109, pj_so111_109, pj_so112_109, pj_so113_109, pj_so114_109, pj_so115_109, pj_so116_109, pj_so117_109, pj_so111_110, pj_so112_110, pj_so113_110, pj_so114_110, pj_so115_110, pj_so116_110, pj_so117_110, pj_so112_111, pj_so113_111, pj_so114_111, pj_so115_111, pj_so116_111, pj_so117_111, pj_so113_112, pj_so114_112, pj_so115_112, pj_so116_112, pj_so117_112, pj_so114_113, pj_so115_113, pj_so116_113, pj_so117_113, pj_so115_114, pj_so116_114, pj_so117_114, pj_so116_115, pj_so117_115, pj_so117_116, pj_up_ap, pj_upd_ap, pj_a3_0, pj_a3_1, pj_a3_2, pj_a3_u0, pj_a3_u1, pj_a3_u2, pj_f5_0, pj_f4_0, pj_arl_i, pj_f4_10, pj_f4_9, pj_f4_7, pj_f4_8, pj_f4_6, pj_f2_1, pj_f2_2, hV, pj_vc, hu, hx5]
    exact t47_127
  by_cases w3 : w = 3
  · subst w3
    simp (disch := first | assumption | exact pj_long_i | exact pj_long_r | exact pj_long_n | decide) only [x47_0, x47_1, x47_3, x47_6, x47_7, x47_9, x47_12, x47_13, x47_16, x47_19, x47_20, x47_22, x47_23, x47_25, x47_26, x47_104, x47_105, x47_108, x47_112, x47_113, x47_116, x47_120, x47_121, x47_124, x47_128, x47_129, simprocAttr, pj_then_s, pj_pv_s, pj_pi_s, pj_set_s, if_true, if_false, not_true_eq_false, not_false_eq_true, pj_up_up, pj_so110_109, pj_so111_109, pj_so112_109, pj_so113_109, pj_so114_109, pj_so115_109, pj_so116_109, pj_so117_109, pj_so111_110, pj_so112_110, pj_so113_110, pj_so114_110, pj_so115_110, pj_so116_110, pj_so117_110, pj_so112_111, pj_so113_111, pj_so114_111, pj_so115_111, pj_so116_111, pj_so117_111, pj_so113_112, pj_so114_112, pj_so115_112, pj_so116_112, pj_so117_112, pj_so114_113, pj_so115_113, pj_so116_113, pj_so117_113, pj_so115_114, pj_so116_114, pj_so117_114, pj_so116_115, pj_so117_115, pj_so117_116, pj_up_ap, pj_upd_ap, pj_a3_0, pj_a3_1, pj_a3_2, pj_a3_u0, pj_a3_u1, pj_a3_u2, pj_f5_0, pj_f4_0, pj_arl_i, pj_f4_10, pj_f4_9, pj_f4_7, hV, pj_vc]
    refine e47_132 rfl (by rw [hu]; rfl) (c_firedStages hU) ?_
    exact t47_135
  by_cases w4 : w = 4
  · subst w4
    simp (disch := first | assumption | exact pj_long_i | exact pj_long_r | exact pj_long_n | decide) only [x47_0, x47_1, x47_3, x47_6, x47_7, x47_9, x47_12, x47_13, x47_16, x47_19, x47_20, x47_22, x47_23, x47_25, x47_26, x47_104, x47_105, x47_108, x47_112, x47_113, x47_116, x47_120, x47_121, x47_124, x47_128, x47_129, x47_136, x47_137, x47_140, x47_144, x47_145, x47_148, x47_151, x47_155, x47_156, x47_159, x47_162, x47_166, x47_167, x47_170, x47_173, x47_174, x47_177, simprocAttr, pj_then_s, pj_pv_s, pj_pi_s, pj_set_s, if_true, if_false, not_true_eq_false, not_false_eq_true, pj_up_up, pj_so110_109, pj_so111_109, pj_so112_109, pj_so113_109, pj_so114_109, pj_so115_109, pj_so116_109, pj_so117_109, pj_so111_110, pj_so112_110, pj_so113_110, pj_so114_110, pj_so115_110, pj_so116_110, pj_so117_110, pj_so112_111, pj_so113_111, pj_so114_111, pj_so115_111, pj_so116_111, pj_so117_111, pj_so113_112, pj_so114_112, pj_so115_112, pj_so116_112, pj_so117_112, pj_so114_113, pj_so115_113, pj_so116_113, pj_so117_113, pj_so115_114, pj_so116_114, pj_so117_114, pj_so116_115, pj_so117_115, pj_so117_116, pj_up_ap, pj_upd_ap, pj_a3_0, pj_a3_1, pj_a3_2, pj_a3_u0, pj_a3_u1, pj_a3_u2, pj_f5_0, pj_f4_0, pj_arl_i, pj_f4_10, pj_f4_9, pj_f4_7, pj_f4_8, pj_f4_6, pj_f2_1, pj_f2_2, hV, pj_vc, hu, hx5]
    exact t47_143
  by_cases w5 : w = 5
  · subst w5
    simp (disch := first | assumption | exact pj_long_i | exact pj_long_r | exact pj_long_n | decide) only [x47_0, x47_1, x47_3, x47_6, x47_7, x47_9, x47_12, x47_13, x47_16, x47_19, x47_20, x47_22, x47_23, x47_25, x47_26, x47_104, x47_105, x47_108, x47_112, x47_113, x47_116, x47_120, x47_121, x47_124, x47_128, x47_129, x47_136, x47_137, x47_140, x47_144, x47_145, x47_148, x47_151, x47_155, x47_156, x47_159, x47_162, x47_166, x47_167, x47_170, x47_173, x47_174, x47_177, simprocAttr, pj_then_s, pj_pv_s, pj_pi_s, pj_set_s, if_true, if_false, not_true_eq_false, not_false_eq_true, pj_up_up, pj_so110_109, pj_so111_109, pj_so112_109, pj_so113_109, pj_so114_109, pj_so115_109, pj_so116_109, pj_so117_109, pj_so111_110, pj_so112_110, pj_so113_110, pj_so114_110, pj_so115_110, pj_so116_110, pj_so117_110, pj_so112_111, pj_so113_111, pj_so114_111, pj_so115_111, pj_so116_111, pj_so117_111, pj_so113_112, pj_so114_112, pj_so115_112, pj_so116_112, pj_so117_112, pj_so114_113, pj_so115_113, pj_so116_113, pj_so117_113, pj_so115_114, pj_so116_114, pj_so117_114, pj_so116_115, pj_so117_115, pj_so117_116, pj_up_ap, pj_upd_ap, pj_a3_0, pj_a3_1, pj_a3_2, pj_a3_u0, pj_a3_u1, pj_a3_u2, pj_f5_0, pj_f4_0, pj_arl_i, pj_f4_10, pj_f4_9, pj_f4_7, pj_f4_8, pj_f4_6, pj_f2_1, pj_f2_2, hV, pj_vc, hu, hx5, hu7]
    exact t47_154
  by_cases w6 : w = 6
  · subst w6
    simp (disch := first | assumption | exact pj_long_i | exact pj_long_r | exact pj_long_n | decide) only [x47_0, x47_1, x47_3, x47_6, x47_7, x47_9, x47_12, x47_13, x47_16, x47_19, x47_20, x47_22, x47_23, x47_25, x47_26, x47_104, x47_105, x47_108, x47_112, x47_113, x47_116, x47_120, x47_121, x47_124, x47_128, x47_129, x47_136, x47_137, x47_140, x47_144, x47_145, x47_148, x47_151, x47_155, x47_156, x47_159, x47_162, x47_166, x47_167, x47_170, x47_173, x47_174, x47_177, simprocAttr, pj_then_s, pj_pv_s, pj_pi_s, pj_set_s, if_true, if_false, not_true_eq_false, not_false_eq_true, pj_up_up, pj_so110_109, pj_so111_109, pj_so112_109, pj_so113_109, pj_so114_109, pj_so115_109, pj_so116_109, pj_so117_109, pj_so111_110, pj_so112_110, pj_so113_110, pj_so114_110, pj_so115_110, pj_so116_110, pj_so117_110, pj_so112_111, pj_so113_111, pj_so114_111, pj_so115_111, pj_so116_111, pj_so117_111, pj_so113_112, pj_so114_112, pj_so115_112, pj_so116_112, pj_so117_112, pj_so114_113, pj_so115_113, pj_so116_113, pj_so117_113, pj_so115_114, pj_so116_114, pj_so117_114, pj_so116_115, pj_so117_115, pj_so117_116, pj_up_ap, pj_upd_ap, pj_a3_0, pj_a3_1, pj_a3_2, pj_a3_u0, pj_a3_u1, pj_a3_u2, pj_f5_0, pj_f4_0, pj_arl_i, pj_f4_10, pj_f4_9, pj_f4_7, pj_f4_8, pj_f4_6, pj_f2_1, pj_f2_2, hV, pj_vc, hu, hx5, hu7]
    exact t47_165
  by_cases w7 : w = 7
  · subst w7
    have e := sp_rec_ck (F := x.1) (by omega) r6 r29
    simp only [simprocAttr, if_true, if_false]
    rw [e]
    simp (disch := first | assumption | exact pj_long_i | exact pj_long_r | exact pj_long_n | decide) only [x47_0, x47_1, x47_3, x47_6, x47_7, x47_9, x47_12, x47_13, x47_16, x47_19, x47_20, x47_22, x47_23, x47_25, x47_26, x47_104, x47_105, x47_108, x47_112, x47_113, x47_116, x47_120, x47_121, x47_124, x47_128, x47_129, x47_136, x47_137, x47_140, x47_144, x47_145, x47_148, x47_151, x47_155, x47_156, x47_159, x47_162, x47_166, x47_167, x47_170, x47_173, x47_174, x47_177, simprocAttr, pj_then_s, pj_pv_s, pj_pi_s, pj_set_s, if_true, if_false, not_true_eq_false, not_false_eq_true, pj_up_up, pj_so110_109, pj_so111_109, pj_so112_109, pj_so113_109, pj_so114_109, pj_so115_109, pj_so116_109, pj_so117_109, pj_so111_110, pj_so112_110, pj_so113_110, pj_so114_110, pj_so115_110, pj_so116_110, pj_so117_110, pj_so112_111, pj_so113_111, pj_so114_111, pj_so115_111, pj_so116_111, pj_so117_111, pj_so113_112, pj_so114_112, pj_so115_112, pj_so116_112, pj_so117_112, pj_so114_113, pj_so115_113, pj_so116_113, pj_so117_113, pj_so115_114, pj_so116_114, pj_so117_114, pj_so116_115, pj_so117_115, pj_so117_116, pj_up_ap, pj_upd_ap, pj_a3_0, pj_a3_1, pj_a3_2, pj_a3_u0, pj_a3_u1, pj_a3_u2, pj_f5_0, pj_f4_0, pj_arl_i, pj_f4_10, pj_f4_9, pj_f4_7, pj_f4_8, pj_f4_6, pj_f2_1, pj_f2_2, hV, pj_vc, hu, hx5]
    refine e47_180 rfl (by rw [hu7]; rfl) (c_isTaking hu7) ?_
    refine e47_183 rfl (c_asNumber ck_tk_01) ?_
    exact t47_186
  by_cases w14 : w = 14
  · subst w14
    simp (disch := first | assumption | exact pj_long_i | exact pj_long_r | exact pj_long_n | decide) only [x47_0, x47_1, x47_3, x47_6, x47_7, x47_9, x47_12, x47_13, x47_16, x47_19, x47_20, x47_22, x47_23, x47_25, x47_26, x47_104, x47_105, x47_108, x47_112, x47_113, x47_116, x47_120, x47_121, x47_124, x47_128, x47_129, x47_136, x47_137, x47_140, x47_144, x47_145, x47_148, x47_151, x47_155, x47_156, x47_159, x47_162, x47_166, x47_167, x47_170, x47_173, x47_174, x47_177, x47_187, x47_188, x47_191, simprocAttr, pj_then_s, pj_pv_s, pj_pi_s, pj_set_s, if_true, if_false, not_true_eq_false, not_false_eq_true, pj_up_up, pj_so110_109, pj_so111_109, pj_so112_109, pj_so113_109, pj_so114_109, pj_so115_109, pj_so116_109, pj_so117_109, pj_so111_110, pj_so112_110, pj_so113_110, pj_so114_110, pj_so115_110, pj_so116_110, pj_so117_110, pj_so112_111, pj_so113_111, pj_so114_111, pj_so115_111, pj_so116_111, pj_so117_111, pj_so113_112, pj_so114_112, pj_so115_112, pj_so116_112, pj_so117_112, pj_so114_113, pj_so115_113, pj_so116_113, pj_so117_113, pj_so115_114, pj_so116_114, pj_so117_114, pj_so116_115, pj_so117_115, pj_so117_116, pj_up_ap, pj_upd_ap, pj_a3_0, pj_a3_1, pj_a3_2, pj_a3_u0, pj_a3_u1, pj_a3_u2, pj_f5_0, pj_f4_0, pj_arl_i, pj_f4_10, pj_f4_9, pj_f4_7, pj_f4_8, pj_f4_6, pj_f2_1, pj_f2_2, pj_f5_3, pj_f0_2, hV, pj_vc, hP, pj_pc]
    exact t47_194
  by_cases w15 : w = 15
  · subst w15
    simp (disch := first | assumption | exact pj_long_i | exact pj_long_r | exact pj_long_n | decide) only [x47_0, x47_1, x47_3, x47_6, x47_7, x47_9, x47_12, x47_13, x47_16, x47_19, x47_20, x47_22, x47_23, x47_25, x47_26, x47_104, x47_105, x47_108, x47_112, x47_113, x47_116, x47_120, x47_121, x47_124, x47_128, x47_129, x47_136, x47_137, x47_140, x47_144, x47_145, x47_148, x47_151, x47_155, x47_156, x47_159, x47_162, x47_166, x47_167, x47_170, x47_173, x47_174, x47_177, x47_187, x47_188, x47_191, x47_195, x47_196, simprocAttr, pj_then_s, pj_pv_s, pj_pi_s, pj_set_s, if_true, if_false, not_true_eq_false, not_false_eq_true, pj_up_up, pj_so110_109, pj_so111_109, pj_so112_109, pj_so113_109, pj_so114_109, pj_so115_109, pj_so116_109, pj_so117_109, pj_so111_110, pj_so112_110, pj_so113_110, pj_so114_110, pj_so115_110, pj_so116_110, pj_so117_110, pj_so112_111, pj_so113_111, pj_so114_111, pj_so115_111, pj_so116_111, pj_so117_111, pj_so113_112, pj_so114_112, pj_so115_112, pj_so116_112, pj_so117_112, pj_so114_113, pj_so115_113, pj_so116_113, pj_so117_113, pj_so115_114, pj_so116_114, pj_so117_114, pj_so116_115, pj_so117_115, pj_so117_116, pj_up_ap, pj_upd_ap, pj_a3_0, pj_a3_1, pj_a3_2, pj_a3_u0, pj_a3_u1, pj_a3_u2, pj_f5_0, pj_f4_0, pj_arl_i, pj_f4_10, pj_f4_9, pj_f4_7, pj_f4_8, pj_f4_6, pj_f2_1, pj_f2_2, pj_f5_3, pj_f0_2, pj_f5_5, hV, pj_vc]
    exact t47_199
  have w8 : ¬ w = 8 := fun q => c1 (by subst q; decide)
  have w9 : ¬ w = 9 := fun q => c1 (by subst q; decide)
  have w10 : ¬ w = 10 := fun q => c1 (by subst q; decide)
  have w11 : ¬ w = 11 := fun q => c1 (by subst q; decide)
  have w12 : ¬ w = 12 := fun q => c1 (by subst q; decide)
  have w13 : ¬ w = 13 := fun q => c1 (by subst q; decide)
  by_cases c8 : w < 8
  · simp (disch := first | assumption | exact pj_long_i | exact pj_long_r | exact pj_long_n | decide) only [x47_0, x47_1, x47_3, x47_6, x47_7, x47_9, x47_12, x47_13, x47_16, x47_19, x47_20, x47_22, x47_23, x47_25, x47_26, x47_104, x47_105, x47_108, x47_112, x47_113, x47_116, x47_120, x47_121, x47_124, x47_128, x47_129, x47_136, x47_137, x47_140, x47_144, x47_145, x47_148, x47_151, x47_155, x47_156, x47_159, x47_162, x47_166, x47_167, x47_170, x47_173, x47_174, x47_177, x47_187, x47_188, x47_191, x47_195, x47_196, x47_200, simprocAttr, pj_then_s, pj_pv_s, pj_pi_s, pj_set_s, if_true, if_false, not_true_eq_false, not_false_eq_true, pj_up_up, pj_so110_109, pj_so111_109, pj_so112_109, pj_so113_109, pj_so114_109, pj_so115_109, pj_so116_109, pj_so117_109, pj_so111_110, pj_so112_110, pj_so113_110, pj_so114_110, pj_so115_110, pj_so116_110, pj_so117_110, pj_so112_111, pj_so113_111, pj_so114_111, pj_so115_111, pj_so116_111, pj_so117_111, pj_so113_112, pj_so114_112, pj_so115_112, pj_so116_112, pj_so117_112, pj_so114_113, pj_so115_113, pj_so116_113, pj_so117_113, pj_so115_114, pj_so116_114, pj_so117_114, pj_so116_115, pj_so117_115, pj_so117_116, pj_up_ap, pj_upd_ap, pj_a3_0, pj_a3_1, pj_a3_2, pj_a3_u0, pj_a3_u1, pj_a3_u2, pj_f5_0, pj_f4_0, pj_arl_i, pj_f4_10, pj_f4_9, pj_f4_7, pj_f4_8, pj_f4_6, pj_f2_1, pj_f2_2, pj_f5_3, pj_f0_2, pj_f5_5, c8, w0, w1, w2, w3, w4, w5, w6, w7, w8, w9, w10, w11, w12, w13, w14, w15]
    exact t47_202
  · have c14 : ¬ w < 14 := by
      intro q
      apply c1
      refine ⟨Int32.not_lt.mp c8, ?_⟩
      rw [Int32.lt_iff_toInt_lt] at q
      rw [Int32.le_iff_toInt_le]
      have e3 : (14 : Int32).toInt = 14 := rfl
      have e2 : (13 : Int32).toInt = 13 := rfl
      omega
    have c14' : 14 ≤ w := Int32.not_lt.mp c14
    simp (disch := first | assumption | exact pj_long_i | exact pj_long_r | exact pj_long_n | decide) only [x47_0, x47_1, x47_3, x47_6, x47_7, x47_9, x47_12, x47_13, x47_16, x47_19, x47_20, x47_22, x47_23, x47_25, x47_26, x47_104, x47_105, x47_108, x47_112, x47_113, x47_116, x47_120, x47_121, x47_124, x47_128, x47_129, x47_136, x47_137, x47_140, x47_144, x47_145, x47_148, x47_151, x47_155, x47_156, x47_159, x47_162, x47_166, x47_167, x47_170, x47_173, x47_174, x47_177, x47_187, x47_188, x47_191, x47_195, x47_196, x47_200, simprocAttr, pj_then_s, pj_pv_s, pj_pi_s, pj_set_s, if_true, if_false, not_true_eq_false, not_false_eq_true, pj_up_up, pj_so110_109, pj_so111_109, pj_so112_109, pj_so113_109, pj_so114_109, pj_so115_109, pj_so116_109, pj_so117_109, pj_so111_110, pj_so112_110, pj_so113_110, pj_so114_110, pj_so115_110, pj_so116_110, pj_so117_110, pj_so112_111, pj_so113_111, pj_so114_111, pj_so115_111, pj_so116_111, pj_so117_111, pj_so113_112, pj_so114_112, pj_so115_112, pj_so116_112, pj_so117_112, pj_so114_113, pj_so115_113, pj_so116_113, pj_so117_113, pj_so115_114, pj_so116_114, pj_so117_114, pj_so116_115, pj_so117_115, pj_so117_116, pj_up_ap, pj_upd_ap, pj_a3_0, pj_a3_1, pj_a3_2, pj_a3_u0, pj_a3_u1, pj_a3_u2, pj_f5_0, pj_f4_0, pj_arl_i, pj_f4_10, pj_f4_9, pj_f4_7, pj_f4_8, pj_f4_6, pj_f2_1, pj_f2_2, pj_f5_3, pj_f0_2, pj_f5_5, c8, c14, c14', w0, w1, w2, w3, w4, w5, w6, w7, w8, w9, w10, w11, w12, w13, w14, w15]
    exact t47_202
end T27
