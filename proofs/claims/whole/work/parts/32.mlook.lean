/-! THE REFERENCE'S LOOKS -/
def op_sensor (f : Nat → Int32) (a w : Int32) : Int32 := if sp_th a = 0 then -1 else if w = 0 then f (8 + a.toNatClampNeg) + 100000 else if w = 1 then f (11 + a.toNatClampNeg) + 100000 else if w = 2 then f (14 + a.toNatClampNeg) else if w = 3 then f (17 + a.toNatClampNeg) else if w = 4 then (if f 6 = 0 then -6 else f (20 + a.toNatClampNeg) + 100000) else -2
theorem M_sensor {N S : Nat} {H : pj_Heap} {x : pj_Sg} {a w : Int32} (hM : pj_M H x) : pj_Mo N S H 104 [some (.ref 109), some (.int a), some (.int w)] (x, op_sensor x.1 a w) := by
  have hM' := hM
  obtain ⟨k, hs0, sl0, r0, r1, r2, a0, a1, a2, mid, lo, hi, fi, sp, nu, ic, td, ⟨hm, hf, hk, hh, hs, hv, hg, hA, hp⟩, hr⟩ := hM
  refine pj_Mo_same hM' ?_
  unfold op_sensor
  simp (disch := first | assumption | exact pj_long_i | exact pj_long_r | exact pj_long_n | decide) only [x104_0, simprocAttr, pj_then_s, pj_pv_s, pj_pi_s, pj_set_s, if_true, if_false, not_true_eq_false, not_false_eq_true, pj_up_up, pj_up_sort, pj_up_ap, pj_upd_ap, pj_a3_0, pj_a3_1, pj_a3_2, pj_a3_u0, pj_a3_u1, pj_a3_u2]
  refine e104_1 rfl m_isThree ?_
  by_cases c1 : sp_th a = 0
  · rw [if_pos c1]
    simp (disch := first | assumption | exact pj_long_i | exact pj_long_r | exact pj_long_n | decide) only [x104_4, x104_7, simprocAttr, pj_then_s, pj_pv_s, pj_pi_s, pj_set_s, if_true, if_false, not_true_eq_false, not_false_eq_true, pj_up_up, pj_up_sort, pj_up_ap, pj_upd_ap, pj_a3_0, pj_a3_1, pj_a3_2, pj_a3_u0, pj_a3_u1, pj_a3_u2, c1]
    exact t104_8
  rw [if_neg c1]
  simp (disch := first | assumption | exact pj_long_i | exact pj_long_r | exact pj_long_n | decide) only [x104_4, x104_7, x104_9, simprocAttr, pj_then_s, pj_pv_s, pj_pi_s, pj_set_s, if_true, if_false, not_true_eq_false, not_false_eq_true, pj_up_up, pj_up_sort, pj_up_ap, pj_upd_ap, pj_a3_0, pj_a3_1, pj_a3_2, pj_a3_u0, pj_a3_u1, pj_a3_u2, c1]
  rcases sp_th_lt c1 with e | e | e
  · subst e
    rw [pj_tn0]
    by_cases w0 : w = 0
    · subst w0
      simp (disch := first | assumption | exact pj_long_i | exact pj_long_r | exact pj_long_n | decide) only [x104_10, x104_44, x104_45, x104_48, x104_50, x104_51, x104_52, x104_53, x104_55, x104_57, x104_58, x104_61, x104_63, x104_64, x104_65, x104_66, x104_68, x104_70, x104_71, x104_74, x104_76, x104_77, x104_78, x104_80, x104_81, x104_84, x104_86, x104_87, x104_88, x104_90, x104_91, x104_94, x104_96, x104_97, x104_100, x104_102, x104_105, x104_106, x104_109, x104_111, x104_112, x104_113, x104_114, x104_116, simprocAttr, pj_then_s, pj_pv_s, pj_pi_s, pj_set_s, if_true, if_false, not_true_eq_false, not_false_eq_true, pj_up_up, pj_up_sort, pj_up_ap, pj_upd_ap, pj_a3_0, pj_a3_1, pj_a3_2, pj_a3_u0, pj_a3_u1, pj_a3_u2, pj_f6_0, pj_arl_i, hm, hf, pj_mo]
      exact t104_56
    by_cases w1 : w = 1
    · subst w1
      simp (disch := first | assumption | exact pj_long_i | exact pj_long_r | exact pj_long_n | decide) only [x104_10, x104_44, x104_45, x104_48, x104_50, x104_51, x104_52, x104_53, x104_55, x104_57, x104_58, x104_61, x104_63, x104_64, x104_65, x104_66, x104_68, x104_70, x104_71, x104_74, x104_76, x104_77, x104_78, x104_80, x104_81, x104_84, x104_86, x104_87, x104_88, x104_90, x104_91, x104_94, x104_96, x104_97, x104_100, x104_102, x104_105, x104_106, x104_109, x104_111, x104_112, x104_113, x104_114, x104_116, simprocAttr, pj_then_s, pj_pv_s, pj_pi_s, pj_set_s, if_true, if_false, not_true_eq_false, not_false_eq_true, pj_up_up, pj_up_sort, pj_up_ap, pj_upd_ap, pj_a3_0, pj_a3_1, pj_a3_2, pj_a3_u0, pj_a3_u1, pj_a3_u2, pj_f6_0, pj_arl_i, hm, hf, pj_mo]
      exact t104_69
    by_cases w2 : w = 2
    · subst w2
      simp (disch := first | assumption | exact pj_long_i | exact pj_long_r | exact pj_long_n | decide) only [x104_10, x104_44, x104_45, x104_48, x104_50, x104_51, x104_52, x104_53, x104_55, x104_57, x104_58, x104_61, x104_63, x104_64, x104_65, x104_66, x104_68, x104_70, x104_71, x104_74, x104_76, x104_77, x104_78, x104_80, x104_81, x104_84, x104_86, x104_87, x104_88, x104_90, x104_91, x104_94, x104_96, x104_97, x104_100, x104_102, x104_105, x104_106, x104_109, x104_111, x104_112, x104_113, x104_114, x104_116, simprocAttr, pj_then_s, pj_pv_s, pj_pi_s, pj_set_s, if_true, if_false, not_true_eq_false, not_false_eq_true, pj_up_up, pj_up_sort, pj_up_ap, pj_upd_ap, pj_a3_0, pj_a3_1, pj_a3_2, pj_a3_u0, pj_a3_u1, pj_a3_u2, pj_f6_0, pj_arl_i, hm, hf, pj_mo]
      exact t104_79
    by_cases w3 : w = 3
    · subst w3
      simp (disch := first | assumption | exact pj_long_i | exact pj_long_r | exact pj_long_n | decide) only [x104_10, x104_44, x104_45, x104_48, x104_50, x104_51, x104_52, x104_53, x104_55, x104_57, x104_58, x104_61, x104_63, x104_64, x104_65, x104_66, x104_68, x104_70, x104_71, x104_74, x104_76, x104_77, x104_78, x104_80, x104_81, x104_84, x104_86, x104_87, x104_88, x104_90, x104_91, x104_94, x104_96, x104_97, x104_100, x104_102, x104_105, x104_106, x104_109, x104_111, x104_112, x104_113, x104_114, x104_116, simprocAttr, pj_then_s, pj_pv_s, pj_pi_s, pj_set_s, if_true, if_false, not_true_eq_false, not_false_eq_true, pj_up_up, pj_up_sort, pj_up_ap, pj_upd_ap, pj_a3_0, pj_a3_1, pj_a3_2, pj_a3_u0, pj_a3_u1, pj_a3_u2, pj_f6_0, pj_arl_i, hm, hf, pj_mo]
      exact t104_89
    by_cases w4 : w = 4
    · subst w4
      by_cases c6 : x.1 6 = 0
      · simp (disch := first | assumption | exact pj_long_i | exact pj_long_r | exact pj_long_n | decide) only [x104_10, x104_44, x104_45, x104_48, x104_50, x104_51, x104_52, x104_53, x104_55, x104_57, x104_58, x104_61, x104_63, x104_64, x104_65, x104_66, x104_68, x104_70, x104_71, x104_74, x104_76, x104_77, x104_78, x104_80, x104_81, x104_84, x104_86, x104_87, x104_88, x104_90, x104_91, x104_94, x104_96, x104_97, x104_100, x104_102, x104_105, x104_106, x104_109, x104_111, x104_112, x104_113, x104_114, x104_116, simprocAttr, pj_then_s, pj_pv_s, pj_pi_s, pj_set_s, if_true, if_false, not_true_eq_false, not_false_eq_true, pj_up_up, pj_up_sort, pj_up_ap, pj_upd_ap, pj_a3_0, pj_a3_1, pj_a3_2, pj_a3_u0, pj_a3_u1, pj_a3_u2, pj_f6_0, pj_arl_i, hm, hf, pj_mo, c6]
        exact t104_117
      · simp (disch := first | assumption | exact pj_long_i | exact pj_long_r | exact pj_long_n | decide) only [x104_10, x104_44, x104_45, x104_48, x104_50, x104_51, x104_52, x104_53, x104_55, x104_57, x104_58, x104_61, x104_63, x104_64, x104_65, x104_66, x104_68, x104_70, x104_71, x104_74, x104_76, x104_77, x104_78, x104_80, x104_81, x104_84, x104_86, x104_87, x104_88, x104_90, x104_91, x104_94, x104_96, x104_97, x104_100, x104_102, x104_105, x104_106, x104_109, x104_111, x104_112, x104_113, x104_114, x104_116, simprocAttr, pj_then_s, pj_pv_s, pj_pi_s, pj_set_s, if_true, if_false, not_true_eq_false, not_false_eq_true, pj_up_up, pj_up_sort, pj_up_ap, pj_upd_ap, pj_a3_0, pj_a3_1, pj_a3_2, pj_a3_u0, pj_a3_u1, pj_a3_u2, pj_f6_0, pj_arl_i, hm, hf, pj_mo, c6]
        exact t104_117
    simp (disch := first | assumption | exact pj_long_i | exact pj_long_r | exact pj_long_n | decide) only [x104_10, x104_44, x104_45, x104_48, x104_50, x104_51, x104_52, x104_53, x104_55, x104_57, x104_58, x104_61, x104_63, x104_64, x104_65, x104_66, x104_68, x104_70, x104_71, x104_74, x104_76, x104_77, x104_78, x104_80, x104_81, x104_84, x104_86, x104_87, x104_88, x104_90, x104_91, x104_94, x104_96, x104_97, x104_100, x104_102, x104_105, x104_106, x104_109, x104_111, x104_112, x104_113, x104_114, x104_116, x104_118, simprocAttr, pj_then_s, pj_pv_s, pj_pi_s, pj_set_s, if_true, if_false, not_true_eq_false, not_false_eq_true, pj_up_up, pj_up_sort, pj_up_ap, pj_upd_ap, pj_a3_0, pj_a3_1, pj_a3_2, pj_a3_u0, pj_a3_u1, pj_a3_u2, pj_f6_0, pj_arl_i, hm, hf, pj_mo, w0, w1, w2, w3, w4]
    exact t104_120
  · subst e
    rw [pj_tn1]
    by_cases w0 : w = 0
    · subst w0
      simp (disch := first | assumption | exact pj_long_i | exact pj_long_r | exact pj_long_n | decide) only [x104_10, x104_44, x104_45, x104_48, x104_50, x104_51, x104_52, x104_53, x104_55, x104_57, x104_58, x104_61, x104_63, x104_64, x104_65, x104_66, x104_68, x104_70, x104_71, x104_74, x104_76, x104_77, x104_78, x104_80, x104_81, x104_84, x104_86, x104_87, x104_88, x104_90, x104_91, x104_94, x104_96, x104_97, x104_100, x104_102, x104_105, x104_106, x104_109, x104_111, x104_112, x104_113, x104_114, x104_116, simprocAttr, pj_then_s, pj_pv_s, pj_pi_s, pj_set_s, if_true, if_false, not_true_eq_false, not_false_eq_true, pj_up_up, pj_up_sort, pj_up_ap, pj_upd_ap, pj_a3_0, pj_a3_1, pj_a3_2, pj_a3_u0, pj_a3_u1, pj_a3_u2, pj_f6_0, pj_arl_i, hm, hf, pj_mo]
      exact t104_56
    by_cases w1 : w = 1
    · subst w1
      simp (disch := first | assumption | exact pj_long_i | exact pj_long_r | exact pj_long_n | decide) only [x104_10, x104_44, x104_45, x104_48, x104_50, x104_51, x104_52, x104_53, x104_55, x104_57, x104_58, x104_61, x104_63, x104_64, x104_65, x104_66, x104_68, x104_70, x104_71, x104_74, x104_76, x104_77, x104_78, x104_80, x104_81, x104_84, x104_86, x104_87, x104_88, x104_90, x104_91, x104_94, x104_96, x104_97, x104_100, x104_102, x104_105, x104_106, x104_109, x104_111, x104_112, x104_113, x104_114, x104_116, simprocAttr, pj_then_s, pj_pv_s, pj_pi_s, pj_set_s, if_true, if_false, not_true_eq_false, not_false_eq_true, pj_up_up, pj_up_sort, pj_up_ap, pj_upd_ap, pj_a3_0, pj_a3_1, pj_a3_2, pj_a3_u0, pj_a3_u1, pj_a3_u2, pj_f6_0, pj_arl_i, hm, hf, pj_mo]
      exact t104_69
    by_cases w2 : w = 2
    · subst w2
      simp (disch := first | assumption | exact pj_long_i | exact pj_long_r | exact pj_long_n | decide) only [x104_10, x104_44, x104_45, x104_48, x104_50, x104_51, x104_52, x104_53, x104_55, x104_57, x104_58, x104_61, x104_63, x104_64, x104_65, x104_66, x104_68, x104_70, x104_71, x104_74, x104_76, x104_77, x104_78, x104_80, x104_81, x104_84, x104_86, x104_87, x104_88, x104_90, x104_91, x104_94, x104_96, x104_97, x104_100, x104_102, x104_105, x104_106, x104_109, x104_111, x104_112, x104_113, x104_114, x104_116, simprocAttr, pj_then_s, pj_pv_s, pj_pi_s, pj_set_s, if_true, if_false, not_true_eq_false, not_false_eq_true, pj_up_up, pj_up_sort, pj_up_ap, pj_upd_ap, pj_a3_0, pj_a3_1, pj_a3_2, pj_a3_u0, pj_a3_u1, pj_a3_u2, pj_f6_0, pj_arl_i, hm, hf, pj_mo]
      exact t104_79
    by_cases w3 : w = 3
    · subst w3
      simp (disch := first | assumption | exact pj_long_i | exact pj_long_r | exact pj_long_n | decide) only [x104_10, x104_44, x104_45, x104_48, x104_50, x104_51, x104_52, x104_53, x104_55, x104_57, x104_58, x104_61, x104_63, x104_64, x104_65, x104_66, x104_68, x104_70, x104_71, x104_74, x104_76, x104_77, x104_78, x104_80, x104_81, x104_84, x104_86, x104_87, x104_88, x104_90, x104_91, x104_94, x104_96, x104_97, x104_100, x104_102, x104_105, x104_106, x104_109, x104_111, x104_112, x104_113, x104_114, x104_116, simprocAttr, pj_then_s, pj_pv_s, pj_pi_s, pj_set_s, if_true, if_false, not_true_eq_false, not_false_eq_true, pj_up_up, pj_up_sort, pj_up_ap, pj_upd_ap, pj_a3_0, pj_a3_1, pj_a3_2, pj_a3_u0, pj_a3_u1, pj_a3_u2, pj_f6_0, pj_arl_i, hm, hf, pj_mo]
      exact t104_89
    by_cases w4 : w = 4
    · subst w4
      by_cases c6 : x.1 6 = 0
      · simp (disch := first | assumption | exact pj_long_i | exact pj_long_r | exact pj_long_n | decide) only [x104_10, x104_44, x104_45, x104_48, x104_50, x104_51, x104_52, x104_53, x104_55, x104_57, x104_58, x104_61, x104_63, x104_64, x104_65, x104_66, x104_68, x104_70, x104_71, x104_74, x104_76, x104_77, x104_78, x104_80, x104_81, x104_84, x104_86, x104_87, x104_88, x104_90, x104_91, x104_94, x104_96, x104_97, x104_100, x104_102, x104_105, x104_106, x104_109, x104_111, x104_112, x104_113, x104_114, x104_116, simprocAttr, pj_then_s, pj_pv_s, pj_pi_s, pj_set_s, if_true, if_false, not_true_eq_false, not_false_eq_true, pj_up_up, pj_up_sort, pj_up_ap, pj_upd_ap, pj_a3_0, pj_a3_1, pj_a3_2, pj_a3_u0, pj_a3_u1, pj_a3_u2, pj_f6_0, pj_arl_i, hm, hf, pj_mo, c6]
        exact t104_117
      · simp (disch := first | assumption | exact pj_long_i | exact pj_long_r | exact pj_long_n | decide) only [x104_10, x104_44, x104_45, x104_48, x104_50, x104_51, x104_52, x104_53, x104_55, x104_57, x104_58, x104_61, x104_63, x104_64, x104_65, x104_66, x104_68, x104_70, x104_71, x104_74, x104_76, x104_77, x104_78, x104_80, x104_81, x104_84, x104_86, x104_87, x104_88, x104_90, x104_91, x104_94, x104_96, x104_97, x104_100, x104_102, x104_105, x104_106, x104_109, x104_111, x104_112, x104_113, x104_114, x104_116, simprocAttr, pj_then_s, pj_pv_s, pj_pi_s, pj_set_s, if_true, if_false, not_true_eq_false, not_false_eq_true, pj_up_up, pj_up_sort, pj_up_ap, pj_upd_ap, pj_a3_0, pj_a3_1, pj_a3_2, pj_a3_u0, pj_a3_u1, pj_a3_u2, pj_f6_0, pj_arl_i, hm, hf, pj_mo, c6]
        exact t104_117
    simp (disch := first | assumption | exact pj_long_i | exact pj_long_r | exact pj_long_n | decide) only [x104_10, x104_44, x104_45, x104_48, x104_50, x104_51, x104_52, x104_53, x104_55, x104_57, x104_58, x104_61, x104_63, x104_64, x104_65, x104_66, x104_68, x104_70, x104_71, x104_74, x104_76, x104_77, x104_78, x104_80, x104_81, x104_84, x104_86, x104_87, x104_88, x104_90, x104_91, x104_94, x104_96, x104_97, x104_100, x104_102, x104_105, x104_106, x104_109, x104_111, x104_112, x104_113, x104_114, x104_116, x104_118, simprocAttr, pj_then_s, pj_pv_s, pj_pi_s, pj_set_s, if_true, if_false, not_true_eq_false, not_false_eq_true, pj_up_up, pj_up_sort, pj_up_ap, pj_upd_ap, pj_a3_0, pj_a3_1, pj_a3_2, pj_a3_u0, pj_a3_u1, pj_a3_u2, pj_f6_0, pj_arl_i, hm, hf, pj_mo, w0, w1, w2, w3, w4]
    exact t104_120
  · subst e
    rw [pj_tn2]
    by_cases w0 : w = 0
    · subst w0
      simp (disch := first | assumption | exact pj_long_i | exact pj_long_r | exact pj_long_n | decide) only [x104_10, x104_44, x104_45, x104_48, x104_50, x104_51, x104_52, x104_53, x104_55, x104_57, x104_58, x104_61, x104_63, x104_64, x104_65, x104_66, x104_68, x104_70, x104_71, x104_74, x104_76, x104_77, x104_78, x104_80, x104_81, x104_84, x104_86, x104_87, x104_88, x104_90, x104_91, x104_94, x104_96, x104_97, x104_100, x104_102, x104_105, x104_106, x104_109, x104_111, x104_112, x104_113, x104_114, x104_116, simprocAttr, pj_then_s, pj_pv_s, pj_pi_s, pj_set_s, if_true, if_false, not_true_eq_false, not_false_eq_true, pj_up_up, pj_up_sort, pj_up_ap, pj_upd_ap, pj_a3_0, pj_a3_1, pj_a3_2, pj_a3_u0, pj_a3_u1, pj_a3_u2, pj_f6_0, pj_arl_i, hm, hf, pj_mo]
      exact t104_56
    by_cases w1 : w = 1
    · subst w1
      simp (disch := first | assumption | exact pj_long_i | exact pj_long_r | exact pj_long_n | decide) only [x104_10, x104_44, x104_45, x104_48, x104_50, x104_51, x104_52, x104_53, x104_55, x104_57, x104_58, x104_61, x104_63, x104_64, x104_65, x104_66, x104_68, x104_70, x104_71, x104_74, x104_76, x104_77, x104_78, x104_80, x104_81, x104_84, x104_86, x104_87, x104_88, x104_90, x104_91, x104_94, x104_96, x104_97, x104_100, x104_102, x104_105, x104_106, x104_109, x104_111, x104_112, x104_113, x104_114, x104_116, simprocAttr, pj_then_s, pj_pv_s, pj_pi_s, pj_set_s, if_true, if_false, not_true_eq_false, not_false_eq_true, pj_up_up, pj_up_sort, pj_up_ap, pj_upd_ap, pj_a3_0, pj_a3_1, pj_a3_2, pj_a3_u0, pj_a3_u1, pj_a3_u2, pj_f6_0, pj_arl_i, hm, hf, pj_mo]
      exact t104_69
    by_cases w2 : w = 2
    · subst w2
      simp (disch := first | assumption | exact pj_long_i | exact pj_long_r | exact pj_long_n | decide) only [x104_10, x104_44, x104_45, x104_48, x104_50, x104_51, x104_52, x104_53, x104_55, x104_57, x104_58, x104_61, x104_63, x104_64, x104_65, x104_66, x104_68, x104_70, x104_71, x104_74, x104_76, x104_77, x104_78, x104_80, x104_81, x104_84, x104_86, x104_87, x104_88, x104_90, x104_91, x104_94, x104_96, x104_97, x104_100, x104_102, x104_105, x104_106, x104_109, x104_111, x104_112, x104_113, x104_114, x104_116, simprocAttr, pj_then_s, pj_pv_s, pj_pi_s, pj_set_s, if_true, if_false, not_true_eq_false, not_false_eq_true, pj_up_up, pj_up_sort, pj_up_ap, pj_upd_ap, pj_a3_0, pj_a3_1, pj_a3_2, pj_a3_u0, pj_a3_u1, pj_a3_u2, pj_f6_0, pj_arl_i, hm, hf, pj_mo]
      exact t104_79
    by_cases w3 : w = 3
    · subst w3
      simp (disch := first | assumption | exact pj_long_i | exact pj_long_r | exact pj_long_n | decide) only [x104_10, x104_44, x104_45, x104_48, x104_50, x104_51, x104_52, x104_53, x104_55, x104_57, x104_58, x104_61, x104_63, x104_64, x104_65, x104_66, x104_68, x104_70, x104_71, x104_74, x104_76, x104_77, x104_78, x104_80, x104_81, x104_84, x104_86, x104_87, x104_88, x104_90, x104_91, x104_94, x104_96, x104_97, x104_100, x104_102, x104_105, x104_106, x104_109, x104_111, x104_112, x104_113, x104_114, x104_116, simprocAttr, pj_then_s, pj_pv_s, pj_pi_s, pj_set_s, if_true, if_false, not_true_eq_false, not_false_eq_true, pj_up_up, pj_up_sort, pj_up_ap, pj_upd_ap, pj_a3_0, pj_a3_1, pj_a3_2, pj_a3_u0, pj_a3_u1, pj_a3_u2, pj_f6_0, pj_arl_i, hm, hf, pj_mo]
      exact t104_89
    by_cases w4 : w = 4
    · subst w4
      by_cases c6 : x.1 6 = 0
      · simp (disch := first | assumption | exact pj_long_i | exact pj_long_r | exact pj_long_n | decide) only [x104_10, x104_44, x104_45, x104_48, x104_50, x104_51, x104_52, x104_53, x104_55, x104_57, x104_58, x104_61, x104_63, x104_64, x104_65, x104_66, x104_68, x104_70, x104_71, x104_74, x104_76, x104_77, x104_78, x104_80, x104_81, x104_84, x104_86, x104_87, x104_88, x104_90, x104_91, x104_94, x104_96, x104_97, x104_100, x104_102, x104_105, x104_106, x104_109, x104_111, x104_112, x104_113, x104_114, x104_116, simprocAttr, pj_then_s, pj_pv_s, pj_pi_s, pj_set_s, if_true, if_false, not_true_eq_false, not_false_eq_true, pj_up_up, pj_up_sort, pj_up_ap, pj_upd_ap, pj_a3_0, pj_a3_1, pj_a3_2, pj_a3_u0, pj_a3_u1, pj_a3_u2, pj_f6_0, pj_arl_i, hm, hf, pj_mo, c6]
        exact t104_117
      · simp (disch := first | assumption | exact pj_long_i | exact pj_long_r | exact pj_long_n | decide) only [x104_10, x104_44, x104_45, x104_48, x104_50, x104_51, x104_52, x104_53, x104_55, x104_57, x104_58, x104_61, x104_63, x104_64, x104_65, x104_66, x104_68, x104_70, x104_71, x104_74, x104_76, x104_77, x104_78, x104_80, x104_81, x104_84, x104_86, x104_87, x104_88, x104_90, x104_91, x104_94, x104_96, x104_97, x104_100, x104_102, x104_105, x104_106, x104_109, x104_111, x104_112, x104_113, x104_114, x104_116, simprocAttr, pj_then_s, pj_pv_s, pj_pi_s, pj_set_s, if_true, if_false, not_true_eq_false, not_false_eq_true, pj_up_up, pj_up_sort, pj_up_ap, pj_upd_ap, pj_a3_0, pj_a3_1, pj_a3_2, pj_a3_u0, pj_a3_u1, pj_a3_u2, pj_f6_0, pj_arl_i, hm, hf, pj_mo, c6]
        exact t104_117
    simp (disch := first | assumption | exact pj_long_i | exact pj_long_r | exact pj_long_n | decide) only [x104_10, x104_44, x104_45, x104_48, x104_50, x104_51, x104_52, x104_53, x104_55, x104_57, x104_58, x104_61, x104_63, x104_64, x104_65, x104_66, x104_68, x104_70, x104_71, x104_74, x104_76, x104_77, x104_78, x104_80, x104_81, x104_84, x104_86, x104_87, x104_88, x104_90, x104_91, x104_94, x104_96, x104_97, x104_100, x104_102, x104_105, x104_106, x104_109, x104_111, x104_112, x104_113, x104_114, x104_116, x104_118, simprocAttr, pj_then_s, pj_pv_s, pj_pi_s, pj_set_s, if_true, if_false, not_true_eq_false, not_false_eq_true, pj_up_up, pj_up_sort, pj_up_ap, pj_upd_ap, pj_a3_0, pj_a3_1, pj_a3_2, pj_a3_u0, pj_a3_u1, pj_a3_u2, pj_f6_0, pj_arl_i, hm, hf, pj_mo, w0, w1, w2, w3, w4]
    exact t104_120
def op_stage (f : Nat → Int32) (a w : Int32) : Int32 := if sp_th a = 0 then -1 else if w = 0 then f (23 + a.toNatClampNeg) else if w = 1 then f (26 + a.toNatClampNeg) else -2
theorem M_stage {N S : Nat} {H : pj_Heap} {x : pj_Sg} {a w : Int32} (hM : pj_M H x) : pj_Mo N S H 105 [some (.ref 109), some (.int a), some (.int w)] (x, op_stage x.1 a w) := by
  have hM' := hM
  obtain ⟨k, hs0, sl0, r0, r1, r2, a0, a1, a2, mid, lo, hi, fi, sp, nu, ic, td, ⟨hm, hf, hk, hh, hs, hv, hg, hA, hp⟩, hr⟩ := hM
  refine pj_Mo_same hM' ?_
  unfold op_stage
  simp (disch := first | assumption | exact pj_long_i | exact pj_long_r | exact pj_long_n | decide) only [x105_0, simprocAttr, pj_then_s, pj_pv_s, pj_pi_s, pj_set_s, if_true, if_false, not_true_eq_false, not_false_eq_true, pj_up_up, pj_up_sort, pj_up_ap, pj_upd_ap, pj_a3_0, pj_a3_1, pj_a3_2, pj_a3_u0, pj_a3_u1, pj_a3_u2]
  refine e105_1 rfl m_isThree ?_
  by_cases c1 : sp_th a = 0
  · rw [if_pos c1]
    simp (disch := first | assumption | exact pj_long_i | exact pj_long_r | exact pj_long_n | decide) only [x105_4, x105_7, simprocAttr, pj_then_s, pj_pv_s, pj_pi_s, pj_set_s, if_true, if_false, not_true_eq_false, not_false_eq_true, pj_up_up, pj_up_sort, pj_up_ap, pj_upd_ap, pj_a3_0, pj_a3_1, pj_a3_2, pj_a3_u0, pj_a3_u1, pj_a3_u2, c1]
    exact t105_8
  rw [if_neg c1]
  simp (disch := first | assumption | exact pj_long_i | exact pj_long_r | exact pj_long_n | decide) only [x105_4, x105_7, x105_9, simprocAttr, pj_then_s, pj_pv_s, pj_pi_s, pj_set_s, if_true, if_false, not_true_eq_false, not_false_eq_true, pj_up_up, pj_up_sort, pj_up_ap, pj_upd_ap, pj_a3_0, pj_a3_1, pj_a3_2, pj_a3_u0, pj_a3_u1, pj_a3_u2, c1]
  rcases sp_th_lt c1 with e | e | e
  · subst e
    rw [pj_tn0]
    by_cases w0 : w = 0
    · subst w0
      simp (disch := first | assumption | exact pj_long_i | exact pj_long_r | exact pj_long_n | decide) only [x105_10, x105_13, x105_14, x105_17, x105_19, x105_20, x105_21, x105_22, x105_25, x105_26, x105_27, x105_30, x105_31, x105_34, x105_36, x105_37, x105_38, x105_39, x105_42, simprocAttr, pj_then_s, pj_pv_s, pj_pi_s, pj_set_s, if_true, if_false, not_true_eq_false, not_false_eq_true, pj_up_up, pj_up_sort, pj_up_ap, pj_upd_ap, pj_a3_0, pj_a3_1, pj_a3_2, pj_a3_u0, pj_a3_u1, pj_a3_u2, pj_f6_0, pj_arl_i, hm, hf, pj_mo]
      exact t105_44
    by_cases w1 : w = 1
    · subst w1
      simp (disch := first | assumption | exact pj_long_i | exact pj_long_r | exact pj_long_n | decide) only [x105_10, x105_13, x105_14, x105_17, x105_19, x105_20, x105_21, x105_22, x105_25, x105_26, x105_27, x105_30, x105_31, x105_34, x105_36, x105_37, x105_38, x105_39, x105_42, simprocAttr, pj_then_s, pj_pv_s, pj_pi_s, pj_set_s, if_true, if_false, not_true_eq_false, not_false_eq_true, pj_up_up, pj_up_sort, pj_up_ap, pj_upd_ap, pj_a3_0, pj_a3_1, pj_a3_2, pj_a3_u0, pj_a3_u1, pj_a3_u2, pj_f6_0, pj_arl_i, hm, hf, pj_mo]
      exact t105_44
    simp (disch := first | assumption | exact pj_long_i | exact pj_long_r | exact pj_long_n | decide) only [x105_10, x105_13, x105_14, x105_17, x105_19, x105_20, x105_21, x105_22, x105_25, x105_26, x105_27, x105_30, x105_31, x105_34, x105_36, x105_37, x105_38, x105_39, x105_42, simprocAttr, pj_then_s, pj_pv_s, pj_pi_s, pj_set_s, if_true, if_false, not_true_eq_false, not_false_eq_true, pj_up_up, pj_up_sort, pj_up_ap, pj_upd_ap, pj_a3_0, pj_a3_1, pj_a3_2, pj_a3_u0, pj_a3_u1, pj_a3_u2, pj_f6_0, pj_arl_i, hm, hf, pj_mo, w0, w1]
    exact t105_44
  · subst e
    rw [pj_tn1]
    by_cases w0 : w = 0
    · subst w0
      simp (disch := first | assumption | exact pj_long_i | exact pj_long_r | exact pj_long_n | decide) only [x105_10, x105_13, x105_14, x105_17, x105_19, x105_20, x105_21, x105_22, x105_25, x105_26, x105_27, x105_30, x105_31, x105_34, x105_36, x105_37, x105_38, x105_39, x105_42, simprocAttr, pj_then_s, pj_pv_s, pj_pi_s, pj_set_s, if_true, if_false, not_true_eq_false, not_false_eq_true, pj_up_up, pj_up_sort, pj_up_ap, pj_upd_ap, pj_a3_0, pj_a3_1, pj_a3_2, pj_a3_u0, pj_a3_u1, pj_a3_u2, pj_f6_0, pj_arl_i, hm, hf, pj_mo]
      exact t105_44
    by_cases w1 : w = 1
    · subst w1
      simp (disch := first | assumption | exact pj_long_i | exact pj_long_r | exact pj_long_n | decide) only [x105_10, x105_13, x105_14, x105_17, x105_19, x105_20, x105_21, x105_22, x105_25, x105_26, x105_27, x105_30, x105_31, x105_34, x105_36, x105_37, x105_38, x105_39, x105_42, simprocAttr, pj_then_s, pj_pv_s, pj_pi_s, pj_set_s, if_true, if_false, not_true_eq_false, not_false_eq_true, pj_up_up, pj_up_sort, pj_up_ap, pj_upd_ap, pj_a3_0, pj_a3_1, pj_a3_2, pj_a3_u0, pj_a3_u1, pj_a3_u2, pj_f6_0, pj_arl_i, hm, hf, pj_mo]
      exact t105_44
    simp (disch := first | assumption | exact pj_long_i | exact pj_long_r | exact pj_long_n | decide) only [x105_10, x105_13, x105_14, x105_17, x105_19, x105_20, x105_21, x105_22, x105_25, x105_26, x105_27, x105_30, x105_31, x105_34, x105_36, x105_37, x105_38, x105_39, x105_42, simprocAttr, pj_then_s, pj_pv_s, pj_pi_s, pj_set_s, if_true, if_false, not_true_eq_false, not_false_eq_true, pj_up_up, pj_up_sort, pj_up_ap, pj_upd_ap, pj_a3_0, pj_a3_1, pj_a3_2, pj_a3_u0, pj_a3_u1, pj_a3_u2, pj_f6_0, pj_arl_i, hm, hf, pj_mo, w0, w1]
    exact t105_44
  · subst e
    rw [pj_tn2]
    by_cases w0 : w = 0
    · subst w0
      simp (disch := first | assumption | exact pj_long_i | exact pj_long_r | exact pj_long_n | decide) only [x105_10, x105_13, x105_14, x105_17, x105_19, x105_20, x105_21, x105_22, x105_25, x105_26, x105_27, x105_30, x105_31, x105_34, x105_36, x105_37, x105_38, x105_39, x105_42, simprocAttr, pj_then_s, pj_pv_s, pj_pi_s, pj_set_s, if_true, if_false, not_true_eq_false, not_false_eq_true, pj_up_up, pj_up_sort, pj_up_ap, pj_upd_ap, pj_a3_0, pj_a3_1, pj_a3_2, pj_a3_u0, pj_a3_u1, pj_a3_u2, pj_f6_0, pj_arl_i, hm, hf, pj_mo]
      exact t105_44
    by_cases w1 : w = 1
    · subst w1
      simp (disch := first | assumption | exact pj_long_i | exact pj_long_r | exact pj_long_n | decide) only [x105_10, x105_13, x105_14, x105_17, x105_19, x105_20, x105_21, x105_22, x105_25, x105_26, x105_27, x105_30, x105_31, x105_34, x105_36, x105_37, x105_38, x105_39, x105_42, simprocAttr, pj_then_s, pj_pv_s, pj_pi_s, pj_set_s, if_true, if_false, not_true_eq_false, not_false_eq_true, pj_up_up, pj_up_sort, pj_up_ap, pj_upd_ap, pj_a3_0, pj_a3_1, pj_a3_2, pj_a3_u0, pj_a3_u1, pj_a3_u2, pj_f6_0, pj_arl_i, hm, hf, pj_mo]
      exact t105_44
    simp (disch := first | assumption | exact pj_long_i | exact pj_long_r | exact pj_long_n | decide) only [x105_10, x105_13, x105_14, x105_17, x105_19, x105_20, x105_21, x105_22, x105_25, x105_26, x105_27, x105_30, x105_31, x105_34, x105_36, x105_37, x105_38, x105_39, x105_42, simprocAttr, pj_then_s, pj_pv_s, pj_pi_s, pj_set_s, if_true, if_false, not_true_eq_false, not_false_eq_true, pj_up_up, pj_up_sort, pj_up_ap, pj_upd_ap, pj_a3_0, pj_a3_1, pj_a3_2, pj_a3_u0, pj_a3_u1, pj_a3_u2, pj_f6_0, pj_arl_i, hm, hf, pj_mo, w0, w1]
    exact t105_44
def op_record (f : Nat → Int32) (p w : Int32) : Int32 := if 0 ≤ p ∧ p < f 30 then (if 0 ≤ w ∧ w ≤ 9 then f (31 + 10 * p.toNatClampNeg + w.toNatClampNeg) else -2) else -1
theorem pj_nI_of {a : Int32} {b : Nat} (hb : b < 2 ^ 31) (h0 : 0 ≤ a) (h : a < nI b) : ∃ i, i < b ∧ a = nI i := by
  obtain ⟨j, h1, h2⟩ := nI_of (Int32.not_lt.mpr h0)
  subst h2
  exact ⟨j, (nI_ltI h1 hb).mp h, rfl⟩
theorem sp_in_rec {p r : Int32} {m : Nat} (hr : r = nI m) (hm : m ≤ 12) : sp_in p.toInt64 0 (r.toInt64 - 1) = if 0 ≤ p ∧ p < r then 1 else 0 := by
  subst hr
  have e : (nI m).toInt64 - 1 = (nI m - 1).toInt64 := by
    have : m = 0 ∨ m = 1 ∨ m = 2 ∨ m = 3 ∨ m = 4 ∨ m = 5 ∨ m = 6 ∨ m = 7 ∨ m = 8 ∨ m = 9 ∨ m = 10 ∨ m = 11 ∨ m = 12 := by omega
    rcases this with q | q | q | q | q | q | q | q | q | q | q | q | q <;> (subst q; decide)
  rw [sp_in_i (a' := 0) (b' := nI m - 1) (by decide) e]
  have e2 : p ≤ nI m - 1 ↔ p < nI m := by
    rw [Int32.le_iff_toInt_le, Int32.lt_iff_toInt_lt]
    have e3 : (nI m - 1).toInt = m - 1 := by
      have : m = 0 ∨ m = 1 ∨ m = 2 ∨ m = 3 ∨ m = 4 ∨ m = 5 ∨ m = 6 ∨ m = 7 ∨ m = 8 ∨ m = 9 ∨ m = 10 ∨ m = 11 ∨ m = 12 := by omega
      rcases this with q | q | q | q | q | q | q | q | q | q | q | q | q <;> (subst q; decide)
    rw [e3, nI_toInt (by omega)]
    omega
  simp only [e2]
theorem M_record {N S : Nat} {H : pj_Heap} {x : pj_Sg} {p w : Int32} (hx : pj_In x) (hM : pj_M H x) : pj_Mo N S H 106 [some (.ref 109), some (.int p), some (.int w)] (x, op_record x.1 p w) := by
  have hM' := hM
  obtain ⟨k, hs0, sl0, r0, r1, r2, a0, a1, a2, mid, lo, hi, fi, sp, nu, ic, td, ⟨hm, hf, hk, hh, hs, hv, hg, hA, hp⟩, hr⟩ := hM
  refine pj_Mo_same hM' ?_
  obtain ⟨t, ht, h152, ⟨m, hm12, h30⟩, hRo⟩ := hx.1
  unfold op_record
  simp (disch := first | assumption | exact pj_long_i | exact pj_long_r | exact pj_long_n | decide) only [x106_0, x106_1, x106_2, x106_3, x106_4, x106_7, x106_9, x106_10, x106_11, x106_12, simprocAttr, pj_then_s, pj_pv_s, pj_pi_s, pj_set_s, if_true, if_false, not_true_eq_false, not_false_eq_true, pj_up_up, pj_up_sort, pj_up_ap, pj_upd_ap, pj_a3_0, pj_a3_1, pj_a3_2, pj_a3_u0, pj_a3_u1, pj_a3_u2, pj_f6_0, pj_arl_i, hm, hf, pj_mo]
  refine e106_13 rfl m_in ?_
  rw [sp_in_rec h30 hm12]
  by_cases c1 : 0 ≤ p ∧ p < x.1 30
  · rw [if_pos c1, if_pos c1]
    simp (disch := first | assumption | exact pj_long_i | exact pj_long_r | exact pj_long_n | decide) only [x106_16, x106_19, x106_21, x106_22, x106_23, x106_24, simprocAttr, pj_then_s, pj_pv_s, pj_pi_s, pj_set_s, if_true, if_false, not_true_eq_false, not_false_eq_true, pj_up_up, pj_up_sort, pj_up_ap, pj_upd_ap, pj_a3_0, pj_a3_1, pj_a3_2, pj_a3_u0, pj_a3_u1, pj_a3_u2]
    refine e106_27 rfl m_in ?_
    rw [sp_in_i (a' := 0) (b' := 9) (by decide) (by decide)]
    by_cases c2 : 0 ≤ w ∧ w ≤ 9
    · rw [if_pos c2, if_pos c2]
      obtain ⟨i, hi, ei⟩ := pj_nI_of (by omega) c1.1 (h30 ▸ c1.2 : p < nI m)
      obtain ⟨j, hj, ej⟩ := pj_nI_of (b := 10) (by omega) c2.1 (by
        have := c2.2
        rw [Int32.le_iff_toInt_le] at this
        rw [Int32.lt_iff_toInt_lt]
        have e9 : (9 : Int32).toInt = 9 := rfl
        have e10 : (nI 10).toInt = 10 := rfl
        omega)
      subst ei
      subst ej
      have q1 : (10 : Int32) * nI i = nI (10 * i) := pk_mul 10 i
      have q2 : (31 : Int32) + nI (10 * i) = nI (31 + 10 * i) := nI_add 31 (10 * i)
      have q3 : nI (31 + 10 * i) + nI j = nI (31 + 10 * i + j) := nI_add _ _
      have q4 : (nI (31 + 10 * i + j)).toNatClampNeg = 31 + 10 * i + j := nI_clamp (by omega)
      have q5 : pj_in (nI (31 + 10 * i + j)) 152 = true := pj_in_nI (by omega) (by decide)
      rw [nI_clamp (by omega), nI_clamp (by omega)]
      simp (disch := first | assumption | exact pj_long_i | exact pj_long_r | exact pj_long_n | decide) only [x106_30, x106_33, x106_34, x106_37, x106_39, x106_41, x106_42, x106_43, x106_44, x106_45, x106_46, x106_47, x106_50, simprocAttr, pj_then_s, pj_pv_s, pj_pi_s, pj_set_s, if_true, if_false, not_true_eq_false, not_false_eq_true, pj_up_up, pj_up_sort, pj_up_ap, pj_upd_ap, pj_a3_0, pj_a3_1, pj_a3_2, pj_a3_u0, pj_a3_u1, pj_a3_u2, pj_f6_0, pj_arl_i, hm, hf, pj_mo, q1, q2, q3, q4]
      exact t106_52
    · rw [if_neg c2, if_neg c2]
      simp (disch := first | assumption | exact pj_long_i | exact pj_long_r | exact pj_long_n | decide) only [x106_30, x106_33, x106_34, x106_37, x106_39, x106_41, x106_42, x106_43, x106_44, x106_45, x106_46, x106_47, x106_50, simprocAttr, pj_then_s, pj_pv_s, pj_pi_s, pj_set_s, if_true, if_false, not_true_eq_false, not_false_eq_true, pj_up_up, pj_up_sort, pj_up_ap, pj_upd_ap, pj_a3_0, pj_a3_1, pj_a3_2, pj_a3_u0, pj_a3_u1, pj_a3_u2, pj_f6_0, pj_arl_i]
      exact t106_52
  · rw [if_neg c1, if_neg c1]
    simp (disch := first | assumption | exact pj_long_i | exact pj_long_r | exact pj_long_n | decide) only [x106_16, x106_19, simprocAttr, pj_then_s, pj_pv_s, pj_pi_s, pj_set_s, if_true, if_false, not_true_eq_false, not_false_eq_true, pj_up_up, pj_up_sort, pj_up_ap, pj_upd_ap, pj_a3_0, pj_a3_1, pj_a3_2, pj_a3_u0, pj_a3_u1, pj_a3_u2]
    exact t106_20
def op_count (x : pj_Sg) (w : Int32) : Int32 := if 8 ≤ w ∧ w ≤ 13 then x.1 (w - 8).toNatClampNeg else if w = 0 then x.1 6 else if w = 1 then x.1 7 else if w = 2 then sp_vot x.1 else if w = 3 then sp_fired x.1 else if w = 4 then sp_bar x.1 else if w = 5 then x.1 30 else if w = 6 then x.1 29 else if w = 7 then sp_rec x.1 else if w = 14 then nI x.2.2.2.2.2.1 else if w = 15 then nI x.2.1 else -2
theorem sp_813 {w : Int32} (h : 8 ≤ w ∧ w ≤ 13) : w = 8 ∨ w = 9 ∨ w = 10 ∨ w = 11 ∨ w = 12 ∨ w = 13 := by
  rw [Int32.le_iff_toInt_le, Int32.le_iff_toInt_le] at h
  have e0 : (8 : Int32).toInt = 8 := rfl
  have e2 : (13 : Int32).toInt = 13 := rfl
  rw [e0, e2] at h
  have : w.toInt = 8 ∨ w.toInt = 9 ∨ w.toInt = 10 ∨ w.toInt = 11 ∨ w.toInt = 12 ∨ w.toInt = 13 := by omega
  rcases this with e | e | e | e | e | e
  · exact Or.inl (Int32.toInt_inj.mp e)
  · exact Or.inr (Or.inl (Int32.toInt_inj.mp e))
  · exact Or.inr (Or.inr (Or.inl (Int32.toInt_inj.mp e)))
  · exact Or.inr (Or.inr (Or.inr (Or.inl (Int32.toInt_inj.mp e))))
  · exact Or.inr (Or.inr (Or.inr (Or.inr (Or.inl (Int32.toInt_inj.mp e)))))
  · exact Or.inr (Or.inr (Or.inr (Or.inr (Or.inr (Int32.toInt_inj.mp e)))))
theorem sp_rec_01 {f : Nat → Int32} : sp_rec f = 0 ∨ sp_rec f = 1 := by
  unfold sp_rec
  split
  · exact Or.inr rfl
  · split
    · exact Or.inl rfl
    · exact Or.inr rfl
theorem M_count {N S : Nat} {H : pj_Heap} {x : pj_Sg} {w : Int32} (hM : pj_M H x) : pj_Mo N S H 107 [some (.ref 109), some (.int w)] (x, op_count x w) := by
  have hM' := hM
  obtain ⟨k, hs0, sl0, r0, r1, r2, a0, a1, a2, mid, lo, hi, fi, sp, nu, ic, td, ⟨hm, hf, hk, hh, hs, hv, hg, hA, hp⟩, hr⟩ := hM
  refine pj_Mo_same hM' ?_
  unfold op_count
  simp (disch := first | assumption | exact pj_long_i | exact pj_long_r | exact pj_long_n | decide) only [x107_0, x107_1, x107_2, x107_5, simprocAttr, pj_then_s, pj_pv_s, pj_pi_s, pj_set_s, if_true, if_false, not_true_eq_false, not_false_eq_true, pj_up_up, pj_up_sort, pj_up_ap, pj_upd_ap, pj_a3_0, pj_a3_1, pj_a3_2, pj_a3_u0, pj_a3_u1, pj_a3_u2]
  refine e107_8 rfl m_in ?_
  rw [sp_in_i (a' := 8) (b' := 13) (by decide) (by decide)]
  by_cases c1 : 8 ≤ w ∧ w ≤ 13
  · rw [if_pos c1, if_pos c1]
    rcases sp_813 c1 with e | e | e | e | e | e
    · subst e
      simp (disch := first | assumption | exact pj_long_i | exact pj_long_r | exact pj_long_n | decide) only [x107_11, x107_14, x107_15, x107_18, x107_19, x107_21, x107_22, simprocAttr, pj_then_s, pj_pv_s, pj_pi_s, pj_set_s, if_true, if_false, not_true_eq_false, not_false_eq_true, pj_up_up, pj_up_sort, pj_up_ap, pj_upd_ap, pj_a3_0, pj_a3_1, pj_a3_2, pj_a3_u0, pj_a3_u1, pj_a3_u2, pj_f6_0, pj_arl_i, hm, hf, pj_mo]
      exact t107_23
    · subst e
      simp (disch := first | assumption | exact pj_long_i | exact pj_long_r | exact pj_long_n | decide) only [x107_11, x107_14, x107_15, x107_18, x107_19, x107_21, x107_22, simprocAttr, pj_then_s, pj_pv_s, pj_pi_s, pj_set_s, if_true, if_false, not_true_eq_false, not_false_eq_true, pj_up_up, pj_up_sort, pj_up_ap, pj_upd_ap, pj_a3_0, pj_a3_1, pj_a3_2, pj_a3_u0, pj_a3_u1, pj_a3_u2, pj_f6_0, pj_arl_i, hm, hf, pj_mo]
      exact t107_23
    · subst e
      simp (disch := first | assumption | exact pj_long_i | exact pj_long_r | exact pj_long_n | decide) only [x107_11, x107_14, x107_15, x107_18, x107_19, x107_21, x107_22, simprocAttr, pj_then_s, pj_pv_s, pj_pi_s, pj_set_s, if_true, if_false, not_true_eq_false, not_false_eq_true, pj_up_up, pj_up_sort, pj_up_ap, pj_upd_ap, pj_a3_0, pj_a3_1, pj_a3_2, pj_a3_u0, pj_a3_u1, pj_a3_u2, pj_f6_0, pj_arl_i, hm, hf, pj_mo]
      exact t107_23
    · subst e
      simp (disch := first | assumption | exact pj_long_i | exact pj_long_r | exact pj_long_n | decide) only [x107_11, x107_14, x107_15, x107_18, x107_19, x107_21, x107_22, simprocAttr, pj_then_s, pj_pv_s, pj_pi_s, pj_set_s, if_true, if_false, not_true_eq_false, not_false_eq_true, pj_up_up, pj_up_sort, pj_up_ap, pj_upd_ap, pj_a3_0, pj_a3_1, pj_a3_2, pj_a3_u0, pj_a3_u1, pj_a3_u2, pj_f6_0, pj_arl_i, hm, hf, pj_mo]
      exact t107_23
    · subst e
      simp (disch := first | assumption | exact pj_long_i | exact pj_long_r | exact pj_long_n | decide) only [x107_11, x107_14, x107_15, x107_18, x107_19, x107_21, x107_22, simprocAttr, pj_then_s, pj_pv_s, pj_pi_s, pj_set_s, if_true, if_false, not_true_eq_false, not_false_eq_true, pj_up_up, pj_up_sort, pj_up_ap, pj_upd_ap, pj_a3_0, pj_a3_1, pj_a3_2, pj_a3_u0, pj_a3_u1, pj_a3_u2, pj_f6_0, pj_arl_i, hm, hf, pj_mo]
      exact t107_23
    · subst e
      simp (disch := first | assumption | exact pj_long_i | exact pj_long_r | exact pj_long_n | decide) only [x107_11, x107_14, x107_15, x107_18, x107_19, x107_21, x107_22, simprocAttr, pj_then_s, pj_pv_s, pj_pi_s, pj_set_s, if_true, if_false, not_true_eq_false, not_false_eq_true, pj_up_up, pj_up_sort, pj_up_ap, pj_upd_ap, pj_a3_0, pj_a3_1, pj_a3_2, pj_a3_u0, pj_a3_u1, pj_a3_u2, pj_f6_0, pj_arl_i, hm, hf, pj_mo]
      exact t107_23
  rw [if_neg c1, if_neg c1]
  by_cases w0 : w = 0
  · subst w0
    simp (disch := first | assumption | exact pj_long_i | exact pj_long_r | exact pj_long_n | decide) only [x107_11, x107_14, x107_15, x107_18, x107_19, x107_21, x107_22, x107_24, x107_25, x107_104, x107_105, x107_108, x107_110, x107_112, x107_113, x107_116, x107_118, x107_120, x107_125, x107_130, x107_135, x107_136, x107_139, x107_141, x107_143, x107_144, x107_147, x107_149, x107_151, x107_155, x107_158, x107_159, x107_162, x107_164, x107_165, x107_169, x107_170, simprocAttr, pj_then_s, pj_pv_s, pj_pi_s, pj_set_s, if_true, if_false, not_true_eq_false, not_false_eq_true, pj_up_up, pj_up_sort, pj_up_ap, pj_upd_ap, pj_a3_0, pj_a3_1, pj_a3_2, pj_a3_u0, pj_a3_u1, pj_a3_u2, pj_f6_0, pj_arl_i, pj_f6_13, pj_f6_3, hm, hf, pj_mo]
    exact t107_111
  by_cases w1 : w = 1
  · subst w1
    simp (disch := first | assumption | exact pj_long_i | exact pj_long_r | exact pj_long_n | decide) only [x107_11, x107_14, x107_15, x107_18, x107_19, x107_21, x107_22, x107_24, x107_25, x107_104, x107_105, x107_108, x107_110, x107_112, x107_113, x107_116, x107_118, x107_120, x107_125, x107_130, x107_135, x107_136, x107_139, x107_141, x107_143, x107_144, x107_147, x107_149, x107_151, x107_155, x107_158, x107_159, x107_162, x107_164, x107_165, x107_169, x107_170, simprocAttr, pj_then_s, pj_pv_s, pj_pi_s, pj_set_s, if_true, if_false, not_true_eq_false, not_false_eq_true, pj_up_up, pj_up_sort, pj_up_ap, pj_upd_ap, pj_a3_0, pj_a3_1, pj_a3_2, pj_a3_u0, pj_a3_u1, pj_a3_u2, pj_f6_0, pj_arl_i, pj_f6_13, pj_f6_3, hm, hf, pj_mo]
    exact t107_119
  by_cases w2 : w = 2
  · subst w2
    simp (disch := first | assumption | exact pj_long_i | exact pj_long_r | exact pj_long_n | decide) only [x107_11, x107_14, x107_15, x107_18, x107_19, x107_21, x107_22, x107_24, x107_25, x107_104, x107_105, x107_108, x107_110, x107_112, x107_113, x107_116, x107_118, x107_120, x107_125, x107_130, x107_135, x107_136, x107_139, x107_141, x107_143, x107_144, x107_147, x107_149, x107_151, x107_155, x107_158, x107_159, x107_162, x107_164, x107_165, x107_169, x107_170, simprocAttr, pj_then_s, pj_pv_s, pj_pi_s, pj_set_s, if_true, if_false, not_true_eq_false, not_false_eq_true, pj_up_up, pj_up_sort, pj_up_ap, pj_upd_ap, pj_a3_0, pj_a3_1, pj_a3_2, pj_a3_u0, pj_a3_u1, pj_a3_u2, pj_f6_0, pj_arl_i, pj_f6_13, pj_f6_3, hm, hf, pj_mo]
    refine e107_121 rfl (by first | (rw [hm]; rfl) | (simp only [simprocAttr, pj_up_ap, if_true, if_false, hm, pj_mo]; rfl)) (m_voters hm hf) ?_
    exact t107_124
  by_cases w3 : w = 3
  · subst w3
    simp (disch := first | assumption | exact pj_long_i | exact pj_long_r | exact pj_long_n | decide) only [x107_11, x107_14, x107_15, x107_18, x107_19, x107_21, x107_22, x107_24, x107_25, x107_104, x107_105, x107_108, x107_110, x107_112, x107_113, x107_116, x107_118, x107_120, x107_125, x107_130, x107_135, x107_136, x107_139, x107_141, x107_143, x107_144, x107_147, x107_149, x107_151, x107_155, x107_158, x107_159, x107_162, x107_164, x107_165, x107_169, x107_170, simprocAttr, pj_then_s, pj_pv_s, pj_pi_s, pj_set_s, if_true, if_false, not_true_eq_false, not_false_eq_true, pj_up_up, pj_up_sort, pj_up_ap, pj_upd_ap, pj_a3_0, pj_a3_1, pj_a3_2, pj_a3_u0, pj_a3_u1, pj_a3_u2, pj_f6_0, pj_arl_i, pj_f6_13, pj_f6_3, hm, hf, pj_mo]
    refine e107_126 rfl (by first | (rw [hm]; rfl) | (simp only [simprocAttr, pj_up_ap, if_true, if_false, hm, pj_mo]; rfl)) (m_fired hm hf) ?_
    exact t107_129
  by_cases w4 : w = 4
  · subst w4
    simp (disch := first | assumption | exact pj_long_i | exact pj_long_r | exact pj_long_n | decide) only [x107_11, x107_14, x107_15, x107_18, x107_19, x107_21, x107_22, x107_24, x107_25, x107_104, x107_105, x107_108, x107_110, x107_112, x107_113, x107_116, x107_118, x107_120, x107_125, x107_130, x107_135, x107_136, x107_139, x107_141, x107_143, x107_144, x107_147, x107_149, x107_151, x107_155, x107_158, x107_159, x107_162, x107_164, x107_165, x107_169, x107_170, simprocAttr, pj_then_s, pj_pv_s, pj_pi_s, pj_set_s, if_true, if_false, not_true_eq_false, not_false_eq_true, pj_up_up, pj_up_sort, pj_up_ap, pj_upd_ap, pj_a3_0, pj_a3_1, pj_a3_2, pj_a3_u0, pj_a3_u1, pj_a3_u2, pj_f6_0, pj_arl_i, pj_f6_13, pj_f6_3, hm, hf, pj_mo]
    refine e107_131 rfl (by first | (rw [hm]; rfl) | (simp only [simprocAttr, pj_up_ap, if_true, if_false, hm, pj_mo]; rfl)) (m_barred hm hf) ?_
    exact t107_134
  by_cases w5 : w = 5
  · subst w5
    simp (disch := first | assumption | exact pj_long_i | exact pj_long_r | exact pj_long_n | decide) only [x107_11, x107_14, x107_15, x107_18, x107_19, x107_21, x107_22, x107_24, x107_25, x107_104, x107_105, x107_108, x107_110, x107_112, x107_113, x107_116, x107_118, x107_120, x107_125, x107_130, x107_135, x107_136, x107_139, x107_141, x107_143, x107_144, x107_147, x107_149, x107_151, x107_155, x107_158, x107_159, x107_162, x107_164, x107_165, x107_169, x107_170, simprocAttr, pj_then_s, pj_pv_s, pj_pi_s, pj_set_s, if_true, if_false, not_true_eq_false, not_false_eq_true, pj_up_up, pj_up_sort, pj_up_ap, pj_upd_ap, pj_a3_0, pj_a3_1, pj_a3_2, pj_a3_u0, pj_a3_u1, pj_a3_u2, pj_f6_0, pj_arl_i, pj_f6_13, pj_f6_3, hm, hf, pj_mo]
    exact t107_142
  by_cases w6 : w = 6
  · subst w6
    simp (disch := first | assumption | exact pj_long_i | exact pj_long_r | exact pj_long_n | decide) only [x107_11, x107_14, x107_15, x107_18, x107_19, x107_21, x107_22, x107_24, x107_25, x107_104, x107_105, x107_108, x107_110, x107_112, x107_113, x107_116, x107_118, x107_120, x107_125, x107_130, x107_135, x107_136, x107_139, x107_141, x107_143, x107_144, x107_147, x107_149, x107_151, x107_155, x107_158, x107_159, x107_162, x107_164, x107_165, x107_169, x107_170, simprocAttr, pj_then_s, pj_pv_s, pj_pi_s, pj_set_s, if_true, if_false, not_true_eq_false, not_false_eq_true, pj_up_up, pj_up_sort, pj_up_ap, pj_upd_ap, pj_a3_0, pj_a3_1, pj_a3_2, pj_a3_u0, pj_a3_u1, pj_a3_u2, pj_f6_0, pj_arl_i, pj_f6_13, pj_f6_3, hm, hf, pj_mo]
    exact t107_150
  by_cases w7 : w = 7
  · subst w7
    simp (disch := first | assumption | exact pj_long_i | exact pj_long_r | exact pj_long_n | decide) only [x107_11, x107_14, x107_15, x107_18, x107_19, x107_21, x107_22, x107_24, x107_25, x107_104, x107_105, x107_108, x107_110, x107_112, x107_113, x107_116, x107_118, x107_120, x107_125, x107_130, x107_135, x107_136, x107_139, x107_141, x107_143, x107_144, x107_147, x107_149, x107_151, x107_155, x107_158, x107_159, x107_162, x107_164, x107_165, x107_169, x107_170, simprocAttr, pj_then_s, pj_pv_s, pj_pi_s, pj_set_s, if_true, if_false, not_true_eq_false, not_false_eq_true, pj_up_up, pj_up_sort, pj_up_ap, pj_upd_ap, pj_a3_0, pj_a3_1, pj_a3_2, pj_a3_u0, pj_a3_u1, pj_a3_u2, pj_f6_0, pj_arl_i, pj_f6_13, pj_f6_3, hm, hf, pj_mo]
    refine e107_152 rfl (by first | (rw [hm]; rfl) | (simp only [simprocAttr, pj_up_ap, if_true, if_false, hm, pj_mo]; rfl)) (m_records hm hf) ?_
    rcases sp_rec_01 (f := x.1) with e | e
    · simp (disch := first | assumption | exact pj_long_i | exact pj_long_r | exact pj_long_n | decide) only [x107_155, x107_158, x107_159, x107_162, simprocAttr, pj_then_s, pj_pv_s, pj_pi_s, pj_set_s, if_true, if_false, not_true_eq_false, not_false_eq_true, pj_up_up, pj_up_sort, pj_up_ap, pj_upd_ap, pj_a3_0, pj_a3_1, pj_a3_2, pj_a3_u0, pj_a3_u1, pj_a3_u2, e]
      exact t107_163
    · simp (disch := first | assumption | exact pj_long_i | exact pj_long_r | exact pj_long_n | decide) only [x107_155, x107_158, x107_159, x107_162, simprocAttr, pj_then_s, pj_pv_s, pj_pi_s, pj_set_s, if_true, if_false, not_true_eq_false, not_false_eq_true, pj_up_up, pj_up_sort, pj_up_ap, pj_upd_ap, pj_a3_0, pj_a3_1, pj_a3_2, pj_a3_u0, pj_a3_u1, pj_a3_u2, e]
      exact t107_163
  by_cases w14 : w = 14
  · subst w14
    simp (disch := first | assumption | exact pj_long_i | exact pj_long_r | exact pj_long_n | decide) only [x107_11, x107_14, x107_15, x107_18, x107_19, x107_21, x107_22, x107_24, x107_25, x107_104, x107_105, x107_108, x107_110, x107_112, x107_113, x107_116, x107_118, x107_120, x107_125, x107_130, x107_135, x107_136, x107_139, x107_141, x107_143, x107_144, x107_147, x107_149, x107_151, x107_155, x107_158, x107_159, x107_162, x107_164, x107_165, x107_169, x107_170, simprocAttr, pj_then_s, pj_pv_s, pj_pi_s, pj_set_s, if_true, if_false, not_true_eq_false, not_false_eq_true, pj_up_up, pj_up_sort, pj_up_ap, pj_upd_ap, pj_a3_0, pj_a3_1, pj_a3_2, pj_a3_u0, pj_a3_u1, pj_a3_u2, pj_f6_0, pj_arl_i, pj_f6_13, pj_f6_3, hm, hf, pj_mo]
    exact t107_168
  by_cases w15 : w = 15
  · subst w15
    simp (disch := first | assumption | exact pj_long_i | exact pj_long_r | exact pj_long_n | decide) only [x107_11, x107_14, x107_15, x107_18, x107_19, x107_21, x107_22, x107_24, x107_25, x107_104, x107_105, x107_108, x107_110, x107_112, x107_113, x107_116, x107_118, x107_120, x107_125, x107_130, x107_135, x107_136, x107_139, x107_141, x107_143, x107_144, x107_147, x107_149, x107_151, x107_155, x107_158, x107_159, x107_162, x107_164, x107_165, x107_169, x107_170, simprocAttr, pj_then_s, pj_pv_s, pj_pi_s, pj_set_s, if_true, if_false, not_true_eq_false, not_false_eq_true, pj_up_up, pj_up_sort, pj_up_ap, pj_upd_ap, pj_a3_0, pj_a3_1, pj_a3_2, pj_a3_u0, pj_a3_u1, pj_a3_u2, pj_f6_0, pj_arl_i, pj_f6_13, pj_f6_3, hm, hf, pj_mo]
    exact t107_173
  have w8 : ¬ w = 8 := fun q => c1 (by subst q; decide)
  have w9 : ¬ w = 9 := fun q => c1 (by subst q; decide)
  have w10 : ¬ w = 10 := fun q => c1 (by subst q; decide)
  have w11 : ¬ w = 11 := fun q => c1 (by subst q; decide)
  have w12 : ¬ w = 12 := fun q => c1 (by subst q; decide)
  have w13 : ¬ w = 13 := fun q => c1 (by subst q; decide)
  simp (disch := first | assumption | exact pj_long_i | exact pj_long_r | exact pj_long_n | decide) only [x107_11, x107_14, x107_15, x107_18, x107_19, x107_21, x107_22, x107_24, x107_25, x107_104, x107_105, x107_108, x107_110, x107_112, x107_113, x107_116, x107_118, x107_120, x107_125, x107_130, x107_135, x107_136, x107_139, x107_141, x107_143, x107_144, x107_147, x107_149, x107_151, x107_155, x107_158, x107_159, x107_162, x107_164, x107_165, x107_169, x107_170, x107_174, simprocAttr, pj_then_s, pj_pv_s, pj_pi_s, pj_set_s, if_true, if_false, not_true_eq_false, not_false_eq_true, pj_up_up, pj_up_sort, pj_up_ap, pj_upd_ap, pj_a3_0, pj_a3_1, pj_a3_2, pj_a3_u0, pj_a3_u1, pj_a3_u2, pj_f6_0, pj_arl_i, pj_f6_13, pj_f6_3, hm, hf, pj_mo, w0, w1, w2, w3, w4, w5, w6, w7, w8, w9, w10, w11, w12, w13, w14, w15]
  exact t107_176
