/-! THE CLASS'S RECORDER WRITES -/
theorem pj_n120_u {f : Nat → Int32} {k : Nat} {x : Int32} (h : k < 120) : upd (pj_n120 f) k x = pj_n120 (upd f (31 + k) x) := by
  funext j
  unfold pj_n120
  rw [pj_upd_ap]
  by_cases e : j = k
  · rw [if_pos e, e, if_pos h, pj_upd_ap, if_pos rfl]
  · rw [if_neg e]
    by_cases h2 : j < 120
    · rw [if_pos h2, if_pos h2, pj_upd_ap, if_neg (by omega)]
    · rw [if_neg h2, if_neg h2]
section T10
variable {N S : Nat} {H : pj_Heap} {r a : Nat} {n e ic nm vo md ar lo hi fi r0 r1 r2 : Int32} {h : Nat → Int32}
theorem c_write {m : Nat} (hm12 : m < 12) (hic : ic = 0 ∨ ic = 1) (d1 : (23 = a) = False) (d2 : (24 = a) = False) (d3 : (r = a) = False) (hr : H r = .inl (2, [.ref a, .int n, .int e])) (ha : H a = .inr (0, 120, .inl h)) (hm : H 23 = pj_tc ic nm vo md ar lo hi fi) (hR : H 24 = .inr (0, 3, .inl (pj_a3 r0 r1 r2))) :
    pj_Ends 38 (0, [some (.ref r), some (.ref 23), some (.int (nI (10 * m))), none], [], (N, S, H)) (none, (N, S, pj_up H a (.inr (0, 120, .inl (upd (upd (upd (upd (upd (upd (upd (upd (upd (upd h (10 * m) nm) (10 * m + 1) (r0 + 100000)) (10 * m + 2) (r1 + 100000)) (10 * m + 3) (r2 + 100000)) (10 * m + 4) ic) (10 * m + 5) (md + 100000)) (10 * m + 6) lo) (10 * m + 7) hi) (10 * m + 8) (if ar ≤ 0 then 0 else 1)) (10 * m + 9) fi))))) := by
  generalize hA : 10 * m = b
  have hhi : b + 9 < 120 := by omega
  have q0 : (nI b).toNatClampNeg = b := nI_clamp (by omega)
  have p0 : pj_in (nI b) 120 = true := pj_in_nI (by omega) (by decide)
  have s1 : nI b + (1 : Int32) = nI (b + 1) := nI_add b 1
  have q1 : (nI (b + 1)).toNatClampNeg = b + 1 := nI_clamp (by omega)
  have p1 : pj_in (nI (b + 1)) 120 = true := pj_in_nI (by omega) (by decide)
  have s2 : nI b + (2 : Int32) = nI (b + 2) := nI_add b 2
  have q2 : (nI (b + 2)).toNatClampNeg = b + 2 := nI_clamp (by omega)
  have p2 : pj_in (nI (b + 2)) 120 = true := pj_in_nI (by omega) (by decide)
  have s3 : nI b + (3 : Int32) = nI (b + 3) := nI_add b 3
  have q3 : (nI (b + 3)).toNatClampNeg = b + 3 := nI_clamp (by omega)
  have p3 : pj_in (nI (b + 3)) 120 = true := pj_in_nI (by omega) (by decide)
  have s4 : nI b + (4 : Int32) = nI (b + 4) := nI_add b 4
  have q4 : (nI (b + 4)).toNatClampNeg = b + 4 := nI_clamp (by omega)
  have p4 : pj_in (nI (b + 4)) 120 = true := pj_in_nI (by omega) (by decide)
  have s5 : nI b + (5 : Int32) = nI (b + 5) := nI_add b 5
  have q5 : (nI (b + 5)).toNatClampNeg = b + 5 := nI_clamp (by omega)
  have p5 : pj_in (nI (b + 5)) 120 = true := pj_in_nI (by omega) (by decide)
  have s6 : nI b + (6 : Int32) = nI (b + 6) := nI_add b 6
  have q6 : (nI (b + 6)).toNatClampNeg = b + 6 := nI_clamp (by omega)
  have p6 : pj_in (nI (b + 6)) 120 = true := pj_in_nI (by omega) (by decide)
  have s7 : nI b + (7 : Int32) = nI (b + 7) := nI_add b 7
  have q7 : (nI (b + 7)).toNatClampNeg = b + 7 := nI_clamp (by omega)
  have p7 : pj_in (nI (b + 7)) 120 = true := pj_in_nI (by omega) (by decide)
  have s8 : nI b + (8 : Int32) = nI (b + 8) := nI_add b 8
  have q8 : (nI (b + 8)).toNatClampNeg = b + 8 := nI_clamp (by omega)
  have p8 : pj_in (nI (b + 8)) 120 = true := pj_in_nI (by omega) (by decide)
  have s9 : nI b + (9 : Int32) = nI (b + 9) := nI_add b 9
  have q9 : (nI (b + 9)).toNatClampNeg = b + 9 := nI_clamp (by omega)
  have p9 : pj_in (nI (b + 9)) 120 = true := pj_in_nI (by omega) (by decide)
  have s10 : nI (b + 1) + (0 : Int32) = nI (b + 1) := nI_add (b + 1) 0
  have s11 : nI (b + 1) + (1 : Int32) = nI (b + 2) := nI_add (b + 1) 1
  have s12 : nI (b + 1) + (2 : Int32) = nI (b + 3) := nI_add (b + 1) 2
  simp (disch := first | assumption | exact pj_long_i | exact pj_long_r | exact pj_long_n | decide) only [x38_0, x38_1, x38_4, x38_5, x38_6, x38_9, x38_10, x38_11, x38_12, x38_13, x38_14, x38_17, x38_18, x38_21, x38_22, x38_23, x38_24, x38_25, x38_26, x38_27, x38_30, x38_31, x38_32, x38_34, x38_35, x38_36, x38_39, x38_42, x38_43, x38_46, x38_47, x38_48, x38_49, x38_50, simprocAttr, pj_then_s, pj_pv_s, pj_pi_s, pj_set_s, if_true, if_false, not_true_eq_false, not_false_eq_true, pj_up_up, pj_so24_23, pj_so25_23, pj_so26_23, pj_so27_23, pj_so28_23, pj_so29_23, pj_so25_24, pj_so26_24, pj_so27_24, pj_so28_24, pj_so29_24, pj_so26_25, pj_so27_25, pj_so28_25, pj_so29_25, pj_so27_26, pj_so28_26, pj_so29_26, pj_so28_27, pj_so29_27, pj_so29_28, pj_up_ap, pj_upd_ap, pj_a3_0, pj_a3_1, pj_a3_2, pj_a3_u0, pj_a3_u1, pj_a3_u2, pj_f2_0, pj_f3_7, pj_ars_i, pj_long_i, pj_long_r, pj_long_n, pj_f3_0, pj_arl_i, pj_f3_6, hr, ha, hm, hR, pj_tc, d1, d2, d3, q0, q1, q2, q3, q4, q5, q6, q7, q8, q9, s1, s2, s3, s4, s5, s6, s7, s8, s9, s10, s11, s12]
  refine e38_53 rfl (c_asNumber hic) ?_
  by_cases c : ar ≤ 0
  · rw [if_pos c]
    simp (disch := first | assumption | exact pj_long_i | exact pj_long_r | exact pj_long_n | decide) only [x38_56, x38_57, x38_58, x38_61, x38_62, x38_63, x38_64, x38_65, x38_68, x38_70, x38_71, x38_72, x38_73, x38_76, x38_77, x38_79, x38_80, x38_81, x38_84, x38_85, x38_86, x38_89, x38_90, x38_92, x38_93, x38_94, x38_97, x38_98, x38_99, x38_102, x38_103, x38_105, x38_106, x38_107, x38_110, x38_113, x38_114, x38_117, simprocAttr, pj_then_s, pj_pv_s, pj_pi_s, pj_set_s, if_true, if_false, not_true_eq_false, not_false_eq_true, pj_up_up, pj_so24_23, pj_so25_23, pj_so26_23, pj_so27_23, pj_so28_23, pj_so29_23, pj_so25_24, pj_so26_24, pj_so27_24, pj_so28_24, pj_so29_24, pj_so26_25, pj_so27_25, pj_so28_25, pj_so29_25, pj_so27_26, pj_so28_26, pj_so29_26, pj_so28_27, pj_so29_27, pj_so29_28, pj_up_ap, pj_upd_ap, pj_a3_0, pj_a3_1, pj_a3_2, pj_a3_u0, pj_a3_u1, pj_a3_u2, pj_ars_i, pj_f2_0, pj_f3_9, pj_f3_11, pj_f3_12, pj_f3_10, hr, ha, hm, hR, pj_tc, d1, d2, d3, c, q0, q1, q2, q3, q4, q5, q6, q7, q8, q9, s1, s2, s3, s4, s5, s6, s7, s8, s9, s10, s11, s12]
    refine e38_118 rfl (c_asNumber (Or.inl rfl)) ?_
    simp (disch := first | assumption | exact pj_long_i | exact pj_long_r | exact pj_long_n | decide) only [x38_121, x38_122, x38_123, x38_126, x38_127, x38_129, x38_130, x38_131, x38_134, simprocAttr, pj_then_s, pj_pv_s, pj_pi_s, pj_set_s, if_true, if_false, not_true_eq_false, not_false_eq_true, pj_up_up, pj_so24_23, pj_so25_23, pj_so26_23, pj_so27_23, pj_so28_23, pj_so29_23, pj_so25_24, pj_so26_24, pj_so27_24, pj_so28_24, pj_so29_24, pj_so26_25, pj_so27_25, pj_so28_25, pj_so29_25, pj_so27_26, pj_so28_26, pj_so29_26, pj_so28_27, pj_so29_27, pj_so29_28, pj_up_ap, pj_upd_ap, pj_a3_0, pj_a3_1, pj_a3_2, pj_a3_u0, pj_a3_u1, pj_a3_u2, pj_ars_i, pj_f2_0, pj_f3_13, hr, ha, hm, hR, pj_tc, d1, d2, d3, q0, q1, q2, q3, q4, q5, q6, q7, q8, q9, s1, s2, s3, s4, s5, s6, s7, s8, s9, s10, s11, s12]
    exact t38_135
  · rw [if_neg c]
    simp (disch := first | assumption | exact pj_long_i | exact pj_long_r | exact pj_long_n | decide) only [x38_56, x38_57, x38_58, x38_61, x38_62, x38_63, x38_64, x38_65, x38_68, x38_70, x38_71, x38_72, x38_73, x38_76, x38_77, x38_79, x38_80, x38_81, x38_84, x38_85, x38_86, x38_89, x38_90, x38_92, x38_93, x38_94, x38_97, x38_98, x38_99, x38_102, x38_103, x38_105, x38_106, x38_107, x38_110, x38_113, x38_114, x38_117, simprocAttr, pj_then_s, pj_pv_s, pj_pi_s, pj_set_s, if_true, if_false, not_true_eq_false, not_false_eq_true, pj_up_up, pj_so24_23, pj_so25_23, pj_so26_23, pj_so27_23, pj_so28_23, pj_so29_23, pj_so25_24, pj_so26_24, pj_so27_24, pj_so28_24, pj_so29_24, pj_so26_25, pj_so27_25, pj_so28_25, pj_so29_25, pj_so27_26, pj_so28_26, pj_so29_26, pj_so28_27, pj_so29_27, pj_so29_28, pj_up_ap, pj_upd_ap, pj_a3_0, pj_a3_1, pj_a3_2, pj_a3_u0, pj_a3_u1, pj_a3_u2, pj_ars_i, pj_f2_0, pj_f3_9, pj_f3_11, pj_f3_12, pj_f3_10, hr, ha, hm, hR, pj_tc, d1, d2, d3, c, q0, q1, q2, q3, q4, q5, q6, q7, q8, q9, s1, s2, s3, s4, s5, s6, s7, s8, s9, s10, s11, s12]
    refine e38_118 rfl (c_asNumber (Or.inr rfl)) ?_
    simp (disch := first | assumption | exact pj_long_i | exact pj_long_r | exact pj_long_n | decide) only [x38_121, x38_122, x38_123, x38_126, x38_127, x38_129, x38_130, x38_131, x38_134, simprocAttr, pj_then_s, pj_pv_s, pj_pi_s, pj_set_s, if_true, if_false, not_true_eq_false, not_false_eq_true, pj_up_up, pj_so24_23, pj_so25_23, pj_so26_23, pj_so27_23, pj_so28_23, pj_so29_23, pj_so25_24, pj_so26_24, pj_so27_24, pj_so28_24, pj_so29_24, pj_so26_25, pj_so27_25, pj_so28_25, pj_so29_25, pj_so27_26, pj_so28_26, pj_so29_26, pj_so28_27, pj_so29_27, pj_so29_28, pj_up_ap, pj_upd_ap, pj_a3_0, pj_a3_1, pj_a3_2, pj_a3_u0, pj_a3_u1, pj_a3_u2, pj_ars_i, pj_f2_0, pj_f3_13, hr, ha, hm, hR, pj_tc, d1, d2, d3, q0, q1, q2, q3, q4, q5, q6, q7, q8, q9, s1, s2, s3, s4, s5, s6, s7, s8, s9, s10, s11, s12]
    exact t38_135
end T10
