/-! THE CLASS'S CALLS THAT CHANGE: bar, test -/
theorem i32_th {a : Int32} (h : sp_th a = 0) : a < 0 ∨ (¬ a < 0 ∧ ¬ a < 3) := by
  unfold sp_th at h
  by_cases q : 0 ≤ a ∧ a ≤ 2
  · rw [if_pos q] at h
    exact absurd h (by decide)
  · by_cases c : a < 0
    · exact Or.inl c
    · refine Or.inr ⟨c, fun w => q ⟨Int32.not_lt.mp c, ?_⟩⟩
      rw [Int32.lt_iff_toInt_lt] at w
      rw [Int32.le_iff_toInt_le]
      have e3 : (3 : Int32).toInt = 3 := rfl
      have e2 : (2 : Int32).toInt = 2 := rfl
      omega
section T24
variable {N S : Nat} {H : pj_Heap} {x : pj_Sg} {b : Int32}
theorem c_test_0 (hx : pj_In x) (hC : pj_C H x) : pj_Co N S H 45 [some (.ref 4), some (.int 0), none] (op_test x 0) := by
  unfold op_test
  have e0 : sp_th 0 = 1 := by decide
  rw [e0, if_neg (by decide : ¬ (1 : Int32) = 0), show (0 : Int32).toNatClampNeg = 0 from rfl]
  have hU := hC.2.2.1
  obtain ⟨t, ht, hR⟩ := hx.1
  obtain ⟨-, -, -, rv, -⟩ := hR
  have bv : pj_b3 (x.1 14) (x.1 15) (x.1 16) := ⟨rv 0 (by decide), rv 1 (by decide), rv 2 (by decide)⟩
  by_cases c1 : sp_fired x.1 = 0
  · rw [if_pos c1]
    obtain ⟨H1, hC1, hF1, hE⟩ := c_remember (N := N) (S := S) hx.2.1 hC
    have V1 := hC1.2.1
    have U1 : pj_U H1 5 x.1 := hC1.2.2.1
    obtain ⟨hu, hu1, hu2, hu3, hu4, hu5, hu6, hu7, hu8⟩ := U1
    have hx5 : pj_uc 5 x.1 = .inl (4, [.ref 6, .ref 7, .ref 8, .ref 9, .ref 10, .ref 11, .ref 12, .int (pj_pk (x.1 14) (x.1 15) (x.1 16)), .int (sp_bar x.1), .int (x.1 7), .int (x.1 6)]) := rfl
    have e8 : pj_n120 x.1 = pj_n120 (sp_tst x.1 0) := by
      unfold sp_tst
      repeat rw [pj_n120_lo (by decide)]
    have hU2 : pj_U (pj_up (pj_up (pj_up (pj_up H1 5 (.inl (4, [.ref 6, .ref 7, .ref 8, .ref 9, .ref 10, .ref 11, .ref 12, .int (pj_pk 1 (x.1 15) (x.1 16)), .int (sp_bar x.1), .int (x.1 7), .int (x.1 6)]))) 7 (.inr (0, 3, .inl (pj_a3 0 (x.1 9) (x.1 10))))) 8 (.inr (0, 3, .inl (pj_a3 0 (x.1 12) (x.1 13))))) 9 (.inr (0, 3, .inl (pj_a3 0 (x.1 18) (x.1 19))))) 5 (sp_tst x.1 0) := ⟨(by (try simp (disch := decide) only [simprocAttr, pj_up_ap, if_true, if_false, pj_mo, hu]) <;> rfl), (by (try simp (disch := decide) only [simprocAttr, pj_up_ap, if_true, if_false, pj_mo, hu1]) <;> rfl), (by (try simp (disch := decide) only [simprocAttr, pj_up_ap, if_true, if_false, pj_mo, hu2]) <;> rfl), (by (try simp (disch := decide) only [simprocAttr, pj_up_ap, if_true, if_false, pj_mo, hu3]) <;> rfl), (by (try simp (disch := decide) only [simprocAttr, pj_up_ap, if_true, if_false, pj_mo, hu4]) <;> rfl), (by (try simp (disch := decide) only [simprocAttr, pj_up_ap, if_true, if_false, pj_mo, hu5]) <;> rfl), (by (try simp (disch := decide) only [simprocAttr, pj_up_ap, if_true, if_false, pj_mo, hu6]) <;> rfl), (by (try simp (disch := decide) only [simprocAttr, pj_up_ap, if_true, if_false, pj_mo, hu7]) <;> rfl), (by (try simp (disch := decide) only [simprocAttr, pj_up_ap, if_true, if_false, pj_mo, hu8, e8]) <;> rfl)⟩
    obtain ⟨hC2, hF2⟩ := c_chg hC1 hF1 hU2 (fun j hj => by simp only [pj_up_ap]; repeat rw [if_neg (by omega)])
    refine ⟨_, hC2, hF2, ?_⟩
    simp only
    simp (disch := first | assumption | exact pj_long_i | exact pj_long_r | exact pj_long_n | decide) only [x45_0, x45_1, x45_4, x45_5, x45_6, x45_9, x45_11, x45_12, simprocAttr, pj_then_s, pj_pv_s, pj_pi_s, pj_set_s, if_true, if_false, not_true_eq_false, not_false_eq_true, pj_up_up, pj_so110_109, pj_so111_109, pj_so112_109, pj_so113_109, pj_so114_109, pj_so115_109, pj_so116_109, pj_so117_109, pj_so111_110, pj_so112_110, pj_so113_110, pj_so114_110, pj_so115_110, pj_so116_110, pj_so117_110, pj_so112_111, pj_so113_111, pj_so114_111, pj_so115_111, pj_so116_111, pj_so117_111, pj_so113_112, pj_so114_112, pj_so115_112, pj_so116_112, pj_so117_112, pj_so114_113, pj_so115_113, pj_so116_113, pj_so117_113, pj_so115_114, pj_so116_114, pj_so117_114, pj_so116_115, pj_so117_115, pj_so117_116, pj_up_ap, pj_upd_ap, pj_a3_0, pj_a3_1, pj_a3_2, pj_a3_u0, pj_a3_u1, pj_a3_u2, pj_f5_0, hC.2.1, pj_vc]
    refine e45_15 rfl (by rw [hU.1]; rfl) (c_firedStages hU) ?_
    simp (disch := first | assumption | exact pj_long_i | exact pj_long_r | exact pj_long_n | decide) only [x45_18, x45_21, x45_24, simprocAttr, pj_then_s, pj_pv_s, pj_pi_s, pj_set_s, if_true, if_false, not_true_eq_false, not_false_eq_true, pj_up_up, pj_so110_109, pj_so111_109, pj_so112_109, pj_so113_109, pj_so114_109, pj_so115_109, pj_so116_109, pj_so117_109, pj_so111_110, pj_so112_110, pj_so113_110, pj_so114_110, pj_so115_110, pj_so116_110, pj_so117_110, pj_so112_111, pj_so113_111, pj_so114_111, pj_so115_111, pj_so116_111, pj_so117_111, pj_so113_112, pj_so114_112, pj_so115_112, pj_so116_112, pj_so117_112, pj_so114_113, pj_so115_113, pj_so116_113, pj_so117_113, pj_so115_114, pj_so116_114, pj_so117_114, pj_so116_115, pj_so117_115, pj_so117_116, pj_up_ap, pj_upd_ap, pj_a3_0, pj_a3_1, pj_a3_2, pj_a3_u0, pj_a3_u1, pj_a3_u2, c1]
    refine e45_25 rfl (by rw [hC.2.1]; rfl) hE ?_
    simp (disch := first | assumption | exact pj_long_i | exact pj_long_r | exact pj_long_n | decide) only [x45_28, x45_29, x45_32, x45_35, simprocAttr, pj_then_s, pj_pv_s, pj_pi_s, pj_set_s, if_true, if_false, not_true_eq_false, not_false_eq_true, pj_up_up, pj_so110_109, pj_so111_109, pj_so112_109, pj_so113_109, pj_so114_109, pj_so115_109, pj_so116_109, pj_so117_109, pj_so111_110, pj_so112_110, pj_so113_110, pj_so114_110, pj_so115_110, pj_so116_110, pj_so117_110, pj_so112_111, pj_so113_111, pj_so114_111, pj_so115_111, pj_so116_111, pj_so117_111, pj_so113_112, pj_so114_112, pj_so115_112, pj_so116_112, pj_so117_112, pj_so114_113, pj_so115_113, pj_so116_113, pj_so117_113, pj_so115_114, pj_so116_114, pj_so117_114, pj_so116_115, pj_so117_115, pj_so117_116, pj_up_ap, pj_upd_ap, pj_a3_0, pj_a3_1, pj_a3_2, pj_a3_u0, pj_a3_u1, pj_a3_u2, pj_f5_0, pj_f4_7, V1, pj_vc, hu, hx5]
    refine e45_36 rfl (c_has_0 bv) ?_
    have K : ∀ d : Int32, pj_Ends 45 (47, [some (.ref 4), some (.int 0), none], [.int d], (N, S, H1)) (some (.int d), (N, S, pj_up (pj_up (pj_up (pj_up H1 5 (.inl (4, [.ref 6, .ref 7, .ref 8, .ref 9, .ref 10, .ref 11, .ref 12, .int (pj_pk 1 (x.1 15) (x.1 16)), .int (sp_bar x.1), .int (x.1 7), .int (x.1 6)]))) 7 (.inr (0, 3, .inl (pj_a3 0 (x.1 9) (x.1 10))))) 8 (.inr (0, 3, .inl (pj_a3 0 (x.1 12) (x.1 13))))) 9 (.inr (0, 3, .inl (pj_a3 0 (x.1 18) (x.1 19)))))) := by
      intro d
      simp (disch := first | assumption | exact pj_long_i | exact pj_long_r | exact pj_long_n | decide) only [x45_47, x45_48, x45_49, x45_52, x45_53, x45_56, x45_59, simprocAttr, pj_then_s, pj_pv_s, pj_pi_s, pj_set_s, if_true, if_false, not_true_eq_false, not_false_eq_true, pj_up_up, pj_so110_109, pj_so111_109, pj_so112_109, pj_so113_109, pj_so114_109, pj_so115_109, pj_so116_109, pj_so117_109, pj_so111_110, pj_so112_110, pj_so113_110, pj_so114_110, pj_so115_110, pj_so116_110, pj_so117_110, pj_so112_111, pj_so113_111, pj_so114_111, pj_so115_111, pj_so116_111, pj_so117_111, pj_so113_112, pj_so114_112, pj_so115_112, pj_so116_112, pj_so117_112, pj_so114_113, pj_so115_113, pj_so116_113, pj_so117_113, pj_so115_114, pj_so116_114, pj_so117_114, pj_so116_115, pj_so117_115, pj_so117_116, pj_up_ap, pj_upd_ap, pj_a3_0, pj_a3_1, pj_a3_2, pj_a3_u0, pj_a3_u1, pj_a3_u2, pj_long_i, pj_long_r, pj_long_n, pj_f5_0, pj_f4_7, V1, pj_vc, hu, hx5]
      refine e45_60 rfl (c_wi_0 bv) ?_
      simp (disch := first | assumption | exact pj_long_i | exact pj_long_r | exact pj_long_n | decide) only [x45_63, x45_66, x45_67, x45_70, x45_73, x45_74, x45_75, x45_76, x45_77, x45_80, x45_83, x45_84, x45_85, x45_86, x45_87, x45_90, x45_93, x45_94, x45_95, x45_96, simprocAttr, pj_then_s, pj_pv_s, pj_pi_s, pj_set_s, if_true, if_false, not_true_eq_false, not_false_eq_true, pj_up_up, pj_so110_109, pj_so111_109, pj_so112_109, pj_so113_109, pj_so114_109, pj_so115_109, pj_so116_109, pj_so117_109, pj_so111_110, pj_so112_110, pj_so113_110, pj_so114_110, pj_so115_110, pj_so116_110, pj_so117_110, pj_so112_111, pj_so113_111, pj_so114_111, pj_so115_111, pj_so116_111, pj_so117_111, pj_so113_112, pj_so114_112, pj_so115_112, pj_so116_112, pj_so117_112, pj_so114_113, pj_so115_113, pj_so116_113, pj_so117_113, pj_so115_114, pj_so116_114, pj_so117_114, pj_so116_115, pj_so117_115, pj_so117_116, pj_up_ap, pj_upd_ap, pj_a3_0, pj_a3_1, pj_a3_2, pj_a3_u0, pj_a3_u1, pj_a3_u2, pj_s4_7, pj_f5_0, pj_f4_1, pj_ars_i, pj_f4_2, pj_f4_3, V1, pj_vc, hu, hx5, hu2, hu3, hu4]
      exact t45_97
    rcases rv 0 (by decide) with e | e
    · replace e : x.1 14 = 0 := e
      have e1 : 1 - x.1 (14 + 0) = 1 := by rw [e]; decide
      rw [e1]
      have K1 := K 1
      simp (disch := first | assumption | exact pj_long_i | exact pj_long_r | exact pj_long_n | decide) only [x45_39, x45_42, x45_43, x45_46, simprocAttr, pj_then_s, pj_pv_s, pj_pi_s, pj_set_s, if_true, if_false, not_true_eq_false, not_false_eq_true, pj_up_up, pj_so110_109, pj_so111_109, pj_so112_109, pj_so113_109, pj_so114_109, pj_so115_109, pj_so116_109, pj_so117_109, pj_so111_110, pj_so112_110, pj_so113_110, pj_so114_110, pj_so115_110, pj_so116_110, pj_so117_110, pj_so112_111, pj_so113_111, pj_so114_111, pj_so115_111, pj_so116_111, pj_so117_111, pj_so113_112, pj_so114_112, pj_so115_112, pj_so116_112, pj_so117_112, pj_so114_113, pj_so115_113, pj_so116_113, pj_so117_113, pj_so115_114, pj_so116_114, pj_so117_114, pj_so116_115, pj_so117_115, pj_so117_116, pj_up_ap, pj_upd_ap, pj_a3_0, pj_a3_1, pj_a3_2, pj_a3_u0, pj_a3_u1, pj_a3_u2, e]
      exact K1
    · replace e : x.1 14 = 1 := e
      have e1 : 1 - x.1 (14 + 0) = 0 := by rw [e]; decide
      rw [e1]
      have K1 := K 0
      simp (disch := first | assumption | exact pj_long_i | exact pj_long_r | exact pj_long_n | decide) only [x45_39, x45_42, x45_43, x45_46, simprocAttr, pj_then_s, pj_pv_s, pj_pi_s, pj_set_s, if_true, if_false, not_true_eq_false, not_false_eq_true, pj_up_up, pj_so110_109, pj_so111_109, pj_so112_109, pj_so113_109, pj_so114_109, pj_so115_109, pj_so116_109, pj_so117_109, pj_so111_110, pj_so112_110, pj_so113_110, pj_so114_110, pj_so115_110, pj_so116_110, pj_so117_110, pj_so112_111, pj_so113_111, pj_so114_111, pj_so115_111, pj_so116_111, pj_so117_111, pj_so113_112, pj_so114_112, pj_so115_112, pj_so116_112, pj_so117_112, pj_so114_113, pj_so115_113, pj_so116_113, pj_so117_113, pj_so115_114, pj_so116_114, pj_so117_114, pj_so116_115, pj_so117_115, pj_so117_116, pj_up_ap, pj_upd_ap, pj_a3_0, pj_a3_1, pj_a3_2, pj_a3_u0, pj_a3_u1, pj_a3_u2, e]
      exact K1
  · rw [if_neg c1]
    refine pj_Co_same hC ?_
    simp (disch := first | assumption | exact pj_long_i | exact pj_long_r | exact pj_long_n | decide) only [x45_0, x45_1, x45_4, x45_5, x45_6, x45_9, x45_11, x45_12, simprocAttr, pj_then_s, pj_pv_s, pj_pi_s, pj_set_s, if_true, if_false, not_true_eq_false, not_false_eq_true, pj_up_up, pj_so110_109, pj_so111_109, pj_so112_109, pj_so113_109, pj_so114_109, pj_so115_109, pj_so116_109, pj_so117_109, pj_so111_110, pj_so112_110, pj_so113_110, pj_so114_110, pj_so115_110, pj_so116_110, pj_so117_110, pj_so112_111, pj_so113_111, pj_so114_111, pj_so115_111, pj_so116_111, pj_so117_111, pj_so113_112, pj_so114_112, pj_so115_112, pj_so116_112, pj_so117_112, pj_so114_113, pj_so115_113, pj_so116_113, pj_so117_113, pj_so115_114, pj_so116_114, pj_so117_114, pj_so116_115, pj_so117_115, pj_so117_116, pj_up_ap, pj_upd_ap, pj_a3_0, pj_a3_1, pj_a3_2, pj_a3_u0, pj_a3_u1, pj_a3_u2, pj_f5_0, hC.2.1, pj_vc]
    refine e45_15 rfl (by rw [hU.1]; rfl) (c_firedStages hU) ?_
    simp (disch := first | assumption | exact pj_long_i | exact pj_long_r | exact pj_long_n | decide) only [x45_18, x45_21, simprocAttr, pj_then_s, pj_pv_s, pj_pi_s, pj_set_s, if_true, if_false, not_true_eq_false, not_false_eq_true, pj_up_up, pj_so110_109, pj_so111_109, pj_so112_109, pj_so113_109, pj_so114_109, pj_so115_109, pj_so116_109, pj_so117_109, pj_so111_110, pj_so112_110, pj_so113_110, pj_so114_110, pj_so115_110, pj_so116_110, pj_so117_110, pj_so112_111, pj_so113_111, pj_so114_111, pj_so115_111, pj_so116_111, pj_so117_111, pj_so113_112, pj_so114_112, pj_so115_112, pj_so116_112, pj_so117_112, pj_so114_113, pj_so115_113, pj_so116_113, pj_so117_113, pj_so115_114, pj_so116_114, pj_so117_114, pj_so116_115, pj_so117_115, pj_so117_116, pj_up_ap, pj_upd_ap, pj_a3_0, pj_a3_1, pj_a3_2, pj_a3_u0, pj_a3_u1, pj_a3_u2, c1]
    exact t45_23
theorem c_test_1 (hx : pj_In x) (hC : pj_C H x) : pj_Co N S H 45 [some (.ref 4), some (.int 1), none] (op_test x 1) := by
  unfold op_test
  have e0 : sp_th 1 = 1 := by decide
  rw [e0, if_neg (by decide : ¬ (1 : Int32) = 0), show (1 : Int32).toNatClampNeg = 1 from rfl]
  have hU := hC.2.2.1
  obtain ⟨t, ht, hR⟩ := hx.1
  obtain ⟨-, -, -, rv, -⟩ := hR
  have bv : pj_b3 (x.1 14) (x.1 15) (x.1 16) := ⟨rv 0 (by decide), rv 1 (by decide), rv 2 (by decide)⟩
  by_cases c1 : sp_fired x.1 = 0
  · rw [if_pos c1]
    obtain ⟨H1, hC1, hF1, hE⟩ := c_remember (N := N) (S := S) hx.2.1 hC
    have V1 := hC1.2.1
    have U1 : pj_U H1 5 x.1 := hC1.2.2.1
    obtain ⟨hu, hu1, hu2, hu3, hu4, hu5, hu6, hu7, hu8⟩ := U1
    have hx5 : pj_uc 5 x.1 = .inl (4, [.ref 6, .ref 7, .ref 8, .ref 9, .ref 10, .ref 11, .ref 12, .int (pj_pk (x.1 14) (x.1 15) (x.1 16)), .int (sp_bar x.1), .int (x.1 7), .int (x.1 6)]) := rfl
    have e8 : pj_n120 x.1 = pj_n120 (sp_tst x.1 1) := by
      unfold sp_tst
      repeat rw [pj_n120_lo (by decide)]
    have hU2 : pj_U (pj_up (pj_up (pj_up (pj_up H1 5 (.inl (4, [.ref 6, .ref 7, .ref 8, .ref 9, .ref 10, .ref 11, .ref 12, .int (pj_pk (x.1 14) 1 (x.1 16)), .int (sp_bar x.1), .int (x.1 7), .int (x.1 6)]))) 7 (.inr (0, 3, .inl (pj_a3 (x.1 8) 0 (x.1 10))))) 8 (.inr (0, 3, .inl (pj_a3 (x.1 11) 0 (x.1 13))))) 9 (.inr (0, 3, .inl (pj_a3 (x.1 17) 0 (x.1 19))))) 5 (sp_tst x.1 1) := ⟨(by (try simp (disch := decide) only [simprocAttr, pj_up_ap, if_true, if_false, pj_mo, hu]) <;> rfl), (by (try simp (disch := decide) only [simprocAttr, pj_up_ap, if_true, if_false, pj_mo, hu1]) <;> rfl), (by (try simp (disch := decide) only [simprocAttr, pj_up_ap, if_true, if_false, pj_mo, hu2]) <;> rfl), (by (try simp (disch := decide) only [simprocAttr, pj_up_ap, if_true, if_false, pj_mo, hu3]) <;> rfl), (by (try simp (disch := decide) only [simprocAttr, pj_up_ap, if_true, if_false, pj_mo, hu4]) <;> rfl), (by (try simp (disch := decide) only [simprocAttr, pj_up_ap, if_true, if_false, pj_mo, hu5]) <;> rfl), (by (try simp (disch := decide) only [simprocAttr, pj_up_ap, if_true, if_false, pj_mo, hu6]) <;> rfl), (by (try simp (disch := decide) only [simprocAttr, pj_up_ap, if_true, if_false, pj_mo, hu7]) <;> rfl), (by (try simp (disch := decide) only [simprocAttr, pj_up_ap, if_true, if_false, pj_mo, hu8, e8]) <;> rfl)⟩
    obtain ⟨hC2, hF2⟩ := c_chg hC1 hF1 hU2 (fun j hj => by simp only [pj_up_ap]; repeat rw [if_neg (by omega)])
    refine ⟨_, hC2, hF2, ?_⟩
    simp only
    simp (disch := first | assumption | exact pj_long_i | exact pj_long_r | exact pj_long_n | decide) only [x45_0, x45_1, x45_4, x45_5, x45_6, x45_9, x45_11, x45_12, simprocAttr, pj_then_s, pj_pv_s, pj_pi_s, pj_set_s, if_true, if_false, not_true_eq_false, not_false_eq_true, pj_up_up, pj_so110_109, pj_so111_109, pj_so112_109, pj_so113_109, pj_so114_109, pj_so115_109, pj_so116_109, pj_so117_109, pj_so111_110, pj_so112_110, pj_so113_110, pj_so114_110, pj_so115_110, pj_so116_110, pj_so117_110, pj_so112_111, pj_so113_111, pj_so114_111, pj_so115_111, pj_so116_111, pj_so117_111, pj_so113_112, pj_so114_112, pj_so115_112, pj_so116_112, pj_so117_112, pj_so114_113, pj_so115_113, pj_so116_113, pj_so117_113, pj_so115_114, pj_so116_114, pj_so117_114, pj_so116_115, pj_so117_115, pj_so117_116, pj_up_ap, pj_upd_ap, pj_a3_0, pj_a3_1, pj_a3_2, pj_a3_u0, pj_a3_u1, pj_a3_u2, pj_f5_0, hC.2.1, pj_vc]
    refine e45_15 rfl (by rw [hU.1]; rfl) (c_firedStages hU) ?_
    simp (disch := first | assumption | exact pj_long_i | exact pj_long_r | exact pj_long_n | decide) only [x45_18, x45_21, x45_24, simprocAttr, pj_then_s, pj_pv_s, pj_pi_s, pj_set_s, if_true, if_false, not_true_eq_false, not_false_eq_true, pj_up_up, pj_so110_109, pj_so111_109, pj_so112_109, pj_so113_109, pj_so114_109, pj_so115_109, pj_so116_109, pj_so117_109, pj_so111_110, pj_so112_110, pj_so113_110, pj_so114_110, pj_so115_110, pj_so116_110, pj_so117_110, pj_so112_111, pj_so113_111, pj_so114_111, pj_so115_111, pj_so116_111, pj_so117_111, pj_so113_112, pj_so114_112, pj_so115_112, pj_so116_112, pj_so117_112, pj_so114_113, pj_so115_113, pj_so116_113, pj_so117_113, pj_so115_114, pj_so116_114, pj_so117_114, pj_so116_115, pj_so117_115, pj_so117_116, pj_up_ap, pj_upd_ap, pj_a3_0, pj_a3_1, pj_a3_2, pj_a3_u0, pj_a3_u1, pj_a3_u2, c1]
    refine e45_25 rfl (by rw [hC.2.1]; rfl) hE ?_
    simp (disch := first | assumption | exact pj_long_i | exact pj_long_r | exact pj_long_n | decide) only [x45_28, x45_29, x45_32, x45_35, simprocAttr, pj_then_s, pj_pv_s, pj_pi_s, pj_set_s, if_true, if_false, not_true_eq_false, not_false_eq_true, pj_up_up, pj_so110_109, pj_so111_109, pj_so112_109, pj_so113_109, pj_so114_109, pj_so115_109, pj_so116_109, pj_so117_109, pj_so111_110, pj_so112_110, pj_so113_110, pj_so114_110, pj_so115_110, pj_so116_110, pj_so117_110, pj_so112_111, pj_so113_111, pj_so114_111, pj_so115_111, pj_so116_111, pj_so117_111, pj_so113_112, pj_so114_112, pj_so115_112, pj_so116_112, pj_so117_112, pj_so114_113, pj_so115_113, pj_so116_113, pj_so117_113, pj_so115_114, pj_so116_114, pj_so117_114, pj_so116_115, pj_so117_115, pj_so117_116, pj_up_ap, pj_upd_ap, pj_a3_0, pj_a3_1, pj_a3_2, pj_a3_u0, pj_a3_u1, pj_a3_u2, pj_f5_0, pj_f4_7, V1, pj_vc, hu, hx5]
    refine e45_36 rfl (c_has_1 bv) ?_
    have K : ∀ d : Int32, pj_Ends 45 (47, [some (.ref 4), some (.int 1), none], [.int d], (N, S, H1)) (some (.int d), (N, S, pj_up (pj_up (pj_up (pj_up H1 5 (.inl (4, [.ref 6, .ref 7, .ref 8, .ref 9, .ref 10, .ref 11, .ref 12, .int (pj_pk (x.1 14) 1 (x.1 16)), .int (sp_bar x.1), .int (x.1 7), .int (x.1 6)]))) 7 (.inr (0, 3, .inl (pj_a3 (x.1 8) 0 (x.1 10))))) 8 (.inr (0, 3, .inl (pj_a3 (x.1 11) 0 (x.1 13))))) 9 (.inr (0, 3, .inl (pj_a3 (x.1 17) 0 (x.1 19)))))) := by
      intro d
      simp (disch := first | assumption | exact pj_long_i | exact pj_long_r | exact pj_long_n | decide) only [x45_47, x45_48, x45_49, x45_52, x45_53, x45_56, x45_59, simprocAttr, pj_then_s, pj_pv_s, pj_pi_s, pj_set_s, if_true, if_false, not_true_eq_false, not_false_eq_true, pj_up_up, pj_so110_109, pj_so111_109, pj_so112_109, pj_so113_109, pj_so114_109, pj_so115_109, pj_so116_109, pj_so117_109, pj_so111_110, pj_so112_110, pj_so113_110, pj_so114_110, pj_so115_110, pj_so116_110, pj_so117_110, pj_so112_111, pj_so113_111, pj_so114_111, pj_so115_111, pj_so116_111, pj_so117_111, pj_so113_112, pj_so114_112, pj_so115_112, pj_so116_112, pj_so117_112, pj_so114_113, pj_so115_113, pj_so116_113, pj_so117_113, pj_so115_114, pj_so116_114, pj_so117_114, pj_so116_115, pj_so117_115, pj_so117_116, pj_up_ap, pj_upd_ap, pj_a3_0, pj_a3_1, pj_a3_2, pj_a3_u0, pj_a3_u1, pj_a3_u2, pj_long_i, pj_long_r, pj_long_n, pj_f5_0, pj_f4_7, V1, pj_vc, hu, hx5]
      refine e45_60 rfl (c_wi_1 bv) ?_
      simp (disch := first | assumption | exact pj_long_i | exact pj_long_r | exact pj_long_n | decide) only [x45_63, x45_66, x45_67, x45_70, x45_73, x45_74, x45_75, x45_76, x45_77, x45_80, x45_83, x45_84, x45_85, x45_86, x45_87, x45_90, x45_93, x45_94, x45_95, x45_96, simprocAttr, pj_then_s, pj_pv_s, pj_pi_s, pj_set_s, if_true, if_false, not_true_eq_false, not_false_eq_true, pj_up_up, pj_so110_109, pj_so111_109, pj_so112_109, pj_so113_109, pj_so114_109, pj_so115_109, pj_so116_109, pj_so117_109, pj_so111_110, pj_so112_110, pj_so113_110, pj_so114_110, pj_so115_110, pj_so116_110, pj_so117_110, pj_so112_111, pj_so113_111, pj_so114_111, pj_so115_111, pj_so116_111, pj_so117_111, pj_so113_112, pj_so114_112, pj_so115_112, pj_so116_112, pj_so117_112, pj_so114_113, pj_so115_113, pj_so116_113, pj_so117_113, pj_so115_114, pj_so116_114, pj_so117_114, pj_so116_115, pj_so117_115, pj_so117_116, pj_up_ap, pj_upd_ap, pj_a3_0, pj_a3_1, pj_a3_2, pj_a3_u0, pj_a3_u1, pj_a3_u2, pj_s4_7, pj_f5_0, pj_f4_1, pj_ars_i, pj_f4_2, pj_f4_3, V1, pj_vc, hu, hx5, hu2, hu3, hu4]
      exact t45_97
    rcases rv 1 (by decide) with e | e
    · replace e : x.1 15 = 0 := e
      have e1 : 1 - x.1 (14 + 1) = 1 := by rw [e]; decide
      rw [e1]
      have K1 := K 1
      simp (disch := first | assumption | exact pj_long_i | exact pj_long_r | exact pj_long_n | decide) only [x45_39, x45_42, x45_43, x45_46, simprocAttr, pj_then_s, pj_pv_s, pj_pi_s, pj_set_s, if_true, if_false, not_true_eq_false, not_false_eq_true, pj_up_up, pj_so110_109, pj_so111_109, pj_so112_109, pj_so113_109, pj_so114_109, pj_so115_109, pj_so116_109, pj_so117_109, pj_so111_110, pj_so112_110, pj_so113_110, pj_so114_110, pj_so115_110, pj_so116_110, pj_so117_110, pj_so112_111, pj_so113_111, pj_so114_111, pj_so115_111, pj_so116_111, pj_so117_111, pj_so113_112, pj_so114_112, pj_so115_112, pj_so116_112, pj_so117_112, pj_so114_113, pj_so115_113, pj_so116_113, pj_so117_113, pj_so115_114, pj_so116_114, pj_so117_114, pj_so116_115, pj_so117_115, pj_so117_116, pj_up_ap, pj_upd_ap, pj_a3_0, pj_a3_1, pj_a3_2, pj_a3_u0, pj_a3_u1, pj_a3_u2, e]
      exact K1
    · replace e : x.1 15 = 1 := e
      have e1 : 1 - x.1 (14 + 1) = 0 := by rw [e]; decide
      rw [e1]
      have K1 := K 0
      simp (disch := first | assumption | exact pj_long_i | exact pj_long_r | exact pj_long_n | decide) only [x45_39, x45_42, x45_43, x45_46, simprocAttr, pj_then_s, pj_pv_s, pj_pi_s, pj_set_s, if_true, if_false, not_true_eq_false, not_false_eq_true, pj_up_up, pj_so110_109, pj_so111_109, pj_so112_109, pj_so113_109, pj_so114_109, pj_so115_109, pj_so116_109, pj_so117_109, pj_so111_110, pj_so112_110, pj_so113_110, pj_so114_110, pj_so115_110, pj_so116_110, pj_so117_110, pj_so112_111, pj_so113_111, pj_so114_111, pj_so115_111, pj_so116_111, pj_so117_111, pj_so113_112, pj_so114_112, pj_so115_112, pj_so116_112, pj_so117_112, pj_so114_113, pj_so115_113, pj_so116_113, pj_so117_113, pj_so115_114, pj_so116_114, pj_so117_114, pj_so116_115, pj_so117_115, pj_so117_116, pj_up_ap, pj_upd_ap, pj_a3_0, pj_a3_1, pj_a3_2, pj_a3_u0, pj_a3_u1, pj_a3_u2, e]
      exact K1
  · rw [if_neg c1]
    refine pj_Co_same hC ?_
    simp (disch := first | assumption | exact pj_long_i | exact pj_long_r | exact pj_long_n | decide) only [x45_0, x45_1, x45_4, x45_5, x45_6, x45_9, x45_11, x45_12, simprocAttr, pj_then_s, pj_pv_s, pj_pi_s, pj_set_s, if_true, if_false, not_true_eq_false, not_false_eq_true, pj_up_up, pj_so110_109, pj_so111_109, pj_so112_109, pj_so113_109, pj_so114_109, pj_so115_109, pj_so116_109, pj_so117_109, pj_so111_110, pj_so112_110, pj_so113_110, pj_so114_110, pj_so115_110, pj_so116_110, pj_so117_110, pj_so112_111, pj_so113_111, pj_so114_111, pj_so115_111, pj_so116_111, pj_so117_111, pj_so113_112, pj_so114_112, pj_so115_112, pj_so116_112, pj_so117_112, pj_so114_113, pj_so115_113, pj_so116_113, pj_so117_113, pj_so115_114, pj_so116_114, pj_so117_114, pj_so116_115, pj_so117_115, pj_so117_116, pj_up_ap, pj_upd_ap, pj_a3_0, pj_a3_1, pj_a3_2, pj_a3_u0, pj_a3_u1, pj_a3_u2, pj_f5_0, hC.2.1, pj_vc]
    refine e45_15 rfl (by rw [hU.1]; rfl) (c_firedStages hU) ?_
    simp (disch := first | assumption | exact pj_long_i | exact pj_long_r | exact pj_long_n | decide) only [x45_18, x45_21, simprocAttr, pj_then_s, pj_pv_s, pj_pi_s, pj_set_s, if_true, if_false, not_true_eq_false, not_false_eq_true, pj_up_up, pj_so110_109, pj_so111_109, pj_so112_109, pj_so113_109, pj_so114_109, pj_so115_109, pj_so116_109, pj_so117_109, pj_so111_110, pj_so112_110, pj_so113_110, pj_so114_110, pj_so115_110, pj_so116_110, pj_so117_110, pj_so112_111, pj_so113_111, pj_so114_111, pj_so115_111, pj_so116_111, pj_so117_111, pj_so113_112, pj_so114_112, pj_so115_112, pj_so116_112, pj_so117_112, pj_so114_113, pj_so115_113, pj_so116_113, pj_so117_113, pj_so115_114, pj_so116_114, pj_so117_114, pj_so116_115, pj_so117_115, pj_so117_116, pj_up_ap, pj_upd_ap, pj_a3_0, pj_a3_1, pj_a3_2, pj_a3_u0, pj_a3_u1, pj_a3_u2, c1]
    exact t45_23
theorem c_test_2 (hx : pj_In x) (hC : pj_C H x) : pj_Co N S H 45 [some (.ref 4), some (.int 2), none] (op_test x 2) := by
  unfold op_test
  have e0 : sp_th 2 = 1 := by decide
  rw [e0, if_neg (by decide : ¬ (1 : Int32) = 0), show (2 : Int32).toNatClampNeg = 2 from rfl]
  have hU := hC.2.2.1
  obtain ⟨t, ht, hR⟩ := hx.1
  obtain ⟨-, -, -, rv, -⟩ := hR
  have bv : pj_b3 (x.1 14) (x.1 15) (x.1 16) := ⟨rv 0 (by decide), rv 1 (by decide), rv 2 (by decide)⟩
  by_cases c1 : sp_fired x.1 = 0
  · rw [if_pos c1]
    obtain ⟨H1, hC1, hF1, hE⟩ := c_remember (N := N) (S := S) hx.2.1 hC
    have V1 := hC1.2.1
    have U1 : pj_U H1 5 x.1 := hC1.2.2.1
    obtain ⟨hu, hu1, hu2, hu3, hu4, hu5, hu6, hu7, hu8⟩ := U1
    have hx5 : pj_uc 5 x.1 = .inl (4, [.ref 6, .ref 7, .ref 8, .ref 9, .ref 10, .ref 11, .ref 12, .int (pj_pk (x.1 14) (x.1 15) (x.1 16)), .int (sp_bar x.1), .int (x.1 7), .int (x.1 6)]) := rfl
    have e8 : pj_n120 x.1 = pj_n120 (sp_tst x.1 2) := by
      unfold sp_tst
      repeat rw [pj_n120_lo (by decide)]
    have hU2 : pj_U (pj_up (pj_up (pj_up (pj_up H1 5 (.inl (4, [.ref 6, .ref 7, .ref 8, .ref 9, .ref 10, .ref 11, .ref 12, .int (pj_pk (x.1 14) (x.1 15) 1), .int (sp_bar x.1), .int (x.1 7), .int (x.1 6)]))) 7 (.inr (0, 3, .inl (pj_a3 (x.1 8) (x.1 9) 0)))) 8 (.inr (0, 3, .inl (pj_a3 (x.1 11) (x.1 12) 0)))) 9 (.inr (0, 3, .inl (pj_a3 (x.1 17) (x.1 18) 0)))) 5 (sp_tst x.1 2) := ⟨(by (try simp (disch := decide) only [simprocAttr, pj_up_ap, if_true, if_false, pj_mo, hu]) <;> rfl), (by (try simp (disch := decide) only [simprocAttr, pj_up_ap, if_true, if_false, pj_mo, hu1]) <;> rfl), (by (try simp (disch := decide) only [simprocAttr, pj_up_ap, if_true, if_false, pj_mo, hu2]) <;> rfl), (by (try simp (disch := decide) only [simprocAttr, pj_up_ap, if_true, if_false, pj_mo, hu3]) <;> rfl), (by (try simp (disch := decide) only [simprocAttr, pj_up_ap, if_true, if_false, pj_mo, hu4]) <;> rfl), (by (try simp (disch := decide) only [simprocAttr, pj_up_ap, if_true, if_false, pj_mo, hu5]) <;> rfl), (by (try simp (disch := decide) only [simprocAttr, pj_up_ap, if_true, if_false, pj_mo, hu6]) <;> rfl), (by (try simp (disch := decide) only [simprocAttr, pj_up_ap, if_true, if_false, pj_mo, hu7]) <;> rfl), (by (try simp (disch := decide) only [simprocAttr, pj_up_ap, if_true, if_false, pj_mo, hu8, e8]) <;> rfl)⟩
    obtain ⟨hC2, hF2⟩ := c_chg hC1 hF1 hU2 (fun j hj => by simp only [pj_up_ap]; repeat rw [if_neg (by omega)])
    refine ⟨_, hC2, hF2, ?_⟩
    simp only
    simp (disch := first | assumption | exact pj_long_i | exact pj_long_r | exact pj_long_n | decide) only [x45_0, x45_1, x45_4, x45_5, x45_6, x45_9, x45_11, x45_12, simprocAttr, pj_then_s, pj_pv_s, pj_pi_s, pj_set_s, if_true, if_false, not_true_eq_false, not_false_eq_true, pj_up_up, pj_so110_109, pj_so111_109, pj_so112_109, pj_so113_109, pj_so114_109, pj_so115_109, pj_so116_109, pj_so117_109, pj_so111_110, pj_so112_110, pj_so113_110, pj_so114_110, pj_so115_110, pj_so116_110, pj_so117_110, pj_so112_111, pj_so113_111, pj_so114_111, pj_so115_111, pj_so116_111, pj_so117_111, pj_so113_112, pj_so114_112, pj_so115_112, pj_so116_112, pj_so117_112, pj_so114_113, pj_so115_113, pj_so116_113, pj_so117_113, pj_so115_114, pj_so116_114, pj_so117_114, pj_so116_115, pj_so117_115, pj_so117_116, pj_up_ap, pj_upd_ap, pj_a3_0, pj_a3_1, pj_a3_2, pj_a3_u0, pj_a3_u1, pj_a3_u2, pj_f5_0, hC.2.1, pj_vc]
    refine e45_15 rfl (by rw [hU.1]; rfl) (c_firedStages hU) ?_
    simp (disch := first | assumption | exact pj_long_i | exact pj_long_r | exact pj_long_n | decide) only [x45_18, x45_21, x45_24, simprocAttr, pj_then_s, pj_pv_s, pj_pi_s, pj_set_s, if_true, if_false, not_true_eq_false, not_false_eq_true, pj_up_up, pj_so110_109, pj_so111_109, pj_so112_109, pj_so113_109, pj_so114_109, pj_so115_109, pj_so116_109, pj_so117_109, pj_so111_110, pj_so112_110, pj_so113_110, pj_so114_110, pj_so115_110, pj_so116_110, pj_so117_110, pj_so112_111, pj_so113_111, pj_so114_111, pj_so115_111, pj_so116_111, pj_so117_111, pj_so113_112, pj_so114_112, pj_so115_112, pj_so116_112, pj_so117_112, pj_so114_113, pj_so115_113, pj_so116_113, pj_so117_113, pj_so115_114, pj_so116_114, pj_so117_114, pj_so116_115, pj_so117_115, pj_so117_116, pj_up_ap, pj_upd_ap, pj_a3_0, pj_a3_1, pj_a3_2, pj_a3_u0, pj_a3_u1, pj_a3_u2, c1]
    refine e45_25 rfl (by rw [hC.2.1]; rfl) hE ?_
    simp (disch := first | assumption | exact pj_long_i | exact pj_long_r | exact pj_long_n | decide) only [x45_28, x45_29, x45_32, x45_35, simprocAttr, pj_then_s, pj_pv_s, pj_pi_s, pj_set_s, if_true, if_false, not_true_eq_false, not_false_eq_true, pj_up_up, pj_so110_109, pj_so111_109, pj_so112_109, pj_so113_109, pj_so114_109, pj_so115_109, pj_so116_109, pj_so117_109, pj_so111_110, pj_so112_110, pj_so113_110, pj_so114_110, pj_so115_110, pj_so116_110, pj_so117_110, pj_so112_111, pj_so113_111, pj_so114_111, pj_so115_111, pj_so116_111, pj_so117_111, pj_so113_112, pj_so114_112, pj_so115_112, pj_so116_112, pj_so117_112, pj_so114_113, pj_so115_113, pj_so116_113, pj_so117_113, pj_so115_114, pj_so116_114, pj_so117_114, pj_so116_115, pj_so117_115, pj_so117_116, pj_up_ap, pj_upd_ap, pj_a3_0, pj_a3_1, pj_a3_2, pj_a3_u0, pj_a3_u1, pj_a3_u2, pj_f5_0, pj_f4_7, V1, pj_vc, hu, hx5]
    refine e45_36 rfl (c_has_2 bv) ?_
    have K : ∀ d : Int32, pj_Ends 45 (47, [some (.ref 4), some (.int 2), none], [.int d], (N, S, H1)) (some (.int d), (N, S, pj_up (pj_up (pj_up (pj_up H1 5 (.inl (4, [.ref 6, .ref 7, .ref 8, .ref 9, .ref 10, .ref 11, .ref 12, .int (pj_pk (x.1 14) (x.1 15) 1), .int (sp_bar x.1), .int (x.1 7), .int (x.1 6)]))) 7 (.inr (0, 3, .inl (pj_a3 (x.1 8) (x.1 9) 0)))) 8 (.inr (0, 3, .inl (pj_a3 (x.1 11) (x.1 12) 0)))) 9 (.inr (0, 3, .inl (pj_a3 (x.1 17) (x.1 18) 0))))) := by
      intro d
      simp (disch := first | assumption | exact pj_long_i | exact pj_long_r | exact pj_long_n | decide) only [x45_47, x45_48, x45_49, x45_52, x45_53, x45_56, x45_59, simprocAttr, pj_then_s, pj_pv_s, pj_pi_s, pj_set_s, if_true, if_false, not_true_eq_false, not_false_eq_true, pj_up_up, pj_so110_109, pj_so111_109, pj_so112_109, pj_so113_109, pj_so114_109, pj_so115_109, pj_so116_109, pj_so117_109, pj_so111_110, pj_so112_110, pj_so113_110, pj_so114_110, pj_so115_110, pj_so116_110, pj_so117_110, pj_so112_111, pj_so113_111, pj_so114_111, pj_so115_111, pj_so116_111, pj_so117_111, pj_so113_112, pj_so114_112, pj_so115_112, pj_so116_112, pj_so117_112, pj_so114_113, pj_so115_113, pj_so116_113, pj_so117_113, pj_so115_114, pj_so116_114, pj_so117_114, pj_so116_115, pj_so117_115, pj_so117_116, pj_up_ap, pj_upd_ap, pj_a3_0, pj_a3_1, pj_a3_2, pj_a3_u0, pj_a3_u1, pj_a3_u2, pj_long_i, pj_long_r, pj_long_n, pj_f5_0, pj_f4_7, V1, pj_vc, hu, hx5]
      refine e45_60 rfl (c_wi_2 bv) ?_
      simp (disch := first | assumption | exact pj_long_i | exact pj_long_r | exact pj_long_n | decide) only [x45_63, x45_66, x45_67, x45_70, x45_73, x45_74, x45_75, x45_76, x45_77, x45_80, x45_83, x45_84, x45_85, x45_86, x45_87, x45_90, x45_93, x45_94, x45_95, x45_96, simprocAttr, pj_then_s, pj_pv_s, pj_pi_s, pj_set_s, if_true, if_false, not_true_eq_false, not_false_eq_true, pj_up_up, pj_so110_109, pj_so111_109, pj_so112_109, pj_so113_109, pj_so114_109, pj_so115_109, pj_so116_109, pj_so117_109, pj_so111_110, pj_so112_110, pj_so113_110, pj_so114_110, pj_so115_110, pj_so116_110, pj_so117_110, pj_so112_111, pj_so113_111, pj_so114_111, pj_so115_111, pj_so116_111, pj_so117_111, pj_so113_112, pj_so114_112, pj_so115_112, pj_so116_112, pj_so117_112, pj_so114_113, pj_so115_113, pj_so116_113, pj_so117_113, pj_so115_114, pj_so116_114, pj_so117_114, pj_so116_115, pj_so117_115, pj_so117_116, pj_up_ap, pj_upd_ap, pj_a3_0, pj_a3_1, pj_a3_2, pj_a3_u0, pj_a3_u1, pj_a3_u2, pj_s4_7, pj_f5_0, pj_f4_1, pj_ars_i, pj_f4_2, pj_f4_3, V1, pj_vc, hu, hx5, hu2, hu3, hu4]
      exact t45_97
    rcases rv 2 (by decide) with e | e
    · replace e : x.1 16 = 0 := e
      have e1 : 1 - x.1 (14 + 2) = 1 := by rw [e]; decide
      rw [e1]
      have K1 := K 1
      simp (disch := first | assumption | exact pj_long_i | exact pj_long_r | exact pj_long_n | decide) only [x45_39, x45_42, x45_43, x45_46, simprocAttr, pj_then_s, pj_pv_s, pj_pi_s, pj_set_s, if_true, if_false, not_true_eq_false, not_false_eq_true, pj_up_up, pj_so110_109, pj_so111_109, pj_so112_109, pj_so113_109, pj_so114_109, pj_so115_109, pj_so116_109, pj_so117_109, pj_so111_110, pj_so112_110, pj_so113_110, pj_so114_110, pj_so115_110, pj_so116_110, pj_so117_110, pj_so112_111, pj_so113_111, pj_so114_111, pj_so115_111, pj_so116_111, pj_so117_111, pj_so113_112, pj_so114_112, pj_so115_112, pj_so116_112, pj_so117_112, pj_so114_113, pj_so115_113, pj_so116_113, pj_so117_113, pj_so115_114, pj_so116_114, pj_so117_114, pj_so116_115, pj_so117_115, pj_so117_116, pj_up_ap, pj_upd_ap, pj_a3_0, pj_a3_1, pj_a3_2, pj_a3_u0, pj_a3_u1, pj_a3_u2, e]
      exact K1
    · replace e : x.1 16 = 1 := e
      have e1 : 1 - x.1 (14 + 2) = 0 := by rw [e]; decide
      rw [e1]
      have K1 := K 0
      simp (disch := first | assumption | exact pj_long_i | exact pj_long_r | exact pj_long_n | decide) only [x45_39, x45_42, x45_43, x45_46, simprocAttr, pj_then_s, pj_pv_s, pj_pi_s, pj_set_s, if_true, if_false, not_true_eq_false, not_false_eq_true, pj_up_up, pj_so110_109, pj_so111_109, pj_so112_109, pj_so113_109, pj_so114_109, pj_so115_109, pj_so116_109, pj_so117_109, pj_so111_110, pj_so112_110, pj_so113_110, pj_so114_110, pj_so115_110, pj_so116_110, pj_so117_110, pj_so112_111, pj_so113_111, pj_so114_111, pj_so115_111, pj_so116_111, pj_so117_111, pj_so113_112, pj_so114_112, pj_so115_112, pj_so116_112, pj_so117_112, pj_so114_113, pj_so115_113, pj_so116_113, pj_so117_113, pj_so115_114, pj_so116_114, pj_so117_114, pj_so116_115, pj_so117_115, pj_so117_116, pj_up_ap, pj_upd_ap, pj_a3_0, pj_a3_1, pj_a3_2, pj_a3_u0, pj_a3_u1, pj_a3_u2, e]
      exact K1
  · rw [if_neg c1]
    refine pj_Co_same hC ?_
    simp (disch := first | assumption | exact pj_long_i | exact pj_long_r | exact pj_long_n | decide) only [x45_0, x45_1, x45_4, x45_5, x45_6, x45_9, x45_11, x45_12, simprocAttr, pj_then_s, pj_pv_s, pj_pi_s, pj_set_s, if_true, if_false, not_true_eq_false, not_false_eq_true, pj_up_up, pj_so110_109, pj_so111_109, pj_so112_109, pj_so113_109, pj_so114_109, pj_so115_109, pj_so116_109, pj_so117_109, pj_so111_110, pj_so112_110, pj_so113_110, pj_so114_110, pj_so115_110, pj_so116_110, pj_so117_110, pj_so112_111, pj_so113_111, pj_so114_111, pj_so115_111, pj_so116_111, pj_so117_111, pj_so113_112, pj_so114_112, pj_so115_112, pj_so116_112, pj_so117_112, pj_so114_113, pj_so115_113, pj_so116_113, pj_so117_113, pj_so115_114, pj_so116_114, pj_so117_114, pj_so116_115, pj_so117_115, pj_so117_116, pj_up_ap, pj_upd_ap, pj_a3_0, pj_a3_1, pj_a3_2, pj_a3_u0, pj_a3_u1, pj_a3_u2, pj_f5_0, hC.2.1, pj_vc]
    refine e45_15 rfl (by rw [hU.1]; rfl) (c_firedStages hU) ?_
    simp (disch := first | assumption | exact pj_long_i | exact pj_long_r | exact pj_long_n | decide) only [x45_18, x45_21, simprocAttr, pj_then_s, pj_pv_s, pj_pi_s, pj_set_s, if_true, if_false, not_true_eq_false, not_false_eq_true, pj_up_up, pj_so110_109, pj_so111_109, pj_so112_109, pj_so113_109, pj_so114_109, pj_so115_109, pj_so116_109, pj_so117_109, pj_so111_110, pj_so112_110, pj_so113_110, pj_so114_110, pj_so115_110, pj_so116_110, pj_so117_110, pj_so112_111, pj_so113_111, pj_so114_111, pj_so115_111, pj_so116_111, pj_so117_111, pj_so113_112, pj_so114_112, pj_so115_112, pj_so116_112, pj_so117_112, pj_so114_113, pj_so115_113, pj_so116_113, pj_so117_113, pj_so115_114, pj_so116_114, pj_so117_114, pj_so116_115, pj_so117_115, pj_so117_116, pj_up_ap, pj_upd_ap, pj_a3_0, pj_a3_1, pj_a3_2, pj_a3_u0, pj_a3_u1, pj_a3_u2, c1]
    exact t45_23
theorem C_test {a : Int32} (hx : pj_In x) (hC : pj_C H x) : pj_Co N S H 45 [some (.ref 4), some (.int a), none] (op_test x a) := by
  by_cases c : sp_th a = 0
  · unfold op_test
    rw [if_pos c]
    refine pj_Co_same hC ?_
    rcases i32_th c with q | ⟨q, q2⟩
    · simp (disch := first | assumption | exact pj_long_i | exact pj_long_r | exact pj_long_n | decide) only [x45_0, x45_1, x45_4, x45_5, x45_6, x45_9, simprocAttr, pj_then_s, pj_pv_s, pj_pi_s, pj_set_s, if_true, if_false, not_true_eq_false, not_false_eq_true, pj_up_up, pj_so110_109, pj_so111_109, pj_so112_109, pj_so113_109, pj_so114_109, pj_so115_109, pj_so116_109, pj_so117_109, pj_so111_110, pj_so112_110, pj_so113_110, pj_so114_110, pj_so115_110, pj_so116_110, pj_so117_110, pj_so112_111, pj_so113_111, pj_so114_111, pj_so115_111, pj_so116_111, pj_so117_111, pj_so113_112, pj_so114_112, pj_so115_112, pj_so116_112, pj_so117_112, pj_so114_113, pj_so115_113, pj_so116_113, pj_so117_113, pj_so115_114, pj_so116_114, pj_so117_114, pj_so116_115, pj_so117_115, pj_so117_116, pj_up_ap, pj_upd_ap, pj_a3_0, pj_a3_1, pj_a3_2, pj_a3_u0, pj_a3_u1, pj_a3_u2, q]
      exact t45_10
    · simp (disch := first | assumption | exact pj_long_i | exact pj_long_r | exact pj_long_n | decide) only [x45_0, x45_1, x45_4, x45_5, x45_6, x45_9, simprocAttr, pj_then_s, pj_pv_s, pj_pi_s, pj_set_s, if_true, if_false, not_true_eq_false, not_false_eq_true, pj_up_up, pj_so110_109, pj_so111_109, pj_so112_109, pj_so113_109, pj_so114_109, pj_so115_109, pj_so116_109, pj_so117_109, pj_so111_110, pj_so112_110, pj_so113_110, pj_so114_110, pj_so115_110, pj_so116_110, pj_so117_110, pj_so112_111, pj_so113_111, pj_so114_111, pj_so115_111, pj_so116_111, pj_so117_111, pj_so113_112, pj_so114_112, pj_so115_112, pj_so116_112, pj_so117_112, pj_so114_113, pj_so115_113, pj_so116_113, pj_so117_113, pj_so115_114, pj_so116_114, pj_so117_114, pj_so116_115, pj_so117_115, pj_so117_116, pj_up_ap, pj_upd_ap, pj_a3_0, pj_a3_1, pj_a3_2, pj_a3_u0, pj_a3_u1, pj_a3_u2, q, q2]
      exact t45_10
  · rcases sp_th_lt c with e | e | e <;> subst e
    · exact c_test_0 hx hC
    · exact c_test_1 hx hC
    · exact c_test_2 hx hC
end T24
