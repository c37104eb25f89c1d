/-! THE LAW OF BOTH: isStep -/
section T98
variable {Ln N S b n : Nat} {xs : Nat → Int32} {K : pj_Heap} {x y : pj_Sg} {eb v z a u : Int32}
theorem s_set (hN : 109 ≤ N) (hn : n ≤ 999) (hJ : lw_J b n x y) (hM : lw_M Ln xs K x y) : ∃ x' y' K', lw_J b (n + 1) x' y' ∧ lw_M Ln xs K' x' y' ∧ pj_Ends 41 (107, [some (.ref 4), some (.ref 109), some (.int eb), some (.int v), some (.int z), some (.int a), some (.int u)], [], (N, S, K)) (some (.int 1), (N, S, K')) := by
  obtain ⟨q1, q2⟩ := J_set (a := a) (v := u) (by omega) hJ
  obtain ⟨K1, m1, e1⟩ := o_set (N := N) (S := S) (a := a) (w := u) hJ.1 hM
  obtain ⟨K2, m2, e2⟩ := p_set (N := N) (S := S) (a := a) (w := u) hN hJ.2.1 m1
  rw [q1] at e2
  refine ⟨_, _, K2, q2.mono (by omega), m2, ?_⟩
  generalize (op_set x a u).2 = r at e1 e2
  simp (disch := first | assumption | exact pj_long_i | exact pj_long_r | exact pj_long_n | decide) only [x41_107, x41_108, x41_110, simprocAttr, pj_then_s, pj_pv_s, pj_pi_s, pj_set_s, if_true, if_false, not_true_eq_false, not_false_eq_true, pj_up_up, pj_up_ap, pj_upd_ap, pj_a3_0, pj_a3_1, pj_a3_2, pj_a3_u0, pj_a3_u1, pj_a3_u2]
  refine e41_112 rfl hM.u4 e1 ?_
  simp (disch := first | assumption | exact pj_long_i | exact pj_long_r | exact pj_long_n | decide) only [x41_115, x41_116, x41_118, simprocAttr, pj_then_s, pj_pv_s, pj_pi_s, pj_set_s, if_true, if_false, not_true_eq_false, not_false_eq_true, pj_up_up, pj_up_ap, pj_upd_ap, pj_a3_0, pj_a3_1, pj_a3_2, pj_a3_u0, pj_a3_u1, pj_a3_u2]
  refine e41_120 rfl m1.u109 e2 ?_
  simp (disch := first | assumption | exact pj_long_i | exact pj_long_r | exact pj_long_n | decide) only [x41_123, x41_126, x41_127, x41_130, simprocAttr, pj_then_s, pj_pv_s, pj_pi_s, pj_set_s, if_true, if_false, not_true_eq_false, not_false_eq_true, pj_up_up, pj_up_ap, pj_upd_ap, pj_a3_0, pj_a3_1, pj_a3_2, pj_a3_u0, pj_a3_u1, pj_a3_u2]
  exact t41_131 (Or.inr rfl)
theorem s_0 (hN : 109 ≤ N) (hn : n ≤ 999) (hJ : lw_J b n x y) (hM : lw_M Ln xs K x y) : ∃ x' y' K', lw_J b (n + 1) x' y' ∧ lw_M Ln xs K' x' y' ∧ pj_Ends 41 (44, [some (.ref 4), some (.ref 109), some (.int eb), some (.int v), some (.int z), none, none], [], (N, S, K)) (some (.int 1), (N, S, K')) := by
  have A : ∀ a : Int32, ∃ x' y' K', lw_J b (n + 1) x' y' ∧ lw_M Ln xs K' x' y' ∧ pj_Ends 41 (53, [some (.ref 4), some (.ref 109), some (.int eb), some (.int v), some (.int z), some (.int a), none], [], (N, S, K)) (some (.int 1), (N, S, K')) := by
    intro a
    by_cases c1 : 2 ≤ a
    · have c1' : ¬ a < 2 := Int32.not_lt.mpr c1
      by_cases c2 : a = 3
      · obtain ⟨x', y', K2, j, m, e⟩ := s_set (S := S) (eb := eb) (v := v) (z := z) (a := a) (u := 2 + nI (lw_up (z >>> ((3 : Int32) &&& 31)) 9)) hN hn hJ hM
        refine ⟨x', y', K2, j, m, ?_⟩
        subst c2
        simp (disch := first | assumption | exact pj_long_i | exact pj_long_r | exact pj_long_n | decide) only [x41_53, x41_55, x41_56, x41_59, x41_60, x41_62, x41_63, x41_64, x41_70, x41_71, x41_74, x41_76, x41_77, x41_80, x41_81, x41_83, x41_84, x41_85, simprocAttr, pj_then_s, pj_pv_s, pj_pi_s, pj_set_s, if_true, if_false, not_true_eq_false, not_false_eq_true, pj_up_up, pj_up_ap, pj_upd_ap, pj_a3_0, pj_a3_1, pj_a3_2, pj_a3_u0, pj_a3_u1, pj_a3_u2]
        refine e41_87 rfl (c_up (d := 9) rfl (by decide) (by decide)) ?_
        simp (disch := first | assumption | exact pj_long_i | exact pj_long_r | exact pj_long_n | decide) only [x41_90, x41_91, x41_94, x41_95, x41_97, x41_98, x41_99, x41_104, x41_105, simprocAttr, pj_then_s, pj_pv_s, pj_pi_s, pj_set_s, if_true, if_false, not_true_eq_false, not_false_eq_true, pj_up_up, pj_up_ap, pj_upd_ap, pj_a3_0, pj_a3_1, pj_a3_2, pj_a3_u0, pj_a3_u1, pj_a3_u2, pj_long_i, pj_long_r, pj_long_n]
        exact e
      · obtain ⟨x', y', K2, j, m, e⟩ := s_set (S := S) (eb := eb) (v := v) (z := z) (a := a) (u := 1 + nI (lw_up (z >>> ((3 : Int32) &&& 31)) 20)) hN hn hJ hM
        refine ⟨x', y', K2, j, m, ?_⟩
        simp (disch := first | assumption | exact pj_long_i | exact pj_long_r | exact pj_long_n | decide) only [x41_53, x41_55, x41_56, x41_59, x41_60, x41_62, x41_63, x41_64, x41_70, x41_71, x41_74, x41_76, x41_77, x41_80, x41_81, x41_83, x41_84, x41_85, x41_90, x41_91, x41_94, x41_95, x41_97, x41_98, x41_99, simprocAttr, pj_then_s, pj_pv_s, pj_pi_s, pj_set_s, if_true, if_false, not_true_eq_false, not_false_eq_true, pj_up_up, pj_up_ap, pj_upd_ap, pj_a3_0, pj_a3_1, pj_a3_2, pj_a3_u0, pj_a3_u1, pj_a3_u2, c1, c1', c2]
        refine e41_101 rfl (c_up (d := 20) rfl (by decide) (by decide)) ?_
        simp (disch := first | assumption | exact pj_long_i | exact pj_long_r | exact pj_long_n | decide) only [x41_104, x41_105, simprocAttr, pj_then_s, pj_pv_s, pj_pi_s, pj_set_s, if_true, if_false, not_true_eq_false, not_false_eq_true, pj_up_up, pj_up_ap, pj_upd_ap, pj_a3_0, pj_a3_1, pj_a3_2, pj_a3_u0, pj_a3_u1, pj_a3_u2, pj_long_i, pj_long_r, pj_long_n]
        exact e
    · have c1' : a < 2 := Int32.not_le.mp c1
      obtain ⟨x', y', K2, j, m, e⟩ := s_set (S := S) (eb := eb) (v := v) (z := z) (a := a) (u := 1 + nI (lw_up (z >>> ((3 : Int32) &&& 31)) 200)) hN hn hJ hM
      refine ⟨x', y', K2, j, m, ?_⟩
      simp (disch := first | assumption | exact pj_long_i | exact pj_long_r | exact pj_long_n | decide) only [x41_53, x41_55, x41_56, x41_59, x41_60, x41_62, x41_63, x41_64, simprocAttr, pj_then_s, pj_pv_s, pj_pi_s, pj_set_s, if_true, if_false, not_true_eq_false, not_false_eq_true, pj_up_up, pj_up_ap, pj_upd_ap, pj_a3_0, pj_a3_1, pj_a3_2, pj_a3_u0, pj_a3_u1, pj_a3_u2, c1, c1']
      refine e41_67 rfl (c_up (d := 200) rfl (by decide) (by decide)) ?_
      simp (disch := first | assumption | exact pj_long_i | exact pj_long_r | exact pj_long_n | decide) only [x41_70, x41_71, x41_74, x41_76, x41_77, x41_80, x41_81, x41_83, x41_84, x41_85, x41_90, x41_91, x41_94, x41_95, x41_97, x41_98, x41_99, x41_104, x41_105, simprocAttr, pj_then_s, pj_pv_s, pj_pi_s, pj_set_s, if_true, if_false, not_true_eq_false, not_false_eq_true, pj_up_up, pj_up_ap, pj_upd_ap, pj_a3_0, pj_a3_1, pj_a3_2, pj_a3_u0, pj_a3_u1, pj_a3_u2, pj_long_i, pj_long_r, pj_long_n]
      exact e
  obtain ⟨x', y', K2, j, m, e⟩ := A (nI (lw_up z 6))
  refine ⟨x', y', K2, j, m, ?_⟩
  simp (disch := first | assumption | exact pj_long_i | exact pj_long_r | exact pj_long_n | decide) only [x41_44, x41_46, simprocAttr, pj_then_s, pj_pv_s, pj_pi_s, pj_set_s, if_true, if_false, not_true_eq_false, not_false_eq_true, pj_up_up, pj_up_ap, pj_upd_ap, pj_a3_0, pj_a3_1, pj_a3_2, pj_a3_u0, pj_a3_u1, pj_a3_u2]
  refine e41_48 rfl (c_up (d := 6) rfl (by decide) (by decide)) ?_
  simp (disch := first | assumption | exact pj_long_i | exact pj_long_r | exact pj_long_n | decide) only [x41_51, simprocAttr, pj_then_s, pj_pv_s, pj_pi_s, pj_set_s, if_true, if_false, not_true_eq_false, not_false_eq_true, pj_up_up, pj_up_ap, pj_upd_ap, pj_a3_0, pj_a3_1, pj_a3_2, pj_a3_u0, pj_a3_u1, pj_a3_u2, pj_long_i, pj_long_r, pj_long_n]
  exact e
theorem s_1 (hN : 109 ≤ N) (hn : n ≤ 999) (hJ : lw_J b n x y) (hM : lw_M Ln xs K x y) : ∃ x' y' K', lw_J b (n + 1) x' y' ∧ lw_M Ln xs K' x' y' ∧ pj_Ends 41 (132, [some (.ref 4), some (.ref 109), some (.int eb), some (.int v), some (.int z), none, none], [], (N, S, K)) (some (.int 1), (N, S, K')) := by
  by_cases c : nI (lw_up (z >>> ((2 : Int32) &&& 31)) 2) = 0
  · obtain ⟨q1, q2⟩ := J_bar (a := nI (lw_up z 3)) (v := 1) (Or.inr rfl) (by omega) hJ
    obtain ⟨K1, m1, e1⟩ := o_bar (N := N) (S := S) (a := nI (lw_up z 3)) (w := 1) (Or.inr rfl) hJ.1 hM
    obtain ⟨K2, m2, e2⟩ := p_bar (N := N) (S := S) (a := nI (lw_up z 3)) (w := 1) (Or.inr rfl) hN hJ.2.1 m1
    rw [q1] at e2
    refine ⟨_, _, K2, q2.mono (by omega), m2, ?_⟩
    generalize (op_bar x (nI (lw_up z 3)) 1).2 = r at e1 e2
    simp (disch := first | assumption | exact pj_long_i | exact pj_long_r | exact pj_long_n | decide) only [x41_132, x41_133, x41_135, simprocAttr, pj_then_s, pj_pv_s, pj_pi_s, pj_set_s, if_true, if_false, not_true_eq_false, not_false_eq_true, pj_up_up, pj_up_ap, pj_upd_ap, pj_a3_0, pj_a3_1, pj_a3_2, pj_a3_u0, pj_a3_u1, pj_a3_u2]
    refine e41_136 rfl (c_up (d := 3) rfl (by decide) (by decide)) ?_
    simp (disch := first | assumption | exact pj_long_i | exact pj_long_r | exact pj_long_n | decide) only [x41_139, x41_141, x41_142, x41_143, simprocAttr, pj_then_s, pj_pv_s, pj_pi_s, pj_set_s, if_true, if_false, not_true_eq_false, not_false_eq_true, pj_up_up, pj_up_ap, pj_upd_ap, pj_a3_0, pj_a3_1, pj_a3_2, pj_a3_u0, pj_a3_u1, pj_a3_u2]
    refine e41_144 rfl (c_up (d := 2) rfl (by decide) (by decide)) ?_
    simp (disch := first | assumption | exact pj_long_i | exact pj_long_r | exact pj_long_n | decide) only [x41_147, x41_150, x41_151, x41_154, simprocAttr, pj_then_s, pj_pv_s, pj_pi_s, pj_set_s, if_true, if_false, not_true_eq_false, not_false_eq_true, pj_up_up, pj_up_ap, pj_upd_ap, pj_a3_0, pj_a3_1, pj_a3_2, pj_a3_u0, pj_a3_u1, pj_a3_u2, c]
    refine e41_155 rfl hM.u4 e1 ?_
    simp (disch := first | assumption | exact pj_long_i | exact pj_long_r | exact pj_long_n | decide) only [x41_158, x41_159, x41_161, simprocAttr, pj_then_s, pj_pv_s, pj_pi_s, pj_set_s, if_true, if_false, not_true_eq_false, not_false_eq_true, pj_up_up, pj_up_ap, pj_upd_ap, pj_a3_0, pj_a3_1, pj_a3_2, pj_a3_u0, pj_a3_u1, pj_a3_u2]
    refine e41_162 rfl (c_up (d := 3) rfl (by decide) (by decide)) ?_
    simp (disch := first | assumption | exact pj_long_i | exact pj_long_r | exact pj_long_n | decide) only [x41_165, x41_167, x41_168, x41_169, simprocAttr, pj_then_s, pj_pv_s, pj_pi_s, pj_set_s, if_true, if_false, not_true_eq_false, not_false_eq_true, pj_up_up, pj_up_ap, pj_upd_ap, pj_a3_0, pj_a3_1, pj_a3_2, pj_a3_u0, pj_a3_u1, pj_a3_u2]
    refine e41_170 rfl (c_up (d := 2) rfl (by decide) (by decide)) ?_
    simp (disch := first | assumption | exact pj_long_i | exact pj_long_r | exact pj_long_n | decide) only [x41_173, x41_176, x41_177, x41_180, simprocAttr, pj_then_s, pj_pv_s, pj_pi_s, pj_set_s, if_true, if_false, not_true_eq_false, not_false_eq_true, pj_up_up, pj_up_ap, pj_upd_ap, pj_a3_0, pj_a3_1, pj_a3_2, pj_a3_u0, pj_a3_u1, pj_a3_u2, c]
    refine e41_181 rfl m1.u109 e2 ?_
    simp (disch := first | assumption | exact pj_long_i | exact pj_long_r | exact pj_long_n | decide) only [x41_184, x41_187, x41_188, x41_191, simprocAttr, pj_then_s, pj_pv_s, pj_pi_s, pj_set_s, if_true, if_false, not_true_eq_false, not_false_eq_true, pj_up_up, pj_up_ap, pj_upd_ap, pj_a3_0, pj_a3_1, pj_a3_2, pj_a3_u0, pj_a3_u1, pj_a3_u2]
    exact t41_192 (Or.inr rfl)
  · obtain ⟨q1, q2⟩ := J_bar (a := nI (lw_up z 3)) (v := 0) (Or.inl rfl) (by omega) hJ
    obtain ⟨K1, m1, e1⟩ := o_bar (N := N) (S := S) (a := nI (lw_up z 3)) (w := 0) (Or.inl rfl) hJ.1 hM
    obtain ⟨K2, m2, e2⟩ := p_bar (N := N) (S := S) (a := nI (lw_up z 3)) (w := 0) (Or.inl rfl) hN hJ.2.1 m1
    rw [q1] at e2
    refine ⟨_, _, K2, q2.mono (by omega), m2, ?_⟩
    generalize (op_bar x (nI (lw_up z 3)) 0).2 = r at e1 e2
    simp (disch := first | assumption | exact pj_long_i | exact pj_long_r | exact pj_long_n | decide) only [x41_132, x41_133, x41_135, simprocAttr, pj_then_s, pj_pv_s, pj_pi_s, pj_set_s, if_true, if_false, not_true_eq_false, not_false_eq_true, pj_up_up, pj_up_ap, pj_upd_ap, pj_a3_0, pj_a3_1, pj_a3_2, pj_a3_u0, pj_a3_u1, pj_a3_u2]
    refine e41_136 rfl (c_up (d := 3) rfl (by decide) (by decide)) ?_
    simp (disch := first | assumption | exact pj_long_i | exact pj_long_r | exact pj_long_n | decide) only [x41_139, x41_141, x41_142, x41_143, simprocAttr, pj_then_s, pj_pv_s, pj_pi_s, pj_set_s, if_true, if_false, not_true_eq_false, not_false_eq_true, pj_up_up, pj_up_ap, pj_upd_ap, pj_a3_0, pj_a3_1, pj_a3_2, pj_a3_u0, pj_a3_u1, pj_a3_u2]
    refine e41_144 rfl (c_up (d := 2) rfl (by decide) (by decide)) ?_
    simp (disch := first | assumption | exact pj_long_i | exact pj_long_r | exact pj_long_n | decide) only [x41_147, x41_150, x41_151, x41_154, simprocAttr, pj_then_s, pj_pv_s, pj_pi_s, pj_set_s, if_true, if_false, not_true_eq_false, not_false_eq_true, pj_up_up, pj_up_ap, pj_upd_ap, pj_a3_0, pj_a3_1, pj_a3_2, pj_a3_u0, pj_a3_u1, pj_a3_u2, c]
    refine e41_155 rfl hM.u4 e1 ?_
    simp (disch := first | assumption | exact pj_long_i | exact pj_long_r | exact pj_long_n | decide) only [x41_158, x41_159, x41_161, simprocAttr, pj_then_s, pj_pv_s, pj_pi_s, pj_set_s, if_true, if_false, not_true_eq_false, not_false_eq_true, pj_up_up, pj_up_ap, pj_upd_ap, pj_a3_0, pj_a3_1, pj_a3_2, pj_a3_u0, pj_a3_u1, pj_a3_u2]
    refine e41_162 rfl (c_up (d := 3) rfl (by decide) (by decide)) ?_
    simp (disch := first | assumption | exact pj_long_i | exact pj_long_r | exact pj_long_n | decide) only [x41_165, x41_167, x41_168, x41_169, simprocAttr, pj_then_s, pj_pv_s, pj_pi_s, pj_set_s, if_true, if_false, not_true_eq_false, not_false_eq_true, pj_up_up, pj_up_ap, pj_upd_ap, pj_a3_0, pj_a3_1, pj_a3_2, pj_a3_u0, pj_a3_u1, pj_a3_u2]
    refine e41_170 rfl (c_up (d := 2) rfl (by decide) (by decide)) ?_
    simp (disch := first | assumption | exact pj_long_i | exact pj_long_r | exact pj_long_n | decide) only [x41_173, x41_176, x41_177, x41_180, simprocAttr, pj_then_s, pj_pv_s, pj_pi_s, pj_set_s, if_true, if_false, not_true_eq_false, not_false_eq_true, pj_up_up, pj_up_ap, pj_upd_ap, pj_a3_0, pj_a3_1, pj_a3_2, pj_a3_u0, pj_a3_u1, pj_a3_u2, c]
    refine e41_181 rfl m1.u109 e2 ?_
    simp (disch := first | assumption | exact pj_long_i | exact pj_long_r | exact pj_long_n | decide) only [x41_184, x41_187, x41_188, x41_191, simprocAttr, pj_then_s, pj_pv_s, pj_pi_s, pj_set_s, if_true, if_false, not_true_eq_false, not_false_eq_true, pj_up_up, pj_up_ap, pj_upd_ap, pj_a3_0, pj_a3_1, pj_a3_2, pj_a3_u0, pj_a3_u1, pj_a3_u2]
    exact t41_192 (Or.inr rfl)
theorem s_2 (hb : eb = nI b) (b6 : b < 6) (hN : 109 ≤ N) (hn : n ≤ 999) (hJ : lw_J b n x y) (hM : lw_M Ln xs K x y) : ∃ x' y' K', lw_J b (n + 1) x' y' ∧ lw_M Ln xs K' x' y' ∧ pj_Ends 41 (193, [some (.ref 4), some (.ref 109), some (.int eb), some (.int v), some (.int z), none, none], [], (N, S, K)) (some (.int 1), (N, S, K')) := by
  have k3 : lw_up z 3 < 3 := lw_up_lt (by decide)
  obtain ⟨q1, q2⟩ := J_test b6 k3 (by omega) hJ
  obtain ⟨K1, m1, e1⟩ := o_test (N := N) (S := S) (a := nI (lw_up z 3)) hJ.1 hM
  obtain ⟨K2, m2, e2⟩ := p_test (N := N) (S := S) (a := nI (lw_th b (lw_up z 3))) hN hJ.2.1 m1
  rw [q1] at e2
  refine ⟨_, _, K2, q2.mono (by omega), m2, ?_⟩
  generalize (op_test x (nI (lw_up z 3))).2 = r at e1 e2
  simp (disch := first | assumption | exact pj_long_i | exact pj_long_r | exact pj_long_n | decide) only [x41_193, x41_194, x41_196, simprocAttr, pj_then_s, pj_pv_s, pj_pi_s, pj_set_s, if_true, if_false, not_true_eq_false, not_false_eq_true, pj_up_up, pj_up_ap, pj_upd_ap, pj_a3_0, pj_a3_1, pj_a3_2, pj_a3_u0, pj_a3_u1, pj_a3_u2]
  refine e41_197 rfl (c_up (d := 3) rfl (by decide) (by decide)) ?_
  refine e41_200 rfl hM.u4 e1 ?_
  simp (disch := first | assumption | exact pj_long_i | exact pj_long_r | exact pj_long_n | decide) only [x41_203, x41_204, x41_205, x41_207, simprocAttr, pj_then_s, pj_pv_s, pj_pi_s, pj_set_s, if_true, if_false, not_true_eq_false, not_false_eq_true, pj_up_up, pj_up_ap, pj_upd_ap, pj_a3_0, pj_a3_1, pj_a3_2, pj_a3_u0, pj_a3_u1, pj_a3_u2]
  refine e41_208 rfl (c_up (d := 3) rfl (by decide) (by decide)) ?_
  refine e41_211 rfl (c_there hb rfl b6 k3) ?_
  refine e41_214 rfl m1.u109 e2 ?_
  simp (disch := first | assumption | exact pj_long_i | exact pj_long_r | exact pj_long_n | decide) only [x41_217, x41_220, x41_221, x41_224, simprocAttr, pj_then_s, pj_pv_s, pj_pi_s, pj_set_s, if_true, if_false, not_true_eq_false, not_false_eq_true, pj_up_up, pj_up_ap, pj_upd_ap, pj_a3_0, pj_a3_1, pj_a3_2, pj_a3_u0, pj_a3_u1, pj_a3_u2]
  exact t41_225 (Or.inr rfl)
theorem s_3 (hN : 109 ≤ N) (hn : n ≤ 999) (hJ : lw_J b n x y) (hM : lw_M Ln xs K x y) : ∃ x' y' K', lw_J b (n + 1) x' y' ∧ lw_M Ln xs K' x' y' ∧ pj_Ends 41 (226, [some (.ref 4), some (.ref 109), some (.int eb), some (.int v), some (.int z), none, none], [], (N, S, K)) (some (.int 1), (N, S, K')) := by
  by_cases c : 0 < nI (lw_up z 3)
  · refine ⟨x, y, K, hJ.mono (by omega), hM, ?_⟩
    simp (disch := first | assumption | exact pj_long_i | exact pj_long_r | exact pj_long_n | decide) only [x41_226, x41_228, simprocAttr, pj_then_s, pj_pv_s, pj_pi_s, pj_set_s, if_true, if_false, not_true_eq_false, not_false_eq_true, pj_up_up, pj_up_ap, pj_upd_ap, pj_a3_0, pj_a3_1, pj_a3_2, pj_a3_u0, pj_a3_u1, pj_a3_u2]
    refine e41_229 rfl (c_up (d := 3) rfl (by decide) (by decide)) ?_
    simp (disch := first | assumption | exact pj_long_i | exact pj_long_r | exact pj_long_n | decide) only [x41_232, x41_235, x41_239, x41_243, x41_246, x41_247, x41_250, simprocAttr, pj_then_s, pj_pv_s, pj_pi_s, pj_set_s, if_true, if_false, not_true_eq_false, not_false_eq_true, pj_up_up, pj_up_ap, pj_upd_ap, pj_a3_0, pj_a3_1, pj_a3_2, pj_a3_u0, pj_a3_u1, pj_a3_u2, c]
    exact t41_251 (Or.inr rfl)
  · obtain ⟨q1, q2⟩ := J_service (by omega) hJ
    obtain ⟨K1, m1, e1⟩ := o_service (N := N) (S := S) hJ.1 hM
    obtain ⟨K2, m2, e2⟩ := p_service (N := N) (S := S) hN hJ.2.1 m1
    rw [q1] at e2
    refine ⟨_, _, K2, q2.mono (by omega), m2, ?_⟩
    generalize (op_service x).2 = r at e1 e2
    simp (disch := first | assumption | exact pj_long_i | exact pj_long_r | exact pj_long_n | decide) only [x41_226, x41_228, simprocAttr, pj_then_s, pj_pv_s, pj_pi_s, pj_set_s, if_true, if_false, not_true_eq_false, not_false_eq_true, pj_up_up, pj_up_ap, pj_upd_ap, pj_a3_0, pj_a3_1, pj_a3_2, pj_a3_u0, pj_a3_u1, pj_a3_u2]
    refine e41_229 rfl (c_up (d := 3) rfl (by decide) (by decide)) ?_
    simp (disch := first | assumption | exact pj_long_i | exact pj_long_r | exact pj_long_n | decide) only [x41_232, x41_235, simprocAttr, pj_then_s, pj_pv_s, pj_pi_s, pj_set_s, if_true, if_false, not_true_eq_false, not_false_eq_true, pj_up_up, pj_up_ap, pj_upd_ap, pj_a3_0, pj_a3_1, pj_a3_2, pj_a3_u0, pj_a3_u1, pj_a3_u2, c]
    refine e41_236 rfl hM.u4 e1 ?_
    simp (disch := first | assumption | exact pj_long_i | exact pj_long_r | exact pj_long_n | decide) only [x41_239, simprocAttr, pj_then_s, pj_pv_s, pj_pi_s, pj_set_s, if_true, if_false, not_true_eq_false, not_false_eq_true, pj_up_up, pj_up_ap, pj_upd_ap, pj_a3_0, pj_a3_1, pj_a3_2, pj_a3_u0, pj_a3_u1, pj_a3_u2]
    refine e41_240 rfl m1.u109 e2 ?_
    simp (disch := first | assumption | exact pj_long_i | exact pj_long_r | exact pj_long_n | decide) only [x41_243, x41_246, x41_247, x41_250, simprocAttr, pj_then_s, pj_pv_s, pj_pi_s, pj_set_s, if_true, if_false, not_true_eq_false, not_false_eq_true, pj_up_up, pj_up_ap, pj_upd_ap, pj_a3_0, pj_a3_1, pj_a3_2, pj_a3_u0, pj_a3_u1, pj_a3_u2]
    exact t41_251 (Or.inr rfl)
theorem s_4 (hN : 109 ≤ N) (hn : n ≤ 999) (hJ : lw_J b n x y) (hM : lw_M Ln xs K x y) : ∃ x' y' K', lw_J b (n + 1) x' y' ∧ lw_M Ln xs K' x' y' ∧ pj_Ends 41 (252, [some (.ref 4), some (.ref 109), some (.int eb), some (.int v), some (.int z), none, none], [], (N, S, K)) (some (.int 1), (N, S, K')) := by
  obtain ⟨K0, m0, e0⟩ := o_count (N := N) (S := S) (w := 15) hJ.1 hM
  by_cases c : op_count x 15 = 0
  · refine ⟨x, y, K0, hJ.mono (by omega), m0, ?_⟩
    simp (disch := first | assumption | exact pj_long_i | exact pj_long_r | exact pj_long_n | decide) only [x41_252, x41_253, simprocAttr, pj_then_s, pj_pv_s, pj_pi_s, pj_set_s, if_true, if_false, not_true_eq_false, not_false_eq_true, pj_up_up, pj_up_ap, pj_upd_ap, pj_a3_0, pj_a3_1, pj_a3_2, pj_a3_u0, pj_a3_u1, pj_a3_u2]
    refine e41_255 rfl hM.u4 e0 ?_
    simp (disch := first | assumption | exact pj_long_i | exact pj_long_r | exact pj_long_n | decide) only [x41_258, x41_261, x41_265, x41_269, x41_272, x41_273, x41_276, simprocAttr, pj_then_s, pj_pv_s, pj_pi_s, pj_set_s, if_true, if_false, not_true_eq_false, not_false_eq_true, pj_up_up, pj_up_ap, pj_upd_ap, pj_a3_0, pj_a3_1, pj_a3_2, pj_a3_u0, pj_a3_u1, pj_a3_u2, c]
    exact t41_277 (Or.inr rfl)
  · obtain ⟨q1, q2⟩ := J_undo hJ
    obtain ⟨K1, m1, e1⟩ := o_undo (N := N) (S := S) hJ.1 m0
    obtain ⟨K2, m2, e2⟩ := p_undo (N := N) (S := S) hN hJ.2.1 m1
    rw [q1] at e2
    refine ⟨_, _, K2, q2.mono (by omega), m2, ?_⟩
    generalize (op_undo x).2 = r at e1 e2
    generalize op_count x 15 = r2 at e0 c
    simp (disch := first | assumption | exact pj_long_i | exact pj_long_r | exact pj_long_n | decide) only [x41_252, x41_253, simprocAttr, pj_then_s, pj_pv_s, pj_pi_s, pj_set_s, if_true, if_false, not_true_eq_false, not_false_eq_true, pj_up_up, pj_up_ap, pj_upd_ap, pj_a3_0, pj_a3_1, pj_a3_2, pj_a3_u0, pj_a3_u1, pj_a3_u2]
    refine e41_255 rfl hM.u4 e0 ?_
    simp (disch := first | assumption | exact pj_long_i | exact pj_long_r | exact pj_long_n | decide) only [x41_258, x41_261, simprocAttr, pj_then_s, pj_pv_s, pj_pi_s, pj_set_s, if_true, if_false, not_true_eq_false, not_false_eq_true, pj_up_up, pj_up_ap, pj_upd_ap, pj_a3_0, pj_a3_1, pj_a3_2, pj_a3_u0, pj_a3_u1, pj_a3_u2, c]
    refine e41_262 rfl m0.u4 e1 ?_
    simp (disch := first | assumption | exact pj_long_i | exact pj_long_r | exact pj_long_n | decide) only [x41_265, simprocAttr, pj_then_s, pj_pv_s, pj_pi_s, pj_set_s, if_true, if_false, not_true_eq_false, not_false_eq_true, pj_up_up, pj_up_ap, pj_upd_ap, pj_a3_0, pj_a3_1, pj_a3_2, pj_a3_u0, pj_a3_u1, pj_a3_u2]
    refine e41_266 rfl m1.u109 e2 ?_
    simp (disch := first | assumption | exact pj_long_i | exact pj_long_r | exact pj_long_n | decide) only [x41_269, x41_272, x41_273, x41_276, simprocAttr, pj_then_s, pj_pv_s, pj_pi_s, pj_set_s, if_true, if_false, not_true_eq_false, not_false_eq_true, pj_up_up, pj_up_ap, pj_upd_ap, pj_a3_0, pj_a3_1, pj_a3_2, pj_a3_u0, pj_a3_u1, pj_a3_u2]
    exact t41_277 (Or.inr rfl)
theorem s_5 (hb : eb = nI b) (b6 : b < 6) (hN : 109 ≤ N) (hn : n ≤ 999) (hJ : lw_J b n x y) (hM : lw_M Ln xs K x y) : ∃ x' y' K', lw_J b (n + 1) x' y' ∧ lw_M Ln xs K' x' y' ∧ pj_Ends 41 (278, [some (.ref 4), some (.ref 109), some (.int eb), some (.int v), some (.int z), none, none], [], (N, S, K)) (some (.int 1), (N, S, K')) := by
  obtain ⟨x', y', K2, j, m, e⟩ := c_isTick (S := S) (v := z) hb b6 hN hn hJ hM
  refine ⟨x', y', K2, j, m, ?_⟩
  simp (disch := first | assumption | exact pj_long_i | exact pj_long_r | exact pj_long_n | decide) only [x41_278, x41_279, x41_280, x41_281, simprocAttr, pj_then_s, pj_pv_s, pj_pi_s, pj_set_s, if_true, if_false, not_true_eq_false, not_false_eq_true, pj_up_up, pj_up_ap, pj_upd_ap, pj_a3_0, pj_a3_1, pj_a3_2, pj_a3_u0, pj_a3_u1, pj_a3_u2]
  refine e41_283 rfl e ?_
  exact t41_286 (Or.inr rfl)
theorem c_isStep (hb : eb = nI b) (b6 : b < 6) (hN : 109 ≤ N) (hn : n ≤ 999) (hJ : lw_J b n x y) (hM : lw_M Ln xs K x y) : ∃ x' y' K', lw_J b (n + 1) x' y' ∧ lw_M Ln xs K' x' y' ∧ pj_Ends 41 (0, [some (.ref 4), some (.ref 109), some (.int eb), some (.int v), none, none, none], [], (N, S, K)) (some (.int 1), (N, S, K')) := by
  have A : ∀ u z : Int32, ∃ x' y' K', lw_J b (n + 1) x' y' ∧ lw_M Ln xs K' x' y' ∧ pj_Ends 41 (11, [some (.ref 4), some (.ref 109), some (.int eb), some (.int v), some (.int z), none, none], [.int u], (N, S, K)) (some (.int 1), (N, S, K')) := by
    intro u z
    by_cases c0 : u = 0
    · obtain ⟨x', y', K2, j, m, e⟩ := s_0 (S := S) (eb := eb) (v := v) (z := z) hN hn hJ hM
      refine ⟨x', y', K2, j, m, ?_⟩
      simp (disch := first | assumption | exact pj_long_i | exact pj_long_r | exact pj_long_n | decide) only [x41_11, simprocAttr, pj_then_s, pj_pv_s, pj_pi_s, pj_set_s, if_true, if_false, not_true_eq_false, not_false_eq_true, pj_up_up, pj_up_ap, pj_upd_ap, pj_a3_0, pj_a3_1, pj_a3_2, pj_a3_u0, pj_a3_u1, pj_a3_u2, c0]
      exact e
    by_cases c1 : u = 1
    · obtain ⟨x', y', K2, j, m, e⟩ := s_1 (S := S) (eb := eb) (v := v) (z := z) hN hn hJ hM
      refine ⟨x', y', K2, j, m, ?_⟩
      simp (disch := first | assumption | exact pj_long_i | exact pj_long_r | exact pj_long_n | decide) only [x41_11, simprocAttr, pj_then_s, pj_pv_s, pj_pi_s, pj_set_s, if_true, if_false, not_true_eq_false, not_false_eq_true, pj_up_up, pj_up_ap, pj_upd_ap, pj_a3_0, pj_a3_1, pj_a3_2, pj_a3_u0, pj_a3_u1, pj_a3_u2, c1]
      exact e
    by_cases c2 : u = 2
    · obtain ⟨x', y', K2, j, m, e⟩ := s_2 (S := S) (eb := eb) (v := v) (z := z) hb b6 hN hn hJ hM
      refine ⟨x', y', K2, j, m, ?_⟩
      simp (disch := first | assumption | exact pj_long_i | exact pj_long_r | exact pj_long_n | decide) only [x41_11, simprocAttr, pj_then_s, pj_pv_s, pj_pi_s, pj_set_s, if_true, if_false, not_true_eq_false, not_false_eq_true, pj_up_up, pj_up_ap, pj_upd_ap, pj_a3_0, pj_a3_1, pj_a3_2, pj_a3_u0, pj_a3_u1, pj_a3_u2, c2]
      exact e
    by_cases c3 : u = 3
    · obtain ⟨x', y', K2, j, m, e⟩ := s_3 (S := S) (eb := eb) (v := v) (z := z) hN hn hJ hM
      refine ⟨x', y', K2, j, m, ?_⟩
      simp (disch := first | assumption | exact pj_long_i | exact pj_long_r | exact pj_long_n | decide) only [x41_11, simprocAttr, pj_then_s, pj_pv_s, pj_pi_s, pj_set_s, if_true, if_false, not_true_eq_false, not_false_eq_true, pj_up_up, pj_up_ap, pj_upd_ap, pj_a3_0, pj_a3_1, pj_a3_2, pj_a3_u0, pj_a3_u1, pj_a3_u2, c3]
      exact e
    by_cases c4 : u = 4
    · obtain ⟨x', y', K2, j, m, e⟩ := s_4 (S := S) (eb := eb) (v := v) (z := z) hN hn hJ hM
      refine ⟨x', y', K2, j, m, ?_⟩
      simp (disch := first | assumption | exact pj_long_i | exact pj_long_r | exact pj_long_n | decide) only [x41_11, simprocAttr, pj_then_s, pj_pv_s, pj_pi_s, pj_set_s, if_true, if_false, not_true_eq_false, not_false_eq_true, pj_up_up, pj_up_ap, pj_upd_ap, pj_a3_0, pj_a3_1, pj_a3_2, pj_a3_u0, pj_a3_u1, pj_a3_u2, c4]
      exact e
    · obtain ⟨x', y', K2, j, m, e⟩ := s_5 (S := S) (eb := eb) (v := v) (z := z) hb b6 hN hn hJ hM
      refine ⟨x', y', K2, j, m, ?_⟩
      simp (disch := first | assumption | exact pj_long_i | exact pj_long_r | exact pj_long_n | decide) only [x41_11, simprocAttr, pj_then_s, pj_pv_s, pj_pi_s, pj_set_s, if_true, if_false, not_true_eq_false, not_false_eq_true, pj_up_up, pj_up_ap, pj_upd_ap, pj_a3_0, pj_a3_1, pj_a3_2, pj_a3_u0, pj_a3_u1, pj_a3_u2, c0, c1, c2, c3, c4]
      exact e
  obtain ⟨x', y', K2, j, m, e⟩ := A (nI (lw_up v 18)) (v >>> ((4 : Int32) &&& 31))
  refine ⟨x', y', K2, j, m, ?_⟩
  simp (disch := first | assumption | exact pj_long_i | exact pj_long_r | exact pj_long_n | decide) only [x41_0, x41_1, x41_2, x41_3, x41_5, x41_6, simprocAttr, pj_then_s, pj_pv_s, pj_pi_s, pj_set_s, if_true, if_false, not_true_eq_false, not_false_eq_true, pj_up_up, pj_up_ap, pj_upd_ap, pj_a3_0, pj_a3_1, pj_a3_2, pj_a3_u0, pj_a3_u1, pj_a3_u2, pj_long_i, pj_long_r, pj_long_n]
  refine e41_8 rfl (c_up (d := 18) rfl (by decide) (by decide)) ?_
  exact e
end T98
