/-! THE LAW OF BOTH: areAlike -/
section T99
variable {Ln N S b n : Nat} {xs : Nat → Int32} {K : pj_Heap} {x y : pj_Sg} {eb v w w2 ek : Int32} {zz : Option Value}
theorem a_votes (hb : eb = nI b) (b6 : b < 6) (hN : 109 ≤ N) (hJ : lw_J b n x y) (hM : lw_M Ln xs K x y) : ∃ K', lw_M Ln xs K' x y ∧ ∀ o, pj_Ends 57 (37, [some (.ref 4), some (.ref 109), some (.int eb), some (.int v), some (.int 1), some (.int 0), none], [], (N, S, K')) o → pj_Ends 57 (0, [some (.ref 4), some (.ref 109), some (.int eb), some (.int v), none, none, none], [], (N, S, K)) o := by
  obtain ⟨v1, v2⟩ := J_votes b6 hJ
  obtain ⟨K1, m1, e1⟩ := o_count (N := N) (S := S) (w := 2) hJ.1 hM
  obtain ⟨K2, m2, e2⟩ := p_count (N := N) (S := S) (w := 2) hN hJ.2.1 m1
  obtain ⟨K3, m3, e3⟩ := o_count (N := N) (S := S) (w := 2) hJ.1 m2
  have v1' : ¬ 8 ≤ op_count x 2 := Int32.not_le.mpr v1
  rw [v2] at e2
  refine ⟨K3, m3, fun o h => ?_⟩
  generalize op_count x 2 = r at v1 v1' e1 e2 e3
  simp (disch := first | assumption | exact pj_long_i | exact pj_long_r | exact pj_long_n | decide) only [x57_0, x57_1, simprocAttr, pj_then_s, pj_pv_s, pj_pi_s, pj_set_s, if_true, if_false, not_true_eq_false, not_false_eq_true, pj_up_up, pj_up_ap, pj_upd_ap, pj_a3_0, pj_a3_1, pj_a3_2, pj_a3_u0, pj_a3_u1, pj_a3_u2]
  refine e57_2 rfl hM.u4 e1 ?_
  simp (disch := first | assumption | exact pj_long_i | exact pj_long_r | exact pj_long_n | decide) only [x57_5, x57_7, x57_10, x57_11, simprocAttr, pj_then_s, pj_pv_s, pj_pi_s, pj_set_s, if_true, if_false, not_true_eq_false, not_false_eq_true, pj_up_up, pj_up_ap, pj_upd_ap, pj_a3_0, pj_a3_1, pj_a3_2, pj_a3_u0, pj_a3_u1, pj_a3_u2, v1, v1']
  refine e57_12 rfl m1.u109 e2 ?_
  simp (disch := first | assumption | exact pj_long_i | exact pj_long_r | exact pj_long_n | decide) only [x57_15, x57_16, x57_17, simprocAttr, pj_then_s, pj_pv_s, pj_pi_s, pj_set_s, if_true, if_false, not_true_eq_false, not_false_eq_true, pj_up_up, pj_up_ap, pj_upd_ap, pj_a3_0, pj_a3_1, pj_a3_2, pj_a3_u0, pj_a3_u1, pj_a3_u2]
  refine e57_18 rfl m2.u4 e3 ?_
  refine e57_21 rfl (c_lset hb b6) ?_
  simp (disch := first | assumption | exact pj_long_i | exact pj_long_r | exact pj_long_n | decide) only [x57_24, x57_27, x57_28, x57_31, x57_32, x57_34, x57_35, simprocAttr, pj_then_s, pj_pv_s, pj_pi_s, pj_set_s, if_true, if_false, not_true_eq_false, not_false_eq_true, pj_up_up, pj_up_ap, pj_upd_ap, pj_a3_0, pj_a3_1, pj_a3_2, pj_a3_u0, pj_a3_u1, pj_a3_u2, pj_long_i, pj_long_r, pj_long_n]
  exact h
theorem a_count (hN : 109 ≤ N) (hw : 0 ≤ w ∧ w < 14) (h1 : w + 1 = w2) (hJ : lw_J b n x y) (hM : lw_M Ln xs K x y) : ∃ K', lw_M Ln xs K' x y ∧ ∀ o, pj_Ends 57 (37, [some (.ref 4), some (.ref 109), some (.int eb), some (.int v), some (.int 1), some (.int w2), zz], [], (N, S, K')) o → pj_Ends 57 (37, [some (.ref 4), some (.ref 109), some (.int eb), some (.int v), some (.int 1), some (.int w), zz], [], (N, S, K)) o := by
  have hw' : ¬ 14 ≤ w := Int32.not_le.mpr hw.2
  by_cases c : w = 2
  · refine ⟨K, hM, fun o h => ?_⟩
    rw [x57_37]
    simp (disch := first | assumption | exact pj_long_i | exact pj_long_r | exact pj_long_n | decide) only [x57_39, x57_41, x57_44, x57_46, x57_49, x57_51, x57_52, x57_55, x57_56, x57_61, x57_62, x57_67, x57_70, x57_71, x57_74, x57_75, x57_77, x57_80, simprocAttr, pj_then_s, pj_pv_s, pj_pi_s, pj_set_s, if_true, if_false, not_true_eq_false, not_false_eq_true, pj_up_up, pj_up_ap, pj_upd_ap, pj_a3_0, pj_a3_1, pj_a3_2, pj_a3_u0, pj_a3_u1, pj_a3_u2, pj_long_i, pj_long_r, pj_long_n, hw', c]
    rw [c] at h1
    have h1' : w2 = 3 := by rw [← h1]; rfl
    rw [h1'] at h
    exact h
  · have q := J_count hJ hw c
    obtain ⟨K1, m1, e1⟩ := o_count (N := N) (S := S) (w := w) hJ.1 hM
    obtain ⟨K2, m2, e2⟩ := p_count (N := N) (S := S) (w := w) hN hJ.2.1 m1
    rw [q] at e2
    refine ⟨K2, m2, fun o h => ?_⟩
    generalize op_count x w = r at e1 e2
    rw [x57_37]
    simp (disch := first | assumption | exact pj_long_i | exact pj_long_r | exact pj_long_n | decide) only [x57_39, x57_41, x57_44, x57_46, x57_49, x57_51, x57_52, x57_55, x57_56, simprocAttr, pj_then_s, pj_pv_s, pj_pi_s, pj_set_s, if_true, if_false, not_true_eq_false, not_false_eq_true, pj_up_up, pj_up_ap, pj_upd_ap, pj_a3_0, pj_a3_1, pj_a3_2, pj_a3_u0, pj_a3_u1, pj_a3_u2, hw', c]
    refine e57_58 rfl hM.u4 e1 ?_
    simp (disch := first | assumption | exact pj_long_i | exact pj_long_r | exact pj_long_n | decide) only [x57_61, x57_62, simprocAttr, pj_then_s, pj_pv_s, pj_pi_s, pj_set_s, if_true, if_false, not_true_eq_false, not_false_eq_true, pj_up_up, pj_up_ap, pj_upd_ap, pj_a3_0, pj_a3_1, pj_a3_2, pj_a3_u0, pj_a3_u1, pj_a3_u2]
    refine e57_64 rfl m1.u109 e2 ?_
    simp (disch := first | assumption | exact pj_long_i | exact pj_long_r | exact pj_long_n | decide) only [x57_67, x57_70, x57_71, x57_74, x57_75, x57_77, x57_80, simprocAttr, pj_then_s, pj_pv_s, pj_pi_s, pj_set_s, if_true, if_false, not_true_eq_false, not_false_eq_true, pj_up_up, pj_up_ap, pj_upd_ap, pj_a3_0, pj_a3_1, pj_a3_2, pj_a3_u0, pj_a3_u1, pj_a3_u2, pj_long_i, pj_long_r, pj_long_n, h1]
    exact h
theorem a_counts (hN : 109 ≤ N) (hJ : lw_J b n x y) (hM : lw_M Ln xs K x y) : ∃ K', lw_M Ln xs K' x y ∧ ∀ o, pj_Ends 57 (86, [some (.ref 4), some (.ref 109), some (.int eb), some (.int v), some (.int 1), some (.int 0), zz], [], (N, S, K')) o → pj_Ends 57 (37, [some (.ref 4), some (.ref 109), some (.int eb), some (.int v), some (.int 1), some (.int 0), zz], [], (N, S, K)) o := by

  obtain ⟨K0, m0, t0⟩ := a_count (N := N) (S := S) (eb := eb) (v := v) (zz := zz) (w := 0) (w2 := 1) hN (by decide) (by decide) hJ hM
  obtain ⟨K1, m1, t1⟩ := a_count (N := N) (S := S) (eb := eb) (v := v) (zz := zz) (w := 1) (w2 := 2) hN (by decide) (by decide) hJ m0
  obtain ⟨K2, m2, t2⟩ := a_count (N := N) (S := S) (eb := eb) (v := v) (zz := zz) (w := 2) (w2 := 3) hN (by decide) (by decide) hJ m1
  obtain ⟨K3, m3, t3⟩ := a_count (N := N) (S := S) (eb := eb) (v := v) (zz := zz) (w := 3) (w2 := 4) hN (by decide) (by decide) hJ m2
  obtain ⟨K4, m4, t4⟩ := a_count (N := N) (S := S) (eb := eb) (v := v) (zz := zz) (w := 4) (w2 := 5) hN (by decide) (by decide) hJ m3
  obtain ⟨K5, m5, t5⟩ := a_count (N := N) (S := S) (eb := eb) (v := v) (zz := zz) (w := 5) (w2 := 6) hN (by decide) (by decide) hJ m4
  obtain ⟨K6, m6, t6⟩ := a_count (N := N) (S := S) (eb := eb) (v := v) (zz := zz) (w := 6) (w2 := 7) hN (by decide) (by decide) hJ m5
  obtain ⟨K7, m7, t7⟩ := a_count (N := N) (S := S) (eb := eb) (v := v) (zz := zz) (w := 7) (w2 := 8) hN (by decide) (by decide) hJ m6
  obtain ⟨K8, m8, t8⟩ := a_count (N := N) (S := S) (eb := eb) (v := v) (zz := zz) (w := 8) (w2 := 9) hN (by decide) (by decide) hJ m7
  obtain ⟨K9, m9, t9⟩ := a_count (N := N) (S := S) (eb := eb) (v := v) (zz := zz) (w := 9) (w2 := 10) hN (by decide) (by decide) hJ m8
  obtain ⟨K10, m10, t10⟩ := a_count (N := N) (S := S) (eb := eb) (v := v) (zz := zz) (w := 10) (w2 := 11) hN (by decide) (by decide) hJ m9
  obtain ⟨K11, m11, t11⟩ := a_count (N := N) (S := S) (eb := eb) (v := v) (zz := zz) (w := 11) (w2 := 12) hN (by decide) (by decide) hJ m10
  obtain ⟨K12, m12, t12⟩ := a_count (N := N) (S := S) (eb := eb) (v := v) (zz := zz) (w := 12) (w2 := 13) hN (by decide) (by decide) hJ m11
  obtain ⟨K13, m13, t13⟩ := a_count (N := N) (S := S) (eb := eb) (v := v) (zz := zz) (w := 13) (w2 := 14) hN (by decide) (by decide) hJ m12
  refine ⟨K13, m13, fun o h => ?_⟩
  refine t0 o ?_
  refine t1 o ?_
  refine t2 o ?_
  refine t3 o ?_
  refine t4 o ?_
  refine t5 o ?_
  refine t6 o ?_
  refine t7 o ?_
  refine t8 o ?_
  refine t9 o ?_
  refine t10 o ?_
  refine t11 o ?_
  refine t12 o ?_
  refine t13 o ?_
  simp (disch := first | assumption | exact pj_long_i | exact pj_long_r | exact pj_long_n | decide) only [x57_37, x57_39, x57_41, x57_44, x57_46, x57_49, x57_51, x57_52, x57_55, x57_56, x57_61, x57_62, x57_67, x57_70, x57_71, x57_74, x57_75, x57_77, x57_80, x57_83, x57_84, simprocAttr, pj_then_s, pj_pv_s, pj_pi_s, pj_set_s, if_true, if_false, not_true_eq_false, not_false_eq_true, pj_up_up, pj_up_ap, pj_upd_ap, pj_a3_0, pj_a3_1, pj_a3_2, pj_a3_u0, pj_a3_u1, pj_a3_u2, pj_long_i, pj_long_r, pj_long_n]
  exact h
theorem a_sensor {k : Nat} (hb : eb = nI b) (b6 : b < 6) (k3 : k < 3) (hk : ek = nI k) (hN : 109 ≤ N) (hw : ¬ 5 ≤ w) (h1 : w + 1 = w2) (hJ : lw_J b n x y) (hM : lw_M Ln xs K x y) : ∃ K', lw_M Ln xs K' x y ∧ ∀ o, pj_Ends 57 (95, [some (.ref 4), some (.ref 109), some (.int eb), some (.int v), some (.int 1), some (.int ek), some (.int w2)], [], (N, S, K')) o → pj_Ends 57 (95, [some (.ref 4), some (.ref 109), some (.int eb), some (.int v), some (.int 1), some (.int ek), some (.int w)], [], (N, S, K)) o := by
  have q := J_sensor (w := w) k3 hJ
  obtain ⟨K1, m1, e1⟩ := o_sensor (N := N) (S := S) (a := ek) (w := w) hJ.1 hM
  obtain ⟨K2, m2, e2⟩ := p_sensor (N := N) (S := S) (a := nI (lw_th b k)) (w := w) hN hJ.2.1 m1
  rw [q, ← hk] at e2
  refine ⟨K2, m2, fun o h => ?_⟩
  generalize op_sensor x.1 ek w = r at e1 e2
  rw [x57_95]
  simp (disch := first | assumption | exact pj_long_i | exact pj_long_r | exact pj_long_n | decide) only [x57_97, x57_98, x57_101, x57_103, x57_106, x57_107, x57_109, simprocAttr, pj_then_s, pj_pv_s, pj_pi_s, pj_set_s, if_true, if_false, not_true_eq_false, not_false_eq_true, pj_up_up, pj_up_ap, pj_upd_ap, pj_a3_0, pj_a3_1, pj_a3_2, pj_a3_u0, pj_a3_u1, pj_a3_u2, hw]
  refine e57_111 rfl hM.u4 e1 ?_
  simp (disch := first | assumption | exact pj_long_i | exact pj_long_r | exact pj_long_n | decide) only [x57_114, x57_115, x57_116, simprocAttr, pj_then_s, pj_pv_s, pj_pi_s, pj_set_s, if_true, if_false, not_true_eq_false, not_false_eq_true, pj_up_up, pj_up_ap, pj_upd_ap, pj_a3_0, pj_a3_1, pj_a3_2, pj_a3_u0, pj_a3_u1, pj_a3_u2]
  refine e57_118 rfl (c_there hb hk b6 k3) ?_
  simp (disch := first | assumption | exact pj_long_i | exact pj_long_r | exact pj_long_n | decide) only [x57_121, simprocAttr, pj_then_s, pj_pv_s, pj_pi_s, pj_set_s, if_true, if_false, not_true_eq_false, not_false_eq_true, pj_up_up, pj_up_ap, pj_upd_ap, pj_a3_0, pj_a3_1, pj_a3_2, pj_a3_u0, pj_a3_u1, pj_a3_u2]
  refine e57_123 rfl m1.u109 e2 ?_
  simp (disch := first | assumption | exact pj_long_i | exact pj_long_r | exact pj_long_n | decide) only [x57_126, x57_129, x57_130, x57_133, x57_134, x57_136, x57_139, simprocAttr, pj_then_s, pj_pv_s, pj_pi_s, pj_set_s, if_true, if_false, not_true_eq_false, not_false_eq_true, pj_up_up, pj_up_ap, pj_upd_ap, pj_a3_0, pj_a3_1, pj_a3_2, pj_a3_u0, pj_a3_u1, pj_a3_u2, pj_long_i, pj_long_r, pj_long_n, h1]
  exact h

theorem a_free (hJ : lw_J b n x y) (hM : lw_M Ln xs K x y) : ∃ K', lw_M Ln xs K' x y ∧ ∀ o, pj_Ends 57 (215, [some (.ref 4), some (.ref 109), some (.int eb), some (.int v), some (.int 1), some (.int ek), some (.int w)], [], (N, S, K')) o → pj_Ends 57 (181, [some (.ref 4), some (.ref 109), some (.int eb), some (.int v), some (.int 1), some (.int ek), some (.int w)], [], (N, S, K)) o := by
  obtain ⟨t, ht, hI⟩ := hJ.1.1
  have e0 : op_count x 0 = nI t := hI.2.2.1
  have c0 : ¬ op_count x 0 < 0 := by
    rw [e0]
    exact nI_pos (by omega)
  obtain ⟨K1, m1, e1⟩ := o_sensor (N := N) (S := S) (a := ek) (w := 3) hJ.1 hM
  obtain ⟨K2, m2, e2⟩ := o_count (N := N) (S := S) (w := 11) hJ.1 m1
  obtain ⟨K3, m3, e3⟩ := o_sensor (N := N) (S := S) (a := ek) (w := 2) hJ.1 m2
  obtain ⟨K4, m4, e4⟩ := o_count (N := N) (S := S) (w := 0) hJ.1 m3
  by_cases c1 : op_sensor x.1 ek 3 < op_count x 11
  · refine ⟨K2, m2, fun o h => ?_⟩
    simp (disch := first | assumption | exact pj_long_i | exact pj_long_r | exact pj_long_n | decide) only [x57_181, x57_182, x57_184, simprocAttr, pj_then_s, pj_pv_s, pj_pi_s, pj_set_s, if_true, if_false, not_true_eq_false, not_false_eq_true, pj_up_up, pj_up_ap, pj_upd_ap, pj_a3_0, pj_a3_1, pj_a3_2, pj_a3_u0, pj_a3_u1, pj_a3_u2]
    refine e57_185 rfl hM.u4 e1 ?_
    simp (disch := first | assumption | exact pj_long_i | exact pj_long_r | exact pj_long_n | decide) only [x57_188, x57_189, simprocAttr, pj_then_s, pj_pv_s, pj_pi_s, pj_set_s, if_true, if_false, not_true_eq_false, not_false_eq_true, pj_up_up, pj_up_ap, pj_upd_ap, pj_a3_0, pj_a3_1, pj_a3_2, pj_a3_u0, pj_a3_u1, pj_a3_u2]
    refine e57_191 rfl m1.u4 e2 ?_
    simp (disch := first | assumption | exact pj_long_i | exact pj_long_r | exact pj_long_n | decide) only [x57_194, simprocAttr, pj_then_s, pj_pv_s, pj_pi_s, pj_set_s, if_true, if_false, not_true_eq_false, not_false_eq_true, pj_up_up, pj_up_ap, pj_upd_ap, pj_a3_0, pj_a3_1, pj_a3_2, pj_a3_u0, pj_a3_u1, pj_a3_u2, c1]
    exact h
  · by_cases c2 : op_sensor x.1 ek 2 = 0
    · refine ⟨K3, m3, fun o h => ?_⟩
      simp (disch := first | assumption | exact pj_long_i | exact pj_long_r | exact pj_long_n | decide) only [x57_181, x57_182, x57_184, simprocAttr, pj_then_s, pj_pv_s, pj_pi_s, pj_set_s, if_true, if_false, not_true_eq_false, not_false_eq_true, pj_up_up, pj_up_ap, pj_upd_ap, pj_a3_0, pj_a3_1, pj_a3_2, pj_a3_u0, pj_a3_u1, pj_a3_u2]
      refine e57_185 rfl hM.u4 e1 ?_
      simp (disch := first | assumption | exact pj_long_i | exact pj_long_r | exact pj_long_n | decide) only [x57_188, x57_189, simprocAttr, pj_then_s, pj_pv_s, pj_pi_s, pj_set_s, if_true, if_false, not_true_eq_false, not_false_eq_true, pj_up_up, pj_up_ap, pj_upd_ap, pj_a3_0, pj_a3_1, pj_a3_2, pj_a3_u0, pj_a3_u1, pj_a3_u2]
      refine e57_191 rfl m1.u4 e2 ?_
      simp (disch := first | assumption | exact pj_long_i | exact pj_long_r | exact pj_long_n | decide) only [x57_194, x57_197, x57_198, x57_200, simprocAttr, pj_then_s, pj_pv_s, pj_pi_s, pj_set_s, if_true, if_false, not_true_eq_false, not_false_eq_true, pj_up_up, pj_up_ap, pj_upd_ap, pj_a3_0, pj_a3_1, pj_a3_2, pj_a3_u0, pj_a3_u1, pj_a3_u2, c1]
      refine e57_201 rfl m2.u4 e3 ?_
      simp (disch := first | assumption | exact pj_long_i | exact pj_long_r | exact pj_long_n | decide) only [x57_204, simprocAttr, pj_then_s, pj_pv_s, pj_pi_s, pj_set_s, if_true, if_false, not_true_eq_false, not_false_eq_true, pj_up_up, pj_up_ap, pj_upd_ap, pj_a3_0, pj_a3_1, pj_a3_2, pj_a3_u0, pj_a3_u1, pj_a3_u2, c2]
      exact h
    · refine ⟨K4, m4, fun o h => ?_⟩
      simp (disch := first | assumption | exact pj_long_i | exact pj_long_r | exact pj_long_n | decide) only [x57_181, x57_182, x57_184, simprocAttr, pj_then_s, pj_pv_s, pj_pi_s, pj_set_s, if_true, if_false, not_true_eq_false, not_false_eq_true, pj_up_up, pj_up_ap, pj_upd_ap, pj_a3_0, pj_a3_1, pj_a3_2, pj_a3_u0, pj_a3_u1, pj_a3_u2]
      refine e57_185 rfl hM.u4 e1 ?_
      simp (disch := first | assumption | exact pj_long_i | exact pj_long_r | exact pj_long_n | decide) only [x57_188, x57_189, simprocAttr, pj_then_s, pj_pv_s, pj_pi_s, pj_set_s, if_true, if_false, not_true_eq_false, not_false_eq_true, pj_up_up, pj_up_ap, pj_upd_ap, pj_a3_0, pj_a3_1, pj_a3_2, pj_a3_u0, pj_a3_u1, pj_a3_u2]
      refine e57_191 rfl m1.u4 e2 ?_
      simp (disch := first | assumption | exact pj_long_i | exact pj_long_r | exact pj_long_n | decide) only [x57_194, x57_197, x57_198, x57_200, simprocAttr, pj_then_s, pj_pv_s, pj_pi_s, pj_set_s, if_true, if_false, not_true_eq_false, not_false_eq_true, pj_up_up, pj_up_ap, pj_upd_ap, pj_a3_0, pj_a3_1, pj_a3_2, pj_a3_u0, pj_a3_u1, pj_a3_u2, c1]
      refine e57_201 rfl m2.u4 e3 ?_
      simp (disch := first | assumption | exact pj_long_i | exact pj_long_r | exact pj_long_n | decide) only [x57_204, x57_207, x57_208, simprocAttr, pj_then_s, pj_pv_s, pj_pi_s, pj_set_s, if_true, if_false, not_true_eq_false, not_false_eq_true, pj_up_up, pj_up_ap, pj_upd_ap, pj_a3_0, pj_a3_1, pj_a3_2, pj_a3_u0, pj_a3_u1, pj_a3_u2, c2]
      refine e57_209 rfl m3.u4 e4 ?_
      simp (disch := first | assumption | exact pj_long_i | exact pj_long_r | exact pj_long_n | decide) only [x57_212, simprocAttr, pj_then_s, pj_pv_s, pj_pi_s, pj_set_s, if_true, if_false, not_true_eq_false, not_false_eq_true, pj_up_up, pj_up_ap, pj_upd_ap, pj_a3_0, pj_a3_1, pj_a3_2, pj_a3_u0, pj_a3_u1, pj_a3_u2, c0]
      exact h
theorem a_stage {e2 : Int32} (hN : 109 ≤ N) (h1 : ek + 1 = e2) (hJ : lw_J b n x y) (hM : lw_M Ln xs K x y) : ∃ K', lw_M Ln xs K' x y ∧ ∀ o, pj_Ends 57 (86, [some (.ref 4), some (.ref 109), some (.int eb), some (.int v), some (.int 1), some (.int e2), some (.int w)], [], (N, S, K')) o → pj_Ends 57 (142, [some (.ref 4), some (.ref 109), some (.int eb), some (.int v), some (.int 1), some (.int ek), some (.int w)], [], (N, S, K)) o := by
  have q0 := J_stage (a := ek) (w := 0) hJ
  have q1 := J_stage (a := ek) (w := 1) hJ
  obtain ⟨K1, m1, e1⟩ := o_stage (N := N) (S := S) (a := ek) (w := 0) hJ.1 hM
  obtain ⟨K2, m2, e2⟩ := p_stage (N := N) (S := S) (a := ek) (w := 0) hN hJ.2.1 m1
  obtain ⟨K3, m3, e3⟩ := o_stage (N := N) (S := S) (a := ek) (w := 1) hJ.1 m2
  obtain ⟨K4, m4, e4⟩ := p_stage (N := N) (S := S) (a := ek) (w := 1) hN hJ.2.1 m3
  obtain ⟨K5, m5, t5⟩ := a_free (N := N) (S := S) (eb := eb) (v := v) (ek := ek) (w := w) hJ m4
  rw [q0] at e2
  rw [q1] at e4
  refine ⟨K5, m5, fun o h => ?_⟩
  generalize op_stage x.1 ek 0 = r0 at e1 e2
  generalize op_stage x.1 ek 1 = r1 at e3 e4
  simp (disch := first | assumption | exact pj_long_i | exact pj_long_r | exact pj_long_n | decide) only [x57_142, x57_144, x57_147, x57_148, x57_150, simprocAttr, pj_then_s, pj_pv_s, pj_pi_s, pj_set_s, if_true, if_false, not_true_eq_false, not_false_eq_true, pj_up_up, pj_up_ap, pj_upd_ap, pj_a3_0, pj_a3_1, pj_a3_2, pj_a3_u0, pj_a3_u1, pj_a3_u2]
  refine e57_151 rfl hM.u4 e1 ?_
  simp (disch := first | assumption | exact pj_long_i | exact pj_long_r | exact pj_long_n | decide) only [x57_154, x57_155, x57_157, simprocAttr, pj_then_s, pj_pv_s, pj_pi_s, pj_set_s, if_true, if_false, not_true_eq_false, not_false_eq_true, pj_up_up, pj_up_ap, pj_upd_ap, pj_a3_0, pj_a3_1, pj_a3_2, pj_a3_u0, pj_a3_u1, pj_a3_u2]
  refine e57_158 rfl m1.u109 e2 ?_
  simp (disch := first | assumption | exact pj_long_i | exact pj_long_r | exact pj_long_n | decide) only [x57_161, x57_164, x57_165, x57_167, simprocAttr, pj_then_s, pj_pv_s, pj_pi_s, pj_set_s, if_true, if_false, not_true_eq_false, not_false_eq_true, pj_up_up, pj_up_ap, pj_upd_ap, pj_a3_0, pj_a3_1, pj_a3_2, pj_a3_u0, pj_a3_u1, pj_a3_u2]
  refine e57_168 rfl m2.u4 e3 ?_
  simp (disch := first | assumption | exact pj_long_i | exact pj_long_r | exact pj_long_n | decide) only [x57_171, x57_172, x57_174, simprocAttr, pj_then_s, pj_pv_s, pj_pi_s, pj_set_s, if_true, if_false, not_true_eq_false, not_false_eq_true, pj_up_up, pj_up_ap, pj_upd_ap, pj_a3_0, pj_a3_1, pj_a3_2, pj_a3_u0, pj_a3_u1, pj_a3_u2]
  refine e57_175 rfl m3.u109 e4 ?_
  simp (disch := first | assumption | exact pj_long_i | exact pj_long_r | exact pj_long_n | decide) only [x57_178, simprocAttr, pj_then_s, pj_pv_s, pj_pi_s, pj_set_s, if_true, if_false, not_true_eq_false, not_false_eq_true, pj_up_up, pj_up_ap, pj_upd_ap, pj_a3_0, pj_a3_1, pj_a3_2, pj_a3_u0, pj_a3_u1, pj_a3_u2]
  refine t5 o ?_
  simp (disch := first | assumption | exact pj_long_i | exact pj_long_r | exact pj_long_n | decide) only [x57_215, x57_216, x57_219, x57_220, x57_222, x57_225, simprocAttr, pj_then_s, pj_pv_s, pj_pi_s, pj_set_s, if_true, if_false, not_true_eq_false, not_false_eq_true, pj_up_up, pj_up_ap, pj_upd_ap, pj_a3_0, pj_a3_1, pj_a3_2, pj_a3_u0, pj_a3_u1, pj_a3_u2, pj_long_i, pj_long_r, pj_long_n, h1]
  exact h
theorem a_one {k : Nat} {e2 : Int32} (hb : eb = nI b) (b6 : b < 6) (k3 : k < 3) (hk : ek = nI k) (hk3 : ¬ 3 ≤ ek) (h1 : ek + 1 = e2) (hN : 109 ≤ N) (hJ : lw_J b n x y) (hM : lw_M Ln xs K x y) : ∃ K', lw_M Ln xs K' x y ∧ ∀ o, pj_Ends 57 (86, [some (.ref 4), some (.ref 109), some (.int eb), some (.int v), some (.int 1), some (.int e2), some (.int 5)], [], (N, S, K')) o → pj_Ends 57 (86, [some (.ref 4), some (.ref 109), some (.int eb), some (.int v), some (.int 1), some (.int ek), zz], [], (N, S, K)) o := by
  obtain ⟨K0, m0, t0⟩ := a_sensor (N := N) (S := S) (v := v) (w := 0) (w2 := 1) hb b6 k3 hk hN (by decide) (by decide) hJ hM
  obtain ⟨K1, m1, t1⟩ := a_sensor (N := N) (S := S) (v := v) (w := 1) (w2 := 2) hb b6 k3 hk hN (by decide) (by decide) hJ m0
  obtain ⟨K2, m2, t2⟩ := a_sensor (N := N) (S := S) (v := v) (w := 2) (w2 := 3) hb b6 k3 hk hN (by decide) (by decide) hJ m1
  obtain ⟨K3, m3, t3⟩ := a_sensor (N := N) (S := S) (v := v) (w := 3) (w2 := 4) hb b6 k3 hk hN (by decide) (by decide) hJ m2
  obtain ⟨K4, m4, t4⟩ := a_sensor (N := N) (S := S) (v := v) (w := 4) (w2 := 5) hb b6 k3 hk hN (by decide) (by decide) hJ m3
  obtain ⟨K5, m5, t5⟩ := a_stage (N := N) (S := S) (eb := eb) (v := v) (w := 5) hN h1 hJ m4
  refine ⟨K5, m5, fun o h => ?_⟩
  rw [x57_86]
  simp (disch := first | assumption | exact pj_long_i | exact pj_long_r | exact pj_long_n | decide) only [x57_88, x57_89, x57_92, x57_93, simprocAttr, pj_then_s, pj_pv_s, pj_pi_s, pj_set_s, if_true, if_false, not_true_eq_false, not_false_eq_true, pj_up_up, pj_up_ap, pj_upd_ap, pj_a3_0, pj_a3_1, pj_a3_2, pj_a3_u0, pj_a3_u1, pj_a3_u2, pj_long_i, pj_long_r, pj_long_n, hk3]
  refine t0 o ?_
  refine t1 o ?_
  refine t2 o ?_
  refine t3 o ?_
  refine t4 o ?_
  simp (disch := first | assumption | exact pj_long_i | exact pj_long_r | exact pj_long_n | decide) only [x57_95, x57_97, x57_98, simprocAttr, pj_then_s, pj_pv_s, pj_pi_s, pj_set_s, if_true, if_false, not_true_eq_false, not_false_eq_true, pj_up_up, pj_up_ap, pj_upd_ap, pj_a3_0, pj_a3_1, pj_a3_2, pj_a3_u0, pj_a3_u1, pj_a3_u2]
  exact t5 o h
theorem a_sensors (hb : eb = nI b) (b6 : b < 6) (hN : 109 ≤ N) (hJ : lw_J b n x y) (hM : lw_M Ln xs K x y) : ∃ K', lw_M Ln xs K' x y ∧ ∀ o, pj_Ends 57 (228, [some (.ref 4), some (.ref 109), some (.int eb), some (.int v), some (.int 1), some (.int 3), some (.int 5)], [], (N, S, K')) o → pj_Ends 57 (86, [some (.ref 4), some (.ref 109), some (.int eb), some (.int v), some (.int 1), some (.int 0), zz], [], (N, S, K)) o := by
  obtain ⟨K0, m0, t0⟩ := a_one (N := N) (S := S) (v := v) (zz := zz) (k := 0) (ek := 0) (e2 := 1) hb b6 (by decide) rfl (by decide) (by decide) hN hJ hM
  obtain ⟨K1, m1, t1⟩ := a_one (N := N) (S := S) (v := v) (zz := some (.int 5)) (k := 1) (ek := 1) (e2 := 2) hb b6 (by decide) rfl (by decide) (by decide) hN hJ m0
  obtain ⟨K2, m2, t2⟩ := a_one (N := N) (S := S) (v := v) (zz := some (.int 5)) (k := 2) (ek := 2) (e2 := 3) hb b6 (by decide) rfl (by decide) (by decide) hN hJ m1
  refine ⟨K2, m2, fun o h => ?_⟩
  refine t0 o ?_
  refine t1 o ?_
  refine t2 o ?_
  simp (disch := first | assumption | exact pj_long_i | exact pj_long_r | exact pj_long_n | decide) only [x57_86, x57_88, x57_89, simprocAttr, pj_then_s, pj_pv_s, pj_pi_s, pj_set_s, if_true, if_false, not_true_eq_false, not_false_eq_true, pj_up_up, pj_up_ap, pj_upd_ap, pj_a3_0, pj_a3_1, pj_a3_2, pj_a3_u0, pj_a3_u1, pj_a3_u2]
  exact h
theorem a_ev {m : Nat} (hm : m ≤ 12) (h5 : op_count x 5 = nI m) (hJ : lw_J b n x y) (hM : lw_M Ln xs K x y) : ∃ K', lw_M Ln xs K' x y ∧ ∀ o, pj_Ends 57 (286, [some (.ref 4), some (.ref 109), some (.int eb), some (.int v), some (.int 1), some (.int (nI m)), some (.int 5)], [], (N, S, K')) o → pj_Ends 57 (228, [some (.ref 4), some (.ref 109), some (.int eb), some (.int v), some (.int 1), some (.int 3), some (.int 5)], [], (N, S, K)) o := by
  have q := J_ev hJ
  have c12 : ¬ 12 < nI m := fun w => absurd ((nI_ltI (a := 12) (by decide) (by omega)).mp w) (by omega)
  obtain ⟨K1, m1, e1⟩ := o_count (N := N) (S := S) (w := 5) hJ.1 hM
  obtain ⟨K2, m2, e2⟩ := o_count (N := N) (S := S) (w := 6) hJ.1 m1
  obtain ⟨K3, m3, e3⟩ := o_count (N := N) (S := S) (w := 3) hJ.1 m2
  rw [h5] at e1
  refine ⟨K3, m3, fun o h => ?_⟩
  generalize op_count x 6 = r6 at q e2
  generalize op_count x 3 = r3 at q e3
  generalize nI m = em at c12 e1 h
  simp (disch := first | assumption | exact pj_long_i | exact pj_long_r | exact pj_long_n | decide) only [x57_228, x57_229, simprocAttr, pj_then_s, pj_pv_s, pj_pi_s, pj_set_s, if_true, if_false, not_true_eq_false, not_false_eq_true, pj_up_up, pj_up_ap, pj_upd_ap, pj_a3_0, pj_a3_1, pj_a3_2, pj_a3_u0, pj_a3_u1, pj_a3_u2]
  refine e57_230 rfl hM.u4 e1 ?_
  simp (disch := first | assumption | exact pj_long_i | exact pj_long_r | exact pj_long_n | decide) only [x57_233, x57_235, x57_237, x57_240, x57_242, x57_244, x57_247, x57_248, simprocAttr, pj_then_s, pj_pv_s, pj_pi_s, pj_set_s, if_true, if_false, not_true_eq_false, not_false_eq_true, pj_up_up, pj_up_ap, pj_upd_ap, pj_a3_0, pj_a3_1, pj_a3_2, pj_a3_u0, pj_a3_u1, pj_a3_u2, pj_long_i, pj_long_r, pj_long_n, c12]
  refine e57_250 rfl m1.u4 e2 ?_
  by_cases c : r3 = 0
  · have c6 := q.mpr c
    simp (disch := first | assumption | exact pj_long_i | exact pj_long_r | exact pj_long_n | decide) only [x57_253, x57_255, x57_258, x57_259, x57_262, x57_263, x57_264, simprocAttr, pj_then_s, pj_pv_s, pj_pi_s, pj_set_s, if_true, if_false, not_true_eq_false, not_false_eq_true, pj_up_up, pj_up_ap, pj_upd_ap, pj_a3_0, pj_a3_1, pj_a3_2, pj_a3_u0, pj_a3_u1, pj_a3_u2, c6]
    refine e57_265 rfl m2.u4 e3 ?_
    simp (disch := first | assumption | exact pj_long_i | exact pj_long_r | exact pj_long_n | decide) only [x57_268, x57_271, x57_272, x57_275, x57_276, x57_279, x57_280, x57_283, x57_284, simprocAttr, pj_then_s, pj_pv_s, pj_pi_s, pj_set_s, if_true, if_false, not_true_eq_false, not_false_eq_true, pj_up_up, pj_up_ap, pj_upd_ap, pj_a3_0, pj_a3_1, pj_a3_2, pj_a3_u0, pj_a3_u1, pj_a3_u2, pj_long_i, pj_long_r, pj_long_n, c]
    exact h
  · have c6 : ¬ r6 = -6 := fun u => c (q.mp u)
    simp (disch := first | assumption | exact pj_long_i | exact pj_long_r | exact pj_long_n | decide) only [x57_253, x57_255, x57_258, x57_259, x57_262, x57_263, x57_264, simprocAttr, pj_then_s, pj_pv_s, pj_pi_s, pj_set_s, if_true, if_false, not_true_eq_false, not_false_eq_true, pj_up_up, pj_up_ap, pj_upd_ap, pj_a3_0, pj_a3_1, pj_a3_2, pj_a3_u0, pj_a3_u1, pj_a3_u2, c6]
    refine e57_265 rfl m2.u4 e3 ?_
    simp (disch := first | assumption | exact pj_long_i | exact pj_long_r | exact pj_long_n | decide) only [x57_268, x57_271, x57_272, x57_275, x57_276, x57_279, x57_280, x57_283, x57_284, simprocAttr, pj_then_s, pj_pv_s, pj_pi_s, pj_set_s, if_true, if_false, not_true_eq_false, not_false_eq_true, pj_up_up, pj_up_ap, pj_upd_ap, pj_a3_0, pj_a3_1, pj_a3_2, pj_a3_u0, pj_a3_u1, pj_a3_u2, pj_long_i, pj_long_r, pj_long_n, c]
    exact h
theorem a_last {em ep r0 : Int32} (hr : op_record x.1 (em - 1) 0 = r0) (h1 : ¬ op_count x 0 - 1 < r0) (h2 : op_count x 6 = -6 ∨ ¬ op_count x 6 + 6 < r0) (hJ : lw_J b n x y) (hM : lw_M Ln xs K x y) : ∃ K', lw_M Ln xs K' x y ∧ pj_Ends 57 (436, [some (.ref 4), some (.ref 109), some (.int eb), some (.int v), some (.int 1), some (.int em), some (.int ep)], [], (N, S, K)) (some (.int 1), (N, S, K')) := by
  obtain ⟨K1, m1, e1⟩ := o_record (N := N) (S := S) (a := em - 1) (w := 0) hJ.1 hM
  obtain ⟨K2, m2, e2⟩ := o_count (N := N) (S := S) (w := 0) hJ.1 m1
  obtain ⟨K3, m3, e3⟩ := o_count (N := N) (S := S) (w := 6) hJ.1 m2
  rw [hr] at e1
  by_cases c : op_count x 6 = -6
  · refine ⟨K3, m3, ?_⟩
    simp (disch := first | assumption | exact pj_long_i | exact pj_long_r | exact pj_long_n | decide) only [x57_436, x57_437, x57_439, x57_440, x57_441, simprocAttr, pj_then_s, pj_pv_s, pj_pi_s, pj_set_s, if_true, if_false, not_true_eq_false, not_false_eq_true, pj_up_up, pj_up_ap, pj_upd_ap, pj_a3_0, pj_a3_1, pj_a3_2, pj_a3_u0, pj_a3_u1, pj_a3_u2]
    refine e57_442 rfl hM.u4 e1 ?_
    simp (disch := first | assumption | exact pj_long_i | exact pj_long_r | exact pj_long_n | decide) only [x57_445, x57_446, simprocAttr, pj_then_s, pj_pv_s, pj_pi_s, pj_set_s, if_true, if_false, not_true_eq_false, not_false_eq_true, pj_up_up, pj_up_ap, pj_upd_ap, pj_a3_0, pj_a3_1, pj_a3_2, pj_a3_u0, pj_a3_u1, pj_a3_u2]
    refine e57_447 rfl m1.u4 e2 ?_
    simp (disch := first | assumption | exact pj_long_i | exact pj_long_r | exact pj_long_n | decide) only [x57_450, x57_451, x57_452, x57_455, x57_456, simprocAttr, pj_then_s, pj_pv_s, pj_pi_s, pj_set_s, if_true, if_false, not_true_eq_false, not_false_eq_true, pj_up_up, pj_up_ap, pj_upd_ap, pj_a3_0, pj_a3_1, pj_a3_2, pj_a3_u0, pj_a3_u1, pj_a3_u2, h1]
    refine e57_458 rfl m2.u4 e3 ?_
    simp (disch := first | assumption | exact pj_long_i | exact pj_long_r | exact pj_long_n | decide) only [x57_461, x57_463, x57_466, x57_467, x57_469, x57_470, x57_471, x57_475, x57_476, x57_481, x57_483, x57_484, x57_487, x57_488, x57_491, x57_492, x57_494, simprocAttr, pj_then_s, pj_pv_s, pj_pi_s, pj_set_s, if_true, if_false, not_true_eq_false, not_false_eq_true, pj_up_up, pj_up_ap, pj_upd_ap, pj_a3_0, pj_a3_1, pj_a3_2, pj_a3_u0, pj_a3_u1, pj_a3_u2, pj_long_i, pj_long_r, pj_long_n, c]
    exact t57_496 (Or.inr rfl)
  · have h2' := h2.resolve_left c
    obtain ⟨K4, m4, e4⟩ := o_record (N := N) (S := S) (a := em - 1) (w := 0) hJ.1 m3
    obtain ⟨K5, m5, e5⟩ := o_count (N := N) (S := S) (w := 6) hJ.1 m4
    rw [hr] at e4
    refine ⟨K5, m5, ?_⟩
    generalize op_count x 6 = r6 at c h2' e3 e5
    simp (disch := first | assumption | exact pj_long_i | exact pj_long_r | exact pj_long_n | decide) only [x57_436, x57_437, x57_439, x57_440, x57_441, simprocAttr, pj_then_s, pj_pv_s, pj_pi_s, pj_set_s, if_true, if_false, not_true_eq_false, not_false_eq_true, pj_up_up, pj_up_ap, pj_upd_ap, pj_a3_0, pj_a3_1, pj_a3_2, pj_a3_u0, pj_a3_u1, pj_a3_u2]
    refine e57_442 rfl hM.u4 e1 ?_
    simp (disch := first | assumption | exact pj_long_i | exact pj_long_r | exact pj_long_n | decide) only [x57_445, x57_446, simprocAttr, pj_then_s, pj_pv_s, pj_pi_s, pj_set_s, if_true, if_false, not_true_eq_false, not_false_eq_true, pj_up_up, pj_up_ap, pj_upd_ap, pj_a3_0, pj_a3_1, pj_a3_2, pj_a3_u0, pj_a3_u1, pj_a3_u2]
    refine e57_447 rfl m1.u4 e2 ?_
    simp (disch := first | assumption | exact pj_long_i | exact pj_long_r | exact pj_long_n | decide) only [x57_450, x57_451, x57_452, x57_455, x57_456, simprocAttr, pj_then_s, pj_pv_s, pj_pi_s, pj_set_s, if_true, if_false, not_true_eq_false, not_false_eq_true, pj_up_up, pj_up_ap, pj_upd_ap, pj_a3_0, pj_a3_1, pj_a3_2, pj_a3_u0, pj_a3_u1, pj_a3_u2, h1]
    refine e57_458 rfl m2.u4 e3 ?_
    simp (disch := first | assumption | exact pj_long_i | exact pj_long_r | exact pj_long_n | decide) only [x57_461, x57_463, x57_466, x57_467, x57_469, x57_470, x57_471, simprocAttr, pj_then_s, pj_pv_s, pj_pi_s, pj_set_s, if_true, if_false, not_true_eq_false, not_false_eq_true, pj_up_up, pj_up_ap, pj_upd_ap, pj_a3_0, pj_a3_1, pj_a3_2, pj_a3_u0, pj_a3_u1, pj_a3_u2, c]
    refine e57_472 rfl m3.u4 e4 ?_
    simp (disch := first | assumption | exact pj_long_i | exact pj_long_r | exact pj_long_n | decide) only [x57_475, x57_476, simprocAttr, pj_then_s, pj_pv_s, pj_pi_s, pj_set_s, if_true, if_false, not_true_eq_false, not_false_eq_true, pj_up_up, pj_up_ap, pj_upd_ap, pj_a3_0, pj_a3_1, pj_a3_2, pj_a3_u0, pj_a3_u1, pj_a3_u2]
    refine e57_478 rfl m4.u4 e5 ?_
    simp (disch := first | assumption | exact pj_long_i | exact pj_long_r | exact pj_long_n | decide) only [x57_481, x57_483, x57_484, x57_487, x57_488, x57_491, x57_492, x57_494, simprocAttr, pj_then_s, pj_pv_s, pj_pi_s, pj_set_s, if_true, if_false, not_true_eq_false, not_false_eq_true, pj_up_up, pj_up_ap, pj_upd_ap, pj_a3_0, pj_a3_1, pj_a3_2, pj_a3_u0, pj_a3_u1, pj_a3_u2, pj_long_i, pj_long_r, pj_long_n, h2']
    exact t57_496 (Or.inr rfl)
theorem a_rec {em ep : Int32} (hb : eb = nI b) (b6 : b < 6) (hN : 109 ≤ N) (h : op_record x.1 ep 0 = op_record x.1 0 0 + ep ∧ lw_set b (op_record x.1 ep 6) = op_record y.1 ep 6 ∧ lw_set b (op_record x.1 ep 7) = op_record y.1 ep 7 ∧ op_record x.1 ep 5 = op_record y.1 ep 5 ∧ op_record x.1 ep 8 = op_record y.1 ep 8 ∧ op_record x.1 ep 9 = op_record y.1 ep 9) (hJ : lw_J b n x y) (hM : lw_M Ln xs K x y) : ∃ K', lw_M Ln xs K' x y ∧ ∀ o, pj_Ends 57 (436, [some (.ref 4), some (.ref 109), some (.int eb), some (.int v), some (.int 1), some (.int em), some (.int ep)], [], (N, S, K')) o → pj_Ends 57 (299, [some (.ref 4), some (.ref 109), some (.int eb), some (.int v), some (.int 1), some (.int em), some (.int ep)], [], (N, S, K)) o := by
  obtain ⟨g0, g6, g7, g5, g8, g9⟩ := h
  obtain ⟨K1, m1, e1⟩ := o_record (N := N) (S := S) (a := ep) (w := 0) hJ.1 hM
  obtain ⟨K2, m2, e2⟩ := o_record (N := N) (S := S) (a := 0) (w := 0) hJ.1 m1
  obtain ⟨K3, m3, e3⟩ := o_record (N := N) (S := S) (a := ep) (w := 6) hJ.1 m2
  obtain ⟨K4, m4, e4⟩ := p_record (N := N) (S := S) (a := ep) (w := 6) hN hJ.2.1 m3
  obtain ⟨K5, m5, e5⟩ := o_record (N := N) (S := S) (a := ep) (w := 7) hJ.1 m4
  obtain ⟨K6, m6, e6⟩ := p_record (N := N) (S := S) (a := ep) (w := 7) hN hJ.2.1 m5
  obtain ⟨K7, m7, e7⟩ := o_record (N := N) (S := S) (a := ep) (w := 5) hJ.1 m6
  obtain ⟨K8, m8, e8⟩ := p_record (N := N) (S := S) (a := ep) (w := 5) hN hJ.2.1 m7
  obtain ⟨K9, m9, e9⟩ := o_record (N := N) (S := S) (a := ep) (w := 8) hJ.1 m8
  obtain ⟨K10, m10, e10⟩ := p_record (N := N) (S := S) (a := ep) (w := 8) hN hJ.2.1 m9
  obtain ⟨K11, m11, e11⟩ := o_record (N := N) (S := S) (a := ep) (w := 9) hJ.1 m10
  obtain ⟨K12, m12, e12⟩ := p_record (N := N) (S := S) (a := ep) (w := 9) hN hJ.2.1 m11
  rw [g0] at e1
  rw [← g6] at e4
  rw [← g7] at e6
  rw [← g5] at e8
  rw [← g8] at e10
  rw [← g9] at e12
  refine ⟨K12, m12, fun o h => ?_⟩
  clear g0 g6 g7 g5 g8 g9
  generalize op_record x.1 0 0 = r0 at e1 e2
  generalize op_record x.1 ep 6 = r6 at e3 e4
  generalize op_record x.1 ep 7 = r7 at e5 e6
  generalize op_record x.1 ep 5 = r5 at e7 e8
  generalize op_record x.1 ep 8 = r8 at e9 e10
  generalize op_record x.1 ep 9 = r9 at e11 e12
  simp (disch := first | assumption | exact pj_long_i | exact pj_long_r | exact pj_long_n | decide) only [x57_299, x57_301, x57_304, x57_305, x57_307, simprocAttr, pj_then_s, pj_pv_s, pj_pi_s, pj_set_s, if_true, if_false, not_true_eq_false, not_false_eq_true, pj_up_up, pj_up_ap, pj_upd_ap, pj_a3_0, pj_a3_1, pj_a3_2, pj_a3_u0, pj_a3_u1, pj_a3_u2]
  refine e57_308 rfl hM.u4 e1 ?_
  simp (disch := first | assumption | exact pj_long_i | exact pj_long_r | exact pj_long_n | decide) only [x57_311, x57_312, x57_313, simprocAttr, pj_then_s, pj_pv_s, pj_pi_s, pj_set_s, if_true, if_false, not_true_eq_false, not_false_eq_true, pj_up_up, pj_up_ap, pj_upd_ap, pj_a3_0, pj_a3_1, pj_a3_2, pj_a3_u0, pj_a3_u1, pj_a3_u2]
  refine e57_314 rfl m1.u4 e2 ?_
  simp (disch := first | assumption | exact pj_long_i | exact pj_long_r | exact pj_long_n | decide) only [x57_317, x57_319, x57_320, x57_323, x57_324, x57_325, x57_327, simprocAttr, pj_then_s, pj_pv_s, pj_pi_s, pj_set_s, if_true, if_false, not_true_eq_false, not_false_eq_true, pj_up_up, pj_up_ap, pj_upd_ap, pj_a3_0, pj_a3_1, pj_a3_2, pj_a3_u0, pj_a3_u1, pj_a3_u2]
  refine e57_329 rfl m2.u4 e3 ?_
  refine e57_332 rfl (c_lset hb b6) ?_
  simp (disch := first | assumption | exact pj_long_i | exact pj_long_r | exact pj_long_n | decide) only [x57_335, x57_336, x57_338, simprocAttr, pj_then_s, pj_pv_s, pj_pi_s, pj_set_s, if_true, if_false, not_true_eq_false, not_false_eq_true, pj_up_up, pj_up_ap, pj_upd_ap, pj_a3_0, pj_a3_1, pj_a3_2, pj_a3_u0, pj_a3_u1, pj_a3_u2]
  refine e57_340 rfl m3.u109 e4 ?_
  simp (disch := first | assumption | exact pj_long_i | exact pj_long_r | exact pj_long_n | decide) only [x57_343, x57_346, x57_347, x57_348, x57_350, simprocAttr, pj_then_s, pj_pv_s, pj_pi_s, pj_set_s, if_true, if_false, not_true_eq_false, not_false_eq_true, pj_up_up, pj_up_ap, pj_upd_ap, pj_a3_0, pj_a3_1, pj_a3_2, pj_a3_u0, pj_a3_u1, pj_a3_u2]
  refine e57_352 rfl m4.u4 e5 ?_
  refine e57_355 rfl (c_lset hb b6) ?_
  simp (disch := first | assumption | exact pj_long_i | exact pj_long_r | exact pj_long_n | decide) only [x57_358, x57_359, x57_361, simprocAttr, pj_then_s, pj_pv_s, pj_pi_s, pj_set_s, if_true, if_false, not_true_eq_false, not_false_eq_true, pj_up_up, pj_up_ap, pj_upd_ap, pj_a3_0, pj_a3_1, pj_a3_2, pj_a3_u0, pj_a3_u1, pj_a3_u2]
  refine e57_363 rfl m5.u109 e6 ?_
  simp (disch := first | assumption | exact pj_long_i | exact pj_long_r | exact pj_long_n | decide) only [x57_366, x57_369, x57_370, x57_372, simprocAttr, pj_then_s, pj_pv_s, pj_pi_s, pj_set_s, if_true, if_false, not_true_eq_false, not_false_eq_true, pj_up_up, pj_up_ap, pj_upd_ap, pj_a3_0, pj_a3_1, pj_a3_2, pj_a3_u0, pj_a3_u1, pj_a3_u2]
  refine e57_373 rfl m6.u4 e7 ?_
  simp (disch := first | assumption | exact pj_long_i | exact pj_long_r | exact pj_long_n | decide) only [x57_376, x57_377, x57_379, simprocAttr, pj_then_s, pj_pv_s, pj_pi_s, pj_set_s, if_true, if_false, not_true_eq_false, not_false_eq_true, pj_up_up, pj_up_ap, pj_upd_ap, pj_a3_0, pj_a3_1, pj_a3_2, pj_a3_u0, pj_a3_u1, pj_a3_u2]
  refine e57_380 rfl m7.u109 e8 ?_
  simp (disch := first | assumption | exact pj_long_i | exact pj_long_r | exact pj_long_n | decide) only [x57_383, x57_386, x57_387, x57_389, simprocAttr, pj_then_s, pj_pv_s, pj_pi_s, pj_set_s, if_true, if_false, not_true_eq_false, not_false_eq_true, pj_up_up, pj_up_ap, pj_upd_ap, pj_a3_0, pj_a3_1, pj_a3_2, pj_a3_u0, pj_a3_u1, pj_a3_u2]
  refine e57_391 rfl m8.u4 e9 ?_
  simp (disch := first | assumption | exact pj_long_i | exact pj_long_r | exact pj_long_n | decide) only [x57_394, x57_395, x57_397, simprocAttr, pj_then_s, pj_pv_s, pj_pi_s, pj_set_s, if_true, if_false, not_true_eq_false, not_false_eq_true, pj_up_up, pj_up_ap, pj_upd_ap, pj_a3_0, pj_a3_1, pj_a3_2, pj_a3_u0, pj_a3_u1, pj_a3_u2]
  refine e57_399 rfl m9.u109 e10 ?_
  simp (disch := first | assumption | exact pj_long_i | exact pj_long_r | exact pj_long_n | decide) only [x57_402, x57_405, x57_406, x57_408, simprocAttr, pj_then_s, pj_pv_s, pj_pi_s, pj_set_s, if_true, if_false, not_true_eq_false, not_false_eq_true, pj_up_up, pj_up_ap, pj_upd_ap, pj_a3_0, pj_a3_1, pj_a3_2, pj_a3_u0, pj_a3_u1, pj_a3_u2]
  refine e57_410 rfl m10.u4 e11 ?_
  simp (disch := first | assumption | exact pj_long_i | exact pj_long_r | exact pj_long_n | decide) only [x57_413, x57_414, x57_416, simprocAttr, pj_then_s, pj_pv_s, pj_pi_s, pj_set_s, if_true, if_false, not_true_eq_false, not_false_eq_true, pj_up_up, pj_up_ap, pj_upd_ap, pj_a3_0, pj_a3_1, pj_a3_2, pj_a3_u0, pj_a3_u1, pj_a3_u2]
  refine e57_418 rfl m11.u109 e12 ?_
  simp (disch := first | assumption | exact pj_long_i | exact pj_long_r | exact pj_long_n | decide) only [x57_421, x57_424, x57_425, x57_428, x57_429, x57_431, x57_433, simprocAttr, pj_then_s, pj_pv_s, pj_pi_s, pj_set_s, if_true, if_false, not_true_eq_false, not_false_eq_true, pj_up_up, pj_up_ap, pj_upd_ap, pj_a3_0, pj_a3_1, pj_a3_2, pj_a3_u0, pj_a3_u1, pj_a3_u2, pj_long_i, pj_long_r, pj_long_n]
  exact h
theorem c_areAlike (hb : eb = nI b) (b6 : b < 6) (hN : 109 ≤ N) (hn : n ≤ 1000) (hJ : lw_J b n x y) (hM : lw_M Ln xs K x y) : ∃ K', lw_M Ln xs K' x y ∧ pj_Ends 57 (0, [some (.ref 4), some (.ref 109), some (.int eb), some (.int v), none, none, none], [], (N, S, K)) (some (.int 1), (N, S, K')) := by
  obtain ⟨m, hm, h5, hrec, hlast⟩ := J_record hn hJ
  obtain ⟨K1, m1, t1⟩ := a_votes (N := N) (S := S) (v := v) hb b6 hN hJ hM
  obtain ⟨K2, m2, t2⟩ := a_counts (N := N) (S := S) (eb := eb) (v := v) (zz := none) hN hJ m1
  obtain ⟨K3, m3, t3⟩ := a_sensors (N := N) (S := S) (v := v) (zz := none) hb b6 hN hJ m2
  obtain ⟨K4, m4, t4⟩ := a_ev (N := N) (S := S) (eb := eb) (v := v) hm h5 hJ m3
  by_cases c : m = 0
  · refine ⟨K4, m4, ?_⟩
    refine t1 _ ?_
    refine t2 _ ?_
    refine t3 _ ?_
    refine t4 _ ?_
    have z : nI m = 0 := by rw [c]; rfl
    rw [z]
    simp (disch := first | assumption | exact pj_long_i | exact pj_long_r | exact pj_long_n | decide) only [x57_286, x57_288, x57_291, x57_292, x57_297, x57_299, x57_301, x57_304, x57_305, x57_307, x57_311, x57_312, x57_313, x57_317, x57_319, x57_320, x57_323, x57_324, x57_325, x57_327, x57_335, x57_336, x57_338, x57_343, x57_346, x57_347, x57_348, x57_350, x57_358, x57_359, x57_361, x57_366, x57_369, x57_370, x57_372, x57_376, x57_377, x57_379, x57_383, x57_386, x57_387, x57_389, x57_394, x57_395, x57_397, x57_402, x57_405, x57_406, x57_408, x57_413, x57_414, x57_416, x57_421, x57_424, x57_425, x57_428, x57_429, x57_431, x57_433, x57_436, x57_437, x57_439, x57_440, x57_441, x57_445, x57_446, x57_450, x57_451, x57_452, x57_455, x57_456, x57_461, x57_463, x57_466, x57_467, x57_469, x57_470, x57_471, x57_475, x57_476, x57_481, x57_483, x57_484, x57_487, x57_488, x57_491, x57_492, x57_494, simprocAttr, pj_then_s, pj_pv_s, pj_pi_s, pj_set_s, if_true, if_false, not_true_eq_false, not_false_eq_true, pj_up_up, pj_up_ap, pj_upd_ap, pj_a3_0, pj_a3_1, pj_a3_2, pj_a3_u0, pj_a3_u1, pj_a3_u2, pj_long_i, pj_long_r, pj_long_n]
    exact t57_496 (Or.inr rfl)
  · have hj : lw_up v m < m := lw_up_lt (by omega)
    obtain ⟨l1, l2⟩ := hlast (by omega)
    obtain ⟨K5, m5, t5⟩ := a_rec (N := N) (S := S) (v := v) (em := nI m) hb b6 hN (hrec _ hj) hJ m4
    obtain ⟨K6, m6, t6⟩ := a_last (N := N) (S := S) (eb := eb) (v := v) (em := nI m) (ep := nI (lw_up v m)) rfl l1 l2 hJ m5
    refine ⟨K6, m6, ?_⟩
    refine t1 _ ?_
    refine t2 _ ?_
    refine t3 _ ?_
    refine t4 _ ?_
    have z : ¬ nI m ≤ 0 := nI_nle (by omega) (by omega)
    have cu := c_up (v := v) (M := (N, S, K4)) (e := nI m) (d := m) rfl (by omega) (by omega)
    have t5' := t5 _ t6
    clear t1 t2 t3 t4 t5 t6 l1 l2 hrec hlast h5
    generalize nI (lw_up v m) = ep at cu t5'
    generalize nI m = em at z cu t5' ⊢
    simp (disch := first | assumption | exact pj_long_i | exact pj_long_r | exact pj_long_n | decide) only [x57_286, x57_288, x57_291, x57_292, simprocAttr, pj_then_s, pj_pv_s, pj_pi_s, pj_set_s, if_true, if_false, not_true_eq_false, not_false_eq_true, pj_up_up, pj_up_ap, pj_upd_ap, pj_a3_0, pj_a3_1, pj_a3_2, pj_a3_u0, pj_a3_u1, pj_a3_u2, z]
    refine e57_294 rfl cu ?_
    simp (disch := first | assumption | exact pj_long_i | exact pj_long_r | exact pj_long_n | decide) only [x57_297, simprocAttr, pj_then_s, pj_pv_s, pj_pi_s, pj_set_s, if_true, if_false, not_true_eq_false, not_false_eq_true, pj_up_up, pj_up_ap, pj_upd_ap, pj_a3_0, pj_a3_1, pj_a3_2, pj_a3_u0, pj_a3_u1, pj_a3_u2, pj_long_i, pj_long_r, pj_long_n]
    exact t5'
end T99
