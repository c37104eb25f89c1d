/-! THE LAW OF BOTH: the first states, the loop, the end -/
theorem sp_r0_hi {j : Nat} (h : 30 ≤ j) : sp_r0 j = 0 := by
  unfold sp_r0
  simp only [pj_upd_ap]
  repeat rw [if_neg (by omega)]
theorem sp_r0_se : ∀ i, i < 5 → ∀ k, k < 3 → sp_r0 (8 + 3 * i + k) = sp_r0 (8 + 3 * i) := by decide
theorem lw_R0 {b : Nat} (hb : b < 6) : lw_R b sp_r0 sp_r0 := by
  refine ⟨fun j _ => rfl, fun j _ _ => rfl, fun i k hi hk => ?_, fun i hi => ?_⟩
  · rw [sp_r0_se i hi k hk, sp_r0_se i hi _ lw_th_lt]
  · refine ⟨rfl, rfl, ?_, ?_, rfl, rfl⟩
    · rw [sp_r0_hi (by omega), lw_set_0 hb]
    · rw [sp_r0_hi (by omega), lw_set_0 hb]
theorem lw_J0 {b : Nat} (hb : b < 6) : lw_J b 0 sp_x0 sp_x0 := by
  obtain ⟨t, ht, hR⟩ := sp_x0_in.1
  have hR' : pj_Ro sp_r0 t := hR
  have e6 : sp_r0 6 = nI 0 := by decide
  have : 0 = t := (nI_eq (by decide) (by omega)).mp (e6.symm.trans hR'.2.2.1)
  subst this
  refine ⟨sp_x0_in, sp_x0_in, rfl, lw_R0 hb, fun i hi => absurd hi (Nat.not_lt_zero _), ⟨0, Nat.le_refl _, hR', ?_, 0, 0, by decide, ?_, fun i hi => absurd hi (Nat.not_lt_zero _), Nat.le_refl _, fun _ w => absurd w (Nat.lt_irrefl _), fun e he q => by omega⟩, fun i hi => absurd hi (Nat.not_lt_zero _)⟩
  · show sp_r0 29 = -6 ↔ sp_r0 23 = -6 ∧ sp_r0 24 = -6 ∧ sp_r0 25 = -6
    decide
  · show sp_r0 30 = nI 0
    decide
section T98B
variable {Ln N S b : Nat} {xs : Nat → Int32} {eb : Int32}
theorem l_loop (hL : Ln ≤ 260) (hb : eb = nI b) (b6 : b < 6) (hN : 109 ≤ N) : ∀ (m k : Nat) (K : pj_Heap) (x y : pj_Sg), k + m = 56 → lw_J b k x y → lw_M Ln xs K x y → ∃ x' y' K', lw_J b 56 x' y' ∧ lw_M Ln xs K' x' y' ∧ ∀ o, pj_Ends 61 (91, [some (.ref 0), some (.ref 4), some (.ref 109), some (.int eb), some (.int 1), some (.int 56), none], [], (N, S, K')) o → pj_Ends 61 (33, [some (.ref 0), some (.ref 4), some (.ref 109), some (.int eb), some (.int 1), some (.int (nI k)), none], [], (N, S, K)) o
  | 0, k, K, x, y, hk, hJ, hM => by
    have e : k = 56 := by omega
    subst e
    have e56 : nI 56 = 56 := rfl
    rw [e56]
    refine ⟨x, y, K, hJ, hM, fun o h => ?_⟩
    simp (disch := first | assumption | exact pj_long_i | exact pj_long_r | exact pj_long_n | decide) only [x61_33, x61_35, x61_37, simprocAttr, pj_then_s, pj_pv_s, pj_pi_s, pj_set_s, if_true, if_false, not_true_eq_false, not_false_eq_true, pj_up_up, pj_up_ap, pj_upd_ap, pj_a3_0, pj_a3_1, pj_a3_2, pj_a3_u0, pj_a3_u1, pj_a3_u2]
    exact h
  | m + 1, k, K, x, y, hk, hJ, hM => by
    have c1 : ¬ 56 ≤ nI k := fun w => absurd ((nI_leI (a := 56) (by decide) (by omega)).mp w) (by omega)
    obtain ⟨x1, y1, K1, j1, m1, e1⟩ := c_isStep (S := S) (v := lw_cell Ln xs k) hb b6 hN (by omega) hJ hM
    obtain ⟨K2, m2, e2⟩ := c_areAlike (N := N) (S := S) (v := lw_cell Ln xs k >>> ((9 : Int32) &&& 31)) hb b6 hN (by omega) j1 m1
    obtain ⟨x', y', K', j, mm, hK⟩ := l_loop hL hb b6 hN m (k + 1) K2 x1 y1 (by omega) j1 m2
    refine ⟨x', y', K', j, mm, fun o h => ?_⟩
    have hK' := hK o h
    have e3 : nI k + 1 = nI (k + 1) := nI_1 k
    have ce := c_cell (S := S) (N := N) (H := K) (e := nI k) (k := k) rfl (by omega) hL hM.2.2
    have ce1 := c_cell (S := S) (N := N) (H := K1) (e := nI k) (k := k) rfl (by omega) hL m1.2.2
    generalize nI (k + 1) = w2 at e3 hK'
    generalize nI k = w at c1 e3 ce ce1 ⊢
    rw [x61_33]
    simp (disch := first | assumption | exact pj_long_i | exact pj_long_r | exact pj_long_n | decide) only [x61_35, x61_37, x61_40, x61_42, x61_45, x61_46, x61_47, x61_48, x61_49, simprocAttr, pj_then_s, pj_pv_s, pj_pi_s, pj_set_s, if_true, if_false, not_true_eq_false, not_false_eq_true, pj_up_up, pj_up_ap, pj_upd_ap, pj_a3_0, pj_a3_1, pj_a3_2, pj_a3_u0, pj_a3_u1, pj_a3_u2, c1]
    refine e61_51 rfl ce ?_
    refine e61_54 rfl e1 ?_
    simp (disch := first | assumption | exact pj_long_i | exact pj_long_r | exact pj_long_n | decide) only [x61_57, x61_60, x61_61, x61_62, x61_63, x61_64, simprocAttr, pj_then_s, pj_pv_s, pj_pi_s, pj_set_s, if_true, if_false, not_true_eq_false, not_false_eq_true, pj_up_up, pj_up_ap, pj_upd_ap, pj_a3_0, pj_a3_1, pj_a3_2, pj_a3_u0, pj_a3_u1, pj_a3_u2]
    refine e61_66 rfl ce1 ?_
    simp (disch := first | assumption | exact pj_long_i | exact pj_long_r | exact pj_long_n | decide) only [x61_69, x61_71, simprocAttr, pj_then_s, pj_pv_s, pj_pi_s, pj_set_s, if_true, if_false, not_true_eq_false, not_false_eq_true, pj_up_up, pj_up_ap, pj_upd_ap, pj_a3_0, pj_a3_1, pj_a3_2, pj_a3_u0, pj_a3_u1, pj_a3_u2]
    refine e61_72 rfl e2 ?_
    simp (disch := first | assumption | exact pj_long_i | exact pj_long_r | exact pj_long_n | decide) only [x61_75, x61_78, x61_79, x61_82, x61_83, x61_85, x61_88, simprocAttr, pj_then_s, pj_pv_s, pj_pi_s, pj_set_s, if_true, if_false, not_true_eq_false, not_false_eq_true, pj_up_up, pj_up_ap, pj_upd_ap, pj_a3_0, pj_a3_1, pj_a3_2, pj_a3_u0, pj_a3_u1, pj_a3_u2, pj_long_i, pj_long_r, pj_long_n, e3]
    exact hK'
theorem l_end (hL : Ln ≤ 260) (b6 : b < 6) (hN : 109 ≤ N) {K : pj_Heap} {x y : pj_Sg} (hJ : lw_J b 56 x y) (hM : lw_M Ln xs K x y) : ∃ K', pj_Ends 61 (91, [some (.ref 0), some (.ref 4), some (.ref 109), some (.int eb), some (.int 1), some (.int 56), none], [], (N, S, K)) (some (.int 1), (N, S, K')) := by
  have s3 : lw_up (lw_cell Ln xs 56) 3 < 3 := lw_up_lt (by decide)
  have r5 : lw_up (lw_cell Ln xs 57) 501 < 501 := lw_up_lt (by decide)
  have hr : -500 ≤ nI (lw_up (lw_cell Ln xs 57) 501) ∧ nI (lw_up (lw_cell Ln xs 57) 501) ≤ 500 := i32_pos (by omega)
  obtain ⟨q1, q2, q3, q4⟩ := J_end b6 s3 hr hJ
  have hx := hJ.1
  have hy := hJ.2.1
  have cu := c_up (v := lw_cell Ln xs 56) (e := 3) (d := 3) (M := (N, S, K)) rfl (by decide) (by decide)
  have cv := c_up (v := lw_cell Ln xs 57) (e := 501) (d := 501) (M := (N, S, K)) rfl (by decide) (by decide)
  have ce := c_cell (S := S) (N := N) (H := K) (e := 56) (k := 56) rfl (by decide) hL hM.2.2
  have cf := c_cell (S := S) (N := N) (H := K) (e := 57) (k := 57) rfl (by decide) hL hM.2.2
  generalize nI (lw_up (lw_cell Ln xs 56) 3) = s at q1 q2 q3 q4 cu
  generalize nI (lw_up (lw_cell Ln xs 57) 501) = r at q2 q3 q4 cv
  obtain ⟨K1, m1, e1⟩ := o_least (N := N) (S := S) (a := s) hx hM
  obtain ⟨K2, m2, e2⟩ := p_least (N := N) (S := S) (a := s) hN hy m1
  obtain ⟨K3, m3, e3⟩ := o_ticksTo (N := N) (S := S) (a := s) (w := r) hx m2
  obtain ⟨K4, m4, e4⟩ := p_ticksTo (N := N) (S := S) (a := s) (w := r) hN hy m3
  obtain ⟨K5, m5, e5⟩ := o_ticksTo (N := N) (S := S) (a := s) (w := r) hx m4
  obtain ⟨K6, m6, e6⟩ := o_count (N := N) (S := S) (w := 3) hx m5
  obtain ⟨K7, m7, e7⟩ := o_stage (N := N) (S := S) (a := s) (w := 1) hx m6
  obtain ⟨K8, m8, e8⟩ := o_least (N := N) (S := S) (a := s) hx m7
  obtain ⟨K9, m9, e9⟩ := o_ticksTo (N := N) (S := S) (a := s) (w := r) hx m8
  rw [← q1] at e2
  rw [← q2] at e4
  clear q1 q2
  generalize op_leastReading x.1 s 1 = lr at e1 e2 e8 q4
  generalize op_ticksTo x.1 s r = tt at e3 e4 e5 e9 q3 q4
  generalize op_count x 3 = c3 at e6 q3
  generalize op_stage x.1 s 1 = st at e7 q4
  have A : ∀ o, pj_Ends 61 (203, [some (.ref 0), some (.ref 4), some (.ref 109), some (.int eb), some (.int 1), some (.int s), some (.int r)], [], (N, S, K6)) o → pj_Ends 61 (91, [some (.ref 0), some (.ref 4), some (.ref 109), some (.int eb), some (.int 1), some (.int 56), none], [], (N, S, K)) o := by
    intro o h
    simp (disch := first | assumption | exact pj_long_i | exact pj_long_r | exact pj_long_n | decide) only [x61_91, x61_92, simprocAttr, pj_then_s, pj_pv_s, pj_pi_s, pj_set_s, if_true, if_false, not_true_eq_false, not_false_eq_true, pj_up_up, pj_up_ap, pj_upd_ap, pj_a3_0, pj_a3_1, pj_a3_2, pj_a3_u0, pj_a3_u1, pj_a3_u2]
    refine e61_94 rfl ce ?_
    simp (disch := first | assumption | exact pj_long_i | exact pj_long_r | exact pj_long_n | decide) only [x61_97, simprocAttr, pj_then_s, pj_pv_s, pj_pi_s, pj_set_s, if_true, if_false, not_true_eq_false, not_false_eq_true, pj_up_up, pj_up_ap, pj_upd_ap, pj_a3_0, pj_a3_1, pj_a3_2, pj_a3_u0, pj_a3_u1, pj_a3_u2]
    refine e61_98 rfl cu ?_
    simp (disch := first | assumption | exact pj_long_i | exact pj_long_r | exact pj_long_n | decide) only [x61_101, x61_103, x61_104, simprocAttr, pj_then_s, pj_pv_s, pj_pi_s, pj_set_s, if_true, if_false, not_true_eq_false, not_false_eq_true, pj_up_up, pj_up_ap, pj_upd_ap, pj_a3_0, pj_a3_1, pj_a3_2, pj_a3_u0, pj_a3_u1, pj_a3_u2, pj_long_i, pj_long_r, pj_long_n]
    refine e61_106 rfl cf ?_
    simp (disch := first | assumption | exact pj_long_i | exact pj_long_r | exact pj_long_n | decide) only [x61_109, simprocAttr, pj_then_s, pj_pv_s, pj_pi_s, pj_set_s, if_true, if_false, not_true_eq_false, not_false_eq_true, pj_up_up, pj_up_ap, pj_upd_ap, pj_a3_0, pj_a3_1, pj_a3_2, pj_a3_u0, pj_a3_u1, pj_a3_u2]
    refine e61_112 rfl cv ?_
    simp (disch := first | assumption | exact pj_long_i | exact pj_long_r | exact pj_long_n | decide) only [x61_115, x61_117, x61_119, x61_122, x61_123, x61_125, simprocAttr, pj_then_s, pj_pv_s, pj_pi_s, pj_set_s, if_true, if_false, not_true_eq_false, not_false_eq_true, pj_up_up, pj_up_ap, pj_upd_ap, pj_a3_0, pj_a3_1, pj_a3_2, pj_a3_u0, pj_a3_u1, pj_a3_u2, pj_long_i, pj_long_r, pj_long_n]
    refine e61_126 rfl hM.u4 e1 ?_
    simp (disch := first | assumption | exact pj_long_i | exact pj_long_r | exact pj_long_n | decide) only [x61_129, x61_130, x61_132, simprocAttr, pj_then_s, pj_pv_s, pj_pi_s, pj_set_s, if_true, if_false, not_true_eq_false, not_false_eq_true, pj_up_up, pj_up_ap, pj_upd_ap, pj_a3_0, pj_a3_1, pj_a3_2, pj_a3_u0, pj_a3_u1, pj_a3_u2]
    refine e61_133 rfl m1.u109 e2 ?_
    simp (disch := first | assumption | exact pj_long_i | exact pj_long_r | exact pj_long_n | decide) only [x61_136, x61_139, x61_140, x61_142, simprocAttr, pj_then_s, pj_pv_s, pj_pi_s, pj_set_s, if_true, if_false, not_true_eq_false, not_false_eq_true, pj_up_up, pj_up_ap, pj_upd_ap, pj_a3_0, pj_a3_1, pj_a3_2, pj_a3_u0, pj_a3_u1, pj_a3_u2]
    refine e61_144 rfl m2.u4 e3 ?_
    simp (disch := first | assumption | exact pj_long_i | exact pj_long_r | exact pj_long_n | decide) only [x61_147, x61_148, x61_150, simprocAttr, pj_then_s, pj_pv_s, pj_pi_s, pj_set_s, if_true, if_false, not_true_eq_false, not_false_eq_true, pj_up_up, pj_up_ap, pj_upd_ap, pj_a3_0, pj_a3_1, pj_a3_2, pj_a3_u0, pj_a3_u1, pj_a3_u2]
    refine e61_152 rfl m3.u109 e4 ?_
    simp (disch := first | assumption | exact pj_long_i | exact pj_long_r | exact pj_long_n | decide) only [x61_155, x61_158, x61_159, x61_161, simprocAttr, pj_then_s, pj_pv_s, pj_pi_s, pj_set_s, if_true, if_false, not_true_eq_false, not_false_eq_true, pj_up_up, pj_up_ap, pj_upd_ap, pj_a3_0, pj_a3_1, pj_a3_2, pj_a3_u0, pj_a3_u1, pj_a3_u2]
    refine e61_163 rfl m4.u4 e5 ?_
    by_cases c : tt = 0
    · have c' := q3.mp c
      simp (disch := first | assumption | exact pj_long_i | exact pj_long_r | exact pj_long_n | decide) only [x61_166, x61_169, x61_170, x61_173, x61_174, x61_175, simprocAttr, pj_then_s, pj_pv_s, pj_pi_s, pj_set_s, if_true, if_false, not_true_eq_false, not_false_eq_true, pj_up_up, pj_up_ap, pj_upd_ap, pj_a3_0, pj_a3_1, pj_a3_2, pj_a3_u0, pj_a3_u1, pj_a3_u2, c]
      refine e61_176 rfl m5.u4 e6 ?_
      simp (disch := first | assumption | exact pj_long_i | exact pj_long_r | exact pj_long_n | decide) only [x61_179, x61_181, x61_182, x61_183, x61_184, x61_185, x61_188, x61_189, x61_192, x61_193, x61_196, x61_197, x61_200, x61_201, simprocAttr, pj_then_s, pj_pv_s, pj_pi_s, pj_set_s, if_true, if_false, not_true_eq_false, not_false_eq_true, pj_up_up, pj_up_ap, pj_upd_ap, pj_a3_0, pj_a3_1, pj_a3_2, pj_a3_u0, pj_a3_u1, pj_a3_u2, pj_long_i, pj_long_r, pj_long_n, c']
      exact h
    · have c' : ¬ c3 >>> (s &&& 31) &&& 1 = 1 := fun w => c (q3.mpr w)
      simp (disch := first | assumption | exact pj_long_i | exact pj_long_r | exact pj_long_n | decide) only [x61_166, x61_169, x61_170, x61_173, x61_174, x61_175, simprocAttr, pj_then_s, pj_pv_s, pj_pi_s, pj_set_s, if_true, if_false, not_true_eq_false, not_false_eq_true, pj_up_up, pj_up_ap, pj_upd_ap, pj_a3_0, pj_a3_1, pj_a3_2, pj_a3_u0, pj_a3_u1, pj_a3_u2, c]
      refine e61_176 rfl m5.u4 e6 ?_
      simp (disch := first | assumption | exact pj_long_i | exact pj_long_r | exact pj_long_n | decide) only [x61_179, x61_181, x61_182, x61_183, x61_184, x61_185, x61_188, x61_189, x61_192, x61_193, x61_196, x61_197, x61_200, x61_201, simprocAttr, pj_then_s, pj_pv_s, pj_pi_s, pj_set_s, if_true, if_false, not_true_eq_false, not_false_eq_true, pj_up_up, pj_up_ap, pj_upd_ap, pj_a3_0, pj_a3_1, pj_a3_2, pj_a3_u0, pj_a3_u1, pj_a3_u2, pj_long_i, pj_long_r, pj_long_n, c']
      exact h
  by_cases c : st = 0
  · refine ⟨K7, A _ ?_⟩
    simp (disch := first | assumption | exact pj_long_i | exact pj_long_r | exact pj_long_n | decide) only [x61_203, x61_205, x61_208, x61_209, x61_211, simprocAttr, pj_then_s, pj_pv_s, pj_pi_s, pj_set_s, if_true, if_false, not_true_eq_false, not_false_eq_true, pj_up_up, pj_up_ap, pj_upd_ap, pj_a3_0, pj_a3_1, pj_a3_2, pj_a3_u0, pj_a3_u1, pj_a3_u2]
    refine e61_212 rfl m6.u4 e7 ?_
    simp (disch := first | assumption | exact pj_long_i | exact pj_long_r | exact pj_long_n | decide) only [x61_215, x61_218, x61_219, x61_221, x61_225, x61_227, x61_230, x61_231, x61_233, x61_238, x61_239, x61_242, x61_243, x61_246, simprocAttr, pj_then_s, pj_pv_s, pj_pi_s, pj_set_s, if_true, if_false, not_true_eq_false, not_false_eq_true, pj_up_up, pj_up_ap, pj_upd_ap, pj_a3_0, pj_a3_1, pj_a3_2, pj_a3_u0, pj_a3_u1, pj_a3_u2, c]
    exact t61_247 (Or.inr rfl)
  · obtain ⟨q5, q6⟩ := q4.resolve_left c
    refine ⟨K9, A _ ?_⟩
    simp (disch := first | assumption | exact pj_long_i | exact pj_long_r | exact pj_long_n | decide) only [x61_203, x61_205, x61_208, x61_209, x61_211, simprocAttr, pj_then_s, pj_pv_s, pj_pi_s, pj_set_s, if_true, if_false, not_true_eq_false, not_false_eq_true, pj_up_up, pj_up_ap, pj_upd_ap, pj_a3_0, pj_a3_1, pj_a3_2, pj_a3_u0, pj_a3_u1, pj_a3_u2]
    refine e61_212 rfl m6.u4 e7 ?_
    simp (disch := first | assumption | exact pj_long_i | exact pj_long_r | exact pj_long_n | decide) only [x61_215, x61_218, x61_219, x61_221, simprocAttr, pj_then_s, pj_pv_s, pj_pi_s, pj_set_s, if_true, if_false, not_true_eq_false, not_false_eq_true, pj_up_up, pj_up_ap, pj_upd_ap, pj_a3_0, pj_a3_1, pj_a3_2, pj_a3_u0, pj_a3_u1, pj_a3_u2, c]
    refine e61_222 rfl m7.u4 e8 ?_
    simp (disch := first | assumption | exact pj_long_i | exact pj_long_r | exact pj_long_n | decide) only [x61_225, x61_227, x61_230, x61_231, x61_233, simprocAttr, pj_then_s, pj_pv_s, pj_pi_s, pj_set_s, if_true, if_false, not_true_eq_false, not_false_eq_true, pj_up_up, pj_up_ap, pj_upd_ap, pj_a3_0, pj_a3_1, pj_a3_2, pj_a3_u0, pj_a3_u1, pj_a3_u2, q5]
    refine e61_235 rfl m8.u4 e9 ?_
    simp (disch := first | assumption | exact pj_long_i | exact pj_long_r | exact pj_long_n | decide) only [x61_238, x61_239, x61_242, x61_243, x61_246, simprocAttr, pj_then_s, pj_pv_s, pj_pi_s, pj_set_s, if_true, if_false, not_true_eq_false, not_false_eq_true, pj_up_up, pj_up_ap, pj_upd_ap, pj_a3_0, pj_a3_1, pj_a3_2, pj_a3_u0, pj_a3_u1, pj_a3_u2, q6]
    exact t61_247 (Or.inr rfl)
end T98B
theorem rn_c_lo {L : Nat} {xs : Nat → Int32} {a : Nat} (h : a < 4) : rn_c (pj_H0 L xs a) = pj_H0 L xs a := by
  unfold pj_H0
  rw [if_pos h]
  rfl
/-- THE LAW: it ends, it says true, and it stays in its room -/
theorem pj_law {L : Nat} (hL : L ≤ 260) (xs : Nat → Int32) : pj_LawOK L xs := by
  have z1 : pj_H0 L xs 1 = .inr (4, 6, .inl (pj_v6 60 150 5 8 40 2)) := by
    unfold pj_H0
    rw [if_pos (by decide)]
    rfl
  have z2 : pj_H0 L xs 2 = .inr (4, 6, .inl (pj_v6 1 1 1 2 1 0)) := by
    unfold pj_H0
    rw [if_pos (by decide)]
    rfl
  have z3 : pj_H0 L xs 3 = .inr (4, 6, .inl (pj_v6 2000 2000 50 50 500 20)) := by
    unfold pj_H0
    rw [if_pos (by decide)]
    rfl
  have z0 : pj_H0 L xs 0 = .inr (4, L, .inl xs) := by
    unfold pj_H0
    rw [if_pos (by decide)]
    rfl
  have zl : ∀ a, a < 4 → rn_c (pj_H0 L xs a) = pj_H0 L xs a := fun a h => rn_c_lo h
  have zh : ∀ a, 4 ≤ a → pj_H0 L xs a = .inl (99, []) := fun a h => by
    unfold pj_H0
    rw [if_neg (by omega)]
  generalize hH : pj_H0 L xs = H at z0 z1 z2 z3 zl zh
  obtain ⟨A, a1, a2, a3⟩ := c_vinit (S := 8) (H := pj_up H 4 (.inl (5, [.null, .null, .null, .null, .null, .int 0, .null, .null]))) (by rw [pj_up_ap, if_neg (by decide)]; exact z1) ⟨by rw [pj_up_ap, if_neg (by decide)]; exact z2, by rw [pj_up_ap, if_neg (by decide)]; exact z3⟩ (by rw [pj_up_ap, if_pos rfl])
  have aH : ∀ j, j < 4 ∨ 108 < j → A j = H j := fun j hj => (a2 j hj).trans (by rw [pj_up_ap, if_neg (by omega)])
  have rH : rn_H (pj_up H 4 (.inl (5, [.null, .null, .null, .null, .null, .int 0, .null, .null]))) (pj_up A 109 (.inl (5, [.null, .null, .null, .null, .null, .int 0, .null, .null]))) := by
    intro a
    rw [pj_up_ap, pj_up_ap]
    by_cases c4 : a < 4
    · rw [rn_s_lo c4, if_neg (by omega), if_neg (by omega), aH a (Or.inl c4), zl a c4]
    · rw [rn_s_hi (by omega)]
      by_cases c5 : a = 4
      · rw [if_pos (by omega), if_pos c5]
        rfl
      · rw [if_neg (by omega), if_neg c5, aH _ (Or.inr (by omega)), zh _ (by omega), zh _ (by omega)]
        rfl
  obtain ⟨M2, r1, r2, r3⟩ := rn_Ends (d := 1692) (M2 := (110, 1700, pj_up A 109 (.inl (5, [.null, .null, .null, .null, .null, .int 0, .null, .null])))) a3 ⟨rfl, rfl, rH, (by decide : 4 ≤ 5)⟩
  obtain ⟨N2, S2, B⟩ := M2
  obtain ⟨u1, u2, u3, -⟩ := r1
  have u1' : N2 = 214 := u1
  have u2' : S2 = 3384 := u2
  subst u1' u2'
  have bA : ∀ j, j < 109 → B j = A j := by
    intro j hj
    by_cases c : 4 ≤ j
    · exact (r2 j c hj).trans (by show pj_up A 109 _ j = A j; rw [pj_up_ap, if_neg (by omega)])
    · have q : B (rn_s j) = rn_c (A j) := u3 j
      rw [rn_s_lo (by omega), aH j (Or.inl (by omega)), zl j (by omega)] at q
      rw [q, aH j (Or.inl (by omega))]
  have hM : lw_M L xs B sp_x0 sp_x0 := ⟨a1.frame bA, ⟨A, a1, u3⟩, by rw [bA 0 (by decide), aH 0 (Or.inl (by decide))]; exact z0⟩
  have b6 : lw_up (lw_cell L xs 0) 6 < 6 := lw_up_lt (by decide)
  obtain ⟨x', y', K', j, mm, hK⟩ := l_loop (S := 3384) (Ln := L) (xs := xs) (eb := nI (lw_up (lw_cell L xs 0) 6)) hL rfl b6 (by decide : 109 ≤ 214) 55 1 B sp_x0 sp_x0 (by decide) ((lw_J0 b6).mono (by decide)) hM
  obtain ⟨F, hF⟩ := l_end (S := 3384) (eb := nI (lw_up (lw_cell L xs 0) 6)) hL b6 (by decide : 109 ≤ 214) j mm
  have hK' := hK _ hF
  have e1 : nI 1 = 1 := rfl
  rw [e1] at hK'
  have ce := c_cell (S := 3384) (N := 214) (H := B) (e := 0) (k := 0) rfl (by decide) hL hM.2.2
  have cu := c_up (v := lw_cell L xs 0) (e := 6) (d := 6) (M := (214, 3384, B)) rfl (by decide) (by decide)
  have r3' : pj_Ends 0 (0, [some (.ref 109)], [], (110, 1700, pj_up A 109 (.inl (5, [.null, .null, .null, .null, .null, .int 0, .null, .null])))) (none, (214, 3384, B)) := r3
  have W : pj_Ends 61 (0, [some (.ref 0), none, none, none, none, none, none], [], (4, 0, H)) (some (.int 1), (214, 3384, F)) := by
    simp (disch := first | assumption | exact pj_long_i | exact pj_long_r | exact pj_long_n | decide) only [x61_0, x61_3, x61_3i, simprocAttr, pj_then_s, pj_pv_s, pj_pi_s, pj_set_s, if_true, if_false, not_true_eq_false, not_false_eq_true, pj_up_up, pj_up_ap, pj_upd_ap, pj_a3_0, pj_a3_1, pj_a3_2, pj_a3_u0, pj_a3_u1, pj_a3_u2]
    refine e61_4 rfl a3 ?_
    simp (disch := first | assumption | exact pj_long_i | exact pj_long_r | exact pj_long_n | decide) only [x61_7, x61_8, x61_11, x61_11i, simprocAttr, pj_then_s, pj_pv_s, pj_pi_s, pj_set_s, if_true, if_false, not_true_eq_false, not_false_eq_true, pj_up_up, pj_up_ap, pj_upd_ap, pj_a3_0, pj_a3_1, pj_a3_2, pj_a3_u0, pj_a3_u1, pj_a3_u2, pj_long_i, pj_long_r, pj_long_n]
    refine e61_12 rfl r3' ?_
    simp (disch := first | assumption | exact pj_long_i | exact pj_long_r | exact pj_long_n | decide) only [x61_15, x61_16, x61_17, simprocAttr, pj_then_s, pj_pv_s, pj_pi_s, pj_set_s, if_true, if_false, not_true_eq_false, not_false_eq_true, pj_up_up, pj_up_ap, pj_upd_ap, pj_a3_0, pj_a3_1, pj_a3_2, pj_a3_u0, pj_a3_u1, pj_a3_u2, pj_long_i, pj_long_r, pj_long_n]
    refine e61_18 rfl ce ?_
    simp (disch := first | assumption | exact pj_long_i | exact pj_long_r | exact pj_long_n | decide) only [x61_21, simprocAttr, pj_then_s, pj_pv_s, pj_pi_s, pj_set_s, if_true, if_false, not_true_eq_false, not_false_eq_true, pj_up_up, pj_up_ap, pj_upd_ap, pj_a3_0, pj_a3_1, pj_a3_2, pj_a3_u0, pj_a3_u1, pj_a3_u2]
    refine e61_23 rfl cu ?_
    simp (disch := first | assumption | exact pj_long_i | exact pj_long_r | exact pj_long_n | decide) only [x61_26, x61_27, x61_28, x61_30, x61_31, simprocAttr, pj_then_s, pj_pv_s, pj_pi_s, pj_set_s, if_true, if_false, not_true_eq_false, not_false_eq_true, pj_up_up, pj_up_ap, pj_upd_ap, pj_a3_0, pj_a3_1, pj_a3_2, pj_a3_u0, pj_a3_u1, pj_a3_u2, pj_long_i, pj_long_r, pj_long_n]
    exact hK'
  obtain ⟨n, hn⟩ := W
  unfold pj_LawOK
  rw [hH]
  exact ⟨n, (214, 3384, F), hn, (by decide : 214 ≤ 600004), (by decide : 3384 ≤ 7302250)⟩
