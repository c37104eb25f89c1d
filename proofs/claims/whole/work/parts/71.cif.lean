/-! THE CLASS'S WHAT-IFS -/
section T31
variable {N S : Nat} {H : pj_Heap} {x : pj_Sg} {b0 b1 b2 c w : Int32}
theorem i32_05 {a : Int32} (h : 0 ≤ a ∧ a ≤ 5) : a = 0 ∨ a = 1 ∨ a = 2 ∨ a = 3 ∨ a = 4 ∨ a = 5 := by
  refine i32_06 (Int32.not_lt.mpr h.1) ?_
  have h2 := h.2
  rw [Int32.le_iff_toInt_le] at h2
  rw [Int32.lt_iff_toInt_lt]
  have e3 : (6 : Int32).toInt = 6 := rfl
  have e2 : (5 : Int32).toInt = 5 := rfl
  omega
theorem C_ifTick (hc : c = 0 ∨ c = 1) (hx : pj_In x) (hC : pj_C H x) : pj_Co N S H 48 [some (.ref 4), some (.int b0), some (.int b1), some (.int b2), some (.int c), some (.int w)] (x, op_ifTick x.1 b0 b1 b2 c w) := by
  obtain ⟨t, ht, hR⟩ := hx.1
  have ea : ∀ o, (sp_ar b0 b1 b2 = 0 → pj_Ends 48 (9, [some (.ref 4), some (.int b0), some (.int b1), some (.int b2), some (.int c), some (.int w)], [], (N, S, H)) o) → (¬ sp_ar b0 b1 b2 = 0 → pj_Ends 48 (12, [some (.ref 4), some (.int b0), some (.int b1), some (.int b2), some (.int c), some (.int w)], [], (N, S, H)) o) → pj_Ends 48 (0, [some (.ref 4), some (.int b0), some (.int b1), some (.int b2), some (.int c), some (.int w)], [], (N, S, H)) o := by
    intro o K1 K2
    simp (disch := first | assumption | exact pj_long_i | exact pj_long_r | exact pj_long_n | decide) only [x48_0, x48_1, x48_2, simprocAttr, pj_then_s, pj_pv_s, pj_pi_s, pj_set_s, if_true, if_false, not_true_eq_false, not_false_eq_true, pj_up_up, pj_so110_109, pj_so111_109, pj_so112_109, pj_so113_109, pj_so114_109, pj_so115_109, pj_so116_109, pj_so117_109, pj_so111_110, pj_so112_110, pj_so113_110, pj_so114_110, pj_so115_110, pj_so116_110, pj_so117_110, pj_so112_111, pj_so113_111, pj_so114_111, pj_so115_111, pj_so116_111, pj_so117_111, pj_so113_112, pj_so114_112, pj_so115_112, pj_so116_112, pj_so117_112, pj_so114_113, pj_so115_113, pj_so116_113, pj_so117_113, pj_so115_114, pj_so116_114, pj_so117_114, pj_so116_115, pj_so117_115, pj_so117_116, pj_up_ap, pj_upd_ap, pj_a3_0, pj_a3_1, pj_a3_2, pj_a3_u0, pj_a3_u1, pj_a3_u2]
    refine e48_3 rfl c_areReadings ?_
    by_cases q : sp_ar b0 b1 b2 = 0
    · have := K1 q
      simp (disch := first | assumption | exact pj_long_i | exact pj_long_r | exact pj_long_n | decide) only [x48_6, simprocAttr, pj_then_s, pj_pv_s, pj_pi_s, pj_set_s, if_true, if_false, not_true_eq_false, not_false_eq_true, pj_up_up, pj_so110_109, pj_so111_109, pj_so112_109, pj_so113_109, pj_so114_109, pj_so115_109, pj_so116_109, pj_so117_109, pj_so111_110, pj_so112_110, pj_so113_110, pj_so114_110, pj_so115_110, pj_so116_110, pj_so117_110, pj_so112_111, pj_so113_111, pj_so114_111, pj_so115_111, pj_so116_111, pj_so117_111, pj_so113_112, pj_so114_112, pj_so115_112, pj_so116_112, pj_so117_112, pj_so114_113, pj_so115_113, pj_so116_113, pj_so117_113, pj_so115_114, pj_so116_114, pj_so117_114, pj_so116_115, pj_so117_115, pj_so117_116, pj_up_ap, pj_upd_ap, pj_a3_0, pj_a3_1, pj_a3_2, pj_a3_u0, pj_a3_u1, pj_a3_u2, q]
      exact this
    · have := K2 q
      simp (disch := first | assumption | exact pj_long_i | exact pj_long_r | exact pj_long_n | decide) only [x48_6, simprocAttr, pj_then_s, pj_pv_s, pj_pi_s, pj_set_s, if_true, if_false, not_true_eq_false, not_false_eq_true, pj_up_up, pj_so110_109, pj_so111_109, pj_so112_109, pj_so113_109, pj_so114_109, pj_so115_109, pj_so116_109, pj_so117_109, pj_so111_110, pj_so112_110, pj_so113_110, pj_so114_110, pj_so115_110, pj_so116_110, pj_so117_110, pj_so112_111, pj_so113_111, pj_so114_111, pj_so115_111, pj_so116_111, pj_so117_111, pj_so113_112, pj_so114_112, pj_so115_112, pj_so116_112, pj_so117_112, pj_so114_113, pj_so115_113, pj_so116_113, pj_so117_113, pj_so115_114, pj_so116_114, pj_so117_114, pj_so116_115, pj_so117_115, pj_so117_116, pj_up_ap, pj_upd_ap, pj_a3_0, pj_a3_1, pj_a3_2, pj_a3_u0, pj_a3_u1, pj_a3_u2, q]
      exact this
  have bad : sp_ar b0 b1 b2 = 0 → pj_Co N S H 48 [some (.ref 4), some (.int b0), some (.int b1), some (.int b2), some (.int c), some (.int w)] (x, -2) := by
    intro q
    refine pj_Co_same hC (ea _ (fun _ => ?_) (fun q' => absurd q q'))
    simp (disch := first | assumption | exact pj_long_i | exact pj_long_r | exact pj_long_n | decide) only [x48_9, simprocAttr, pj_then_s, pj_pv_s, pj_pi_s, pj_set_s, if_true, if_false, not_true_eq_false, not_false_eq_true, pj_up_up, pj_so110_109, pj_so111_109, pj_so112_109, pj_so113_109, pj_so114_109, pj_so115_109, pj_so116_109, pj_so117_109, pj_so111_110, pj_so112_110, pj_so113_110, pj_so114_110, pj_so115_110, pj_so116_110, pj_so117_110, pj_so112_111, pj_so113_111, pj_so114_111, pj_so115_111, pj_so116_111, pj_so117_111, pj_so113_112, pj_so114_112, pj_so115_112, pj_so116_112, pj_so117_112, pj_so114_113, pj_so115_113, pj_so116_113, pj_so117_113, pj_so115_114, pj_so116_114, pj_so117_114, pj_so116_115, pj_so117_115, pj_so117_116, pj_up_ap, pj_upd_ap, pj_a3_0, pj_a3_1, pj_a3_2, pj_a3_u0, pj_a3_u1, pj_a3_u2]
    exact t48_11
  unfold op_ifTick
  by_cases c0 : sp_rd b0 = 0
  · rw [if_pos c0]
    exact bad (by unfold sp_ar; rw [if_pos c0])
  rw [if_neg c0]
  by_cases c1 : sp_rd b1 = 0
  · rw [if_pos c1]
    exact bad (by unfold sp_ar; rw [if_neg c0, if_pos c1])
  rw [if_neg c1]
  by_cases c2 : sp_rd b2 = 0
  · rw [if_pos c2]
    exact bad (by unfold sp_ar; rw [if_neg c0, if_neg c1, if_pos c2])
  rw [if_neg c2]
  have ok : ¬ sp_ar b0 b1 b2 = 0 := by
    unfold sp_ar
    rw [if_neg c0, if_neg c1, if_neg c2]
    decide
  obtain ⟨H1, T1, F1, E1⟩ := c_wk_5 (N := N) (S := S) (H := H) (f := x.1) (b0 := b0) (b1 := b1) (b2 := b2) hR (by omega) hc (sp_rd_a3 c0 c1 c2) hC.2.2.2.1.2 hC.2.2.1
  obtain ⟨w14, hw14⟩ := hC.2.2.2.1.1
  have V1 : H1 4 = pj_vc x.2.1 := (F1 4 (by decide)).trans hC.2.1
  have hm := T1.1
  have hR2 := hR
  obtain ⟨-, ⟨m, hm12, r30⟩, -⟩ := hR2
  have n6 : ∀ k, k < 30 → k ≠ 6 → k ≠ 29 → sp_tick x.1 (pj_a3 b0 b1 b2) c k = tk_6 x.1 (pj_a3 b0 b1 b2) c k := fun k h1 h2 h3 => sp_tick_hi hm12 r30 (Or.inl h1) h2 h3
  have nv : sp_vot (sp_tick x.1 (pj_a3 b0 b1 b2) c) = sp_vot (tk_6 x.1 (pj_a3 b0 b1 b2) c) := by
    unfold sp_vot
    rw [n6 14 (by decide) (by decide) (by decide), n6 15 (by decide) (by decide) (by decide), n6 16 (by decide) (by decide) (by decide)]
  have n7 := n6 7 (by decide) (by decide) (by decide)
  refine ⟨H1, hC.try ⟨⟨w14, hw14.frame (fun i hi => F1 _ (by omega))⟩, T1.tk⟩ (fun j hj => F1 j (by omega)), fun j hj => F1 j (by omega), ea _ (fun q => absurd q ok) (fun _ => ?_)⟩
  simp (disch := first | assumption | exact pj_long_i | exact pj_long_r | exact pj_long_n | decide) only [x48_12, x48_13, x48_16, x48_17, x48_20, x48_21, x48_22, x48_23, simprocAttr, pj_then_s, pj_pv_s, pj_pi_s, pj_set_s, if_true, if_false, not_true_eq_false, not_false_eq_true, pj_up_up, pj_so110_109, pj_so111_109, pj_so112_109, pj_so113_109, pj_so114_109, pj_so115_109, pj_so116_109, pj_so117_109, pj_so111_110, pj_so112_110, pj_so113_110, pj_so114_110, pj_so115_110, pj_so116_110, pj_so117_110, pj_so112_111, pj_so113_111, pj_so114_111, pj_so115_111, pj_so116_111, pj_so117_111, pj_so113_112, pj_so114_112, pj_so115_112, pj_so116_112, pj_so117_112, pj_so114_113, pj_so115_113, pj_so116_113, pj_so117_113, pj_so115_114, pj_so116_114, pj_so117_114, pj_so116_115, pj_so117_115, pj_so117_116, pj_up_ap, pj_upd_ap, pj_a3_0, pj_a3_1, pj_a3_2, pj_a3_u0, pj_a3_u1, pj_a3_u2, pj_f5_2, pj_f5_0, hC.2.1, pj_vc]
  refine e48_25 rfl (by obtain ⟨ic, nm, vo, md0, ar0, lo, hi, fi, e0, e1, e2, a0', a1', a2', o0', o1', o2', p0', p1', p2', s0', s1', s2', t0', t1', t2', q0, -⟩ := hC.2.2.2.1.2; rw [q0]; rfl) E1 ?_
  unfold op_if
  rw [nv, n7]
  generalize tk_fi x.1 (pj_a3 b0 b1 b2) c = fi at hm ⊢
  generalize tk_m x.1 (pj_a3 b0 b1 b2) = md at hm ⊢
  generalize sp_vot (tk_6 x.1 (pj_a3 b0 b1 b2) c) = vo at hm ⊢
  generalize tk_lo x.1 (pj_a3 b0 b1 b2) c = lo at hm ⊢
  generalize tk_hi x.1 (pj_a3 b0 b1 b2) c = hi at hm ⊢
  generalize tk_6 x.1 (pj_a3 b0 b1 b2) c 7 = ar at hm ⊢
  by_cases c5 : 0 ≤ w ∧ w ≤ 5
  · rw [if_pos c5]
    rcases i32_05 c5 with e | e | e | e | e | e <;> subst e <;> simp only [simprocAttr, if_true, if_false]
    · simp (disch := first | assumption | exact pj_long_i | exact pj_long_r | exact pj_long_n | decide) only [x48_28, x48_30, x48_68, x48_69, x48_72, simprocAttr, pj_then_s, pj_pv_s, pj_pi_s, pj_set_s, if_true, if_false, not_true_eq_false, not_false_eq_true, pj_up_up, pj_so110_109, pj_so111_109, pj_so112_109, pj_so113_109, pj_so114_109, pj_so115_109, pj_so116_109, pj_so117_109, pj_so111_110, pj_so112_110, pj_so113_110, pj_so114_110, pj_so115_110, pj_so116_110, pj_so117_110, pj_so112_111, pj_so113_111, pj_so114_111, pj_so115_111, pj_so116_111, pj_so117_111, pj_so113_112, pj_so114_112, pj_so115_112, pj_so116_112, pj_so117_112, pj_so114_113, pj_so115_113, pj_so116_113, pj_so117_113, pj_so115_114, pj_so116_114, pj_so117_114, pj_so116_115, pj_so117_115, pj_so117_116, pj_up_ap, pj_upd_ap, pj_a3_0, pj_a3_1, pj_a3_2, pj_a3_u0, pj_a3_u1, pj_a3_u2, pj_f5_2, pj_f3_13, V1, pj_vc, hm, pj_tc]
      exact t48_75
    · simp (disch := first | assumption | exact pj_long_i | exact pj_long_r | exact pj_long_n | decide) only [x48_28, x48_30, x48_68, x48_69, x48_72, x48_76, x48_77, x48_80, x48_83, x48_85, simprocAttr, pj_then_s, pj_pv_s, pj_pi_s, pj_set_s, if_true, if_false, not_true_eq_false, not_false_eq_true, pj_up_up, pj_so110_109, pj_so111_109, pj_so112_109, pj_so113_109, pj_so114_109, pj_so115_109, pj_so116_109, pj_so117_109, pj_so111_110, pj_so112_110, pj_so113_110, pj_so114_110, pj_so115_110, pj_so116_110, pj_so117_110, pj_so112_111, pj_so113_111, pj_so114_111, pj_so115_111, pj_so116_111, pj_so117_111, pj_so113_112, pj_so114_112, pj_so115_112, pj_so116_112, pj_so117_112, pj_so114_113, pj_so115_113, pj_so116_113, pj_so117_113, pj_so115_114, pj_so116_114, pj_so117_114, pj_so116_115, pj_so117_115, pj_so117_116, pj_up_ap, pj_upd_ap, pj_a3_0, pj_a3_1, pj_a3_2, pj_a3_u0, pj_a3_u1, pj_a3_u2, pj_f5_2, pj_f3_13, pj_f3_9, V1, pj_vc, hm, pj_tc]
      exact t48_86
    · simp (disch := first | assumption | exact pj_long_i | exact pj_long_r | exact pj_long_n | decide) only [x48_28, x48_30, x48_68, x48_69, x48_72, x48_76, x48_77, x48_80, x48_83, x48_85, x48_87, x48_88, x48_91, simprocAttr, pj_then_s, pj_pv_s, pj_pi_s, pj_set_s, if_true, if_false, not_true_eq_false, not_false_eq_true, pj_up_up, pj_so110_109, pj_so111_109, pj_so112_109, pj_so113_109, pj_so114_109, pj_so115_109, pj_so116_109, pj_so117_109, pj_so111_110, pj_so112_110, pj_so113_110, pj_so114_110, pj_so115_110, pj_so116_110, pj_so117_110, pj_so112_111, pj_so113_111, pj_so114_111, pj_so115_111, pj_so116_111, pj_so117_111, pj_so113_112, pj_so114_112, pj_so115_112, pj_so116_112, pj_so117_112, pj_so114_113, pj_so115_113, pj_so116_113, pj_so117_113, pj_so115_114, pj_so116_114, pj_so117_114, pj_so116_115, pj_so117_115, pj_so117_116, pj_up_ap, pj_upd_ap, pj_a3_0, pj_a3_1, pj_a3_2, pj_a3_u0, pj_a3_u1, pj_a3_u2, pj_f5_2, pj_f3_13, pj_f3_9, pj_f3_8, V1, pj_vc, hm, pj_tc]
      exact t48_94
    · simp (disch := first | assumption | exact pj_long_i | exact pj_long_r | exact pj_long_n | decide) only [x48_28, x48_30, x48_68, x48_69, x48_72, x48_76, x48_77, x48_80, x48_83, x48_85, x48_87, x48_88, x48_91, x48_95, x48_96, x48_99, simprocAttr, pj_then_s, pj_pv_s, pj_pi_s, pj_set_s, if_true, if_false, not_true_eq_false, not_false_eq_true, pj_up_up, pj_so110_109, pj_so111_109, pj_so112_109, pj_so113_109, pj_so114_109, pj_so115_109, pj_so116_109, pj_so117_109, pj_so111_110, pj_so112_110, pj_so113_110, pj_so114_110, pj_so115_110, pj_so116_110, pj_so117_110, pj_so112_111, pj_so113_111, pj_so114_111, pj_so115_111, pj_so116_111, pj_so117_111, pj_so113_112, pj_so114_112, pj_so115_112, pj_so116_112, pj_so117_112, pj_so114_113, pj_so115_113, pj_so116_113, pj_so117_113, pj_so115_114, pj_so116_114, pj_so117_114, pj_so116_115, pj_so117_115, pj_so117_116, pj_up_ap, pj_upd_ap, pj_a3_0, pj_a3_1, pj_a3_2, pj_a3_u0, pj_a3_u1, pj_a3_u2, pj_f5_2, pj_f3_13, pj_f3_9, pj_f3_8, pj_f3_11, V1, pj_vc, hm, pj_tc]
      exact t48_102
    · simp (disch := first | assumption | exact pj_long_i | exact pj_long_r | exact pj_long_n | decide) only [x48_28, x48_30, x48_68, x48_69, x48_72, x48_76, x48_77, x48_80, x48_83, x48_85, x48_87, x48_88, x48_91, x48_95, x48_96, x48_99, x48_103, x48_104, x48_107, simprocAttr, pj_then_s, pj_pv_s, pj_pi_s, pj_set_s, if_true, if_false, not_true_eq_false, not_false_eq_true, pj_up_up, pj_so110_109, pj_so111_109, pj_so112_109, pj_so113_109, pj_so114_109, pj_so115_109, pj_so116_109, pj_so117_109, pj_so111_110, pj_so112_110, pj_so113_110, pj_so114_110, pj_so115_110, pj_so116_110, pj_so117_110, pj_so112_111, pj_so113_111, pj_so114_111, pj_so115_111, pj_so116_111, pj_so117_111, pj_so113_112, pj_so114_112, pj_so115_112, pj_so116_112, pj_so117_112, pj_so114_113, pj_so115_113, pj_so116_113, pj_so117_113, pj_so115_114, pj_so116_114, pj_so117_114, pj_so116_115, pj_so117_115, pj_so117_116, pj_up_ap, pj_upd_ap, pj_a3_0, pj_a3_1, pj_a3_2, pj_a3_u0, pj_a3_u1, pj_a3_u2, pj_f5_2, pj_f3_13, pj_f3_9, pj_f3_8, pj_f3_11, pj_f3_12, V1, pj_vc, hm, pj_tc]
      exact t48_110
    · by_cases c7 : ar ≤ 0
      · rw [if_pos c7]
        simp (disch := first | assumption | exact pj_long_i | exact pj_long_r | exact pj_long_n | decide) only [x48_28, x48_30, x48_68, x48_69, x48_72, x48_76, x48_77, x48_80, x48_83, x48_85, x48_87, x48_88, x48_91, x48_95, x48_96, x48_99, x48_103, x48_104, x48_107, x48_111, x48_112, x48_115, x48_118, x48_121, x48_122, x48_125, simprocAttr, pj_then_s, pj_pv_s, pj_pi_s, pj_set_s, if_true, if_false, not_true_eq_false, not_false_eq_true, pj_up_up, pj_so110_109, pj_so111_109, pj_so112_109, pj_so113_109, pj_so114_109, pj_so115_109, pj_so116_109, pj_so117_109, pj_so111_110, pj_so112_110, pj_so113_110, pj_so114_110, pj_so115_110, pj_so116_110, pj_so117_110, pj_so112_111, pj_so113_111, pj_so114_111, pj_so115_111, pj_so116_111, pj_so117_111, pj_so113_112, pj_so114_112, pj_so115_112, pj_so116_112, pj_so117_112, pj_so114_113, pj_so115_113, pj_so116_113, pj_so117_113, pj_so115_114, pj_so116_114, pj_so117_114, pj_so116_115, pj_so117_115, pj_so117_116, pj_up_ap, pj_upd_ap, pj_a3_0, pj_a3_1, pj_a3_2, pj_a3_u0, pj_a3_u1, pj_a3_u2, pj_f5_2, pj_f3_13, pj_f3_9, pj_f3_8, pj_f3_11, pj_f3_12, pj_f3_10, V1, pj_vc, hm, pj_tc, c7]
        refine e48_126 rfl (c_asNumber (Or.inl rfl)) ?_
        exact t48_129
      · rw [if_neg c7]
        simp (disch := first | assumption | exact pj_long_i | exact pj_long_r | exact pj_long_n | decide) only [x48_28, x48_30, x48_68, x48_69, x48_72, x48_76, x48_77, x48_80, x48_83, x48_85, x48_87, x48_88, x48_91, x48_95, x48_96, x48_99, x48_103, x48_104, x48_107, x48_111, x48_112, x48_115, x48_118, x48_121, x48_122, x48_125, simprocAttr, pj_then_s, pj_pv_s, pj_pi_s, pj_set_s, if_true, if_false, not_true_eq_false, not_false_eq_true, pj_up_up, pj_so110_109, pj_so111_109, pj_so112_109, pj_so113_109, pj_so114_109, pj_so115_109, pj_so116_109, pj_so117_109, pj_so111_110, pj_so112_110, pj_so113_110, pj_so114_110, pj_so115_110, pj_so116_110, pj_so117_110, pj_so112_111, pj_so113_111, pj_so114_111, pj_so115_111, pj_so116_111, pj_so117_111, pj_so113_112, pj_so114_112, pj_so115_112, pj_so116_112, pj_so117_112, pj_so114_113, pj_so115_113, pj_so116_113, pj_so117_113, pj_so115_114, pj_so116_114, pj_so117_114, pj_so116_115, pj_so117_115, pj_so117_116, pj_up_ap, pj_upd_ap, pj_a3_0, pj_a3_1, pj_a3_2, pj_a3_u0, pj_a3_u1, pj_a3_u2, pj_f5_2, pj_f3_13, pj_f3_9, pj_f3_8, pj_f3_11, pj_f3_12, pj_f3_10, V1, pj_vc, hm, pj_tc, c7]
        refine e48_126 rfl (c_asNumber (Or.inr rfl)) ?_
        exact t48_129
  · rw [if_neg c5]
    have w0 : ¬ w = 0 := fun q => c5 (by subst q; decide)
    have w1 : ¬ w = 1 := fun q => c5 (by subst q; decide)
    have w2 : ¬ w = 2 := fun q => c5 (by subst q; decide)
    have w3 : ¬ w = 3 := fun q => c5 (by subst q; decide)
    have w4 : ¬ w = 4 := fun q => c5 (by subst q; decide)
    have w5 : ¬ w = 5 := fun q => c5 (by subst q; decide)
    simp (disch := first | assumption | exact pj_long_i | exact pj_long_r | exact pj_long_n | decide) only [x48_28, x48_30, x48_68, x48_69, x48_72, x48_76, x48_77, x48_80, x48_83, x48_85, x48_87, x48_88, x48_91, x48_95, x48_96, x48_99, x48_103, x48_104, x48_107, x48_111, x48_112, x48_115, x48_118, x48_121, x48_122, x48_125, x48_130, simprocAttr, pj_then_s, pj_pv_s, pj_pi_s, pj_set_s, if_true, if_false, not_true_eq_false, not_false_eq_true, pj_up_up, pj_so110_109, pj_so111_109, pj_so112_109, pj_so113_109, pj_so114_109, pj_so115_109, pj_so116_109, pj_so117_109, pj_so111_110, pj_so112_110, pj_so113_110, pj_so114_110, pj_so115_110, pj_so116_110, pj_so117_110, pj_so112_111, pj_so113_111, pj_so114_111, pj_so115_111, pj_so116_111, pj_so117_111, pj_so113_112, pj_so114_112, pj_so115_112, pj_so116_112, pj_so117_112, pj_so114_113, pj_so115_113, pj_so116_113, pj_so117_113, pj_so115_114, pj_so116_114, pj_so117_114, pj_so116_115, pj_so117_115, pj_so117_116, pj_up_ap, pj_upd_ap, pj_a3_0, pj_a3_1, pj_a3_2, pj_a3_u0, pj_a3_u1, pj_a3_u2, pj_f5_2, pj_f3_13, pj_f3_9, pj_f3_8, pj_f3_11, pj_f3_12, pj_f3_10, w0, w1, w2, w3, w4, w5]
    exact t48_132
theorem c_lr_l {a : Int32} (hc : c = 0 ∨ c = 1) (hx : pj_In x) : ∀ (n i N S : Nat) (H : pj_Heap), i + n = 1001 → pj_C H x → ∃ H', pj_C H' x ∧ (∀ j, j < 4 ∨ 108 < j → H' j = H j) ∧ pj_Ends 49 (15, [some (.ref 4), some (.int a), some (.int c), some (.int (nI i - 500))], [], (N, S, H)) (some (.int (op_lr x.1 a c n i)), (N, S, H'))
  | 0, i, N, S, H, hi, hC => by
    have ei : i = 1001 := by omega
    subst ei
    have e : nI 1001 - 500 = 501 := by decide
    rw [e]
    refine ⟨H, hC, fun _ _ => rfl, ?_⟩
    unfold op_lr
    simp (disch := first | assumption | exact pj_long_i | exact pj_long_r | exact pj_long_n | decide) only [x49_15, x49_16, x49_19, x49_22, x49_23, x49_26, x49_27, x49_30, x49_31, x49_32, x49_33, x49_37, x49_38, x49_41, x49_44, x49_48, x49_51, x49_52, x49_54, x49_56, x49_59, x49_62, simprocAttr, pj_then_s, pj_pv_s, pj_pi_s, pj_set_s, if_true, if_false, not_true_eq_false, not_false_eq_true, pj_up_up, pj_so110_109, pj_so111_109, pj_so112_109, pj_so113_109, pj_so114_109, pj_so115_109, pj_so116_109, pj_so117_109, pj_so111_110, pj_so112_110, pj_so113_110, pj_so114_110, pj_so115_110, pj_so116_110, pj_so117_110, pj_so112_111, pj_so113_111, pj_so114_111, pj_so115_111, pj_so116_111, pj_so117_111, pj_so113_112, pj_so114_112, pj_so115_112, pj_so116_112, pj_so117_112, pj_so114_113, pj_so115_113, pj_so116_113, pj_so117_113, pj_so115_114, pj_so116_114, pj_so117_114, pj_so116_115, pj_so117_115, pj_so117_116, pj_up_ap, pj_upd_ap, pj_a3_0, pj_a3_1, pj_a3_2, pj_a3_u0, pj_a3_u1, pj_a3_u2, pj_f5_2, pj_f5_0, pj_f3_13, pj_long_i, pj_long_r, pj_long_n]
    exact t49_64
  | n + 1, i, N, S, H, hi, hC => by
    obtain ⟨t, ht, hR⟩ := hx.1
    have c3 := pj_rv_le (i := i) (by omega)
    have c3' : nI i - 500 ≤ 500 := Int32.not_lt.mp c3
    have rd : ¬ sp_rd (nI i - 500) = 0 := by
      rw [pj_rv_rd (by omega)]
      decide
    have rs := pj_rv_s i
    obtain ⟨H1, T1, F1, E1⟩ := c_wk_5 (N := N) (S := S) (H := H) (f := x.1) (b0 := nI i - 500) (b1 := nI i - 500) (b2 := nI i - 500) hR (by omega) hc (sp_rd_a3 rd rd rd) hC.2.2.2.1.2 hC.2.2.1
    obtain ⟨w14, hw14⟩ := hC.2.2.2.1.1
    have V1 : H1 4 = pj_vc x.2.1 := (F1 4 (by decide)).trans hC.2.1
    have hm := T1.1
    have hC1 : pj_C H1 x := hC.try ⟨⟨w14, hw14.frame (fun i hi => F1 _ (by omega))⟩, T1.tk⟩ (fun j hj => F1 j (by omega))
    obtain ⟨H2, g1, g2, g3⟩ := c_lr_l (a := a) hc hx n (i + 1) N S H1 (by omega) hC1
    unfold op_lr
    generalize tk_fi x.1 (pj_a3 (nI i - 500) (nI i - 500) (nI i - 500)) c = fi at hm ⊢
    generalize tk_m x.1 (pj_a3 (nI i - 500) (nI i - 500) (nI i - 500)) = md at hm ⊢
    generalize sp_vot (tk_6 x.1 (pj_a3 (nI i - 500) (nI i - 500) (nI i - 500)) c) = vo at hm ⊢
    generalize tk_lo x.1 (pj_a3 (nI i - 500) (nI i - 500) (nI i - 500)) c = lo at hm ⊢
    generalize tk_hi x.1 (pj_a3 (nI i - 500) (nI i - 500) (nI i - 500)) c = hi at hm ⊢
    generalize tk_6 x.1 (pj_a3 (nI i - 500) (nI i - 500) (nI i - 500)) c 7 = ar at hm ⊢
    rw [← rs] at g3
    have V0 := hC.2.1
    generalize hv : nI i - 500 = v at c3 c3' g3 E1 ⊢
    have tcl := hC.2.2.2.1.2
    by_cases q : fi >>> (a &&& 31) &&& 1 = 1
    · rw [if_pos q]
      refine ⟨H1, hC1, fun j hj => F1 j (by omega), ?_⟩
      simp (disch := first | assumption | exact pj_long_i | exact pj_long_r | exact pj_long_n | decide) only [x49_15, x49_16, x49_19, x49_22, x49_23, x49_26, x49_27, x49_30, x49_31, x49_32, x49_33, simprocAttr, pj_then_s, pj_pv_s, pj_pi_s, pj_set_s, if_true, if_false, not_true_eq_false, not_false_eq_true, pj_up_up, pj_so110_109, pj_so111_109, pj_so112_109, pj_so113_109, pj_so114_109, pj_so115_109, pj_so116_109, pj_so117_109, pj_so111_110, pj_so112_110, pj_so113_110, pj_so114_110, pj_so115_110, pj_so116_110, pj_so117_110, pj_so112_111, pj_so113_111, pj_so114_111, pj_so115_111, pj_so116_111, pj_so117_111, pj_so113_112, pj_so114_112, pj_so115_112, pj_so116_112, pj_so117_112, pj_so114_113, pj_so115_113, pj_so116_113, pj_so117_113, pj_so115_114, pj_so116_114, pj_so117_114, pj_so116_115, pj_so117_115, pj_so117_116, pj_up_ap, pj_upd_ap, pj_a3_0, pj_a3_1, pj_a3_2, pj_a3_u0, pj_a3_u1, pj_a3_u2, pj_f5_2, pj_f5_0, V0, pj_vc, c3, c3']
      refine e49_34 rfl (by obtain ⟨ic, nm, vo, md0, ar0, lo, hi, fi, e0, e1, e2, a0', a1', a2', o0', o1', o2', p0', p1', p2', s0', s1', s2', t0', t1', t2', q0, -⟩ := tcl; rw [q0]; rfl) E1 ?_
      simp (disch := first | assumption | exact pj_long_i | exact pj_long_r | exact pj_long_n | decide) only [x49_37, x49_38, x49_41, x49_44, simprocAttr, pj_then_s, pj_pv_s, pj_pi_s, pj_set_s, if_true, if_false, not_true_eq_false, not_false_eq_true, pj_up_up, pj_so110_109, pj_so111_109, pj_so112_109, pj_so113_109, pj_so114_109, pj_so115_109, pj_so116_109, pj_so117_109, pj_so111_110, pj_so112_110, pj_so113_110, pj_so114_110, pj_so115_110, pj_so116_110, pj_so117_110, pj_so112_111, pj_so113_111, pj_so114_111, pj_so115_111, pj_so116_111, pj_so117_111, pj_so113_112, pj_so114_112, pj_so115_112, pj_so116_112, pj_so117_112, pj_so114_113, pj_so115_113, pj_so116_113, pj_so117_113, pj_so115_114, pj_so116_114, pj_so117_114, pj_so116_115, pj_so117_115, pj_so117_116, pj_up_ap, pj_upd_ap, pj_a3_0, pj_a3_1, pj_a3_2, pj_a3_u0, pj_a3_u1, pj_a3_u2, pj_f5_2, pj_f3_13, V1, pj_vc, hm, pj_tc]
      refine e49_45 rfl c_has ?_
      rw [if_pos q]
      simp (disch := first | assumption | exact pj_long_i | exact pj_long_r | exact pj_long_n | decide) only [x49_48, x49_51, x49_52, x49_54, simprocAttr, pj_then_s, pj_pv_s, pj_pi_s, pj_set_s, if_true, if_false, not_true_eq_false, not_false_eq_true, pj_up_up, pj_so110_109, pj_so111_109, pj_so112_109, pj_so113_109, pj_so114_109, pj_so115_109, pj_so116_109, pj_so117_109, pj_so111_110, pj_so112_110, pj_so113_110, pj_so114_110, pj_so115_110, pj_so116_110, pj_so117_110, pj_so112_111, pj_so113_111, pj_so114_111, pj_so115_111, pj_so116_111, pj_so117_111, pj_so113_112, pj_so114_112, pj_so115_112, pj_so116_112, pj_so117_112, pj_so114_113, pj_so115_113, pj_so116_113, pj_so117_113, pj_so115_114, pj_so116_114, pj_so117_114, pj_so116_115, pj_so117_115, pj_so117_116, pj_up_ap, pj_upd_ap, pj_a3_0, pj_a3_1, pj_a3_2, pj_a3_u0, pj_a3_u1, pj_a3_u2]
      exact t49_55
    · rw [if_neg q]
      refine ⟨H2, g1, fun j hj => (g2 j hj).trans (F1 j (by omega)), ?_⟩
      simp (disch := first | assumption | exact pj_long_i | exact pj_long_r | exact pj_long_n | decide) only [x49_15, x49_16, x49_19, x49_22, x49_23, x49_26, x49_27, x49_30, x49_31, x49_32, x49_33, simprocAttr, pj_then_s, pj_pv_s, pj_pi_s, pj_set_s, if_true, if_false, not_true_eq_false, not_false_eq_true, pj_up_up, pj_so110_109, pj_so111_109, pj_so112_109, pj_so113_109, pj_so114_109, pj_so115_109, pj_so116_109, pj_so117_109, pj_so111_110, pj_so112_110, pj_so113_110, pj_so114_110, pj_so115_110, pj_so116_110, pj_so117_110, pj_so112_111, pj_so113_111, pj_so114_111, pj_so115_111, pj_so116_111, pj_so117_111, pj_so113_112, pj_so114_112, pj_so115_112, pj_so116_112, pj_so117_112, pj_so114_113, pj_so115_113, pj_so116_113, pj_so117_113, pj_so115_114, pj_so116_114, pj_so117_114, pj_so116_115, pj_so117_115, pj_so117_116, pj_up_ap, pj_upd_ap, pj_a3_0, pj_a3_1, pj_a3_2, pj_a3_u0, pj_a3_u1, pj_a3_u2, pj_f5_2, pj_f5_0, V0, pj_vc, c3, c3']
      refine e49_34 rfl (by obtain ⟨ic, nm, vo, md0, ar0, lo, hi, fi, e0, e1, e2, a0', a1', a2', o0', o1', o2', p0', p1', p2', s0', s1', s2', t0', t1', t2', q0, -⟩ := tcl; rw [q0]; rfl) E1 ?_
      simp (disch := first | assumption | exact pj_long_i | exact pj_long_r | exact pj_long_n | decide) only [x49_37, x49_38, x49_41, x49_44, simprocAttr, pj_then_s, pj_pv_s, pj_pi_s, pj_set_s, if_true, if_false, not_true_eq_false, not_false_eq_true, pj_up_up, pj_so110_109, pj_so111_109, pj_so112_109, pj_so113_109, pj_so114_109, pj_so115_109, pj_so116_109, pj_so117_109, pj_so111_110, pj_so112_110, pj_so113_110, pj_so114_110, pj_so115_110, pj_so116_110, pj_so117_110, pj_so112_111, pj_so113_111, pj_so114_111, pj_so115_111, pj_so116_111, pj_so117_111, pj_so113_112, pj_so114_112, pj_so115_112, pj_so116_112, pj_so117_112, pj_so114_113, pj_so115_113, pj_so116_113, pj_so117_113, pj_so115_114, pj_so116_114, pj_so117_114, pj_so116_115, pj_so117_115, pj_so117_116, pj_up_ap, pj_upd_ap, pj_a3_0, pj_a3_1, pj_a3_2, pj_a3_u0, pj_a3_u1, pj_a3_u2, pj_f5_2, pj_f3_13, V1, pj_vc, hm, pj_tc]
      refine e49_45 rfl c_has ?_
      rw [if_neg q]
      simp (disch := first | assumption | exact pj_long_i | exact pj_long_r | exact pj_long_n | decide) only [x49_48, x49_51, x49_52, x49_54, x49_56, x49_59, simprocAttr, pj_then_s, pj_pv_s, pj_pi_s, pj_set_s, if_true, if_false, not_true_eq_false, not_false_eq_true, pj_up_up, pj_so110_109, pj_so111_109, pj_so112_109, pj_so113_109, pj_so114_109, pj_so115_109, pj_so116_109, pj_so117_109, pj_so111_110, pj_so112_110, pj_so113_110, pj_so114_110, pj_so115_110, pj_so116_110, pj_so117_110, pj_so112_111, pj_so113_111, pj_so114_111, pj_so115_111, pj_so116_111, pj_so117_111, pj_so113_112, pj_so114_112, pj_so115_112, pj_so116_112, pj_so117_112, pj_so114_113, pj_so115_113, pj_so116_113, pj_so117_113, pj_so115_114, pj_so116_114, pj_so117_114, pj_so116_115, pj_so117_115, pj_so117_116, pj_up_ap, pj_upd_ap, pj_a3_0, pj_a3_1, pj_a3_2, pj_a3_u0, pj_a3_u1, pj_a3_u2, pj_long_i, pj_long_r, pj_long_n]
      exact g3
theorem C_leastReading {a : Int32} (hc : c = 0 ∨ c = 1) (hx : pj_In x) (hC : pj_C H x) : pj_Co N S H 49 [some (.ref 4), some (.int a), some (.int c), none] (x, op_leastReading x.1 a c) := by
  unfold op_leastReading
  by_cases k : sp_th a = 0
  · rw [if_pos k]
    refine pj_Co_same hC ?_
    rcases i32_th k with q | ⟨q, q2⟩
    · simp (disch := first | assumption | exact pj_long_i | exact pj_long_r | exact pj_long_n | decide) only [x49_0, x49_1, x49_4, x49_5, x49_6, x49_9, simprocAttr, pj_then_s, pj_pv_s, pj_pi_s, pj_set_s, if_true, if_false, not_true_eq_false, not_false_eq_true, pj_up_up, pj_so110_109, pj_so111_109, pj_so112_109, pj_so113_109, pj_so114_109, pj_so115_109, pj_so116_109, pj_so117_109, pj_so111_110, pj_so112_110, pj_so113_110, pj_so114_110, pj_so115_110, pj_so116_110, pj_so117_110, pj_so112_111, pj_so113_111, pj_so114_111, pj_so115_111, pj_so116_111, pj_so117_111, pj_so113_112, pj_so114_112, pj_so115_112, pj_so116_112, pj_so117_112, pj_so114_113, pj_so115_113, pj_so116_113, pj_so117_113, pj_so115_114, pj_so116_114, pj_so117_114, pj_so116_115, pj_so117_115, pj_so117_116, pj_up_ap, pj_upd_ap, pj_a3_0, pj_a3_1, pj_a3_2, pj_a3_u0, pj_a3_u1, pj_a3_u2, q]
      exact t49_10
    · simp (disch := first | assumption | exact pj_long_i | exact pj_long_r | exact pj_long_n | decide) only [x49_0, x49_1, x49_4, x49_5, x49_6, x49_9, simprocAttr, pj_then_s, pj_pv_s, pj_pi_s, pj_set_s, if_true, if_false, not_true_eq_false, not_false_eq_true, pj_up_up, pj_so110_109, pj_so111_109, pj_so112_109, pj_so113_109, pj_so114_109, pj_so115_109, pj_so116_109, pj_so117_109, pj_so111_110, pj_so112_110, pj_so113_110, pj_so114_110, pj_so115_110, pj_so116_110, pj_so117_110, pj_so112_111, pj_so113_111, pj_so114_111, pj_so115_111, pj_so116_111, pj_so117_111, pj_so113_112, pj_so114_112, pj_so115_112, pj_so116_112, pj_so117_112, pj_so114_113, pj_so115_113, pj_so116_113, pj_so117_113, pj_so115_114, pj_so116_114, pj_so117_114, pj_so116_115, pj_so117_115, pj_so117_116, pj_up_ap, pj_upd_ap, pj_a3_0, pj_a3_1, pj_a3_2, pj_a3_u0, pj_a3_u1, pj_a3_u2, q, q2]
      exact t49_10
  · rw [if_neg k]
    obtain ⟨H', h1, h2, h3⟩ := c_lr_l (a := a) hc hx 1001 0 N S H (by decide) hC
    have e : nI 0 - 500 = -500 := by decide
    rw [e] at h3
    refine ⟨H', h1, h2, ?_⟩
    rcases sp_th_lt k with q | q | q <;> subst q
    · simp (disch := first | assumption | exact pj_long_i | exact pj_long_r | exact pj_long_n | decide) only [x49_0, x49_1, x49_4, x49_5, x49_6, x49_9, x49_11, x49_14, simprocAttr, pj_then_s, pj_pv_s, pj_pi_s, pj_set_s, if_true, if_false, not_true_eq_false, not_false_eq_true, pj_up_up, pj_so110_109, pj_so111_109, pj_so112_109, pj_so113_109, pj_so114_109, pj_so115_109, pj_so116_109, pj_so117_109, pj_so111_110, pj_so112_110, pj_so113_110, pj_so114_110, pj_so115_110, pj_so116_110, pj_so117_110, pj_so112_111, pj_so113_111, pj_so114_111, pj_so115_111, pj_so116_111, pj_so117_111, pj_so113_112, pj_so114_112, pj_so115_112, pj_so116_112, pj_so117_112, pj_so114_113, pj_so115_113, pj_so116_113, pj_so117_113, pj_so115_114, pj_so116_114, pj_so117_114, pj_so116_115, pj_so117_115, pj_so117_116, pj_up_ap, pj_upd_ap, pj_a3_0, pj_a3_1, pj_a3_2, pj_a3_u0, pj_a3_u1, pj_a3_u2, pj_long_i, pj_long_r, pj_long_n]
      exact h3
    · simp (disch := first | assumption | exact pj_long_i | exact pj_long_r | exact pj_long_n | decide) only [x49_0, x49_1, x49_4, x49_5, x49_6, x49_9, x49_11, x49_14, simprocAttr, pj_then_s, pj_pv_s, pj_pi_s, pj_set_s, if_true, if_false, not_true_eq_false, not_false_eq_true, pj_up_up, pj_so110_109, pj_so111_109, pj_so112_109, pj_so113_109, pj_so114_109, pj_so115_109, pj_so116_109, pj_so117_109, pj_so111_110, pj_so112_110, pj_so113_110, pj_so114_110, pj_so115_110, pj_so116_110, pj_so117_110, pj_so112_111, pj_so113_111, pj_so114_111, pj_so115_111, pj_so116_111, pj_so117_111, pj_so113_112, pj_so114_112, pj_so115_112, pj_so116_112, pj_so117_112, pj_so114_113, pj_so115_113, pj_so116_113, pj_so117_113, pj_so115_114, pj_so116_114, pj_so117_114, pj_so116_115, pj_so117_115, pj_so117_116, pj_up_ap, pj_upd_ap, pj_a3_0, pj_a3_1, pj_a3_2, pj_a3_u0, pj_a3_u1, pj_a3_u2, pj_long_i, pj_long_r, pj_long_n]
      exact h3
    · simp (disch := first | assumption | exact pj_long_i | exact pj_long_r | exact pj_long_n | decide) only [x49_0, x49_1, x49_4, x49_5, x49_6, x49_9, x49_11, x49_14, simprocAttr, pj_then_s, pj_pv_s, pj_pi_s, pj_set_s, if_true, if_false, not_true_eq_false, not_false_eq_true, pj_up_up, pj_so110_109, pj_so111_109, pj_so112_109, pj_so113_109, pj_so114_109, pj_so115_109, pj_so116_109, pj_so117_109, pj_so111_110, pj_so112_110, pj_so113_110, pj_so114_110, pj_so115_110, pj_so116_110, pj_so117_110, pj_so112_111, pj_so113_111, pj_so114_111, pj_so115_111, pj_so116_111, pj_so117_111, pj_so113_112, pj_so114_112, pj_so115_112, pj_so116_112, pj_so117_112, pj_so114_113, pj_so115_113, pj_so116_113, pj_so117_113, pj_so115_114, pj_so116_114, pj_so117_114, pj_so116_115, pj_so117_115, pj_so117_116, pj_up_ap, pj_upd_ap, pj_a3_0, pj_a3_1, pj_a3_2, pj_a3_u0, pj_a3_u1, pj_a3_u2, pj_long_i, pj_long_r, pj_long_n]
      exact h3
end T31
