/-! THE CLASS'S WHAT-IFS -/
section T31
variable {N S : Nat} {H : pj_Heap} {x : pj_Sg} {b0 b1 b2 c w : Int32}
theorem i32_05 {a : Int32} (h : 0 ≤ a ∧ a ≤ 5) : a = 0 ∨ a = 1 ∨ a = 2 ∨ a = 3 ∨ a = 4 ∨ a = 5 := by
  refine i32_06 (Int32.not_lt.mpr h.1) ?_
  have h2 := h.2
  rw [Int32.le_iff_toInt_le] at h2
  rw [Int32.lt_iff_toInt_lt]
  have e3 : (6 : Int32).toInt = 6 := rfl
  have e2 : (5 : Int32).toInt = 5 := rfl
  omega
theorem C_ifTick (hc : c = 0 ∨ c = 1) (hx : pj_In x) (hC : pj_C H x) : pj_Co N S H 52 [some (.ref 4), some (.int b0), some (.int b1), some (.int b2), some (.int c), some (.int w)] (x, op_ifTick x.1 b0 b1 b2 c w) := by
  obtain ⟨t, ht, hR⟩ := hx.1
  have ea : ∀ o, (sp_ar b0 b1 b2 = 0 → pj_Ends 52 (9, [some (.ref 4), some (.int b0), some (.int b1), some (.int b2), some (.int c), some (.int w)], [], (N, S, H)) o) → (¬ sp_ar b0 b1 b2 = 0 → pj_Ends 52 (12, [some (.ref 4), some (.int b0), some (.int b1), some (.int b2), some (.int c), some (.int w)], [], (N, S, H)) o) → pj_Ends 52 (0, [some (.ref 4), some (.int b0), some (.int b1), some (.int b2), some (.int c), some (.int w)], [], (N, S, H)) o := by
    intro o K1 K2
    simp (disch := first | assumption | exact pj_long_i | exact pj_long_r | exact pj_long_n | decide) only [x52_0, x52_1, x52_2, simprocAttr, pj_then_s, pj_pv_s, pj_pi_s, pj_set_s, if_true, if_false, not_true_eq_false, not_false_eq_true, pj_up_up, pj_so110_109, pj_so111_109, pj_so112_109, pj_so113_109, pj_so114_109, pj_so115_109, pj_so116_109, pj_so117_109, pj_so111_110, pj_so112_110, pj_so113_110, pj_so114_110, pj_so115_110, pj_so116_110, pj_so117_110, pj_so112_111, pj_so113_111, pj_so114_111, pj_so115_111, pj_so116_111, pj_so117_111, pj_so113_112, pj_so114_112, pj_so115_112, pj_so116_112, pj_so117_112, pj_so114_113, pj_so115_113, pj_so116_113, pj_so117_113, pj_so115_114, pj_so116_114, pj_so117_114, pj_so116_115, pj_so117_115, pj_so117_116, pj_up_ap, pj_upd_ap, pj_a3_0, pj_a3_1, pj_a3_2, pj_a3_u0, pj_a3_u1, pj_a3_u2]
    refine e52_3 rfl c_areReadings ?_
    by_cases q : sp_ar b0 b1 b2 = 0
    · have := K1 q
      simp (disch := first | assumption | exact pj_long_i | exact pj_long_r | exact pj_long_n | decide) only [x52_6, simprocAttr, pj_then_s, pj_pv_s, pj_pi_s, pj_set_s, if_true, if_false, not_true_eq_false, not_false_eq_true, pj_up_up, pj_so110_109, pj_so111_109, pj_so112_109, pj_so113_109, pj_so114_109, pj_so115_109, pj_so116_109, pj_so117_109, pj_so111_110, pj_so112_110, pj_so113_110, pj_so114_110, pj_so115_110, pj_so116_110, pj_so117_110, pj_so112_111, pj_so113_111, pj_so114_111, pj_so115_111, pj_so116_111, pj_so117_111, pj_so113_112, pj_so114_112, pj_so115_112, pj_so116_112, pj_so117_112, pj_so114_113, pj_so115_113, pj_so116_113, pj_so117_113, pj_so115_114, pj_so116_114, pj_so117_114, pj_so116_115, pj_so117_115, pj_so117_116, pj_up_ap, pj_upd_ap, pj_a3_0, pj_a3_1, pj_a3_2, pj_a3_u0, pj_a3_u1, pj_a3_u2, q]
      exact this
    · have := K2 q
      simp (disch := first | assumption | exact pj_long_i | exact pj_long_r | exact pj_long_n | decide) only [x52_6, simprocAttr, pj_then_s, pj_pv_s, pj_pi_s, pj_set_s, if_true, if_false, not_true_eq_false, not_false_eq_true, pj_up_up, pj_so110_109, pj_so111_109, pj_so112_109, pj_so113_109, pj_so114_109, pj_so115_109, pj_so116_109, pj_so117_109, pj_so111_110, pj_so112_110, pj_so113_110, pj_so114_110, pj_so115_110, pj_so116_110, pj_so117_110, pj_so112_111, pj_so113_111, pj_so114_111, pj_so115_111, pj_so116_111, pj_so117_111, pj_so113_112, pj_so114_112, pj_so115_112, pj_so116_112, pj_so117_112, pj_so114_113, pj_so115_113, pj_so116_113, pj_so117_113, pj_so115_114, pj_so116_114, pj_so117_114, pj_so116_115, pj_so117_115, pj_so117_116, pj_up_ap, pj_upd_ap, pj_a3_0, pj_a3_1, pj_a3_2, pj_a3_u0, pj_a3_u1, pj_a3_u2, q]
      exact this
  have bad : sp_ar b0 b1 b2 = 0 → pj_Co N S H 52 [some (.ref 4), some (.int b0), some (.int b1), some (.int b2), some (.int c), some (.int w)] (x, -2) := by
    intro q
    refine pj_Co_same hC (ea _ (fun _ => ?_) (fun q' => absurd q q'))
    simp (disch := first | assumption | exact pj_long_i | exact pj_long_r | exact pj_long_n | decide) only [x52_9, simprocAttr, pj_then_s, pj_pv_s, pj_pi_s, pj_set_s, if_true, if_false, not_true_eq_false, not_false_eq_true, pj_up_up, pj_so110_109, pj_so111_109, pj_so112_109, pj_so113_109, pj_so114_109, pj_so115_109, pj_so116_109, pj_so117_109, pj_so111_110, pj_so112_110, pj_so113_110, pj_so114_110, pj_so115_110, pj_so116_110, pj_so117_110, pj_so112_111, pj_so113_111, pj_so114_111, pj_so115_111, pj_so116_111, pj_so117_111, pj_so113_112, pj_so114_112, pj_so115_112, pj_so116_112, pj_so117_112, pj_so114_113, pj_so115_113, pj_so116_113, pj_so117_113, pj_so115_114, pj_so116_114, pj_so117_114, pj_so116_115, pj_so117_115, pj_so117_116, pj_up_ap, pj_upd_ap, pj_a3_0, pj_a3_1, pj_a3_2, pj_a3_u0, pj_a3_u1, pj_a3_u2]
    exact t52_11
  unfold op_ifTick
  by_cases c0 : sp_rd b0 = 0
  · rw [if_pos c0]
    exact bad (by unfold sp_ar; rw [if_pos c0])
  rw [if_neg c0]
  by_cases c1 : sp_rd b1 = 0
  · rw [if_pos c1]
    exact bad (by unfold sp_ar; rw [if_neg c0, if_pos c1])
  rw [if_neg c1]
  by_cases c2 : sp_rd b2 = 0
  · rw [if_pos c2]
    exact bad (by unfold sp_ar; rw [if_neg c0, if_neg c1, if_pos c2])
  rw [if_neg c2]
  have ok : ¬ sp_ar b0 b1 b2 = 0 := by
    unfold sp_ar
    rw [if_neg c0, if_neg c1, if_neg c2]
    decide
  obtain ⟨H1, T1, F1, E1⟩ := c_wk_5 (N := N) (S := S) (H := H) (f := x.1) (b0 := b0) (b1 := b1) (b2 := b2) hR (by omega) hc (sp_rd_a3 c0 c1 c2) hC.2.2.2.1.2 hC.2.2.1
  obtain ⟨w14, hw14⟩ := hC.2.2.2.1.1
  have V1 : H1 4 = pj_vc x.2.1 := (F1 4 (by decide)).trans hC.2.1
  have hm := T1.1
  have hR2 := hR
  obtain ⟨-, ⟨m, hm12, r30⟩, -⟩ := hR2
  have n6 : ∀ k, k < 30 → k ≠ 6 → k ≠ 29 → sp_tick x.1 (pj_a3 b0 b1 b2) c k = tk_6 x.1 (pj_a3 b0 b1 b2) c k := fun k h1 h2 h3 => sp_tick_hi hm12 r30 (Or.inl h1) h2 h3
  have nv : sp_vot (sp_tick x.1 (pj_a3 b0 b1 b2) c) = sp_vot (tk_6 x.1 (pj_a3 b0 b1 b2) c) := by
    unfold sp_vot
    rw [n6 14 (by decide) (by decide) (by decide), n6 15 (by decide) (by decide) (by decide), n6 16 (by decide) (by decide) (by decide)]
  have n7 := n6 7 (by decide) (by decide) (by decide)
  refine ⟨H1, hC.try ⟨⟨w14, hw14.frame (fun i hi => F1 _ (by omega))⟩, T1.tk⟩ (fun j hj => F1 j (by omega)), fun j hj => F1 j (by omega), ea _ (fun q => absurd q ok) (fun _ => ?_)⟩
  simp (disch := first | assumption | exact pj_long_i | exact pj_long_r | exact pj_long_n | decide) only [x52_12, x52_13, x52_16, x52_17, x52_20, x52_21, x52_22, x52_23, simprocAttr, pj_then_s, pj_pv_s, pj_pi_s, pj_set_s, if_true, if_false, not_true_eq_false, not_false_eq_true, pj_up_up, pj_so110_109, pj_so111_109, pj_so112_109, pj_so113_109, pj_so114_109, pj_so115_109, pj_so116_109, pj_so117_109, pj_so111_110, pj_so112_110, pj_so113_110, pj_so114_110, pj_so115_110, pj_so116_110, pj_so117_110, pj_so112_111, pj_so113_111, pj_so114_111, pj_so115_111, pj_so116_111, pj_so117_111, pj_so113_112, pj_so114_112, pj_so115_112, pj_so116_112, pj_so117_112, pj_so114_113, pj_so115_113, pj_so116_113, pj_so117_113, pj_so115_114, pj_so116_114, pj_so117_114, pj_so116_115, pj_so117_115, pj_so117_116, pj_up_ap, pj_upd_ap, pj_a3_0, pj_a3_1, pj_a3_2, pj_a3_u0, pj_a3_u1, pj_a3_u2, pj_f5_2, pj_f5_0, hC.2.1, pj_vc]
  refine e52_25 rfl (by obtain ⟨ic, nm, vo, md0, ar0, lo, hi, fi, e0, e1, e2, a0', a1', a2', o0', o1', o2', p0', p1', p2', s0', s1', s2', t0', t1', t2', q0, -⟩ := hC.2.2.2.1.2; rw [q0]; rfl) E1 ?_
  unfold op_if
  rw [nv, n7]
  generalize tk_fi x.1 (pj_a3 b0 b1 b2) c = fi at hm ⊢
  generalize tk_m x.1 (pj_a3 b0 b1 b2) = md at hm ⊢
  generalize sp_vot (tk_6 x.1 (pj_a3 b0 b1 b2) c) = vo at hm ⊢
  generalize tk_lo x.1 (pj_a3 b0 b1 b2) c = lo at hm ⊢
  generalize tk_hi x.1 (pj_a3 b0 b1 b2) c = hi at hm ⊢
  generalize tk_6 x.1 (pj_a3 b0 b1 b2) c 7 = ar at hm ⊢
  by_cases c5 : 0 ≤ w ∧ w ≤ 5
  · rw [if_pos c5]
    rcases i32_05 c5 with e | e | e | e | e | e <;> subst e <;> simp only [simprocAttr, if_true, if_false]
    · simp (disch := first | assumption | exact pj_long_i | exact pj_long_r | exact pj_long_n | decide) only [x52_28, x52_30, x52_68, x52_69, x52_72, simprocAttr, pj_then_s, pj_pv_s, pj_pi_s, pj_set_s, if_true, if_false, not_true_eq_false, not_false_eq_true, pj_up_up, pj_so110_109, pj_so111_109, pj_so112_109, pj_so113_109, pj_so114_109, pj_so115_109, pj_so116_109, pj_so117_109, pj_so111_110, pj_so112_110, pj_so113_110, pj_so114_110, pj_so115_110, pj_so116_110, pj_so117_110, pj_so112_111, pj_so113_111, pj_so114_111, pj_so115_111, pj_so116_111, pj_so117_111, pj_so113_112, pj_so114_112, pj_so115_112, pj_so116_112, pj_so117_112, pj_so114_113, pj_so115_113, pj_so116_113, pj_so117_113, pj_so115_114, pj_so116_114, pj_so117_114, pj_so116_115, pj_so117_115, pj_so117_116, pj_up_ap, pj_upd_ap, pj_a3_0, pj_a3_1, pj_a3_2, pj_a3_u0, pj_a3_u1, pj_a3_u2, pj_f5_2, pj_f3_13, V1, pj_vc, hm, pj_tc]
      exact t52_75
    · simp (disch := first | assumption | exact pj_long_i | exact pj_long_r | exact pj_long_n | decide) only [x52_28, x52_30, x52_68, x52_69, x52_72, x52_76, x52_77, x52_80, x52_83, x52_85, simprocAttr, pj_then_s, pj_pv_s, pj_pi_s, pj_set_s, if_true, if_false, not_true_eq_false, not_false_eq_true, pj_up_up, pj_so110_109, pj_so111_109, pj_so112_109, pj_so113_109, pj_so114_109, pj_so115_109, pj_so116_109, pj_so117_109, pj_so111_110, pj_so112_110, pj_so113_110, pj_so114_110, pj_so115_110, pj_so116_110, pj_so117_110, pj_so112_111, pj_so113_111, pj_so114_111, pj_so115_111, pj_so116_111, pj_so117_111, pj_so113_112, pj_so114_112, pj_so115_112, pj_so116_112, pj_so117_112, pj_so114_113, pj_so115_113, pj_so116_113, pj_so117_113, pj_so115_114, pj_so116_114, pj_so117_114, pj_so116_115, pj_so117_115, pj_so117_116, pj_up_ap, pj_upd_ap, pj_a3_0, pj_a3_1, pj_a3_2, pj_a3_u0, pj_a3_u1, pj_a3_u2, pj_f5_2, pj_f3_13, pj_f3_9, V1, pj_vc, hm, pj_tc]
      exact t52_86
    · simp (disch := first | assumption | exact pj_long_i | exact pj_long_r | exact pj_long_n | decide) only [x52_28, x52_30, x52_68, x52_69, x52_72, x52_76, x52_77, x52_80, x52_83, x52_85, x52_87, x52_88, x52_91, simprocAttr, pj_then_s, pj_pv_s, pj_pi_s, pj_set_s, if_true, if_false, not_true_eq_false, not_false_eq_true, pj_up_up, pj_so110_109, pj_so111_109, pj_so112_109, pj_so113_109, pj_so114_109, pj_so115_109, pj_so116_109, pj_so117_109, pj_so111_110, pj_so112_110, pj_so113_110, pj_so114_110, pj_so115_110, pj_so116_110, pj_so117_110, pj_so112_111, pj_so113_111, pj_so114_111, pj_so115_111, pj_so116_111, pj_so117_111, pj_so113_112, pj_so114_112, pj_so115_112, pj_so116_112, pj_so117_112, pj_so114_113, pj_so115_113, pj_so116_113, pj_so117_113, pj_so115_114, pj_so116_114, pj_so117_114, pj_so116_115, pj_so117_115, pj_so117_116, pj_up_ap, pj_upd_ap, pj_a3_0, pj_a3_1, pj_a3_2, pj_a3_u0, pj_a3_u1, pj_a3_u2, pj_f5_2, pj_f3_13, pj_f3_9, pj_f3_8, V1, pj_vc, hm, pj_tc]
      exact t52_94
    · simp (disch := first | assumption | exact pj_long_i | exact pj_long_r | exact pj_long_n | decide) only [x52_28, x52_30, x52_68, x52_69, x52_72, x52_76, x52_77, x52_80, x52_83, x52_85, x52_87, x52_88, x52_91, x52_95, x52_96, x52_99, simprocAttr, pj_then_s, pj_pv_s, pj_pi_s, pj_set_s, if_true, if_false, not_true_eq_false, not_false_eq_true, pj_up_up, pj_so110_109, pj_so111_109, pj_so112_109, pj_so113_109, pj_so114_109, pj_so115_109, pj_so116_109, pj_so117_109, pj_so111_110, pj_so112_110, pj_so113_110, pj_so114_110, pj_so115_110, pj_so116_110, pj_so117_110, pj_so112_111, pj_so113_111, pj_so114_111, pj_so115_111, pj_so116_111, pj_so117_111, pj_so113_112, pj_so114_112, pj_so115_112, pj_so116_112, pj_so117_112, pj_so114_113, pj_so115_113, pj_so116_113, pj_so117_113, pj_so115_114, pj_so116_114, pj_so117_114, pj_so116_115, pj_so117_115, pj_so117_116, pj_up_ap, pj_upd_ap, pj_a3_0, pj_a3_1, pj_a3_2, pj_a3_u0, pj_a3_u1, pj_a3_u2, pj_f5_2, pj_f3_13, pj_f3_9, pj_f3_8, pj_f3_11, V1, pj_vc, hm, pj_tc]
      exact t52_102
    · simp (disch := first | assumption | exact pj_long_i | exact pj_long_r | exact pj_long_n | decide) only [x52_28, x52_30, x52_68, x52_69, x52_72, x52_76, x52_77, x52_80, x52_83, x52_85, x52_87, x52_88, x52_91, x52_95, x52_96, x52_99, x52_103, x52_104, x52_107, simprocAttr, pj_then_s, pj_pv_s, pj_pi_s, pj_set_s, if_true, if_false, not_true_eq_false, not_false_eq_true, pj_up_up, pj_so110_109, pj_so111_109, pj_so112_109, pj_so113_109, pj_so114_109, pj_so115_109, pj_so116_109, pj_so117_109, pj_so111_110, pj_so112_110, pj_so113_110, pj_so114_110, pj_so115_110, pj_so116_110, pj_so117_110, pj_so112_111, pj_so113_111, pj_so114_111, pj_so115_111, pj_so116_111, pj_so117_111, pj_so113_112, pj_so114_112, pj_so115_112, pj_so116_112, pj_so117_112, pj_so114_113, pj_so115_113, pj_so116_113, pj_so117_113, pj_so115_114, pj_so116_114, pj_so117_114, pj_so116_115, pj_so117_115, pj_so117_116, pj_up_ap, pj_upd_ap, pj_a3_0, pj_a3_1, pj_a3_2, pj_a3_u0, pj_a3_u1, pj_a3_u2, pj_f5_2, pj_f3_13, pj_f3_9, pj_f3_8, pj_f3_11, pj_f3_12, V1, pj_vc, hm, pj_tc]
      exact t52_110
    · by_cases c7 : ar ≤ 0
      · rw [if_pos c7]
        simp (disch := first | assumption | exact pj_long_i | exact pj_long_r | exact pj_long_n | decide) only [x52_28, x52_30, x52_68, x52_69, x52_72, x52_76, x52_77, x52_80, x52_83, x52_85, x52_87, x52_88, x52_91, x52_95, x52_96, x52_99, x52_103, x52_104, x52_107, x52_111, x52_112, x52_115, x52_118, x52_121, x52_122, x52_125, simprocAttr, pj_then_s, pj_pv_s, pj_pi_s, pj_set_s, if_true, if_false, not_true_eq_false, not_false_eq_true, pj_up_up, pj_so110_109, pj_so111_109, pj_so112_109, pj_so113_109, pj_so114_109, pj_so115_109, pj_so116_109, pj_so117_109, pj_so111_110, pj_so112_110, pj_so113_110, pj_so114_110, pj_so115_110, pj_so116_110, pj_so117_110, pj_so112_111, pj_so113_111, pj_so114_111, pj_so115_111, pj_so116_111, pj_so117_111, pj_so113_112, pj_so114_112, pj_so115_112, pj_so116_112, pj_so117_112, pj_so114_113, pj_so115_113, pj_so116_113, pj_so117_113, pj_so115_114, pj_so116_114, pj_so117_114, pj_so116_115, pj_so117_115, pj_so117_116, pj_up_ap, pj_upd_ap, pj_a3_0, pj_a3_1, pj_a3_2, pj_a3_u0, pj_a3_u1, pj_a3_u2, pj_f5_2, pj_f3_13, pj_f3_9, pj_f3_8, pj_f3_11, pj_f3_12, pj_f3_10, V1, pj_vc, hm, pj_tc, c7]
        refine e52_126 rfl (c_asNumber (Or.inl rfl)) ?_
        exact t52_129
      · rw [if_neg c7]
        simp (disch := first | assumption | exact pj_long_i | exact pj_long_r | exact pj_long_n | decide) only [x52_28, x52_30, x52_68, x52_69, x52_72, x52_76, x52_77, x52_80, x52_83, x52_85, x52_87, x52_88, x52_91, x52_95, x52_96, x52_99, x52_103, x52_104, x52_107, x52_111, x52_112, x52_115, x52_118, x52_121, x52_122, x52_125, simprocAttr, pj_then_s, pj_pv_s, pj_pi_s, pj_set_s, if_true, if_false, not_true_eq_false, not_false_eq_true, pj_up_up, pj_so110_109, pj_so111_109, pj_so112_109, pj_so113_109, pj_so114_109, pj_so115_109, pj_so116_109, pj_so117_109, pj_so111_110, pj_so112_110, pj_so113_110, pj_so114_110, pj_so115_110, pj_so116_110, pj_so117_110, pj_so112_111, pj_so113_111, pj_so114_111, pj_so115_111, pj_so116_111, pj_so117_111, pj_so113_112, pj_so114_112, pj_so115_112, pj_so116_112, pj_so117_112, pj_so114_113, pj_so115_113, pj_so116_113, pj_so117_113, pj_so115_114, pj_so116_114, pj_so117_114, pj_so116_115, pj_so117_115, pj_so117_116, pj_up_ap, pj_upd_ap, pj_a3_0, pj_a3_1, pj_a3_2, pj_a3_u0, pj_a3_u1, pj_a3_u2, pj_f5_2, pj_f3_13, pj_f3_9, pj_f3_8, pj_f3_11, pj_f3_12, pj_f3_10, V1, pj_vc, hm, pj_tc, c7]
        refine e52_126 rfl (c_asNumber (Or.inr rfl)) ?_
        exact t52_129
  · rw [if_neg c5]
    have w0 : ¬ w = 0 := fun q => c5 (by subst q; decide)
    have w1 : ¬ w = 1 := fun q => c5 (by subst q; decide)
    have w2 : ¬ w = 2 := fun q => c5 (by subst q; decide)
    have w3 : ¬ w = 3 := fun q => c5 (by subst q; decide)
    have w4 : ¬ w = 4 := fun q => c5 (by subst q; decide)
    have w5 : ¬ w = 5 := fun q => c5 (by subst q; decide)
    simp (disch := first | assumption | exact pj_long_i | exact pj_long_r | exact pj_long_n | decide) only [x52_28, x52_30, x52_68, x52_69, x52_72, x52_76, x52_77, x52_80, x52_83, x52_85, x52_87, x52_88, x52_91, x52_95, x52_96, x52_99, x52_103, x52_104, x52_107, x52_111, x52_112, x52_115, x52_118, x52_121, x52_122, x52_125, x52_130, simprocAttr, pj_then_s, pj_pv_s, pj_pi_s, pj_set_s, if_true, if_false, not_true_eq_false, not_false_eq_true, pj_up_up, pj_so110_109, pj_so111_109, pj_so112_109, pj_so113_109, pj_so114_109, pj_so115_109, pj_so116_109, pj_so117_109, pj_so111_110, pj_so112_110, pj_so113_110, pj_so114_110, pj_so115_110, pj_so116_110, pj_so117_110, pj_so112_111, pj_so113_111, pj_so114_111, pj_so115_111, pj_so116_111, pj_so117_111, pj_so113_112, pj_so114_112, pj_so115_112, pj_so116_112, pj_so117_112, pj_so114_113, pj_so115_113, pj_so116_113, pj_so117_113, pj_so115_114, pj_so116_114, pj_so117_114, pj_so116_115, pj_so117_115, pj_so117_116, pj_up_ap, pj_upd_ap, pj_a3_0, pj_a3_1, pj_a3_2, pj_a3_u0, pj_a3_u1, pj_a3_u2, pj_f5_2, pj_f3_13, pj_f3_9, pj_f3_8, pj_f3_11, pj_f3_12, pj_f3_10, w0, w1, w2, w3, w4, w5]
    exact t52_132
theorem c_lr_l {a : Int32} (hc : c = 0 ∨ c = 1) (hx : pj_In x) : ∀ (n i N S : Nat) (H : pj_Heap), i + n = 1001 → pj_C H x → ∃ H', pj_C H' x ∧ (∀ j, j < 4 ∨ 108 < j → H' j = H j) ∧ pj_Ends 14 (15, [some (.ref 4), some (.int a), some (.int c), some (.int (nI i - 500))], [], (N, S, H)) (some (.int (op_lr x.1 a c n i)), (N, S, H'))
  | 0, i, N, S, H, hi, hC => by
    have ei : i = 1001 := by omega
    subst ei
    have e : nI 1001 - 500 = 501 := by decide
    rw [e]
    refine ⟨H, hC, fun _ _ => rfl, ?_⟩
    unfold op_lr
    simp (disch := first | assumption | exact pj_long_i | exact pj_long_r | exact pj_long_n | decide) only [x14_15, x14_16, x14_19, x14_22, x14_23, x14_26, x14_27, x14_30, x14_31, x14_32, x14_33, x14_37, x14_38, x14_41, x14_44, x14_48, x14_51, x14_52, x14_54, x14_56, x14_59, x14_62, simprocAttr, pj_then_s, pj_pv_s, pj_pi_s, pj_set_s, if_true, if_false, not_true_eq_false, not_false_eq_true, pj_up_up, pj_so110_109, pj_so111_109, pj_so112_109, pj_so113_109, pj_so114_109, pj_so115_109, pj_so116_109, pj_so117_109, pj_so111_110, pj_so112_110, pj_so113_110, pj_so114_110, pj_so115_110, pj_so116_110, pj_so117_110, pj_so112_111, pj_so113_111, pj_so114_111, pj_so115_111, pj_so116_111, pj_so117_111, pj_so113_112, pj_so114_112, pj_so115_112, pj_so116_112, pj_so117_112, pj_so114_113, pj_so115_113, pj_so116_113, pj_so117_113, pj_so115_114, pj_so116_114, pj_so117_114, pj_so116_115, pj_so117_115, pj_so117_116, pj_up_ap, pj_upd_ap, pj_a3_0, pj_a3_1, pj_a3_2, pj_a3_u0, pj_a3_u1, pj_a3_u2, pj_f5_2, pj_f5_0, pj_f3_13, pj_long_i, pj_long_r, pj_long_n]
    exact t14_64
  | n + 1, i, N, S, H, hi, hC => by
    obtain ⟨t, ht, hR⟩ := hx.1
    have c3 := pj_rv_le (i := i) (by omega)
    have c3' : nI i - 500 ≤ 500 := Int32.not_lt.mp c3
    have rd : ¬ sp_rd (nI i - 500) = 0 := by
      rw [pj_rv_rd (by omega)]
      decide
    have rs := pj_rv_s i
    obtain ⟨H1, T1, F1, E1⟩ := c_wk_5 (N := N) (S := S) (H := H) (f := x.1) (b0 := nI i - 500) (b1 := nI i - 500) (b2 := nI i - 500) hR (by omega) hc (sp_rd_a3 rd rd rd) hC.2.2.2.1.2 hC.2.2.1
    obtain ⟨w14, hw14⟩ := hC.2.2.2.1.1
    have V1 : H1 4 = pj_vc x.2.1 := (F1 4 (by decide)).trans hC.2.1
    have hm := T1.1
    have hC1 : pj_C H1 x := hC.try ⟨⟨w14, hw14.frame (fun i hi => F1 _ (by omega))⟩, T1.tk⟩ (fun j hj => F1 j (by omega))
    obtain ⟨H2, g1, g2, g3⟩ := c_lr_l (a := a) hc hx n (i + 1) N S H1 (by omega) hC1
    unfold op_lr
    generalize tk_fi x.1 (pj_a3 (nI i - 500) (nI i - 500) (nI i - 500)) c = fi at hm ⊢
    generalize tk_m x.1 (pj_a3 (nI i - 500) (nI i - 500) (nI i - 500)) = md at hm ⊢
    generalize sp_vot (tk_6 x.1 (pj_a3 (nI i - 500) (nI i - 500) (nI i - 500)) c) = vo at hm ⊢
    generalize tk_lo x.1 (pj_a3 (nI i - 500) (nI i - 500) (nI i - 500)) c = lo at hm ⊢
    generalize tk_hi x.1 (pj_a3 (nI i - 500) (nI i - 500) (nI i - 500)) c = hi at hm ⊢
    generalize tk_6 x.1 (pj_a3 (nI i - 500) (nI i - 500) (nI i - 500)) c 7 = ar at hm ⊢
    rw [← rs] at g3
    have V0 := hC.2.1
    generalize hv : nI i - 500 = v at c3 c3' g3 E1 ⊢
    have tcl := hC.2.2.2.1.2
    by_cases q : fi >>> (a &&& 31) &&& 1 = 1
    · rw [if_pos q]
      refine ⟨H1, hC1, fun j hj => F1 j (by omega), ?_⟩
      simp (disch := first | assumption | exact pj_long_i | exact pj_long_r | exact pj_long_n | decide) only [x14_15, x14_16, x14_19, x14_22, x14_23, x14_26, x14_27, x14_30, x14_31, x14_32, x14_33, simprocAttr, pj_then_s, pj_pv_s, pj_pi_s, pj_set_s, if_true, if_false, not_true_eq_false, not_false_eq_true, pj_up_up, pj_so110_109, pj_so111_109, pj_so112_109, pj_so113_109, pj_so114_109, pj_so115_109, pj_so116_109, pj_so117_109, pj_so111_110, pj_so112_110, pj_so113_110, pj_so114_110, pj_so115_110, pj_so116_110, pj_so117_110, pj_so112_111, pj_so113_111, pj_so114_111, pj_so115_111, pj_so116_111, pj_so117_111, pj_so113_112, pj_so114_112, pj_so115_112, pj_so116_112, pj_so117_112, pj_so114_113, pj_so115_113, pj_so116_113, pj_so117_113, pj_so115_114, pj_so116_114, pj_so117_114, pj_so116_115, pj_so117_115, pj_so117_116, pj_up_ap, pj_upd_ap, pj_a3_0, pj_a3_1, pj_a3_2, pj_a3_u0, pj_a3_u1, pj_a3_u2, pj_f5_2, pj_f5_0, V0, pj_vc, c3, c3']
      refine e14_34 rfl (by obtain ⟨ic, nm, vo, md0, ar0, lo, hi, fi, e0, e1, e2, a0', a1', a2', o0', o1', o2', p0', p1', p2', s0', s1', s2', t0', t1', t2', q0, -⟩ := tcl; rw [q0]; rfl) E1 ?_
      simp (disch := first | assumption | exact pj_long_i | exact pj_long_r | exact pj_long_n | decide) only [x14_37, x14_38, x14_41, x14_44, simprocAttr, pj_then_s, pj_pv_s, pj_pi_s, pj_set_s, if_true, if_false, not_true_eq_false, not_false_eq_true, pj_up_up, pj_so110_109, pj_so111_109, pj_so112_109, pj_so113_109, pj_so114_109, pj_so115_109, pj_so116_109, pj_so117_109, pj_so111_110, pj_so112_110, pj_so113_110, pj_so114_110, pj_so115_110, pj_so116_110, pj_so117_110, pj_so112_111, pj_so113_111, pj_so114_111, pj_so115_111, pj_so116_111, pj_so117_111, pj_so113_112, pj_so114_112, pj_so115_112, pj_so116_112, pj_so117_112, pj_so114_113, pj_so115_113, pj_so116_113, pj_so117_113, pj_so115_114, pj_so116_114, pj_so117_114, pj_so116_115, pj_so117_115, pj_so117_116, pj_up_ap, pj_upd_ap, pj_a3_0, pj_a3_1, pj_a3_2, pj_a3_u0, pj_a3_u1, pj_a3_u2, pj_f5_2, pj_f3_13, V1, pj_vc, hm, pj_tc]
      refine e14_45 rfl c_has ?_
      rw [if_pos q]
      simp (disch := first | assumption | exact pj_long_i | exact pj_long_r | exact pj_long_n | decide) only [x14_48, x14_51, x14_52, x14_54, simprocAttr, pj_then_s, pj_pv_s, pj_pi_s, pj_set_s, if_true, if_false, not_true_eq_false, not_false_eq_true, pj_up_up, pj_so110_109, pj_so111_109, pj_so112_109, pj_so113_109, pj_so114_109, pj_so115_109, pj_so116_109, pj_so117_109, pj_so111_110, pj_so112_110, pj_so113_110, pj_so114_110, pj_so115_110, pj_so116_110, pj_so117_110, pj_so112_111, pj_so113_111, pj_so114_111, pj_so115_111, pj_so116_111, pj_so117_111, pj_so113_112, pj_so114_112, pj_so115_112, pj_so116_112, pj_so117_112, pj_so114_113, pj_so115_113, pj_so116_113, pj_so117_113, pj_so115_114, pj_so116_114, pj_so117_114, pj_so116_115, pj_so117_115, pj_so117_116, pj_up_ap, pj_upd_ap, pj_a3_0, pj_a3_1, pj_a3_2, pj_a3_u0, pj_a3_u1, pj_a3_u2]
      exact t14_55
    · rw [if_neg q]
      refine ⟨H2, g1, fun j hj => (g2 j hj).trans (F1 j (by omega)), ?_⟩
      simp (disch := first | assumption | exact pj_long_i | exact pj_long_r | exact pj_long_n | decide) only [x14_15, x14_16, x14_19, x14_22, x14_23, x14_26, x14_27, x14_30, x14_31, x14_32, x14_33, simprocAttr, pj_then_s, pj_pv_s, pj_pi_s, pj_set_s, if_true, if_false, not_true_eq_false, not_false_eq_true, pj_up_up, pj_so110_109, pj_so111_109, pj_so112_109, pj_so113_109, pj_so114_109, pj_so115_109, pj_so116_109, pj_so117_109, pj_so111_110, pj_so112_110, pj_so113_110, pj_so114_110, pj_so115_110, pj_so116_110, pj_so117_110, pj_so112_111, pj_so113_111, pj_so114_111, pj_so115_111, pj_so116_111, pj_so117_111, pj_so113_112, pj_so114_112, pj_so115_112, pj_so116_112, pj_so117_112, pj_so114_113, pj_so115_113, pj_so116_113, pj_so117_113, pj_so115_114, pj_so116_114, pj_so117_114, pj_so116_115, pj_so117_115, pj_so117_116, pj_up_ap, pj_upd_ap, pj_a3_0, pj_a3_1, pj_a3_2, pj_a3_u0, pj_a3_u1, pj_a3_u2, pj_f5_2, pj_f5_0, V0, pj_vc, c3, c3']
      refine e14_34 rfl (by obtain ⟨ic, nm, vo, md0, ar0, lo, hi, fi, e0, e1, e2, a0', a1', a2', o0', o1', o2', p0', p1', p2', s0', s1', s2', t0', t1', t2', q0, -⟩ := tcl; rw [q0]; rfl) E1 ?_
      simp (disch := first | assumption | exact pj_long_i | exact pj_long_r | exact pj_long_n | decide) only [x14_37, x14_38, x14_41, x14_44, simprocAttr, pj_then_s, pj_pv_s, pj_pi_s, pj_set_s, if_true, if_false, not_true_eq_false, not_false_eq_true, pj_up_up, pj_so110_109, pj_so111_109, pj_so112_109, pj_so113_109, pj_so114_109, pj_so115_109, pj_so116_109, pj_so117_109, pj_so111_110, pj_so112_110, pj_so113_110, pj_so114_110, pj_so115_110, pj_so116_110, pj_so117_110, pj_so112_111, pj_so113_111, pj_so114_111, pj_so115_111, pj_so116_111, pj_so117_111, pj_so113_112, pj_so114_112, pj_so115_112, pj_so116_112, pj_so117_112, pj_so114_113, pj_so115_113, pj_so116_113, pj_so117_113, pj_so115_114, pj_so116_114, pj_so117_114, pj_so116_115, pj_so117_115, pj_so117_116, pj_up_ap, pj_upd_ap, pj_a3_0, pj_a3_1, pj_a3_2, pj_a3_u0, pj_a3_u1, pj_a3_u2, pj_f5_2, pj_f3_13, V1, pj_vc, hm, pj_tc]
      refine e14_45 rfl c_has ?_
      rw [if_neg q]
      simp (disch := first | assumption | exact pj_long_i | exact pj_long_r | exact pj_long_n | decide) only [x14_48, x14_51, x14_52, x14_54, x14_56, x14_59, simprocAttr, pj_then_s, pj_pv_s, pj_pi_s, pj_set_s, if_true, if_false, not_true_eq_false, not_false_eq_true, pj_up_up, pj_so110_109, pj_so111_109, pj_so112_109, pj_so113_109, pj_so114_109, pj_so115_109, pj_so116_109, pj_so117_109, pj_so111_110, pj_so112_110, pj_so113_110, pj_so114_110, pj_so115_110, pj_so116_110, pj_so117_110, pj_so112_111, pj_so113_111, pj_so114_111, pj_so115_111, pj_so116_111, pj_so117_111, pj_so113_112, pj_so114_112, pj_so115_112, pj_so116_112, pj_so117_112, pj_so114_113, pj_so115_113, pj_so116_113, pj_so117_113, pj_so115_114, pj_so116_114, pj_so117_114, pj_so116_115, pj_so117_115, pj_so117_116, pj_up_ap, pj_upd_ap, pj_a3_0, pj_a3_1, pj_a3_2, pj_a3_u0, pj_a3_u1, pj_a3_u2, pj_long_i, pj_long_r, pj_long_n]
      exact g3
theorem C_leastReading {a : Int32} (hc : c = 0 ∨ c = 1) (hx : pj_In x) (hC : pj_C H x) : pj_Co N S H 14 [some (.ref 4), some (.int a), some (.int c), none] (x, op_leastReading x.1 a c) := by
  unfold op_leastReading
  by_cases k : sp_th a = 0
  · rw [if_pos k]
    refine pj_Co_same hC ?_
    rcases i32_th k with q | ⟨q, q2⟩
    · simp (disch := first | assumption | exact pj_long_i | exact pj_long_r | exact pj_long_n | decide) only [x14_0, x14_1, x14_4, x14_5, x14_6, x14_9, simprocAttr, pj_then_s, pj_pv_s, pj_pi_s, pj_set_s, if_true, if_false, not_true_eq_false, not_false_eq_true, pj_up_up, pj_so110_109, pj_so111_109, pj_so112_109, pj_so113_109, pj_so114_109, pj_so115_109, pj_so116_109, pj_so117_109, pj_so111_110, pj_so112_110, pj_so113_110, pj_so114_110, pj_so115_110, pj_so116_110, pj_so117_110, pj_so112_111, pj_so113_111, pj_so114_111, pj_so115_111, pj_so116_111, pj_so117_111, pj_so113_112, pj_so114_112, pj_so115_112, pj_so116_112, pj_so117_112, pj_so114_113, pj_so115_113, pj_so116_113, pj_so117_113, pj_so115_114, pj_so116_114, pj_so117_114, pj_so116_115, pj_so117_115, pj_so117_116, pj_up_ap, pj_upd_ap, pj_a3_0, pj_a3_1, pj_a3_2, pj_a3_u0, pj_a3_u1, pj_a3_u2, q]
      exact t14_10
    · simp (disch := first | assumption | exact pj_long_i | exact pj_long_r | exact pj_long_n | decide) only [x14_0, x14_1, x14_4, x14_5, x14_6, x14_9, simprocAttr, pj_then_s, pj_pv_s, pj_pi_s, pj_set_s, if_true, if_false, not_true_eq_false, not_false_eq_true, pj_up_up, pj_so110_109, pj_so111_109, pj_so112_109, pj_so113_109, pj_so114_109, pj_so115_109, pj_so116_109, pj_so117_109, pj_so111_110, pj_so112_110, pj_so113_110, pj_so114_110, pj_so115_110, pj_so116_110, pj_so117_110, pj_so112_111, pj_so113_111, pj_so114_111, pj_so115_111, pj_so116_111, pj_so117_111, pj_so113_112, pj_so114_112, pj_so115_112, pj_so116_112, pj_so117_112, pj_so114_113, pj_so115_113, pj_so116_113, pj_so117_113, pj_so115_114, pj_so116_114, pj_so117_114, pj_so116_115, pj_so117_115, pj_so117_116, pj_up_ap, pj_upd_ap, pj_a3_0, pj_a3_1, pj_a3_2, pj_a3_u0, pj_a3_u1, pj_a3_u2, q, q2]
      exact t14_10
  · rw [if_neg k]
    obtain ⟨H', h1, h2, h3⟩ := c_lr_l (a := a) hc hx 1001 0 N S H (by decide) hC
    have e : nI 0 - 500 = -500 := by decide
    rw [e] at h3
    refine ⟨H', h1, h2, ?_⟩
    rcases sp_th_lt k with q | q | q <;> subst q
    · simp (disch := first | assumption | exact pj_long_i | exact pj_long_r | exact pj_long_n | decide) only [x14_0, x14_1, x14_4, x14_5, x14_6, x14_9, x14_11, x14_14, simprocAttr, pj_then_s, pj_pv_s, pj_pi_s, pj_set_s, if_true, if_false, not_true_eq_false, not_false_eq_true, pj_up_up, pj_so110_109, pj_so111_109, pj_so112_109, pj_so113_109, pj_so114_109, pj_so115_109, pj_so116_109, pj_so117_109, pj_so111_110, pj_so112_110, pj_so113_110, pj_so114_110, pj_so115_110, pj_so116_110, pj_so117_110, pj_so112_111, pj_so113_111, pj_so114_111, pj_so115_111, pj_so116_111, pj_so117_111, pj_so113_112, pj_so114_112, pj_so115_112, pj_so116_112, pj_so117_112, pj_so114_113, pj_so115_113, pj_so116_113, pj_so117_113, pj_so115_114, pj_so116_114, pj_so117_114, pj_so116_115, pj_so117_115, pj_so117_116, pj_up_ap, pj_upd_ap, pj_a3_0, pj_a3_1, pj_a3_2, pj_a3_u0, pj_a3_u1, pj_a3_u2, pj_long_i, pj_long_r, pj_long_n]
      exact h3
    · simp (disch := first | assumption | exact pj_long_i | exact pj_long_r | exact pj_long_n | decide) only [x14_0, x14_1, x14_4, x14_5, x14_6, x14_9, x14_11, x14_14, simprocAttr, pj_then_s, pj_pv_s, pj_pi_s, pj_set_s, if_true, if_false, not_true_eq_false, not_false_eq_true, pj_up_up, pj_so110_109, pj_so111_109, pj_so112_109, pj_so113_109, pj_so114_109, pj_so115_109, pj_so116_109, pj_so117_109, pj_so111_110, pj_so112_110, pj_so113_110, pj_so114_110, pj_so115_110, pj_so116_110, pj_so117_110, pj_so112_111, pj_so113_111, pj_so114_111, pj_so115_111, pj_so116_111, pj_so117_111, pj_so113_112, pj_so114_112, pj_so115_112, pj_so116_112, pj_so117_112, pj_so114_113, pj_so115_113, pj_so116_113, pj_so117_113, pj_so115_114, pj_so116_114, pj_so117_114, pj_so116_115, pj_so117_115, pj_so117_116, pj_up_ap, pj_upd_ap, pj_a3_0, pj_a3_1, pj_a3_2, pj_a3_u0, pj_a3_u1, pj_a3_u2, pj_long_i, pj_long_r, pj_long_n]
      exact h3
    · simp (disch := first | assumption | exact pj_long_i | exact pj_long_r | exact pj_long_n | decide) only [x14_0, x14_1, x14_4, x14_5, x14_6, x14_9, x14_11, x14_14, simprocAttr, pj_then_s, pj_pv_s, pj_pi_s, pj_set_s, if_true, if_false, not_true_eq_false, not_false_eq_true, pj_up_up, pj_so110_109, pj_so111_109, pj_so112_109, pj_so113_109, pj_so114_109, pj_so115_109, pj_so116_109, pj_so117_109, pj_so111_110, pj_so112_110, pj_so113_110, pj_so114_110, pj_so115_110, pj_so116_110, pj_so117_110, pj_so112_111, pj_so113_111, pj_so114_111, pj_so115_111, pj_so116_111, pj_so117_111, pj_so113_112, pj_so114_112, pj_so115_112, pj_so116_112, pj_so117_112, pj_so114_113, pj_so115_113, pj_so116_113, pj_so117_113, pj_so115_114, pj_so116_114, pj_so117_114, pj_so116_115, pj_so117_115, pj_so117_116, pj_up_ap, pj_upd_ap, pj_a3_0, pj_a3_1, pj_a3_2, pj_a3_u0, pj_a3_u1, pj_a3_u2, pj_long_i, pj_long_r, pj_long_n]
      exact h3
end T31
