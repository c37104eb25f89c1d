/-! THE CLASS'S CALLS THAT CHANGE: tick -/
def sp_ar (b0 b1 b2 : Int32) : Int32 := if sp_rd b0 = 0 then 0 else if sp_rd b1 = 0 then 0 else if sp_rd b2 = 0 then 0 else 1
theorem c_isR {r : Int32} {M : pj_Mem} : pj_Ends 31 (0, [some (.int r)], [], M) (some (.int (sp_rd r)), M) := c_isReading
theorem c_areReadings {b0 b1 b2 : Int32} {N S : Nat} {H : pj_Heap} : pj_Ends 53 (0, [some (.int b0), some (.int b1), some (.int b2)], [], (N, S, H)) (some (.int (sp_ar b0 b1 b2)), (N, S, H)) := by
  unfold sp_ar
  simp (disch := first | assumption | exact pj_long_i | exact pj_long_r | exact pj_long_n | decide) only [x53_0, simprocAttr, pj_then_s, pj_pv_s, pj_pi_s, pj_set_s, if_true, if_false, not_true_eq_false, not_false_eq_true, pj_up_up, pj_so110_109, pj_so111_109, pj_so112_109, pj_so113_109, pj_so114_109, pj_so115_109, pj_so116_109, pj_so117_109, pj_so111_110, pj_so112_110, pj_so113_110, pj_so114_110, pj_so115_110, pj_so116_110, pj_so117_110, pj_so112_111, pj_so113_111, pj_so114_111, pj_so115_111, pj_so116_111, pj_so117_111, pj_so113_112, pj_so114_112, pj_so115_112, pj_so116_112, pj_so117_112, pj_so114_113, pj_so115_113, pj_so116_113, pj_so117_113, pj_so115_114, pj_so116_114, pj_so117_114, pj_so116_115, pj_so117_115, pj_so117_116, pj_up_ap, pj_upd_ap, pj_a3_0, pj_a3_1, pj_a3_2, pj_a3_u0, pj_a3_u1, pj_a3_u2]
  refine e53_1 rfl c_isR ?_
  by_cases c0 : sp_rd b0 = 0
  · rw [if_pos c0]
    simp (disch := first | assumption | exact pj_long_i | exact pj_long_r | exact pj_long_n | decide) only [x53_4, x53_7, x53_11, x53_14, x53_18, x53_21, x53_22, x53_25, simprocAttr, pj_then_s, pj_pv_s, pj_pi_s, pj_set_s, if_true, if_false, not_true_eq_false, not_false_eq_true, pj_up_up, pj_so110_109, pj_so111_109, pj_so112_109, pj_so113_109, pj_so114_109, pj_so115_109, pj_so116_109, pj_so117_109, pj_so111_110, pj_so112_110, pj_so113_110, pj_so114_110, pj_so115_110, pj_so116_110, pj_so117_110, pj_so112_111, pj_so113_111, pj_so114_111, pj_so115_111, pj_so116_111, pj_so117_111, pj_so113_112, pj_so114_112, pj_so115_112, pj_so116_112, pj_so117_112, pj_so114_113, pj_so115_113, pj_so116_113, pj_so117_113, pj_so115_114, pj_so116_114, pj_so117_114, pj_so116_115, pj_so117_115, pj_so117_116, pj_up_ap, pj_upd_ap, pj_a3_0, pj_a3_1, pj_a3_2, pj_a3_u0, pj_a3_u1, pj_a3_u2, c0]
    exact t53_26 (Or.inl rfl)
  rw [if_neg c0]
  simp (disch := first | assumption | exact pj_long_i | exact pj_long_r | exact pj_long_n | decide) only [x53_4, x53_7, simprocAttr, pj_then_s, pj_pv_s, pj_pi_s, pj_set_s, if_true, if_false, not_true_eq_false, not_false_eq_true, pj_up_up, pj_so110_109, pj_so111_109, pj_so112_109, pj_so113_109, pj_so114_109, pj_so115_109, pj_so116_109, pj_so117_109, pj_so111_110, pj_so112_110, pj_so113_110, pj_so114_110, pj_so115_110, pj_so116_110, pj_so117_110, pj_so112_111, pj_so113_111, pj_so114_111, pj_so115_111, pj_so116_111, pj_so117_111, pj_so113_112, pj_so114_112, pj_so115_112, pj_so116_112, pj_so117_112, pj_so114_113, pj_so115_113, pj_so116_113, pj_so117_113, pj_so115_114, pj_so116_114, pj_so117_114, pj_so116_115, pj_so117_115, pj_so117_116, pj_up_ap, pj_upd_ap, pj_a3_0, pj_a3_1, pj_a3_2, pj_a3_u0, pj_a3_u1, pj_a3_u2, c0]
  refine e53_8 rfl c_isR ?_
  by_cases c1 : sp_rd b1 = 0
  · rw [if_pos c1]
    simp (disch := first | assumption | exact pj_long_i | exact pj_long_r | exact pj_long_n | decide) only [x53_11, x53_14, x53_18, x53_21, x53_22, x53_25, simprocAttr, pj_then_s, pj_pv_s, pj_pi_s, pj_set_s, if_true, if_false, not_true_eq_false, not_false_eq_true, pj_up_up, pj_so110_109, pj_so111_109, pj_so112_109, pj_so113_109, pj_so114_109, pj_so115_109, pj_so116_109, pj_so117_109, pj_so111_110, pj_so112_110, pj_so113_110, pj_so114_110, pj_so115_110, pj_so116_110, pj_so117_110, pj_so112_111, pj_so113_111, pj_so114_111, pj_so115_111, pj_so116_111, pj_so117_111, pj_so113_112, pj_so114_112, pj_so115_112, pj_so116_112, pj_so117_112, pj_so114_113, pj_so115_113, pj_so116_113, pj_so117_113, pj_so115_114, pj_so116_114, pj_so117_114, pj_so116_115, pj_so117_115, pj_so117_116, pj_up_ap, pj_upd_ap, pj_a3_0, pj_a3_1, pj_a3_2, pj_a3_u0, pj_a3_u1, pj_a3_u2, c1]
    exact t53_26 (Or.inl rfl)
  rw [if_neg c1]
  simp (disch := first | assumption | exact pj_long_i | exact pj_long_r | exact pj_long_n | decide) only [x53_11, x53_14, simprocAttr, pj_then_s, pj_pv_s, pj_pi_s, pj_set_s, if_true, if_false, not_true_eq_false, not_false_eq_true, pj_up_up, pj_so110_109, pj_so111_109, pj_so112_109, pj_so113_109, pj_so114_109, pj_so115_109, pj_so116_109, pj_so117_109, pj_so111_110, pj_so112_110, pj_so113_110, pj_so114_110, pj_so115_110, pj_so116_110, pj_so117_110, pj_so112_111, pj_so113_111, pj_so114_111, pj_so115_111, pj_so116_111, pj_so117_111, pj_so113_112, pj_so114_112, pj_so115_112, pj_so116_112, pj_so117_112, pj_so114_113, pj_so115_113, pj_so116_113, pj_so117_113, pj_so115_114, pj_so116_114, pj_so117_114, pj_so116_115, pj_so117_115, pj_so117_116, pj_up_ap, pj_upd_ap, pj_a3_0, pj_a3_1, pj_a3_2, pj_a3_u0, pj_a3_u1, pj_a3_u2, c1]
  refine e53_15 rfl c_isR ?_
  by_cases c2 : sp_rd b2 = 0
  · rw [if_pos c2]
    simp (disch := first | assumption | exact pj_long_i | exact pj_long_r | exact pj_long_n | decide) only [x53_18, x53_21, x53_22, x53_25, simprocAttr, pj_then_s, pj_pv_s, pj_pi_s, pj_set_s, if_true, if_false, not_true_eq_false, not_false_eq_true, pj_up_up, pj_so110_109, pj_so111_109, pj_so112_109, pj_so113_109, pj_so114_109, pj_so115_109, pj_so116_109, pj_so117_109, pj_so111_110, pj_so112_110, pj_so113_110, pj_so114_110, pj_so115_110, pj_so116_110, pj_so117_110, pj_so112_111, pj_so113_111, pj_so114_111, pj_so115_111, pj_so116_111, pj_so117_111, pj_so113_112, pj_so114_112, pj_so115_112, pj_so116_112, pj_so117_112, pj_so114_113, pj_so115_113, pj_so116_113, pj_so117_113, pj_so115_114, pj_so116_114, pj_so117_114, pj_so116_115, pj_so117_115, pj_so117_116, pj_up_ap, pj_upd_ap, pj_a3_0, pj_a3_1, pj_a3_2, pj_a3_u0, pj_a3_u1, pj_a3_u2, c2]
    exact t53_26 (Or.inl rfl)
  rw [if_neg c2]
  simp (disch := first | assumption | exact pj_long_i | exact pj_long_r | exact pj_long_n | decide) only [x53_18, x53_21, x53_22, x53_25, simprocAttr, pj_then_s, pj_pv_s, pj_pi_s, pj_set_s, if_true, if_false, not_true_eq_false, not_false_eq_true, pj_up_up, pj_so110_109, pj_so111_109, pj_so112_109, pj_so113_109, pj_so114_109, pj_so115_109, pj_so116_109, pj_so117_109, pj_so111_110, pj_so112_110, pj_so113_110, pj_so114_110, pj_so115_110, pj_so116_110, pj_so117_110, pj_so112_111, pj_so113_111, pj_so114_111, pj_so115_111, pj_so116_111, pj_so117_111, pj_so113_112, pj_so114_112, pj_so115_112, pj_so116_112, pj_so117_112, pj_so114_113, pj_so115_113, pj_so116_113, pj_so117_113, pj_so115_114, pj_so116_114, pj_so117_114, pj_so116_115, pj_so117_115, pj_so117_116, pj_up_ap, pj_upd_ap, pj_a3_0, pj_a3_1, pj_a3_2, pj_a3_u0, pj_a3_u1, pj_a3_u2, c2]
  exact t53_26 (Or.inr rfl)
theorem sp_rd_ok {r : Int32} (h : ¬ sp_rd r = 0) : -500 ≤ r ∧ r ≤ 500 := by
  unfold sp_rd at h
  by_cases q : -500 ≤ r ∧ r ≤ 500
  · exact q
  · rw [if_neg q] at h
    exact absurd rfl h
theorem sp_rd_a3 {b0 b1 b2 : Int32} (h0 : ¬ sp_rd b0 = 0) (h1 : ¬ sp_rd b1 = 0) (h2 : ¬ sp_rd b2 = 0) : ∀ k, k < 3 → -500 ≤ pj_a3 b0 b1 b2 k ∧ pj_a3 b0 b1 b2 k ≤ 500 := by
  intro k hk
  have : k = 0 ∨ k = 1 ∨ k = 2 := by omega
  rcases this with e | e | e <;> subst e
  · exact sp_rd_ok h0
  · exact sp_rd_ok h1
  · exact sp_rd_ok h2
section T22
variable {N S : Nat} {H : pj_Heap} {x : pj_Sg} {b0 b1 b2 c : Int32}
theorem C_tick (hc : c = 0 ∨ c = 1) (hx : pj_In x) (hC : pj_C H x) : pj_Co N S H 54 [some (.ref 4), some (.int b0), some (.int b1), some (.int b2), some (.int c)] (op_tick x b0 b1 b2 c) := by
  obtain ⟨t, ht, hR⟩ := hx.1
  have hU := hC.2.2.1.1
  have hx5 : pj_uc 5 x.1 = .inl (4, [.ref 6, .ref 7, .ref 8, .ref 9, .ref 10, .ref 11, .ref 12, .int (sp_vot x.1), .int (sp_bar x.1), .int (x.1 7), .int (x.1 6)]) := rfl
  unfold op_tick
  have ea : ∀ H' r, (sp_ar b0 b1 b2 = 0 → pj_Ends 54 (9, [some (.ref 4), some (.int b0), some (.int b1), some (.int b2), some (.int c)], [], (N, S, H)) (some (.int r), (N, S, H'))) → (¬ sp_ar b0 b1 b2 = 0 → pj_Ends 54 (12, [some (.ref 4), some (.int b0), some (.int b1), some (.int b2), some (.int c)], [], (N, S, H)) (some (.int r), (N, S, H'))) → pj_Ends 54 (0, [some (.ref 4), some (.int b0), some (.int b1), some (.int b2), some (.int c)], [], (N, S, H)) (some (.int r), (N, S, H')) := by
    intro H' r K1 K2
    simp (disch := first | assumption | exact pj_long_i | exact pj_long_r | exact pj_long_n | decide) only [x54_0, x54_1, x54_2, simprocAttr, pj_then_s, pj_pv_s, pj_pi_s, pj_set_s, if_true, if_false, not_true_eq_false, not_false_eq_true, pj_up_up, pj_so110_109, pj_so111_109, pj_so112_109, pj_so113_109, pj_so114_109, pj_so115_109, pj_so116_109, pj_so117_109, pj_so111_110, pj_so112_110, pj_so113_110, pj_so114_110, pj_so115_110, pj_so116_110, pj_so117_110, pj_so112_111, pj_so113_111, pj_so114_111, pj_so115_111, pj_so116_111, pj_so117_111, pj_so113_112, pj_so114_112, pj_so115_112, pj_so116_112, pj_so117_112, pj_so114_113, pj_so115_113, pj_so116_113, pj_so117_113, pj_so115_114, pj_so116_114, pj_so117_114, pj_so116_115, pj_so117_115, pj_so117_116, pj_up_ap, pj_upd_ap, pj_a3_0, pj_a3_1, pj_a3_2, pj_a3_u0, pj_a3_u1, pj_a3_u2]
    refine e54_3 rfl c_areReadings ?_
    by_cases q : sp_ar b0 b1 b2 = 0
    · have := K1 q
      simp (disch := first | assumption | exact pj_long_i | exact pj_long_r | exact pj_long_n | decide) only [x54_6, simprocAttr, pj_then_s, pj_pv_s, pj_pi_s, pj_set_s, if_true, if_false, not_true_eq_false, not_false_eq_true, pj_up_up, pj_so110_109, pj_so111_109, pj_so112_109, pj_so113_109, pj_so114_109, pj_so115_109, pj_so116_109, pj_so117_109, pj_so111_110, pj_so112_110, pj_so113_110, pj_so114_110, pj_so115_110, pj_so116_110, pj_so117_110, pj_so112_111, pj_so113_111, pj_so114_111, pj_so115_111, pj_so116_111, pj_so117_111, pj_so113_112, pj_so114_112, pj_so115_112, pj_so116_112, pj_so117_112, pj_so114_113, pj_so115_113, pj_so116_113, pj_so117_113, pj_so115_114, pj_so116_114, pj_so117_114, pj_so116_115, pj_so117_115, pj_so117_116, pj_up_ap, pj_upd_ap, pj_a3_0, pj_a3_1, pj_a3_2, pj_a3_u0, pj_a3_u1, pj_a3_u2, q]
      exact this
    · have := K2 q
      simp (disch := first | assumption | exact pj_long_i | exact pj_long_r | exact pj_long_n | decide) only [x54_6, simprocAttr, pj_then_s, pj_pv_s, pj_pi_s, pj_set_s, if_true, if_false, not_true_eq_false, not_false_eq_true, pj_up_up, pj_so110_109, pj_so111_109, pj_so112_109, pj_so113_109, pj_so114_109, pj_so115_109, pj_so116_109, pj_so117_109, pj_so111_110, pj_so112_110, pj_so113_110, pj_so114_110, pj_so115_110, pj_so116_110, pj_so117_110, pj_so112_111, pj_so113_111, pj_so114_111, pj_so115_111, pj_so116_111, pj_so117_111, pj_so113_112, pj_so114_112, pj_so115_112, pj_so116_112, pj_so117_112, pj_so114_113, pj_so115_113, pj_so116_113, pj_so117_113, pj_so115_114, pj_so116_114, pj_so117_114, pj_so116_115, pj_so117_115, pj_so117_116, pj_up_ap, pj_upd_ap, pj_a3_0, pj_a3_1, pj_a3_2, pj_a3_u0, pj_a3_u1, pj_a3_u2, q]
      exact this
  have bad : sp_ar b0 b1 b2 = 0 → pj_Co N S H 54 [some (.ref 4), some (.int b0), some (.int b1), some (.int b2), some (.int c)] (x, -2) := by
    intro q
    refine pj_Co_same hC (ea _ _ (fun _ => ?_) (fun q' => absurd q q'))
    simp (disch := first | assumption | exact pj_long_i | exact pj_long_r | exact pj_long_n | decide) only [x54_9, simprocAttr, pj_then_s, pj_pv_s, pj_pi_s, pj_set_s, if_true, if_false, not_true_eq_false, not_false_eq_true, pj_up_up, pj_so110_109, pj_so111_109, pj_so112_109, pj_so113_109, pj_so114_109, pj_so115_109, pj_so116_109, pj_so117_109, pj_so111_110, pj_so112_110, pj_so113_110, pj_so114_110, pj_so115_110, pj_so116_110, pj_so117_110, pj_so112_111, pj_so113_111, pj_so114_111, pj_so115_111, pj_so116_111, pj_so117_111, pj_so113_112, pj_so114_112, pj_so115_112, pj_so116_112, pj_so117_112, pj_so114_113, pj_so115_113, pj_so116_113, pj_so117_113, pj_so115_114, pj_so116_114, pj_so117_114, pj_so116_115, pj_so117_115, pj_so117_116, pj_up_ap, pj_upd_ap, pj_a3_0, pj_a3_1, pj_a3_2, pj_a3_u0, pj_a3_u1, pj_a3_u2]
    exact t54_11
  by_cases c0 : sp_rd b0 = 0
  · rw [if_pos c0]
    exact bad (by unfold sp_ar; rw [if_pos c0])
  rw [if_neg c0]
  by_cases c1 : sp_rd b1 = 0
  · rw [if_pos c1]
    exact bad (by unfold sp_ar; rw [if_neg c0, if_pos c1])
  rw [if_neg c1]
  by_cases c2 : sp_rd b2 = 0
  · rw [if_pos c2]
    exact bad (by unfold sp_ar; rw [if_neg c0, if_neg c1, if_pos c2])
  rw [if_neg c2]
  have ok : ¬ sp_ar b0 b1 b2 = 0 := by
    unfold sp_ar
    rw [if_neg c0, if_neg c1, if_neg c2]
    decide
  by_cases c4 : 100000 ≤ x.1 6
  · rw [if_pos c4]
    have c5 : ¬ x.1 6 < 100000 := Int32.not_lt.mpr c4
    refine pj_Co_same hC (ea _ _ (fun q => absurd q ok) (fun _ => ?_))
    simp (disch := first | assumption | exact pj_long_i | exact pj_long_r | exact pj_long_n | decide) only [x54_12, x54_13, x54_16, x54_19, x54_21, x54_24, simprocAttr, pj_then_s, pj_pv_s, pj_pi_s, pj_set_s, if_true, if_false, not_true_eq_false, not_false_eq_true, pj_up_up, pj_so110_109, pj_so111_109, pj_so112_109, pj_so113_109, pj_so114_109, pj_so115_109, pj_so116_109, pj_so117_109, pj_so111_110, pj_so112_110, pj_so113_110, pj_so114_110, pj_so115_110, pj_so116_110, pj_so117_110, pj_so112_111, pj_so113_111, pj_so114_111, pj_so115_111, pj_so116_111, pj_so117_111, pj_so113_112, pj_so114_112, pj_so115_112, pj_so116_112, pj_so117_112, pj_so114_113, pj_so115_113, pj_so116_113, pj_so117_113, pj_so115_114, pj_so116_114, pj_so117_114, pj_so116_115, pj_so117_115, pj_so117_116, pj_up_ap, pj_upd_ap, pj_a3_0, pj_a3_1, pj_a3_2, pj_a3_u0, pj_a3_u1, pj_a3_u2, pj_f5_0, pj_f4_10, hC.2.1, pj_vc, hU, hx5, c5]
    exact t54_26
  · rw [if_neg c4]
    have c5 : x.1 6 < 100000 := Int32.not_le.mp c4
    obtain ⟨H1, hC1, hF1, hE⟩ := c_remember (N := N) (S := S) hx.2.1 hC
    obtain ⟨H2, g1, g2, g3, g4⟩ := c_pass_5 (N := N) (S := S) (H := H1) (f := x.1) (b0 := b0) (b1 := b1) (b2 := b2) hC1.2.1 hR (by omega) hc (sp_rd_a3 c0 c1 c2) hC1.2.2.2.1.2 hC1.2.2.1
    obtain ⟨w, hw⟩ := hC1.2.2.2.1.1
    refine ⟨H2, hC1.now g1 ⟨⟨w, hw.frame (fun i hi => g3 _ (by omega) (by omega))⟩, g2⟩ (fun j hj => g3 j (by omega) (by omega)), fun j hj => (g3 j (by omega) (by omega)).trans (hF1 j (by omega)), ea _ _ (fun q => absurd q ok) (fun _ => ?_)⟩
    have V1 := hC1.2.1
    simp (disch := first | assumption | exact pj_long_i | exact pj_long_r | exact pj_long_n | decide) only [x54_12, x54_13, x54_16, x54_19, x54_21, x54_24, x54_27, simprocAttr, pj_then_s, pj_pv_s, pj_pi_s, pj_set_s, if_true, if_false, not_true_eq_false, not_false_eq_true, pj_up_up, pj_so110_109, pj_so111_109, pj_so112_109, pj_so113_109, pj_so114_109, pj_so115_109, pj_so116_109, pj_so117_109, pj_so111_110, pj_so112_110, pj_so113_110, pj_so114_110, pj_so115_110, pj_so116_110, pj_so117_110, pj_so112_111, pj_so113_111, pj_so114_111, pj_so115_111, pj_so116_111, pj_so117_111, pj_so113_112, pj_so114_112, pj_so115_112, pj_so116_112, pj_so117_112, pj_so114_113, pj_so115_113, pj_so116_113, pj_so117_113, pj_so115_114, pj_so116_114, pj_so117_114, pj_so116_115, pj_so117_115, pj_so117_116, pj_up_ap, pj_upd_ap, pj_a3_0, pj_a3_1, pj_a3_2, pj_a3_u0, pj_a3_u1, pj_a3_u2, pj_f5_0, pj_f4_10, hC.2.1, pj_vc, hU, hx5, c5]
    refine e54_28 rfl (by rw [hC.2.1]; rfl) hE ?_
    simp (disch := first | assumption | exact pj_long_i | exact pj_long_r | exact pj_long_n | decide) only [x54_31, x54_32, x54_33, x54_36, x54_37, x54_38, x54_39, simprocAttr, pj_then_s, pj_pv_s, pj_pi_s, pj_set_s, if_true, if_false, not_true_eq_false, not_false_eq_true, pj_up_up, pj_so110_109, pj_so111_109, pj_so112_109, pj_so113_109, pj_so114_109, pj_so115_109, pj_so116_109, pj_so117_109, pj_so111_110, pj_so112_110, pj_so113_110, pj_so114_110, pj_so115_110, pj_so116_110, pj_so117_110, pj_so112_111, pj_so113_111, pj_so114_111, pj_so115_111, pj_so116_111, pj_so117_111, pj_so113_112, pj_so114_112, pj_so115_112, pj_so116_112, pj_so117_112, pj_so114_113, pj_so115_113, pj_so116_113, pj_so117_113, pj_so115_114, pj_so116_114, pj_so117_114, pj_so116_115, pj_so117_115, pj_so117_116, pj_up_ap, pj_upd_ap, pj_a3_0, pj_a3_1, pj_a3_2, pj_a3_u0, pj_a3_u1, pj_a3_u2, pj_f5_0, V1, pj_vc]
    refine e54_41 rfl (by rw [V1]; rfl) g4 ?_
    exact t54_44
end T22
