/-! THE CLASS'S WHAT-IFS: ticksTo -/
theorem op_tt_no {g f : Nat → Int32} {s n : Nat} (h : ¬ f (23 + s) = -6) : ∀ m, op_tt g s m n f = nI n
  | 0 => by unfold op_tt; rw [if_neg h]
  | m + 1 => by unfold op_tt; rw [if_neg h]
section T32
variable {x : pj_Sg} {r : Int32}
theorem c_tt_0 (hr : ¬ sp_rd r = 0) : ∀ (m n N S : Nat) (H : pj_Heap) (F : Nat → Int32) (t : Nat), n + m = 50 → pj_C H x → pj_U H 14 F → pj_Ro F t → t ≤ 100000 + n → F 23 = -6 → ∃ H', pj_C H' x ∧ (∀ j, j < 4 ∨ 108 < j → H' j = H j) ∧ pj_Ends 30 (50, [some (.ref 4), some (.int 0), some (.int r), some (.int (nI (n + 1)))], [], (N, S, H)) (some (.int (op_tt (pj_a3 r r r) 0 m n F)), (N, S, H'))
  | 0, n, N, S, H, F, t, hn, hC, hU, hR, ht, h6 => by
    have en : n = 50 := by omega
    subst en
    have e : nI (50 + 1) = 51 := rfl
    unfold op_tt
    rw [e, if_pos (show F (23 + 0) = -6 from h6)]
    refine ⟨H, hC, fun _ _ => rfl, ?_⟩
    simp (disch := first | assumption | exact pj_long_i | exact pj_long_r | exact pj_long_n | decide) only [x30_50, x30_51, x30_53, x30_56, x30_57, x30_58, x30_61, x30_62, x30_63, x30_64, x30_68, x30_72, x30_75, x30_77, x30_80, x30_83, simprocAttr, pj_then_s, pj_pv_s, pj_pi_s, pj_set_s, if_true, if_false, not_true_eq_false, not_false_eq_true, pj_up_up, pj_so110_109, pj_so111_109, pj_so112_109, pj_so113_109, pj_so114_109, pj_so115_109, pj_so116_109, pj_so117_109, pj_so111_110, pj_so112_110, pj_so113_110, pj_so114_110, pj_so115_110, pj_so116_110, pj_so117_110, pj_so112_111, pj_so113_111, pj_so114_111, pj_so115_111, pj_so116_111, pj_so117_111, pj_so113_112, pj_so114_112, pj_so115_112, pj_so116_112, pj_so117_112, pj_so114_113, pj_so115_113, pj_so116_113, pj_so117_113, pj_so115_114, pj_so116_114, pj_so117_114, pj_so116_115, pj_so117_115, pj_so117_116, pj_up_ap, pj_upd_ap, pj_a3_0, pj_a3_1, pj_a3_2, pj_a3_u0, pj_a3_u1, pj_a3_u2, pj_f5_1, pj_long_i, pj_long_r, pj_long_n]
    exact t30_85
  | m + 1, n, N, S, H, F, t, hn, hC, hU, hR, ht, h6 => by
    have hg := sp_rd_a3 hr hr hr
    obtain ⟨H1, g1, g2, g3, g4⟩ := c_pass_14 (N := N) (S := S) (H := H) (f := F) (b0 := r) (b1 := r) (b2 := r) hC.2.1 hR (by omega) (c := 1) (Or.inr rfl) hg hC.2.2.2.1.2 hU
    have hC1 : pj_C H1 x := hC.try ⟨⟨_, g1⟩, g2⟩ (fun j hj => g3 j (by omega) (by omega))
    have gF : ∀ j, j < 4 ∨ 108 < j → H1 j = H j := fun j hj => g3 j (by omega) (by omega)
    obtain ⟨y0, y1, y2, hb, ef, ey⟩ := tk_fires (c := 1) (k := 0) hR (by omega) (by decide) hg h6
    have c1 : nI (n + 1) ≤ 50 := (nI_leI (a := n + 1) (b := 50) (by omega) (by decide)).mpr (by omega)
    have c2 : ¬ 50 < nI (n + 1) := Int32.not_lt.mpr c1
    have V0 := hC.2.1
    unfold op_tt
    rw [if_pos (show F (23 + 0) = -6 from h6)]
    rw [ef] at g4
    rw [pj_a3_0] at ey
    by_cases q : y0 = 0
    · obtain ⟨H2, p1, p2, p3⟩ := c_tt_0 hr m (n + 1) N S H1 (sp_tick F (pj_a3 r r r) 1) (t + 1) (by omega) hC1 g1 (hR.tick hg) (by omega) (ey.mpr q)
      refine ⟨H2, p1, fun j hj => (p2 j hj).trans (gF j hj), ?_⟩
      rw [x30_50]
      simp (disch := first | assumption | exact pj_long_i | exact pj_long_r | exact pj_long_n | decide) only [x30_51, x30_53, x30_56, x30_57, x30_58, x30_61, x30_62, x30_63, x30_64, simprocAttr, pj_then_s, pj_pv_s, pj_pi_s, pj_set_s, if_true, if_false, not_true_eq_false, not_false_eq_true, pj_up_up, pj_so110_109, pj_so111_109, pj_so112_109, pj_so113_109, pj_so114_109, pj_so115_109, pj_so116_109, pj_so117_109, pj_so111_110, pj_so112_110, pj_so113_110, pj_so114_110, pj_so115_110, pj_so116_110, pj_so117_110, pj_so112_111, pj_so113_111, pj_so114_111, pj_so115_111, pj_so116_111, pj_so117_111, pj_so113_112, pj_so114_112, pj_so115_112, pj_so116_112, pj_so117_112, pj_so114_113, pj_so115_113, pj_so116_113, pj_so117_113, pj_so115_114, pj_so116_114, pj_so117_114, pj_so116_115, pj_so117_115, pj_so117_116, pj_up_ap, pj_upd_ap, pj_a3_0, pj_a3_1, pj_a3_2, pj_a3_u0, pj_a3_u1, pj_a3_u2, pj_f5_1, V0, pj_vc, c1, c2]
      refine e30_65 rfl (by rw [V0]; rfl) g4 ?_
      simp (disch := first | assumption | exact pj_long_i | exact pj_long_r | exact pj_long_n | decide) only [x30_68, simprocAttr, pj_then_s, pj_pv_s, pj_pi_s, pj_set_s, if_true, if_false, not_true_eq_false, not_false_eq_true, pj_up_up, pj_so110_109, pj_so111_109, pj_so112_109, pj_so113_109, pj_so114_109, pj_so115_109, pj_so116_109, pj_so117_109, pj_so111_110, pj_so112_110, pj_so113_110, pj_so114_110, pj_so115_110, pj_so116_110, pj_so117_110, pj_so112_111, pj_so113_111, pj_so114_111, pj_so115_111, pj_so116_111, pj_so117_111, pj_so113_112, pj_so114_112, pj_so115_112, pj_so116_112, pj_so117_112, pj_so114_113, pj_so115_113, pj_so116_113, pj_so117_113, pj_so115_114, pj_so116_114, pj_so117_114, pj_so116_115, pj_so117_115, pj_so117_116, pj_up_ap, pj_upd_ap, pj_a3_0, pj_a3_1, pj_a3_2, pj_a3_u0, pj_a3_u1, pj_a3_u2]
      refine e30_69 rfl (c_has_0 hb) ?_
      have e1 : nI (n + 1) + 1 = nI (n + 1 + 1) := nI_1 (n + 1)
      simp (disch := first | assumption | exact pj_long_i | exact pj_long_r | exact pj_long_n | decide) only [x30_72, x30_75, x30_77, x30_80, simprocAttr, pj_then_s, pj_pv_s, pj_pi_s, pj_set_s, if_true, if_false, not_true_eq_false, not_false_eq_true, pj_up_up, pj_so110_109, pj_so111_109, pj_so112_109, pj_so113_109, pj_so114_109, pj_so115_109, pj_so116_109, pj_so117_109, pj_so111_110, pj_so112_110, pj_so113_110, pj_so114_110, pj_so115_110, pj_so116_110, pj_so117_110, pj_so112_111, pj_so113_111, pj_so114_111, pj_so115_111, pj_so116_111, pj_so117_111, pj_so113_112, pj_so114_112, pj_so115_112, pj_so116_112, pj_so117_112, pj_so114_113, pj_so115_113, pj_so116_113, pj_so117_113, pj_so115_114, pj_so116_114, pj_so117_114, pj_so116_115, pj_so117_115, pj_so117_116, pj_up_ap, pj_upd_ap, pj_a3_0, pj_a3_1, pj_a3_2, pj_a3_u0, pj_a3_u1, pj_a3_u2, pj_long_i, pj_long_r, pj_long_n, q, e1]
      exact p3
    · rw [op_tt_no (fun w => q (ey.mp w)) m]
      refine ⟨H1, hC1, gF, ?_⟩
      simp (disch := first | assumption | exact pj_long_i | exact pj_long_r | exact pj_long_n | decide) only [x30_50, x30_51, x30_53, x30_56, x30_57, x30_58, x30_61, x30_62, x30_63, x30_64, simprocAttr, pj_then_s, pj_pv_s, pj_pi_s, pj_set_s, if_true, if_false, not_true_eq_false, not_false_eq_true, pj_up_up, pj_so110_109, pj_so111_109, pj_so112_109, pj_so113_109, pj_so114_109, pj_so115_109, pj_so116_109, pj_so117_109, pj_so111_110, pj_so112_110, pj_so113_110, pj_so114_110, pj_so115_110, pj_so116_110, pj_so117_110, pj_so112_111, pj_so113_111, pj_so114_111, pj_so115_111, pj_so116_111, pj_so117_111, pj_so113_112, pj_so114_112, pj_so115_112, pj_so116_112, pj_so117_112, pj_so114_113, pj_so115_113, pj_so116_113, pj_so117_113, pj_so115_114, pj_so116_114, pj_so117_114, pj_so116_115, pj_so117_115, pj_so117_116, pj_up_ap, pj_upd_ap, pj_a3_0, pj_a3_1, pj_a3_2, pj_a3_u0, pj_a3_u1, pj_a3_u2, pj_f5_1, V0, pj_vc, c1, c2]
      refine e30_65 rfl (by rw [V0]; rfl) g4 ?_
      simp (disch := first | assumption | exact pj_long_i | exact pj_long_r | exact pj_long_n | decide) only [x30_68, simprocAttr, pj_then_s, pj_pv_s, pj_pi_s, pj_set_s, if_true, if_false, not_true_eq_false, not_false_eq_true, pj_up_up, pj_so110_109, pj_so111_109, pj_so112_109, pj_so113_109, pj_so114_109, pj_so115_109, pj_so116_109, pj_so117_109, pj_so111_110, pj_so112_110, pj_so113_110, pj_so114_110, pj_so115_110, pj_so116_110, pj_so117_110, pj_so112_111, pj_so113_111, pj_so114_111, pj_so115_111, pj_so116_111, pj_so117_111, pj_so113_112, pj_so114_112, pj_so115_112, pj_so116_112, pj_so117_112, pj_so114_113, pj_so115_113, pj_so116_113, pj_so117_113, pj_so115_114, pj_so116_114, pj_so117_114, pj_so116_115, pj_so117_115, pj_so117_116, pj_up_ap, pj_upd_ap, pj_a3_0, pj_a3_1, pj_a3_2, pj_a3_u0, pj_a3_u1, pj_a3_u2]
      refine e30_69 rfl (c_has_0 hb) ?_
      simp (disch := first | assumption | exact pj_long_i | exact pj_long_r | exact pj_long_n | decide) only [x30_72, x30_75, simprocAttr, pj_then_s, pj_pv_s, pj_pi_s, pj_set_s, if_true, if_false, not_true_eq_false, not_false_eq_true, pj_up_up, pj_so110_109, pj_so111_109, pj_so112_109, pj_so113_109, pj_so114_109, pj_so115_109, pj_so116_109, pj_so117_109, pj_so111_110, pj_so112_110, pj_so113_110, pj_so114_110, pj_so115_110, pj_so116_110, pj_so117_110, pj_so112_111, pj_so113_111, pj_so114_111, pj_so115_111, pj_so116_111, pj_so117_111, pj_so113_112, pj_so114_112, pj_so115_112, pj_so116_112, pj_so117_112, pj_so114_113, pj_so115_113, pj_so116_113, pj_so117_113, pj_so115_114, pj_so116_114, pj_so117_114, pj_so116_115, pj_so117_115, pj_so117_116, pj_up_ap, pj_upd_ap, pj_a3_0, pj_a3_1, pj_a3_2, pj_a3_u0, pj_a3_u1, pj_a3_u2, q]
      exact t30_76
theorem c_ticksTo_0 {N S : Nat} {H : pj_Heap} (hr : ¬ sp_rd r = 0) (hx : pj_In x) (hC : pj_C H x) : pj_Co N S H 30 [some (.ref 4), some (.int 0), some (.int r), none] (x, op_tt (pj_a3 r r r) 0 50 0 x.1) := by
  obtain ⟨t, ht, hR⟩ := hx.1
  have hU := hC.2.2.1
  have V0 := hC.2.1
  have hx5 : pj_uc 5 x.1 = .inl (4, [.ref 6, .ref 7, .ref 8, .ref 9, .ref 10, .ref 11, .ref 12, .int (sp_vot x.1), .int (sp_bar x.1), .int (x.1 7), .int (x.1 6)]) := rfl
  have hu := hU.1
  have hu6 := hU.2.2.2.2.2.2.1
  by_cases c : x.1 23 = -6
  · obtain ⟨w, hw⟩ := hC.2.2.2.1.1
    obtain ⟨H1, g1, g2, g3⟩ := c_become (N := N) (S := S) hw hU (Or.inr (by decide))
    have hC1 : pj_C H1 x := hC.try ⟨⟨_, g1⟩, hC.2.2.2.1.2.frame (fun i hi => g2 _ (by omega))⟩ (fun j hj => g2 j (by omega))
    obtain ⟨H2, p1, p2, p3⟩ := c_tt_0 hr 50 0 N S H1 x.1 t (by decide) hC1 g1 hR (by omega) c
    have V1 := hC1.2.1
    refine ⟨H2, p1, fun j hj => (p2 j hj).trans (g2 j (by omega)), ?_⟩
    have e1 : nI (0 + 1) = 1 := rfl
    rw [e1] at p3
    simp (disch := first | assumption | exact pj_long_i | exact pj_long_r | exact pj_long_n | decide) only [x30_0, x30_1, x30_4, x30_5, x30_6, x30_9, x30_11, simprocAttr, pj_then_s, pj_pv_s, pj_pi_s, pj_set_s, if_true, if_false, not_true_eq_false, not_false_eq_true, pj_up_up, pj_so110_109, pj_so111_109, pj_so112_109, pj_so113_109, pj_so114_109, pj_so115_109, pj_so116_109, pj_so117_109, pj_so111_110, pj_so112_110, pj_so113_110, pj_so114_110, pj_so115_110, pj_so116_110, pj_so117_110, pj_so112_111, pj_so113_111, pj_so114_111, pj_so115_111, pj_so116_111, pj_so117_111, pj_so113_112, pj_so114_112, pj_so115_112, pj_so116_112, pj_so117_112, pj_so114_113, pj_so115_113, pj_so116_113, pj_so117_113, pj_so115_114, pj_so116_114, pj_so117_114, pj_so116_115, pj_so117_115, pj_so117_116, pj_up_ap, pj_upd_ap, pj_a3_0, pj_a3_1, pj_a3_2, pj_a3_u0, pj_a3_u1, pj_a3_u2]
    refine e30_12 rfl c_isR ?_
    simp (disch := first | assumption | exact pj_long_i | exact pj_long_r | exact pj_long_n | decide) only [x30_15, x30_18, x30_21, x30_22, x30_25, x30_28, x30_29, x30_30, x30_32, x30_35, x30_37, x30_38, x30_41, x30_42, simprocAttr, pj_then_s, pj_pv_s, pj_pi_s, pj_set_s, if_true, if_false, not_true_eq_false, not_false_eq_true, pj_up_up, pj_so110_109, pj_so111_109, pj_so112_109, pj_so113_109, pj_so114_109, pj_so115_109, pj_so116_109, pj_so117_109, pj_so111_110, pj_so112_110, pj_so113_110, pj_so114_110, pj_so115_110, pj_so116_110, pj_so117_110, pj_so112_111, pj_so113_111, pj_so114_111, pj_so115_111, pj_so116_111, pj_so117_111, pj_so113_112, pj_so114_112, pj_so115_112, pj_so116_112, pj_so117_112, pj_so114_113, pj_so115_113, pj_so116_113, pj_so117_113, pj_so115_114, pj_so116_114, pj_so117_114, pj_so116_115, pj_so117_115, pj_so117_116, pj_up_ap, pj_upd_ap, pj_a3_0, pj_a3_1, pj_a3_2, pj_a3_u0, pj_a3_u1, pj_a3_u2, pj_f5_0, pj_f4_5, pj_arl_i, pj_f5_1, hr, V0, pj_vc, hu, hx5, hu6, c]
    refine e30_45 rfl (by rw [hw.1]; rfl) g3 ?_
    simp (disch := first | assumption | exact pj_long_i | exact pj_long_r | exact pj_long_n | decide) only [x30_48, x30_49, simprocAttr, pj_then_s, pj_pv_s, pj_pi_s, pj_set_s, if_true, if_false, not_true_eq_false, not_false_eq_true, pj_up_up, pj_so110_109, pj_so111_109, pj_so112_109, pj_so113_109, pj_so114_109, pj_so115_109, pj_so116_109, pj_so117_109, pj_so111_110, pj_so112_110, pj_so113_110, pj_so114_110, pj_so115_110, pj_so116_110, pj_so117_110, pj_so112_111, pj_so113_111, pj_so114_111, pj_so115_111, pj_so116_111, pj_so117_111, pj_so113_112, pj_so114_112, pj_so115_112, pj_so116_112, pj_so117_112, pj_so114_113, pj_so115_113, pj_so116_113, pj_so117_113, pj_so115_114, pj_so116_114, pj_so117_114, pj_so116_115, pj_so117_115, pj_so117_116, pj_up_ap, pj_upd_ap, pj_a3_0, pj_a3_1, pj_a3_2, pj_a3_u0, pj_a3_u1, pj_a3_u2, pj_long_i, pj_long_r, pj_long_n]
    exact p3
  · rw [op_tt_no c 50]
    refine pj_Co_same hC ?_
    simp (disch := first | assumption | exact pj_long_i | exact pj_long_r | exact pj_long_n | decide) only [x30_0, x30_1, x30_4, x30_5, x30_6, x30_9, x30_11, simprocAttr, pj_then_s, pj_pv_s, pj_pi_s, pj_set_s, if_true, if_false, not_true_eq_false, not_false_eq_true, pj_up_up, pj_so110_109, pj_so111_109, pj_so112_109, pj_so113_109, pj_so114_109, pj_so115_109, pj_so116_109, pj_so117_109, pj_so111_110, pj_so112_110, pj_so113_110, pj_so114_110, pj_so115_110, pj_so116_110, pj_so117_110, pj_so112_111, pj_so113_111, pj_so114_111, pj_so115_111, pj_so116_111, pj_so117_111, pj_so113_112, pj_so114_112, pj_so115_112, pj_so116_112, pj_so117_112, pj_so114_113, pj_so115_113, pj_so116_113, pj_so117_113, pj_so115_114, pj_so116_114, pj_so117_114, pj_so116_115, pj_so117_115, pj_so117_116, pj_up_ap, pj_upd_ap, pj_a3_0, pj_a3_1, pj_a3_2, pj_a3_u0, pj_a3_u1, pj_a3_u2]
    refine e30_12 rfl c_isR ?_
    simp (disch := first | assumption | exact pj_long_i | exact pj_long_r | exact pj_long_n | decide) only [x30_15, x30_18, x30_21, x30_22, x30_25, x30_28, x30_29, x30_30, x30_32, x30_35, simprocAttr, pj_then_s, pj_pv_s, pj_pi_s, pj_set_s, if_true, if_false, not_true_eq_false, not_false_eq_true, pj_up_up, pj_so110_109, pj_so111_109, pj_so112_109, pj_so113_109, pj_so114_109, pj_so115_109, pj_so116_109, pj_so117_109, pj_so111_110, pj_so112_110, pj_so113_110, pj_so114_110, pj_so115_110, pj_so116_110, pj_so117_110, pj_so112_111, pj_so113_111, pj_so114_111, pj_so115_111, pj_so116_111, pj_so117_111, pj_so113_112, pj_so114_112, pj_so115_112, pj_so116_112, pj_so117_112, pj_so114_113, pj_so115_113, pj_so116_113, pj_so117_113, pj_so115_114, pj_so116_114, pj_so117_114, pj_so116_115, pj_so117_115, pj_so117_116, pj_up_ap, pj_upd_ap, pj_a3_0, pj_a3_1, pj_a3_2, pj_a3_u0, pj_a3_u1, pj_a3_u2, pj_f5_0, pj_f4_5, pj_arl_i, hr, V0, pj_vc, hu, hx5, hu6, c]
    exact t30_36
theorem c_tt_1 (hr : ¬ sp_rd r = 0) : ∀ (m n N S : Nat) (H : pj_Heap) (F : Nat → Int32) (t : Nat), n + m = 50 → pj_C H x → pj_U H 14 F → pj_Ro F t → t ≤ 100000 + n → F 24 = -6 → ∃ H', pj_C H' x ∧ (∀ j, j < 4 ∨ 108 < j → H' j = H j) ∧ pj_Ends 30 (50, [some (.ref 4), some (.int 1), some (.int r), some (.int (nI (n + 1)))], [], (N, S, H)) (some (.int (op_tt (pj_a3 r r r) 1 m n F)), (N, S, H'))
  | 0, n, N, S, H, F, t, hn, hC, hU, hR, ht, h6 => by
    have en : n = 50 := by omega
    subst en
    have e : nI (50 + 1) = 51 := rfl
    unfold op_tt
    rw [e, if_pos (show F (23 + 1) = -6 from h6)]
    refine ⟨H, hC, fun _ _ => rfl, ?_⟩
    simp (disch := first | assumption | exact pj_long_i | exact pj_long_r | exact pj_long_n | decide) only [x30_50, x30_51, x30_53, x30_56, x30_57, x30_58, x30_61, x30_62, x30_63, x30_64, x30_68, x30_72, x30_75, x30_77, x30_80, x30_83, simprocAttr, pj_then_s, pj_pv_s, pj_pi_s, pj_set_s, if_true, if_false, not_true_eq_false, not_false_eq_true, pj_up_up, pj_so110_109, pj_so111_109, pj_so112_109, pj_so113_109, pj_so114_109, pj_so115_109, pj_so116_109, pj_so117_109, pj_so111_110, pj_so112_110, pj_so113_110, pj_so114_110, pj_so115_110, pj_so116_110, pj_so117_110, pj_so112_111, pj_so113_111, pj_so114_111, pj_so115_111, pj_so116_111, pj_so117_111, pj_so113_112, pj_so114_112, pj_so115_112, pj_so116_112, pj_so117_112, pj_so114_113, pj_so115_113, pj_so116_113, pj_so117_113, pj_so115_114, pj_so116_114, pj_so117_114, pj_so116_115, pj_so117_115, pj_so117_116, pj_up_ap, pj_upd_ap, pj_a3_0, pj_a3_1, pj_a3_2, pj_a3_u0, pj_a3_u1, pj_a3_u2, pj_f5_1, pj_long_i, pj_long_r, pj_long_n]
    exact t30_85
  | m + 1, n, N, S, H, F, t, hn, hC, hU, hR, ht, h6 => by
    have hg := sp_rd_a3 hr hr hr
    obtain ⟨H1, g1, g2, g3, g4⟩ := c_pass_14 (N := N) (S := S) (H := H) (f := F) (b0 := r) (b1 := r) (b2 := r) hC.2.1 hR (by omega) (c := 1) (Or.inr rfl) hg hC.2.2.2.1.2 hU
    have hC1 : pj_C H1 x := hC.try ⟨⟨_, g1⟩, g2⟩ (fun j hj => g3 j (by omega) (by omega))
    have gF : ∀ j, j < 4 ∨ 108 < j → H1 j = H j := fun j hj => g3 j (by omega) (by omega)
    obtain ⟨y0, y1, y2, hb, ef, ey⟩ := tk_fires (c := 1) (k := 1) hR (by omega) (by decide) hg h6
    have c1 : nI (n + 1) ≤ 50 := (nI_leI (a := n + 1) (b := 50) (by omega) (by decide)).mpr (by omega)
    have c2 : ¬ 50 < nI (n + 1) := Int32.not_lt.mpr c1
    have V0 := hC.2.1
    unfold op_tt
    rw [if_pos (show F (23 + 1) = -6 from h6)]
    rw [ef] at g4
    rw [pj_a3_1] at ey
    by_cases q : y1 = 0
    · obtain ⟨H2, p1, p2, p3⟩ := c_tt_1 hr m (n + 1) N S H1 (sp_tick F (pj_a3 r r r) 1) (t + 1) (by omega) hC1 g1 (hR.tick hg) (by omega) (ey.mpr q)
      refine ⟨H2, p1, fun j hj => (p2 j hj).trans (gF j hj), ?_⟩
      rw [x30_50]
      simp (disch := first | assumption | exact pj_long_i | exact pj_long_r | exact pj_long_n | decide) only [x30_51, x30_53, x30_56, x30_57, x30_58, x30_61, x30_62, x30_63, x30_64, simprocAttr, pj_then_s, pj_pv_s, pj_pi_s, pj_set_s, if_true, if_false, not_true_eq_false, not_false_eq_true, pj_up_up, pj_so110_109, pj_so111_109, pj_so112_109, pj_so113_109, pj_so114_109, pj_so115_109, pj_so116_109, pj_so117_109, pj_so111_110, pj_so112_110, pj_so113_110, pj_so114_110, pj_so115_110, pj_so116_110, pj_so117_110, pj_so112_111, pj_so113_111, pj_so114_111, pj_so115_111, pj_so116_111, pj_so117_111, pj_so113_112, pj_so114_112, pj_so115_112, pj_so116_112, pj_so117_112, pj_so114_113, pj_so115_113, pj_so116_113, pj_so117_113, pj_so115_114, pj_so116_114, pj_so117_114, pj_so116_115, pj_so117_115, pj_so117_116, pj_up_ap, pj_upd_ap, pj_a3_0, pj_a3_1, pj_a3_2, pj_a3_u0, pj_a3_u1, pj_a3_u2, pj_f5_1, V0, pj_vc, c1, c2]
      refine e30_65 rfl (by rw [V0]; rfl) g4 ?_
      simp (disch := first | assumption | exact pj_long_i | exact pj_long_r | exact pj_long_n | decide) only [x30_68, simprocAttr, pj_then_s, pj_pv_s, pj_pi_s, pj_set_s, if_true, if_false, not_true_eq_false, not_false_eq_true, pj_up_up, pj_so110_109, pj_so111_109, pj_so112_109, pj_so113_109, pj_so114_109, pj_so115_109, pj_so116_109, pj_so117_109, pj_so111_110, pj_so112_110, pj_so113_110, pj_so114_110, pj_so115_110, pj_so116_110, pj_so117_110, pj_so112_111, pj_so113_111, pj_so114_111, pj_so115_111, pj_so116_111, pj_so117_111, pj_so113_112, pj_so114_112, pj_so115_112, pj_so116_112, pj_so117_112, pj_so114_113, pj_so115_113, pj_so116_113, pj_so117_113, pj_so115_114, pj_so116_114, pj_so117_114, pj_so116_115, pj_so117_115, pj_so117_116, pj_up_ap, pj_upd_ap, pj_a3_0, pj_a3_1, pj_a3_2, pj_a3_u0, pj_a3_u1, pj_a3_u2]
      refine e30_69 rfl (c_has_1 hb) ?_
      have e1 : nI (n + 1) + 1 = nI (n + 1 + 1) := nI_1 (n + 1)
      simp (disch := first | assumption | exact pj_long_i | exact pj_long_r | exact pj_long_n | decide) only [x30_72, x30_75, x30_77, x30_80, simprocAttr, pj_then_s, pj_pv_s, pj_pi_s, pj_set_s, if_true, if_false, not_true_eq_false, not_false_eq_true, pj_up_up, pj_so110_109, pj_so111_109, pj_so112_109, pj_so113_109, pj_so114_109, pj_so115_109, pj_so116_109, pj_so117_109, pj_so111_110, pj_so112_110, pj_so113_110, pj_so114_110, pj_so115_110, pj_so116_110, pj_so117_110, pj_so112_111, pj_so113_111, pj_so114_111, pj_so115_111, pj_so116_111, pj_so117_111, pj_so113_112, pj_so114_112, pj_so115_112, pj_so116_112, pj_so117_112, pj_so114_113, pj_so115_113, pj_so116_113, pj_so117_113, pj_so115_114, pj_so116_114, pj_so117_114, pj_so116_115, pj_so117_115, pj_so117_116, pj_up_ap, pj_upd_ap, pj_a3_0, pj_a3_1, pj_a3_2, pj_a3_u0, pj_a3_u1, pj_a3_u2, pj_long_i, pj_long_r, pj_long_n, q, e1]
      exact p3
    · rw [op_tt_no (fun w => q (ey.mp w)) m]
      refine ⟨H1, hC1, gF, ?_⟩
      simp (disch := first | assumption | exact pj_long_i | exact pj_long_r | exact pj_long_n | decide) only [x30_50, x30_51, x30_53, x30_56, x30_57, x30_58, x30_61, x30_62, x30_63, x30_64, simprocAttr, pj_then_s, pj_pv_s, pj_pi_s, pj_set_s, if_true, if_false, not_true_eq_false, not_false_eq_true, pj_up_up, pj_so110_109, pj_so111_109, pj_so112_109, pj_so113_109, pj_so114_109, pj_so115_109, pj_so116_109, pj_so117_109, pj_so111_110, pj_so112_110, pj_so113_110, pj_so114_110, pj_so115_110, pj_so116_110, pj_so117_110, pj_so112_111, pj_so113_111, pj_so114_111, pj_so115_111, pj_so116_111, pj_so117_111, pj_so113_112, pj_so114_112, pj_so115_112, pj_so116_112, pj_so117_112, pj_so114_113, pj_so115_113, pj_so116_113, pj_so117_113, pj_so115_114, pj_so116_114, pj_so117_114, pj_so116_115, pj_so117_115, pj_so117_116, pj_up_ap, pj_upd_ap, pj_a3_0, pj_a3_1, pj_a3_2, pj_a3_u0, pj_a3_u1, pj_a3_u2, pj_f5_1, V0, pj_vc, c1, c2]
      refine e30_65 rfl (by rw [V0]; rfl) g4 ?_
      simp (disch := first | assumption | exact pj_long_i | exact pj_long_r | exact pj_long_n | decide) only [x30_68, simprocAttr, pj_then_s, pj_pv_s, pj_pi_s, pj_set_s, if_true, if_false, not_true_eq_false, not_false_eq_true, pj_up_up, pj_so110_109, pj_so111_109, pj_so112_109, pj_so113_109, pj_so114_109, pj_so115_109, pj_so116_109, pj_so117_109, pj_so111_110, pj_so112_110, pj_so113_110, pj_so114_110, pj_so115_110, pj_so116_110, pj_so117_110, pj_so112_111, pj_so113_111, pj_so114_111, pj_so115_111, pj_so116_111, pj_so117_111, pj_so113_112, pj_so114_112, pj_so115_112, pj_so116_112, pj_so117_112, pj_so114_113, pj_so115_113, pj_so116_113, pj_so117_113, pj_so115_114, pj_so116_114, pj_so117_114, pj_so116_115, pj_so117_115, pj_so117_116, pj_up_ap, pj_upd_ap, pj_a3_0, pj_a3_1, pj_a3_2, pj_a3_u0, pj_a3_u1, pj_a3_u2]
      refine e30_69 rfl (c_has_1 hb) ?_
      simp (disch := first | assumption | exact pj_long_i | exact pj_long_r | exact pj_long_n | decide) only [x30_72, x30_75, simprocAttr, pj_then_s, pj_pv_s, pj_pi_s, pj_set_s, if_true, if_false, not_true_eq_false, not_false_eq_true, pj_up_up, pj_so110_109, pj_so111_109, pj_so112_109, pj_so113_109, pj_so114_109, pj_so115_109, pj_so116_109, pj_so117_109, pj_so111_110, pj_so112_110, pj_so113_110, pj_so114_110, pj_so115_110, pj_so116_110, pj_so117_110, pj_so112_111, pj_so113_111, pj_so114_111, pj_so115_111, pj_so116_111, pj_so117_111, pj_so113_112, pj_so114_112, pj_so115_112, pj_so116_112, pj_so117_112, pj_so114_113, pj_so115_113, pj_so116_113, pj_so117_113, pj_so115_114, pj_so116_114, pj_so117_114, pj_so116_115, pj_so117_115, pj_so117_116, pj_up_ap, pj_upd_ap, pj_a3_0, pj_a3_1, pj_a3_2, pj_a3_u0, pj_a3_u1, pj_a3_u2, q]
      exact t30_76
theorem c_ticksTo_1 {N S : Nat} {H : pj_Heap} (hr : ¬ sp_rd r = 0) (hx : pj_In x) (hC : pj_C H x) : pj_Co N S H 30 [some (.ref 4), some (.int 1), some (.int r), none] (x, op_tt (pj_a3 r r r) 1 50 0 x.1) := by
  obtain ⟨t, ht, hR⟩ := hx.1
  have hU := hC.2.2.1
  have V0 := hC.2.1
  have hx5 : pj_uc 5 x.1 = .inl (4, [.ref 6, .ref 7, .ref 8, .ref 9, .ref 10, .ref 11, .ref 12, .int (sp_vot x.1), .int (sp_bar x.1), .int (x.1 7), .int (x.1 6)]) := rfl
  have hu := hU.1
  have hu6 := hU.2.2.2.2.2.2.1
  by_cases c : x.1 24 = -6
  · obtain ⟨w, hw⟩ := hC.2.2.2.1.1
    obtain ⟨H1, g1, g2, g3⟩ := c_become (N := N) (S := S) hw hU (Or.inr (by decide))
    have hC1 : pj_C H1 x := hC.try ⟨⟨_, g1⟩, hC.2.2.2.1.2.frame (fun i hi => g2 _ (by omega))⟩ (fun j hj => g2 j (by omega))
    obtain ⟨H2, p1, p2, p3⟩ := c_tt_1 hr 50 0 N S H1 x.1 t (by decide) hC1 g1 hR (by omega) c
    have V1 := hC1.2.1
    refine ⟨H2, p1, fun j hj => (p2 j hj).trans (g2 j (by omega)), ?_⟩
    have e1 : nI (0 + 1) = 1 := rfl
    rw [e1] at p3
    simp (disch := first | assumption | exact pj_long_i | exact pj_long_r | exact pj_long_n | decide) only [x30_0, x30_1, x30_4, x30_5, x30_6, x30_9, x30_11, simprocAttr, pj_then_s, pj_pv_s, pj_pi_s, pj_set_s, if_true, if_false, not_true_eq_false, not_false_eq_true, pj_up_up, pj_so110_109, pj_so111_109, pj_so112_109, pj_so113_109, pj_so114_109, pj_so115_109, pj_so116_109, pj_so117_109, pj_so111_110, pj_so112_110, pj_so113_110, pj_so114_110, pj_so115_110, pj_so116_110, pj_so117_110, pj_so112_111, pj_so113_111, pj_so114_111, pj_so115_111, pj_so116_111, pj_so117_111, pj_so113_112, pj_so114_112, pj_so115_112, pj_so116_112, pj_so117_112, pj_so114_113, pj_so115_113, pj_so116_113, pj_so117_113, pj_so115_114, pj_so116_114, pj_so117_114, pj_so116_115, pj_so117_115, pj_so117_116, pj_up_ap, pj_upd_ap, pj_a3_0, pj_a3_1, pj_a3_2, pj_a3_u0, pj_a3_u1, pj_a3_u2]
    refine e30_12 rfl c_isR ?_
    simp (disch := first | assumption | exact pj_long_i | exact pj_long_r | exact pj_long_n | decide) only [x30_15, x30_18, x30_21, x30_22, x30_25, x30_28, x30_29, x30_30, x30_32, x30_35, x30_37, x30_38, x30_41, x30_42, simprocAttr, pj_then_s, pj_pv_s, pj_pi_s, pj_set_s, if_true, if_false, not_true_eq_false, not_false_eq_true, pj_up_up, pj_so110_109, pj_so111_109, pj_so112_109, pj_so113_109, pj_so114_109, pj_so115_109, pj_so116_109, pj_so117_109, pj_so111_110, pj_so112_110, pj_so113_110, pj_so114_110, pj_so115_110, pj_so116_110, pj_so117_110, pj_so112_111, pj_so113_111, pj_so114_111, pj_so115_111, pj_so116_111, pj_so117_111, pj_so113_112, pj_so114_112, pj_so115_112, pj_so116_112, pj_so117_112, pj_so114_113, pj_so115_113, pj_so116_113, pj_so117_113, pj_so115_114, pj_so116_114, pj_so117_114, pj_so116_115, pj_so117_115, pj_so117_116, pj_up_ap, pj_upd_ap, pj_a3_0, pj_a3_1, pj_a3_2, pj_a3_u0, pj_a3_u1, pj_a3_u2, pj_f5_0, pj_f4_5, pj_arl_i, pj_f5_1, hr, V0, pj_vc, hu, hx5, hu6, c]
    refine e30_45 rfl (by rw [hw.1]; rfl) g3 ?_
    simp (disch := first | assumption | exact pj_long_i | exact pj_long_r | exact pj_long_n | decide) only [x30_48, x30_49, simprocAttr, pj_then_s, pj_pv_s, pj_pi_s, pj_set_s, if_true, if_false, not_true_eq_false, not_false_eq_true, pj_up_up, pj_so110_109, pj_so111_109, pj_so112_109, pj_so113_109, pj_so114_109, pj_so115_109, pj_so116_109, pj_so117_109, pj_so111_110, pj_so112_110, pj_so113_110, pj_so114_110, pj_so115_110, pj_so116_110, pj_so117_110, pj_so112_111, pj_so113_111, pj_so114_111, pj_so115_111, pj_so116_111, pj_so117_111, pj_so113_112, pj_so114_112, pj_so115_112, pj_so116_112, pj_so117_112, pj_so114_113, pj_so115_113, pj_so116_113, pj_so117_113, pj_so115_114, pj_so116_114, pj_so117_114, pj_so116_115, pj_so117_115, pj_so117_116, pj_up_ap, pj_upd_ap, pj_a3_0, pj_a3_1, pj_a3_2, pj_a3_u0, pj_a3_u1, pj_a3_u2, pj_long_i, pj_long_r, pj_long_n]
    exact p3
  · rw [op_tt_no c 50]
    refine pj_Co_same hC ?_
    simp (disch := first | assumption | exact pj_long_i | exact pj_long_r | exact pj_long_n | decide) only [x30_0, x30_1, x30_4, x30_5, x30_6, x30_9, x30_11, simprocAttr, pj_then_s, pj_pv_s, pj_pi_s, pj_set_s, if_true, if_false, not_true_eq_false, not_false_eq_true, pj_up_up, pj_so110_109, pj_so111_109, pj_so112_109, pj_so113_109, pj_so114_109, pj_so115_109, pj_so116_109, pj_so117_109, pj_so111_110, pj_so112_110, pj_so113_110, pj_so114_110, pj_so115_110, pj_so116_110, pj_so117_110, pj_so112_111, pj_so113_111, pj_so114_111, pj_so115_111, pj_so116_111, pj_so117_111, pj_so113_112, pj_so114_112, pj_so115_112, pj_so116_112, pj_so117_112, pj_so114_113, pj_so115_113, pj_so116_113, pj_so117_113, pj_so115_114, pj_so116_114, pj_so117_114, pj_so116_115, pj_so117_115, pj_so117_116, pj_up_ap, pj_upd_ap, pj_a3_0, pj_a3_1, pj_a3_2, pj_a3_u0, pj_a3_u1, pj_a3_u2]
    refine e30_12 rfl c_isR ?_
    simp (disch := first | assumption | exact pj_long_i | exact pj_long_r | exact pj_long_n | decide) only [x30_15, x30_18, x30_21, x30_22, x30_25, x30_28, x30_29, x30_30, x30_32, x30_35, simprocAttr, pj_then_s, pj_pv_s, pj_pi_s, pj_set_s, if_true, if_false, not_true_eq_false, not_false_eq_true, pj_up_up, pj_so110_109, pj_so111_109, pj_so112_109, pj_so113_109, pj_so114_109, pj_so115_109, pj_so116_109, pj_so117_109, pj_so111_110, pj_so112_110, pj_so113_110, pj_so114_110, pj_so115_110, pj_so116_110, pj_so117_110, pj_so112_111, pj_so113_111, pj_so114_111, pj_so115_111, pj_so116_111, pj_so117_111, pj_so113_112, pj_so114_112, pj_so115_112, pj_so116_112, pj_so117_112, pj_so114_113, pj_so115_113, pj_so116_113, pj_so117_113, pj_so115_114, pj_so116_114, pj_so117_114, pj_so116_115, pj_so117_115, pj_so117_116, pj_up_ap, pj_upd_ap, pj_a3_0, pj_a3_1, pj_a3_2, pj_a3_u0, pj_a3_u1, pj_a3_u2, pj_f5_0, pj_f4_5, pj_arl_i, hr, V0, pj_vc, hu, hx5, hu6, c]
    exact t30_36
theorem c_tt_2 (hr : ¬ sp_rd r = 0) : ∀ (m n N S : Nat) (H : pj_Heap) (F : Nat → Int32) (t : Nat), n + m = 50 → pj_C H x → pj_U H 14 F → pj_Ro F t → t ≤ 100000 + n → F 25 = -6 → ∃ H', pj_C H' x ∧ (∀ j, j < 4 ∨ 108 < j → H' j = H j) ∧ pj_Ends 30 (50, [some (.ref 4), some (.int 2), some (.int r), some (.int (nI (n + 1)))], [], (N, S, H)) (some (.int (op_tt (pj_a3 r r r) 2 m n F)), (N, S, H'))
  | 0, n, N, S, H, F, t, hn, hC, hU, hR, ht, h6 => by
    have en : n = 50 := by omega
    subst en
    have e : nI (50 + 1) = 51 := rfl
    unfold op_tt
    rw [e, if_pos (show F (23 + 2) = -6 from h6)]
    refine ⟨H, hC, fun _ _ => rfl, ?_⟩
    simp (disch := first | assumption | exact pj_long_i | exact pj_long_r | exact pj_long_n | decide) only [x30_50, x30_51, x30_53, x30_56, x30_57, x30_58, x30_61, x30_62, x30_63, x30_64, x30_68, x30_72, x30_75, x30_77, x30_80, x30_83, simprocAttr, pj_then_s, pj_pv_s, pj_pi_s, pj_set_s, if_true, if_false, not_true_eq_false, not_false_eq_true, pj_up_up, pj_so110_109, pj_so111_109, pj_so112_109, pj_so113_109, pj_so114_109, pj_so115_109, pj_so116_109, pj_so117_109, pj_so111_110, pj_so112_110, pj_so113_110, pj_so114_110, pj_so115_110, pj_so116_110, pj_so117_110, pj_so112_111, pj_so113_111, pj_so114_111, pj_so115_111, pj_so116_111, pj_so117_111, pj_so113_112, pj_so114_112, pj_so115_112, pj_so116_112, pj_so117_112, pj_so114_113, pj_so115_113, pj_so116_113, pj_so117_113, pj_so115_114, pj_so116_114, pj_so117_114, pj_so116_115, pj_so117_115, pj_so117_116, pj_up_ap, pj_upd_ap, pj_a3_0, pj_a3_1, pj_a3_2, pj_a3_u0, pj_a3_u1, pj_a3_u2, pj_f5_1, pj_long_i, pj_long_r, pj_long_n]
    exact t30_85
  | m + 1, n, N, S, H, F, t, hn, hC, hU, hR, ht, h6 => by
    have hg := sp_rd_a3 hr hr hr
    obtain ⟨H1, g1, g2, g3, g4⟩ := c_pass_14 (N := N) (S := S) (H := H) (f := F) (b0 := r) (b1 := r) (b2 := r) hC.2.1 hR (by omega) (c := 1) (Or.inr rfl) hg hC.2.2.2.1.2 hU
    have hC1 : pj_C H1 x := hC.try ⟨⟨_, g1⟩, g2⟩ (fun j hj => g3 j (by omega) (by omega))
    have gF : ∀ j, j < 4 ∨ 108 < j → H1 j = H j := fun j hj => g3 j (by omega) (by omega)
    obtain ⟨y0, y1, y2, hb, ef, ey⟩ := tk_fires (c := 1) (k := 2) hR (by omega) (by decide) hg h6
    have c1 : nI (n + 1) ≤ 50 := (nI_leI (a := n + 1) (b := 50) (by omega) (by decide)).mpr (by omega)
    have c2 : ¬ 50 < nI (n + 1) := Int32.not_lt.mpr c1
    have V0 := hC.2.1
    unfold op_tt
    rw [if_pos (show F (23 + 2) = -6 from h6)]
    rw [ef] at g4
    rw [pj_a3_2] at ey
    by_cases q : y2 = 0
    · obtain ⟨H2, p1, p2, p3⟩ := c_tt_2 hr m (n + 1) N S H1 (sp_tick F (pj_a3 r r r) 1) (t + 1) (by omega) hC1 g1 (hR.tick hg) (by omega) (ey.mpr q)
      refine ⟨H2, p1, fun j hj => (p2 j hj).trans (gF j hj), ?_⟩
      rw [x30_50]
      simp (disch := first | assumption | exact pj_long_i | exact pj_long_r | exact pj_long_n | decide) only [x30_51, x30_53, x30_56, x30_57, x30_58, x30_61, x30_62, x30_63, x30_64, simprocAttr, pj_then_s, pj_pv_s, pj_pi_s, pj_set_s, if_true, if_false, not_true_eq_false, not_false_eq_true, pj_up_up, pj_so110_109, pj_so111_109, pj_so112_109, pj_so113_109, pj_so114_109, pj_so115_109, pj_so116_109, pj_so117_109, pj_so111_110, pj_so112_110, pj_so113_110, pj_so114_110, pj_so115_110, pj_so116_110, pj_so117_110, pj_so112_111, pj_so113_111, pj_so114_111, pj_so115_111, pj_so116_111, pj_so117_111, pj_so113_112, pj_so114_112, pj_so115_112, pj_so116_112, pj_so117_112, pj_so114_113, pj_so115_113, pj_so116_113, pj_so117_113, pj_so115_114, pj_so116_114, pj_so117_114, pj_so116_115, pj_so117_115, pj_so117_116, pj_up_ap, pj_upd_ap, pj_a3_0, pj_a3_1, pj_a3_2, pj_a3_u0, pj_a3_u1, pj_a3_u2, pj_f5_1, V0, pj_vc, c1, c2]
      refine e30_65 rfl (by rw [V0]; rfl) g4 ?_
      simp (disch := first | assumption | exact pj_long_i | exact pj_long_r | exact pj_long_n | decide) only [x30_68, simprocAttr, pj_then_s, pj_pv_s, pj_pi_s, pj_set_s, if_true, if_false, not_true_eq_false, not_false_eq_true, pj_up_up, pj_so110_109, pj_so111_109, pj_so112_109, pj_so113_109, pj_so114_109, pj_so115_109, pj_so116_109, pj_so117_109, pj_so111_110, pj_so112_110, pj_so113_110, pj_so114_110, pj_so115_110, pj_so116_110, pj_so117_110, pj_so112_111, pj_so113_111, pj_so114_111, pj_so115_111, pj_so116_111, pj_so117_111, pj_so113_112, pj_so114_112, pj_so115_112, pj_so116_112, pj_so117_112, pj_so114_113, pj_so115_113, pj_so116_113, pj_so117_113, pj_so115_114, pj_so116_114, pj_so117_114, pj_so116_115, pj_so117_115, pj_so117_116, pj_up_ap, pj_upd_ap, pj_a3_0, pj_a3_1, pj_a3_2, pj_a3_u0, pj_a3_u1, pj_a3_u2]
      refine e30_69 rfl (c_has_2 hb) ?_
      have e1 : nI (n + 1) + 1 = nI (n + 1 + 1) := nI_1 (n + 1)
      simp (disch := first | assumption | exact pj_long_i | exact pj_long_r | exact pj_long_n | decide) only [x30_72, x30_75, x30_77, x30_80, simprocAttr, pj_then_s, pj_pv_s, pj_pi_s, pj_set_s, if_true, if_false, not_true_eq_false, not_false_eq_true, pj_up_up, pj_so110_109, pj_so111_109, pj_so112_109, pj_so113_109, pj_so114_109, pj_so115_109, pj_so116_109, pj_so117_109, pj_so111_110, pj_so112_110, pj_so113_110, pj_so114_110, pj_so115_110, pj_so116_110, pj_so117_110, pj_so112_111, pj_so113_111, pj_so114_111, pj_so115_111, pj_so116_111, pj_so117_111, pj_so113_112, pj_so114_112, pj_so115_112, pj_so116_112, pj_so117_112, pj_so114_113, pj_so115_113, pj_so116_113, pj_so117_113, pj_so115_114, pj_so116_114, pj_so117_114, pj_so116_115, pj_so117_115, pj_so117_116, pj_up_ap, pj_upd_ap, pj_a3_0, pj_a3_1, pj_a3_2, pj_a3_u0, pj_a3_u1, pj_a3_u2, pj_long_i, pj_long_r, pj_long_n, q, e1]
      exact p3
    · rw [op_tt_no (fun w => q (ey.mp w)) m]
      refine ⟨H1, hC1, gF, ?_⟩
      simp (disch := first | assumption | exact pj_long_i | exact pj_long_r | exact pj_long_n | decide) only [x30_50, x30_51, x30_53, x30_56, x30_57, x30_58, x30_61, x30_62, x30_63, x30_64, simprocAttr, pj_then_s, pj_pv_s, pj_pi_s, pj_set_s, if_true, if_false, not_true_eq_false, not_false_eq_true, pj_up_up, pj_so110_109, pj_so111_109, pj_so112_109, pj_so113_109, pj_so114_109, pj_so115_109, pj_so116_109, pj_so117_109, pj_so111_110, pj_so112_110, pj_so113_110, pj_so114_110, pj_so115_110, pj_so116_110, pj_so117_110, pj_so112_111, pj_so113_111, pj_so114_111, pj_so115_111, pj_so116_111, pj_so117_111, pj_so113_112, pj_so114_112, pj_so115_112, pj_so116_112, pj_so117_112, pj_so114_113, pj_so115_113, pj_so116_113, pj_so117_113, pj_so115_114, pj_so116_114, pj_so117_114, pj_so116_115, pj_so117_115, pj_so117_116, pj_up_ap, pj_upd_ap, pj_a3_0, pj_a3_1, pj_a3_2, pj_a3_u0, pj_a3_u1, pj_a3_u2, pj_f5_1, V0, pj_vc, c1, c2]
      refine e30_65 rfl (by rw [V0]; rfl) g4 ?_
      simp (disch := first | assumption | exact pj_long_i | exact pj_long_r | exact pj_long_n | decide) only [x30_68, simprocAttr, pj_then_s, pj_pv_s, pj_pi_s, pj_set_s, if_true, if_false, not_true_eq_false, not_false_eq_true, pj_up_up, pj_so110_109, pj_so111_109, pj_so112_109, pj_so113_109, pj_so114_109, pj_so115_109, pj_so116_109, pj_so117_109, pj_so111_110, pj_so112_110, pj_so113_110, pj_so114_110, pj_so115_110, pj_so116_110, pj_so117_110, pj_so112_111, pj_so113_111, pj_so114_111, pj_so115_111, pj_so116_111, pj_so117_111, pj_so113_112, pj_so114_112, pj_so115_112, pj_so116_112, pj_so117_112, pj_so114_113, pj_so115_113, pj_so116_113, pj_so117_113, pj_so115_114, pj_so116_114, pj_so117_114, pj_so116_115, pj_so117_115, pj_so117_116, pj_up_ap, pj_upd_ap, pj_a3_0, pj_a3_1, pj_a3_2, pj_a3_u0, pj_a3_u1, pj_a3_u2]
      refine e30_69 rfl (c_has_2 hb) ?_
      simp (disch := first | assumption | exact pj_long_i | exact pj_long_r | exact pj_long_n | decide) only [x30_72, x30_75, simprocAttr, pj_then_s, pj_pv_s, pj_pi_s, pj_set_s, if_true, if_false, not_true_eq_false, not_false_eq_true, pj_up_up, pj_so110_109, pj_so111_109, pj_so112_109, pj_so113_109, pj_so114_109, pj_so115_109, pj_so116_109, pj_so117_109, pj_so111_110, pj_so112_110, pj_so113_110, pj_so114_110, pj_so115_110, pj_so116_110, pj_so117_110, pj_so112_111, pj_so113_111, pj_so114_111, pj_so115_111, pj_so116_111, pj_so117_111, pj_so113_112, pj_so114_112, pj_so115_112, pj_so116_112, pj_so117_112, pj_so114_113, pj_so115_113, pj_so116_113, pj_so117_113, pj_so115_114, pj_so116_114, pj_so117_114, pj_so116_115, pj_so117_115, pj_so117_116, pj_up_ap, pj_upd_ap, pj_a3_0, pj_a3_1, pj_a3_2, pj_a3_u0, pj_a3_u1, pj_a3_u2, q]
      exact t30_76
theorem c_ticksTo_2 {N S : Nat} {H : pj_Heap} (hr : ¬ sp_rd r = 0) (hx : pj_In x) (hC : pj_C H x) : pj_Co N S H 30 [some (.ref 4), some (.int 2), some (.int r), none] (x, op_tt (pj_a3 r r r) 2 50 0 x.1) := by
  obtain ⟨t, ht, hR⟩ := hx.1
  have hU := hC.2.2.1
  have V0 := hC.2.1
  have hx5 : pj_uc 5 x.1 = .inl (4, [.ref 6, .ref 7, .ref 8, .ref 9, .ref 10, .ref 11, .ref 12, .int (sp_vot x.1), .int (sp_bar x.1), .int (x.1 7), .int (x.1 6)]) := rfl
  have hu := hU.1
  have hu6 := hU.2.2.2.2.2.2.1
  by_cases c : x.1 25 = -6
  · obtain ⟨w, hw⟩ := hC.2.2.2.1.1
    obtain ⟨H1, g1, g2, g3⟩ := c_become (N := N) (S := S) hw hU (Or.inr (by decide))
    have hC1 : pj_C H1 x := hC.try ⟨⟨_, g1⟩, hC.2.2.2.1.2.frame (fun i hi => g2 _ (by omega))⟩ (fun j hj => g2 j (by omega))
    obtain ⟨H2, p1, p2, p3⟩ := c_tt_2 hr 50 0 N S H1 x.1 t (by decide) hC1 g1 hR (by omega) c
    have V1 := hC1.2.1
    refine ⟨H2, p1, fun j hj => (p2 j hj).trans (g2 j (by omega)), ?_⟩
    have e1 : nI (0 + 1) = 1 := rfl
    rw [e1] at p3
    simp (disch := first | assumption | exact pj_long_i | exact pj_long_r | exact pj_long_n | decide) only [x30_0, x30_1, x30_4, x30_5, x30_6, x30_9, x30_11, simprocAttr, pj_then_s, pj_pv_s, pj_pi_s, pj_set_s, if_true, if_false, not_true_eq_false, not_false_eq_true, pj_up_up, pj_so110_109, pj_so111_109, pj_so112_109, pj_so113_109, pj_so114_109, pj_so115_109, pj_so116_109, pj_so117_109, pj_so111_110, pj_so112_110, pj_so113_110, pj_so114_110, pj_so115_110, pj_so116_110, pj_so117_110, pj_so112_111, pj_so113_111, pj_so114_111, pj_so115_111, pj_so116_111, pj_so117_111, pj_so113_112, pj_so114_112, pj_so115_112, pj_so116_112, pj_so117_112, pj_so114_113, pj_so115_113, pj_so116_113, pj_so117_113, pj_so115_114, pj_so116_114, pj_so117_114, pj_so116_115, pj_so117_115, pj_so117_116, pj_up_ap, pj_upd_ap, pj_a3_0, pj_a3_1, pj_a3_2, pj_a3_u0, pj_a3_u1, pj_a3_u2]
    refine e30_12 rfl c_isR ?_
    simp (disch := first | assumption | exact pj_long_i | exact pj_long_r | exact pj_long_n | decide) only [x30_15, x30_18, x30_21, x30_22, x30_25, x30_28, x30_29, x30_30, x30_32, x30_35, x30_37, x30_38, x30_41, x30_42, simprocAttr, pj_then_s, pj_pv_s, pj_pi_s, pj_set_s, if_true, if_false, not_true_eq_false, not_false_eq_true, pj_up_up, pj_so110_109, pj_so111_109, pj_so112_109, pj_so113_109, pj_so114_109, pj_so115_109, pj_so116_109, pj_so117_109, pj_so111_110, pj_so112_110, pj_so113_110, pj_so114_110, pj_so115_110, pj_so116_110, pj_so117_110, pj_so112_111, pj_so113_111, pj_so114_111, pj_so115_111, pj_so116_111, pj_so117_111, pj_so113_112, pj_so114_112, pj_so115_112, pj_so116_112, pj_so117_112, pj_so114_113, pj_so115_113, pj_so116_113, pj_so117_113, pj_so115_114, pj_so116_114, pj_so117_114, pj_so116_115, pj_so117_115, pj_so117_116, pj_up_ap, pj_upd_ap, pj_a3_0, pj_a3_1, pj_a3_2, pj_a3_u0, pj_a3_u1, pj_a3_u2, pj_f5_0, pj_f4_5, pj_arl_i, pj_f5_1, hr, V0, pj_vc, hu, hx5, hu6, c]
    refine e30_45 rfl (by rw [hw.1]; rfl) g3 ?_
    simp (disch := first | assumption | exact pj_long_i | exact pj_long_r | exact pj_long_n | decide) only [x30_48, x30_49, simprocAttr, pj_then_s, pj_pv_s, pj_pi_s, pj_set_s, if_true, if_false, not_true_eq_false, not_false_eq_true, pj_up_up, pj_so110_109, pj_so111_109, pj_so112_109, pj_so113_109, pj_so114_109, pj_so115_109, pj_so116_109, pj_so117_109, pj_so111_110, pj_so112_110, pj_so113_110, pj_so114_110, pj_so115_110, pj_so116_110, pj_so117_110, pj_so112_111, pj_so113_111, pj_so114_111, pj_so115_111, pj_so116_111, pj_so117_111, pj_so113_112, pj_so114_112, pj_so115_112, pj_so116_112, pj_so117_112, pj_so114_113, pj_so115_113, pj_so116_113, pj_so117_113, pj_so115_114, pj_so116_114, pj_so117_114, pj_so116_115, pj_so117_115, pj_so117_116, pj_up_ap, pj_upd_ap, pj_a3_0, pj_a3_1, pj_a3_2, pj_a3_u0, pj_a3_u1, pj_a3_u2, pj_long_i, pj_long_r, pj_long_n]
    exact p3
  · rw [op_tt_no c 50]
    refine pj_Co_same hC ?_
    simp (disch := first | assumption | exact pj_long_i | exact pj_long_r | exact pj_long_n | decide) only [x30_0, x30_1, x30_4, x30_5, x30_6, x30_9, x30_11, simprocAttr, pj_then_s, pj_pv_s, pj_pi_s, pj_set_s, if_true, if_false, not_true_eq_false, not_false_eq_true, pj_up_up, pj_so110_109, pj_so111_109, pj_so112_109, pj_so113_109, pj_so114_109, pj_so115_109, pj_so116_109, pj_so117_109, pj_so111_110, pj_so112_110, pj_so113_110, pj_so114_110, pj_so115_110, pj_so116_110, pj_so117_110, pj_so112_111, pj_so113_111, pj_so114_111, pj_so115_111, pj_so116_111, pj_so117_111, pj_so113_112, pj_so114_112, pj_so115_112, pj_so116_112, pj_so117_112, pj_so114_113, pj_so115_113, pj_so116_113, pj_so117_113, pj_so115_114, pj_so116_114, pj_so117_114, pj_so116_115, pj_so117_115, pj_so117_116, pj_up_ap, pj_upd_ap, pj_a3_0, pj_a3_1, pj_a3_2, pj_a3_u0, pj_a3_u1, pj_a3_u2]
    refine e30_12 rfl c_isR ?_
    simp (disch := first | assumption | exact pj_long_i | exact pj_long_r | exact pj_long_n | decide) only [x30_15, x30_18, x30_21, x30_22, x30_25, x30_28, x30_29, x30_30, x30_32, x30_35, simprocAttr, pj_then_s, pj_pv_s, pj_pi_s, pj_set_s, if_true, if_false, not_true_eq_false, not_false_eq_true, pj_up_up, pj_so110_109, pj_so111_109, pj_so112_109, pj_so113_109, pj_so114_109, pj_so115_109, pj_so116_109, pj_so117_109, pj_so111_110, pj_so112_110, pj_so113_110, pj_so114_110, pj_so115_110, pj_so116_110, pj_so117_110, pj_so112_111, pj_so113_111, pj_so114_111, pj_so115_111, pj_so116_111, pj_so117_111, pj_so113_112, pj_so114_112, pj_so115_112, pj_so116_112, pj_so117_112, pj_so114_113, pj_so115_113, pj_so116_113, pj_so117_113, pj_so115_114, pj_so116_114, pj_so117_114, pj_so116_115, pj_so117_115, pj_so117_116, pj_up_ap, pj_upd_ap, pj_a3_0, pj_a3_1, pj_a3_2, pj_a3_u0, pj_a3_u1, pj_a3_u2, pj_f5_0, pj_f4_5, pj_arl_i, hr, V0, pj_vc, hu, hx5, hu6, c]
    exact t30_36
theorem C_ticksTo {N S : Nat} {H : pj_Heap} {a : Int32} (hx : pj_In x) (hC : pj_C H x) : pj_Co N S H 30 [some (.ref 4), some (.int a), some (.int r), none] (x, op_ticksTo x.1 a r) := by
  unfold op_ticksTo
  by_cases k : sp_th a = 0
  · rw [if_pos k]
    refine pj_Co_same hC ?_
    rcases i32_th k with q | ⟨q, q2⟩
    · simp (disch := first | assumption | exact pj_long_i | exact pj_long_r | exact pj_long_n | decide) only [x30_0, x30_1, x30_4, x30_5, x30_6, x30_9, simprocAttr, pj_then_s, pj_pv_s, pj_pi_s, pj_set_s, if_true, if_false, not_true_eq_false, not_false_eq_true, pj_up_up, pj_so110_109, pj_so111_109, pj_so112_109, pj_so113_109, pj_so114_109, pj_so115_109, pj_so116_109, pj_so117_109, pj_so111_110, pj_so112_110, pj_so113_110, pj_so114_110, pj_so115_110, pj_so116_110, pj_so117_110, pj_so112_111, pj_so113_111, pj_so114_111, pj_so115_111, pj_so116_111, pj_so117_111, pj_so113_112, pj_so114_112, pj_so115_112, pj_so116_112, pj_so117_112, pj_so114_113, pj_so115_113, pj_so116_113, pj_so117_113, pj_so115_114, pj_so116_114, pj_so117_114, pj_so116_115, pj_so117_115, pj_so117_116, pj_up_ap, pj_upd_ap, pj_a3_0, pj_a3_1, pj_a3_2, pj_a3_u0, pj_a3_u1, pj_a3_u2, q]
      exact t30_10
    · simp (disch := first | assumption | exact pj_long_i | exact pj_long_r | exact pj_long_n | decide) only [x30_0, x30_1, x30_4, x30_5, x30_6, x30_9, simprocAttr, pj_then_s, pj_pv_s, pj_pi_s, pj_set_s, if_true, if_false, not_true_eq_false, not_false_eq_true, pj_up_up, pj_so110_109, pj_so111_109, pj_so112_109, pj_so113_109, pj_so114_109, pj_so115_109, pj_so116_109, pj_so117_109, pj_so111_110, pj_so112_110, pj_so113_110, pj_so114_110, pj_so115_110, pj_so116_110, pj_so117_110, pj_so112_111, pj_so113_111, pj_so114_111, pj_so115_111, pj_so116_111, pj_so117_111, pj_so113_112, pj_so114_112, pj_so115_112, pj_so116_112, pj_so117_112, pj_so114_113, pj_so115_113, pj_so116_113, pj_so117_113, pj_so115_114, pj_so116_114, pj_so117_114, pj_so116_115, pj_so117_115, pj_so117_116, pj_up_ap, pj_upd_ap, pj_a3_0, pj_a3_1, pj_a3_2, pj_a3_u0, pj_a3_u1, pj_a3_u2, q, q2]
      exact t30_10
  rw [if_neg k]
  by_cases c : sp_rd r = 0
  · rw [if_pos c]
    refine pj_Co_same hC ?_
    rcases sp_th_lt k with q | q | q <;> subst q
    · simp (disch := first | assumption | exact pj_long_i | exact pj_long_r | exact pj_long_n | decide) only [x30_0, x30_1, x30_4, x30_5, x30_6, x30_9, x30_11, simprocAttr, pj_then_s, pj_pv_s, pj_pi_s, pj_set_s, if_true, if_false, not_true_eq_false, not_false_eq_true, pj_up_up, pj_so110_109, pj_so111_109, pj_so112_109, pj_so113_109, pj_so114_109, pj_so115_109, pj_so116_109, pj_so117_109, pj_so111_110, pj_so112_110, pj_so113_110, pj_so114_110, pj_so115_110, pj_so116_110, pj_so117_110, pj_so112_111, pj_so113_111, pj_so114_111, pj_so115_111, pj_so116_111, pj_so117_111, pj_so113_112, pj_so114_112, pj_so115_112, pj_so116_112, pj_so117_112, pj_so114_113, pj_so115_113, pj_so116_113, pj_so117_113, pj_so115_114, pj_so116_114, pj_so117_114, pj_so116_115, pj_so117_115, pj_so117_116, pj_up_ap, pj_upd_ap, pj_a3_0, pj_a3_1, pj_a3_2, pj_a3_u0, pj_a3_u1, pj_a3_u2]
      refine e30_12 rfl c_isR ?_
      simp (disch := first | assumption | exact pj_long_i | exact pj_long_r | exact pj_long_n | decide) only [x30_15, x30_18, simprocAttr, pj_then_s, pj_pv_s, pj_pi_s, pj_set_s, if_true, if_false, not_true_eq_false, not_false_eq_true, pj_up_up, pj_so110_109, pj_so111_109, pj_so112_109, pj_so113_109, pj_so114_109, pj_so115_109, pj_so116_109, pj_so117_109, pj_so111_110, pj_so112_110, pj_so113_110, pj_so114_110, pj_so115_110, pj_so116_110, pj_so117_110, pj_so112_111, pj_so113_111, pj_so114_111, pj_so115_111, pj_so116_111, pj_so117_111, pj_so113_112, pj_so114_112, pj_so115_112, pj_so116_112, pj_so117_112, pj_so114_113, pj_so115_113, pj_so116_113, pj_so117_113, pj_so115_114, pj_so116_114, pj_so117_114, pj_so116_115, pj_so117_115, pj_so117_116, pj_up_ap, pj_upd_ap, pj_a3_0, pj_a3_1, pj_a3_2, pj_a3_u0, pj_a3_u1, pj_a3_u2, c]
      exact t30_20
    · simp (disch := first | assumption | exact pj_long_i | exact pj_long_r | exact pj_long_n | decide) only [x30_0, x30_1, x30_4, x30_5, x30_6, x30_9, x30_11, simprocAttr, pj_then_s, pj_pv_s, pj_pi_s, pj_set_s, if_true, if_false, not_true_eq_false, not_false_eq_true, pj_up_up, pj_so110_109, pj_so111_109, pj_so112_109, pj_so113_109, pj_so114_109, pj_so115_109, pj_so116_109, pj_so117_109, pj_so111_110, pj_so112_110, pj_so113_110, pj_so114_110, pj_so115_110, pj_so116_110, pj_so117_110, pj_so112_111, pj_so113_111, pj_so114_111, pj_so115_111, pj_so116_111, pj_so117_111, pj_so113_112, pj_so114_112, pj_so115_112, pj_so116_112, pj_so117_112, pj_so114_113, pj_so115_113, pj_so116_113, pj_so117_113, pj_so115_114, pj_so116_114, pj_so117_114, pj_so116_115, pj_so117_115, pj_so117_116, pj_up_ap, pj_upd_ap, pj_a3_0, pj_a3_1, pj_a3_2, pj_a3_u0, pj_a3_u1, pj_a3_u2]
      refine e30_12 rfl c_isR ?_
      simp (disch := first | assumption | exact pj_long_i | exact pj_long_r | exact pj_long_n | decide) only [x30_15, x30_18, simprocAttr, pj_then_s, pj_pv_s, pj_pi_s, pj_set_s, if_true, if_false, not_true_eq_false, not_false_eq_true, pj_up_up, pj_so110_109, pj_so111_109, pj_so112_109, pj_so113_109, pj_so114_109, pj_so115_109, pj_so116_109, pj_so117_109, pj_so111_110, pj_so112_110, pj_so113_110, pj_so114_110, pj_so115_110, pj_so116_110, pj_so117_110, pj_so112_111, pj_so113_111, pj_so114_111, pj_so115_111, pj_so116_111, pj_so117_111, pj_so113_112, pj_so114_112, pj_so115_112, pj_so116_112, pj_so117_112, pj_so114_113, pj_so115_113, pj_so116_113, pj_so117_113, pj_so115_114, pj_so116_114, pj_so117_114, pj_so116_115, pj_so117_115, pj_so117_116, pj_up_ap, pj_upd_ap, pj_a3_0, pj_a3_1, pj_a3_2, pj_a3_u0, pj_a3_u1, pj_a3_u2, c]
      exact t30_20
    · simp (disch := first | assumption | exact pj_long_i | exact pj_long_r | exact pj_long_n | decide) only [x30_0, x30_1, x30_4, x30_5, x30_6, x30_9, x30_11, simprocAttr, pj_then_s, pj_pv_s, pj_pi_s, pj_set_s, if_true, if_false, not_true_eq_false, not_false_eq_true, pj_up_up, pj_so110_109, pj_so111_109, pj_so112_109, pj_so113_109, pj_so114_109, pj_so115_109, pj_so116_109, pj_so117_109, pj_so111_110, pj_so112_110, pj_so113_110, pj_so114_110, pj_so115_110, pj_so116_110, pj_so117_110, pj_so112_111, pj_so113_111, pj_so114_111, pj_so115_111, pj_so116_111, pj_so117_111, pj_so113_112, pj_so114_112, pj_so115_112, pj_so116_112, pj_so117_112, pj_so114_113, pj_so115_113, pj_so116_113, pj_so117_113, pj_so115_114, pj_so116_114, pj_so117_114, pj_so116_115, pj_so117_115, pj_so117_116, pj_up_ap, pj_upd_ap, pj_a3_0, pj_a3_1, pj_a3_2, pj_a3_u0, pj_a3_u1, pj_a3_u2]
      refine e30_12 rfl c_isR ?_
      simp (disch := first | assumption | exact pj_long_i | exact pj_long_r | exact pj_long_n | decide) only [x30_15, x30_18, simprocAttr, pj_then_s, pj_pv_s, pj_pi_s, pj_set_s, if_true, if_false, not_true_eq_false, not_false_eq_true, pj_up_up, pj_so110_109, pj_so111_109, pj_so112_109, pj_so113_109, pj_so114_109, pj_so115_109, pj_so116_109, pj_so117_109, pj_so111_110, pj_so112_110, pj_so113_110, pj_so114_110, pj_so115_110, pj_so116_110, pj_so117_110, pj_so112_111, pj_so113_111, pj_so114_111, pj_so115_111, pj_so116_111, pj_so117_111, pj_so113_112, pj_so114_112, pj_so115_112, pj_so116_112, pj_so117_112, pj_so114_113, pj_so115_113, pj_so116_113, pj_so117_113, pj_so115_114, pj_so116_114, pj_so117_114, pj_so116_115, pj_so117_115, pj_so117_116, pj_up_ap, pj_upd_ap, pj_a3_0, pj_a3_1, pj_a3_2, pj_a3_u0, pj_a3_u1, pj_a3_u2, c]
      exact t30_20
  · rw [if_neg c]
    rcases sp_th_lt k with q | q | q <;> subst q
    · exact c_ticksTo_0 c hx hC
    · exact c_ticksTo_1 c hx hC
    · exact c_ticksTo_2 c hx hC
end T32
