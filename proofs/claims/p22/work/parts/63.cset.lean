/-! THE CLASS'S CALLS THAT CHANGE: set -/
theorem c_chg {H H1 H2 : pj_Heap} {x : pj_Sg} {f : Nat → Int32} (hC : pj_C H1 (sp_push x x.1)) (hF1 : ∀ j, j < 4 ∨ (4 < j ∧ j < 34) ∨ 88 < j → H1 j = H j) (hU : pj_U H2 5 f) (hF : ∀ j, j < 5 ∨ 13 < j → H2 j = H1 j) : pj_C H2 (sp_push x f) ∧ ∀ j, j < 4 ∨ 108 < j → H2 j = H j := by
  obtain ⟨⟨w, hw⟩, ht⟩ := hC.2.2.2.1
  have hW : (∃ w, pj_U H2 14 w) ∧ pj_Tk H2 := ⟨⟨w, hw.frame (fun i hi => hF _ (by omega))⟩, ht.frame (fun i hi => hF _ (by omega))⟩
  have := hC.now (f := f) hU hW (fun j hj => hF j (by omega))
  exact ⟨this, fun j hj => (hF j (by omega)).trans (hF1 j (by omega))⟩
theorem i32_06 {a : Int32} (h0 : ¬ a < 0) (h6 : a < 6) : a = 0 ∨ a = 1 ∨ a = 2 ∨ a = 3 ∨ a = 4 ∨ a = 5 := by
  have e0 : (0 : Int32).toInt = 0 := rfl
  have e6 : (6 : Int32).toInt = 6 := rfl
  rw [Int32.lt_iff_toInt_lt, e0] at h0
  rw [Int32.lt_iff_toInt_lt, e6] at h6
  have : a.toInt = 0 ∨ a.toInt = 1 ∨ a.toInt = 2 ∨ a.toInt = 3 ∨ a.toInt = 4 ∨ a.toInt = 5 := by omega
  rcases this with e | e | e | e | e | e
  · exact Or.inl (Int32.toInt_inj.mp e)
  · exact Or.inr (Or.inl (Int32.toInt_inj.mp e))
  · exact Or.inr (Or.inr (Or.inl (Int32.toInt_inj.mp e)))
  · exact Or.inr (Or.inr (Or.inr (Or.inl (Int32.toInt_inj.mp e))))
  · exact Or.inr (Or.inr (Or.inr (Or.inr (Or.inl (Int32.toInt_inj.mp e)))))
  · exact Or.inr (Or.inr (Or.inr (Or.inr (Or.inr (Int32.toInt_inj.mp e)))))
section T21
variable {N S : Nat} {H : pj_Heap} {x : pj_Sg} {v : Int32}
theorem pj_a6_u0 {a0 a1 a2 a3 a4 a5 v : Int32} : upd (pj_a6 a0 a1 a2 a3 a4 a5) 0 v = pj_a6 v a1 a2 a3 a4 a5 := by
  funext j
  rw [pj_upd_ap]
  unfold pj_a6
  by_cases h : j = 0
  · rw [if_pos h, h]
    rfl
  · rw [if_neg h]
    simp only [h, if_false]
theorem c_set_0 (hx : pj_In x) (hC : pj_C H x) : pj_Co N S H 42 [some (.ref 4), some (.int 0), some (.int v), none] (op_set x 0 v) := by
  have es : sp_is 0 v = sp_rg v 1 2000 := by
    unfold sp_is
    repeat (first | rw [if_pos rfl] | rw [if_neg (by decide)])
  have en : (0 : Int32).toNatClampNeg = 0 := rfl
  have y1 : pj_v6 1 1 1 2 1 0 0 = 1 := rfl
  have y2 : pj_v6 2000 2000 50 50 500 20 0 = 2000 := rfl
  have y3 : pj_a6 (x.1 0) (x.1 1) (x.1 2) (x.1 3) (x.1 4) (x.1 5) 0 = x.1 0 := rfl
  have k1 : pj_in 0 6 = true := by decide
  obtain ⟨s2, s3⟩ := hC.1
  unfold op_set
  rw [es]
  by_cases c1 : 1 ≤ v
  · have d1 : ¬ v < 1 := Int32.not_lt.mpr c1
    by_cases c2 : v ≤ 2000
    · rw [show sp_rg v 1 2000 = 1 from if_pos ⟨c1, c2⟩, if_neg (by decide : ¬ (1 : Int32) = 0), en]
      obtain ⟨H1, hC1, hF1, hE⟩ := c_remember (N := N) (S := S) hx.2.1 hC
      have hV1 := hC1.2.1
      obtain ⟨hu, hu1, hu2, hu3, hu4, hu5, hu6, hu7, hu8⟩ := hC1.2.2.1
      have hx5 : pj_uc 5 (sp_push x x.1).1 = .inl (4, [.ref 6, .ref 7, .ref 8, .ref 9, .ref 10, .ref 11, .ref 12, .int (sp_vot x.1), .int (sp_bar x.1), .int (x.1 7), .int (x.1 6)]) := rfl
      have hu1' : H1 6 = .inr (0, 6, .inl (pj_a6 (x.1 0) (x.1 1) (x.1 2) (x.1 3) (x.1 4) (x.1 5))) := hu1
      have e8 : pj_n120 (sp_push x x.1).1 = pj_n120 (upd x.1 0 v) := (pj_n120_lo (by decide)).symm
      have hU2 : pj_U (pj_up H1 6 (.inr (0, 6, .inl (upd (pj_a6 (x.1 0) (x.1 1) (x.1 2) (x.1 3) (x.1 4) (x.1 5)) 0 v)))) 5 (upd x.1 0 v) := by
        refine ⟨(by (try simp (disch := decide) only [simprocAttr, pj_up_ap, if_true, if_false, pj_mo, hu]) <;> rfl), ?_, (by (try simp (disch := decide) only [simprocAttr, pj_up_ap, if_true, if_false, pj_mo, hu2]) <;> rfl), (by (try simp (disch := decide) only [simprocAttr, pj_up_ap, if_true, if_false, pj_mo, hu3]) <;> rfl), (by (try simp (disch := decide) only [simprocAttr, pj_up_ap, if_true, if_false, pj_mo, hu4]) <;> rfl), (by (try simp (disch := decide) only [simprocAttr, pj_up_ap, if_true, if_false, pj_mo, hu5]) <;> rfl), (by (try simp (disch := decide) only [simprocAttr, pj_up_ap, if_true, if_false, pj_mo, hu6]) <;> rfl), (by (try simp (disch := decide) only [simprocAttr, pj_up_ap, if_true, if_false, pj_mo, hu7]) <;> rfl), (by (try simp (disch := decide) only [simprocAttr, pj_up_ap, if_true, if_false, pj_mo, hu8, e8]) <;> rfl)⟩
        rw [pj_up_ap, if_pos rfl, pj_a6_u0]
        rfl
      obtain ⟨hC2, hF2⟩ := c_chg hC1 hF1 hU2 (fun j hj => by rw [pj_up_ap, if_neg (by omega)])
      refine ⟨_, hC2, hF2, ?_⟩
      simp (disch := first | assumption | exact pj_long_i | exact pj_long_r | exact pj_long_n | decide) only [x42_0, x42_1, x42_4, x42_5, x42_7, x42_10, x42_13, x42_14, x42_17, x42_18, x42_19, x42_22, x42_23, x42_26, x42_27, x42_28, x42_31, x42_34, simprocAttr, pj_then_s, pj_pv_s, pj_pi_s, pj_set_s, if_true, if_false, not_true_eq_false, not_false_eq_true, pj_up_up, pj_so110_109, pj_so111_109, pj_so112_109, pj_so113_109, pj_so114_109, pj_so115_109, pj_so116_109, pj_so117_109, pj_so111_110, pj_so112_110, pj_so113_110, pj_so114_110, pj_so115_110, pj_so116_110, pj_so117_110, pj_so112_111, pj_so113_111, pj_so114_111, pj_so115_111, pj_so116_111, pj_so117_111, pj_so113_112, pj_so114_112, pj_so115_112, pj_so116_112, pj_so117_112, pj_so114_113, pj_so115_113, pj_so116_113, pj_so117_113, pj_so115_114, pj_so116_114, pj_so117_114, pj_so116_115, pj_so117_115, pj_so117_116, pj_up_ap, pj_upd_ap, pj_a3_0, pj_a3_1, pj_a3_2, pj_a3_u0, pj_a3_u1, pj_a3_u2, pj_arl_i, s2, s3, pj_arl_r, y1, y2, d1, c2, k1]
      refine e42_35 rfl (by rw [hC.2.1]; rfl) hE ?_
      simp (disch := first | assumption | exact pj_long_i | exact pj_long_r | exact pj_long_n | decide) only [x42_38, x42_39, x42_42, x42_45, x42_46, x42_47, x42_48, x42_49, x42_52, x42_55, x42_56, x42_57, x42_58, simprocAttr, pj_then_s, pj_pv_s, pj_pi_s, pj_set_s, if_true, if_false, not_true_eq_false, not_false_eq_true, pj_up_up, pj_so110_109, pj_so111_109, pj_so112_109, pj_so113_109, pj_so114_109, pj_so115_109, pj_so116_109, pj_so117_109, pj_so111_110, pj_so112_110, pj_so113_110, pj_so114_110, pj_so115_110, pj_so116_110, pj_so117_110, pj_so112_111, pj_so113_111, pj_so114_111, pj_so115_111, pj_so116_111, pj_so117_111, pj_so113_112, pj_so114_112, pj_so115_112, pj_so116_112, pj_so117_112, pj_so114_113, pj_so115_113, pj_so116_113, pj_so117_113, pj_so115_114, pj_so116_114, pj_so117_114, pj_so116_115, pj_so117_115, pj_so117_116, pj_up_ap, pj_upd_ap, pj_a3_0, pj_a3_1, pj_a3_2, pj_a3_u0, pj_a3_u1, pj_a3_u2, pj_f5_0, pj_f4_0, pj_arl_i, pj_long_i, pj_long_r, pj_long_n, pj_ars_i, hV1, pj_vc, hu, hx5, hu1', y3, k1]
      exact t42_59
    · rw [show sp_rg v 1 2000 = 0 from if_neg (fun w => c2 w.2), if_pos rfl]
      refine pj_Co_same hC ?_
      simp (disch := first | assumption | exact pj_long_i | exact pj_long_r | exact pj_long_n | decide) only [x42_0, x42_1, x42_4, x42_5, x42_7, x42_10, x42_13, x42_14, x42_17, x42_18, x42_19, x42_22, x42_23, x42_26, x42_27, x42_28, x42_31, simprocAttr, pj_then_s, pj_pv_s, pj_pi_s, pj_set_s, if_true, if_false, not_true_eq_false, not_false_eq_true, pj_up_up, pj_so110_109, pj_so111_109, pj_so112_109, pj_so113_109, pj_so114_109, pj_so115_109, pj_so116_109, pj_so117_109, pj_so111_110, pj_so112_110, pj_so113_110, pj_so114_110, pj_so115_110, pj_so116_110, pj_so117_110, pj_so112_111, pj_so113_111, pj_so114_111, pj_so115_111, pj_so116_111, pj_so117_111, pj_so113_112, pj_so114_112, pj_so115_112, pj_so116_112, pj_so117_112, pj_so114_113, pj_so115_113, pj_so116_113, pj_so117_113, pj_so115_114, pj_so116_114, pj_so117_114, pj_so116_115, pj_so117_115, pj_so117_116, pj_up_ap, pj_upd_ap, pj_a3_0, pj_a3_1, pj_a3_2, pj_a3_u0, pj_a3_u1, pj_a3_u2, pj_arl_i, s2, s3, pj_arl_r, y1, y2, d1, c2, k1]
      exact t42_33
  · have d1 : v < 1 := Int32.not_le.mp c1
    rw [show sp_rg v 1 2000 = 0 from if_neg (fun w => c1 w.1), if_pos rfl]
    refine pj_Co_same hC ?_
    simp (disch := first | assumption | exact pj_long_i | exact pj_long_r | exact pj_long_n | decide) only [x42_0, x42_1, x42_4, x42_5, x42_7, x42_10, x42_13, x42_14, x42_17, x42_18, x42_19, x42_22, x42_23, x42_26, x42_27, x42_28, x42_31, simprocAttr, pj_then_s, pj_pv_s, pj_pi_s, pj_set_s, if_true, if_false, not_true_eq_false, not_false_eq_true, pj_up_up, pj_so110_109, pj_so111_109, pj_so112_109, pj_so113_109, pj_so114_109, pj_so115_109, pj_so116_109, pj_so117_109, pj_so111_110, pj_so112_110, pj_so113_110, pj_so114_110, pj_so115_110, pj_so116_110, pj_so117_110, pj_so112_111, pj_so113_111, pj_so114_111, pj_so115_111, pj_so116_111, pj_so117_111, pj_so113_112, pj_so114_112, pj_so115_112, pj_so116_112, pj_so117_112, pj_so114_113, pj_so115_113, pj_so116_113, pj_so117_113, pj_so115_114, pj_so116_114, pj_so117_114, pj_so116_115, pj_so117_115, pj_so117_116, pj_up_ap, pj_upd_ap, pj_a3_0, pj_a3_1, pj_a3_2, pj_a3_u0, pj_a3_u1, pj_a3_u2, pj_arl_i, s2, s3, pj_arl_r, y1, y2, d1, k1]
    exact t42_33
theorem pj_a6_u1 {a0 a1 a2 a3 a4 a5 v : Int32} : upd (pj_a6 a0 a1 a2 a3 a4 a5) 1 v = pj_a6 a0 v a2 a3 a4 a5 := by
  funext j
  rw [pj_upd_ap]
  unfold pj_a6
  by_cases h : j = 1
  · rw [if_pos h, h]
    rfl
  · rw [if_neg h]
    simp only [h, if_false]
theorem c_set_1 (hx : pj_In x) (hC : pj_C H x) : pj_Co N S H 42 [some (.ref 4), some (.int 1), some (.int v), none] (op_set x 1 v) := by
  have es : sp_is 1 v = sp_rg v 1 2000 := by
    unfold sp_is
    repeat (first | rw [if_pos rfl] | rw [if_neg (by decide)])
  have en : (1 : Int32).toNatClampNeg = 1 := rfl
  have y1 : pj_v6 1 1 1 2 1 0 1 = 1 := rfl
  have y2 : pj_v6 2000 2000 50 50 500 20 1 = 2000 := rfl
  have y3 : pj_a6 (x.1 0) (x.1 1) (x.1 2) (x.1 3) (x.1 4) (x.1 5) 1 = x.1 1 := rfl
  have k1 : pj_in 1 6 = true := by decide
  obtain ⟨s2, s3⟩ := hC.1
  unfold op_set
  rw [es]
  by_cases c1 : 1 ≤ v
  · have d1 : ¬ v < 1 := Int32.not_lt.mpr c1
    by_cases c2 : v ≤ 2000
    · rw [show sp_rg v 1 2000 = 1 from if_pos ⟨c1, c2⟩, if_neg (by decide : ¬ (1 : Int32) = 0), en]
      obtain ⟨H1, hC1, hF1, hE⟩ := c_remember (N := N) (S := S) hx.2.1 hC
      have hV1 := hC1.2.1
      obtain ⟨hu, hu1, hu2, hu3, hu4, hu5, hu6, hu7, hu8⟩ := hC1.2.2.1
      have hx5 : pj_uc 5 (sp_push x x.1).1 = .inl (4, [.ref 6, .ref 7, .ref 8, .ref 9, .ref 10, .ref 11, .ref 12, .int (sp_vot x.1), .int (sp_bar x.1), .int (x.1 7), .int (x.1 6)]) := rfl
      have hu1' : H1 6 = .inr (0, 6, .inl (pj_a6 (x.1 0) (x.1 1) (x.1 2) (x.1 3) (x.1 4) (x.1 5))) := hu1
      have e8 : pj_n120 (sp_push x x.1).1 = pj_n120 (upd x.1 1 v) := (pj_n120_lo (by decide)).symm
      have hU2 : pj_U (pj_up H1 6 (.inr (0, 6, .inl (upd (pj_a6 (x.1 0) (x.1 1) (x.1 2) (x.1 3) (x.1 4) (x.1 5)) 1 v)))) 5 (upd x.1 1 v) := by
        refine ⟨(by (try simp (disch := decide) only [simprocAttr, pj_up_ap, if_true, if_false, pj_mo, hu]) <;> rfl), ?_, (by (try simp (disch := decide) only [simprocAttr, pj_up_ap, if_true, if_false, pj_mo, hu2]) <;> rfl), (by (try simp (disch := decide) only [simprocAttr, pj_up_ap, if_true, if_false, pj_mo, hu3]) <;> rfl), (by (try simp (disch := decide) only [simprocAttr, pj_up_ap, if_true, if_false, pj_mo, hu4]) <;> rfl), (by (try simp (disch := decide) only [simprocAttr, pj_up_ap, if_true, if_false, pj_mo, hu5]) <;> rfl), (by (try simp (disch := decide) only [simprocAttr, pj_up_ap, if_true, if_false, pj_mo, hu6]) <;> rfl), (by (try simp (disch := decide) only [simprocAttr, pj_up_ap, if_true, if_false, pj_mo, hu7]) <;> rfl), (by (try simp (disch := decide) only [simprocAttr, pj_up_ap, if_true, if_false, pj_mo, hu8, e8]) <;> rfl)⟩
        rw [pj_up_ap, if_pos rfl, pj_a6_u1]
        rfl
      obtain ⟨hC2, hF2⟩ := c_chg hC1 hF1 hU2 (fun j hj => by rw [pj_up_ap, if_neg (by omega)])
      refine ⟨_, hC2, hF2, ?_⟩
      simp (disch := first | assumption | exact pj_long_i | exact pj_long_r | exact pj_long_n | decide) only [x42_0, x42_1, x42_4, x42_5, x42_7, x42_10, x42_13, x42_14, x42_17, x42_18, x42_19, x42_22, x42_23, x42_26, x42_27, x42_28, x42_31, x42_34, simprocAttr, pj_then_s, pj_pv_s, pj_pi_s, pj_set_s, if_true, if_false, not_true_eq_false, not_false_eq_true, pj_up_up, pj_so110_109, pj_so111_109, pj_so112_109, pj_so113_109, pj_so114_109, pj_so115_109, pj_so116_109, pj_so117_109, pj_so111_110, pj_so112_110, pj_so113_110, pj_so114_110, pj_so115_110, pj_so116_110, pj_so117_110, pj_so112_111, pj_so113_111, pj_so114_111, pj_so115_111, pj_so116_111, pj_so117_111, pj_so113_112, pj_so114_112, pj_so115_112, pj_so116_112, pj_so117_112, pj_so114_113, pj_so115_113, pj_so116_113, pj_so117_113, pj_so115_114, pj_so116_114, pj_so117_114, pj_so116_115, pj_so117_115, pj_so117_116, pj_up_ap, pj_upd_ap, pj_a3_0, pj_a3_1, pj_a3_2, pj_a3_u0, pj_a3_u1, pj_a3_u2, pj_arl_i, s2, s3, pj_arl_r, y1, y2, d1, c2, k1]
      refine e42_35 rfl (by rw [hC.2.1]; rfl) hE ?_
      simp (disch := first | assumption | exact pj_long_i | exact pj_long_r | exact pj_long_n | decide) only [x42_38, x42_39, x42_42, x42_45, x42_46, x42_47, x42_48, x42_49, x42_52, x42_55, x42_56, x42_57, x42_58, simprocAttr, pj_then_s, pj_pv_s, pj_pi_s, pj_set_s, if_true, if_false, not_true_eq_false, not_false_eq_true, pj_up_up, pj_so110_109, pj_so111_109, pj_so112_109, pj_so113_109, pj_so114_109, pj_so115_109, pj_so116_109, pj_so117_109, pj_so111_110, pj_so112_110, pj_so113_110, pj_so114_110, pj_so115_110, pj_so116_110, pj_so117_110, pj_so112_111, pj_so113_111, pj_so114_111, pj_so115_111, pj_so116_111, pj_so117_111, pj_so113_112, pj_so114_112, pj_so115_112, pj_so116_112, pj_so117_112, pj_so114_113, pj_so115_113, pj_so116_113, pj_so117_113, pj_so115_114, pj_so116_114, pj_so117_114, pj_so116_115, pj_so117_115, pj_so117_116, pj_up_ap, pj_upd_ap, pj_a3_0, pj_a3_1, pj_a3_2, pj_a3_u0, pj_a3_u1, pj_a3_u2, pj_f5_0, pj_f4_0, pj_arl_i, pj_long_i, pj_long_r, pj_long_n, pj_ars_i, hV1, pj_vc, hu, hx5, hu1', y3, k1]
      exact t42_59
    · rw [show sp_rg v 1 2000 = 0 from if_neg (fun w => c2 w.2), if_pos rfl]
      refine pj_Co_same hC ?_
      simp (disch := first | assumption | exact pj_long_i | exact pj_long_r | exact pj_long_n | decide) only [x42_0, x42_1, x42_4, x42_5, x42_7, x42_10, x42_13, x42_14, x42_17, x42_18, x42_19, x42_22, x42_23, x42_26, x42_27, x42_28, x42_31, simprocAttr, pj_then_s, pj_pv_s, pj_pi_s, pj_set_s, if_true, if_false, not_true_eq_false, not_false_eq_true, pj_up_up, pj_so110_109, pj_so111_109, pj_so112_109, pj_so113_109, pj_so114_109, pj_so115_109, pj_so116_109, pj_so117_109, pj_so111_110, pj_so112_110, pj_so113_110, pj_so114_110, pj_so115_110, pj_so116_110, pj_so117_110, pj_so112_111, pj_so113_111, pj_so114_111, pj_so115_111, pj_so116_111, pj_so117_111, pj_so113_112, pj_so114_112, pj_so115_112, pj_so116_112, pj_so117_112, pj_so114_113, pj_so115_113, pj_so116_113, pj_so117_113, pj_so115_114, pj_so116_114, pj_so117_114, pj_so116_115, pj_so117_115, pj_so117_116, pj_up_ap, pj_upd_ap, pj_a3_0, pj_a3_1, pj_a3_2, pj_a3_u0, pj_a3_u1, pj_a3_u2, pj_arl_i, s2, s3, pj_arl_r, y1, y2, d1, c2, k1]
      exact t42_33
  · have d1 : v < 1 := Int32.not_le.mp c1
    rw [show sp_rg v 1 2000 = 0 from if_neg (fun w => c1 w.1), if_pos rfl]
    refine pj_Co_same hC ?_
    simp (disch := first | assumption | exact pj_long_i | exact pj_long_r | exact pj_long_n | decide) only [x42_0, x42_1, x42_4, x42_5, x42_7, x42_10, x42_13, x42_14, x42_17, x42_18, x42_19, x42_22, x42_23, x42_26, x42_27, x42_28, x42_31, simprocAttr, pj_then_s, pj_pv_s, pj_pi_s, pj_set_s, if_true, if_false, not_true_eq_false, not_false_eq_true, pj_up_up, pj_so110_109, pj_so111_109, pj_so112_109, pj_so113_109, pj_so114_109, pj_so115_109, pj_so116_109, pj_so117_109, pj_so111_110, pj_so112_110, pj_so113_110, pj_so114_110, pj_so115_110, pj_so116_110, pj_so117_110, pj_so112_111, pj_so113_111, pj_so114_111, pj_so115_111, pj_so116_111, pj_so117_111, pj_so113_112, pj_so114_112, pj_so115_112, pj_so116_112, pj_so117_112, pj_so114_113, pj_so115_113, pj_so116_113, pj_so117_113, pj_so115_114, pj_so116_114, pj_so117_114, pj_so116_115, pj_so117_115, pj_so117_116, pj_up_ap, pj_upd_ap, pj_a3_0, pj_a3_1, pj_a3_2, pj_a3_u0, pj_a3_u1, pj_a3_u2, pj_arl_i, s2, s3, pj_arl_r, y1, y2, d1, k1]
    exact t42_33
theorem pj_a6_u2 {a0 a1 a2 a3 a4 a5 v : Int32} : upd (pj_a6 a0 a1 a2 a3 a4 a5) 2 v = pj_a6 a0 a1 v a3 a4 a5 := by
  funext j
  rw [pj_upd_ap]
  unfold pj_a6
  by_cases h : j = 2
  · rw [if_pos h, h]
    rfl
  · rw [if_neg h]
    simp only [h, if_false]
theorem c_set_2 (hx : pj_In x) (hC : pj_C H x) : pj_Co N S H 42 [some (.ref 4), some (.int 2), some (.int v), none] (op_set x 2 v) := by
  have es : sp_is 2 v = sp_rg v 1 50 := by
    unfold sp_is
    repeat (first | rw [if_pos rfl] | rw [if_neg (by decide)])
  have en : (2 : Int32).toNatClampNeg = 2 := rfl
  have y1 : pj_v6 1 1 1 2 1 0 2 = 1 := rfl
  have y2 : pj_v6 2000 2000 50 50 500 20 2 = 50 := rfl
  have y3 : pj_a6 (x.1 0) (x.1 1) (x.1 2) (x.1 3) (x.1 4) (x.1 5) 2 = x.1 2 := rfl
  have k1 : pj_in 2 6 = true := by decide
  obtain ⟨s2, s3⟩ := hC.1
  unfold op_set
  rw [es]
  by_cases c1 : 1 ≤ v
  · have d1 : ¬ v < 1 := Int32.not_lt.mpr c1
    by_cases c2 : v ≤ 50
    · rw [show sp_rg v 1 50 = 1 from if_pos ⟨c1, c2⟩, if_neg (by decide : ¬ (1 : Int32) = 0), en]
      obtain ⟨H1, hC1, hF1, hE⟩ := c_remember (N := N) (S := S) hx.2.1 hC
      have hV1 := hC1.2.1
      obtain ⟨hu, hu1, hu2, hu3, hu4, hu5, hu6, hu7, hu8⟩ := hC1.2.2.1
      have hx5 : pj_uc 5 (sp_push x x.1).1 = .inl (4, [.ref 6, .ref 7, .ref 8, .ref 9, .ref 10, .ref 11, .ref 12, .int (sp_vot x.1), .int (sp_bar x.1), .int (x.1 7), .int (x.1 6)]) := rfl
      have hu1' : H1 6 = .inr (0, 6, .inl (pj_a6 (x.1 0) (x.1 1) (x.1 2) (x.1 3) (x.1 4) (x.1 5))) := hu1
      have e8 : pj_n120 (sp_push x x.1).1 = pj_n120 (upd x.1 2 v) := (pj_n120_lo (by decide)).symm
      have hU2 : pj_U (pj_up H1 6 (.inr (0, 6, .inl (upd (pj_a6 (x.1 0) (x.1 1) (x.1 2) (x.1 3) (x.1 4) (x.1 5)) 2 v)))) 5 (upd x.1 2 v) := by
        refine ⟨(by (try simp (disch := decide) only [simprocAttr, pj_up_ap, if_true, if_false, pj_mo, hu]) <;> rfl), ?_, (by (try simp (disch := decide) only [simprocAttr, pj_up_ap, if_true, if_false, pj_mo, hu2]) <;> rfl), (by (try simp (disch := decide) only [simprocAttr, pj_up_ap, if_true, if_false, pj_mo, hu3]) <;> rfl), (by (try simp (disch := decide) only [simprocAttr, pj_up_ap, if_true, if_false, pj_mo, hu4]) <;> rfl), (by (try simp (disch := decide) only [simprocAttr, pj_up_ap, if_true, if_false, pj_mo, hu5]) <;> rfl), (by (try simp (disch := decide) only [simprocAttr, pj_up_ap, if_true, if_false, pj_mo, hu6]) <;> rfl), (by (try simp (disch := decide) only [simprocAttr, pj_up_ap, if_true, if_false, pj_mo, hu7]) <;> rfl), (by (try simp (disch := decide) only [simprocAttr, pj_up_ap, if_true, if_false, pj_mo, hu8, e8]) <;> rfl)⟩
        rw [pj_up_ap, if_pos rfl, pj_a6_u2]
        rfl
      obtain ⟨hC2, hF2⟩ := c_chg hC1 hF1 hU2 (fun j hj => by rw [pj_up_ap, if_neg (by omega)])
      refine ⟨_, hC2, hF2, ?_⟩
      simp (disch := first | assumption | exact pj_long_i | exact pj_long_r | exact pj_long_n | decide) only [x42_0, x42_1, x42_4, x42_5, x42_7, x42_10, x42_13, x42_14, x42_17, x42_18, x42_19, x42_22, x42_23, x42_26, x42_27, x42_28, x42_31, x42_34, simprocAttr, pj_then_s, pj_pv_s, pj_pi_s, pj_set_s, if_true, if_false, not_true_eq_false, not_false_eq_true, pj_up_up, pj_so110_109, pj_so111_109, pj_so112_109, pj_so113_109, pj_so114_109, pj_so115_109, pj_so116_109, pj_so117_109, pj_so111_110, pj_so112_110, pj_so113_110, pj_so114_110, pj_so115_110, pj_so116_110, pj_so117_110, pj_so112_111, pj_so113_111, pj_so114_111, pj_so115_111, pj_so116_111, pj_so117_111, pj_so113_112, pj_so114_112, pj_so115_112, pj_so116_112, pj_so117_112, pj_so114_113, pj_so115_113, pj_so116_113, pj_so117_113, pj_so115_114, pj_so116_114, pj_so117_114, pj_so116_115, pj_so117_115, pj_so117_116, pj_up_ap, pj_upd_ap, pj_a3_0, pj_a3_1, pj_a3_2, pj_a3_u0, pj_a3_u1, pj_a3_u2, pj_arl_i, s2, s3, pj_arl_r, y1, y2, d1, c2, k1]
      refine e42_35 rfl (by rw [hC.2.1]; rfl) hE ?_
      simp (disch := first | assumption | exact pj_long_i | exact pj_long_r | exact pj_long_n | decide) only [x42_38, x42_39, x42_42, x42_45, x42_46, x42_47, x42_48, x42_49, x42_52, x42_55, x42_56, x42_57, x42_58, simprocAttr, pj_then_s, pj_pv_s, pj_pi_s, pj_set_s, if_true, if_false, not_true_eq_false, not_false_eq_true, pj_up_up, pj_so110_109, pj_so111_109, pj_so112_109, pj_so113_109, pj_so114_109, pj_so115_109, pj_so116_109, pj_so117_109, pj_so111_110, pj_so112_110, pj_so113_110, pj_so114_110, pj_so115_110, pj_so116_110, pj_so117_110, pj_so112_111, pj_so113_111, pj_so114_111, pj_so115_111, pj_so116_111, pj_so117_111, pj_so113_112, pj_so114_112, pj_so115_112, pj_so116_112, pj_so117_112, pj_so114_113, pj_so115_113, pj_so116_113, pj_so117_113, pj_so115_114, pj_so116_114, pj_so117_114, pj_so116_115, pj_so117_115, pj_so117_116, pj_up_ap, pj_upd_ap, pj_a3_0, pj_a3_1, pj_a3_2, pj_a3_u0, pj_a3_u1, pj_a3_u2, pj_f5_0, pj_f4_0, pj_arl_i, pj_long_i, pj_long_r, pj_long_n, pj_ars_i, hV1, pj_vc, hu, hx5, hu1', y3, k1]
      exact t42_59
    · rw [show sp_rg v 1 50 = 0 from if_neg (fun w => c2 w.2), if_pos rfl]
      refine pj_Co_same hC ?_
      simp (disch := first | assumption | exact pj_long_i | exact pj_long_r | exact pj_long_n | decide) only [x42_0, x42_1, x42_4, x42_5, x42_7, x42_10, x42_13, x42_14, x42_17, x42_18, x42_19, x42_22, x42_23, x42_26, x42_27, x42_28, x42_31, simprocAttr, pj_then_s, pj_pv_s, pj_pi_s, pj_set_s, if_true, if_false, not_true_eq_false, not_false_eq_true, pj_up_up, pj_so110_109, pj_so111_109, pj_so112_109, pj_so113_109, pj_so114_109, pj_so115_109, pj_so116_109, pj_so117_109, pj_so111_110, pj_so112_110, pj_so113_110, pj_so114_110, pj_so115_110, pj_so116_110, pj_so117_110, pj_so112_111, pj_so113_111, pj_so114_111, pj_so115_111, pj_so116_111, pj_so117_111, pj_so113_112, pj_so114_112, pj_so115_112, pj_so116_112, pj_so117_112, pj_so114_113, pj_so115_113, pj_so116_113, pj_so117_113, pj_so115_114, pj_so116_114, pj_so117_114, pj_so116_115, pj_so117_115, pj_so117_116, pj_up_ap, pj_upd_ap, pj_a3_0, pj_a3_1, pj_a3_2, pj_a3_u0, pj_a3_u1, pj_a3_u2, pj_arl_i, s2, s3, pj_arl_r, y1, y2, d1, c2, k1]
      exact t42_33
  · have d1 : v < 1 := Int32.not_le.mp c1
    rw [show sp_rg v 1 50 = 0 from if_neg (fun w => c1 w.1), if_pos rfl]
    refine pj_Co_same hC ?_
    simp (disch := first | assumption | exact pj_long_i | exact pj_long_r | exact pj_long_n | decide) only [x42_0, x42_1, x42_4, x42_5, x42_7, x42_10, x42_13, x42_14, x42_17, x42_18, x42_19, x42_22, x42_23, x42_26, x42_27, x42_28, x42_31, simprocAttr, pj_then_s, pj_pv_s, pj_pi_s, pj_set_s, if_true, if_false, not_true_eq_false, not_false_eq_true, pj_up_up, pj_so110_109, pj_so111_109, pj_so112_109, pj_so113_109, pj_so114_109, pj_so115_109, pj_so116_109, pj_so117_109, pj_so111_110, pj_so112_110, pj_so113_110, pj_so114_110, pj_so115_110, pj_so116_110, pj_so117_110, pj_so112_111, pj_so113_111, pj_so114_111, pj_so115_111, pj_so116_111, pj_so117_111, pj_so113_112, pj_so114_112, pj_so115_112, pj_so116_112, pj_so117_112, pj_so114_113, pj_so115_113, pj_so116_113, pj_so117_113, pj_so115_114, pj_so116_114, pj_so117_114, pj_so116_115, pj_so117_115, pj_so117_116, pj_up_ap, pj_upd_ap, pj_a3_0, pj_a3_1, pj_a3_2, pj_a3_u0, pj_a3_u1, pj_a3_u2, pj_arl_i, s2, s3, pj_arl_r, y1, y2, d1, k1]
    exact t42_33
theorem pj_a6_u3 {a0 a1 a2 a3 a4 a5 v : Int32} : upd (pj_a6 a0 a1 a2 a3 a4 a5) 3 v = pj_a6 a0 a1 a2 v a4 a5 := by
  funext j
  rw [pj_upd_ap]
  unfold pj_a6
  by_cases h : j = 3
  · rw [if_pos h, h]
    rfl
  · rw [if_neg h]
    simp only [h, if_false]
theorem c_set_3 (hx : pj_In x) (hC : pj_C H x) : pj_Co N S H 42 [some (.ref 4), some (.int 3), some (.int v), none] (op_set x 3 v) := by
  have es : sp_is 3 v = sp_rg v 2 50 := by
    unfold sp_is
    repeat (first | rw [if_pos rfl] | rw [if_neg (by decide)])
  have en : (3 : Int32).toNatClampNeg = 3 := rfl
  have y1 : pj_v6 1 1 1 2 1 0 3 = 2 := rfl
  have y2 : pj_v6 2000 2000 50 50 500 20 3 = 50 := rfl
  have y3 : pj_a6 (x.1 0) (x.1 1) (x.1 2) (x.1 3) (x.1 4) (x.1 5) 3 = x.1 3 := rfl
  have k1 : pj_in 3 6 = true := by decide
  obtain ⟨s2, s3⟩ := hC.1
  unfold op_set
  rw [es]
  by_cases c1 : 2 ≤ v
  · have d1 : ¬ v < 2 := Int32.not_lt.mpr c1
    by_cases c2 : v ≤ 50
    · rw [show sp_rg v 2 50 = 1 from if_pos ⟨c1, c2⟩, if_neg (by decide : ¬ (1 : Int32) = 0), en]
      obtain ⟨H1, hC1, hF1, hE⟩ := c_remember (N := N) (S := S) hx.2.1 hC
      have hV1 := hC1.2.1
      obtain ⟨hu, hu1, hu2, hu3, hu4, hu5, hu6, hu7, hu8⟩ := hC1.2.2.1
      have hx5 : pj_uc 5 (sp_push x x.1).1 = .inl (4, [.ref 6, .ref 7, .ref 8, .ref 9, .ref 10, .ref 11, .ref 12, .int (sp_vot x.1), .int (sp_bar x.1), .int (x.1 7), .int (x.1 6)]) := rfl
      have hu1' : H1 6 = .inr (0, 6, .inl (pj_a6 (x.1 0) (x.1 1) (x.1 2) (x.1 3) (x.1 4) (x.1 5))) := hu1
      have e8 : pj_n120 (sp_push x x.1).1 = pj_n120 (upd x.1 3 v) := (pj_n120_lo (by decide)).symm
      have hU2 : pj_U (pj_up H1 6 (.inr (0, 6, .inl (upd (pj_a6 (x.1 0) (x.1 1) (x.1 2) (x.1 3) (x.1 4) (x.1 5)) 3 v)))) 5 (upd x.1 3 v) := by
        refine ⟨(by (try simp (disch := decide) only [simprocAttr, pj_up_ap, if_true, if_false, pj_mo, hu]) <;> rfl), ?_, (by (try simp (disch := decide) only [simprocAttr, pj_up_ap, if_true, if_false, pj_mo, hu2]) <;> rfl), (by (try simp (disch := decide) only [simprocAttr, pj_up_ap, if_true, if_false, pj_mo, hu3]) <;> rfl), (by (try simp (disch := decide) only [simprocAttr, pj_up_ap, if_true, if_false, pj_mo, hu4]) <;> rfl), (by (try simp (disch := decide) only [simprocAttr, pj_up_ap, if_true, if_false, pj_mo, hu5]) <;> rfl), (by (try simp (disch := decide) only [simprocAttr, pj_up_ap, if_true, if_false, pj_mo, hu6]) <;> rfl), (by (try simp (disch := decide) only [simprocAttr, pj_up_ap, if_true, if_false, pj_mo, hu7]) <;> rfl), (by (try simp (disch := decide) only [simprocAttr, pj_up_ap, if_true, if_false, pj_mo, hu8, e8]) <;> rfl)⟩
        rw [pj_up_ap, if_pos rfl, pj_a6_u3]
        rfl
      obtain ⟨hC2, hF2⟩ := c_chg hC1 hF1 hU2 (fun j hj => by rw [pj_up_ap, if_neg (by omega)])
      refine ⟨_, hC2, hF2, ?_⟩
      simp (disch := first | assumption | exact pj_long_i | exact pj_long_r | exact pj_long_n | decide) only [x42_0, x42_1, x42_4, x42_5, x42_7, x42_10, x42_13, x42_14, x42_17, x42_18, x42_19, x42_22, x42_23, x42_26, x42_27, x42_28, x42_31, x42_34, simprocAttr, pj_then_s, pj_pv_s, pj_pi_s, pj_set_s, if_true, if_false, not_true_eq_false, not_false_eq_true, pj_up_up, pj_so110_109, pj_so111_109, pj_so112_109, pj_so113_109, pj_so114_109, pj_so115_109, pj_so116_109, pj_so117_109, pj_so111_110, pj_so112_110, pj_so113_110, pj_so114_110, pj_so115_110, pj_so116_110, pj_so117_110, pj_so112_111, pj_so113_111, pj_so114_111, pj_so115_111, pj_so116_111, pj_so117_111, pj_so113_112, pj_so114_112, pj_so115_112, pj_so116_112, pj_so117_112, pj_so114_113, pj_so115_113, pj_so116_113, pj_so117_113, pj_so115_114, pj_so116_114, pj_so117_114, pj_so116_115, pj_so117_115, pj_so117_116, pj_up_ap, pj_upd_ap, pj_a3_0, pj_a3_1, pj_a3_2, pj_a3_u0, pj_a3_u1, pj_a3_u2, pj_arl_i, s2, s3, pj_arl_r, y1, y2, d1, c2, k1]
      refine e42_35 rfl (by rw [hC.2.1]; rfl) hE ?_
      simp (disch := first | assumption | exact pj_long_i | exact pj_long_r | exact pj_long_n | decide) only [x42_38, x42_39, x42_42, x42_45, x42_46, x42_47, x42_48, x42_49, x42_52, x42_55, x42_56, x42_57, x42_58, simprocAttr, pj_then_s, pj_pv_s, pj_pi_s, pj_set_s, if_true, if_false, not_true_eq_false, not_false_eq_true, pj_up_up, pj_so110_109, pj_so111_109, pj_so112_109, pj_so113_109, pj_so114_109, pj_so115_109, pj_so116_109, pj_so117_109, pj_so111_110, pj_so112_110, pj_so113_110, pj_so114_110, pj_so115_110, pj_so116_110, pj_so117_110, pj_so112_111, pj_so113_111, pj_so114_111, pj_so115_111, pj_so116_111, pj_so117_111, pj_so113_112, pj_so114_112, pj_so115_112, pj_so116_112, pj_so117_112, pj_so114_113, pj_so115_113, pj_so116_113, pj_so117_113, pj_so115_114, pj_so116_114, pj_so117_114, pj_so116_115, pj_so117_115, pj_so117_116, pj_up_ap, pj_upd_ap, pj_a3_0, pj_a3_1, pj_a3_2, pj_a3_u0, pj_a3_u1, pj_a3_u2, pj_f5_0, pj_f4_0, pj_arl_i, pj_long_i, pj_long_r, pj_long_n, pj_ars_i, hV1, pj_vc, hu, hx5, hu1', y3, k1]
      exact t42_59
    · rw [show sp_rg v 2 50 = 0 from if_neg (fun w => c2 w.2), if_pos rfl]
      refine pj_Co_same hC ?_
      simp (disch := first | assumption | exact pj_long_i | exact pj_long_r | exact pj_long_n | decide) only [x42_0, x42_1, x42_4, x42_5, x42_7, x42_10, x42_13, x42_14, x42_17, x42_18, x42_19, x42_22, x42_23, x42_26, x42_27, x42_28, x42_31, simprocAttr, pj_then_s, pj_pv_s, pj_pi_s, pj_set_s, if_true, if_false, not_true_eq_false, not_false_eq_true, pj_up_up, pj_so110_109, pj_so111_109, pj_so112_109, pj_so113_109, pj_so114_109, pj_so115_109, pj_so116_109, pj_so117_109, pj_so111_110, pj_so112_110, pj_so113_110, pj_so114_110, pj_so115_110, pj_so116_110, pj_so117_110, pj_so112_111, pj_so113_111, pj_so114_111, pj_so115_111, pj_so116_111, pj_so117_111, pj_so113_112, pj_so114_112, pj_so115_112, pj_so116_112, pj_so117_112, pj_so114_113, pj_so115_113, pj_so116_113, pj_so117_113, pj_so115_114, pj_so116_114, pj_so117_114, pj_so116_115, pj_so117_115, pj_so117_116, pj_up_ap, pj_upd_ap, pj_a3_0, pj_a3_1, pj_a3_2, pj_a3_u0, pj_a3_u1, pj_a3_u2, pj_arl_i, s2, s3, pj_arl_r, y1, y2, d1, c2, k1]
      exact t42_33
  · have d1 : v < 2 := Int32.not_le.mp c1
    rw [show sp_rg v 2 50 = 0 from if_neg (fun w => c1 w.1), if_pos rfl]
    refine pj_Co_same hC ?_
    simp (disch := first | assumption | exact pj_long_i | exact pj_long_r | exact pj_long_n | decide) only [x42_0, x42_1, x42_4, x42_5, x42_7, x42_10, x42_13, x42_14, x42_17, x42_18, x42_19, x42_22, x42_23, x42_26, x42_27, x42_28, x42_31, simprocAttr, pj_then_s, pj_pv_s, pj_pi_s, pj_set_s, if_true, if_false, not_true_eq_false, not_false_eq_true, pj_up_up, pj_so110_109, pj_so111_109, pj_so112_109, pj_so113_109, pj_so114_109, pj_so115_109, pj_so116_109, pj_so117_109, pj_so111_110, pj_so112_110, pj_so113_110, pj_so114_110, pj_so115_110, pj_so116_110, pj_so117_110, pj_so112_111, pj_so113_111, pj_so114_111, pj_so115_111, pj_so116_111, pj_so117_111, pj_so113_112, pj_so114_112, pj_so115_112, pj_so116_112, pj_so117_112, pj_so114_113, pj_so115_113, pj_so116_113, pj_so117_113, pj_so115_114, pj_so116_114, pj_so117_114, pj_so116_115, pj_so117_115, pj_so117_116, pj_up_ap, pj_upd_ap, pj_a3_0, pj_a3_1, pj_a3_2, pj_a3_u0, pj_a3_u1, pj_a3_u2, pj_arl_i, s2, s3, pj_arl_r, y1, y2, d1, k1]
    exact t42_33
theorem pj_a6_u4 {a0 a1 a2 a3 a4 a5 v : Int32} : upd (pj_a6 a0 a1 a2 a3 a4 a5) 4 v = pj_a6 a0 a1 a2 a3 v a5 := by
  funext j
  rw [pj_upd_ap]
  unfold pj_a6
  by_cases h : j = 4
  · rw [if_pos h, h]
    rfl
  · rw [if_neg h]
    simp only [h, if_false]
theorem c_set_4 (hx : pj_In x) (hC : pj_C H x) : pj_Co N S H 42 [some (.ref 4), some (.int 4), some (.int v), none] (op_set x 4 v) := by
  have es : sp_is 4 v = sp_rg v 1 500 := by
    unfold sp_is
    repeat (first | rw [if_pos rfl] | rw [if_neg (by decide)])
  have en : (4 : Int32).toNatClampNeg = 4 := rfl
  have y1 : pj_v6 1 1 1 2 1 0 4 = 1 := rfl
  have y2 : pj_v6 2000 2000 50 50 500 20 4 = 500 := rfl
  have y3 : pj_a6 (x.1 0) (x.1 1) (x.1 2) (x.1 3) (x.1 4) (x.1 5) 4 = x.1 4 := rfl
  have k1 : pj_in 4 6 = true := by decide
  obtain ⟨s2, s3⟩ := hC.1
  unfold op_set
  rw [es]
  by_cases c1 : 1 ≤ v
  · have d1 : ¬ v < 1 := Int32.not_lt.mpr c1
    by_cases c2 : v ≤ 500
    · rw [show sp_rg v 1 500 = 1 from if_pos ⟨c1, c2⟩, if_neg (by decide : ¬ (1 : Int32) = 0), en]
      obtain ⟨H1, hC1, hF1, hE⟩ := c_remember (N := N) (S := S) hx.2.1 hC
      have hV1 := hC1.2.1
      obtain ⟨hu, hu1, hu2, hu3, hu4, hu5, hu6, hu7, hu8⟩ := hC1.2.2.1
      have hx5 : pj_uc 5 (sp_push x x.1).1 = .inl (4, [.ref 6, .ref 7, .ref 8, .ref 9, .ref 10, .ref 11, .ref 12, .int (sp_vot x.1), .int (sp_bar x.1), .int (x.1 7), .int (x.1 6)]) := rfl
      have hu1' : H1 6 = .inr (0, 6, .inl (pj_a6 (x.1 0) (x.1 1) (x.1 2) (x.1 3) (x.1 4) (x.1 5))) := hu1
      have e8 : pj_n120 (sp_push x x.1).1 = pj_n120 (upd x.1 4 v) := (pj_n120_lo (by decide)).symm
      have hU2 : pj_U (pj_up H1 6 (.inr (0, 6, .inl (upd (pj_a6 (x.1 0) (x.1 1) (x.1 2) (x.1 3) (x.1 4) (x.1 5)) 4 v)))) 5 (upd x.1 4 v) := by
        refine ⟨(by (try simp (disch := decide) only [simprocAttr, pj_up_ap, if_true, if_false, pj_mo, hu]) <;> rfl), ?_, (by (try simp (disch := decide) only [simprocAttr, pj_up_ap, if_true, if_false, pj_mo, hu2]) <;> rfl), (by (try simp (disch := decide) only [simprocAttr, pj_up_ap, if_true, if_false, pj_mo, hu3]) <;> rfl), (by (try simp (disch := decide) only [simprocAttr, pj_up_ap, if_true, if_false, pj_mo, hu4]) <;> rfl), (by (try simp (disch := decide) only [simprocAttr, pj_up_ap, if_true, if_false, pj_mo, hu5]) <;> rfl), (by (try simp (disch := decide) only [simprocAttr, pj_up_ap, if_true, if_false, pj_mo, hu6]) <;> rfl), (by (try simp (disch := decide) only [simprocAttr, pj_up_ap, if_true, if_false, pj_mo, hu7]) <;> rfl), (by (try simp (disch := decide) only [simprocAttr, pj_up_ap, if_true, if_false, pj_mo, hu8, e8]) <;> rfl)⟩
        rw [pj_up_ap, if_pos rfl, pj_a6_u4]
        rfl
      obtain ⟨hC2, hF2⟩ := c_chg hC1 hF1 hU2 (fun j hj => by rw [pj_up_ap, if_neg (by omega)])
      refine ⟨_, hC2, hF2, ?_⟩
      simp (disch := first | assumption | exact pj_long_i | exact pj_long_r | exact pj_long_n | decide) only [x42_0, x42_1, x42_4, x42_5, x42_7, x42_10, x42_13, x42_14, x42_17, x42_18, x42_19, x42_22, x42_23, x42_26, x42_27, x42_28, x42_31, x42_34, simprocAttr, pj_then_s, pj_pv_s, pj_pi_s, pj_set_s, if_true, if_false, not_true_eq_false, not_false_eq_true, pj_up_up, pj_so110_109, pj_so111_109, pj_so112_109, pj_so113_109, pj_so114_109, pj_so115_109, pj_so116_109, pj_so117_109, pj_so111_110, pj_so112_110, pj_so113_110, pj_so114_110, pj_so115_110, pj_so116_110, pj_so117_110, pj_so112_111, pj_so113_111, pj_so114_111, pj_so115_111, pj_so116_111, pj_so117_111, pj_so113_112, pj_so114_112, pj_so115_112, pj_so116_112, pj_so117_112, pj_so114_113, pj_so115_113, pj_so116_113, pj_so117_113, pj_so115_114, pj_so116_114, pj_so117_114, pj_so116_115, pj_so117_115, pj_so117_116, pj_up_ap, pj_upd_ap, pj_a3_0, pj_a3_1, pj_a3_2, pj_a3_u0, pj_a3_u1, pj_a3_u2, pj_arl_i, s2, s3, pj_arl_r, y1, y2, d1, c2, k1]
      refine e42_35 rfl (by rw [hC.2.1]; rfl) hE ?_
      simp (disch := first | assumption | exact pj_long_i | exact pj_long_r | exact pj_long_n | decide) only [x42_38, x42_39, x42_42, x42_45, x42_46, x42_47, x42_48, x42_49, x42_52, x42_55, x42_56, x42_57, x42_58, simprocAttr, pj_then_s, pj_pv_s, pj_pi_s, pj_set_s, if_true, if_false, not_true_eq_false, not_false_eq_true, pj_up_up, pj_so110_109, pj_so111_109, pj_so112_109, pj_so113_109, pj_so114_109, pj_so115_109, pj_so116_109, pj_so117_109, pj_so111_110, pj_so112_110, pj_so113_110, pj_so114_110, pj_so115_110, pj_so116_110, pj_so117_110, pj_so112_111, pj_so113_111, pj_so114_111, pj_so115_111, pj_so116_111, pj_so117_111, pj_so113_112, pj_so114_112, pj_so115_112, pj_so116_112, pj_so117_112, pj_so114_113, pj_so115_113, pj_so116_113, pj_so117_113, pj_so115_114, pj_so116_114, pj_so117_114, pj_so116_115, pj_so117_115, pj_so117_116, pj_up_ap, pj_upd_ap, pj_a3_0, pj_a3_1, pj_a3_2, pj_a3_u0, pj_a3_u1, pj_a3_u2, pj_f5_0, pj_f4_0, pj_arl_i, pj_long_i, pj_long_r, pj_long_n, pj_ars_i, hV1, pj_vc, hu, hx5, hu1', y3, k1]
      exact t42_59
    · rw [show sp_rg v 1 500 = 0 from if_neg (fun w => c2 w.2), if_pos rfl]
      refine pj_Co_same hC ?_
      simp (disch := first | assumption | exact pj_long_i | exact pj_long_r | exact pj_long_n | decide) only [x42_0, x42_1, x42_4, x42_5, x42_7, x42_10, x42_13, x42_14, x42_17, x42_18, x42_19, x42_22, x42_23, x42_26, x42_27, x42_28, x42_31, simprocAttr, pj_then_s, pj_pv_s, pj_pi_s, pj_set_s, if_true, if_false, not_true_eq_false, not_false_eq_true, pj_up_up, pj_so110_109, pj_so111_109, pj_so112_109, pj_so113_109, pj_so114_109, pj_so115_109, pj_so116_109, pj_so117_109, pj_so111_110, pj_so112_110, pj_so113_110, pj_so114_110, pj_so115_110, pj_so116_110, pj_so117_110, pj_so112_111, pj_so113_111, pj_so114_111, pj_so115_111, pj_so116_111, pj_so117_111, pj_so113_112, pj_so114_112, pj_so115_112, pj_so116_112, pj_so117_112, pj_so114_113, pj_so115_113, pj_so116_113, pj_so117_113, pj_so115_114, pj_so116_114, pj_so117_114, pj_so116_115, pj_so117_115, pj_so117_116, pj_up_ap, pj_upd_ap, pj_a3_0, pj_a3_1, pj_a3_2, pj_a3_u0, pj_a3_u1, pj_a3_u2, pj_arl_i, s2, s3, pj_arl_r, y1, y2, d1, c2, k1]
      exact t42_33
  · have d1 : v < 1 := Int32.not_le.mp c1
    rw [show sp_rg v 1 500 = 0 from if_neg (fun w => c1 w.1), if_pos rfl]
    refine pj_Co_same hC ?_
    simp (disch := first | assumption | exact pj_long_i | exact pj_long_r | exact pj_long_n | decide) only [x42_0, x42_1, x42_4, x42_5, x42_7, x42_10, x42_13, x42_14, x42_17, x42_18, x42_19, x42_22, x42_23, x42_26, x42_27, x42_28, x42_31, simprocAttr, pj_then_s, pj_pv_s, pj_pi_s, pj_set_s, if_true, if_false, not_true_eq_false, not_false_eq_true, pj_up_up, pj_so110_109, pj_so111_109, pj_so112_109, pj_so113_109, pj_so114_109, pj_so115_109, pj_so116_109, pj_so117_109, pj_so111_110, pj_so112_110, pj_so113_110, pj_so114_110, pj_so115_110, pj_so116_110, pj_so117_110, pj_so112_111, pj_so113_111, pj_so114_111, pj_so115_111, pj_so116_111, pj_so117_111, pj_so113_112, pj_so114_112, pj_so115_112, pj_so116_112, pj_so117_112, pj_so114_113, pj_so115_113, pj_so116_113, pj_so117_113, pj_so115_114, pj_so116_114, pj_so117_114, pj_so116_115, pj_so117_115, pj_so117_116, pj_up_ap, pj_upd_ap, pj_a3_0, pj_a3_1, pj_a3_2, pj_a3_u0, pj_a3_u1, pj_a3_u2, pj_arl_i, s2, s3, pj_arl_r, y1, y2, d1, k1]
    exact t42_33
theorem pj_a6_u5 {a0 a1 a2 a3 a4 a5 v : Int32} : upd (pj_a6 a0 a1 a2 a3 a4 a5) 5 v = pj_a6 a0 a1 a2 a3 a4 v := by
  funext j
  rw [pj_upd_ap]
  unfold pj_a6
  by_cases h : j = 5
  · rw [if_pos h, h]
    rfl
  · rw [if_neg h]
    simp only [h, if_false]
theorem c_set_5 (hx : pj_In x) (hC : pj_C H x) : pj_Co N S H 42 [some (.ref 4), some (.int 5), some (.int v), none] (op_set x 5 v) := by
  have es : sp_is 5 v = sp_rg v 0 20 := by
    unfold sp_is
    repeat (first | rw [if_pos rfl] | rw [if_neg (by decide)])
  have en : (5 : Int32).toNatClampNeg = 5 := rfl
  have y1 : pj_v6 1 1 1 2 1 0 5 = 0 := rfl
  have y2 : pj_v6 2000 2000 50 50 500 20 5 = 20 := rfl
  have y3 : pj_a6 (x.1 0) (x.1 1) (x.1 2) (x.1 3) (x.1 4) (x.1 5) 5 = x.1 5 := rfl
  have k1 : pj_in 5 6 = true := by decide
  obtain ⟨s2, s3⟩ := hC.1
  unfold op_set
  rw [es]
  by_cases c1 : 0 ≤ v
  · have d1 : ¬ v < 0 := Int32.not_lt.mpr c1
    by_cases c2 : v ≤ 20
    · rw [show sp_rg v 0 20 = 1 from if_pos ⟨c1, c2⟩, if_neg (by decide : ¬ (1 : Int32) = 0), en]
      obtain ⟨H1, hC1, hF1, hE⟩ := c_remember (N := N) (S := S) hx.2.1 hC
      have hV1 := hC1.2.1
      obtain ⟨hu, hu1, hu2, hu3, hu4, hu5, hu6, hu7, hu8⟩ := hC1.2.2.1
      have hx5 : pj_uc 5 (sp_push x x.1).1 = .inl (4, [.ref 6, .ref 7, .ref 8, .ref 9, .ref 10, .ref 11, .ref 12, .int (sp_vot x.1), .int (sp_bar x.1), .int (x.1 7), .int (x.1 6)]) := rfl
      have hu1' : H1 6 = .inr (0, 6, .inl (pj_a6 (x.1 0) (x.1 1) (x.1 2) (x.1 3) (x.1 4) (x.1 5))) := hu1
      have e8 : pj_n120 (sp_push x x.1).1 = pj_n120 (upd x.1 5 v) := (pj_n120_lo (by decide)).symm
      have hU2 : pj_U (pj_up H1 6 (.inr (0, 6, .inl (upd (pj_a6 (x.1 0) (x.1 1) (x.1 2) (x.1 3) (x.1 4) (x.1 5)) 5 v)))) 5 (upd x.1 5 v) := by
        refine ⟨(by (try simp (disch := decide) only [simprocAttr, pj_up_ap, if_true, if_false, pj_mo, hu]) <;> rfl), ?_, (by (try simp (disch := decide) only [simprocAttr, pj_up_ap, if_true, if_false, pj_mo, hu2]) <;> rfl), (by (try simp (disch := decide) only [simprocAttr, pj_up_ap, if_true, if_false, pj_mo, hu3]) <;> rfl), (by (try simp (disch := decide) only [simprocAttr, pj_up_ap, if_true, if_false, pj_mo, hu4]) <;> rfl), (by (try simp (disch := decide) only [simprocAttr, pj_up_ap, if_true, if_false, pj_mo, hu5]) <;> rfl), (by (try simp (disch := decide) only [simprocAttr, pj_up_ap, if_true, if_false, pj_mo, hu6]) <;> rfl), (by (try simp (disch := decide) only [simprocAttr, pj_up_ap, if_true, if_false, pj_mo, hu7]) <;> rfl), (by (try simp (disch := decide) only [simprocAttr, pj_up_ap, if_true, if_false, pj_mo, hu8, e8]) <;> rfl)⟩
        rw [pj_up_ap, if_pos rfl, pj_a6_u5]
        rfl
      obtain ⟨hC2, hF2⟩ := c_chg hC1 hF1 hU2 (fun j hj => by rw [pj_up_ap, if_neg (by omega)])
      refine ⟨_, hC2, hF2, ?_⟩
      simp (disch := first | assumption | exact pj_long_i | exact pj_long_r | exact pj_long_n | decide) only [x42_0, x42_1, x42_4, x42_5, x42_7, x42_10, x42_13, x42_14, x42_17, x42_18, x42_19, x42_22, x42_23, x42_26, x42_27, x42_28, x42_31, x42_34, simprocAttr, pj_then_s, pj_pv_s, pj_pi_s, pj_set_s, if_true, if_false, not_true_eq_false, not_false_eq_true, pj_up_up, pj_so110_109, pj_so111_109, pj_so112_109, pj_so113_109, pj_so114_109, pj_so115_109, pj_so116_109, pj_so117_109, pj_so111_110, pj_so112_110, pj_so113_110, pj_so114_110, pj_so115_110, pj_so116_110, pj_so117_110, pj_so112_111, pj_so113_111, pj_so114_111, pj_so115_111, pj_so116_111, pj_so117_111, pj_so113_112, pj_so114_112, pj_so115_112, pj_so116_112, pj_so117_112, pj_so114_113, pj_so115_113, pj_so116_113, pj_so117_113, pj_so115_114, pj_so116_114, pj_so117_114, pj_so116_115, pj_so117_115, pj_so117_116, pj_up_ap, pj_upd_ap, pj_a3_0, pj_a3_1, pj_a3_2, pj_a3_u0, pj_a3_u1, pj_a3_u2, pj_arl_i, s2, s3, pj_arl_r, y1, y2, d1, c2, k1]
      refine e42_35 rfl (by rw [hC.2.1]; rfl) hE ?_
      simp (disch := first | assumption | exact pj_long_i | exact pj_long_r | exact pj_long_n | decide) only [x42_38, x42_39, x42_42, x42_45, x42_46, x42_47, x42_48, x42_49, x42_52, x42_55, x42_56, x42_57, x42_58, simprocAttr, pj_then_s, pj_pv_s, pj_pi_s, pj_set_s, if_true, if_false, not_true_eq_false, not_false_eq_true, pj_up_up, pj_so110_109, pj_so111_109, pj_so112_109, pj_so113_109, pj_so114_109, pj_so115_109, pj_so116_109, pj_so117_109, pj_so111_110, pj_so112_110, pj_so113_110, pj_so114_110, pj_so115_110, pj_so116_110, pj_so117_110, pj_so112_111, pj_so113_111, pj_so114_111, pj_so115_111, pj_so116_111, pj_so117_111, pj_so113_112, pj_so114_112, pj_so115_112, pj_so116_112, pj_so117_112, pj_so114_113, pj_so115_113, pj_so116_113, pj_so117_113, pj_so115_114, pj_so116_114, pj_so117_114, pj_so116_115, pj_so117_115, pj_so117_116, pj_up_ap, pj_upd_ap, pj_a3_0, pj_a3_1, pj_a3_2, pj_a3_u0, pj_a3_u1, pj_a3_u2, pj_f5_0, pj_f4_0, pj_arl_i, pj_long_i, pj_long_r, pj_long_n, pj_ars_i, hV1, pj_vc, hu, hx5, hu1', y3, k1]
      exact t42_59
    · rw [show sp_rg v 0 20 = 0 from if_neg (fun w => c2 w.2), if_pos rfl]
      refine pj_Co_same hC ?_
      simp (disch := first | assumption | exact pj_long_i | exact pj_long_r | exact pj_long_n | decide) only [x42_0, x42_1, x42_4, x42_5, x42_7, x42_10, x42_13, x42_14, x42_17, x42_18, x42_19, x42_22, x42_23, x42_26, x42_27, x42_28, x42_31, simprocAttr, pj_then_s, pj_pv_s, pj_pi_s, pj_set_s, if_true, if_false, not_true_eq_false, not_false_eq_true, pj_up_up, pj_so110_109, pj_so111_109, pj_so112_109, pj_so113_109, pj_so114_109, pj_so115_109, pj_so116_109, pj_so117_109, pj_so111_110, pj_so112_110, pj_so113_110, pj_so114_110, pj_so115_110, pj_so116_110, pj_so117_110, pj_so112_111, pj_so113_111, pj_so114_111, pj_so115_111, pj_so116_111, pj_so117_111, pj_so113_112, pj_so114_112, pj_so115_112, pj_so116_112, pj_so117_112, pj_so114_113, pj_so115_113, pj_so116_113, pj_so117_113, pj_so115_114, pj_so116_114, pj_so117_114, pj_so116_115, pj_so117_115, pj_so117_116, pj_up_ap, pj_upd_ap, pj_a3_0, pj_a3_1, pj_a3_2, pj_a3_u0, pj_a3_u1, pj_a3_u2, pj_arl_i, s2, s3, pj_arl_r, y1, y2, d1, c2, k1]
      exact t42_33
  · have d1 : v < 0 := Int32.not_le.mp c1
    rw [show sp_rg v 0 20 = 0 from if_neg (fun w => c1 w.1), if_pos rfl]
    refine pj_Co_same hC ?_
    simp (disch := first | assumption | exact pj_long_i | exact pj_long_r | exact pj_long_n | decide) only [x42_0, x42_1, x42_4, x42_5, x42_7, x42_10, x42_13, x42_14, x42_17, x42_18, x42_19, x42_22, x42_23, x42_26, x42_27, x42_28, x42_31, simprocAttr, pj_then_s, pj_pv_s, pj_pi_s, pj_set_s, if_true, if_false, not_true_eq_false, not_false_eq_true, pj_up_up, pj_so110_109, pj_so111_109, pj_so112_109, pj_so113_109, pj_so114_109, pj_so115_109, pj_so116_109, pj_so117_109, pj_so111_110, pj_so112_110, pj_so113_110, pj_so114_110, pj_so115_110, pj_so116_110, pj_so117_110, pj_so112_111, pj_so113_111, pj_so114_111, pj_so115_111, pj_so116_111, pj_so117_111, pj_so113_112, pj_so114_112, pj_so115_112, pj_so116_112, pj_so117_112, pj_so114_113, pj_so115_113, pj_so116_113, pj_so117_113, pj_so115_114, pj_so116_114, pj_so117_114, pj_so116_115, pj_so117_115, pj_so117_116, pj_up_ap, pj_upd_ap, pj_a3_0, pj_a3_1, pj_a3_2, pj_a3_u0, pj_a3_u1, pj_a3_u2, pj_arl_i, s2, s3, pj_arl_r, y1, y2, d1, k1]
    exact t42_33
theorem C_set {a : Int32} (hx : pj_In x) (hC : pj_C H x) : pj_Co N S H 42 [some (.ref 4), some (.int a), some (.int v), none] (op_set x a v) := by
  have no : ∀ a : Int32, (a < 0 ∨ ¬ a < 6) → sp_is a v = 0 := by
    intro a h
    unfold sp_is
    repeat rw [if_neg (by intro q; subst q; revert h; decide)]
  by_cases c0 : a < 0
  · unfold op_set
    rw [no a (Or.inl c0), if_pos rfl]
    refine pj_Co_same hC ?_
    simp (disch := first | assumption | exact pj_long_i | exact pj_long_r | exact pj_long_n | decide) only [x42_0, x42_1, x42_4, x42_5, x42_7, x42_10, simprocAttr, pj_then_s, pj_pv_s, pj_pi_s, pj_set_s, if_true, if_false, not_true_eq_false, not_false_eq_true, pj_up_up, pj_so110_109, pj_so111_109, pj_so112_109, pj_so113_109, pj_so114_109, pj_so115_109, pj_so116_109, pj_so117_109, pj_so111_110, pj_so112_110, pj_so113_110, pj_so114_110, pj_so115_110, pj_so116_110, pj_so117_110, pj_so112_111, pj_so113_111, pj_so114_111, pj_so115_111, pj_so116_111, pj_so117_111, pj_so113_112, pj_so114_112, pj_so115_112, pj_so116_112, pj_so117_112, pj_so114_113, pj_so115_113, pj_so116_113, pj_so117_113, pj_so115_114, pj_so116_114, pj_so117_114, pj_so116_115, pj_so117_115, pj_so117_116, pj_up_ap, pj_upd_ap, pj_a3_0, pj_a3_1, pj_a3_2, pj_a3_u0, pj_a3_u1, pj_a3_u2, c0]
    exact t42_12
  · by_cases c6 : a < 6
    · rcases i32_06 c0 c6 with e | e | e | e | e | e <;> subst e
      · exact c_set_0 hx hC
      · exact c_set_1 hx hC
      · exact c_set_2 hx hC
      · exact c_set_3 hx hC
      · exact c_set_4 hx hC
      · exact c_set_5 hx hC
    · unfold op_set
      rw [no a (Or.inr c6), if_pos rfl]
      refine pj_Co_same hC ?_
      simp (disch := first | assumption | exact pj_long_i | exact pj_long_r | exact pj_long_n | decide) only [x42_0, x42_1, x42_4, x42_5, x42_7, x42_10, simprocAttr, pj_then_s, pj_pv_s, pj_pi_s, pj_set_s, if_true, if_false, not_true_eq_false, not_false_eq_true, pj_up_up, pj_so110_109, pj_so111_109, pj_so112_109, pj_so113_109, pj_so114_109, pj_so115_109, pj_so116_109, pj_so117_109, pj_so111_110, pj_so112_110, pj_so113_110, pj_so114_110, pj_so115_110, pj_so116_110, pj_so117_110, pj_so112_111, pj_so113_111, pj_so114_111, pj_so115_111, pj_so116_111, pj_so117_111, pj_so113_112, pj_so114_112, pj_so115_112, pj_so116_112, pj_so117_112, pj_so114_113, pj_so115_113, pj_so116_113, pj_so117_113, pj_so115_114, pj_so116_114, pj_so117_114, pj_so116_115, pj_so117_115, pj_so117_116, pj_up_ap, pj_upd_ap, pj_a3_0, pj_a3_1, pj_a3_2, pj_a3_u0, pj_a3_u1, pj_a3_u2, c0, c6]
      exact t42_12
end T21
