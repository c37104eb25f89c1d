/-! THE CLASS'S CALLS THAT CHANGE: undo, save, restore -/
theorem i32_02 {a : Int32} (h : 0 ≤ a ∧ a ≤ 1) : a = 0 ∨ a = 1 := by
  rw [Int32.le_iff_toInt_le, Int32.le_iff_toInt_le] at h
  have e0 : (0 : Int32).toInt = 0 := rfl
  have e1 : (1 : Int32).toInt = 1 := rfl
  rw [e0, e1] at h
  have : a.toInt = 0 ∨ a.toInt = 1 := by omega
  rcases this with e | e
  · exact Or.inl (Int32.toInt_inj.mp e)
  · exact Or.inr (Int32.toInt_inj.mp e)
theorem i32_n02 {a : Int32} (h : ¬ (0 ≤ a ∧ a ≤ 1)) : a < 0 ∨ (¬ a < 0 ∧ ¬ a < 2) := by
  by_cases c : a < 0
  · exact Or.inl c
  · refine Or.inr ⟨c, fun w => h ⟨Int32.not_lt.mp c, ?_⟩⟩
    rw [Int32.lt_iff_toInt_lt] at w
    rw [Int32.le_iff_toInt_le]
    have e3 : (2 : Int32).toInt = 2 := rfl
    have e2 : (1 : Int32).toInt = 1 := rfl
    omega
section T26
variable {N S : Nat} {H : pj_Heap} {x : pj_Sg}
theorem C_undo (hx : pj_In x) (hC : pj_C H x) : pj_Co N S H 70 [some (.ref 4)] (op_undo x) := by
  obtain ⟨f, n, h, s, sv, pl, pd⟩ := x
  have hn : n ≤ 6 := hx.2.1
  unfold op_undo
  simp only
  by_cases c : n = 0
  · subst c
    rw [if_pos rfl]
    refine pj_Co_same hC ?_
    have V0 : H 4 = .inl (5, [.ref 5, .ref 14, .ref 23, .ref 30, .ref 34, .int 0, .ref 89, .ref 108]) := hC.2.1
    simp (disch := first | assumption | exact pj_long_i | exact pj_long_r | exact pj_long_n | decide) only [x70_0, x70_1, x70_4, x70_7, x70_8, x70_11, x70_13, x70_16, simprocAttr, pj_then_s, pj_pv_s, pj_pi_s, pj_set_s, if_true, if_false, not_true_eq_false, not_false_eq_true, pj_up_up, pj_so110_109, pj_so111_109, pj_so112_109, pj_so113_109, pj_so114_109, pj_so115_109, pj_so116_109, pj_so117_109, pj_so111_110, pj_so112_110, pj_so113_110, pj_so114_110, pj_so115_110, pj_so116_110, pj_so117_110, pj_so112_111, pj_so113_111, pj_so114_111, pj_so115_111, pj_so116_111, pj_so117_111, pj_so113_112, pj_so114_112, pj_so115_112, pj_so116_112, pj_so117_112, pj_so114_113, pj_so115_113, pj_so116_113, pj_so117_113, pj_so115_114, pj_so116_114, pj_so117_114, pj_so116_115, pj_so117_115, pj_so117_116, pj_up_ap, pj_upd_ap, pj_a3_0, pj_a3_1, pj_a3_2, pj_a3_u0, pj_a3_u1, pj_a3_u2, pj_f5_5, V0]
    exact t70_18
  · rw [if_neg c]
    obtain ⟨m, rfl⟩ : ∃ m, n = m + 1 := ⟨n - 1, by omega⟩
    rw [Nat.add_sub_cancel]
    obtain ⟨h0, hV, hU, ⟨⟨w14, hw14⟩, hT⟩, hP, ⟨q, p, h1, h2, h3, h4, h5⟩, hS⟩ := hC
    obtain ⟨w, hw, he⟩ := h5 m (by omega)
    have ew := he (show m < m + 1 by omega)
    rw [ew] at hw
    have hp := h3 m (by omega)
    have k1 : q m = some (p m) := h2 m (by omega)
    have k2 : pj_in (nI m) 6 = true := pj_in_nI (by omega) (by decide)
    have k3 : (nI m).toNatClampNeg = m := nI_clamp (by omega)
    have k4 : ¬ nI (m + 1) ≤ 0 := nI_nle (by omega) (by omega)
    have k5 : nI (m + 1) ≤ 6 := (nI_leI (by omega) (by decide)).mpr hn
    have fU : pj_U (pj_up H 4 (pj_vc m)) 5 f := hU.frame (fun i hi => by rw [pj_up_ap, if_neg (by omega)])
    have fW : pj_U (pj_up H 4 (pj_vc m)) (p m) (h m) := hw.frame (fun i hi => by rw [pj_up_ap, if_neg (by omega)])
    obtain ⟨H1, g1, g2, g3⟩ := c_become (N := N) (S := S) fU fW (Or.inl (by omega))
    have gg : ∀ j, j < 4 ∨ 13 < j → H1 j = H j := fun j hj => by rw [g2 j (by omega), pj_up_ap, if_neg (by omega)]
    have V1 : H1 4 = pj_vc m := by rw [g2 4 (by omega), pj_up_ap, if_pos rfl]
    refine ⟨H1, ⟨⟨(gg 2 (by decide)).trans h0.1, (gg 3 (by decide)).trans h0.2⟩, V1, g1, ⟨⟨w14, hw14.frame (fun i hi => gg _ (by omega))⟩, hT.frame (fun i hi => gg _ (by omega))⟩, hP.frame (fun j a b => gg j (by omega)), pj_Hi.frame (H := H) ⟨q, p, h1, h2, h3, h4, fun i hi => ?_⟩ (fun j a b => gg j (by omega)), hS.frame (fun j a b => gg j (by omega))⟩, fun j hj => gg j (by omega), ?_⟩
    · obtain ⟨w', hw', he'⟩ := h5 i hi
      exact ⟨w', hw', fun hlt => he' (show i < m + 1 by have : i < m := hlt; omega)⟩
    · have V0 : H 4 = .inl (5, [.ref 5, .ref 14, .ref 23, .ref 30, .ref 34, .int (nI (m + 1)), .ref 89, .ref 108]) := hV
      have e4 : pj_vc m = .inl (5, [.ref 5, .ref 14, .ref 23, .ref 30, .ref 34, .int (nI m), .ref 89, .ref 108]) := rfl
      rw [e4] at g3 V1
      simp (disch := first | assumption | exact pj_long_i | exact pj_long_r | exact pj_long_n | decide) only [x70_0, x70_1, x70_4, x70_7, x70_8, x70_11, x70_13, x70_16, x70_19, x70_20, x70_20i, x70_21, x70_24, x70_25, x70_26, x70_29, x70_30, x70_33, x70_34, x70_37, x70_38, x70_41, simprocAttr, pj_then_s, pj_pv_s, pj_pi_s, pj_set_s, if_true, if_false, not_true_eq_false, not_false_eq_true, pj_up_up, pj_so110_109, pj_so111_109, pj_so112_109, pj_so113_109, pj_so114_109, pj_so115_109, pj_so116_109, pj_so117_109, pj_so111_110, pj_so112_110, pj_so113_110, pj_so114_110, pj_so115_110, pj_so116_110, pj_so117_110, pj_so112_111, pj_so113_111, pj_so114_111, pj_so115_111, pj_so116_111, pj_so117_111, pj_so113_112, pj_so114_112, pj_so115_112, pj_so116_112, pj_so117_112, pj_so114_113, pj_so115_113, pj_so116_113, pj_so117_113, pj_so115_114, pj_so116_114, pj_so117_114, pj_so116_115, pj_so117_115, pj_so117_116, pj_up_ap, pj_upd_ap, pj_a3_0, pj_a3_1, pj_a3_2, pj_a3_u0, pj_a3_u1, pj_a3_u2, pj_f5_5, pj_s5_5, pj_f5_0, pj_f5_4, pj_qrl_i, V0, k1, k2, k3, k4, k5, nI_pred, h1, va_rf_some]
      refine e70_42 rfl (by rw [pj_up_ap, if_neg (by decide), hU.1]; rfl) g3 ?_
      simp (disch := first | assumption | exact pj_long_i | exact pj_long_r | exact pj_long_n | decide) only [x70_45, x70_46, simprocAttr, pj_then_s, pj_pv_s, pj_pi_s, pj_set_s, if_true, if_false, not_true_eq_false, not_false_eq_true, pj_up_up, pj_so110_109, pj_so111_109, pj_so112_109, pj_so113_109, pj_so114_109, pj_so115_109, pj_so116_109, pj_so117_109, pj_so111_110, pj_so112_110, pj_so113_110, pj_so114_110, pj_so115_110, pj_so116_110, pj_so117_110, pj_so112_111, pj_so113_111, pj_so114_111, pj_so115_111, pj_so116_111, pj_so117_111, pj_so113_112, pj_so114_112, pj_so115_112, pj_so116_112, pj_so117_112, pj_so114_113, pj_so115_113, pj_so116_113, pj_so117_113, pj_so115_114, pj_so116_114, pj_so117_114, pj_so116_115, pj_so117_115, pj_so117_116, pj_up_ap, pj_upd_ap, pj_a3_0, pj_a3_1, pj_a3_2, pj_a3_u0, pj_a3_u1, pj_a3_u2, pj_f5_5, V1]
      exact t70_49
theorem c_save_0 (hx : pj_In x) (hC : pj_C H x) : pj_Co N S H 71 [some (.ref 4), some (.int 0)] ((x.1, x.2.1, x.2.2.1, fun i => if i = 0 then x.1 else x.2.2.2.1 i, upd x.2.2.2.2.1 0 1, x.2.2.2.2.2), x.1 6) := by
  obtain ⟨f, n, h, s, sv, pl, pd⟩ := x
  have hC' := hC
  obtain ⟨h0, hV, hU, ⟨⟨w14, hw14⟩, hT⟩, hP, hH, ⟨⟨q, h1, h2, h3⟩, ⟨w0, hw0, he0⟩, ⟨w1, hw1, he1⟩, h8⟩⟩ := hC
  obtain ⟨H1, g1, g2, g3⟩ := c_become (N := N) (S := S) hw0 hU (Or.inr (by decide))
  have gg : ∀ j, j < 4 ∨ 4 ≤ j ∧ j < 90 → H1 j = H j := fun j hj => g2 j (by omega)
  have gU : pj_U H1 5 f := hU.frame (fun i hi => g2 _ (by omega))
  have gV : H1 4 = pj_vc n := (g2 4 (by decide)).trans hV
  have g8 : H1 108 = .inr (2, 2, .inl sv) := (g2 108 (by decide)).trans h8
  have hx5 : pj_uc 5 f = .inl (4, [.ref 6, .ref 7, .ref 8, .ref 9, .ref 10, .ref 11, .ref 12, .int (sp_vot f), .int (sp_bar f), .int (f 7), .int (f 6)]) := rfl
  have pn : ∀ j, j < 108 → pj_up H1 108 (.inr (2, 2, .inl (upd sv 0 1))) j = H1 j := fun j hj => by rw [pj_up_ap, if_neg (by omega)]
  have gs : pj_CS (pj_up H1 108 (.inr (2, 2, .inl (upd sv 0 1)))) (fun i => if i = 0 then f else s i) (upd sv 0 1) := by
    refine ⟨⟨q, (pn 89 (by decide)).trans ((g2 89 (by decide)).trans h1), h2, h3⟩, ?_, ?_, ?_⟩
    · exact ⟨f, g1.frame (fun i hi => pn _ (by omega)), fun _ => rfl⟩
    · exact ⟨w1, hw1.frame (fun i hi => (pn _ (by omega)).trans (g2 _ (by omega))), fun hs => he1 hs⟩
    · rw [pj_up_ap, if_pos rfl]
  refine ⟨_, ⟨⟨(pn 2 (by decide)).trans ((gg 2 (by decide)).trans h0.1), (pn 3 (by decide)).trans ((gg 3 (by decide)).trans h0.2)⟩, (pn 4 (by decide)).trans gV, gU.frame (fun i hi => pn _ (by omega)), ⟨⟨w14, hw14.frame (fun i hi => (pn _ (by omega)).trans (gg _ (by omega)))⟩, hT.frame (fun i hi => (pn _ (by omega)).trans (gg _ (by omega)))⟩, hP.frame (fun j a b => (pn j (by omega)).trans (gg j (by omega))), hH.frame (fun j a b => (pn j (by omega)).trans (gg j (by omega))), gs⟩, fun j hj => by rw [pj_up_ap, if_neg (by omega)]; exact g2 j (by omega), ?_⟩
  have k1 : pj_in 0 2 = true := by decide
  have t1 : (0 : Int32).toNatClampNeg = 0 := rfl
  simp (disch := first | assumption | exact pj_long_i | exact pj_long_r | exact pj_long_n | decide) only [x71_0, x71_1, x71_4, x71_5, x71_6, x71_9, x71_12, x71_13, x71_16, x71_17, x71_18, x71_19, simprocAttr, pj_then_s, pj_pv_s, pj_pi_s, pj_set_s, if_true, if_false, not_true_eq_false, not_false_eq_true, pj_up_up, pj_so110_109, pj_so111_109, pj_so112_109, pj_so113_109, pj_so114_109, pj_so115_109, pj_so116_109, pj_so117_109, pj_so111_110, pj_so112_110, pj_so113_110, pj_so114_110, pj_so115_110, pj_so116_110, pj_so117_110, pj_so112_111, pj_so113_111, pj_so114_111, pj_so115_111, pj_so116_111, pj_so117_111, pj_so113_112, pj_so114_112, pj_so115_112, pj_so116_112, pj_so117_112, pj_so114_113, pj_so115_113, pj_so116_113, pj_so117_113, pj_so115_114, pj_so116_114, pj_so117_114, pj_so116_115, pj_so117_115, pj_so117_116, pj_up_ap, pj_upd_ap, pj_a3_0, pj_a3_1, pj_a3_2, pj_a3_u0, pj_a3_u1, pj_a3_u2, pj_f5_6, pj_qrl_i, pj_f5_0, hV, pj_vc, h1, h2, h3, k1, t1, va_rf_some]
  refine e71_22 rfl (by rw [hw0.1]; rfl) g3 ?_
  simp (disch := first | assumption | exact pj_long_i | exact pj_long_r | exact pj_long_n | decide) only [x71_25, x71_26, x71_29, x71_30, x71_31, x71_32, x71_33, x71_36, simprocAttr, pj_then_s, pj_pv_s, pj_pi_s, pj_set_s, if_true, if_false, not_true_eq_false, not_false_eq_true, pj_up_up, pj_so110_109, pj_so111_109, pj_so112_109, pj_so113_109, pj_so114_109, pj_so115_109, pj_so116_109, pj_so117_109, pj_so111_110, pj_so112_110, pj_so113_110, pj_so114_110, pj_so115_110, pj_so116_110, pj_so117_110, pj_so112_111, pj_so113_111, pj_so114_111, pj_so115_111, pj_so116_111, pj_so117_111, pj_so113_112, pj_so114_112, pj_so115_112, pj_so116_112, pj_so117_112, pj_so114_113, pj_so115_113, pj_so116_113, pj_so117_113, pj_so115_114, pj_so116_114, pj_so117_114, pj_so116_115, pj_so117_115, pj_so117_116, pj_up_ap, pj_upd_ap, pj_a3_0, pj_a3_1, pj_a3_2, pj_a3_u0, pj_a3_u1, pj_a3_u2, pj_f5_7, pj_ars_i, pj_f5_0, pj_f4_10, gV, pj_vc, g8, k1, t1, gU.1, hx5]
  exact t71_39
theorem c_restore_0 (hx : pj_In x) (hC : pj_C H x) : pj_Co N S H 72 [some (.ref 4), some (.int 0)] (if x.2.2.2.2.1 0 = 0 then (x, -5) else (sp_push x (x.2.2.2.1 0), x.2.2.2.1 0 6)) := by
  have h8 := hC.2.2.2.2.2.2.2.2.2
  have k1 : pj_in 0 2 = true := by decide
  have t1 : (0 : Int32).toNatClampNeg = 0 := rfl
  by_cases c : x.2.2.2.2.1 0 = 0
  · rw [if_pos c]
    refine pj_Co_same hC ?_
    simp (disch := first | assumption | exact pj_long_i | exact pj_long_r | exact pj_long_n | decide) only [x72_0, x72_1, x72_4, x72_5, x72_6, x72_9, x72_12, x72_13, x72_16, x72_17, x72_18, x72_21, simprocAttr, pj_then_s, pj_pv_s, pj_pi_s, pj_set_s, if_true, if_false, not_true_eq_false, not_false_eq_true, pj_up_up, pj_so110_109, pj_so111_109, pj_so112_109, pj_so113_109, pj_so114_109, pj_so115_109, pj_so116_109, pj_so117_109, pj_so111_110, pj_so112_110, pj_so113_110, pj_so114_110, pj_so115_110, pj_so116_110, pj_so117_110, pj_so112_111, pj_so113_111, pj_so114_111, pj_so115_111, pj_so116_111, pj_so117_111, pj_so113_112, pj_so114_112, pj_so115_112, pj_so116_112, pj_so117_112, pj_so114_113, pj_so115_113, pj_so116_113, pj_so117_113, pj_so115_114, pj_so116_114, pj_so117_114, pj_so116_115, pj_so117_115, pj_so117_116, pj_up_ap, pj_upd_ap, pj_a3_0, pj_a3_1, pj_a3_2, pj_a3_u0, pj_a3_u1, pj_a3_u2, pj_f5_7, pj_arl_i, hC.2.1, pj_vc, h8, k1, t1, c]
    exact t72_23
  · rw [if_neg c]
    have c1 : x.2.2.2.2.1 0 = 1 := by
      rcases hx.2.2.2.2 0 (by decide) with e | e
      · exact absurd e c
      · exact e.1
    obtain ⟨H1, hC1, hF1, hE⟩ := c_remember (N := N) (S := S) hx.2.1 hC
    have V1 := hC1.2.1
    have U1 : pj_U H1 5 x.1 := hC1.2.2.1
    obtain ⟨⟨q, h1, h2, h3⟩, ⟨w0, hw0, he0⟩, ⟨w1, hw1, he1⟩, h8'⟩ := hC1.2.2.2.2.2.2
    have hw := he0 c1
    rw [hw] at hw0
    obtain ⟨H2, g1, g2, g3⟩ := c_become (N := N) (S := S) U1 hw0 (Or.inl (by decide))
    obtain ⟨hC2, hF2⟩ := c_chg hC1 hF1 g1 (fun j hj => g2 j (by omega))
    refine ⟨H2, hC2, hF2, ?_⟩
    have V2 : H2 4 = _ := (g2 4 (by decide)).trans V1
    have hx5 : pj_uc 5 (x.2.2.2.1 0) = .inl (4, [.ref 6, .ref 7, .ref 8, .ref 9, .ref 10, .ref 11, .ref 12, .int (sp_vot (x.2.2.2.1 0)), .int (sp_bar (x.2.2.2.1 0)), .int (x.2.2.2.1 0 7), .int (x.2.2.2.1 0 6)]) := rfl
    have u2 : H2 5 = pj_uc 5 (x.2.2.2.1 0) := g1.1
    simp only
    simp (disch := first | assumption | exact pj_long_i | exact pj_long_r | exact pj_long_n | decide) only [x72_0, x72_1, x72_4, x72_5, x72_6, x72_9, x72_12, x72_13, x72_16, x72_17, x72_18, x72_21, x72_24, simprocAttr, pj_then_s, pj_pv_s, pj_pi_s, pj_set_s, if_true, if_false, not_true_eq_false, not_false_eq_true, pj_up_up, pj_so110_109, pj_so111_109, pj_so112_109, pj_so113_109, pj_so114_109, pj_so115_109, pj_so116_109, pj_so117_109, pj_so111_110, pj_so112_110, pj_so113_110, pj_so114_110, pj_so115_110, pj_so116_110, pj_so117_110, pj_so112_111, pj_so113_111, pj_so114_111, pj_so115_111, pj_so116_111, pj_so117_111, pj_so113_112, pj_so114_112, pj_so115_112, pj_so116_112, pj_so117_112, pj_so114_113, pj_so115_113, pj_so116_113, pj_so117_113, pj_so115_114, pj_so116_114, pj_so117_114, pj_so116_115, pj_so117_115, pj_so117_116, pj_up_ap, pj_upd_ap, pj_a3_0, pj_a3_1, pj_a3_2, pj_a3_u0, pj_a3_u1, pj_a3_u2, pj_f5_7, pj_arl_i, hC.2.1, pj_vc, h8, k1, t1, c1]
    refine e72_25 rfl (by rw [hC.2.1]; rfl) hE ?_
    simp (disch := first | assumption | exact pj_long_i | exact pj_long_r | exact pj_long_n | decide) only [x72_28, x72_29, x72_32, x72_33, x72_36, x72_37, simprocAttr, pj_then_s, pj_pv_s, pj_pi_s, pj_set_s, if_true, if_false, not_true_eq_false, not_false_eq_true, pj_up_up, pj_so110_109, pj_so111_109, pj_so112_109, pj_so113_109, pj_so114_109, pj_so115_109, pj_so116_109, pj_so117_109, pj_so111_110, pj_so112_110, pj_so113_110, pj_so114_110, pj_so115_110, pj_so116_110, pj_so117_110, pj_so112_111, pj_so113_111, pj_so114_111, pj_so115_111, pj_so116_111, pj_so117_111, pj_so113_112, pj_so114_112, pj_so115_112, pj_so116_112, pj_so117_112, pj_so114_113, pj_so115_113, pj_so116_113, pj_so117_113, pj_so115_114, pj_so116_114, pj_so117_114, pj_so116_115, pj_so117_115, pj_so117_116, pj_up_ap, pj_upd_ap, pj_a3_0, pj_a3_1, pj_a3_2, pj_a3_u0, pj_a3_u1, pj_a3_u2, pj_f5_0, pj_f5_6, pj_qrl_i, V1, pj_vc, h1, h2, h3, k1, t1, va_rf_some]
    refine e72_38 rfl (by rw [U1.1]; rfl) g3 ?_
    simp (disch := first | assumption | exact pj_long_i | exact pj_long_r | exact pj_long_n | decide) only [x72_41, x72_42, x72_45, simprocAttr, pj_then_s, pj_pv_s, pj_pi_s, pj_set_s, if_true, if_false, not_true_eq_false, not_false_eq_true, pj_up_up, pj_so110_109, pj_so111_109, pj_so112_109, pj_so113_109, pj_so114_109, pj_so115_109, pj_so116_109, pj_so117_109, pj_so111_110, pj_so112_110, pj_so113_110, pj_so114_110, pj_so115_110, pj_so116_110, pj_so117_110, pj_so112_111, pj_so113_111, pj_so114_111, pj_so115_111, pj_so116_111, pj_so117_111, pj_so113_112, pj_so114_112, pj_so115_112, pj_so116_112, pj_so117_112, pj_so114_113, pj_so115_113, pj_so116_113, pj_so117_113, pj_so115_114, pj_so116_114, pj_so117_114, pj_so116_115, pj_so117_115, pj_so117_116, pj_up_ap, pj_upd_ap, pj_a3_0, pj_a3_1, pj_a3_2, pj_a3_u0, pj_a3_u1, pj_a3_u2, pj_f5_0, pj_f4_10, V2, pj_vc, u2, hx5]
    exact t72_48
theorem c_save_1 (hx : pj_In x) (hC : pj_C H x) : pj_Co N S H 71 [some (.ref 4), some (.int 1)] ((x.1, x.2.1, x.2.2.1, fun i => if i = 1 then x.1 else x.2.2.2.1 i, upd x.2.2.2.2.1 1 1, x.2.2.2.2.2), x.1 6) := by
  obtain ⟨f, n, h, s, sv, pl, pd⟩ := x
  have hC' := hC
  obtain ⟨h0, hV, hU, ⟨⟨w14, hw14⟩, hT⟩, hP, hH, ⟨⟨q, h1, h2, h3⟩, ⟨w0, hw0, he0⟩, ⟨w1, hw1, he1⟩, h8⟩⟩ := hC
  obtain ⟨H1, g1, g2, g3⟩ := c_become (N := N) (S := S) hw1 hU (Or.inr (by decide))
  have gg : ∀ j, j < 4 ∨ 4 ≤ j ∧ j < 90 → H1 j = H j := fun j hj => g2 j (by omega)
  have gU : pj_U H1 5 f := hU.frame (fun i hi => g2 _ (by omega))
  have gV : H1 4 = pj_vc n := (g2 4 (by decide)).trans hV
  have g8 : H1 108 = .inr (2, 2, .inl sv) := (g2 108 (by decide)).trans h8
  have hx5 : pj_uc 5 f = .inl (4, [.ref 6, .ref 7, .ref 8, .ref 9, .ref 10, .ref 11, .ref 12, .int (sp_vot f), .int (sp_bar f), .int (f 7), .int (f 6)]) := rfl
  have pn : ∀ j, j < 108 → pj_up H1 108 (.inr (2, 2, .inl (upd sv 1 1))) j = H1 j := fun j hj => by rw [pj_up_ap, if_neg (by omega)]
  have gs : pj_CS (pj_up H1 108 (.inr (2, 2, .inl (upd sv 1 1)))) (fun i => if i = 1 then f else s i) (upd sv 1 1) := by
    refine ⟨⟨q, (pn 89 (by decide)).trans ((g2 89 (by decide)).trans h1), h2, h3⟩, ?_, ?_, ?_⟩
    · exact ⟨w0, hw0.frame (fun i hi => (pn _ (by omega)).trans (g2 _ (by omega))), fun hs => he0 hs⟩
    · exact ⟨f, g1.frame (fun i hi => pn _ (by omega)), fun _ => rfl⟩
    · rw [pj_up_ap, if_pos rfl]
  refine ⟨_, ⟨⟨(pn 2 (by decide)).trans ((gg 2 (by decide)).trans h0.1), (pn 3 (by decide)).trans ((gg 3 (by decide)).trans h0.2)⟩, (pn 4 (by decide)).trans gV, gU.frame (fun i hi => pn _ (by omega)), ⟨⟨w14, hw14.frame (fun i hi => (pn _ (by omega)).trans (gg _ (by omega)))⟩, hT.frame (fun i hi => (pn _ (by omega)).trans (gg _ (by omega)))⟩, hP.frame (fun j a b => (pn j (by omega)).trans (gg j (by omega))), hH.frame (fun j a b => (pn j (by omega)).trans (gg j (by omega))), gs⟩, fun j hj => by rw [pj_up_ap, if_neg (by omega)]; exact g2 j (by omega), ?_⟩
  have k1 : pj_in 1 2 = true := by decide
  have t1 : (1 : Int32).toNatClampNeg = 1 := rfl
  simp (disch := first | assumption | exact pj_long_i | exact pj_long_r | exact pj_long_n | decide) only [x71_0, x71_1, x71_4, x71_5, x71_6, x71_9, x71_12, x71_13, x71_16, x71_17, x71_18, x71_19, simprocAttr, pj_then_s, pj_pv_s, pj_pi_s, pj_set_s, if_true, if_false, not_true_eq_false, not_false_eq_true, pj_up_up, pj_so110_109, pj_so111_109, pj_so112_109, pj_so113_109, pj_so114_109, pj_so115_109, pj_so116_109, pj_so117_109, pj_so111_110, pj_so112_110, pj_so113_110, pj_so114_110, pj_so115_110, pj_so116_110, pj_so117_110, pj_so112_111, pj_so113_111, pj_so114_111, pj_so115_111, pj_so116_111, pj_so117_111, pj_so113_112, pj_so114_112, pj_so115_112, pj_so116_112, pj_so117_112, pj_so114_113, pj_so115_113, pj_so116_113, pj_so117_113, pj_so115_114, pj_so116_114, pj_so117_114, pj_so116_115, pj_so117_115, pj_so117_116, pj_up_ap, pj_upd_ap, pj_a3_0, pj_a3_1, pj_a3_2, pj_a3_u0, pj_a3_u1, pj_a3_u2, pj_f5_6, pj_qrl_i, pj_f5_0, hV, pj_vc, h1, h2, h3, k1, t1, va_rf_some]
  refine e71_22 rfl (by rw [hw1.1]; rfl) g3 ?_
  simp (disch := first | assumption | exact pj_long_i | exact pj_long_r | exact pj_long_n | decide) only [x71_25, x71_26, x71_29, x71_30, x71_31, x71_32, x71_33, x71_36, simprocAttr, pj_then_s, pj_pv_s, pj_pi_s, pj_set_s, if_true, if_false, not_true_eq_false, not_false_eq_true, pj_up_up, pj_so110_109, pj_so111_109, pj_so112_109, pj_so113_109, pj_so114_109, pj_so115_109, pj_so116_109, pj_so117_109, pj_so111_110, pj_so112_110, pj_so113_110, pj_so114_110, pj_so115_110, pj_so116_110, pj_so117_110, pj_so112_111, pj_so113_111, pj_so114_111, pj_so115_111, pj_so116_111, pj_so117_111, pj_so113_112, pj_so114_112, pj_so115_112, pj_so116_112, pj_so117_112, pj_so114_113, pj_so115_113, pj_so116_113, pj_so117_113, pj_so115_114, pj_so116_114, pj_so117_114, pj_so116_115, pj_so117_115, pj_so117_116, pj_up_ap, pj_upd_ap, pj_a3_0, pj_a3_1, pj_a3_2, pj_a3_u0, pj_a3_u1, pj_a3_u2, pj_f5_7, pj_ars_i, pj_f5_0, pj_f4_10, gV, pj_vc, g8, k1, t1, gU.1, hx5]
  exact t71_39
theorem c_restore_1 (hx : pj_In x) (hC : pj_C H x) : pj_Co N S H 72 [some (.ref 4), some (.int 1)] (if x.2.2.2.2.1 1 = 0 then (x, -5) else (sp_push x (x.2.2.2.1 1), x.2.2.2.1 1 6)) := by
  have h8 := hC.2.2.2.2.2.2.2.2.2
  have k1 : pj_in 1 2 = true := by decide
  have t1 : (1 : Int32).toNatClampNeg = 1 := rfl
  by_cases c : x.2.2.2.2.1 1 = 0
  · rw [if_pos c]
    refine pj_Co_same hC ?_
    simp (disch := first | assumption | exact pj_long_i | exact pj_long_r | exact pj_long_n | decide) only [x72_0, x72_1, x72_4, x72_5, x72_6, x72_9, x72_12, x72_13, x72_16, x72_17, x72_18, x72_21, simprocAttr, pj_then_s, pj_pv_s, pj_pi_s, pj_set_s, if_true, if_false, not_true_eq_false, not_false_eq_true, pj_up_up, pj_so110_109, pj_so111_109, pj_so112_109, pj_so113_109, pj_so114_109, pj_so115_109, pj_so116_109, pj_so117_109, pj_so111_110, pj_so112_110, pj_so113_110, pj_so114_110, pj_so115_110, pj_so116_110, pj_so117_110, pj_so112_111, pj_so113_111, pj_so114_111, pj_so115_111, pj_so116_111, pj_so117_111, pj_so113_112, pj_so114_112, pj_so115_112, pj_so116_112, pj_so117_112, pj_so114_113, pj_so115_113, pj_so116_113, pj_so117_113, pj_so115_114, pj_so116_114, pj_so117_114, pj_so116_115, pj_so117_115, pj_so117_116, pj_up_ap, pj_upd_ap, pj_a3_0, pj_a3_1, pj_a3_2, pj_a3_u0, pj_a3_u1, pj_a3_u2, pj_f5_7, pj_arl_i, hC.2.1, pj_vc, h8, k1, t1, c]
    exact t72_23
  · rw [if_neg c]
    have c1 : x.2.2.2.2.1 1 = 1 := by
      rcases hx.2.2.2.2 1 (by decide) with e | e
      · exact absurd e c
      · exact e.1
    obtain ⟨H1, hC1, hF1, hE⟩ := c_remember (N := N) (S := S) hx.2.1 hC
    have V1 := hC1.2.1
    have U1 : pj_U H1 5 x.1 := hC1.2.2.1
    obtain ⟨⟨q, h1, h2, h3⟩, ⟨w0, hw0, he0⟩, ⟨w1, hw1, he1⟩, h8'⟩ := hC1.2.2.2.2.2.2
    have hw := he1 c1
    rw [hw] at hw1
    obtain ⟨H2, g1, g2, g3⟩ := c_become (N := N) (S := S) U1 hw1 (Or.inl (by decide))
    obtain ⟨hC2, hF2⟩ := c_chg hC1 hF1 g1 (fun j hj => g2 j (by omega))
    refine ⟨H2, hC2, hF2, ?_⟩
    have V2 : H2 4 = _ := (g2 4 (by decide)).trans V1
    have hx5 : pj_uc 5 (x.2.2.2.1 1) = .inl (4, [.ref 6, .ref 7, .ref 8, .ref 9, .ref 10, .ref 11, .ref 12, .int (sp_vot (x.2.2.2.1 1)), .int (sp_bar (x.2.2.2.1 1)), .int (x.2.2.2.1 1 7), .int (x.2.2.2.1 1 6)]) := rfl
    have u2 : H2 5 = pj_uc 5 (x.2.2.2.1 1) := g1.1
    simp only
    simp (disch := first | assumption | exact pj_long_i | exact pj_long_r | exact pj_long_n | decide) only [x72_0, x72_1, x72_4, x72_5, x72_6, x72_9, x72_12, x72_13, x72_16, x72_17, x72_18, x72_21, x72_24, simprocAttr, pj_then_s, pj_pv_s, pj_pi_s, pj_set_s, if_true, if_false, not_true_eq_false, not_false_eq_true, pj_up_up, pj_so110_109, pj_so111_109, pj_so112_109, pj_so113_109, pj_so114_109, pj_so115_109, pj_so116_109, pj_so117_109, pj_so111_110, pj_so112_110, pj_so113_110, pj_so114_110, pj_so115_110, pj_so116_110, pj_so117_110, pj_so112_111, pj_so113_111, pj_so114_111, pj_so115_111, pj_so116_111, pj_so117_111, pj_so113_112, pj_so114_112, pj_so115_112, pj_so116_112, pj_so117_112, pj_so114_113, pj_so115_113, pj_so116_113, pj_so117_113, pj_so115_114, pj_so116_114, pj_so117_114, pj_so116_115, pj_so117_115, pj_so117_116, pj_up_ap, pj_upd_ap, pj_a3_0, pj_a3_1, pj_a3_2, pj_a3_u0, pj_a3_u1, pj_a3_u2, pj_f5_7, pj_arl_i, hC.2.1, pj_vc, h8, k1, t1, c1]
    refine e72_25 rfl (by rw [hC.2.1]; rfl) hE ?_
    simp (disch := first | assumption | exact pj_long_i | exact pj_long_r | exact pj_long_n | decide) only [x72_28, x72_29, x72_32, x72_33, x72_36, x72_37, simprocAttr, pj_then_s, pj_pv_s, pj_pi_s, pj_set_s, if_true, if_false, not_true_eq_false, not_false_eq_true, pj_up_up, pj_so110_109, pj_so111_109, pj_so112_109, pj_so113_109, pj_so114_109, pj_so115_109, pj_so116_109, pj_so117_109, pj_so111_110, pj_so112_110, pj_so113_110, pj_so114_110, pj_so115_110, pj_so116_110, pj_so117_110, pj_so112_111, pj_so113_111, pj_so114_111, pj_so115_111, pj_so116_111, pj_so117_111, pj_so113_112, pj_so114_112, pj_so115_112, pj_so116_112, pj_so117_112, pj_so114_113, pj_so115_113, pj_so116_113, pj_so117_113, pj_so115_114, pj_so116_114, pj_so117_114, pj_so116_115, pj_so117_115, pj_so117_116, pj_up_ap, pj_upd_ap, pj_a3_0, pj_a3_1, pj_a3_2, pj_a3_u0, pj_a3_u1, pj_a3_u2, pj_f5_0, pj_f5_6, pj_qrl_i, V1, pj_vc, h1, h2, h3, k1, t1, va_rf_some]
    refine e72_38 rfl (by rw [U1.1]; rfl) g3 ?_
    simp (disch := first | assumption | exact pj_long_i | exact pj_long_r | exact pj_long_n | decide) only [x72_41, x72_42, x72_45, simprocAttr, pj_then_s, pj_pv_s, pj_pi_s, pj_set_s, if_true, if_false, not_true_eq_false, not_false_eq_true, pj_up_up, pj_so110_109, pj_so111_109, pj_so112_109, pj_so113_109, pj_so114_109, pj_so115_109, pj_so116_109, pj_so117_109, pj_so111_110, pj_so112_110, pj_so113_110, pj_so114_110, pj_so115_110, pj_so116_110, pj_so117_110, pj_so112_111, pj_so113_111, pj_so114_111, pj_so115_111, pj_so116_111, pj_so117_111, pj_so113_112, pj_so114_112, pj_so115_112, pj_so116_112, pj_so117_112, pj_so114_113, pj_so115_113, pj_so116_113, pj_so117_113, pj_so115_114, pj_so116_114, pj_so117_114, pj_so116_115, pj_so117_115, pj_so117_116, pj_up_ap, pj_upd_ap, pj_a3_0, pj_a3_1, pj_a3_2, pj_a3_u0, pj_a3_u1, pj_a3_u2, pj_f5_0, pj_f4_10, V2, pj_vc, u2, hx5]
    exact t72_48
theorem C_save {a : Int32} (hx : pj_In x) (hC : pj_C H x) : pj_Co N S H 71 [some (.ref 4), some (.int a)] (op_save x a) := by
  unfold op_save
  by_cases c : 0 ≤ a ∧ a ≤ 1
  · rw [if_pos c]
    rcases i32_02 c with e | e <;> subst e
    · exact c_save_0 hx hC
    · exact c_save_1 hx hC
  · rw [if_neg c]
    refine pj_Co_same hC ?_
    rcases i32_n02 c with q | ⟨q, q2⟩
    · simp (disch := first | assumption | exact pj_long_i | exact pj_long_r | exact pj_long_n | decide) only [x71_0, x71_1, x71_4, x71_5, x71_6, x71_9, simprocAttr, pj_then_s, pj_pv_s, pj_pi_s, pj_set_s, if_true, if_false, not_true_eq_false, not_false_eq_true, pj_up_up, pj_so110_109, pj_so111_109, pj_so112_109, pj_so113_109, pj_so114_109, pj_so115_109, pj_so116_109, pj_so117_109, pj_so111_110, pj_so112_110, pj_so113_110, pj_so114_110, pj_so115_110, pj_so116_110, pj_so117_110, pj_so112_111, pj_so113_111, pj_so114_111, pj_so115_111, pj_so116_111, pj_so117_111, pj_so113_112, pj_so114_112, pj_so115_112, pj_so116_112, pj_so117_112, pj_so114_113, pj_so115_113, pj_so116_113, pj_so117_113, pj_so115_114, pj_so116_114, pj_so117_114, pj_so116_115, pj_so117_115, pj_so117_116, pj_up_ap, pj_upd_ap, pj_a3_0, pj_a3_1, pj_a3_2, pj_a3_u0, pj_a3_u1, pj_a3_u2, q]
      exact t71_11
    · simp (disch := first | assumption | exact pj_long_i | exact pj_long_r | exact pj_long_n | decide) only [x71_0, x71_1, x71_4, x71_5, x71_6, x71_9, simprocAttr, pj_then_s, pj_pv_s, pj_pi_s, pj_set_s, if_true, if_false, not_true_eq_false, not_false_eq_true, pj_up_up, pj_so110_109, pj_so111_109, pj_so112_109, pj_so113_109, pj_so114_109, pj_so115_109, pj_so116_109, pj_so117_109, pj_so111_110, pj_so112_110, pj_so113_110, pj_so114_110, pj_so115_110, pj_so116_110, pj_so117_110, pj_so112_111, pj_so113_111, pj_so114_111, pj_so115_111, pj_so116_111, pj_so117_111, pj_so113_112, pj_so114_112, pj_so115_112, pj_so116_112, pj_so117_112, pj_so114_113, pj_so115_113, pj_so116_113, pj_so117_113, pj_so115_114, pj_so116_114, pj_so117_114, pj_so116_115, pj_so117_115, pj_so117_116, pj_up_ap, pj_upd_ap, pj_a3_0, pj_a3_1, pj_a3_2, pj_a3_u0, pj_a3_u1, pj_a3_u2, q, q2]
      exact t71_11
theorem C_restore {a : Int32} (hx : pj_In x) (hC : pj_C H x) : pj_Co N S H 72 [some (.ref 4), some (.int a)] (op_restore x a) := by
  unfold op_restore
  by_cases c : 0 ≤ a ∧ a ≤ 1
  · rw [if_pos c]
    rcases i32_02 c with e | e <;> subst e
    · exact c_restore_0 hx hC
    · exact c_restore_1 hx hC
  · rw [if_neg c]
    refine pj_Co_same hC ?_
    rcases i32_n02 c with q | ⟨q, q2⟩
    · simp (disch := first | assumption | exact pj_long_i | exact pj_long_r | exact pj_long_n | decide) only [x72_0, x72_1, x72_4, x72_5, x72_6, x72_9, simprocAttr, pj_then_s, pj_pv_s, pj_pi_s, pj_set_s, if_true, if_false, not_true_eq_false, not_false_eq_true, pj_up_up, pj_so110_109, pj_so111_109, pj_so112_109, pj_so113_109, pj_so114_109, pj_so115_109, pj_so116_109, pj_so117_109, pj_so111_110, pj_so112_110, pj_so113_110, pj_so114_110, pj_so115_110, pj_so116_110, pj_so117_110, pj_so112_111, pj_so113_111, pj_so114_111, pj_so115_111, pj_so116_111, pj_so117_111, pj_so113_112, pj_so114_112, pj_so115_112, pj_so116_112, pj_so117_112, pj_so114_113, pj_so115_113, pj_so116_113, pj_so117_113, pj_so115_114, pj_so116_114, pj_so117_114, pj_so116_115, pj_so117_115, pj_so117_116, pj_up_ap, pj_upd_ap, pj_a3_0, pj_a3_1, pj_a3_2, pj_a3_u0, pj_a3_u1, pj_a3_u2, q]
      exact t72_11
    · simp (disch := first | assumption | exact pj_long_i | exact pj_long_r | exact pj_long_n | decide) only [x72_0, x72_1, x72_4, x72_5, x72_6, x72_9, simprocAttr, pj_then_s, pj_pv_s, pj_pi_s, pj_set_s, if_true, if_false, not_true_eq_false, not_false_eq_true, pj_up_up, pj_so110_109, pj_so111_109, pj_so112_109, pj_so113_109, pj_so114_109, pj_so115_109, pj_so116_109, pj_so117_109, pj_so111_110, pj_so112_110, pj_so113_110, pj_so114_110, pj_so115_110, pj_so116_110, pj_so117_110, pj_so112_111, pj_so113_111, pj_so114_111, pj_so115_111, pj_so116_111, pj_so117_111, pj_so113_112, pj_so114_112, pj_so115_112, pj_so116_112, pj_so117_112, pj_so114_113, pj_so115_113, pj_so116_113, pj_so117_113, pj_so115_114, pj_so116_114, pj_so117_114, pj_so116_115, pj_so117_115, pj_so117_116, pj_up_ap, pj_upd_ap, pj_a3_0, pj_a3_1, pj_a3_2, pj_a3_u0, pj_a3_u1, pj_a3_u2, q, q2]
      exact t72_11
end T26
