section T26
variable {N S : Nat} {H : pj_Heap} {x : pj_Sg}
theorem C_undo (hx : pj_In x) (hC : pj_C H x) : pj_Co N S H 50 [some (.ref 4)] (op_undo x) := by
  obtain ⟨f, n, h, s, sv, pl, pd⟩ := x
  have hn : n ≤ 6 := hx.2.1
  unfold op_undo
  simp only
  by_cases c : n = 0
  · subst c
    rw [if_pos rfl]
    refine pj_Co_same hC ?_
    have V0 : H 4 = .inl (5, [.ref 5, .ref 14, .ref 23, .ref 30, .ref 34, .int 0, .ref 89, .ref 108]) := hC.2.1
    simp (disch := first | assumption | exact pj_long_i | exact pj_long_r | exact pj_long_n | decide) only [x50_0, x50_1, x50_4, x50_7, x50_8, x50_11, x50_13, x50_16, simprocAttr, pj_then_s, pj_pv_s, pj_pi_s, pj_set_s, if_true, if_false, not_true_eq_false, not_false_eq_true, pj_up_up, pj_so110_109, pj_so111_109, pj_so112_109, pj_so113_109, pj_so114_109, pj_so115_109, pj_so116_109, pj_so117_109, pj_so111_110, pj_so112_110, pj_so113_110, pj_so114_110, pj_so115_110, pj_so116_110, pj_so117_110, pj_so112_111, pj_so113_111, pj_so114_111, pj_so115_111, pj_so116_111, pj_so117_111, pj_so113_112, pj_so114_112, pj_so115_112, pj_so116_112, pj_so117_112, pj_so114_113, pj_so115_113, pj_so116_113, pj_so117_113, pj_so115_114, pj_so116_114, pj_so117_114, pj_so116_115, pj_so117_115, pj_so117_116, pj_up_ap, pj_upd_ap, pj_a3_0, pj_a3_1, pj_a3_2, pj_a3_u0, pj_a3_u1, pj_a3_u2, pj_f5_5, V0]
    exact t50_18
  · rw [if_neg c]
    obtain ⟨m, rfl⟩ : ∃ m, n = m + 1 := ⟨n - 1, by omega⟩
    rw [Nat.add_sub_cancel]
    obtain ⟨h0, hV, hU, ⟨⟨w14, hw14⟩, hT⟩, hP, ⟨q, p, h1, h2, h3, h4, h5⟩, hS⟩ := hC
    obtain ⟨w, hw, he⟩ := h5 m (by omega)
    have ew := he (show m < m + 1 by omega)
    rw [ew] at hw
    have hp := h3 m (by omega)
    have k1 : q m = some (p m) := h2 m (by omega)
    have k2 : pj_in (nI m) 6 = true := pj_in_nI (by omega) (by decide)
    have k3 : (nI m).toNatClampNeg = m := nI_clamp (by omega)
    have k4 : ¬ nI (m + 1) ≤ 0 := nI_nle (by omega) (by omega)
    have k5 : nI (m + 1) ≤ 6 := (nI_leI (by omega) (by decide)).mpr hn
    have fU : pj_U (pj_up H 4 (pj_vc m)) 5 f := hU.frame (fun i hi => by rw [pj_up_ap, if_neg (by omega)])
    have fW : pj_U (pj_up H 4 (pj_vc m)) (p m) (h m) := hw.frame (fun i hi => by rw [pj_up_ap, if_neg (by omega)])
    obtain ⟨H1, g1, g2, g3⟩ := c_become (N := N) (S := S) fU fW (Or.inl (by omega))
    have gg : ∀ j, j < 4 ∨ 13 < j → H1 j = H j := fun j hj => by rw [g2 j (by omega), pj_up_ap, if_neg (by omega)]
    have V1 : H1 4 = pj_vc m := by rw [g2 4 (by omega), pj_up_ap, if_pos rfl]
    refine ⟨H1, ⟨⟨(gg 2 (by decide)).trans h0.1, (gg 3 (by decide)).trans h0.2⟩, V1, g1, ⟨⟨w14, hw14.frame (fun i hi => gg _ (by omega))⟩, hT.frame (fun i hi => gg _ (by omega))⟩, hP.frame (fun j a b => gg j (by omega)), pj_Hi.frame (H := H) ⟨q, p, h1, h2, h3, h4, fun i hi => ?_⟩ (fun j a b => gg j (by omega)), hS.frame (fun j a b => gg j (by omega))⟩, fun j hj => gg j (by omega), ?_⟩
    · obtain ⟨w', hw', he'⟩ := h5 i hi
      exact ⟨w', hw', fun hlt => he' (show i < m + 1 by have : i < m := hlt; omega)⟩
    · have V0 : H 4 = .inl (5, [.ref 5, .ref 14, .ref 23, .ref 30, .ref 34, .int (nI (m + 1)), .ref 89, .ref 108]) := hV
      have e4 : pj_vc m = .inl (5, [.ref 5, .ref 14, .ref 23, .ref 30, .ref 34, .int (nI m), .ref 89, .ref 108]) := rfl
      rw [e4] at g3 V1
      simp (disch := first | assumption | exact pj_long_i | exact pj_long_r | exact pj_long_n | decide) only [x50_0, x50_1, x50_4, x50_7, x50_8, x50_11, x50_13, x50_16, x50_19, x50_20, x50_20i, x50_21, x50_24, x50_25, x50_26, x50_29, x50_30, x50_33, x50_34, x50_37, x50_38, x50_41, simprocAttr, pj_then_s, pj_pv_s, pj_pi_s, pj_set_s, if_true, if_false, not_true_eq_false, not_false_eq_true, pj_up_up, pj_so110_109, pj_so111_109, pj_so112_109, pj_so113_109, pj_so114_109, pj_so115_109, pj_so116_109, pj_so117_109, pj_so111_110, pj_so112_110, pj_so113_110, pj_so114_110, pj_so115_110, pj_so116_110, pj_so117_110, pj_so112_111, pj_so113_111, pj_so114_111, pj_so115_111, pj_so116_111, pj_so117_111, pj_so113_112, pj_so114_112, pj_so115_112, pj_so116_112, pj_so117_112, pj_so114_113, pj_so115_113, pj_so116_113, pj_so117_113, pj_so115_114, pj_so116_114, pj_so117_114, pj_so116_115, pj_so117_115, pj_so117_116, pj_up_ap, pj_upd_ap, pj_a3_0, pj_a3_1, pj_a3_2, pj_a3_u0, pj_a3_u1, pj_a3_u2, pj_f5_5, pj_s5_5, pj_f5_0, pj_f5_4, pj_qrl_i, V0, k1, k2, k3, k4, k5, nI_pred, h1, va_rf_some]
      refine e50_42 rfl (by rw [pj_up_ap, if_neg (by decide), hU.1]; rfl) g3 ?_
      simp (disch := first | assumption | exact pj_long_i | exact pj_long_r | exact pj_long_n | decide) only [x50_45, x50_46, simprocAttr, pj_then_s, pj_pv_s, pj_pi_s, pj_set_s, if_true, if_false, not_true_eq_false, not_false_eq_true, pj_up_up, pj_so110_109, pj_so111_109, pj_so112_109, pj_so113_109, pj_so114_109, pj_so115_109, pj_so116_109, pj_so117_109, pj_so111_110, pj_so112_110, pj_so113_110, pj_so114_110, pj_so115_110, pj_so116_110, pj_so117_110, pj_so112_111, pj_so113_111, pj_so114_111, pj_so115_111, pj_so116_111, pj_so117_111, pj_so113_112, pj_so114_112, pj_so115_112, pj_so116_112, pj_so117_112, pj_so114_113, pj_so115_113, pj_so116_113, pj_so117_113, pj_so115_114, pj_so116_114, pj_so117_114, pj_so116_115, pj_so117_115, pj_so117_116, pj_up_ap, pj_upd_ap, pj_a3_0, pj_a3_1, pj_a3_2, pj_a3_u0, pj_a3_u1, pj_a3_u2, pj_f5_5, V1]
      exact t50_49
end T26
