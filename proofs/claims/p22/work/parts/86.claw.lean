/-! THE FIRST STATE OF BOTH -/
def sp_x0 : pj_Sg := (sp_r0, 0, fun _ _ => 0, fun _ _ => 0, fun _ => 0, 0, fun _ => 0)
theorem sp_x0_in : pj_In sp_x0 := by
  refine ⟨⟨0, by decide, ?_⟩, by decide, by decide, fun i hi => absurd hi (Nat.not_lt_zero _), fun i hi => Or.inl rfl⟩
  refine ⟨fun j hj => ?_, ⟨0, by decide, rfl⟩, rfl, fun k hk => ?_, fun k hk => ?_, (by decide : (0 : Int32) ≤ 0), (by decide : (0 : Int32) ≤ 5), fun k hk => ?_, fun k hk => ?_, Or.inl rfl⟩
  · show sp_r0 j = 0
    unfold sp_r0
    simp only [pj_upd_ap]
    repeat rw [if_neg (by omega)]
  · have : k = 0 ∨ k = 1 ∨ k = 2 := by omega
    rcases this with e | e | e <;> subst e <;> exact Or.inr rfl
  · have : k = 0 ∨ k = 1 ∨ k = 2 := by omega
    rcases this with e | e | e <;> subst e <;> exact Or.inl rfl
  · have : k = 0 ∨ k = 1 ∨ k = 2 := by omega
    rcases this with e | e | e <;> subst e <;> exact ⟨0, Nat.le_refl _, rfl⟩
  · have : k = 0 ∨ k = 1 ∨ k = 2 := by omega
    rcases this with e | e | e <;> subst e <;> exact ⟨(by decide : (-500 : Int32) ≤ 0), (by decide : (0 : Int32) ≤ 500)⟩
section T82
variable {S : Nat} {H : pj_Heap}
theorem c_vinit (g1 : H 1 = .inr (4, 6, .inl (pj_v6 60 150 5 8 40 2))) (g2 : pj_C0 H) (h : H 4 = .inl (5, [.null, .null, .null, .null, .null, .int 0, .null, .null])) : ∃ H', pj_C H' sp_x0 ∧ (∀ j, j < 4 ∨ 108 < j → H' j = H j) ∧ pj_Ends 0 (0, [some (.ref 4)], [], (5, S, H)) (none, (109, S + 1684, H')) := by
  obtain ⟨A1, a1, b1, e1⟩ := c_uinit_5 (S := S + 11) (H := pj_up H 5 (.inl (4, [.null, .null, .null, .null, .null, .null, .null, .int 0, .int 0, .int 0, .int 0]))) (by rw [pj_up_ap, if_neg (by decide)]; exact g1) (by rw [pj_up_ap, if_pos rfl])
  have v1 : A1 4 = .inl (5, [.null, .null, .null, .null, .null, .int 0, .null, .null]) := (b1 4 (by decide)).trans (by rw [pj_up_ap, if_neg (by decide)]; exact h)
  have o1 : A1 1 = .inr (4, 6, .inl (pj_v6 60 150 5 8 40 2)) := (b1 1 (by decide)).trans (by rw [pj_up_ap, if_neg (by decide)]; exact g1)
  obtain ⟨A2, a2, b2, e2⟩ := c_uinit_14 (S := S + 166) (H := pj_up (pj_up A1 4 (.inl (5, [.ref 5, .null, .null, .null, .null, .int 0, .null, .null]))) 14 (.inl (4, [.null, .null, .null, .null, .null, .null, .null, .int 0, .int 0, .int 0, .int 0]))) (by rw [pj_up_ap, if_neg (by decide), pj_up_ap, if_neg (by decide)]; exact o1) (by rw [pj_up_ap, if_pos rfl])
  have v2 : A2 4 = .inl (5, [.ref 5, .null, .null, .null, .null, .int 0, .null, .null]) := (b2 4 (by decide)).trans (by rw [pj_up_ap, if_neg (by decide), pj_up_ap, if_pos rfl])
  have o2 : A2 1 = .inr (4, 6, .inl (pj_v6 60 150 5 8 40 2)) := (b2 1 (by decide)).trans (by rw [pj_up_ap, if_neg (by decide), pj_up_ap, if_neg (by decide)]; exact o1)
  obtain ⟨A3, a3, b3, e3⟩ := c_tinit (S := S + 324) (H := pj_up (pj_up A2 4 (.inl (5, [.ref 5, .ref 14, .null, .null, .null, .int 0, .null, .null]))) 23 (.inl (3, [.null, .null, .null, .null, .null, .null, .int 0, .int 0, .int 0, .int 0, .int 0, .int 0, .int 0, .int 0]))) (by rw [pj_up_ap, if_pos rfl])
  have v3 : A3 4 = .inl (5, [.ref 5, .ref 14, .null, .null, .null, .int 0, .null, .null]) := (b3 4 (by decide)).trans (by rw [pj_up_ap, if_neg (by decide), pj_up_ap, if_pos rfl])
  have o3 : A3 1 = .inr (4, 6, .inl (pj_v6 60 150 5 8 40 2)) := (b3 1 (by decide)).trans (by rw [pj_up_ap, if_neg (by decide), pj_up_ap, if_neg (by decide)]; exact o2)
  obtain ⟨A4, a4, b4, e4⟩ := c_pinit (S := S + 345) (H := pj_up (pj_up A3 4 (.inl (5, [.ref 5, .ref 14, .ref 23, .null, .null, .int 0, .null, .null]))) 30 (.inl (0, [.null, .null, .int 0]))) (by rw [pj_up_ap, if_pos rfl])
  have v4 : A4 4 = .inl (5, [.ref 5, .ref 14, .ref 23, .null, .null, .int 0, .null, .null]) := (b4 4 (by decide)).trans (by rw [pj_up_ap, if_neg (by decide), pj_up_ap, if_pos rfl])
  have o4 : A4 1 = .inr (4, 6, .inl (pj_v6 60 150 5 8 40 2)) := (b4 1 (by decide)).trans (by rw [pj_up_ap, if_neg (by decide), pj_up_ap, if_neg (by decide)]; exact o3)
  obtain ⟨A5, ⟨q5, p5, k0, k1, k2, k3, k4, k5⟩, ⟨u0, u1, u2, u3, u4, u5⟩, b5, e5⟩ := c_newUnits_34 (S := S + 434) (H := pj_up A4 4 (.inl (5, [.ref 5, .ref 14, .ref 23, .ref 30, .null, .int 0, .null, .null]))) (by rw [pj_up_ap, if_neg (by decide)]; exact o4)
  have v5 : A5 4 = .inl (5, [.ref 5, .ref 14, .ref 23, .ref 30, .null, .int 0, .null, .null]) := (b5 4 (by decide)).trans (by rw [pj_up_ap, if_pos rfl])
  have o5 : A5 1 = .inr (4, 6, .inl (pj_v6 60 150 5 8 40 2)) := (b5 1 (by decide)).trans (by rw [pj_up_ap, if_neg (by decide)]; exact o4)
  obtain ⟨A6, ⟨q6, p6, m0, m1⟩, ⟨s0, s1⟩, b6, e6⟩ := c_newUnits_89 (S := S + 1370) (H := pj_up A5 4 (.inl (5, [.ref 5, .ref 14, .ref 23, .ref 30, .ref 34, .int 0, .null, .null]))) (by rw [pj_up_ap, if_neg (by decide)]; exact o5)
  have v6 : A6 4 = .inl (5, [.ref 5, .ref 14, .ref 23, .ref 30, .ref 34, .int 0, .null, .null]) := (b6 4 (by decide)).trans (by rw [pj_up_ap, if_pos rfl])
  have f6 : ∀ j, j ≠ 4 → j ≠ 108 → (pj_up (pj_up (pj_up A6 4 (.inl (5, [.ref 5, .ref 14, .ref 23, .ref 30, .ref 34, .int 0, .ref 89, .null]))) 108 (.inr (2, 2, .inl (fun _ => 0)))) 4 (.inl (5, [.ref 5, .ref 14, .ref 23, .ref 30, .ref 34, .int 0, .ref 89, .ref 108]))) j = A6 j := fun j x y => by rw [pj_up_ap, if_neg x, pj_up_ap, if_neg y, pj_up_ap, if_neg x]
  have f5 : ∀ j, j ≠ 4 → j < 89 → (pj_up (pj_up (pj_up A6 4 (.inl (5, [.ref 5, .ref 14, .ref 23, .ref 30, .ref 34, .int 0, .ref 89, .null]))) 108 (.inr (2, 2, .inl (fun _ => 0)))) 4 (.inl (5, [.ref 5, .ref 14, .ref 23, .ref 30, .ref 34, .int 0, .ref 89, .ref 108]))) j = A5 j := fun j x y => (f6 j x (by omega)).trans ((b6 j (by omega)).trans (by rw [pj_up_ap, if_neg x]))
  have f4 : ∀ j, j ≠ 4 → j < 34 → (pj_up (pj_up (pj_up A6 4 (.inl (5, [.ref 5, .ref 14, .ref 23, .ref 30, .ref 34, .int 0, .ref 89, .null]))) 108 (.inr (2, 2, .inl (fun _ => 0)))) 4 (.inl (5, [.ref 5, .ref 14, .ref 23, .ref 30, .ref 34, .int 0, .ref 89, .ref 108]))) j = A4 j := fun j x y => (f5 j x (by omega)).trans ((b5 j (by omega)).trans (by rw [pj_up_ap, if_neg x]))
  have f3 : ∀ j, j ≠ 4 → j < 30 → (pj_up (pj_up (pj_up A6 4 (.inl (5, [.ref 5, .ref 14, .ref 23, .ref 30, .ref 34, .int 0, .ref 89, .null]))) 108 (.inr (2, 2, .inl (fun _ => 0)))) 4 (.inl (5, [.ref 5, .ref 14, .ref 23, .ref 30, .ref 34, .int 0, .ref 89, .ref 108]))) j = A3 j := fun j x y => (f4 j x (by omega)).trans ((b4 j (by omega)).trans (by rw [pj_up_ap, if_neg (by omega), pj_up_ap, if_neg x]))
  have f2 : ∀ j, j ≠ 4 → j < 23 → (pj_up (pj_up (pj_up A6 4 (.inl (5, [.ref 5, .ref 14, .ref 23, .ref 30, .ref 34, .int 0, .ref 89, .null]))) 108 (.inr (2, 2, .inl (fun _ => 0)))) 4 (.inl (5, [.ref 5, .ref 14, .ref 23, .ref 30, .ref 34, .int 0, .ref 89, .ref 108]))) j = A2 j := fun j x y => (f3 j x (by omega)).trans ((b3 j (by omega)).trans (by rw [pj_up_ap, if_neg (by omega), pj_up_ap, if_neg x]))
  have f1 : ∀ j, j ≠ 4 → j < 14 → (pj_up (pj_up (pj_up A6 4 (.inl (5, [.ref 5, .ref 14, .ref 23, .ref 30, .ref 34, .int 0, .ref 89, .null]))) 108 (.inr (2, 2, .inl (fun _ => 0)))) 4 (.inl (5, [.ref 5, .ref 14, .ref 23, .ref 30, .ref 34, .int 0, .ref 89, .ref 108]))) j = A1 j := fun j x y => (f2 j x (by omega)).trans ((b2 j (by omega)).trans (by rw [pj_up_ap, if_neg (by omega), pj_up_ap, if_neg x]))
  have f0 : ∀ j, j < 4 → (pj_up (pj_up (pj_up A6 4 (.inl (5, [.ref 5, .ref 14, .ref 23, .ref 30, .ref 34, .int 0, .ref 89, .null]))) 108 (.inr (2, 2, .inl (fun _ => 0)))) 4 (.inl (5, [.ref 5, .ref 14, .ref 23, .ref 30, .ref 34, .int 0, .ref 89, .ref 108]))) j = H j := fun j x => (f1 j (by omega) (by omega)).trans ((b1 j (by omega)).trans (by rw [pj_up_ap, if_neg (by omega)]))
  refine ⟨pj_up (pj_up (pj_up A6 4 (.inl (5, [.ref 5, .ref 14, .ref 23, .ref 30, .ref 34, .int 0, .ref 89, .null]))) 108 (.inr (2, 2, .inl (fun _ => 0)))) 4 (.inl (5, [.ref 5, .ref 14, .ref 23, .ref 30, .ref 34, .int 0, .ref 89, .ref 108])), ⟨⟨(f0 2 (by decide)).trans g2.1, (f0 3 (by decide)).trans g2.2⟩, ?_, a1.frame (fun i hi => f1 _ (by omega) (by omega)), ⟨⟨sp_r0, a2.frame (fun i hi => f2 _ (by omega) (by omega))⟩, a3.frame (fun i hi => f3 _ (by omega) (by omega))⟩, a4.frame (fun j x y => f4 j (by omega) (by omega)), ?_, ?_⟩, ?_, ?_⟩
  · rw [pj_up_ap, if_pos rfl]
    rfl
  · refine ⟨q5, fun i => 35 + 9 * i, (f5 34 (by decide) (by decide)).trans p5, fun i hi => ?_, fun i hi => ?_, fun i j hi hj hij => ?_, fun i hi => ?_⟩
    · have : i = 0 ∨ i = 1 ∨ i = 2 ∨ i = 3 ∨ i = 4 ∨ i = 5 := by omega
      rcases this with e | e | e | e | e | e <;> subst e <;> assumption
    · show 35 ≤ 35 + 9 * i ∧ 35 + 9 * i + 9 ≤ 89
      omega
    · show 35 + 9 * i + 9 ≤ 35 + 9 * j ∨ 35 + 9 * j + 9 ≤ 35 + 9 * i
      omega
    · refine ⟨sp_r0, ?_, fun hlt => absurd hlt (Nat.not_lt_zero _)⟩
      have : i = 0 ∨ i = 1 ∨ i = 2 ∨ i = 3 ∨ i = 4 ∨ i = 5 := by omega
      rcases this with e | e | e | e | e | e <;> subst e
      · exact u0.frame (fun k hk => f5 _ (by omega) (by omega))
      · exact u1.frame (fun k hk => f5 _ (by omega) (by omega))
      · exact u2.frame (fun k hk => f5 _ (by omega) (by omega))
      · exact u3.frame (fun k hk => f5 _ (by omega) (by omega))
      · exact u4.frame (fun k hk => f5 _ (by omega) (by omega))
      · exact u5.frame (fun k hk => f5 _ (by omega) (by omega))
  · refine ⟨⟨q6, (f6 89 (by decide) (by decide)).trans p6, m0, m1⟩, ⟨sp_r0, s0.frame (fun k hk => f6 _ (by omega) (by omega)), fun w => absurd w (by decide : ¬ (0 : Int32) = 1)⟩, ⟨sp_r0, s1.frame (fun k hk => f6 _ (by omega) (by omega)), fun w => absurd w (by decide : ¬ (0 : Int32) = 1)⟩, ?_⟩
    rw [pj_up_ap, if_neg (by decide), pj_up_ap, if_pos rfl]
    rfl
  · intro j hj
    by_cases c : j < 4
    · exact f0 j c
    · rw [f6 j (by omega) (by omega), b6 j (by omega), pj_up_ap, if_neg (by omega), b5 j (by omega), pj_up_ap, if_neg (by omega), b4 j (by omega), pj_up_ap, if_neg (by omega), pj_up_ap, if_neg (by omega), b3 j (by omega), pj_up_ap, if_neg (by omega), pj_up_ap, if_neg (by omega), b2 j (by omega), pj_up_ap, if_neg (by omega), pj_up_ap, if_neg (by omega), b1 j (by omega), pj_up_ap, if_neg (by omega)]
  · simp (disch := first | assumption | exact pj_long_i | exact pj_long_r | exact pj_long_n | decide) only [x0_0, x0_1, x0_4, x0_5, x0_8, x0_8i, simprocAttr, pj_then_s, pj_pv_s, pj_pi_s, pj_set_s, if_true, if_false, not_true_eq_false, not_false_eq_true, pj_up_up, pj_so110_109, pj_so111_109, pj_so112_109, pj_so113_109, pj_so114_109, pj_so115_109, pj_so116_109, pj_so117_109, pj_so111_110, pj_so112_110, pj_so113_110, pj_so114_110, pj_so115_110, pj_so116_110, pj_so117_110, pj_so112_111, pj_so113_111, pj_so114_111, pj_so115_111, pj_so116_111, pj_so117_111, pj_so113_112, pj_so114_112, pj_so115_112, pj_so116_112, pj_so117_112, pj_so114_113, pj_so115_113, pj_so116_113, pj_so117_113, pj_so115_114, pj_so116_114, pj_so117_114, pj_so116_115, pj_so117_115, pj_so117_116, pj_up_ap, pj_upd_ap, pj_a3_0, pj_a3_1, pj_a3_2, pj_a3_u0, pj_a3_u1, pj_a3_u2, pj_g4_0, pj_g4_1, pj_g4_2, pj_g4_3, pj_g4_4]
    refine e0_9 rfl e1 ?_
    simp (disch := first | assumption | exact pj_long_i | exact pj_long_r | exact pj_long_n | decide) only [x0_12, x0_15, x0_16, x0_19, x0_19i, simprocAttr, pj_then_s, pj_pv_s, pj_pi_s, pj_set_s, if_true, if_false, not_true_eq_false, not_false_eq_true, pj_up_up, pj_so110_109, pj_so111_109, pj_so112_109, pj_so113_109, pj_so114_109, pj_so115_109, pj_so116_109, pj_so117_109, pj_so111_110, pj_so112_110, pj_so113_110, pj_so114_110, pj_so115_110, pj_so116_110, pj_so117_110, pj_so112_111, pj_so113_111, pj_so114_111, pj_so115_111, pj_so116_111, pj_so117_111, pj_so113_112, pj_so114_112, pj_so115_112, pj_so116_112, pj_so117_112, pj_so114_113, pj_so115_113, pj_so116_113, pj_so117_113, pj_so115_114, pj_so116_114, pj_so117_114, pj_so116_115, pj_so117_115, pj_so117_116, pj_up_ap, pj_upd_ap, pj_a3_0, pj_a3_1, pj_a3_2, pj_a3_u0, pj_a3_u1, pj_a3_u2, pj_s5_0, v1]
    refine e0_20 rfl e2 ?_
    simp (disch := first | assumption | exact pj_long_i | exact pj_long_r | exact pj_long_n | decide) only [x0_23, x0_26, x0_27, x0_30, x0_30i, simprocAttr, pj_then_s, pj_pv_s, pj_pi_s, pj_set_s, if_true, if_false, not_true_eq_false, not_false_eq_true, pj_up_up, pj_so110_109, pj_so111_109, pj_so112_109, pj_so113_109, pj_so114_109, pj_so115_109, pj_so116_109, pj_so117_109, pj_so111_110, pj_so112_110, pj_so113_110, pj_so114_110, pj_so115_110, pj_so116_110, pj_so117_110, pj_so112_111, pj_so113_111, pj_so114_111, pj_so115_111, pj_so116_111, pj_so117_111, pj_so113_112, pj_so114_112, pj_so115_112, pj_so116_112, pj_so117_112, pj_so114_113, pj_so115_113, pj_so116_113, pj_so117_113, pj_so115_114, pj_so116_114, pj_so117_114, pj_so116_115, pj_so117_115, pj_so117_116, pj_up_ap, pj_upd_ap, pj_a3_0, pj_a3_1, pj_a3_2, pj_a3_u0, pj_a3_u1, pj_a3_u2, pj_s5_1, v2]
    refine e0_31 rfl e3 ?_
    simp (disch := first | assumption | exact pj_long_i | exact pj_long_r | exact pj_long_n | decide) only [x0_34, x0_37, x0_38, x0_41, x0_41i, simprocAttr, pj_then_s, pj_pv_s, pj_pi_s, pj_set_s, if_true, if_false, not_true_eq_false, not_false_eq_true, pj_up_up, pj_so110_109, pj_so111_109, pj_so112_109, pj_so113_109, pj_so114_109, pj_so115_109, pj_so116_109, pj_so117_109, pj_so111_110, pj_so112_110, pj_so113_110, pj_so114_110, pj_so115_110, pj_so116_110, pj_so117_110, pj_so112_111, pj_so113_111, pj_so114_111, pj_so115_111, pj_so116_111, pj_so117_111, pj_so113_112, pj_so114_112, pj_so115_112, pj_so116_112, pj_so117_112, pj_so114_113, pj_so115_113, pj_so116_113, pj_so117_113, pj_so115_114, pj_so116_114, pj_so117_114, pj_so116_115, pj_so117_115, pj_so117_116, pj_up_ap, pj_upd_ap, pj_a3_0, pj_a3_1, pj_a3_2, pj_a3_u0, pj_a3_u1, pj_a3_u2, pj_s5_2, v3]
    refine e0_42 rfl e4 ?_
    simp (disch := first | assumption | exact pj_long_i | exact pj_long_r | exact pj_long_n | decide) only [x0_45, x0_48, x0_49, simprocAttr, pj_then_s, pj_pv_s, pj_pi_s, pj_set_s, if_true, if_false, not_true_eq_false, not_false_eq_true, pj_up_up, pj_so110_109, pj_so111_109, pj_so112_109, pj_so113_109, pj_so114_109, pj_so115_109, pj_so116_109, pj_so117_109, pj_so111_110, pj_so112_110, pj_so113_110, pj_so114_110, pj_so115_110, pj_so116_110, pj_so117_110, pj_so112_111, pj_so113_111, pj_so114_111, pj_so115_111, pj_so116_111, pj_so117_111, pj_so113_112, pj_so114_112, pj_so115_112, pj_so116_112, pj_so117_112, pj_so114_113, pj_so115_113, pj_so116_113, pj_so117_113, pj_so115_114, pj_so116_114, pj_so117_114, pj_so116_115, pj_so117_115, pj_so117_116, pj_up_ap, pj_upd_ap, pj_a3_0, pj_a3_1, pj_a3_2, pj_a3_u0, pj_a3_u1, pj_a3_u2, pj_s5_3, v4]
    refine e0_51 rfl e5 ?_
    simp (disch := first | assumption | exact pj_long_i | exact pj_long_r | exact pj_long_n | decide) only [x0_54, x0_57, x0_58, simprocAttr, pj_then_s, pj_pv_s, pj_pi_s, pj_set_s, if_true, if_false, not_true_eq_false, not_false_eq_true, pj_up_up, pj_so110_109, pj_so111_109, pj_so112_109, pj_so113_109, pj_so114_109, pj_so115_109, pj_so116_109, pj_so117_109, pj_so111_110, pj_so112_110, pj_so113_110, pj_so114_110, pj_so115_110, pj_so116_110, pj_so117_110, pj_so112_111, pj_so113_111, pj_so114_111, pj_so115_111, pj_so116_111, pj_so117_111, pj_so113_112, pj_so114_112, pj_so115_112, pj_so116_112, pj_so117_112, pj_so114_113, pj_so115_113, pj_so116_113, pj_so117_113, pj_so115_114, pj_so116_114, pj_so117_114, pj_so116_115, pj_so117_115, pj_so117_116, pj_up_ap, pj_upd_ap, pj_a3_0, pj_a3_1, pj_a3_2, pj_a3_u0, pj_a3_u1, pj_a3_u2, pj_s5_4, v5]
    refine e0_59 rfl e6 ?_
    simp (disch := first | assumption | exact pj_long_i | exact pj_long_r | exact pj_long_n | decide) only [x0_62, x0_65, x0_66, x0_67, x0_69, simprocAttr, pj_then_s, pj_pv_s, pj_pi_s, pj_set_s, if_true, if_false, not_true_eq_false, not_false_eq_true, pj_up_up, pj_so110_109, pj_so111_109, pj_so112_109, pj_so113_109, pj_so114_109, pj_so115_109, pj_so116_109, pj_so117_109, pj_so111_110, pj_so112_110, pj_so113_110, pj_so114_110, pj_so115_110, pj_so116_110, pj_so117_110, pj_so112_111, pj_so113_111, pj_so114_111, pj_so115_111, pj_so116_111, pj_so117_111, pj_so113_112, pj_so114_112, pj_so115_112, pj_so116_112, pj_so117_112, pj_so114_113, pj_so115_113, pj_so116_113, pj_so117_113, pj_so115_114, pj_so116_114, pj_so117_114, pj_so116_115, pj_so117_115, pj_so117_116, pj_up_ap, pj_upd_ap, pj_a3_0, pj_a3_1, pj_a3_2, pj_a3_u0, pj_a3_u1, pj_a3_u2, pj_s5_6, pj_s5_7, v6, x0_67 (x := 2) (n' := 2) (by decide) rfl (by decide)]
    exact t0_72
end T82
