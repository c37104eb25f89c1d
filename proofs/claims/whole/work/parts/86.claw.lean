/-! THE FIRST STATE OF BOTH -/
def sp_x0 : pj_Sg := (sp_r0, 0, fun _ _ => 0, fun _ _ => 0, fun _ => 0, 0, fun _ => 0)
theorem sp_x0_in : pj_In sp_x0 := by
  refine ⟨⟨0, by decide, ?_⟩, by decide, by decide, fun i hi => absurd hi (Nat.not_lt_zero _), fun i hi => Or.inl rfl⟩
  refine ⟨fun j hj => ?_, ⟨0, by decide, rfl⟩, rfl, fun k hk => ?_, fun k hk => ?_, (by decide : (0 : Int32) ≤ 0), (by decide : (0 : Int32) ≤ 5), fun k hk => ?_, fun k hk => ?_, Or.inl rfl⟩
  · show sp_r0 j = 0
    unfold sp_r0
    simp only [pj_upd_ap]
    repeat rw [if_neg (by omega)]
  · have : k = 0 ∨ k = 1 ∨ k = 2 := by omega
    rcases this with e | e | e <;> subst e <;> exact Or.inr rfl
  · have : k = 0 ∨ k = 1 ∨ k = 2 := by omega
    rcases this with e | e | e <;> subst e <;> exact Or.inl rfl
  · have : k = 0 ∨ k = 1 ∨ k = 2 := by omega
    rcases this with e | e | e <;> subst e <;> exact ⟨0, Nat.le_refl _, rfl⟩
  · have : k = 0 ∨ k = 1 ∨ k = 2 := by omega
    rcases this with e | e | e <;> subst e <;> exact ⟨(by decide : (-500 : Int32) ≤ 0), (by decide : (0 : Int32) ≤ 500)⟩
section T82
variable {S : Nat} {H : pj_Heap}
theorem c_vinit (g1 : H 1 = .inr (4, 6, .inl (pj_v6 60 150 5 8 40 2))) (g2 : pj_C0 H) (h : H 4 = .inl (5, [.null, .null, .null, .null, .null, .int 0, .null, .null])) : ∃ H', pj_C H' sp_x0 ∧ (∀ j, j < 4 ∨ 108 < j → H' j = H j) ∧ pj_Ends 0 (0, [some (.ref 4)], [], (5, S, H)) (none, (109, S + 1684, H')) := by
  obtain ⟨A1, a1, b1, e1⟩ := c_uinit_5 (S := S + 11) (H := pj_up H 5 (.inl (4, [.null, .null, .null, .null, .null, .null, .null, .int 0, .int 0, .int 0, .int 0]))) (by rw [pj_up_ap, if_neg (by decide)]; exact g1) (by rw [pj_up_ap, if_pos rfl])
  have v1 : A1 4 = .inl (5, [.null, .null, .null, .null, .null, .int 0, .null, .null]) := (b1 4 (by decide)).trans (by rw [pj_up_ap, if_neg (by decide)]; exact h)
  have o1 : A1 1 = .inr (4, 6, .inl (pj_v6 60 150 5 8 40 2)) := (b1 1 (by decide)).trans (by rw [pj_up_ap, if_neg (by decide)]; exact g1)
  obtain ⟨A2, a2, b2, e2⟩ := c_uinit_14 (S := S + 166) (H := pj_up (pj_up A1 4 (.inl (5, [.ref 5, .null, .null, .null, .null, .int 0, .null, .null]))) 14 (.inl (4, [.null, .null, .null, .null, .null, .null, .null, .int 0, .int 0, .int 0, .int 0]))) (by rw [pj_up_ap, if_neg (by decide), pj_up_ap, if_neg (by decide)]; exact o1) (by rw [pj_up_ap, if_pos rfl])
  have v2 : A2 4 = .inl (5, [.ref 5, .null, .null, .null, .null, .int 0, .null, .null]) := (b2 4 (by decide)).trans (by rw [pj_up_ap, if_neg (by decide), pj_up_ap, if_pos rfl])
  have o2 : A2 1 = .inr (4, 6, .inl (pj_v6 60 150 5 8 40 2)) := (b2 1 (by decide)).trans (by rw [pj_up_ap, if_neg (by decide), pj_up_ap, if_neg (by decide)]; exact o1)
  obtain ⟨A3, a3, b3, e3⟩ := c_tinit (S := S + 324) (H := pj_up (pj_up A2 4 (.inl (5, [.ref 5, .ref 14, .null, .null, .null, .int 0, .null, .null]))) 23 (.inl (3, [.null, .null, .null, .null, .null, .null, .int 0, .int 0, .int 0, .int 0, .int 0, .int 0, .int 0, .int 0]))) (by rw [pj_up_ap, if_pos rfl])
  have v3 : A3 4 = .inl (5, [.ref 5, .ref 14, .null, .null, .null, .int 0, .null, .null]) := (b3 4 (by decide)).trans (by rw [pj_up_ap, if_neg (by decide), pj_up_ap, if_pos rfl])
  have o3 : A3 1 = .inr (4, 6, .inl (pj_v6 60 150 5 8 40 2)) := (b3 1 (by decide)).trans (by rw [pj_up_ap, if_neg (by decide), pj_up_ap, if_neg (by decide)]; exact o2)
  obtain ⟨A4, a4, b4, e4⟩ := c_pinit (S := S + 345) (H := pj_up (pj_up A3 4 (.inl (5, [.ref 5, .ref 14, .ref 23, .null, .null, .int 0, .null, .null]))) 30 (.inl (0, [.null, .null, .int 0]))) (by rw [pj_up_ap, if_pos rfl])
  have v4 : A4 4 = .inl (5, [.ref 5, .ref 14, .ref 23, .null, .null, .int 0, .null, .null]) := (b4 4 (by decide)).trans (by rw [pj_up_ap, if_neg (by decide), pj_up_ap, if_pos rfl])
  have o4 : A4 1 = .inr (4, 6, .inl (pj_v6 60 150 5 8 40 2)) := (b4 1 (by decide)).trans (by rw [pj_up_ap, if_neg (by decide), pj_up_ap, if_neg (by decide)]; exact o3)
  obtain ⟨A5, ⟨q5, p5, k0, k1, k2, k3, k4, k5⟩, ⟨u0, u1, u2, u3, u4, u5⟩, b5, e5⟩ := c_newUnits_34 (S := S + 434) (H := pj_up A4 4 (.inl (5, [.ref 5, .ref 14, .ref 23, .ref 30, .null, .int 0, .null, .null]))) (by rw [pj_up_ap, if_neg (by decide)]; exact o4)
  have v5 : A5 4 = .inl (5, [.ref 5, .ref 14, .ref 23, .ref 30, .null, .int 0, .null, .null]) := (b5 4 (by decide)).trans (by rw [pj_up_ap, if_pos rfl])
  have o5 : A5 1 = .inr (4, 6, .inl (pj_v6 60 150 5 8 40 2)) := (b5 1 (by decide)).trans (by rw [pj_up_ap, if_neg (by decide)]; exact o4)
  obtain ⟨A6, ⟨q6, p6, m0, m1⟩, ⟨s0, s1⟩, b6, e6⟩ := c_newUnits_89 (S := S + 1370) (H := pj_up A5 4 (.inl (5, [.ref 5, .ref 14, .ref 23, .ref 30, .ref 34, .int 0, .null, .null]))) (by rw [pj_up_ap, if_neg (by decide)]; exact o5)
  have v6 : A6 4 = .inl (5, [.ref 5, .ref 14, .ref 23, .ref 30, .ref 34, .int 0, .null, .null]) := (b6 4 (by decide)).trans (by rw [pj_up_ap, if_pos rfl])
  have f6 : ∀ j, j ≠ 4 → j ≠ 108 → (pj_up (pj_up (pj_up A6 4 (.inl (5, [.ref 5, .ref 14, .ref 23, .ref 30, .ref 34, .int 0, .ref 89, .null]))) 108 (.inr (2, 2, .inl (fun _ => 0)))) 4 (.inl (5, [.ref 5, .ref 14, .ref 23, .ref 30, .ref 34, .int 0, .ref 89, .ref 108]))) j = A6 j := fun j x y => by rw [pj_up_ap, if_neg x, pj_up_ap, if_neg y, pj_up_ap, if_neg x]
  have f5 : ∀ j, j ≠ 4 → j < 89 → (pj_up (pj_up (pj_up A6 4 (.inl (5, [.ref 5, .ref 14, .ref 23, .ref 30, .ref 34, .int 0, .ref 89, .null]))) 108 (.inr (2, 2, .inl (fun _ => 0)))) 4 (.inl (5, [.ref 5, .ref 14, .ref 23, .ref 30, .ref 34, .int 0, .ref 89, .ref 108]))) j = A5 j := fun j x y => (f6 j x (by omega)).trans ((b6 j (by omega)).trans (by rw [pj_up_ap, if_neg x]))
  have f4 : ∀ j, j ≠ 4 → j < 34 → (pj_up (pj_up (pj_up A6 4 (.inl (5, [.ref 5, .ref 14, .ref 23, .ref 30, .ref 34, .int 0, .ref 89, .null]))) 108 (.inr (2, 2, .inl (fun _ => 0)))) 4 (.inl (5, [.ref 5, .ref 14, .ref 23, .ref 30, .ref 34, .int 0, .ref 89, .ref 108]))) j = A4 j := fun j x y => (f5 j x (by omega)).trans ((b5 j (by omega)).trans (by rw [pj_up_ap, if_neg x]))
  have f3 : ∀ j, j ≠ 4 → j < 30 → (pj_up (pj_up (pj_up A6 4 (.inl (5, [.ref 5, .ref 14, .ref 23, .ref 30, .ref 34, .int 0, .ref 89, .null]))) 108 (.inr (2, 2, .inl (fun _ => 0)))) 4 (.inl (5, [.ref 5, .ref 14, .ref 23, .ref 30, .ref 34, .int 0, .ref 89, .ref 108]))) j = A3 j := fun j x y => (f4 j x (by omega)).trans ((b4 j (by omega)).trans (by rw [pj_up_ap, if_neg (by omega), pj_up_ap, if_neg x]))
  have f2 : ∀ j, j ≠ 4 → j < 23 → (pj_up (pj_up (pj_up A6 4 (.inl (5, [.ref 5, .ref 14, .ref 23, .ref 30, .ref 34, .int 0, .ref 89, .null]))) 108 (.inr (2, 2, .inl (fun _ => 0)))) 4 (.inl (5, [.ref 5, .ref 14, .ref 23, .ref 30, .ref 34, .int 0, .ref 89, .ref 108]))) j = A2 j := fun j x y => (f3 j x (by omega)).trans ((b3 j (by omega)).trans (by rw [pj_up_ap, if_neg (by omega), pj_up_ap, if_neg x]))
  have f1 : ∀ j, j ≠ 4 → j < 14 → (pj_up (pj_up (pj_up A6 4 (.inl (5, [.ref 5, .ref 14, .ref 23, .ref 30, .ref 34, .int 0, .ref 89, .null]))) 108 (.inr (2, 2, .inl (fun _ => 0)))) 4 (.inl (5, [.ref 5, .ref 14, .ref 23, .ref 30, .ref 34, .int 0, .ref 89, .ref 108]))) j = A1 j := fun j x y => (f2 j x (by omega)).trans ((b2 j (by omega)).trans (by rw [pj_up_ap, if_neg (by omega), pj_up_ap, if_neg x]))
  have f0 : ∀ j, j < 4 → (pj_up (pj_up (pj_up A6 4 (.inl (5, [.ref 5, .ref 14, .ref 23, .ref 30, .ref 34, .int 0, .ref 89, .null]))) 108 (.inr (2, 2, .inl (fun _ => 0)))) 4 (.inl (5, [.ref 5, .ref 14, .ref 23, .ref 30, .ref 34, .int 0, .ref 89, .ref 108]))) j = H j := fun j x => (f1 j (by omega) (by omega)).trans ((b1 j (by omega)).trans (by rw [pj_up_ap, if_neg (by omega)]))
  refine ⟨pj_up (pj_up (pj_up A6 4 (.inl (5, [.ref 5, .ref 14, .ref 23, .ref 30, .ref 34, .int 0, .ref 89, .null]))) 108 (.inr (2, 2, .inl (fun _ => 0)))) 4 (.inl (5, [.ref 5, .ref 14, .ref 23, .ref 30, .ref 34, .int 0, .ref 89, .ref 108])), ⟨⟨(f0 2 (by decide)).trans g2.1, (f0 3 (by decide)).trans g2.2⟩, ?_, a1.frame (fun i hi => f1 _ (by omega) (by omega)), ⟨⟨sp_r0, a2.frame (fun i hi => f2 _ (by omega) (by omega))⟩, a3.frame (fun i hi => f3 _ (by omega) (by omega))⟩, a4.frame (fun j x y => f4 j (by omega) (by omega)), ?_, ?_⟩, ?_, ?_⟩
  · rw [pj_up_ap, if_pos rfl]
    rfl
  · refine ⟨q5, fun i => 35 + 9 * i, (f5 34 (by decide) (by decide)).trans p5, fun i hi => ?_, fun i hi => ?_, fun i j hi hj hij => ?_, fun i hi => ?_⟩
    · have : i = 0 ∨ i = 1 ∨ i = 2 ∨ i = 3 ∨ i = 4 ∨ i = 5 := by omega
      rcases this with e | e | e | e | e | e <;> subst e <;> assumption
    · show 35 ≤ 35 + 9 * i ∧ 35 + 9 * i + 9 ≤ 89
      omega
    · show 35 + 9 * i + 9 ≤ 35 + 9 * j ∨ 35 + 9 * j + 9 ≤ 35 + 9 * i
      omega
    · refine ⟨sp_r0, ?_, fun hlt => absurd hlt (Nat.not_lt_zero _)⟩
      have : i = 0 ∨ i = 1 ∨ i = 2 ∨ i = 3 ∨ i = 4 ∨ i = 5 := by omega
      rcases this with e | e | e | e | e | e <;> subst e
      · exact u0.frame (fun k hk => f5 _ (by omega) (by omega))
      · exact u1.frame (fun k hk => f5 _ (by omega) (by omega))
      · exact u2.frame (fun k hk => f5 _ (by omega) (by omega))
      · exact u3.frame (fun k hk => f5 _ (by omega) (by omega))
      · exact u4.frame (fun k hk => f5 _ (by omega) (by omega))
      · exact u5.frame (fun k hk => f5 _ (by omega) (by omega))
  · refine ⟨⟨q6, (f6 89 (by decide) (by decide)).trans p6, m0, m1⟩, ⟨sp_r0, s0.frame (fun k hk => f6 _ (by omega) (by omega)), fun w => absurd w (by decide : ¬ (0 : Int32) = 1)⟩, ⟨sp_r0, s1.frame (fun k hk => f6 _ (by omega) (by omega)), fun w => absurd w (by decide : ¬ (0 : Int32) = 1)⟩, ?_⟩
    rw [pj_up_ap, if_neg (by decide), pj_up_ap, if_pos rfl]
    rfl
  · intro j hj
    by_cases c : j < 4
    · exact f0 j c
    · rw [f6 j (by omega) (by omega), b6 j (by omega), pj_up_ap, if_neg (by omega), b5 j (by omega), pj_up_ap, if_neg (by omega), b4 j (by omega), pj_up_ap, if_neg (by omega), pj_up_ap, if_neg (by omega), b3 j (by omega), pj_up_ap, if_neg (by omega), pj_up_ap, if_neg (by omega), b2 j (by omega), pj_up_ap, if_neg (by omega), pj_up_ap, if_neg (by omega), b1 j (by omega), pj_up_ap, if_neg (by omega)]
  · simp (disch := first | assumption | exact pj_long_i | exact pj_long_r | exact pj_long_n | decide) only [x0_0, x0_1, x0_4, x0_5, x0_8, x0_8i, simprocAttr, pj_then_s, pj_pv_s, pj_pi_s, pj_set_s, if_true, if_false, not_true_eq_false, not_false_eq_true, pj_up_up, pj_so110_109, pj_so111_109, pj_so112_109, pj_so113_109, pj_so114_109, pj_so115_109, pj_so116_109, pj_so117_109, pj_so111_110, pj_so112_110, pj_so113_110, pj_so114_110, pj_so115_110, pj_so116_110, pj_so117_110, pj_so112_111, pj_so113_111, pj_so114_111, pj_so115_111, pj_so116_111, pj_so117_111, pj_so113_112, pj_so114_112, pj_so115_112, pj_so116_112, pj_so117_112, pj_so114_113, pj_so115_113, pj_so116_113, pj_so117_113, pj_so115_114, pj_so116_114, pj_so117_114, pj_so116_115, pj_so117_115, pj_so117_116, pj_up_ap, pj_upd_ap, pj_a3_0, pj_a3_1, pj_a3_2, pj_a3_u0, pj_a3_u1, pj_a3_u2, pj_g4_0, pj_g4_1, pj_g4_2, pj_g4_3, pj_g4_4]
    refine e0_9 rfl e1 ?_
    simp (disch := first | assumption | exact pj_long_i | exact pj_long_r | exact pj_long_n | decide) only [x0_12, x0_15, x0_16, x0_19, x0_19i, simprocAttr, pj_then_s, pj_pv_s, pj_pi_s, pj_set_s, if_true, if_false, not_true_eq_false, not_false_eq_true, pj_up_up, pj_so110_109, pj_so111_109, pj_so112_109, pj_so113_109, pj_so114_109, pj_so115_109, pj_so116_109, pj_so117_109, pj_so111_110, pj_so112_110, pj_so113_110, pj_so114_110, pj_so115_110, pj_so116_110, pj_so117_110, pj_so112_111, pj_so113_111, pj_so114_111, pj_so115_111, pj_so116_111, pj_so117_111, pj_so113_112, pj_so114_112, pj_so115_112, pj_so116_112, pj_so117_112, pj_so114_113, pj_so115_113, pj_so116_113, pj_so117_113, pj_so115_114, pj_so116_114, pj_so117_114, pj_so116_115, pj_so117_115, pj_so117_116, pj_up_ap, pj_upd_ap, pj_a3_0, pj_a3_1, pj_a3_2, pj_a3_u0, pj_a3_u1, pj_a3_u2, pj_s5_0, v1]
    refine e0_20 rfl e2 ?_
    simp (disch := first | assumption | exact pj_long_i | exact pj_long_r | exact pj_long_n | decide) only [x0_23, x0_26, x0_27, x0_30, x0_30i, simprocAttr, pj_then_s, pj_pv_s, pj_pi_s, pj_set_s, if_true, if_false, not_true_eq_false, not_false_eq_true, pj_up_up, pj_so110_109, pj_so111_109, pj_so112_109, pj_so113_109, pj_so114_109, pj_so115_109, pj_so116_109, pj_so117_109, pj_so111_110, pj_so112_110, pj_so113_110, pj_so114_110, pj_so115_110, pj_so116_110, pj_so117_110, pj_so112_111, pj_so113_111, pj_so114_111, pj_so115_111, pj_so116_111, pj_so117_111, pj_so113_112, pj_so114_112, pj_so115_112, pj_so116_112, pj_so117_112, pj_so114_113, pj_so115_113, pj_so116_113, pj_so117_113, pj_so115_114, pj_so116_114, pj_so117_114, pj_so116_115, pj_so117_115, pj_so117_116, pj_up_ap, pj_upd_ap, pj_a3_0, pj_a3_1, pj_a3_2, pj_a3_u0, pj_a3_u1, pj_a3_u2, pj_s5_1, v2]
    refine e0_31 rfl e3 ?_
    simp (disch := first | assumption | exact pj_long_i | exact pj_long_r | exact pj_long_n | decide) only [x0_34, x0_37, x0_38, x0_41, x0_41i, simprocAttr, pj_then_s, pj_pv_s, pj_pi_s, pj_set_s, if_true, if_false, not_true_eq_false, not_false_eq_true, pj_up_up, pj_so110_109, pj_so111_109, pj_so112_109, pj_so113_109, pj_so114_109, pj_so115_109, pj_so116_109, pj_so117_109, pj_so111_110, pj_so112_110, pj_so113_110, pj_so114_110, pj_so115_110, pj_so116_110, pj_so117_110, pj_so112_111, pj_so113_111, pj_so114_111, pj_so115_111, pj_so116_111, pj_so117_111, pj_so113_112, pj_so114_112, pj_so115_112, pj_so116_112, pj_so117_112, pj_so114_113, pj_so115_113, pj_so116_113, pj_so117_113, pj_so115_114, pj_so116_114, pj_so117_114, pj_so116_115, pj_so117_115, pj_so117_116, pj_up_ap, pj_upd_ap, pj_a3_0, pj_a3_1, pj_a3_2, pj_a3_u0, pj_a3_u1, pj_a3_u2, pj_s5_2, v3]
    refine e0_42 rfl e4 ?_
    simp (disch := first | assumption | exact pj_long_i | exact pj_long_r | exact pj_long_n | decide) only [x0_45, x0_48, x0_49, simprocAttr, pj_then_s, pj_pv_s, pj_pi_s, pj_set_s, if_true, if_false, not_true_eq_false, not_false_eq_true, pj_up_up, pj_so110_109, pj_so111_109, pj_so112_109, pj_so113_109, pj_so114_109, pj_so115_109, pj_so116_109, pj_so117_109, pj_so111_110, pj_so112_110, pj_so113_110, pj_so114_110, pj_so115_110, pj_so116_110, pj_so117_110, pj_so112_111, pj_so113_111, pj_so114_111, pj_so115_111, pj_so116_111, pj_so117_111, pj_so113_112, pj_so114_112, pj_so115_112, pj_so116_112, pj_so117_112, pj_so114_113, pj_so115_113, pj_so116_113, pj_so117_113, pj_so115_114, pj_so116_114, pj_so117_114, pj_so116_115, pj_so117_115, pj_so117_116, pj_up_ap, pj_upd_ap, pj_a3_0, pj_a3_1, pj_a3_2, pj_a3_u0, pj_a3_u1, pj_a3_u2, pj_s5_3, v4]
    refine e0_51 rfl e5 ?_
    simp (disch := first | assumption | exact pj_long_i | exact pj_long_r | exact pj_long_n | decide) only [x0_54, x0_57, x0_58, simprocAttr, pj_then_s, pj_pv_s, pj_pi_s, pj_set_s, if_true, if_false, not_true_eq_false, not_false_eq_true, pj_up_up, pj_so110_109, pj_so111_109, pj_so112_109, pj_so113_109, pj_so114_109, pj_so115_109, pj_so116_109, pj_so117_109, pj_so111_110, pj_so112_110, pj_so113_110, pj_so114_110, pj_so115_110, pj_so116_110, pj_so117_110, pj_so112_111, pj_so113_111, pj_so114_111, pj_so115_111, pj_so116_111, pj_so117_111, pj_so113_112, pj_so114_112, pj_so115_112, pj_so116_112, pj_so117_112, pj_so114_113, pj_so115_113, pj_so116_113, pj_so117_113, pj_so115_114, pj_so116_114, pj_so117_114, pj_so116_115, pj_so117_115, pj_so117_116, pj_up_ap, pj_upd_ap, pj_a3_0, pj_a3_1, pj_a3_2, pj_a3_u0, pj_a3_u1, pj_a3_u2, pj_s5_4, v5]
    refine e0_59 rfl e6 ?_
    simp (disch := first | assumption | exact pj_long_i | exact pj_long_r | exact pj_long_n | decide) only [x0_62, x0_65, x0_66, x0_67, x0_69, simprocAttr, pj_then_s, pj_pv_s, pj_pi_s, pj_set_s, if_true, if_false, not_true_eq_false, not_false_eq_true, pj_up_up, pj_so110_109, pj_so111_109, pj_so112_109, pj_so113_109, pj_so114_109, pj_so115_109, pj_so116_109, pj_so117_109, pj_so111_110, pj_so112_110, pj_so113_110, pj_so114_110, pj_so115_110, pj_so116_110, pj_so117_110, pj_so112_111, pj_so113_111, pj_so114_111, pj_so115_111, pj_so116_111, pj_so117_111, pj_so113_112, pj_so114_112, pj_so115_112, pj_so116_112, pj_so117_112, pj_so114_113, pj_so115_113, pj_so116_113, pj_so117_113, pj_so115_114, pj_so116_114, pj_so117_114, pj_so116_115, pj_so117_115, pj_so117_116, pj_up_ap, pj_upd_ap, pj_a3_0, pj_a3_1, pj_a3_2, pj_a3_u0, pj_a3_u1, pj_a3_u2, pj_s5_6, pj_s5_7, v6, x0_67 (x := 2) (n' := 2) (by decide) rfl (by decide)]
    exact t0_72
theorem m_init (h : H 109 = .inl (6, [.null, .null, .null, .int 0, .null, .null, .null, .null, .int 0, .int 0, .int 0, .int 0, .null, .int 0, .int 0, .int 0, .int 0, .int 0])) : ∃ H', pj_M H' sp_x0 ∧ (∀ j, j < 109 → H' j = H j) ∧ pj_Ends 73 (0, [some (.ref 109), none], [], (110, S, H)) (none, (118, S + 1608, H')) := by
  have E : ∃ H', (H' 109 = pj_mo 0 0 0 0 0 0 0 0 0 0 ∧ H' 110 = .inr (0, 152, .inl sp_r0) ∧ H' 111 = .inr (0, 152, .inl (fun _ => 0)) ∧ H' 112 = .inr (0, 912, .inl (fun _ => 0)) ∧ H' 113 = .inr (0, 304, .inl (fun _ => 0)) ∧ H' 114 = .inr (0, 2, .inl (fun _ => 0)) ∧ H' 115 = .inr (0, 3, .inl (fun _ => 0)) ∧ H' 116 = .inr (0, 3, .inl (fun _ => 0)) ∧ H' 117 = .inr (0, 80, .inl (fun _ => 0))) ∧ (∀ j, j < 109 → H' j = H j) ∧ pj_Ends 73 (0, [some (.ref 109), none], [], (110, S, H)) (none, (118, S + 1608, H')) := by
    apply Exists.intro
    refine And.intro ?c (And.intro ?f ?e)
    case e =>
      simp (disch := first | assumption | exact pj_long_i | exact pj_long_r | exact pj_long_n | decide) only [x73_0, x73_1, x73_4, x73_5, x73_8, x73_10, x73_13, x73_14, x73_17, x73_19, x73_22, x73_23, x73_26, x73_28, x73_31, x73_32, x73_35, x73_37, x73_40, x73_41, x73_42, x73_44, x73_47, x73_48, x73_49, x73_51, x73_54, x73_55, x73_56, x73_58, x73_61, x73_62, x73_64, x73_66, simprocAttr, pj_then_s, pj_pv_s, pj_pi_s, pj_set_s, if_true, if_false, not_true_eq_false, not_false_eq_true, pj_up_up, pj_so110_109, pj_so111_109, pj_so112_109, pj_so113_109, pj_so114_109, pj_so115_109, pj_so116_109, pj_so117_109, pj_so111_110, pj_so112_110, pj_so113_110, pj_so114_110, pj_so115_110, pj_so116_110, pj_so117_110, pj_so112_111, pj_so113_111, pj_so114_111, pj_so115_111, pj_so116_111, pj_so117_111, pj_so113_112, pj_so114_112, pj_so115_112, pj_so116_112, pj_so117_112, pj_so114_113, pj_so115_113, pj_so116_113, pj_so117_113, pj_so115_114, pj_so116_114, pj_so117_114, pj_so116_115, pj_so117_115, pj_so117_116, pj_up_ap, pj_upd_ap, pj_a3_0, pj_a3_1, pj_a3_2, pj_a3_u0, pj_a3_u1, pj_a3_u2, pj_g4_0, pj_g4_1, pj_g4_2, pj_g4_3, pj_g4_4, pj_s6_0, pj_s6_1, pj_s6_2, pj_s6_4, pj_s6_5, pj_s6_6, pj_s6_7, pj_s6_12, h, x73_8 (x := 152) (n' := 152) (by decide) rfl (by decide), x73_17 (x := 152) (n' := 152) (by decide) rfl (by decide), x73_26 (x := 912) (n' := 912) (by decide) rfl (by decide), x73_35 (x := 304) (n' := 304) (by decide) rfl (by decide), x73_42 (x := 2) (n' := 2) (by decide) rfl (by decide), x73_49 (x := 3) (n' := 3) (by decide) rfl (by decide), x73_56 (x := 3) (n' := 3) (by decide) rfl (by decide), x73_64 (x := 80) (n' := 80) (by decide) rfl (by decide)]
      simp (disch := first | assumption | exact pj_long_i | exact pj_long_r | exact pj_long_n | decide) only [x73_69, x73_70, x73_73, x73_74, x73_76, x73_77, x73_78, x73_81, x73_82, x73_85, x73_86, x73_87, x73_90, x73_91, x73_92, x73_93, x73_94, x73_97, x73_98, x73_100, x73_101, x73_102, x73_105, x73_106, x73_108, x73_109, x73_110, x73_113, x73_114, x73_115, x73_116, x73_117, x73_118, x73_119, x73_120, x73_123, x73_124, x73_127, x73_129, x73_130, x73_131, x73_132, x73_133, x73_134, x73_137, x73_139, x73_140, x73_141, x73_143, x73_144, x73_147, x73_150, x73_151, x73_154, x73_156, x73_158, simprocAttr, pj_then_s, pj_pv_s, pj_pi_s, pj_set_s, if_true, if_false, not_true_eq_false, not_false_eq_true, pj_up_up, pj_so110_109, pj_so111_109, pj_so112_109, pj_so113_109, pj_so114_109, pj_so115_109, pj_so116_109, pj_so117_109, pj_so111_110, pj_so112_110, pj_so113_110, pj_so114_110, pj_so115_110, pj_so116_110, pj_so117_110, pj_so112_111, pj_so113_111, pj_so114_111, pj_so115_111, pj_so116_111, pj_so117_111, pj_so113_112, pj_so114_112, pj_so115_112, pj_so116_112, pj_so117_112, pj_so114_113, pj_so115_113, pj_so116_113, pj_so117_113, pj_so115_114, pj_so116_114, pj_so117_114, pj_so116_115, pj_so117_115, pj_so117_116, pj_up_ap, pj_upd_ap, pj_a3_0, pj_a3_1, pj_a3_2, pj_a3_u0, pj_a3_u1, pj_a3_u2, pj_f6_0, pj_ars_i, pj_long_i, pj_long_r, pj_long_n]
      exact t73_159
    case f =>
      intro j hj
      simp only [pj_up_ap]
      repeat rw [if_neg (by omega)]
    case c =>
      refine ⟨?_, ?_, ?_, ?_, ?_, ?_, ?_, ?_, ?_⟩
      · simp (disch := decide) only [simprocAttr, pj_up_ap, if_true, if_false]
        rfl
      · simp (disch := decide) only [simprocAttr, pj_up_ap, if_true, if_false]
        rfl
      · simp (disch := decide) only [simprocAttr, pj_up_ap, if_true, if_false]
      · simp (disch := decide) only [simprocAttr, pj_up_ap, if_true, if_false]
      · simp (disch := decide) only [simprocAttr, pj_up_ap, if_true, if_false]
      · simp (disch := decide) only [simprocAttr, pj_up_ap, if_true, if_false]
      · simp (disch := decide) only [simprocAttr, pj_up_ap, if_true, if_false]
      · simp (disch := decide) only [simprocAttr, pj_up_ap, if_true, if_false]
      · simp (disch := decide) only [simprocAttr, pj_up_ap, if_true, if_false]
  obtain ⟨H', ⟨h0, h1, h2, h3, h4, h5, h6, h7, h8⟩, hF, hE⟩ := E
  refine ⟨H', ⟨fun _ => 0, fun _ => 0, fun _ => 0, 0, 0, 0, 0, 0, 0, 0, 0, 0, 0, 0, 0, 0, 0, ⟨h0, h1, h2, h3, h4, h5, by rw [h6, pj_a3_z], by rw [h7, pj_a3_z], h8⟩, fun i j hi => absurd hi (Nat.not_lt_zero _), fun i j hi hj w => absurd w (by decide : ¬ (0 : Int32) = 1)⟩, hF, hE⟩
end T82
/-- THE LAW: it ends, it says true, and it stays in its room -/
theorem pj_law {L : Nat} (hL : L ≤ 3072) (xs : Nat → Int32) : pj_LawOK L xs := by
  have z1 : pj_H0 L xs 1 = .inr (4, 6, .inl (pj_v6 60 150 5 8 40 2)) := by
    unfold pj_H0
    rw [if_pos (by decide)]
    rfl
  have z2 : pj_H0 L xs 2 = .inr (4, 6, .inl (pj_v6 1 1 1 2 1 0)) := by
    unfold pj_H0
    rw [if_pos (by decide)]
    rfl
  have z3 : pj_H0 L xs 3 = .inr (4, 6, .inl (pj_v6 2000 2000 50 50 500 20)) := by
    unfold pj_H0
    rw [if_pos (by decide)]
    rfl
  have z0 : pj_H0 L xs 0 = .inr (4, L, .inl xs) := by
    unfold pj_H0
    rw [if_pos (by decide)]
    rfl
  generalize hH : pj_H0 L xs = H at z0 z1 z2 z3
  obtain ⟨A, a1, a2, a3⟩ := c_vinit (S := 8) (H := pj_up H 4 (.inl (5, [.null, .null, .null, .null, .null, .int 0, .null, .null]))) (by rw [pj_up_ap, if_neg (by decide)]; exact z1) ⟨by rw [pj_up_ap, if_neg (by decide)]; exact z2, by rw [pj_up_ap, if_neg (by decide)]; exact z3⟩ (by rw [pj_up_ap, if_pos rfl])
  obtain ⟨B, b1, b2, b3⟩ := m_init (S := 1710) (H := pj_up A 109 (.inl (6, [.null, .null, .null, .int 0, .null, .null, .null, .null, .int 0, .int 0, .int 0, .int 0, .null, .int 0, .int 0, .int 0, .int 0, .int 0]))) (by rw [pj_up_ap, if_pos rfl])
  have hC : pj_C B sp_x0 := a1.frame (fun j hj => (b2 j hj).trans (by rw [pj_up_ap, if_neg (by omega)]))
  have h0 : B 0 = .inr (4, L, .inl xs) := by
    rw [b2 0 (by decide), pj_up_ap, if_neg (by decide), a2 0 (by decide), pj_up_ap, if_neg (by decide)]
    exact z0
  obtain ⟨F, hF⟩ := l_loop (Ln := L) (xs := xs) hL 600 0 118 3318 B sp_x0 (by omega) (by omega) ⟨hC, b1, sp_x0_in, h0⟩
  have e0 : nI (6 * 0) = 0 := rfl
  rw [e0] at hF
  have W : pj_Ends 123 (0, [some (.ref 0), none, none, none], [], (4, 0, H)) (some (.int 1), (118, 3318, F)) := by
    simp (disch := first | assumption | exact pj_long_i | exact pj_long_r | exact pj_long_n | decide) only [x123_0, x123_3, x123_3i, simprocAttr, pj_then_s, pj_pv_s, pj_pi_s, pj_set_s, if_true, if_false, not_true_eq_false, not_false_eq_true, pj_up_up, pj_so110_109, pj_so111_109, pj_so112_109, pj_so113_109, pj_so114_109, pj_so115_109, pj_so116_109, pj_so117_109, pj_so111_110, pj_so112_110, pj_so113_110, pj_so114_110, pj_so115_110, pj_so116_110, pj_so117_110, pj_so112_111, pj_so113_111, pj_so114_111, pj_so115_111, pj_so116_111, pj_so117_111, pj_so113_112, pj_so114_112, pj_so115_112, pj_so116_112, pj_so117_112, pj_so114_113, pj_so115_113, pj_so116_113, pj_so117_113, pj_so115_114, pj_so116_114, pj_so117_114, pj_so116_115, pj_so117_115, pj_so117_116, pj_up_ap, pj_upd_ap, pj_a3_0, pj_a3_1, pj_a3_2, pj_a3_u0, pj_a3_u1, pj_a3_u2]
    refine e123_4 rfl a3 ?_
    simp (disch := first | assumption | exact pj_long_i | exact pj_long_r | exact pj_long_n | decide) only [x123_7, x123_8, x123_11, x123_11i, simprocAttr, pj_then_s, pj_pv_s, pj_pi_s, pj_set_s, if_true, if_false, not_true_eq_false, not_false_eq_true, pj_up_up, pj_so110_109, pj_so111_109, pj_so112_109, pj_so113_109, pj_so114_109, pj_so115_109, pj_so116_109, pj_so117_109, pj_so111_110, pj_so112_110, pj_so113_110, pj_so114_110, pj_so115_110, pj_so116_110, pj_so117_110, pj_so112_111, pj_so113_111, pj_so114_111, pj_so115_111, pj_so116_111, pj_so117_111, pj_so113_112, pj_so114_112, pj_so115_112, pj_so116_112, pj_so117_112, pj_so114_113, pj_so115_113, pj_so116_113, pj_so117_113, pj_so115_114, pj_so116_114, pj_so117_114, pj_so116_115, pj_so117_115, pj_so117_116, pj_up_ap, pj_upd_ap, pj_a3_0, pj_a3_1, pj_a3_2, pj_a3_u0, pj_a3_u1, pj_a3_u2, pj_long_i, pj_long_r, pj_long_n]
    refine e123_12 rfl b3 ?_
    simp (disch := first | assumption | exact pj_long_i | exact pj_long_r | exact pj_long_n | decide) only [x123_15, x123_16, x123_17, simprocAttr, pj_then_s, pj_pv_s, pj_pi_s, pj_set_s, if_true, if_false, not_true_eq_false, not_false_eq_true, pj_up_up, pj_so110_109, pj_so111_109, pj_so112_109, pj_so113_109, pj_so114_109, pj_so115_109, pj_so116_109, pj_so117_109, pj_so111_110, pj_so112_110, pj_so113_110, pj_so114_110, pj_so115_110, pj_so116_110, pj_so117_110, pj_so112_111, pj_so113_111, pj_so114_111, pj_so115_111, pj_so116_111, pj_so117_111, pj_so113_112, pj_so114_112, pj_so115_112, pj_so116_112, pj_so117_112, pj_so114_113, pj_so115_113, pj_so116_113, pj_so117_113, pj_so115_114, pj_so116_114, pj_so117_114, pj_so116_115, pj_so117_115, pj_so117_116, pj_up_ap, pj_upd_ap, pj_a3_0, pj_a3_1, pj_a3_2, pj_a3_u0, pj_a3_u1, pj_a3_u2, pj_long_i, pj_long_r, pj_long_n]
    exact hF
  obtain ⟨n, hn⟩ := W
  unfold pj_LawOK
  rw [hH]
  exact ⟨n, (118, 3318, F), hn, (by decide : 118 ≤ 600004), (by decide : 3318 ≤ 7302250)⟩
