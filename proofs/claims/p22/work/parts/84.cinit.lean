/-! THE FIRST STATE: the class's units -/
def sp_r0 : Nat → Int32 := upd (upd (upd (upd (upd (upd (upd (upd (upd (upd (upd (upd (upd (fun _ => 0) 0 60) 1 150) 2 5) 3 8) 4 40) 5 2) 14 1) 23 (-6)) 15 1) 24 (-6)) 16 1) 25 (-6)) 29 (-6)
theorem pj_a6_z : (fun _ => 0 : Nat → Int32) = pj_a6 0 0 0 0 0 0 := by
  funext j
  unfold pj_a6
  repeat (first | rfl | split)
theorem pj_n120_r0 : (fun _ => 0 : Nat → Int32) = pj_n120 sp_r0 := by
  funext j
  unfold pj_n120 sp_r0
  split
  · simp only [pj_upd_ap]
    repeat rw [if_neg (by omega)]
  · rfl
theorem pj_set0 : upd (upd (upd (upd (upd (upd (fun _ => 0) 0 60) 1 150) 2 5) 3 8) 4 40) 5 2 = pj_a6 60 150 5 8 40 2 := by
  rw [pj_a6_z, pj_a6_u0, pj_a6_u1, pj_a6_u2, pj_a6_u3, pj_a6_u4, pj_a6_u5]
theorem pj_fir0 : upd (upd (upd (fun _ => 0) 0 (-6)) 1 (-6)) 2 (-6) = pj_a3 (-6) (-6) (-6) := by
  rw [pj_a3_z, pj_a3_u0, pj_a3_u1, pj_a3_u2]
section T80
variable {S : Nat} {H : pj_Heap}
theorem c_cinit {N r : Nat} (hr : H r = .inl (2, [.null, .int 0, .int 0])) (h1 : (r = N) = False) : pj_Ends 2 (0, [some (.ref r)], [], (N, S, H)) (none, (N + 1, S + 120, pj_up (pj_up H N (.inr (0, 120, .inl (fun _ => 0)))) r (.inl (2, [.ref N, .int 0, .int (-6)])))) := by
  simp (disch := first | assumption | exact pj_long_i | exact pj_long_r | exact pj_long_n | decide) only [x2_0, x2_1, x2_4, x2_5, x2_7, x2_9, x2_12, x2_13, x2_15, simprocAttr, pj_then_s, pj_pv_s, pj_pi_s, pj_set_s, if_true, if_false, not_true_eq_false, not_false_eq_true, pj_up_up, pj_so110_109, pj_so111_109, pj_so112_109, pj_so113_109, pj_so114_109, pj_so115_109, pj_so116_109, pj_so117_109, pj_so111_110, pj_so112_110, pj_so113_110, pj_so114_110, pj_so115_110, pj_so116_110, pj_so117_110, pj_so112_111, pj_so113_111, pj_so114_111, pj_so115_111, pj_so116_111, pj_so117_111, pj_so113_112, pj_so114_112, pj_so115_112, pj_so116_112, pj_so117_112, pj_so114_113, pj_so115_113, pj_so116_113, pj_so117_113, pj_so115_114, pj_so116_114, pj_so117_114, pj_so116_115, pj_so117_115, pj_so117_116, pj_up_ap, pj_upd_ap, pj_a3_0, pj_a3_1, pj_a3_2, pj_a3_u0, pj_a3_u1, pj_a3_u2, pj_g4_0, pj_g4_1, pj_g4_2, pj_g4_3, pj_g4_4, pj_s2_0, pj_s2_2, hr, h1, x2_7 (x := 120) (n' := 120) (by decide) rfl (by decide)]
  exact t2_18
theorem c_uinit_5 (h1 : H 1 = .inr (4, 6, .inl (pj_v6 60 150 5 8 40 2))) (h : H 5 = .inl (4, [.null, .null, .null, .null, .null, .null, .null, .int 0, .int 0, .int 0, .int 0])) :
    ∃ H', pj_U H' 5 sp_r0 ∧ (∀ j, j < 5 ∨ 13 < j → H' j = H j) ∧ pj_Ends 1 (0, [some (.ref 5), none], [], (6, S, H)) (none, (14, S + 144, H')) := by
  have y0 : pj_v6 60 150 5 8 40 2 0 = 60 := rfl
  have y1 : pj_v6 60 150 5 8 40 2 1 = 150 := rfl
  have y2 : pj_v6 60 150 5 8 40 2 2 = 5 := rfl
  have y3 : pj_v6 60 150 5 8 40 2 3 = 8 := rfl
  have y4 : pj_v6 60 150 5 8 40 2 4 = 40 := rfl
  have y5 : pj_v6 60 150 5 8 40 2 5 = 2 := rfl
  have E : ∃ H', (H' 5 = pj_uc 5 sp_r0 ∧ H' (5 + 1) = .inr (0, 6, .inl (pj_a6 60 150 5 8 40 2)) ∧ H' (5 + 2) = .inr (0, 3, .inl (pj_a3 0 0 0)) ∧ H' (5 + 3) = .inr (0, 3, .inl (pj_a3 0 0 0)) ∧ H' (5 + 4) = .inr (0, 3, .inl (pj_a3 0 0 0)) ∧ H' (5 + 5) = .inr (0, 3, .inl (pj_a3 0 0 0)) ∧ H' (5 + 6) = .inr (0, 3, .inl (pj_a3 (-6) (-6) (-6))) ∧ H' (5 + 7) = .inl (2, [.ref (5 + 8), .int 0, .int (-6)]) ∧ H' (5 + 8) = .inr (0, 120, .inl (pj_n120 sp_r0))) ∧ (∀ j, j < 5 ∨ 13 < j → H' j = H j) ∧ pj_Ends 1 (0, [some (.ref 5), none], [], (6, S, H)) (none, (14, S + 144, H')) := by
    apply Exists.intro
    refine And.intro ?c (And.intro ?f ?e)
    case e =>
      simp (disch := first | assumption | exact pj_long_i | exact pj_long_r | exact pj_long_n | decide) only [x1_0, x1_1, x1_4, x1_5, x1_7, x1_9, x1_12, x1_13, x1_14, x1_16, x1_19, x1_20, x1_21, x1_23, x1_26, x1_27, x1_28, x1_30, x1_33, x1_34, x1_35, x1_37, x1_40, x1_41, x1_42, x1_44, x1_47, x1_48, x1_51, x1_51i, simprocAttr, pj_then_s, pj_pv_s, pj_pi_s, pj_set_s, if_true, if_false, not_true_eq_false, not_false_eq_true, pj_up_up, pj_so110_109, pj_so111_109, pj_so112_109, pj_so113_109, pj_so114_109, pj_so115_109, pj_so116_109, pj_so117_109, pj_so111_110, pj_so112_110, pj_so113_110, pj_so114_110, pj_so115_110, pj_so116_110, pj_so117_110, pj_so112_111, pj_so113_111, pj_so114_111, pj_so115_111, pj_so116_111, pj_so117_111, pj_so113_112, pj_so114_112, pj_so115_112, pj_so116_112, pj_so117_112, pj_so114_113, pj_so115_113, pj_so116_113, pj_so117_113, pj_so115_114, pj_so116_114, pj_so117_114, pj_so116_115, pj_so117_115, pj_so117_116, pj_up_ap, pj_upd_ap, pj_a3_0, pj_a3_1, pj_a3_2, pj_a3_u0, pj_a3_u1, pj_a3_u2, pj_g4_0, pj_g4_1, pj_g4_2, pj_g4_3, pj_g4_4, pj_s4_0, pj_s4_1, pj_s4_2, pj_s4_3, pj_s4_4, pj_s4_5, h, x1_7 (x := 6) (n' := 6) (by decide) rfl (by decide), x1_14 (x := 3) (n' := 3) (by decide) rfl (by decide), x1_21 (x := 3) (n' := 3) (by decide) rfl (by decide), x1_28 (x := 3) (n' := 3) (by decide) rfl (by decide), x1_35 (x := 3) (n' := 3) (by decide) rfl (by decide), x1_42 (x := 3) (n' := 3) (by decide) rfl (by decide)]
      refine e1_52 rfl (c_cinit (by rw [pj_up_ap, if_pos rfl]) (eq_false (by decide))) ?_
      simp (disch := first | assumption | exact pj_long_i | exact pj_long_r | exact pj_long_n | decide) only [x1_55, x1_58, x1_59, x1_61, x1_64, x1_65, x1_66, x1_67, x1_69, x1_72, x1_73, x1_76, x1_77, x1_80, x1_81, x1_82, x1_83, x1_86, x1_89, x1_90, x1_91, x1_92, x1_93, x1_96, x1_97, x1_100, x1_101, x1_103, x1_104, x1_107, simprocAttr, pj_then_s, pj_pv_s, pj_pi_s, pj_set_s, if_true, if_false, not_true_eq_false, not_false_eq_true, pj_up_up, pj_so110_109, pj_so111_109, pj_so112_109, pj_so113_109, pj_so114_109, pj_so115_109, pj_so116_109, pj_so117_109, pj_so111_110, pj_so112_110, pj_so113_110, pj_so114_110, pj_so115_110, pj_so116_110, pj_so117_110, pj_so112_111, pj_so113_111, pj_so114_111, pj_so115_111, pj_so116_111, pj_so117_111, pj_so113_112, pj_so114_112, pj_so115_112, pj_so116_112, pj_so117_112, pj_so114_113, pj_so115_113, pj_so116_113, pj_so117_113, pj_so115_114, pj_so116_114, pj_so117_114, pj_so116_115, pj_so117_115, pj_so117_116, pj_up_ap, pj_upd_ap, pj_a3_0, pj_a3_1, pj_a3_2, pj_a3_u0, pj_a3_u1, pj_a3_u2, pj_s4_6, pj_s4_7, pj_long_i, pj_long_r, pj_long_n, pj_f4_0, pj_arl_i, pj_ars_i, pj_f4_5, h1, pj_arl_r, y0, y1, y2, y3, y4, y5, pj_set0, pj_fir0]
      exact t1_110
    case f =>
      intro j hj
      simp only [pj_up_ap]
      repeat rw [if_neg (by omega)]
    case c =>
      refine ⟨?_, ?_, ?_, ?_, ?_, ?_, ?_, ?_, ?_⟩
      · simp (disch := decide) only [simprocAttr, pj_up_ap, if_true, if_false]
        rfl
      · simp (disch := decide) only [simprocAttr, pj_up_ap, if_true, if_false]
      · simp (disch := decide) only [simprocAttr, pj_up_ap, if_true, if_false, pj_a3_z]
      · simp (disch := decide) only [simprocAttr, pj_up_ap, if_true, if_false, pj_a3_z]
      · simp (disch := decide) only [simprocAttr, pj_up_ap, if_true, if_false, pj_a3_z]
      · simp (disch := decide) only [simprocAttr, pj_up_ap, if_true, if_false, pj_a3_z]
      · simp (disch := decide) only [simprocAttr, pj_up_ap, if_true, if_false]
      · simp (disch := decide) only [simprocAttr, pj_up_ap, if_true, if_false]
      · simp (disch := decide) only [simprocAttr, pj_up_ap, if_true, if_false, pj_n120_r0]
  obtain ⟨H', h2, h3, h4⟩ := E
  exact ⟨H', h2, h3, h4⟩
theorem c_uinit_14 (h1 : H 1 = .inr (4, 6, .inl (pj_v6 60 150 5 8 40 2))) (h : H 14 = .inl (4, [.null, .null, .null, .null, .null, .null, .null, .int 0, .int 0, .int 0, .int 0])) :
    ∃ H', pj_U H' 14 sp_r0 ∧ (∀ j, j < 14 ∨ 22 < j → H' j = H j) ∧ pj_Ends 1 (0, [some (.ref 14), none], [], (15, S, H)) (none, (23, S + 144, H')) := by
  have y0 : pj_v6 60 150 5 8 40 2 0 = 60 := rfl
  have y1 : pj_v6 60 150 5 8 40 2 1 = 150 := rfl
  have y2 : pj_v6 60 150 5 8 40 2 2 = 5 := rfl
  have y3 : pj_v6 60 150 5 8 40 2 3 = 8 := rfl
  have y4 : pj_v6 60 150 5 8 40 2 4 = 40 := rfl
  have y5 : pj_v6 60 150 5 8 40 2 5 = 2 := rfl
  have E : ∃ H', (H' 14 = pj_uc 14 sp_r0 ∧ H' (14 + 1) = .inr (0, 6, .inl (pj_a6 60 150 5 8 40 2)) ∧ H' (14 + 2) = .inr (0, 3, .inl (pj_a3 0 0 0)) ∧ H' (14 + 3) = .inr (0, 3, .inl (pj_a3 0 0 0)) ∧ H' (14 + 4) = .inr (0, 3, .inl (pj_a3 0 0 0)) ∧ H' (14 + 5) = .inr (0, 3, .inl (pj_a3 0 0 0)) ∧ H' (14 + 6) = .inr (0, 3, .inl (pj_a3 (-6) (-6) (-6))) ∧ H' (14 + 7) = .inl (2, [.ref (14 + 8), .int 0, .int (-6)]) ∧ H' (14 + 8) = .inr (0, 120, .inl (pj_n120 sp_r0))) ∧ (∀ j, j < 14 ∨ 22 < j → H' j = H j) ∧ pj_Ends 1 (0, [some (.ref 14), none], [], (15, S, H)) (none, (23, S + 144, H')) := by
    apply Exists.intro
    refine And.intro ?c (And.intro ?f ?e)
    case e =>
      simp (disch := first | assumption | exact pj_long_i | exact pj_long_r | exact pj_long_n | decide) only [x1_0, x1_1, x1_4, x1_5, x1_7, x1_9, x1_12, x1_13, x1_14, x1_16, x1_19, x1_20, x1_21, x1_23, x1_26, x1_27, x1_28, x1_30, x1_33, x1_34, x1_35, x1_37, x1_40, x1_41, x1_42, x1_44, x1_47, x1_48, x1_51, x1_51i, simprocAttr, pj_then_s, pj_pv_s, pj_pi_s, pj_set_s, if_true, if_false, not_true_eq_false, not_false_eq_true, pj_up_up, pj_so110_109, pj_so111_109, pj_so112_109, pj_so113_109, pj_so114_109, pj_so115_109, pj_so116_109, pj_so117_109, pj_so111_110, pj_so112_110, pj_so113_110, pj_so114_110, pj_so115_110, pj_so116_110, pj_so117_110, pj_so112_111, pj_so113_111, pj_so114_111, pj_so115_111, pj_so116_111, pj_so117_111, pj_so113_112, pj_so114_112, pj_so115_112, pj_so116_112, pj_so117_112, pj_so114_113, pj_so115_113, pj_so116_113, pj_so117_113, pj_so115_114, pj_so116_114, pj_so117_114, pj_so116_115, pj_so117_115, pj_so117_116, pj_up_ap, pj_upd_ap, pj_a3_0, pj_a3_1, pj_a3_2, pj_a3_u0, pj_a3_u1, pj_a3_u2, pj_g4_0, pj_g4_1, pj_g4_2, pj_g4_3, pj_g4_4, pj_s4_0, pj_s4_1, pj_s4_2, pj_s4_3, pj_s4_4, pj_s4_5, h, x1_7 (x := 6) (n' := 6) (by decide) rfl (by decide), x1_14 (x := 3) (n' := 3) (by decide) rfl (by decide), x1_21 (x := 3) (n' := 3) (by decide) rfl (by decide), x1_28 (x := 3) (n' := 3) (by decide) rfl (by decide), x1_35 (x := 3) (n' := 3) (by decide) rfl (by decide), x1_42 (x := 3) (n' := 3) (by decide) rfl (by decide)]
      refine e1_52 rfl (c_cinit (by rw [pj_up_ap, if_pos rfl]) (eq_false (by decide))) ?_
      simp (disch := first | assumption | exact pj_long_i | exact pj_long_r | exact pj_long_n | decide) only [x1_55, x1_58, x1_59, x1_61, x1_64, x1_65, x1_66, x1_67, x1_69, x1_72, x1_73, x1_76, x1_77, x1_80, x1_81, x1_82, x1_83, x1_86, x1_89, x1_90, x1_91, x1_92, x1_93, x1_96, x1_97, x1_100, x1_101, x1_103, x1_104, x1_107, simprocAttr, pj_then_s, pj_pv_s, pj_pi_s, pj_set_s, if_true, if_false, not_true_eq_false, not_false_eq_true, pj_up_up, pj_so110_109, pj_so111_109, pj_so112_109, pj_so113_109, pj_so114_109, pj_so115_109, pj_so116_109, pj_so117_109, pj_so111_110, pj_so112_110, pj_so113_110, pj_so114_110, pj_so115_110, pj_so116_110, pj_so117_110, pj_so112_111, pj_so113_111, pj_so114_111, pj_so115_111, pj_so116_111, pj_so117_111, pj_so113_112, pj_so114_112, pj_so115_112, pj_so116_112, pj_so117_112, pj_so114_113, pj_so115_113, pj_so116_113, pj_so117_113, pj_so115_114, pj_so116_114, pj_so117_114, pj_so116_115, pj_so117_115, pj_so117_116, pj_up_ap, pj_upd_ap, pj_a3_0, pj_a3_1, pj_a3_2, pj_a3_u0, pj_a3_u1, pj_a3_u2, pj_s4_6, pj_s4_7, pj_long_i, pj_long_r, pj_long_n, pj_f4_0, pj_arl_i, pj_ars_i, pj_f4_5, h1, pj_arl_r, y0, y1, y2, y3, y4, y5, pj_set0, pj_fir0]
      exact t1_110
    case f =>
      intro j hj
      simp only [pj_up_ap]
      repeat rw [if_neg (by omega)]
    case c =>
      refine ⟨?_, ?_, ?_, ?_, ?_, ?_, ?_, ?_, ?_⟩
      · simp (disch := decide) only [simprocAttr, pj_up_ap, if_true, if_false]
        rfl
      · simp (disch := decide) only [simprocAttr, pj_up_ap, if_true, if_false]
      · simp (disch := decide) only [simprocAttr, pj_up_ap, if_true, if_false, pj_a3_z]
      · simp (disch := decide) only [simprocAttr, pj_up_ap, if_true, if_false, pj_a3_z]
      · simp (disch := decide) only [simprocAttr, pj_up_ap, if_true, if_false, pj_a3_z]
      · simp (disch := decide) only [simprocAttr, pj_up_ap, if_true, if_false, pj_a3_z]
      · simp (disch := decide) only [simprocAttr, pj_up_ap, if_true, if_false]
      · simp (disch := decide) only [simprocAttr, pj_up_ap, if_true, if_false]
      · simp (disch := decide) only [simprocAttr, pj_up_ap, if_true, if_false, pj_n120_r0]
  obtain ⟨H', h2, h3, h4⟩ := E
  exact ⟨H', h2, h3, h4⟩
theorem c_uinit_35 (h1 : H 1 = .inr (4, 6, .inl (pj_v6 60 150 5 8 40 2))) (h : H 35 = .inl (4, [.null, .null, .null, .null, .null, .null, .null, .int 0, .int 0, .int 0, .int 0])) :
    ∃ H', pj_U H' 35 sp_r0 ∧ (∀ j, j < 35 ∨ 43 < j → H' j = H j) ∧ pj_Ends 1 (0, [some (.ref 35), none], [], (36, S, H)) (none, (44, S + 144, H')) := by
  have y0 : pj_v6 60 150 5 8 40 2 0 = 60 := rfl
  have y1 : pj_v6 60 150 5 8 40 2 1 = 150 := rfl
  have y2 : pj_v6 60 150 5 8 40 2 2 = 5 := rfl
  have y3 : pj_v6 60 150 5 8 40 2 3 = 8 := rfl
  have y4 : pj_v6 60 150 5 8 40 2 4 = 40 := rfl
  have y5 : pj_v6 60 150 5 8 40 2 5 = 2 := rfl
  have E : ∃ H', (H' 35 = pj_uc 35 sp_r0 ∧ H' (35 + 1) = .inr (0, 6, .inl (pj_a6 60 150 5 8 40 2)) ∧ H' (35 + 2) = .inr (0, 3, .inl (pj_a3 0 0 0)) ∧ H' (35 + 3) = .inr (0, 3, .inl (pj_a3 0 0 0)) ∧ H' (35 + 4) = .inr (0, 3, .inl (pj_a3 0 0 0)) ∧ H' (35 + 5) = .inr (0, 3, .inl (pj_a3 0 0 0)) ∧ H' (35 + 6) = .inr (0, 3, .inl (pj_a3 (-6) (-6) (-6))) ∧ H' (35 + 7) = .inl (2, [.ref (35 + 8), .int 0, .int (-6)]) ∧ H' (35 + 8) = .inr (0, 120, .inl (pj_n120 sp_r0))) ∧ (∀ j, j < 35 ∨ 43 < j → H' j = H j) ∧ pj_Ends 1 (0, [some (.ref 35), none], [], (36, S, H)) (none, (44, S + 144, H')) := by
    apply Exists.intro
    refine And.intro ?c (And.intro ?f ?e)
    case e =>
      simp (disch := first | assumption | exact pj_long_i | exact pj_long_r | exact pj_long_n | decide) only [x1_0, x1_1, x1_4, x1_5, x1_7, x1_9, x1_12, x1_13, x1_14, x1_16, x1_19, x1_20, x1_21, x1_23, x1_26, x1_27, x1_28, x1_30, x1_33, x1_34, x1_35, x1_37, x1_40, x1_41, x1_42, x1_44, x1_47, x1_48, x1_51, x1_51i, simprocAttr, pj_then_s, pj_pv_s, pj_pi_s, pj_set_s, if_true, if_false, not_true_eq_false, not_false_eq_true, pj_up_up, pj_so110_109, pj_so111_109, pj_so112_109, pj_so113_109, pj_so114_109, pj_so115_109, pj_so116_109, pj_so117_109, pj_so111_110, pj_so112_110, pj_so113_110, pj_so114_110, pj_so115_110, pj_so116_110, pj_so117_110, pj_so112_111, pj_so113_111, pj_so114_111, pj_so115_111, pj_so116_111, pj_so117_111, pj_so113_112, pj_so114_112, pj_so115_112, pj_so116_112, pj_so117_112, pj_so114_113, pj_so115_113, pj_so116_113, pj_so117_113, pj_so115_114, pj_so116_114, pj_so117_114, pj_so116_115, pj_so117_115, pj_so117_116, pj_up_ap, pj_upd_ap, pj_a3_0, pj_a3_1, pj_a3_2, pj_a3_u0, pj_a3_u1, pj_a3_u2, pj_g4_0, pj_g4_1, pj_g4_2, pj_g4_3, pj_g4_4, pj_s4_0, pj_s4_1, pj_s4_2, pj_s4_3, pj_s4_4, pj_s4_5, h, x1_7 (x := 6) (n' := 6) (by decide) rfl (by decide), x1_14 (x := 3) (n' := 3) (by decide) rfl (by decide), x1_21 (x := 3) (n' := 3) (by decide) rfl (by decide), x1_28 (x := 3) (n' := 3) (by decide) rfl (by decide), x1_35 (x := 3) (n' := 3) (by decide) rfl (by decide), x1_42 (x := 3) (n' := 3) (by decide) rfl (by decide)]
      refine e1_52 rfl (c_cinit (by rw [pj_up_ap, if_pos rfl]) (eq_false (by decide))) ?_
      simp (disch := first | assumption | exact pj_long_i | exact pj_long_r | exact pj_long_n | decide) only [x1_55, x1_58, x1_59, x1_61, x1_64, x1_65, x1_66, x1_67, x1_69, x1_72, x1_73, x1_76, x1_77, x1_80, x1_81, x1_82, x1_83, x1_86, x1_89, x1_90, x1_91, x1_92, x1_93, x1_96, x1_97, x1_100, x1_101, x1_103, x1_104, x1_107, simprocAttr, pj_then_s, pj_pv_s, pj_pi_s, pj_set_s, if_true, if_false, not_true_eq_false, not_false_eq_true, pj_up_up, pj_so110_109, pj_so111_109, pj_so112_109, pj_so113_109, pj_so114_109, pj_so115_109, pj_so116_109, pj_so117_109, pj_so111_110, pj_so112_110, pj_so113_110, pj_so114_110, pj_so115_110, pj_so116_110, pj_so117_110, pj_so112_111, pj_so113_111, pj_so114_111, pj_so115_111, pj_so116_111, pj_so117_111, pj_so113_112, pj_so114_112, pj_so115_112, pj_so116_112, pj_so117_112, pj_so114_113, pj_so115_113, pj_so116_113, pj_so117_113, pj_so115_114, pj_so116_114, pj_so117_114, pj_so116_115, pj_so117_115, pj_so117_116, pj_up_ap, pj_upd_ap, pj_a3_0, pj_a3_1, pj_a3_2, pj_a3_u0, pj_a3_u1, pj_a3_u2, pj_s4_6, pj_s4_7, pj_long_i, pj_long_r, pj_long_n, pj_f4_0, pj_arl_i, pj_ars_i, pj_f4_5, h1, pj_arl_r, y0, y1, y2, y3, y4, y5, pj_set0, pj_fir0]
      exact t1_110
    case f =>
      intro j hj
      simp only [pj_up_ap]
      repeat rw [if_neg (by omega)]
    case c =>
      refine ⟨?_, ?_, ?_, ?_, ?_, ?_, ?_, ?_, ?_⟩
      · simp (disch := decide) only [simprocAttr, pj_up_ap, if_true, if_false]
        rfl
      · simp (disch := decide) only [simprocAttr, pj_up_ap, if_true, if_false]
      · simp (disch := decide) only [simprocAttr, pj_up_ap, if_true, if_false, pj_a3_z]
      · simp (disch := decide) only [simprocAttr, pj_up_ap, if_true, if_false, pj_a3_z]
      · simp (disch := decide) only [simprocAttr, pj_up_ap, if_true, if_false, pj_a3_z]
      · simp (disch := decide) only [simprocAttr, pj_up_ap, if_true, if_false, pj_a3_z]
      · simp (disch := decide) only [simprocAttr, pj_up_ap, if_true, if_false]
      · simp (disch := decide) only [simprocAttr, pj_up_ap, if_true, if_false]
      · simp (disch := decide) only [simprocAttr, pj_up_ap, if_true, if_false, pj_n120_r0]
  obtain ⟨H', h2, h3, h4⟩ := E
  exact ⟨H', h2, h3, h4⟩
theorem c_uinit_44 (h1 : H 1 = .inr (4, 6, .inl (pj_v6 60 150 5 8 40 2))) (h : H 44 = .inl (4, [.null, .null, .null, .null, .null, .null, .null, .int 0, .int 0, .int 0, .int 0])) :
    ∃ H', pj_U H' 44 sp_r0 ∧ (∀ j, j < 44 ∨ 52 < j → H' j = H j) ∧ pj_Ends 1 (0, [some (.ref 44), none], [], (45, S, H)) (none, (53, S + 144, H')) := by
  have y0 : pj_v6 60 150 5 8 40 2 0 = 60 := rfl
  have y1 : pj_v6 60 150 5 8 40 2 1 = 150 := rfl
  have y2 : pj_v6 60 150 5 8 40 2 2 = 5 := rfl
  have y3 : pj_v6 60 150 5 8 40 2 3 = 8 := rfl
  have y4 : pj_v6 60 150 5 8 40 2 4 = 40 := rfl
  have y5 : pj_v6 60 150 5 8 40 2 5 = 2 := rfl
  have E : ∃ H', (H' 44 = pj_uc 44 sp_r0 ∧ H' (44 + 1) = .inr (0, 6, .inl (pj_a6 60 150 5 8 40 2)) ∧ H' (44 + 2) = .inr (0, 3, .inl (pj_a3 0 0 0)) ∧ H' (44 + 3) = .inr (0, 3, .inl (pj_a3 0 0 0)) ∧ H' (44 + 4) = .inr (0, 3, .inl (pj_a3 0 0 0)) ∧ H' (44 + 5) = .inr (0, 3, .inl (pj_a3 0 0 0)) ∧ H' (44 + 6) = .inr (0, 3, .inl (pj_a3 (-6) (-6) (-6))) ∧ H' (44 + 7) = .inl (2, [.ref (44 + 8), .int 0, .int (-6)]) ∧ H' (44 + 8) = .inr (0, 120, .inl (pj_n120 sp_r0))) ∧ (∀ j, j < 44 ∨ 52 < j → H' j = H j) ∧ pj_Ends 1 (0, [some (.ref 44), none], [], (45, S, H)) (none, (53, S + 144, H')) := by
    apply Exists.intro
    refine And.intro ?c (And.intro ?f ?e)
    case e =>
      simp (disch := first | assumption | exact pj_long_i | exact pj_long_r | exact pj_long_n | decide) only [x1_0, x1_1, x1_4, x1_5, x1_7, x1_9, x1_12, x1_13, x1_14, x1_16, x1_19, x1_20, x1_21, x1_23, x1_26, x1_27, x1_28, x1_30, x1_33, x1_34, x1_35, x1_37, x1_40, x1_41, x1_42, x1_44, x1_47, x1_48, x1_51, x1_51i, simprocAttr, pj_then_s, pj_pv_s, pj_pi_s, pj_set_s, if_true, if_false, not_true_eq_false, not_false_eq_true, pj_up_up, pj_so110_109, pj_so111_109, pj_so112_109, pj_so113_109, pj_so114_109, pj_so115_109, pj_so116_109, pj_so117_109, pj_so111_110, pj_so112_110, pj_so113_110, pj_so114_110, pj_so115_110, pj_so116_110, pj_so117_110, pj_so112_111, pj_so113_111, pj_so114_111, pj_so115_111, pj_so116_111, pj_so117_111, pj_so113_112, pj_so114_112, pj_so115_112, pj_so116_112, pj_so117_112, pj_so114_113, pj_so115_113, pj_so116_113, pj_so117_113, pj_so115_114, pj_so116_114, pj_so117_114, pj_so116_115, pj_so117_115, pj_so117_116, pj_up_ap, pj_upd_ap, pj_a3_0, pj_a3_1, pj_a3_2, pj_a3_u0, pj_a3_u1, pj_a3_u2, pj_g4_0, pj_g4_1, pj_g4_2, pj_g4_3, pj_g4_4, pj_s4_0, pj_s4_1, pj_s4_2, pj_s4_3, pj_s4_4, pj_s4_5, h, x1_7 (x := 6) (n' := 6) (by decide) rfl (by decide), x1_14 (x := 3) (n' := 3) (by decide) rfl (by decide), x1_21 (x := 3) (n' := 3) (by decide) rfl (by decide), x1_28 (x := 3) (n' := 3) (by decide) rfl (by decide), x1_35 (x := 3) (n' := 3) (by decide) rfl (by decide), x1_42 (x := 3) (n' := 3) (by decide) rfl (by decide)]
      refine e1_52 rfl (c_cinit (by rw [pj_up_ap, if_pos rfl]) (eq_false (by decide))) ?_
      simp (disch := first | assumption | exact pj_long_i | exact pj_long_r | exact pj_long_n | decide) only [x1_55, x1_58, x1_59, x1_61, x1_64, x1_65, x1_66, x1_67, x1_69, x1_72, x1_73, x1_76, x1_77, x1_80, x1_81, x1_82, x1_83, x1_86, x1_89, x1_90, x1_91, x1_92, x1_93, x1_96, x1_97, x1_100, x1_101, x1_103, x1_104, x1_107, simprocAttr, pj_then_s, pj_pv_s, pj_pi_s, pj_set_s, if_true, if_false, not_true_eq_false, not_false_eq_true, pj_up_up, pj_so110_109, pj_so111_109, pj_so112_109, pj_so113_109, pj_so114_109, pj_so115_109, pj_so116_109, pj_so117_109, pj_so111_110, pj_so112_110, pj_so113_110, pj_so114_110, pj_so115_110, pj_so116_110, pj_so117_110, pj_so112_111, pj_so113_111, pj_so114_111, pj_so115_111, pj_so116_111, pj_so117_111, pj_so113_112, pj_so114_112, pj_so115_112, pj_so116_112, pj_so117_112, pj_so114_113, pj_so115_113, pj_so116_113, pj_so117_113, pj_so115_114, pj_so116_114, pj_so117_114, pj_so116_115, pj_so117_115, pj_so117_116, pj_up_ap, pj_upd_ap, pj_a3_0, pj_a3_1, pj_a3_2, pj_a3_u0, pj_a3_u1, pj_a3_u2, pj_s4_6, pj_s4_7, pj_long_i, pj_long_r, pj_long_n, pj_f4_0, pj_arl_i, pj_ars_i, pj_f4_5, h1, pj_arl_r, y0, y1, y2, y3, y4, y5, pj_set0, pj_fir0]
      exact t1_110
    case f =>
      intro j hj
      simp only [pj_up_ap]
      repeat rw [if_neg (by omega)]
    case c =>
      refine ⟨?_, ?_, ?_, ?_, ?_, ?_, ?_, ?_, ?_⟩
      · simp (disch := decide) only [simprocAttr, pj_up_ap, if_true, if_false]
        rfl
      · simp (disch := decide) only [simprocAttr, pj_up_ap, if_true, if_false]
      · simp (disch := decide) only [simprocAttr, pj_up_ap, if_true, if_false, pj_a3_z]
      · simp (disch := decide) only [simprocAttr, pj_up_ap, if_true, if_false, pj_a3_z]
      · simp (disch := decide) only [simprocAttr, pj_up_ap, if_true, if_false, pj_a3_z]
      · simp (disch := decide) only [simprocAttr, pj_up_ap, if_true, if_false, pj_a3_z]
      · simp (disch := decide) only [simprocAttr, pj_up_ap, if_true, if_false]
      · simp (disch := decide) only [simprocAttr, pj_up_ap, if_true, if_false]
      · simp (disch := decide) only [simprocAttr, pj_up_ap, if_true, if_false, pj_n120_r0]
  obtain ⟨H', h2, h3, h4⟩ := E
  exact ⟨H', h2, h3, h4⟩
theorem c_uinit_53 (h1 : H 1 = .inr (4, 6, .inl (pj_v6 60 150 5 8 40 2))) (h : H 53 = .inl (4, [.null, .null, .null, .null, .null, .null, .null, .int 0, .int 0, .int 0, .int 0])) :
    ∃ H', pj_U H' 53 sp_r0 ∧ (∀ j, j < 53 ∨ 61 < j → H' j = H j) ∧ pj_Ends 1 (0, [some (.ref 53), none], [], (54, S, H)) (none, (62, S + 144, H')) := by
  have y0 : pj_v6 60 150 5 8 40 2 0 = 60 := rfl
  have y1 : pj_v6 60 150 5 8 40 2 1 = 150 := rfl
  have y2 : pj_v6 60 150 5 8 40 2 2 = 5 := rfl
  have y3 : pj_v6 60 150 5 8 40 2 3 = 8 := rfl
  have y4 : pj_v6 60 150 5 8 40 2 4 = 40 := rfl
  have y5 : pj_v6 60 150 5 8 40 2 5 = 2 := rfl
  have E : ∃ H', (H' 53 = pj_uc 53 sp_r0 ∧ H' (53 + 1) = .inr (0, 6, .inl (pj_a6 60 150 5 8 40 2)) ∧ H' (53 + 2) = .inr (0, 3, .inl (pj_a3 0 0 0)) ∧ H' (53 + 3) = .inr (0, 3, .inl (pj_a3 0 0 0)) ∧ H' (53 + 4) = .inr (0, 3, .inl (pj_a3 0 0 0)) ∧ H' (53 + 5) = .inr (0, 3, .inl (pj_a3 0 0 0)) ∧ H' (53 + 6) = .inr (0, 3, .inl (pj_a3 (-6) (-6) (-6))) ∧ H' (53 + 7) = .inl (2, [.ref (53 + 8), .int 0, .int (-6)]) ∧ H' (53 + 8) = .inr (0, 120, .inl (pj_n120 sp_r0))) ∧ (∀ j, j < 53 ∨ 61 < j → H' j = H j) ∧ pj_Ends 1 (0, [some (.ref 53), none], [], (54, S, H)) (none, (62, S + 144, H')) := by
    apply Exists.intro
    refine And.intro ?c (And.intro ?f ?e)
    case e =>
      simp (disch := first | assumption | exact pj_long_i | exact pj_long_r | exact pj_long_n | decide) only [x1_0, x1_1, x1_4, x1_5, x1_7, x1_9, x1_12, x1_13, x1_14, x1_16, x1_19, x1_20, x1_21, x1_23, x1_26, x1_27, x1_28, x1_30, x1_33, x1_34, x1_35, x1_37, x1_40, x1_41, x1_42, x1_44, x1_47, x1_48, x1_51, x1_51i, simprocAttr, pj_then_s, pj_pv_s, pj_pi_s, pj_set_s, if_true, if_false, not_true_eq_false, not_false_eq_true, pj_up_up, pj_so110_109, pj_so111_109, pj_so112_109, pj_so113_109, pj_so114_109, pj_so115_109, pj_so116_109, pj_so117_109, pj_so111_110, pj_so112_110, pj_so113_110, pj_so114_110, pj_so115_110, pj_so116_110, pj_so117_110, pj_so112_111, pj_so113_111, pj_so114_111, pj_so115_111, pj_so116_111, pj_so117_111, pj_so113_112, pj_so114_112, pj_so115_112, pj_so116_112, pj_so117_112, pj_so114_113, pj_so115_113, pj_so116_113, pj_so117_113, pj_so115_114, pj_so116_114, pj_so117_114, pj_so116_115, pj_so117_115, pj_so117_116, pj_up_ap, pj_upd_ap, pj_a3_0, pj_a3_1, pj_a3_2, pj_a3_u0, pj_a3_u1, pj_a3_u2, pj_g4_0, pj_g4_1, pj_g4_2, pj_g4_3, pj_g4_4, pj_s4_0, pj_s4_1, pj_s4_2, pj_s4_3, pj_s4_4, pj_s4_5, h, x1_7 (x := 6) (n' := 6) (by decide) rfl (by decide), x1_14 (x := 3) (n' := 3) (by decide) rfl (by decide), x1_21 (x := 3) (n' := 3) (by decide) rfl (by decide), x1_28 (x := 3) (n' := 3) (by decide) rfl (by decide), x1_35 (x := 3) (n' := 3) (by decide) rfl (by decide), x1_42 (x := 3) (n' := 3) (by decide) rfl (by decide)]
      refine e1_52 rfl (c_cinit (by rw [pj_up_ap, if_pos rfl]) (eq_false (by decide))) ?_
      simp (disch := first | assumption | exact pj_long_i | exact pj_long_r | exact pj_long_n | decide) only [x1_55, x1_58, x1_59, x1_61, x1_64, x1_65, x1_66, x1_67, x1_69, x1_72, x1_73, x1_76, x1_77, x1_80, x1_81, x1_82, x1_83, x1_86, x1_89, x1_90, x1_91, x1_92, x1_93, x1_96, x1_97, x1_100, x1_101, x1_103, x1_104, x1_107, simprocAttr, pj_then_s, pj_pv_s, pj_pi_s, pj_set_s, if_true, if_false, not_true_eq_false, not_false_eq_true, pj_up_up, pj_so110_109, pj_so111_109, pj_so112_109, pj_so113_109, pj_so114_109, pj_so115_109, pj_so116_109, pj_so117_109, pj_so111_110, pj_so112_110, pj_so113_110, pj_so114_110, pj_so115_110, pj_so116_110, pj_so117_110, pj_so112_111, pj_so113_111, pj_so114_111, pj_so115_111, pj_so116_111, pj_so117_111, pj_so113_112, pj_so114_112, pj_so115_112, pj_so116_112, pj_so117_112, pj_so114_113, pj_so115_113, pj_so116_113, pj_so117_113, pj_so115_114, pj_so116_114, pj_so117_114, pj_so116_115, pj_so117_115, pj_so117_116, pj_up_ap, pj_upd_ap, pj_a3_0, pj_a3_1, pj_a3_2, pj_a3_u0, pj_a3_u1, pj_a3_u2, pj_s4_6, pj_s4_7, pj_long_i, pj_long_r, pj_long_n, pj_f4_0, pj_arl_i, pj_ars_i, pj_f4_5, h1, pj_arl_r, y0, y1, y2, y3, y4, y5, pj_set0, pj_fir0]
      exact t1_110
    case f =>
      intro j hj
      simp only [pj_up_ap]
      repeat rw [if_neg (by omega)]
    case c =>
      refine ⟨?_, ?_, ?_, ?_, ?_, ?_, ?_, ?_, ?_⟩
      · simp (disch := decide) only [simprocAttr, pj_up_ap, if_true, if_false]
        rfl
      · simp (disch := decide) only [simprocAttr, pj_up_ap, if_true, if_false]
      · simp (disch := decide) only [simprocAttr, pj_up_ap, if_true, if_false, pj_a3_z]
      · simp (disch := decide) only [simprocAttr, pj_up_ap, if_true, if_false, pj_a3_z]
      · simp (disch := decide) only [simprocAttr, pj_up_ap, if_true, if_false, pj_a3_z]
      · simp (disch := decide) only [simprocAttr, pj_up_ap, if_true, if_false, pj_a3_z]
      · simp (disch := decide) only [simprocAttr, pj_up_ap, if_true, if_false]
      · simp (disch := decide) only [simprocAttr, pj_up_ap, if_true, if_false]
      · simp (disch := decide) only [simprocAttr, pj_up_ap, if_true, if_false, pj_n120_r0]
  obtain ⟨H', h2, h3, h4⟩ := E
  exact ⟨H', h2, h3, h4⟩
theorem c_uinit_62 (h1 : H 1 = .inr (4, 6, .inl (pj_v6 60 150 5 8 40 2))) (h : H 62 = .inl (4, [.null, .null, .null, .null, .null, .null, .null, .int 0, .int 0, .int 0, .int 0])) :
    ∃ H', pj_U H' 62 sp_r0 ∧ (∀ j, j < 62 ∨ 70 < j → H' j = H j) ∧ pj_Ends 1 (0, [some (.ref 62), none], [], (63, S, H)) (none, (71, S + 144, H')) := by
  have y0 : pj_v6 60 150 5 8 40 2 0 = 60 := rfl
  have y1 : pj_v6 60 150 5 8 40 2 1 = 150 := rfl
  have y2 : pj_v6 60 150 5 8 40 2 2 = 5 := rfl
  have y3 : pj_v6 60 150 5 8 40 2 3 = 8 := rfl
  have y4 : pj_v6 60 150 5 8 40 2 4 = 40 := rfl
  have y5 : pj_v6 60 150 5 8 40 2 5 = 2 := rfl
  have E : ∃ H', (H' 62 = pj_uc 62 sp_r0 ∧ H' (62 + 1) = .inr (0, 6, .inl (pj_a6 60 150 5 8 40 2)) ∧ H' (62 + 2) = .inr (0, 3, .inl (pj_a3 0 0 0)) ∧ H' (62 + 3) = .inr (0, 3, .inl (pj_a3 0 0 0)) ∧ H' (62 + 4) = .inr (0, 3, .inl (pj_a3 0 0 0)) ∧ H' (62 + 5) = .inr (0, 3, .inl (pj_a3 0 0 0)) ∧ H' (62 + 6) = .inr (0, 3, .inl (pj_a3 (-6) (-6) (-6))) ∧ H' (62 + 7) = .inl (2, [.ref (62 + 8), .int 0, .int (-6)]) ∧ H' (62 + 8) = .inr (0, 120, .inl (pj_n120 sp_r0))) ∧ (∀ j, j < 62 ∨ 70 < j → H' j = H j) ∧ pj_Ends 1 (0, [some (.ref 62), none], [], (63, S, H)) (none, (71, S + 144, H')) := by
    apply Exists.intro
    refine And.intro ?c (And.intro ?f ?e)
    case e =>
      simp (disch := first | assumption | exact pj_long_i | exact pj_long_r | exact pj_long_n | decide) only [x1_0, x1_1, x1_4, x1_5, x1_7, x1_9, x1_12, x1_13, x1_14, x1_16, x1_19, x1_20, x1_21, x1_23, x1_26, x1_27, x1_28, x1_30, x1_33, x1_34, x1_35, x1_37, x1_40, x1_41, x1_42, x1_44, x1_47, x1_48, x1_51, x1_51i, simprocAttr, pj_then_s, pj_pv_s, pj_pi_s, pj_set_s, if_true, if_false, not_true_eq_false, not_false_eq_true, pj_up_up, pj_so110_109, pj_so111_109, pj_so112_109, pj_so113_109, pj_so114_109, pj_so115_109, pj_so116_109, pj_so117_109, pj_so111_110, pj_so112_110, pj_so113_110, pj_so114_110, pj_so115_110, pj_so116_110, pj_so117_110, pj_so112_111, pj_so113_111, pj_so114_111, pj_so115_111, pj_so116_111, pj_so117_111, pj_so113_112, pj_so114_112, pj_so115_112, pj_so116_112, pj_so117_112, pj_so114_113, pj_so115_113, pj_so116_113, pj_so117_113, pj_so115_114, pj_so116_114, pj_so117_114, pj_so116_115, pj_so117_115, pj_so117_116, pj_up_ap, pj_upd_ap, pj_a3_0, pj_a3_1, pj_a3_2, pj_a3_u0, pj_a3_u1, pj_a3_u2, pj_g4_0, pj_g4_1, pj_g4_2, pj_g4_3, pj_g4_4, pj_s4_0, pj_s4_1, pj_s4_2, pj_s4_3, pj_s4_4, pj_s4_5, h, x1_7 (x := 6) (n' := 6) (by decide) rfl (by decide), x1_14 (x := 3) (n' := 3) (by decide) rfl (by decide), x1_21 (x := 3) (n' := 3) (by decide) rfl (by decide), x1_28 (x := 3) (n' := 3) (by decide) rfl (by decide), x1_35 (x := 3) (n' := 3) (by decide) rfl (by decide), x1_42 (x := 3) (n' := 3) (by decide) rfl (by decide)]
      refine e1_52 rfl (c_cinit (by rw [pj_up_ap, if_pos rfl]) (eq_false (by decide))) ?_
      simp (disch := first | assumption | exact pj_long_i | exact pj_long_r | exact pj_long_n | decide) only [x1_55, x1_58, x1_59, x1_61, x1_64, x1_65, x1_66, x1_67, x1_69, x1_72, x1_73, x1_76, x1_77, x1_80, x1_81, x1_82, x1_83, x1_86, x1_89, x1_90, x1_91, x1_92, x1_93, x1_96, x1_97, x1_100, x1_101, x1_103, x1_104, x1_107, simprocAttr, pj_then_s, pj_pv_s, pj_pi_s, pj_set_s, if_true, if_false, not_true_eq_false, not_false_eq_true, pj_up_up, pj_so110_109, pj_so111_109, pj_so112_109, pj_so113_109, pj_so114_109, pj_so115_109, pj_so116_109, pj_so117_109, pj_so111_110, pj_so112_110, pj_so113_110, pj_so114_110, pj_so115_110, pj_so116_110, pj_so117_110, pj_so112_111, pj_so113_111, pj_so114_111, pj_so115_111, pj_so116_111, pj_so117_111, pj_so113_112, pj_so114_112, pj_so115_112, pj_so116_112, pj_so117_112, pj_so114_113, pj_so115_113, pj_so116_113, pj_so117_113, pj_so115_114, pj_so116_114, pj_so117_114, pj_so116_115, pj_so117_115, pj_so117_116, pj_up_ap, pj_upd_ap, pj_a3_0, pj_a3_1, pj_a3_2, pj_a3_u0, pj_a3_u1, pj_a3_u2, pj_s4_6, pj_s4_7, pj_long_i, pj_long_r, pj_long_n, pj_f4_0, pj_arl_i, pj_ars_i, pj_f4_5, h1, pj_arl_r, y0, y1, y2, y3, y4, y5, pj_set0, pj_fir0]
      exact t1_110
    case f =>
      intro j hj
      simp only [pj_up_ap]
      repeat rw [if_neg (by omega)]
    case c =>
      refine ⟨?_, ?_, ?_, ?_, ?_, ?_, ?_, ?_, ?_⟩
      · simp (disch := decide) only [simprocAttr, pj_up_ap, if_true, if_false]
        rfl
      · simp (disch := decide) only [simprocAttr, pj_up_ap, if_true, if_false]
      · simp (disch := decide) only [simprocAttr, pj_up_ap, if_true, if_false, pj_a3_z]
      · simp (disch := decide) only [simprocAttr, pj_up_ap, if_true, if_false, pj_a3_z]
      · simp (disch := decide) only [simprocAttr, pj_up_ap, if_true, if_false, pj_a3_z]
      · simp (disch := decide) only [simprocAttr, pj_up_ap, if_true, if_false, pj_a3_z]
      · simp (disch := decide) only [simprocAttr, pj_up_ap, if_true, if_false]
      · simp (disch := decide) only [simprocAttr, pj_up_ap, if_true, if_false]
      · simp (disch := decide) only [simprocAttr, pj_up_ap, if_true, if_false, pj_n120_r0]
  obtain ⟨H', h2, h3, h4⟩ := E
  exact ⟨H', h2, h3, h4⟩
theorem c_uinit_71 (h1 : H 1 = .inr (4, 6, .inl (pj_v6 60 150 5 8 40 2))) (h : H 71 = .inl (4, [.null, .null, .null, .null, .null, .null, .null, .int 0, .int 0, .int 0, .int 0])) :
    ∃ H', pj_U H' 71 sp_r0 ∧ (∀ j, j < 71 ∨ 79 < j → H' j = H j) ∧ pj_Ends 1 (0, [some (.ref 71), none], [], (72, S, H)) (none, (80, S + 144, H')) := by
  have y0 : pj_v6 60 150 5 8 40 2 0 = 60 := rfl
  have y1 : pj_v6 60 150 5 8 40 2 1 = 150 := rfl
  have y2 : pj_v6 60 150 5 8 40 2 2 = 5 := rfl
  have y3 : pj_v6 60 150 5 8 40 2 3 = 8 := rfl
  have y4 : pj_v6 60 150 5 8 40 2 4 = 40 := rfl
  have y5 : pj_v6 60 150 5 8 40 2 5 = 2 := rfl
  have E : ∃ H', (H' 71 = pj_uc 71 sp_r0 ∧ H' (71 + 1) = .inr (0, 6, .inl (pj_a6 60 150 5 8 40 2)) ∧ H' (71 + 2) = .inr (0, 3, .inl (pj_a3 0 0 0)) ∧ H' (71 + 3) = .inr (0, 3, .inl (pj_a3 0 0 0)) ∧ H' (71 + 4) = .inr (0, 3, .inl (pj_a3 0 0 0)) ∧ H' (71 + 5) = .inr (0, 3, .inl (pj_a3 0 0 0)) ∧ H' (71 + 6) = .inr (0, 3, .inl (pj_a3 (-6) (-6) (-6))) ∧ H' (71 + 7) = .inl (2, [.ref (71 + 8), .int 0, .int (-6)]) ∧ H' (71 + 8) = .inr (0, 120, .inl (pj_n120 sp_r0))) ∧ (∀ j, j < 71 ∨ 79 < j → H' j = H j) ∧ pj_Ends 1 (0, [some (.ref 71), none], [], (72, S, H)) (none, (80, S + 144, H')) := by
    apply Exists.intro
    refine And.intro ?c (And.intro ?f ?e)
    case e =>
      simp (disch := first | assumption | exact pj_long_i | exact pj_long_r | exact pj_long_n | decide) only [x1_0, x1_1, x1_4, x1_5, x1_7, x1_9, x1_12, x1_13, x1_14, x1_16, x1_19, x1_20, x1_21, x1_23, x1_26, x1_27, x1_28, x1_30, x1_33, x1_34, x1_35, x1_37, x1_40, x1_41, x1_42, x1_44, x1_47, x1_48, x1_51, x1_51i, simprocAttr, pj_then_s, pj_pv_s, pj_pi_s, pj_set_s, if_true, if_false, not_true_eq_false, not_false_eq_true, pj_up_up, pj_so110_109, pj_so111_109, pj_so112_109, pj_so113_109, pj_so114_109, pj_so115_109, pj_so116_109, pj_so117_109, pj_so111_110, pj_so112_110, pj_so113_110, pj_so114_110, pj_so115_110, pj_so116_110, pj_so117_110, pj_so112_111, pj_so113_111, pj_so114_111, pj_so115_111, pj_so116_111, pj_so117_111, pj_so113_112, pj_so114_112, pj_so115_112, pj_so116_112, pj_so117_112, pj_so114_113, pj_so115_113, pj_so116_113, pj_so117_113, pj_so115_114, pj_so116_114, pj_so117_114, pj_so116_115, pj_so117_115, pj_so117_116, pj_up_ap, pj_upd_ap, pj_a3_0, pj_a3_1, pj_a3_2, pj_a3_u0, pj_a3_u1, pj_a3_u2, pj_g4_0, pj_g4_1, pj_g4_2, pj_g4_3, pj_g4_4, pj_s4_0, pj_s4_1, pj_s4_2, pj_s4_3, pj_s4_4, pj_s4_5, h, x1_7 (x := 6) (n' := 6) (by decide) rfl (by decide), x1_14 (x := 3) (n' := 3) (by decide) rfl (by decide), x1_21 (x := 3) (n' := 3) (by decide) rfl (by decide), x1_28 (x := 3) (n' := 3) (by decide) rfl (by decide), x1_35 (x := 3) (n' := 3) (by decide) rfl (by decide), x1_42 (x := 3) (n' := 3) (by decide) rfl (by decide)]
      refine e1_52 rfl (c_cinit (by rw [pj_up_ap, if_pos rfl]) (eq_false (by decide))) ?_
      simp (disch := first | assumption | exact pj_long_i | exact pj_long_r | exact pj_long_n | decide) only [x1_55, x1_58, x1_59, x1_61, x1_64, x1_65, x1_66, x1_67, x1_69, x1_72, x1_73, x1_76, x1_77, x1_80, x1_81, x1_82, x1_83, x1_86, x1_89, x1_90, x1_91, x1_92, x1_93, x1_96, x1_97, x1_100, x1_101, x1_103, x1_104, x1_107, simprocAttr, pj_then_s, pj_pv_s, pj_pi_s, pj_set_s, if_true, if_false, not_true_eq_false, not_false_eq_true, pj_up_up, pj_so110_109, pj_so111_109, pj_so112_109, pj_so113_109, pj_so114_109, pj_so115_109, pj_so116_109, pj_so117_109, pj_so111_110, pj_so112_110, pj_so113_110, pj_so114_110, pj_so115_110, pj_so116_110, pj_so117_110, pj_so112_111, pj_so113_111, pj_so114_111, pj_so115_111, pj_so116_111, pj_so117_111, pj_so113_112, pj_so114_112, pj_so115_112, pj_so116_112, pj_so117_112, pj_so114_113, pj_so115_113, pj_so116_113, pj_so117_113, pj_so115_114, pj_so116_114, pj_so117_114, pj_so116_115, pj_so117_115, pj_so117_116, pj_up_ap, pj_upd_ap, pj_a3_0, pj_a3_1, pj_a3_2, pj_a3_u0, pj_a3_u1, pj_a3_u2, pj_s4_6, pj_s4_7, pj_long_i, pj_long_r, pj_long_n, pj_f4_0, pj_arl_i, pj_ars_i, pj_f4_5, h1, pj_arl_r, y0, y1, y2, y3, y4, y5, pj_set0, pj_fir0]
      exact t1_110
    case f =>
      intro j hj
      simp only [pj_up_ap]
      repeat rw [if_neg (by omega)]
    case c =>
      refine ⟨?_, ?_, ?_, ?_, ?_, ?_, ?_, ?_, ?_⟩
      · simp (disch := decide) only [simprocAttr, pj_up_ap, if_true, if_false]
        rfl
      · simp (disch := decide) only [simprocAttr, pj_up_ap, if_true, if_false]
      · simp (disch := decide) only [simprocAttr, pj_up_ap, if_true, if_false, pj_a3_z]
      · simp (disch := decide) only [simprocAttr, pj_up_ap, if_true, if_false, pj_a3_z]
      · simp (disch := decide) only [simprocAttr, pj_up_ap, if_true, if_false, pj_a3_z]
      · simp (disch := decide) only [simprocAttr, pj_up_ap, if_true, if_false, pj_a3_z]
      · simp (disch := decide) only [simprocAttr, pj_up_ap, if_true, if_false]
      · simp (disch := decide) only [simprocAttr, pj_up_ap, if_true, if_false]
      · simp (disch := decide) only [simprocAttr, pj_up_ap, if_true, if_false, pj_n120_r0]
  obtain ⟨H', h2, h3, h4⟩ := E
  exact ⟨H', h2, h3, h4⟩
theorem c_uinit_80 (h1 : H 1 = .inr (4, 6, .inl (pj_v6 60 150 5 8 40 2))) (h : H 80 = .inl (4, [.null, .null, .null, .null, .null, .null, .null, .int 0, .int 0, .int 0, .int 0])) :
    ∃ H', pj_U H' 80 sp_r0 ∧ (∀ j, j < 80 ∨ 88 < j → H' j = H j) ∧ pj_Ends 1 (0, [some (.ref 80), none], [], (81, S, H)) (none, (89, S + 144, H')) := by
  have y0 : pj_v6 60 150 5 8 40 2 0 = 60 := rfl
  have y1 : pj_v6 60 150 5 8 40 2 1 = 150 := rfl
  have y2 : pj_v6 60 150 5 8 40 2 2 = 5 := rfl
  have y3 : pj_v6 60 150 5 8 40 2 3 = 8 := rfl
  have y4 : pj_v6 60 150 5 8 40 2 4 = 40 := rfl
  have y5 : pj_v6 60 150 5 8 40 2 5 = 2 := rfl
  have E : ∃ H', (H' 80 = pj_uc 80 sp_r0 ∧ H' (80 + 1) = .inr (0, 6, .inl (pj_a6 60 150 5 8 40 2)) ∧ H' (80 + 2) = .inr (0, 3, .inl (pj_a3 0 0 0)) ∧ H' (80 + 3) = .inr (0, 3, .inl (pj_a3 0 0 0)) ∧ H' (80 + 4) = .inr (0, 3, .inl (pj_a3 0 0 0)) ∧ H' (80 + 5) = .inr (0, 3, .inl (pj_a3 0 0 0)) ∧ H' (80 + 6) = .inr (0, 3, .inl (pj_a3 (-6) (-6) (-6))) ∧ H' (80 + 7) = .inl (2, [.ref (80 + 8), .int 0, .int (-6)]) ∧ H' (80 + 8) = .inr (0, 120, .inl (pj_n120 sp_r0))) ∧ (∀ j, j < 80 ∨ 88 < j → H' j = H j) ∧ pj_Ends 1 (0, [some (.ref 80), none], [], (81, S, H)) (none, (89, S + 144, H')) := by
    apply Exists.intro
    refine And.intro ?c (And.intro ?f ?e)
    case e =>
      simp (disch := first | assumption | exact pj_long_i | exact pj_long_r | exact pj_long_n | decide) only [x1_0, x1_1, x1_4, x1_5, x1_7, x1_9, x1_12, x1_13, x1_14, x1_16, x1_19, x1_20, x1_21, x1_23, x1_26, x1_27, x1_28, x1_30, x1_33, x1_34, x1_35, x1_37, x1_40, x1_41, x1_42, x1_44, x1_47, x1_48, x1_51, x1_51i, simprocAttr, pj_then_s, pj_pv_s, pj_pi_s, pj_set_s, if_true, if_false, not_true_eq_false, not_false_eq_true, pj_up_up, pj_so110_109, pj_so111_109, pj_so112_109, pj_so113_109, pj_so114_109, pj_so115_109, pj_so116_109, pj_so117_109, pj_so111_110, pj_so112_110, pj_so113_110, pj_so114_110, pj_so115_110, pj_so116_110, pj_so117_110, pj_so112_111, pj_so113_111, pj_so114_111, pj_so115_111, pj_so116_111, pj_so117_111, pj_so113_112, pj_so114_112, pj_so115_112, pj_so116_112, pj_so117_112, pj_so114_113, pj_so115_113, pj_so116_113, pj_so117_113, pj_so115_114, pj_so116_114, pj_so117_114, pj_so116_115, pj_so117_115, pj_so117_116, pj_up_ap, pj_upd_ap, pj_a3_0, pj_a3_1, pj_a3_2, pj_a3_u0, pj_a3_u1, pj_a3_u2, pj_g4_0, pj_g4_1, pj_g4_2, pj_g4_3, pj_g4_4, pj_s4_0, pj_s4_1, pj_s4_2, pj_s4_3, pj_s4_4, pj_s4_5, h, x1_7 (x := 6) (n' := 6) (by decide) rfl (by decide), x1_14 (x := 3) (n' := 3) (by decide) rfl (by decide), x1_21 (x := 3) (n' := 3) (by decide) rfl (by decide), x1_28 (x := 3) (n' := 3) (by decide) rfl (by decide), x1_35 (x := 3) (n' := 3) (by decide) rfl (by decide), x1_42 (x := 3) (n' := 3) (by decide) rfl (by decide)]
      refine e1_52 rfl (c_cinit (by rw [pj_up_ap, if_pos rfl]) (eq_false (by decide))) ?_
      simp (disch := first | assumption | exact pj_long_i | exact pj_long_r | exact pj_long_n | decide) only [x1_55, x1_58, x1_59, x1_61, x1_64, x1_65, x1_66, x1_67, x1_69, x1_72, x1_73, x1_76, x1_77, x1_80, x1_81, x1_82, x1_83, x1_86, x1_89, x1_90, x1_91, x1_92, x1_93, x1_96, x1_97, x1_100, x1_101, x1_103, x1_104, x1_107, simprocAttr, pj_then_s, pj_pv_s, pj_pi_s, pj_set_s, if_true, if_false, not_true_eq_false, not_false_eq_true, pj_up_up, pj_so110_109, pj_so111_109, pj_so112_109, pj_so113_109, pj_so114_109, pj_so115_109, pj_so116_109, pj_so117_109, pj_so111_110, pj_so112_110, pj_so113_110, pj_so114_110, pj_so115_110, pj_so116_110, pj_so117_110, pj_so112_111, pj_so113_111, pj_so114_111, pj_so115_111, pj_so116_111, pj_so117_111, pj_so113_112, pj_so114_112, pj_so115_112, pj_so116_112, pj_so117_112, pj_so114_113, pj_so115_113, pj_so116_113, pj_so117_113, pj_so115_114, pj_so116_114, pj_so117_114, pj_so116_115, pj_so117_115, pj_so117_116, pj_up_ap, pj_upd_ap, pj_a3_0, pj_a3_1, pj_a3_2, pj_a3_u0, pj_a3_u1, pj_a3_u2, pj_s4_6, pj_s4_7, pj_long_i, pj_long_r, pj_long_n, pj_f4_0, pj_arl_i, pj_ars_i, pj_f4_5, h1, pj_arl_r, y0, y1, y2, y3, y4, y5, pj_set0, pj_fir0]
      exact t1_110
    case f =>
      intro j hj
      simp only [pj_up_ap]
      repeat rw [if_neg (by omega)]
    case c =>
      refine ⟨?_, ?_, ?_, ?_, ?_, ?_, ?_, ?_, ?_⟩
      · simp (disch := decide) only [simprocAttr, pj_up_ap, if_true, if_false]
        rfl
      · simp (disch := decide) only [simprocAttr, pj_up_ap, if_true, if_false]
      · simp (disch := decide) only [simprocAttr, pj_up_ap, if_true, if_false, pj_a3_z]
      · simp (disch := decide) only [simprocAttr, pj_up_ap, if_true, if_false, pj_a3_z]
      · simp (disch := decide) only [simprocAttr, pj_up_ap, if_true, if_false, pj_a3_z]
      · simp (disch := decide) only [simprocAttr, pj_up_ap, if_true, if_false, pj_a3_z]
      · simp (disch := decide) only [simprocAttr, pj_up_ap, if_true, if_false]
      · simp (disch := decide) only [simprocAttr, pj_up_ap, if_true, if_false]
      · simp (disch := decide) only [simprocAttr, pj_up_ap, if_true, if_false, pj_n120_r0]
  obtain ⟨H', h2, h3, h4⟩ := E
  exact ⟨H', h2, h3, h4⟩
theorem c_uinit_90 (h1 : H 1 = .inr (4, 6, .inl (pj_v6 60 150 5 8 40 2))) (h : H 90 = .inl (4, [.null, .null, .null, .null, .null, .null, .null, .int 0, .int 0, .int 0, .int 0])) :
    ∃ H', pj_U H' 90 sp_r0 ∧ (∀ j, j < 90 ∨ 98 < j → H' j = H j) ∧ pj_Ends 1 (0, [some (.ref 90), none], [], (91, S, H)) (none, (99, S + 144, H')) := by
  have y0 : pj_v6 60 150 5 8 40 2 0 = 60 := rfl
  have y1 : pj_v6 60 150 5 8 40 2 1 = 150 := rfl
  have y2 : pj_v6 60 150 5 8 40 2 2 = 5 := rfl
  have y3 : pj_v6 60 150 5 8 40 2 3 = 8 := rfl
  have y4 : pj_v6 60 150 5 8 40 2 4 = 40 := rfl
  have y5 : pj_v6 60 150 5 8 40 2 5 = 2 := rfl
  have E : ∃ H', (H' 90 = pj_uc 90 sp_r0 ∧ H' (90 + 1) = .inr (0, 6, .inl (pj_a6 60 150 5 8 40 2)) ∧ H' (90 + 2) = .inr (0, 3, .inl (pj_a3 0 0 0)) ∧ H' (90 + 3) = .inr (0, 3, .inl (pj_a3 0 0 0)) ∧ H' (90 + 4) = .inr (0, 3, .inl (pj_a3 0 0 0)) ∧ H' (90 + 5) = .inr (0, 3, .inl (pj_a3 0 0 0)) ∧ H' (90 + 6) = .inr (0, 3, .inl (pj_a3 (-6) (-6) (-6))) ∧ H' (90 + 7) = .inl (2, [.ref (90 + 8), .int 0, .int (-6)]) ∧ H' (90 + 8) = .inr (0, 120, .inl (pj_n120 sp_r0))) ∧ (∀ j, j < 90 ∨ 98 < j → H' j = H j) ∧ pj_Ends 1 (0, [some (.ref 90), none], [], (91, S, H)) (none, (99, S + 144, H')) := by
    apply Exists.intro
    refine And.intro ?c (And.intro ?f ?e)
    case e =>
      simp (disch := first | assumption | exact pj_long_i | exact pj_long_r | exact pj_long_n | decide) only [x1_0, x1_1, x1_4, x1_5, x1_7, x1_9, x1_12, x1_13, x1_14, x1_16, x1_19, x1_20, x1_21, x1_23, x1_26, x1_27, x1_28, x1_30, x1_33, x1_34, x1_35, x1_37, x1_40, x1_41, x1_42, x1_44, x1_47, x1_48, x1_51, x1_51i, simprocAttr, pj_then_s, pj_pv_s, pj_pi_s, pj_set_s, if_true, if_false, not_true_eq_false, not_false_eq_true, pj_up_up, pj_so110_109, pj_so111_109, pj_so112_109, pj_so113_109, pj_so114_109, pj_so115_109, pj_so116_109, pj_so117_109, pj_so111_110, pj_so112_110, pj_so113_110, pj_so114_110, pj_so115_110, pj_so116_110, pj_so117_110, pj_so112_111, pj_so113_111, pj_so114_111, pj_so115_111, pj_so116_111, pj_so117_111, pj_so113_112, pj_so114_112, pj_so115_112, pj_so116_112, pj_so117_112, pj_so114_113, pj_so115_113, pj_so116_113, pj_so117_113, pj_so115_114, pj_so116_114, pj_so117_114, pj_so116_115, pj_so117_115, pj_so117_116, pj_up_ap, pj_upd_ap, pj_a3_0, pj_a3_1, pj_a3_2, pj_a3_u0, pj_a3_u1, pj_a3_u2, pj_g4_0, pj_g4_1, pj_g4_2, pj_g4_3, pj_g4_4, pj_s4_0, pj_s4_1, pj_s4_2, pj_s4_3, pj_s4_4, pj_s4_5, h, x1_7 (x := 6) (n' := 6) (by decide) rfl (by decide), x1_14 (x := 3) (n' := 3) (by decide) rfl (by decide), x1_21 (x := 3) (n' := 3) (by decide) rfl (by decide), x1_28 (x := 3) (n' := 3) (by decide) rfl (by decide), x1_35 (x := 3) (n' := 3) (by decide) rfl (by decide), x1_42 (x := 3) (n' := 3) (by decide) rfl (by decide)]
      refine e1_52 rfl (c_cinit (by rw [pj_up_ap, if_pos rfl]) (eq_false (by decide))) ?_
      simp (disch := first | assumption | exact pj_long_i | exact pj_long_r | exact pj_long_n | decide) only [x1_55, x1_58, x1_59, x1_61, x1_64, x1_65, x1_66, x1_67, x1_69, x1_72, x1_73, x1_76, x1_77, x1_80, x1_81, x1_82, x1_83, x1_86, x1_89, x1_90, x1_91, x1_92, x1_93, x1_96, x1_97, x1_100, x1_101, x1_103, x1_104, x1_107, simprocAttr, pj_then_s, pj_pv_s, pj_pi_s, pj_set_s, if_true, if_false, not_true_eq_false, not_false_eq_true, pj_up_up, pj_so110_109, pj_so111_109, pj_so112_109, pj_so113_109, pj_so114_109, pj_so115_109, pj_so116_109, pj_so117_109, pj_so111_110, pj_so112_110, pj_so113_110, pj_so114_110, pj_so115_110, pj_so116_110, pj_so117_110, pj_so112_111, pj_so113_111, pj_so114_111, pj_so115_111, pj_so116_111, pj_so117_111, pj_so113_112, pj_so114_112, pj_so115_112, pj_so116_112, pj_so117_112, pj_so114_113, pj_so115_113, pj_so116_113, pj_so117_113, pj_so115_114, pj_so116_114, pj_so117_114, pj_so116_115, pj_so117_115, pj_so117_116, pj_up_ap, pj_upd_ap, pj_a3_0, pj_a3_1, pj_a3_2, pj_a3_u0, pj_a3_u1, pj_a3_u2, pj_s4_6, pj_s4_7, pj_long_i, pj_long_r, pj_long_n, pj_f4_0, pj_arl_i, pj_ars_i, pj_f4_5, h1, pj_arl_r, y0, y1, y2, y3, y4, y5, pj_set0, pj_fir0]
      exact t1_110
    case f =>
      intro j hj
      simp only [pj_up_ap]
      repeat rw [if_neg (by omega)]
    case c =>
      refine ⟨?_, ?_, ?_, ?_, ?_, ?_, ?_, ?_, ?_⟩
      · simp (disch := decide) only [simprocAttr, pj_up_ap, if_true, if_false]
        rfl
      · simp (disch := decide) only [simprocAttr, pj_up_ap, if_true, if_false]
      · simp (disch := decide) only [simprocAttr, pj_up_ap, if_true, if_false, pj_a3_z]
      · simp (disch := decide) only [simprocAttr, pj_up_ap, if_true, if_false, pj_a3_z]
      · simp (disch := decide) only [simprocAttr, pj_up_ap, if_true, if_false, pj_a3_z]
      · simp (disch := decide) only [simprocAttr, pj_up_ap, if_true, if_false, pj_a3_z]
      · simp (disch := decide) only [simprocAttr, pj_up_ap, if_true, if_false]
      · simp (disch := decide) only [simprocAttr, pj_up_ap, if_true, if_false]
      · simp (disch := decide) only [simprocAttr, pj_up_ap, if_true, if_false, pj_n120_r0]
  obtain ⟨H', h2, h3, h4⟩ := E
  exact ⟨H', h2, h3, h4⟩
theorem c_uinit_99 (h1 : H 1 = .inr (4, 6, .inl (pj_v6 60 150 5 8 40 2))) (h : H 99 = .inl (4, [.null, .null, .null, .null, .null, .null, .null, .int 0, .int 0, .int 0, .int 0])) :
    ∃ H', pj_U H' 99 sp_r0 ∧ (∀ j, j < 99 ∨ 107 < j → H' j = H j) ∧ pj_Ends 1 (0, [some (.ref 99), none], [], (100, S, H)) (none, (108, S + 144, H')) := by
  have y0 : pj_v6 60 150 5 8 40 2 0 = 60 := rfl
  have y1 : pj_v6 60 150 5 8 40 2 1 = 150 := rfl
  have y2 : pj_v6 60 150 5 8 40 2 2 = 5 := rfl
  have y3 : pj_v6 60 150 5 8 40 2 3 = 8 := rfl
  have y4 : pj_v6 60 150 5 8 40 2 4 = 40 := rfl
  have y5 : pj_v6 60 150 5 8 40 2 5 = 2 := rfl
  have E : ∃ H', (H' 99 = pj_uc 99 sp_r0 ∧ H' (99 + 1) = .inr (0, 6, .inl (pj_a6 60 150 5 8 40 2)) ∧ H' (99 + 2) = .inr (0, 3, .inl (pj_a3 0 0 0)) ∧ H' (99 + 3) = .inr (0, 3, .inl (pj_a3 0 0 0)) ∧ H' (99 + 4) = .inr (0, 3, .inl (pj_a3 0 0 0)) ∧ H' (99 + 5) = .inr (0, 3, .inl (pj_a3 0 0 0)) ∧ H' (99 + 6) = .inr (0, 3, .inl (pj_a3 (-6) (-6) (-6))) ∧ H' (99 + 7) = .inl (2, [.ref (99 + 8), .int 0, .int (-6)]) ∧ H' (99 + 8) = .inr (0, 120, .inl (pj_n120 sp_r0))) ∧ (∀ j, j < 99 ∨ 107 < j → H' j = H j) ∧ pj_Ends 1 (0, [some (.ref 99), none], [], (100, S, H)) (none, (108, S + 144, H')) := by
    apply Exists.intro
    refine And.intro ?c (And.intro ?f ?e)
    case e =>
      simp (disch := first | assumption | exact pj_long_i | exact pj_long_r | exact pj_long_n | decide) only [x1_0, x1_1, x1_4, x1_5, x1_7, x1_9, x1_12, x1_13, x1_14, x1_16, x1_19, x1_20, x1_21, x1_23, x1_26, x1_27, x1_28, x1_30, x1_33, x1_34, x1_35, x1_37, x1_40, x1_41, x1_42, x1_44, x1_47, x1_48, x1_51, x1_51i, simprocAttr, pj_then_s, pj_pv_s, pj_pi_s, pj_set_s, if_true, if_false, not_true_eq_false, not_false_eq_true, pj_up_up, pj_so110_109, pj_so111_109, pj_so112_109, pj_so113_109, pj_so114_109, pj_so115_109, pj_so116_109, pj_so117_109, pj_so111_110, pj_so112_110, pj_so113_110, pj_so114_110, pj_so115_110, pj_so116_110, pj_so117_110, pj_so112_111, pj_so113_111, pj_so114_111, pj_so115_111, pj_so116_111, pj_so117_111, pj_so113_112, pj_so114_112, pj_so115_112, pj_so116_112, pj_so117_112, pj_so114_113, pj_so115_113, pj_so116_113, pj_so117_113, pj_so115_114, pj_so116_114, pj_so117_114, pj_so116_115, pj_so117_115, pj_so117_116, pj_up_ap, pj_upd_ap, pj_a3_0, pj_a3_1, pj_a3_2, pj_a3_u0, pj_a3_u1, pj_a3_u2, pj_g4_0, pj_g4_1, pj_g4_2, pj_g4_3, pj_g4_4, pj_s4_0, pj_s4_1, pj_s4_2, pj_s4_3, pj_s4_4, pj_s4_5, h, x1_7 (x := 6) (n' := 6) (by decide) rfl (by decide), x1_14 (x := 3) (n' := 3) (by decide) rfl (by decide), x1_21 (x := 3) (n' := 3) (by decide) rfl (by decide), x1_28 (x := 3) (n' := 3) (by decide) rfl (by decide), x1_35 (x := 3) (n' := 3) (by decide) rfl (by decide), x1_42 (x := 3) (n' := 3) (by decide) rfl (by decide)]
      refine e1_52 rfl (c_cinit (by rw [pj_up_ap, if_pos rfl]) (eq_false (by decide))) ?_
      simp (disch := first | assumption | exact pj_long_i | exact pj_long_r | exact pj_long_n | decide) only [x1_55, x1_58, x1_59, x1_61, x1_64, x1_65, x1_66, x1_67, x1_69, x1_72, x1_73, x1_76, x1_77, x1_80, x1_81, x1_82, x1_83, x1_86, x1_89, x1_90, x1_91, x1_92, x1_93, x1_96, x1_97, x1_100, x1_101, x1_103, x1_104, x1_107, simprocAttr, pj_then_s, pj_pv_s, pj_pi_s, pj_set_s, if_true, if_false, not_true_eq_false, not_false_eq_true, pj_up_up, pj_so110_109, pj_so111_109, pj_so112_109, pj_so113_109, pj_so114_109, pj_so115_109, pj_so116_109, pj_so117_109, pj_so111_110, pj_so112_110, pj_so113_110, pj_so114_110, pj_so115_110, pj_so116_110, pj_so117_110, pj_so112_111, pj_so113_111, pj_so114_111, pj_so115_111, pj_so116_111, pj_so117_111, pj_so113_112, pj_so114_112, pj_so115_112, pj_so116_112, pj_so117_112, pj_so114_113, pj_so115_113, pj_so116_113, pj_so117_113, pj_so115_114, pj_so116_114, pj_so117_114, pj_so116_115, pj_so117_115, pj_so117_116, pj_up_ap, pj_upd_ap, pj_a3_0, pj_a3_1, pj_a3_2, pj_a3_u0, pj_a3_u1, pj_a3_u2, pj_s4_6, pj_s4_7, pj_long_i, pj_long_r, pj_long_n, pj_f4_0, pj_arl_i, pj_ars_i, pj_f4_5, h1, pj_arl_r, y0, y1, y2, y3, y4, y5, pj_set0, pj_fir0]
      exact t1_110
    case f =>
      intro j hj
      simp only [pj_up_ap]
      repeat rw [if_neg (by omega)]
    case c =>
      refine ⟨?_, ?_, ?_, ?_, ?_, ?_, ?_, ?_, ?_⟩
      · simp (disch := decide) only [simprocAttr, pj_up_ap, if_true, if_false]
        rfl
      · simp (disch := decide) only [simprocAttr, pj_up_ap, if_true, if_false]
      · simp (disch := decide) only [simprocAttr, pj_up_ap, if_true, if_false, pj_a3_z]
      · simp (disch := decide) only [simprocAttr, pj_up_ap, if_true, if_false, pj_a3_z]
      · simp (disch := decide) only [simprocAttr, pj_up_ap, if_true, if_false, pj_a3_z]
      · simp (disch := decide) only [simprocAttr, pj_up_ap, if_true, if_false, pj_a3_z]
      · simp (disch := decide) only [simprocAttr, pj_up_ap, if_true, if_false]
      · simp (disch := decide) only [simprocAttr, pj_up_ap, if_true, if_false]
      · simp (disch := decide) only [simprocAttr, pj_up_ap, if_true, if_false, pj_n120_r0]
  obtain ⟨H', h2, h3, h4⟩ := E
  exact ⟨H', h2, h3, h4⟩
end T80
