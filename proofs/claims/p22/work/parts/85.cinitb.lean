/-! THE FIRST STATE: rows of units, the tick, the pad -/
section T81
variable {S : Nat} {H : pj_Heap}
theorem c_isU {A : pj_Heap} {u : Nat} {f : Nat → Int32} (h : pj_U A u f) : pj_isU 4 (A u) = true := by
  rw [h.1]
  rfl
theorem c_newUnits_34 (h1 : H 1 = .inr (4, 6, .inl (pj_v6 60 150 5 8 40 2))) : ∃ H', (∃ q : Nat → Option Nat, H' 34 = .inr (3, 6, .inr q) ∧ q 0 = some 35 ∧ q 1 = some 44 ∧ q 2 = some 53 ∧ q 3 = some 62 ∧ q 4 = some 71 ∧ q 5 = some 80) ∧ (pj_U H' 35 sp_r0 ∧ pj_U H' 44 sp_r0 ∧ pj_U H' 53 sp_r0 ∧ pj_U H' 62 sp_r0 ∧ pj_U H' 71 sp_r0 ∧ pj_U H' 80 sp_r0) ∧ (∀ j, j < 34 ∨ 89 ≤ j → H' j = H j) ∧ pj_Ends 6 (0, [some (.int 6), none, none], [], (34, S, H)) (some (.ref 34), (89, S + 936, H')) := by
  obtain ⟨A0, a0, b0, c0⟩ := c_uinit_35 (S := S + 17) (H := pj_up (pj_up H 34 (.inr (3, 6, .inr (fun _ => none)))) 35 (.inl (4, [.null, .null, .null, .null, .null, .null, .null, .int 0, .int 0, .int 0, .int 0]))) (by rw [pj_up_ap, if_neg (by decide), pj_up_ap, if_neg (by decide)]; exact h1) (by rw [pj_up_ap, if_pos rfl])
  have o0 : A0 1 = .inr (4, 6, .inl (pj_v6 60 150 5 8 40 2)) := (b0 1 (by decide)).trans (by rw [pj_up_ap, if_neg (by decide), pj_up_ap, if_neg (by decide)]; exact h1)
  have g0 : A0 34 = .inr (3, 6, .inr (fun _ => none)) := (b0 34 (by decide)).trans (by rw [pj_up_ap, if_neg (by decide), pj_up_ap, if_pos rfl])
  have w0 : pj_isU 4 (A0 35) = true := c_isU a0
  obtain ⟨A1, a1, b1, c1⟩ := c_uinit_44 (S := S + 172) (H := pj_up (pj_up A0 34 (.inr (3, 6, .inr (va_up (fun _ => none) 0 (some 35))))) 44 (.inl (4, [.null, .null, .null, .null, .null, .null, .null, .int 0, .int 0, .int 0, .int 0]))) (by rw [pj_up_ap, if_neg (by decide), pj_up_ap, if_neg (by decide)]; exact o0) (by rw [pj_up_ap, if_pos rfl])
  have o1 : A1 1 = .inr (4, 6, .inl (pj_v6 60 150 5 8 40 2)) := (b1 1 (by decide)).trans (by rw [pj_up_ap, if_neg (by decide), pj_up_ap, if_neg (by decide)]; exact o0)
  have g1 : A1 34 = .inr (3, 6, .inr (va_up (fun _ => none) 0 (some 35))) := (b1 34 (by decide)).trans (by rw [pj_up_ap, if_neg (by decide), pj_up_ap, if_pos rfl])
  have w1 : pj_isU 4 (A1 44) = true := c_isU a1
  obtain ⟨A2, a2, b2, c2⟩ := c_uinit_53 (S := S + 327) (H := pj_up (pj_up A1 34 (.inr (3, 6, .inr (va_up (va_up (fun _ => none) 0 (some 35)) 1 (some 44))))) 53 (.inl (4, [.null, .null, .null, .null, .null, .null, .null, .int 0, .int 0, .int 0, .int 0]))) (by rw [pj_up_ap, if_neg (by decide), pj_up_ap, if_neg (by decide)]; exact o1) (by rw [pj_up_ap, if_pos rfl])
  have o2 : A2 1 = .inr (4, 6, .inl (pj_v6 60 150 5 8 40 2)) := (b2 1 (by decide)).trans (by rw [pj_up_ap, if_neg (by decide), pj_up_ap, if_neg (by decide)]; exact o1)
  have g2 : A2 34 = .inr (3, 6, .inr (va_up (va_up (fun _ => none) 0 (some 35)) 1 (some 44))) := (b2 34 (by decide)).trans (by rw [pj_up_ap, if_neg (by decide), pj_up_ap, if_pos rfl])
  have w2 : pj_isU 4 (A2 53) = true := c_isU a2
  obtain ⟨A3, a3, b3, c3⟩ := c_uinit_62 (S := S + 482) (H := pj_up (pj_up A2 34 (.inr (3, 6, .inr (va_up (va_up (va_up (fun _ => none) 0 (some 35)) 1 (some 44)) 2 (some 53))))) 62 (.inl (4, [.null, .null, .null, .null, .null, .null, .null, .int 0, .int 0, .int 0, .int 0]))) (by rw [pj_up_ap, if_neg (by decide), pj_up_ap, if_neg (by decide)]; exact o2) (by rw [pj_up_ap, if_pos rfl])
  have o3 : A3 1 = .inr (4, 6, .inl (pj_v6 60 150 5 8 40 2)) := (b3 1 (by decide)).trans (by rw [pj_up_ap, if_neg (by decide), pj_up_ap, if_neg (by decide)]; exact o2)
  have g3 : A3 34 = .inr (3, 6, .inr (va_up (va_up (va_up (fun _ => none) 0 (some 35)) 1 (some 44)) 2 (some 53))) := (b3 34 (by decide)).trans (by rw [pj_up_ap, if_neg (by decide), pj_up_ap, if_pos rfl])
  have w3 : pj_isU 4 (A3 62) = true := c_isU a3
  obtain ⟨A4, a4, b4, c4⟩ := c_uinit_71 (S := S + 637) (H := pj_up (pj_up A3 34 (.inr (3, 6, .inr (va_up (va_up (va_up (va_up (fun _ => none) 0 (some 35)) 1 (some 44)) 2 (some 53)) 3 (some 62))))) 71 (.inl (4, [.null, .null, .null, .null, .null, .null, .null, .int 0, .int 0, .int 0, .int 0]))) (by rw [pj_up_ap, if_neg (by decide), pj_up_ap, if_neg (by decide)]; exact o3) (by rw [pj_up_ap, if_pos rfl])
  have o4 : A4 1 = .inr (4, 6, .inl (pj_v6 60 150 5 8 40 2)) := (b4 1 (by decide)).trans (by rw [pj_up_ap, if_neg (by decide), pj_up_ap, if_neg (by decide)]; exact o3)
  have g4 : A4 34 = .inr (3, 6, .inr (va_up (va_up (va_up (va_up (fun _ => none) 0 (some 35)) 1 (some 44)) 2 (some 53)) 3 (some 62))) := (b4 34 (by decide)).trans (by rw [pj_up_ap, if_neg (by decide), pj_up_ap, if_pos rfl])
  have w4 : pj_isU 4 (A4 71) = true := c_isU a4
  obtain ⟨A5, a5, b5, c5⟩ := c_uinit_80 (S := S + 792) (H := pj_up (pj_up A4 34 (.inr (3, 6, .inr (va_up (va_up (va_up (va_up (va_up (fun _ => none) 0 (some 35)) 1 (some 44)) 2 (some 53)) 3 (some 62)) 4 (some 71))))) 80 (.inl (4, [.null, .null, .null, .null, .null, .null, .null, .int 0, .int 0, .int 0, .int 0]))) (by rw [pj_up_ap, if_neg (by decide), pj_up_ap, if_neg (by decide)]; exact o4) (by rw [pj_up_ap, if_pos rfl])
  have o5 : A5 1 = .inr (4, 6, .inl (pj_v6 60 150 5 8 40 2)) := (b5 1 (by decide)).trans (by rw [pj_up_ap, if_neg (by decide), pj_up_ap, if_neg (by decide)]; exact o4)
  have g5 : A5 34 = .inr (3, 6, .inr (va_up (va_up (va_up (va_up (va_up (fun _ => none) 0 (some 35)) 1 (some 44)) 2 (some 53)) 3 (some 62)) 4 (some 71))) := (b5 34 (by decide)).trans (by rw [pj_up_ap, if_neg (by decide), pj_up_ap, if_pos rfl])
  have w5 : pj_isU 4 (A5 80) = true := c_isU a5
  refine ⟨pj_up A5 34 (.inr (3, 6, .inr (va_up (va_up (va_up (va_up (va_up (va_up (fun _ => none) 0 (some 35)) 1 (some 44)) 2 (some 53)) 3 (some 62)) 4 (some 71)) 5 (some 80)))), ⟨(va_up (va_up (va_up (va_up (va_up (va_up (fun _ => none) 0 (some 35)) 1 (some 44)) 2 (some 53)) 3 (some 62)) 4 (some 71)) 5 (some 80)), by rw [pj_up_ap, if_pos rfl], rfl, rfl, rfl, rfl, rfl, rfl⟩, ⟨?u0, ?u1, ?u2, ?u3, ?u4, ?u5⟩, ?_, ?_⟩
  case u0 =>
    refine a0.frame (fun k hk => ?_)
    rw [pj_up_ap, if_neg (by omega)]
    rw [b5 _ (by omega), pj_up_ap, if_neg (by omega), pj_up_ap, if_neg (by omega)]
    rw [b4 _ (by omega), pj_up_ap, if_neg (by omega), pj_up_ap, if_neg (by omega)]
    rw [b3 _ (by omega), pj_up_ap, if_neg (by omega), pj_up_ap, if_neg (by omega)]
    rw [b2 _ (by omega), pj_up_ap, if_neg (by omega), pj_up_ap, if_neg (by omega)]
    rw [b1 _ (by omega), pj_up_ap, if_neg (by omega), pj_up_ap, if_neg (by omega)]
  case u1 =>
    refine a1.frame (fun k hk => ?_)
    rw [pj_up_ap, if_neg (by omega)]
    rw [b5 _ (by omega), pj_up_ap, if_neg (by omega), pj_up_ap, if_neg (by omega)]
    rw [b4 _ (by omega), pj_up_ap, if_neg (by omega), pj_up_ap, if_neg (by omega)]
    rw [b3 _ (by omega), pj_up_ap, if_neg (by omega), pj_up_ap, if_neg (by omega)]
    rw [b2 _ (by omega), pj_up_ap, if_neg (by omega), pj_up_ap, if_neg (by omega)]
  case u2 =>
    refine a2.frame (fun k hk => ?_)
    rw [pj_up_ap, if_neg (by omega)]
    rw [b5 _ (by omega), pj_up_ap, if_neg (by omega), pj_up_ap, if_neg (by omega)]
    rw [b4 _ (by omega), pj_up_ap, if_neg (by omega), pj_up_ap, if_neg (by omega)]
    rw [b3 _ (by omega), pj_up_ap, if_neg (by omega), pj_up_ap, if_neg (by omega)]
  case u3 =>
    refine a3.frame (fun k hk => ?_)
    rw [pj_up_ap, if_neg (by omega)]
    rw [b5 _ (by omega), pj_up_ap, if_neg (by omega), pj_up_ap, if_neg (by omega)]
    rw [b4 _ (by omega), pj_up_ap, if_neg (by omega), pj_up_ap, if_neg (by omega)]
  case u4 =>
    refine a4.frame (fun k hk => ?_)
    rw [pj_up_ap, if_neg (by omega)]
    rw [b5 _ (by omega), pj_up_ap, if_neg (by omega), pj_up_ap, if_neg (by omega)]
  case u5 =>
    refine a5.frame (fun k hk => ?_)
    rw [pj_up_ap, if_neg (by omega)]
  · intro j hj
    rw [pj_up_ap, if_neg (by omega)]
    rw [b5 j (by omega), pj_up_ap, if_neg (by omega), pj_up_ap, if_neg (by omega)]
    rw [b4 j (by omega), pj_up_ap, if_neg (by omega), pj_up_ap, if_neg (by omega)]
    rw [b3 j (by omega), pj_up_ap, if_neg (by omega), pj_up_ap, if_neg (by omega)]
    rw [b2 j (by omega), pj_up_ap, if_neg (by omega), pj_up_ap, if_neg (by omega)]
    rw [b1 j (by omega), pj_up_ap, if_neg (by omega), pj_up_ap, if_neg (by omega)]
    rw [b0 j (by omega), pj_up_ap, if_neg (by omega), pj_up_ap, if_neg (by omega)]
  · simp (disch := first | assumption | exact pj_long_i | exact pj_long_r | exact pj_long_n | decide) only [x6_0, x6_1, x6_4, x6_5, x6_6, x6_7, x6_8, x6_9, x6_10, x6_13, x6_14, x6_15, x6_18, x6_18i, simprocAttr, pj_then_s, pj_pv_s, pj_pi_s, pj_set_s, if_true, if_false, not_true_eq_false, not_false_eq_true, pj_up_up, pj_so110_109, pj_so111_109, pj_so112_109, pj_so113_109, pj_so114_109, pj_so115_109, pj_so116_109, pj_so117_109, pj_so111_110, pj_so112_110, pj_so113_110, pj_so114_110, pj_so115_110, pj_so116_110, pj_so117_110, pj_so112_111, pj_so113_111, pj_so114_111, pj_so115_111, pj_so116_111, pj_so117_111, pj_so113_112, pj_so114_112, pj_so115_112, pj_so116_112, pj_so117_112, pj_so114_113, pj_so115_113, pj_so116_113, pj_so117_113, pj_so115_114, pj_so116_114, pj_so117_114, pj_so116_115, pj_so117_115, pj_so117_116, pj_up_ap, pj_upd_ap, pj_a3_0, pj_a3_1, pj_a3_2, pj_a3_u0, pj_a3_u1, pj_a3_u2, pj_long_i, pj_long_r, pj_long_n, pj_len_i, x6_1 (x := 6) (n' := 6) (by decide) rfl (by decide), pj_len_i]
    refine e6_19 rfl c0 ?_
    simp (disch := first | assumption | exact pj_long_i | exact pj_long_r | exact pj_long_n | decide) only [x6_7, x6_8, x6_9, x6_10, x6_13, x6_14, x6_15, x6_18, x6_18i, x6_22, x6_23, x6_26, simprocAttr, pj_then_s, pj_pv_s, pj_pi_s, pj_set_s, if_true, if_false, not_true_eq_false, not_false_eq_true, pj_up_up, pj_so110_109, pj_so111_109, pj_so112_109, pj_so113_109, pj_so114_109, pj_so115_109, pj_so116_109, pj_so117_109, pj_so111_110, pj_so112_110, pj_so113_110, pj_so114_110, pj_so115_110, pj_so116_110, pj_so117_110, pj_so112_111, pj_so113_111, pj_so114_111, pj_so115_111, pj_so116_111, pj_so117_111, pj_so113_112, pj_so114_112, pj_so115_112, pj_so116_112, pj_so117_112, pj_so114_113, pj_so115_113, pj_so116_113, pj_so117_113, pj_so115_114, pj_so116_114, pj_so117_114, pj_so116_115, pj_so117_115, pj_so117_116, pj_up_ap, pj_upd_ap, pj_a3_0, pj_a3_1, pj_a3_2, pj_a3_u0, pj_a3_u1, pj_a3_u2, pj_len_i, pj_qrs_i, pj_long_i, pj_long_r, pj_long_n, w0, g0, pj_qrs_i, pj_len_i]
    refine e6_19 rfl c1 ?_
    simp (disch := first | assumption | exact pj_long_i | exact pj_long_r | exact pj_long_n | decide) only [x6_7, x6_8, x6_9, x6_10, x6_13, x6_14, x6_15, x6_18, x6_18i, x6_22, x6_23, x6_26, simprocAttr, pj_then_s, pj_pv_s, pj_pi_s, pj_set_s, if_true, if_false, not_true_eq_false, not_false_eq_true, pj_up_up, pj_so110_109, pj_so111_109, pj_so112_109, pj_so113_109, pj_so114_109, pj_so115_109, pj_so116_109, pj_so117_109, pj_so111_110, pj_so112_110, pj_so113_110, pj_so114_110, pj_so115_110, pj_so116_110, pj_so117_110, pj_so112_111, pj_so113_111, pj_so114_111, pj_so115_111, pj_so116_111, pj_so117_111, pj_so113_112, pj_so114_112, pj_so115_112, pj_so116_112, pj_so117_112, pj_so114_113, pj_so115_113, pj_so116_113, pj_so117_113, pj_so115_114, pj_so116_114, pj_so117_114, pj_so116_115, pj_so117_115, pj_so117_116, pj_up_ap, pj_upd_ap, pj_a3_0, pj_a3_1, pj_a3_2, pj_a3_u0, pj_a3_u1, pj_a3_u2, pj_len_i, pj_qrs_i, pj_long_i, pj_long_r, pj_long_n, w1, g1, pj_qrs_i, pj_len_i]
    refine e6_19 rfl c2 ?_
    simp (disch := first | assumption | exact pj_long_i | exact pj_long_r | exact pj_long_n | decide) only [x6_7, x6_8, x6_9, x6_10, x6_13, x6_14, x6_15, x6_18, x6_18i, x6_22, x6_23, x6_26, simprocAttr, pj_then_s, pj_pv_s, pj_pi_s, pj_set_s, if_true, if_false, not_true_eq_false, not_false_eq_true, pj_up_up, pj_so110_109, pj_so111_109, pj_so112_109, pj_so113_109, pj_so114_109, pj_so115_109, pj_so116_109, pj_so117_109, pj_so111_110, pj_so112_110, pj_so113_110, pj_so114_110, pj_so115_110, pj_so116_110, pj_so117_110, pj_so112_111, pj_so113_111, pj_so114_111, pj_so115_111, pj_so116_111, pj_so117_111, pj_so113_112, pj_so114_112, pj_so115_112, pj_so116_112, pj_so117_112, pj_so114_113, pj_so115_113, pj_so116_113, pj_so117_113, pj_so115_114, pj_so116_114, pj_so117_114, pj_so116_115, pj_so117_115, pj_so117_116, pj_up_ap, pj_upd_ap, pj_a3_0, pj_a3_1, pj_a3_2, pj_a3_u0, pj_a3_u1, pj_a3_u2, pj_len_i, pj_qrs_i, pj_long_i, pj_long_r, pj_long_n, w2, g2, pj_qrs_i, pj_len_i]
    refine e6_19 rfl c3 ?_
    simp (disch := first | assumption | exact pj_long_i | exact pj_long_r | exact pj_long_n | decide) only [x6_7, x6_8, x6_9, x6_10, x6_13, x6_14, x6_15, x6_18, x6_18i, x6_22, x6_23, x6_26, simprocAttr, pj_then_s, pj_pv_s, pj_pi_s, pj_set_s, if_true, if_false, not_true_eq_false, not_false_eq_true, pj_up_up, pj_so110_109, pj_so111_109, pj_so112_109, pj_so113_109, pj_so114_109, pj_so115_109, pj_so116_109, pj_so117_109, pj_so111_110, pj_so112_110, pj_so113_110, pj_so114_110, pj_so115_110, pj_so116_110, pj_so117_110, pj_so112_111, pj_so113_111, pj_so114_111, pj_so115_111, pj_so116_111, pj_so117_111, pj_so113_112, pj_so114_112, pj_so115_112, pj_so116_112, pj_so117_112, pj_so114_113, pj_so115_113, pj_so116_113, pj_so117_113, pj_so115_114, pj_so116_114, pj_so117_114, pj_so116_115, pj_so117_115, pj_so117_116, pj_up_ap, pj_upd_ap, pj_a3_0, pj_a3_1, pj_a3_2, pj_a3_u0, pj_a3_u1, pj_a3_u2, pj_len_i, pj_qrs_i, pj_long_i, pj_long_r, pj_long_n, w3, g3, pj_qrs_i, pj_len_i]
    refine e6_19 rfl c4 ?_
    simp (disch := first | assumption | exact pj_long_i | exact pj_long_r | exact pj_long_n | decide) only [x6_7, x6_8, x6_9, x6_10, x6_13, x6_14, x6_15, x6_18, x6_18i, x6_22, x6_23, x6_26, simprocAttr, pj_then_s, pj_pv_s, pj_pi_s, pj_set_s, if_true, if_false, not_true_eq_false, not_false_eq_true, pj_up_up, pj_so110_109, pj_so111_109, pj_so112_109, pj_so113_109, pj_so114_109, pj_so115_109, pj_so116_109, pj_so117_109, pj_so111_110, pj_so112_110, pj_so113_110, pj_so114_110, pj_so115_110, pj_so116_110, pj_so117_110, pj_so112_111, pj_so113_111, pj_so114_111, pj_so115_111, pj_so116_111, pj_so117_111, pj_so113_112, pj_so114_112, pj_so115_112, pj_so116_112, pj_so117_112, pj_so114_113, pj_so115_113, pj_so116_113, pj_so117_113, pj_so115_114, pj_so116_114, pj_so117_114, pj_so116_115, pj_so117_115, pj_so117_116, pj_up_ap, pj_upd_ap, pj_a3_0, pj_a3_1, pj_a3_2, pj_a3_u0, pj_a3_u1, pj_a3_u2, pj_len_i, pj_qrs_i, pj_long_i, pj_long_r, pj_long_n, w4, g4, pj_qrs_i, pj_len_i]
    refine e6_19 rfl c5 ?_
    simp (disch := first | assumption | exact pj_long_i | exact pj_long_r | exact pj_long_n | decide) only [x6_7, x6_8, x6_9, x6_10, x6_13, x6_14, x6_15, x6_18, x6_18i, x6_22, x6_23, x6_26, simprocAttr, pj_then_s, pj_pv_s, pj_pi_s, pj_set_s, if_true, if_false, not_true_eq_false, not_false_eq_true, pj_up_up, pj_so110_109, pj_so111_109, pj_so112_109, pj_so113_109, pj_so114_109, pj_so115_109, pj_so116_109, pj_so117_109, pj_so111_110, pj_so112_110, pj_so113_110, pj_so114_110, pj_so115_110, pj_so116_110, pj_so117_110, pj_so112_111, pj_so113_111, pj_so114_111, pj_so115_111, pj_so116_111, pj_so117_111, pj_so113_112, pj_so114_112, pj_so115_112, pj_so116_112, pj_so117_112, pj_so114_113, pj_so115_113, pj_so116_113, pj_so117_113, pj_so115_114, pj_so116_114, pj_so117_114, pj_so116_115, pj_so117_115, pj_so117_116, pj_up_ap, pj_upd_ap, pj_a3_0, pj_a3_1, pj_a3_2, pj_a3_u0, pj_a3_u1, pj_a3_u2, pj_len_i, pj_qrs_i, pj_long_i, pj_long_r, pj_long_n, w5, g5, pj_qrs_i, pj_len_i]
    simp (disch := first | assumption | exact pj_long_i | exact pj_long_r | exact pj_long_n | decide) only [x6_29, simprocAttr, pj_then_s, pj_pv_s, pj_pi_s, pj_set_s, if_true, if_false, not_true_eq_false, not_false_eq_true, pj_up_up, pj_so110_109, pj_so111_109, pj_so112_109, pj_so113_109, pj_so114_109, pj_so115_109, pj_so116_109, pj_so117_109, pj_so111_110, pj_so112_110, pj_so113_110, pj_so114_110, pj_so115_110, pj_so116_110, pj_so117_110, pj_so112_111, pj_so113_111, pj_so114_111, pj_so115_111, pj_so116_111, pj_so117_111, pj_so113_112, pj_so114_112, pj_so115_112, pj_so116_112, pj_so117_112, pj_so114_113, pj_so115_113, pj_so116_113, pj_so117_113, pj_so115_114, pj_so116_114, pj_so117_114, pj_so116_115, pj_so117_115, pj_so117_116, pj_up_ap, pj_upd_ap, pj_a3_0, pj_a3_1, pj_a3_2, pj_a3_u0, pj_a3_u1, pj_a3_u2]
    exact t6_30
theorem c_newUnits_89 (h1 : H 1 = .inr (4, 6, .inl (pj_v6 60 150 5 8 40 2))) : ∃ H', (∃ q : Nat → Option Nat, H' 89 = .inr (3, 2, .inr q) ∧ q 0 = some 90 ∧ q 1 = some 99) ∧ (pj_U H' 90 sp_r0 ∧ pj_U H' 99 sp_r0) ∧ (∀ j, j < 89 ∨ 108 ≤ j → H' j = H j) ∧ pj_Ends 6 (0, [some (.int 2), none, none], [], (89, S, H)) (some (.ref 89), (108, S + 312, H')) := by
  obtain ⟨A0, a0, b0, c0⟩ := c_uinit_90 (S := S + 13) (H := pj_up (pj_up H 89 (.inr (3, 2, .inr (fun _ => none)))) 90 (.inl (4, [.null, .null, .null, .null, .null, .null, .null, .int 0, .int 0, .int 0, .int 0]))) (by rw [pj_up_ap, if_neg (by decide), pj_up_ap, if_neg (by decide)]; exact h1) (by rw [pj_up_ap, if_pos rfl])
  have o0 : A0 1 = .inr (4, 6, .inl (pj_v6 60 150 5 8 40 2)) := (b0 1 (by decide)).trans (by rw [pj_up_ap, if_neg (by decide), pj_up_ap, if_neg (by decide)]; exact h1)
  have g0 : A0 89 = .inr (3, 2, .inr (fun _ => none)) := (b0 89 (by decide)).trans (by rw [pj_up_ap, if_neg (by decide), pj_up_ap, if_pos rfl])
  have w0 : pj_isU 4 (A0 90) = true := c_isU a0
  obtain ⟨A1, a1, b1, c1⟩ := c_uinit_99 (S := S + 168) (H := pj_up (pj_up A0 89 (.inr (3, 2, .inr (va_up (fun _ => none) 0 (some 90))))) 99 (.inl (4, [.null, .null, .null, .null, .null, .null, .null, .int 0, .int 0, .int 0, .int 0]))) (by rw [pj_up_ap, if_neg (by decide), pj_up_ap, if_neg (by decide)]; exact o0) (by rw [pj_up_ap, if_pos rfl])
  have o1 : A1 1 = .inr (4, 6, .inl (pj_v6 60 150 5 8 40 2)) := (b1 1 (by decide)).trans (by rw [pj_up_ap, if_neg (by decide), pj_up_ap, if_neg (by decide)]; exact o0)
  have g1 : A1 89 = .inr (3, 2, .inr (va_up (fun _ => none) 0 (some 90))) := (b1 89 (by decide)).trans (by rw [pj_up_ap, if_neg (by decide), pj_up_ap, if_pos rfl])
  have w1 : pj_isU 4 (A1 99) = true := c_isU a1
  refine ⟨pj_up A1 89 (.inr (3, 2, .inr (va_up (va_up (fun _ => none) 0 (some 90)) 1 (some 99)))), ⟨(va_up (va_up (fun _ => none) 0 (some 90)) 1 (some 99)), by rw [pj_up_ap, if_pos rfl], rfl, rfl⟩, ⟨?u0, ?u1⟩, ?_, ?_⟩
  case u0 =>
    refine a0.frame (fun k hk => ?_)
    rw [pj_up_ap, if_neg (by omega)]
    rw [b1 _ (by omega), pj_up_ap, if_neg (by omega), pj_up_ap, if_neg (by omega)]
  case u1 =>
    refine a1.frame (fun k hk => ?_)
    rw [pj_up_ap, if_neg (by omega)]
  · intro j hj
    rw [pj_up_ap, if_neg (by omega)]
    rw [b1 j (by omega), pj_up_ap, if_neg (by omega), pj_up_ap, if_neg (by omega)]
    rw [b0 j (by omega), pj_up_ap, if_neg (by omega), pj_up_ap, if_neg (by omega)]
  · simp (disch := first | assumption | exact pj_long_i | exact pj_long_r | exact pj_long_n | decide) only [x6_0, x6_1, x6_4, x6_5, x6_6, x6_7, x6_8, x6_9, x6_10, x6_13, x6_14, x6_15, x6_18, x6_18i, simprocAttr, pj_then_s, pj_pv_s, pj_pi_s, pj_set_s, if_true, if_false, not_true_eq_false, not_false_eq_true, pj_up_up, pj_so110_109, pj_so111_109, pj_so112_109, pj_so113_109, pj_so114_109, pj_so115_109, pj_so116_109, pj_so117_109, pj_so111_110, pj_so112_110, pj_so113_110, pj_so114_110, pj_so115_110, pj_so116_110, pj_so117_110, pj_so112_111, pj_so113_111, pj_so114_111, pj_so115_111, pj_so116_111, pj_so117_111, pj_so113_112, pj_so114_112, pj_so115_112, pj_so116_112, pj_so117_112, pj_so114_113, pj_so115_113, pj_so116_113, pj_so117_113, pj_so115_114, pj_so116_114, pj_so117_114, pj_so116_115, pj_so117_115, pj_so117_116, pj_up_ap, pj_upd_ap, pj_a3_0, pj_a3_1, pj_a3_2, pj_a3_u0, pj_a3_u1, pj_a3_u2, pj_long_i, pj_long_r, pj_long_n, pj_len_i, x6_1 (x := 2) (n' := 2) (by decide) rfl (by decide), pj_len_i]
    refine e6_19 rfl c0 ?_
    simp (disch := first | assumption | exact pj_long_i | exact pj_long_r | exact pj_long_n | decide) only [x6_7, x6_8, x6_9, x6_10, x6_13, x6_14, x6_15, x6_18, x6_18i, x6_22, x6_23, x6_26, simprocAttr, pj_then_s, pj_pv_s, pj_pi_s, pj_set_s, if_true, if_false, not_true_eq_false, not_false_eq_true, pj_up_up, pj_so110_109, pj_so111_109, pj_so112_109, pj_so113_109, pj_so114_109, pj_so115_109, pj_so116_109, pj_so117_109, pj_so111_110, pj_so112_110, pj_so113_110, pj_so114_110, pj_so115_110, pj_so116_110, pj_so117_110, pj_so112_111, pj_so113_111, pj_so114_111, pj_so115_111, pj_so116_111, pj_so117_111, pj_so113_112, pj_so114_112, pj_so115_112, pj_so116_112, pj_so117_112, pj_so114_113, pj_so115_113, pj_so116_113, pj_so117_113, pj_so115_114, pj_so116_114, pj_so117_114, pj_so116_115, pj_so117_115, pj_so117_116, pj_up_ap, pj_upd_ap, pj_a3_0, pj_a3_1, pj_a3_2, pj_a3_u0, pj_a3_u1, pj_a3_u2, pj_len_i, pj_qrs_i, pj_long_i, pj_long_r, pj_long_n, w0, g0, pj_qrs_i, pj_len_i]
    refine e6_19 rfl c1 ?_
    simp (disch := first | assumption | exact pj_long_i | exact pj_long_r | exact pj_long_n | decide) only [x6_7, x6_8, x6_9, x6_10, x6_13, x6_14, x6_15, x6_18, x6_18i, x6_22, x6_23, x6_26, simprocAttr, pj_then_s, pj_pv_s, pj_pi_s, pj_set_s, if_true, if_false, not_true_eq_false, not_false_eq_true, pj_up_up, pj_so110_109, pj_so111_109, pj_so112_109, pj_so113_109, pj_so114_109, pj_so115_109, pj_so116_109, pj_so117_109, pj_so111_110, pj_so112_110, pj_so113_110, pj_so114_110, pj_so115_110, pj_so116_110, pj_so117_110, pj_so112_111, pj_so113_111, pj_so114_111, pj_so115_111, pj_so116_111, pj_so117_111, pj_so113_112, pj_so114_112, pj_so115_112, pj_so116_112, pj_so117_112, pj_so114_113, pj_so115_113, pj_so116_113, pj_so117_113, pj_so115_114, pj_so116_114, pj_so117_114, pj_so116_115, pj_so117_115, pj_so117_116, pj_up_ap, pj_upd_ap, pj_a3_0, pj_a3_1, pj_a3_2, pj_a3_u0, pj_a3_u1, pj_a3_u2, pj_len_i, pj_qrs_i, pj_long_i, pj_long_r, pj_long_n, w1, g1, pj_qrs_i, pj_len_i]
    simp (disch := first | assumption | exact pj_long_i | exact pj_long_r | exact pj_long_n | decide) only [x6_29, simprocAttr, pj_then_s, pj_pv_s, pj_pi_s, pj_set_s, if_true, if_false, not_true_eq_false, not_false_eq_true, pj_up_up, pj_so110_109, pj_so111_109, pj_so112_109, pj_so113_109, pj_so114_109, pj_so115_109, pj_so116_109, pj_so117_109, pj_so111_110, pj_so112_110, pj_so113_110, pj_so114_110, pj_so115_110, pj_so116_110, pj_so117_110, pj_so112_111, pj_so113_111, pj_so114_111, pj_so115_111, pj_so116_111, pj_so117_111, pj_so113_112, pj_so114_112, pj_so115_112, pj_so116_112, pj_so117_112, pj_so114_113, pj_so115_113, pj_so116_113, pj_so117_113, pj_so115_114, pj_so116_114, pj_so117_114, pj_so116_115, pj_so117_115, pj_so117_116, pj_up_ap, pj_upd_ap, pj_a3_0, pj_a3_1, pj_a3_2, pj_a3_u0, pj_a3_u1, pj_a3_u2]
    exact t6_30
theorem c_tinit (h : H 23 = .inl (3, [.null, .null, .null, .null, .null, .null, .int 0, .int 0, .int 0, .int 0, .int 0, .int 0, .int 0, .int 0])) : ∃ H', pj_Tk H' ∧ (∀ j, j < 23 ∨ 29 < j → H' j = H j) ∧ pj_Ends 3 (0, [some (.ref 23)], [], (24, S, H)) (none, (30, S + 18, H')) := by
  have E : ∃ H', (H' 23 = pj_tc 0 0 0 0 0 0 0 0 ∧ H' 24 = .inr (0, 3, .inl (pj_a3 0 0 0)) ∧ H' 25 = .inr (0, 3, .inl (pj_a3 0 0 0)) ∧ H' 26 = .inr (0, 3, .inl (pj_a3 0 0 0)) ∧ H' 27 = .inr (0, 3, .inl (pj_a3 0 0 0)) ∧ H' 28 = .inr (0, 3, .inl (pj_a3 0 0 0)) ∧ H' 29 = .inr (0, 3, .inl (pj_a3 0 0 0))) ∧ (∀ j, j < 23 ∨ 29 < j → H' j = H j) ∧ pj_Ends 3 (0, [some (.ref 23)], [], (24, S, H)) (none, (30, S + 18, H')) := by
    apply Exists.intro
    refine And.intro ?c (And.intro ?f ?e)
    case e =>
      simp (disch := first | assumption | exact pj_long_i | exact pj_long_r | exact pj_long_n | decide) only [x3_0, x3_1, x3_4, x3_5, x3_6, x3_8, x3_11, x3_12, x3_13, x3_15, x3_18, x3_19, x3_20, x3_22, x3_25, x3_26, x3_27, x3_29, x3_32, x3_33, x3_34, x3_36, x3_39, x3_40, x3_41, x3_43, simprocAttr, pj_then_s, pj_pv_s, pj_pi_s, pj_set_s, if_true, if_false, not_true_eq_false, not_false_eq_true, pj_up_up, pj_so110_109, pj_so111_109, pj_so112_109, pj_so113_109, pj_so114_109, pj_so115_109, pj_so116_109, pj_so117_109, pj_so111_110, pj_so112_110, pj_so113_110, pj_so114_110, pj_so115_110, pj_so116_110, pj_so117_110, pj_so112_111, pj_so113_111, pj_so114_111, pj_so115_111, pj_so116_111, pj_so117_111, pj_so113_112, pj_so114_112, pj_so115_112, pj_so116_112, pj_so117_112, pj_so114_113, pj_so115_113, pj_so116_113, pj_so117_113, pj_so115_114, pj_so116_114, pj_so117_114, pj_so116_115, pj_so117_115, pj_so117_116, pj_up_ap, pj_upd_ap, pj_a3_0, pj_a3_1, pj_a3_2, pj_a3_u0, pj_a3_u1, pj_a3_u2, pj_g4_0, pj_g4_1, pj_g4_2, pj_g4_3, pj_g4_4, pj_s3_0, pj_s3_1, pj_s3_2, pj_s3_3, pj_s3_4, pj_s3_5, h, x3_6 (x := 3) (n' := 3) (by decide) rfl (by decide), x3_13 (x := 3) (n' := 3) (by decide) rfl (by decide), x3_20 (x := 3) (n' := 3) (by decide) rfl (by decide), x3_27 (x := 3) (n' := 3) (by decide) rfl (by decide), x3_34 (x := 3) (n' := 3) (by decide) rfl (by decide), x3_41 (x := 3) (n' := 3) (by decide) rfl (by decide)]
      exact t3_46
    case f =>
      intro j hj
      simp only [pj_up_ap]
      repeat rw [if_neg (by omega)]
    case c =>
      refine ⟨?_, ?_, ?_, ?_, ?_, ?_, ?_⟩
      · simp (disch := decide) only [simprocAttr, pj_up_ap, if_true, if_false]
        rfl
      · simp (disch := decide) only [simprocAttr, pj_up_ap, if_true, if_false, pj_a3_z]
      · simp (disch := decide) only [simprocAttr, pj_up_ap, if_true, if_false, pj_a3_z]
      · simp (disch := decide) only [simprocAttr, pj_up_ap, if_true, if_false, pj_a3_z]
      · simp (disch := decide) only [simprocAttr, pj_up_ap, if_true, if_false, pj_a3_z]
      · simp (disch := decide) only [simprocAttr, pj_up_ap, if_true, if_false, pj_a3_z]
      · simp (disch := decide) only [simprocAttr, pj_up_ap, if_true, if_false, pj_a3_z]
  obtain ⟨H', ⟨h0, h1, h2, h3, h4, h5, h6⟩, hF, hE⟩ := E
  exact ⟨H', ⟨_, _, _, _, _, _, _, _, _, _, _, _, _, _, _, _, _, _, _, _, _, _, _, _, _, _, h0, h1, h2, h3, h4, h5, h6⟩, hF, hE⟩
theorem c_rinit (h : H 32 = .inl (1, [.null, .int 0, .int 0, .int 0, .int 0, .int 0])) : pj_Ends 5 (0, [some (.ref 32)], [], (33, S, H)) (none, (34, S + 3, pj_up (pj_up H 33 (.inr (0, 3, .inl (fun _ => 0)))) 32 (pj_rc 0 0 0 0 0))) := by
  simp (disch := first | assumption | exact pj_long_i | exact pj_long_r | exact pj_long_n | decide) only [x5_0, x5_1, x5_4, x5_5, x5_6, x5_8, simprocAttr, pj_then_s, pj_pv_s, pj_pi_s, pj_set_s, if_true, if_false, not_true_eq_false, not_false_eq_true, pj_up_up, pj_so110_109, pj_so111_109, pj_so112_109, pj_so113_109, pj_so114_109, pj_so115_109, pj_so116_109, pj_so117_109, pj_so111_110, pj_so112_110, pj_so113_110, pj_so114_110, pj_so115_110, pj_so116_110, pj_so117_110, pj_so112_111, pj_so113_111, pj_so114_111, pj_so115_111, pj_so116_111, pj_so117_111, pj_so113_112, pj_so114_112, pj_so115_112, pj_so116_112, pj_so117_112, pj_so114_113, pj_so115_113, pj_so116_113, pj_so117_113, pj_so115_114, pj_so116_114, pj_so117_114, pj_so116_115, pj_so117_115, pj_so117_116, pj_up_ap, pj_upd_ap, pj_a3_0, pj_a3_1, pj_a3_2, pj_a3_u0, pj_a3_u1, pj_a3_u2, pj_g4_0, pj_g4_1, pj_g4_2, pj_g4_3, pj_g4_4, pj_s1_0, h, pj_rc, x5_6 (x := 3) (n' := 3) (by decide) rfl (by decide)]
  exact t5_11
theorem c_pinit (h : H 30 = .inl (0, [.null, .null, .int 0])) : ∃ H', pj_CP H' 0 (fun _ => 0) ∧ (∀ j, j < 30 ∨ 33 < j → H' j = H j) ∧ pj_Ends 4 (0, [some (.ref 30)], [], (31, S, H)) (none, (34, S + 89, H')) := by
  have E : ∃ H', (H' 30 = pj_pc 0 ∧ H' 31 = .inr (1, 80, .inl (fun _ => 0)) ∧ H' 32 = pj_rc 0 0 0 0 0 ∧ H' 33 = .inr (0, 3, .inl (fun _ => 0))) ∧ (∀ j, j < 30 ∨ 33 < j → H' j = H j) ∧ pj_Ends 4 (0, [some (.ref 30)], [], (31, S, H)) (none, (34, S + 89, H')) := by
    apply Exists.intro
    refine And.intro ?c (And.intro ?f ?e)
    case e =>
      simp (disch := first | assumption | exact pj_long_i | exact pj_long_r | exact pj_long_n | decide) only [x4_0, x4_1, x4_4, x4_5, x4_7, x4_9, x4_12, x4_13, x4_16, x4_16i, simprocAttr, pj_then_s, pj_pv_s, pj_pi_s, pj_set_s, if_true, if_false, not_true_eq_false, not_false_eq_true, pj_up_up, pj_so110_109, pj_so111_109, pj_so112_109, pj_so113_109, pj_so114_109, pj_so115_109, pj_so116_109, pj_so117_109, pj_so111_110, pj_so112_110, pj_so113_110, pj_so114_110, pj_so115_110, pj_so116_110, pj_so117_110, pj_so112_111, pj_so113_111, pj_so114_111, pj_so115_111, pj_so116_111, pj_so117_111, pj_so113_112, pj_so114_112, pj_so115_112, pj_so116_112, pj_so117_112, pj_so114_113, pj_so115_113, pj_so116_113, pj_so117_113, pj_so115_114, pj_so116_114, pj_so117_114, pj_so116_115, pj_so117_115, pj_so117_116, pj_up_ap, pj_upd_ap, pj_a3_0, pj_a3_1, pj_a3_2, pj_a3_u0, pj_a3_u1, pj_a3_u2, pj_g4_0, pj_g4_1, pj_g4_2, pj_g4_3, pj_g4_4, pj_s0_0, h, x4_7 (x := 80) (n' := 80) (by decide) rfl (by decide)]
      refine e4_17 rfl (c_rinit (by rw [pj_up_ap, if_pos rfl])) ?_
      simp (disch := first | assumption | exact pj_long_i | exact pj_long_r | exact pj_long_n | decide) only [x4_20, simprocAttr, pj_then_s, pj_pv_s, pj_pi_s, pj_set_s, if_true, if_false, not_true_eq_false, not_false_eq_true, pj_up_up, pj_so110_109, pj_so111_109, pj_so112_109, pj_so113_109, pj_so114_109, pj_so115_109, pj_so116_109, pj_so117_109, pj_so111_110, pj_so112_110, pj_so113_110, pj_so114_110, pj_so115_110, pj_so116_110, pj_so117_110, pj_so112_111, pj_so113_111, pj_so114_111, pj_so115_111, pj_so116_111, pj_so117_111, pj_so113_112, pj_so114_112, pj_so115_112, pj_so116_112, pj_so117_112, pj_so114_113, pj_so115_113, pj_so116_113, pj_so117_113, pj_so115_114, pj_so116_114, pj_so117_114, pj_so116_115, pj_so117_115, pj_so117_116, pj_up_ap, pj_upd_ap, pj_a3_0, pj_a3_1, pj_a3_2, pj_a3_u0, pj_a3_u1, pj_a3_u2, pj_s0_1]
      exact t4_23
    case f =>
      intro j hj
      simp only [pj_up_ap]
      repeat rw [if_neg (by omega)]
    case c =>
      refine ⟨?_, ?_, ?_, ?_⟩
      · simp (disch := decide) only [simprocAttr, pj_up_ap, if_true, if_false]
        rfl
      · simp (disch := decide) only [simprocAttr, pj_up_ap, if_true, if_false]
      · simp (disch := decide) only [simprocAttr, pj_up_ap, if_true, if_false]
      · simp (disch := decide) only [simprocAttr, pj_up_ap, if_true, if_false]
  obtain ⟨H', ⟨h0, h1, h2, h3⟩, hF, hE⟩ := E
  exact ⟨H', ⟨h0, h1, ⟨_, _, _, _, _, h2⟩, ⟨0, 0, 0, by rw [h3, pj_a3_z]⟩⟩, hF, hE⟩
end T81
