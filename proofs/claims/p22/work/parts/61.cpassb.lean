/-! A TICK PASSES IN THE CLASS, WHOLE -/
section T16
variable {N S : Nat} {H : pj_Heap} {f g : Nat → Int32} {b0 b1 b2 c : Int32}
theorem tk_W {t : Nat} (hR : pj_Ro f t) (ht : t ≤ 200000) : (if ck_tk (tk_6 f g c 29) (f 6) = 0 then tk_6 f g c else sp_put (sp_sh (tk_6 f g c)) g (tk_m f g) (tk_lo f g c) (tk_hi f g c) (tk_fi f g c) c (sp_at (tk_6 f g c))) = tk_7 f g c := by
  obtain ⟨-, -, r6, -, -, -, -, -, -, r29⟩ := hR
  have e := sp_rec_ck (F := tk_6 f g c) ht ((tk_6_ne (by decide)).trans r6) (by rw [tk_6_ne (by decide)]; exact r29)
  rw [tk_6_ne (k := 6) (by decide)] at e
  unfold tk_7
  rw [e]
theorem tk_29 {t : Nat} (hR : pj_Ro f t) : sp_tick f g c 29 = if tk_fi f g c = 0 then tk_6 f g c 29 else if tk_6 f g c 29 = -6 then f 6 else tk_6 f g c 29 := by
  obtain ⟨-, ⟨m, hm, r30⟩, -⟩ := hR
  unfold sp_tick
  rw [pj_upd_ap, if_neg (by decide)]
  unfold tk_8
  rw [pj_upd_ap, if_pos rfl, tk_7_hi hm r30 (by decide), tk_7_hi hm r30 (by decide), tk_6_ne (k := 6) (by decide)]
theorem tk_n120 : pj_n120 (sp_tick f g c) = pj_n120 (tk_7 f g c) := by
  unfold sp_tick
  rw [pj_n120_lo (by decide)]
  unfold tk_8
  rw [pj_n120_lo (by decide)]
theorem tk_30 : sp_tick f g c 30 = tk_7 f g c 30 := by
  unfold sp_tick
  rw [pj_upd_ap, if_neg (by decide)]
  unfold tk_8
  rw [pj_upd_ap, if_neg (by decide)]
theorem pj_U_cells {u : Nat} {H' : pj_Heap} {t : Nat} (hR : pj_Ro f t) (ht : t ≤ 200000)
    (q0 : H' u = .inl (4, [.ref (u + 1), .ref (u + 2), .ref (u + 3), .ref (u + 4), .ref (u + 5), .ref (u + 6), .ref (u + 7), .int (sp_vot (tk_6 f g c)), .int (sp_bar f), .int (tk_6 f g c 7), .int (f 6 + 1)])) (q1 : H' (u + 1) = .inr (0, 6, .inl (pj_a6 (f 0) (f 1) (f 2) (f 3) (f 4) (f 5)))) (q2 : H' (u + 2) = .inr (0, 3, .inl (pj_a3 (tk_6 f g c 8) (tk_6 f g c 9) (tk_6 f g c 10)))) (q3 : H' (u + 3) = .inr (0, 3, .inl (pj_a3 (tk_6 f g c 11) (tk_6 f g c 12) (tk_6 f g c 13)))) (q4 : H' (u + 4) = .inr (0, 3, .inl (pj_a3 (tk_6 f g c 17) (tk_6 f g c 18) (tk_6 f g c 19)))) (q5 : H' (u + 5) = .inr (0, 3, .inl (pj_a3 (tk_6 f g c 20) (tk_6 f g c 21) (tk_6 f g c 22)))) (q6 : H' (u + 6) = .inr (0, 3, .inl (pj_a3 (tk_6 f g c 23) (tk_6 f g c 24) (tk_6 f g c 25)))) (q7 : H' (u + 7) = .inl (2, [.ref (u + 8), .int ((if ck_tk (tk_6 f g c 29) (f 6) = 0 then tk_6 f g c else sp_put (sp_sh (tk_6 f g c)) g (tk_m f g) (tk_lo f g c) (tk_hi f g c) (tk_fi f g c) c (sp_at (tk_6 f g c))) 30), .int (if tk_fi f g c = 0 then tk_6 f g c 29 else if tk_6 f g c 29 = -6 then f 6 else tk_6 f g c 29)])) (q8 : H' (u + 8) = .inr (0, 120, .inl (pj_n120 (if ck_tk (tk_6 f g c 29) (f 6) = 0 then tk_6 f g c else sp_put (sp_sh (tk_6 f g c)) g (tk_m f g) (tk_lo f g c) (tk_hi f g c) (tk_fi f g c) c (sp_at (tk_6 f g c)))))) :
    pj_U H' u (sp_tick f g c) := by
  have hR2 := hR
  obtain ⟨-, ⟨m, hm, r30⟩, -⟩ := hR2
  have n6 : ∀ k, k < 30 → k ≠ 6 → k ≠ 29 → sp_tick f g c k = tk_6 f g c k := fun k h1 h2 h3 => sp_tick_hi hm r30 (Or.inl h1) h2 h3
  have nf : ∀ k, k < 6 → sp_tick f g c k = f k := fun k h1 => (n6 k (by omega) (by omega) (by omega)).trans (tk_6_ne (by omega))
  have nb : sp_bar (sp_tick f g c) = sp_bar f := by
    unfold sp_bar
    rw [n6 26 (by decide) (by decide) (by decide), n6 27 (by decide) (by decide) (by decide), n6 28 (by decide) (by decide) (by decide), tk_6_ne (by decide), tk_6_ne (by decide), tk_6_ne (by decide)]
  have nv : sp_vot (sp_tick f g c) = sp_vot (tk_6 f g c) := by
    unfold sp_vot
    rw [n6 14 (by decide) (by decide) (by decide), n6 15 (by decide) (by decide) (by decide), n6 16 (by decide) (by decide) (by decide)]
  rw [tk_W hR ht] at q7 q8
  refine ⟨?_, ?_, ?_, ?_, ?_, ?_, ?_, ?_, ?_⟩
  · rw [q0]
    unfold pj_uc
    rw [nv, nb, n6 7 (by decide) (by decide) (by decide), sp_tick_6 hm r30]
  · rw [q1, nf 0 (by decide), nf 1 (by decide), nf 2 (by decide), nf 3 (by decide), nf 4 (by decide), nf 5 (by decide)]
  · rw [q2, n6 8 (by decide) (by decide) (by decide), n6 9 (by decide) (by decide) (by decide), n6 10 (by decide) (by decide) (by decide)]
  · rw [q3, n6 11 (by decide) (by decide) (by decide), n6 12 (by decide) (by decide) (by decide), n6 13 (by decide) (by decide) (by decide)]
  · rw [q4, n6 17 (by decide) (by decide) (by decide), n6 18 (by decide) (by decide) (by decide), n6 19 (by decide) (by decide) (by decide)]
  · rw [q5, n6 20 (by decide) (by decide) (by decide), n6 21 (by decide) (by decide) (by decide), n6 22 (by decide) (by decide) (by decide)]
  · rw [q6, n6 23 (by decide) (by decide) (by decide), n6 24 (by decide) (by decide) (by decide), n6 25 (by decide) (by decide) (by decide)]
  · rw [q7, tk_30, tk_29 hR]
  · rw [q8, tk_n120]
theorem tk_6_r : tk_6 f g c 20 = g 0 ∧ tk_6 f g c 21 = g 1 ∧ tk_6 f g c 22 = g 2 := by
  have h : ∀ k, 16 < k → k < 23 → tk_6 f g c k = sp_T1 f g k := by
    intro k h1 h2
    rw [tk_6_5 (by omega)]
    unfold tk_5
    rw [pj_upd_ap, if_neg (by omega)]
    unfold tk_4
    rw [sp_T4_ne (by omega)]
    unfold tk_3
    rw [sp_T3_ne (by omega)]
    unfold tk_2
    rw [sp_T2_ne (by omega)]
  exact ⟨(h 20 (by decide) (by decide)).trans sp_T1_r0, (h 21 (by decide) (by decide)).trans sp_T1_r1, (h 22 (by decide) (by decide)).trans sp_T1_r2⟩
theorem c_pass_5 {t n : Nat} (hV : H 4 = pj_vc n) (hR : pj_Ro f t) (ht : t ≤ 200000) (hc : c = 0 ∨ c = 1) (hg : ∀ k, k < 3 → -500 ≤ pj_a3 b0 b1 b2 k ∧ pj_a3 b0 b1 b2 k ≤ 500) (hT : pj_Tk H) (hU : pj_U H 5 f) :
    ∃ H', pj_U H' 5 (sp_tick f (pj_a3 b0 b1 b2) c) ∧ pj_Tk H' ∧ (∀ j, j < 5 ∨ 14 ≤ j → j < 23 ∨ 29 < j → H' j = H j) ∧ pj_Ends 34 (0, [some (.ref 4), some (.ref 5), some (.int b0), some (.int b1), some (.int b2), some (.int c)], [], (N, S, H)) (some (.int (tk_fi f (pj_a3 b0 b1 b2) c)), (N, S, H')) := by
  obtain ⟨H1, T1, F1, E1⟩ := c_wk_5 (N := N) (S := S) hR ht hc hg hT hU
  have hR2 := hR
  obtain ⟨-, ⟨m, hm12, r30⟩, -⟩ := hR2
  have hU1 : pj_U H1 5 f := hU.frame (fun i hi => F1 _ (by omega))
  have T1' := T1
  obtain ⟨k0, k1, -, k3, k4, k5, k6⟩ := T1'
  obtain ⟨H2, q0, q1, q2, q3, q4, q5, q6, q7, q8, F2, E2⟩ := c_utake_5 (N := N) (S := S) (F := tk_6 f (pj_a3 b0 b1 b2) c) hm12 ((tk_6_ne (by decide)).trans r30) hc (tk_6_ne (k := 6) (by decide)) rfl (by
      funext j
      unfold pj_n120
      by_cases w : j < 120
      · rw [if_pos w, if_pos w, tk_6_ne (by omega)]
      · rw [if_neg w, if_neg w]) (tk_6_ne (by decide)).symm (tk_6_ne (by decide)).symm k0 k1 k3 k4 k5 k6 hU1
  have V1 : H1 4 = pj_vc n := (F1 4 (by decide)).trans hV
  have V2 : H2 4 = pj_vc n := (F2 4 (by decide)).trans V1
  have T2 : H2 23 = H1 23 := F2 23 (by decide)
  refine ⟨H2, pj_U_cells (u := 5) hR ht q0 q1 q2 q3 q4 ?_ q6 q7 q8, T1.tk.frame (fun i hi => F2 _ (by omega)), fun j h1 h2 => (F2 j (by omega)).trans (F1 j (by omega)), ?_⟩
  · rw [tk_6_r.1, tk_6_r.2.1, tk_6_r.2.2]
    exact q5
  · simp (disch := first | assumption | exact pj_long_i | exact pj_long_r | exact pj_long_n | decide) only [x34_0, x34_1, x34_4, x34_5, x34_6, x34_7, x34_9, simprocAttr, pj_then_s, pj_pv_s, pj_pi_s, pj_set_s, if_true, if_false, not_true_eq_false, not_false_eq_true, pj_up_up, pj_so110_109, pj_so111_109, pj_so112_109, pj_so113_109, pj_so114_109, pj_so115_109, pj_so116_109, pj_so117_109, pj_so111_110, pj_so112_110, pj_so113_110, pj_so114_110, pj_so115_110, pj_so116_110, pj_so117_110, pj_so112_111, pj_so113_111, pj_so114_111, pj_so115_111, pj_so116_111, pj_so117_111, pj_so113_112, pj_so114_112, pj_so115_112, pj_so116_112, pj_so117_112, pj_so114_113, pj_so115_113, pj_so116_113, pj_so117_113, pj_so115_114, pj_so116_114, pj_so117_114, pj_so116_115, pj_so117_115, pj_so117_116, pj_up_ap, pj_upd_ap, pj_a3_0, pj_a3_1, pj_a3_2, pj_a3_u0, pj_a3_u1, pj_a3_u2, pj_f5_2, hV, pj_vc]
    refine e34_11 rfl (by obtain ⟨ic, nm, vo, md0, ar0, lo, hi, fi, e0, e1, e2, a0', a1', a2', o0', o1', o2', p0', p1', p2', s0', s1', s2', t0', t1', t2', w0, -⟩ := hT; rw [w0]; rfl) E1 ?_
    simp (disch := first | assumption | exact pj_long_i | exact pj_long_r | exact pj_long_n | decide) only [x34_14, x34_15, x34_16, simprocAttr, pj_then_s, pj_pv_s, pj_pi_s, pj_set_s, if_true, if_false, not_true_eq_false, not_false_eq_true, pj_up_up, pj_so110_109, pj_so111_109, pj_so112_109, pj_so113_109, pj_so114_109, pj_so115_109, pj_so116_109, pj_so117_109, pj_so111_110, pj_so112_110, pj_so113_110, pj_so114_110, pj_so115_110, pj_so116_110, pj_so117_110, pj_so112_111, pj_so113_111, pj_so114_111, pj_so115_111, pj_so116_111, pj_so117_111, pj_so113_112, pj_so114_112, pj_so115_112, pj_so116_112, pj_so117_112, pj_so114_113, pj_so115_113, pj_so116_113, pj_so117_113, pj_so115_114, pj_so116_114, pj_so117_114, pj_so116_115, pj_so117_115, pj_so117_116, pj_up_ap, pj_upd_ap, pj_a3_0, pj_a3_1, pj_a3_2, pj_a3_u0, pj_a3_u1, pj_a3_u2, pj_f5_2, V1, pj_vc]
    refine e34_19 rfl (by rw [hU1.1]; rfl) E2 ?_
    simp (disch := first | assumption | exact pj_long_i | exact pj_long_r | exact pj_long_n | decide) only [x34_22, x34_23, x34_26, simprocAttr, pj_then_s, pj_pv_s, pj_pi_s, pj_set_s, if_true, if_false, not_true_eq_false, not_false_eq_true, pj_up_up, pj_so110_109, pj_so111_109, pj_so112_109, pj_so113_109, pj_so114_109, pj_so115_109, pj_so116_109, pj_so117_109, pj_so111_110, pj_so112_110, pj_so113_110, pj_so114_110, pj_so115_110, pj_so116_110, pj_so117_110, pj_so112_111, pj_so113_111, pj_so114_111, pj_so115_111, pj_so116_111, pj_so117_111, pj_so113_112, pj_so114_112, pj_so115_112, pj_so116_112, pj_so117_112, pj_so114_113, pj_so115_113, pj_so116_113, pj_so117_113, pj_so115_114, pj_so116_114, pj_so117_114, pj_so116_115, pj_so117_115, pj_so117_116, pj_up_ap, pj_upd_ap, pj_a3_0, pj_a3_1, pj_a3_2, pj_a3_u0, pj_a3_u1, pj_a3_u2, pj_f5_2, pj_f3_13, V2, pj_vc, T2, k0, pj_tc]
    exact t34_29
theorem c_pass_14 {t n : Nat} (hV : H 4 = pj_vc n) (hR : pj_Ro f t) (ht : t ≤ 200000) (hc : c = 0 ∨ c = 1) (hg : ∀ k, k < 3 → -500 ≤ pj_a3 b0 b1 b2 k ∧ pj_a3 b0 b1 b2 k ≤ 500) (hT : pj_Tk H) (hU : pj_U H 14 f) :
    ∃ H', pj_U H' 14 (sp_tick f (pj_a3 b0 b1 b2) c) ∧ pj_Tk H' ∧ (∀ j, j < 14 ∨ 23 ≤ j → j < 23 ∨ 29 < j → H' j = H j) ∧ pj_Ends 34 (0, [some (.ref 4), some (.ref 14), some (.int b0), some (.int b1), some (.int b2), some (.int c)], [], (N, S, H)) (some (.int (tk_fi f (pj_a3 b0 b1 b2) c)), (N, S, H')) := by
  obtain ⟨H1, T1, F1, E1⟩ := c_wk_14 (N := N) (S := S) hR ht hc hg hT hU
  have hR2 := hR
  obtain ⟨-, ⟨m, hm12, r30⟩, -⟩ := hR2
  have hU1 : pj_U H1 14 f := hU.frame (fun i hi => F1 _ (by omega))
  have T1' := T1
  obtain ⟨k0, k1, -, k3, k4, k5, k6⟩ := T1'
  obtain ⟨H2, q0, q1, q2, q3, q4, q5, q6, q7, q8, F2, E2⟩ := c_utake_14 (N := N) (S := S) (F := tk_6 f (pj_a3 b0 b1 b2) c) hm12 ((tk_6_ne (by decide)).trans r30) hc (tk_6_ne (k := 6) (by decide)) rfl (by
      funext j
      unfold pj_n120
      by_cases w : j < 120
      · rw [if_pos w, if_pos w, tk_6_ne (by omega)]
      · rw [if_neg w, if_neg w]) (tk_6_ne (by decide)).symm (tk_6_ne (by decide)).symm k0 k1 k3 k4 k5 k6 hU1
  have V1 : H1 4 = pj_vc n := (F1 4 (by decide)).trans hV
  have V2 : H2 4 = pj_vc n := (F2 4 (by decide)).trans V1
  have T2 : H2 23 = H1 23 := F2 23 (by decide)
  refine ⟨H2, pj_U_cells (u := 14) hR ht q0 q1 q2 q3 q4 ?_ q6 q7 q8, T1.tk.frame (fun i hi => F2 _ (by omega)), fun j h1 h2 => (F2 j (by omega)).trans (F1 j (by omega)), ?_⟩
  · rw [tk_6_r.1, tk_6_r.2.1, tk_6_r.2.2]
    exact q5
  · simp (disch := first | assumption | exact pj_long_i | exact pj_long_r | exact pj_long_n | decide) only [x34_0, x34_1, x34_4, x34_5, x34_6, x34_7, x34_9, simprocAttr, pj_then_s, pj_pv_s, pj_pi_s, pj_set_s, if_true, if_false, not_true_eq_false, not_false_eq_true, pj_up_up, pj_so110_109, pj_so111_109, pj_so112_109, pj_so113_109, pj_so114_109, pj_so115_109, pj_so116_109, pj_so117_109, pj_so111_110, pj_so112_110, pj_so113_110, pj_so114_110, pj_so115_110, pj_so116_110, pj_so117_110, pj_so112_111, pj_so113_111, pj_so114_111, pj_so115_111, pj_so116_111, pj_so117_111, pj_so113_112, pj_so114_112, pj_so115_112, pj_so116_112, pj_so117_112, pj_so114_113, pj_so115_113, pj_so116_113, pj_so117_113, pj_so115_114, pj_so116_114, pj_so117_114, pj_so116_115, pj_so117_115, pj_so117_116, pj_up_ap, pj_upd_ap, pj_a3_0, pj_a3_1, pj_a3_2, pj_a3_u0, pj_a3_u1, pj_a3_u2, pj_f5_2, hV, pj_vc]
    refine e34_11 rfl (by obtain ⟨ic, nm, vo, md0, ar0, lo, hi, fi, e0, e1, e2, a0', a1', a2', o0', o1', o2', p0', p1', p2', s0', s1', s2', t0', t1', t2', w0, -⟩ := hT; rw [w0]; rfl) E1 ?_
    simp (disch := first | assumption | exact pj_long_i | exact pj_long_r | exact pj_long_n | decide) only [x34_14, x34_15, x34_16, simprocAttr, pj_then_s, pj_pv_s, pj_pi_s, pj_set_s, if_true, if_false, not_true_eq_false, not_false_eq_true, pj_up_up, pj_so110_109, pj_so111_109, pj_so112_109, pj_so113_109, pj_so114_109, pj_so115_109, pj_so116_109, pj_so117_109, pj_so111_110, pj_so112_110, pj_so113_110, pj_so114_110, pj_so115_110, pj_so116_110, pj_so117_110, pj_so112_111, pj_so113_111, pj_so114_111, pj_so115_111, pj_so116_111, pj_so117_111, pj_so113_112, pj_so114_112, pj_so115_112, pj_so116_112, pj_so117_112, pj_so114_113, pj_so115_113, pj_so116_113, pj_so117_113, pj_so115_114, pj_so116_114, pj_so117_114, pj_so116_115, pj_so117_115, pj_so117_116, pj_up_ap, pj_upd_ap, pj_a3_0, pj_a3_1, pj_a3_2, pj_a3_u0, pj_a3_u1, pj_a3_u2, pj_f5_2, V1, pj_vc]
    refine e34_19 rfl (by rw [hU1.1]; rfl) E2 ?_
    simp (disch := first | assumption | exact pj_long_i | exact pj_long_r | exact pj_long_n | decide) only [x34_22, x34_23, x34_26, simprocAttr, pj_then_s, pj_pv_s, pj_pi_s, pj_set_s, if_true, if_false, not_true_eq_false, not_false_eq_true, pj_up_up, pj_so110_109, pj_so111_109, pj_so112_109, pj_so113_109, pj_so114_109, pj_so115_109, pj_so116_109, pj_so117_109, pj_so111_110, pj_so112_110, pj_so113_110, pj_so114_110, pj_so115_110, pj_so116_110, pj_so117_110, pj_so112_111, pj_so113_111, pj_so114_111, pj_so115_111, pj_so116_111, pj_so117_111, pj_so113_112, pj_so114_112, pj_so115_112, pj_so116_112, pj_so117_112, pj_so114_113, pj_so115_113, pj_so116_113, pj_so117_113, pj_so115_114, pj_so116_114, pj_so117_114, pj_so116_115, pj_so117_115, pj_so117_116, pj_up_ap, pj_upd_ap, pj_a3_0, pj_a3_1, pj_a3_2, pj_a3_u0, pj_a3_u1, pj_a3_u2, pj_f5_2, pj_f3_13, V2, pj_vc, T2, k0, pj_tc]
    exact t34_29
end T16
