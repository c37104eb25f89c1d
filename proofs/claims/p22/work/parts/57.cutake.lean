/-! THE CLASS'S UNIT TAKES A TICK -/
section T13
variable {N S : Nat} {H : pj_Heap} {ic nm vo md ar lo hi fi r0 r1 r2 o0 o1 o2 p0 p1 p2 s0 s1 s2 t0 t1 t2 : Int32} {f F : Nat → Int32}
theorem c_utake_5 {n : Nat} (hn : n ≤ 12) (h30 : F 30 = nI n) (hic : ic = 0 ∨ ic = 1) (h6 : F 6 = nm) (h7 : F 7 = ar) (e120 : pj_n120 f = pj_n120 F) (e30 : f 30 = F 30) (e29 : f 29 = F 29) (hm : H 23 = pj_tc ic nm vo md ar lo hi fi) (hR : H 24 = .inr (0, 3, .inl (pj_a3 r0 r1 r2))) (hO : H 26 = .inr (0, 3, .inl (pj_a3 o0 o1 o2))) (hP : H 27 = .inr (0, 3, .inl (pj_a3 p0 p1 p2))) (hS : H 28 = .inr (0, 3, .inl (pj_a3 s0 s1 s2))) (hT : H 29 = .inr (0, 3, .inl (pj_a3 t0 t1 t2))) (hU : pj_U H 5 f) :
    ∃ H', H' 5 = .inl (4, [.ref 6, .ref 7, .ref 8, .ref 9, .ref 10, .ref 11, .ref 12, .int vo, .int (sp_bar f), .int ar, .int (f 6 + 1)]) ∧ H' 6 = .inr (0, 6, .inl (pj_a6 (f 0) (f 1) (f 2) (f 3) (f 4) (f 5))) ∧ H' 7 = .inr (0, 3, .inl (pj_a3 o0 o1 o2)) ∧ H' 8 = .inr (0, 3, .inl (pj_a3 p0 p1 p2)) ∧ H' 9 = .inr (0, 3, .inl (pj_a3 s0 s1 s2)) ∧ H' 10 = .inr (0, 3, .inl (pj_a3 r0 r1 r2)) ∧ H' 11 = .inr (0, 3, .inl (pj_a3 t0 t1 t2)) ∧ H' 12 = .inl (2, [.ref 13, .int ((if ck_tk (F 29) nm = 0 then F else sp_put (sp_sh F) (pj_a3 r0 r1 r2) md lo hi fi ic (sp_at F)) 30), .int (if fi = 0 then F 29 else if F 29 = -6 then nm else F 29)]) ∧ H' 13 = .inr (0, 120, .inl (pj_n120 (if ck_tk (F 29) nm = 0 then F else sp_put (sp_sh F) (pj_a3 r0 r1 r2) md lo hi fi ic (sp_at F)))) ∧ (∀ j, j < 5 ∨ 14 ≤ j → H' j = H j) ∧ pj_Ends 35 (0, [some (.ref 5), some (.ref 23)], [], (N, S, H)) (none, (N, S, H')) := by
  obtain ⟨hu, hu1, hu2, hu3, hu4, hu5, hu6, hu7, hu8⟩ := hU
  have hx : pj_uc 5 f = .inl (4, [.ref 6, .ref 7, .ref 8, .ref 9, .ref 10, .ref 11, .ref 12, .int (sp_vot f), .int (sp_bar f), .int (f 7), .int (f 6)]) := rfl
  rw [e30, e29] at hu7
  rw [e120] at hu8
  obtain ⟨H2, k1, k2, k3, k4⟩ := c_take (N := N) (S := S) (H := pj_up (pj_up (pj_up (pj_up (pj_up (pj_up H 7 (.inr (0, 3, .inl (pj_a3 o0 o1 o2)))) 8 (.inr (0, 3, .inl (pj_a3 p0 p1 p2)))) 9 (.inr (0, 3, .inl (pj_a3 s0 s1 s2)))) 10 (.inr (0, 3, .inl (pj_a3 r0 r1 r2)))) 11 (.inr (0, 3, .inl (pj_a3 t0 t1 t2)))) 5 (.inl (4, [.ref 6, .ref 7, .ref 8, .ref 9, .ref 10, .ref 11, .ref 12, .int vo, .int (sp_bar f), .int ar, .int (f 6)]))) (r := 12) (a := 13) (ic := ic) (nm := nm) (vo := vo) (md := md) (ar := ar) (lo := lo) (hi := hi) (fi := fi) (r0 := r0) (r1 := r1) (r2 := r2) hn h30 hic (by decide) (by decide) (by decide) (by decide) (by decide) h6 h7 (by (try simp (disch := decide) only [simprocAttr, pj_up_ap, if_true, if_false, pj_mo, hu7]) <;> rfl) (by (try simp (disch := decide) only [simprocAttr, pj_up_ap, if_true, if_false, pj_mo, hu8]) <;> rfl) (by (try simp (disch := decide) only [simprocAttr, pj_up_ap, if_true, if_false, pj_mo, hm]) <;> rfl) (by (try simp (disch := decide) only [simprocAttr, pj_up_ap, if_true, if_false, pj_mo, hR]) <;> rfl)
  have k5 : H2 5 = .inl (4, [.ref 6, .ref 7, .ref 8, .ref 9, .ref 10, .ref 11, .ref 12, .int vo, .int (sp_bar f), .int ar, .int (f 6)]) := by
    rw [k3 5 (by decide) (by decide)]
    exact (by (try simp (disch := decide) only [simprocAttr, pj_up_ap, if_true, if_false, pj_mo, hu]) <;> rfl)
  refine ⟨pj_up H2 5 (.inl (4, [.ref 6, .ref 7, .ref 8, .ref 9, .ref 10, .ref 11, .ref 12, .int vo, .int (sp_bar f), .int ar, .int (f 6 + 1)])), (by (try simp (disch := decide) only [simprocAttr, pj_up_ap, if_true, if_false, pj_mo, hu]) <;> rfl), ?_, ?_, ?_, ?_, ?_, ?_, ?_, ?_, ?_, ?_⟩
  · rw [pj_up_ap, if_neg (by decide), k3 _ (by decide) (by decide)]
    exact (by (try simp (disch := decide) only [simprocAttr, pj_up_ap, if_true, if_false, pj_mo, hu1]) <;> rfl)
  · rw [pj_up_ap, if_neg (by decide), k3 _ (by decide) (by decide)]
    exact (by (try simp (disch := decide) only [simprocAttr, pj_up_ap, if_true, if_false, pj_mo, hu1]) <;> rfl)
  · rw [pj_up_ap, if_neg (by decide), k3 _ (by decide) (by decide)]
    exact (by (try simp (disch := decide) only [simprocAttr, pj_up_ap, if_true, if_false, pj_mo, hu1]) <;> rfl)
  · rw [pj_up_ap, if_neg (by decide), k3 _ (by decide) (by decide)]
    exact (by (try simp (disch := decide) only [simprocAttr, pj_up_ap, if_true, if_false, pj_mo, hu1]) <;> rfl)
  · rw [pj_up_ap, if_neg (by decide), k3 _ (by decide) (by decide)]
    exact (by (try simp (disch := decide) only [simprocAttr, pj_up_ap, if_true, if_false, pj_mo, hu1]) <;> rfl)
  · rw [pj_up_ap, if_neg (by decide), k3 _ (by decide) (by decide)]
    exact (by (try simp (disch := decide) only [simprocAttr, pj_up_ap, if_true, if_false, pj_mo, hu1]) <;> rfl)
  · rw [pj_up_ap, if_neg (by decide), k2]
  · rw [pj_up_ap, if_neg (by decide), k1]
  · intro j hj
    rw [pj_up_ap, if_neg (by omega), k3 j (by omega) (by omega)]
    simp only [pj_up_ap]
    repeat rw [if_neg (by omega)]
  · simp (disch := first | assumption | exact pj_long_i | exact pj_long_r | exact pj_long_n | decide) only [x35_0, x35_1, x35_4, x35_5, x35_6, x35_9, x35_10, x35_11, x35_14, x35_15, x35_18, x35_19, x35_20, x35_23, x35_24, x35_25, x35_28, x35_29, x35_32, x35_33, x35_34, x35_37, x35_38, x35_39, x35_42, x35_43, x35_46, x35_47, x35_48, x35_51, x35_52, x35_53, x35_56, x35_57, x35_60, x35_61, x35_62, x35_65, x35_66, x35_67, x35_70, x35_71, x35_72, x35_75, x35_78, x35_79, x35_80, x35_83, x35_86, x35_87, x35_90, simprocAttr, pj_then_s, pj_pv_s, pj_pi_s, pj_set_s, if_true, if_false, not_true_eq_false, not_false_eq_true, pj_up_up, pj_so24_23, pj_so25_23, pj_so26_23, pj_so27_23, pj_so28_23, pj_so29_23, pj_so25_24, pj_so26_24, pj_so27_24, pj_so28_24, pj_so29_24, pj_so26_25, pj_so27_25, pj_so28_25, pj_so29_25, pj_so27_26, pj_so28_26, pj_so29_26, pj_so28_27, pj_so29_27, pj_so29_28, pj_up_ap, pj_upd_ap, pj_a3_0, pj_a3_1, pj_a3_2, pj_a3_u0, pj_a3_u1, pj_a3_u2, pj_f3_2, pj_f4_1, pj_g4_0, pj_g4_1, pj_g4_2, pj_g4_3, pj_g4_4, pj_f3_3, pj_f4_2, pj_f3_4, pj_f4_3, pj_f3_0, pj_f4_4, pj_f3_5, pj_f4_5, pj_f3_8, pj_s4_7, pj_f3_10, pj_s4_9, pj_f4_6, hu, hu1, hu2, hu3, hu4, hu5, hu6, hu7, hu8, hx, hm, hR, hO, hP, hS, hT, pj_tc, pj_cas_3, pj_a3_cpy]
    refine e35_91 rfl (by simp (disch := decide) only [simprocAttr, pj_up_ap, if_true, if_false, hu7]; rfl) k4 ?_
    simp (disch := first | assumption | exact pj_long_i | exact pj_long_r | exact pj_long_n | decide) only [x35_94, x35_95, x35_95i, x35_96, x35_99, x35_100, x35_101, simprocAttr, pj_then_s, pj_pv_s, pj_pi_s, pj_set_s, if_true, if_false, not_true_eq_false, not_false_eq_true, pj_up_up, pj_so24_23, pj_so25_23, pj_so26_23, pj_so27_23, pj_so28_23, pj_so29_23, pj_so25_24, pj_so26_24, pj_so27_24, pj_so28_24, pj_so29_24, pj_so26_25, pj_so27_25, pj_so28_25, pj_so29_25, pj_so27_26, pj_so28_26, pj_so29_26, pj_so28_27, pj_so29_27, pj_so29_28, pj_up_ap, pj_upd_ap, pj_a3_0, pj_a3_1, pj_a3_2, pj_a3_u0, pj_a3_u1, pj_a3_u2, pj_f4_10, pj_s4_10, k5]
    exact t35_104
theorem c_utake_14 {n : Nat} (hn : n ≤ 12) (h30 : F 30 = nI n) (hic : ic = 0 ∨ ic = 1) (h6 : F 6 = nm) (h7 : F 7 = ar) (e120 : pj_n120 f = pj_n120 F) (e30 : f 30 = F 30) (e29 : f 29 = F 29) (hm : H 23 = pj_tc ic nm vo md ar lo hi fi) (hR : H 24 = .inr (0, 3, .inl (pj_a3 r0 r1 r2))) (hO : H 26 = .inr (0, 3, .inl (pj_a3 o0 o1 o2))) (hP : H 27 = .inr (0, 3, .inl (pj_a3 p0 p1 p2))) (hS : H 28 = .inr (0, 3, .inl (pj_a3 s0 s1 s2))) (hT : H 29 = .inr (0, 3, .inl (pj_a3 t0 t1 t2))) (hU : pj_U H 14 f) :
    ∃ H', H' 14 = .inl (4, [.ref 15, .ref 16, .ref 17, .ref 18, .ref 19, .ref 20, .ref 21, .int vo, .int (sp_bar f), .int ar, .int (f 6 + 1)]) ∧ H' 15 = .inr (0, 6, .inl (pj_a6 (f 0) (f 1) (f 2) (f 3) (f 4) (f 5))) ∧ H' 16 = .inr (0, 3, .inl (pj_a3 o0 o1 o2)) ∧ H' 17 = .inr (0, 3, .inl (pj_a3 p0 p1 p2)) ∧ H' 18 = .inr (0, 3, .inl (pj_a3 s0 s1 s2)) ∧ H' 19 = .inr (0, 3, .inl (pj_a3 r0 r1 r2)) ∧ H' 20 = .inr (0, 3, .inl (pj_a3 t0 t1 t2)) ∧ H' 21 = .inl (2, [.ref 22, .int ((if ck_tk (F 29) nm = 0 then F else sp_put (sp_sh F) (pj_a3 r0 r1 r2) md lo hi fi ic (sp_at F)) 30), .int (if fi = 0 then F 29 else if F 29 = -6 then nm else F 29)]) ∧ H' 22 = .inr (0, 120, .inl (pj_n120 (if ck_tk (F 29) nm = 0 then F else sp_put (sp_sh F) (pj_a3 r0 r1 r2) md lo hi fi ic (sp_at F)))) ∧ (∀ j, j < 14 ∨ 23 ≤ j → H' j = H j) ∧ pj_Ends 35 (0, [some (.ref 14), some (.ref 23)], [], (N, S, H)) (none, (N, S, H')) := by
  obtain ⟨hu, hu1, hu2, hu3, hu4, hu5, hu6, hu7, hu8⟩ := hU
  have hx : pj_uc 14 f = .inl (4, [.ref 15, .ref 16, .ref 17, .ref 18, .ref 19, .ref 20, .ref 21, .int (sp_vot f), .int (sp_bar f), .int (f 7), .int (f 6)]) := rfl
  rw [e30, e29] at hu7
  rw [e120] at hu8
  obtain ⟨H2, k1, k2, k3, k4⟩ := c_take (N := N) (S := S) (H := pj_up (pj_up (pj_up (pj_up (pj_up (pj_up H 16 (.inr (0, 3, .inl (pj_a3 o0 o1 o2)))) 17 (.inr (0, 3, .inl (pj_a3 p0 p1 p2)))) 18 (.inr (0, 3, .inl (pj_a3 s0 s1 s2)))) 19 (.inr (0, 3, .inl (pj_a3 r0 r1 r2)))) 20 (.inr (0, 3, .inl (pj_a3 t0 t1 t2)))) 14 (.inl (4, [.ref 15, .ref 16, .ref 17, .ref 18, .ref 19, .ref 20, .ref 21, .int vo, .int (sp_bar f), .int ar, .int (f 6)]))) (r := 21) (a := 22) (ic := ic) (nm := nm) (vo := vo) (md := md) (ar := ar) (lo := lo) (hi := hi) (fi := fi) (r0 := r0) (r1 := r1) (r2 := r2) hn h30 hic (by decide) (by decide) (by decide) (by decide) (by decide) h6 h7 (by (try simp (disch := decide) only [simprocAttr, pj_up_ap, if_true, if_false, pj_mo, hu7]) <;> rfl) (by (try simp (disch := decide) only [simprocAttr, pj_up_ap, if_true, if_false, pj_mo, hu8]) <;> rfl) (by (try simp (disch := decide) only [simprocAttr, pj_up_ap, if_true, if_false, pj_mo, hm]) <;> rfl) (by (try simp (disch := decide) only [simprocAttr, pj_up_ap, if_true, if_false, pj_mo, hR]) <;> rfl)
  have k5 : H2 14 = .inl (4, [.ref 15, .ref 16, .ref 17, .ref 18, .ref 19, .ref 20, .ref 21, .int vo, .int (sp_bar f), .int ar, .int (f 6)]) := by
    rw [k3 14 (by decide) (by decide)]
    exact (by (try simp (disch := decide) only [simprocAttr, pj_up_ap, if_true, if_false, pj_mo, hu]) <;> rfl)
  refine ⟨pj_up H2 14 (.inl (4, [.ref 15, .ref 16, .ref 17, .ref 18, .ref 19, .ref 20, .ref 21, .int vo, .int (sp_bar f), .int ar, .int (f 6 + 1)])), (by (try simp (disch := decide) only [simprocAttr, pj_up_ap, if_true, if_false, pj_mo, hu]) <;> rfl), ?_, ?_, ?_, ?_, ?_, ?_, ?_, ?_, ?_, ?_⟩
  · rw [pj_up_ap, if_neg (by decide), k3 _ (by decide) (by decide)]
    exact (by (try simp (disch := decide) only [simprocAttr, pj_up_ap, if_true, if_false, pj_mo, hu1]) <;> rfl)
  · rw [pj_up_ap, if_neg (by decide), k3 _ (by decide) (by decide)]
    exact (by (try simp (disch := decide) only [simprocAttr, pj_up_ap, if_true, if_false, pj_mo, hu1]) <;> rfl)
  · rw [pj_up_ap, if_neg (by decide), k3 _ (by decide) (by decide)]
    exact (by (try simp (disch := decide) only [simprocAttr, pj_up_ap, if_true, if_false, pj_mo, hu1]) <;> rfl)
  · rw [pj_up_ap, if_neg (by decide), k3 _ (by decide) (by decide)]
    exact (by (try simp (disch := decide) only [simprocAttr, pj_up_ap, if_true, if_false, pj_mo, hu1]) <;> rfl)
  · rw [pj_up_ap, if_neg (by decide), k3 _ (by decide) (by decide)]
    exact (by (try simp (disch := decide) only [simprocAttr, pj_up_ap, if_true, if_false, pj_mo, hu1]) <;> rfl)
  · rw [pj_up_ap, if_neg (by decide), k3 _ (by decide) (by decide)]
    exact (by (try simp (disch := decide) only [simprocAttr, pj_up_ap, if_true, if_false, pj_mo, hu1]) <;> rfl)
  · rw [pj_up_ap, if_neg (by decide), k2]
  · rw [pj_up_ap, if_neg (by decide), k1]
  · intro j hj
    rw [pj_up_ap, if_neg (by omega), k3 j (by omega) (by omega)]
    simp only [pj_up_ap]
    repeat rw [if_neg (by omega)]
  · simp (disch := first | assumption | exact pj_long_i | exact pj_long_r | exact pj_long_n | decide) only [x35_0, x35_1, x35_4, x35_5, x35_6, x35_9, x35_10, x35_11, x35_14, x35_15, x35_18, x35_19, x35_20, x35_23, x35_24, x35_25, x35_28, x35_29, x35_32, x35_33, x35_34, x35_37, x35_38, x35_39, x35_42, x35_43, x35_46, x35_47, x35_48, x35_51, x35_52, x35_53, x35_56, x35_57, x35_60, x35_61, x35_62, x35_65, x35_66, x35_67, x35_70, x35_71, x35_72, x35_75, x35_78, x35_79, x35_80, x35_83, x35_86, x35_87, x35_90, simprocAttr, pj_then_s, pj_pv_s, pj_pi_s, pj_set_s, if_true, if_false, not_true_eq_false, not_false_eq_true, pj_up_up, pj_so24_23, pj_so25_23, pj_so26_23, pj_so27_23, pj_so28_23, pj_so29_23, pj_so25_24, pj_so26_24, pj_so27_24, pj_so28_24, pj_so29_24, pj_so26_25, pj_so27_25, pj_so28_25, pj_so29_25, pj_so27_26, pj_so28_26, pj_so29_26, pj_so28_27, pj_so29_27, pj_so29_28, pj_up_ap, pj_upd_ap, pj_a3_0, pj_a3_1, pj_a3_2, pj_a3_u0, pj_a3_u1, pj_a3_u2, pj_f3_2, pj_f4_1, pj_g4_0, pj_g4_1, pj_g4_2, pj_g4_3, pj_g4_4, pj_f3_3, pj_f4_2, pj_f3_4, pj_f4_3, pj_f3_0, pj_f4_4, pj_f3_5, pj_f4_5, pj_f3_8, pj_s4_7, pj_f3_10, pj_s4_9, pj_f4_6, hu, hu1, hu2, hu3, hu4, hu5, hu6, hu7, hu8, hx, hm, hR, hO, hP, hS, hT, pj_tc, pj_cas_3, pj_a3_cpy]
    refine e35_91 rfl (by simp (disch := decide) only [simprocAttr, pj_up_ap, if_true, if_false, hu7]; rfl) k4 ?_
    simp (disch := first | assumption | exact pj_long_i | exact pj_long_r | exact pj_long_n | decide) only [x35_94, x35_95, x35_95i, x35_96, x35_99, x35_100, x35_101, simprocAttr, pj_then_s, pj_pv_s, pj_pi_s, pj_set_s, if_true, if_false, not_true_eq_false, not_false_eq_true, pj_up_up, pj_so24_23, pj_so25_23, pj_so26_23, pj_so27_23, pj_so28_23, pj_so29_23, pj_so25_24, pj_so26_24, pj_so27_24, pj_so28_24, pj_so29_24, pj_so26_25, pj_so27_25, pj_so28_25, pj_so29_25, pj_so27_26, pj_so28_26, pj_so29_26, pj_so28_27, pj_so29_27, pj_so29_28, pj_up_ap, pj_upd_ap, pj_a3_0, pj_a3_1, pj_a3_2, pj_a3_u0, pj_a3_u1, pj_a3_u2, pj_f4_10, pj_s4_10, k5]
    exact t35_104
end T13
