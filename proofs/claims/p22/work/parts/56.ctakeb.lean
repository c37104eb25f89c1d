/-! THE CLASS'S RECORDER TAKES A TICK, WHOLE -/
theorem pj_n120_lo {f : Nat → Int32} {k : Nat} {x : Int32} (h : k < 31) : pj_n120 (upd f k x) = pj_n120 f := by
  funext j
  unfold pj_n120
  by_cases h2 : j < 120
  · rw [if_pos h2, if_pos h2, pj_upd_ap, if_neg (by omega)]
  · rw [if_neg h2, if_neg h2]
section T12
variable {N S : Nat} {H : pj_Heap} {r a : Nat} {ic nm vo md ar lo hi fi r0 r1 r2 : Int32} {F : Nat → Int32}
theorem c_take {n : Nat} (hn : n ≤ 12) (h30 : F 30 = nI n) (hic : ic = 0 ∨ ic = 1) (hra : r ≠ a) (hr3 : r ≠ 23) (hr4 : r ≠ 24) (ha3 : a ≠ 23) (ha4 : a ≠ 24) (h6 : F 6 = nm) (h7 : F 7 = ar) (hr : H r = .inl (2, [.ref a, .int (F 30), .int (F 29)])) (ha : H a = .inr (0, 120, .inl (pj_n120 F))) (hm : H 23 = pj_tc ic nm vo md ar lo hi fi) (hR : H 24 = .inr (0, 3, .inl (pj_a3 r0 r1 r2))) :
    ∃ H', H' a = .inr (0, 120, .inl (pj_n120 (if ck_tk (F 29) nm = 0 then F else sp_put (sp_sh F) (pj_a3 r0 r1 r2) md lo hi fi ic (sp_at F)))) ∧ H' r = .inl (2, [.ref a, .int ((if ck_tk (F 29) nm = 0 then F else sp_put (sp_sh F) (pj_a3 r0 r1 r2) md lo hi fi ic (sp_at F)) 30), .int (if fi = 0 then F 29 else if F 29 = -6 then nm else F 29)]) ∧ (∀ j, j ≠ a → j ≠ r → H' j = H j) ∧ pj_Ends 36 (0, [some (.ref r), some (.ref 23)], [], (N, S, H)) (none, (N, S, H')) := by
  have d1 : (23 = a) = False := eq_false (Ne.symm ha3)
  have d2 : (24 = a) = False := eq_false (Ne.symm ha4)
  have d3 : (r = a) = False := eq_false hra
  have d4 : (23 = r) = False := eq_false (Ne.symm hr3)
  have d5 : (a = r) = False := eq_false (Ne.symm hra)
  have d6 : (24 = r) = False := eq_false (Ne.symm hr4)
  by_cases ck : ck_tk (F 29) nm = 0
  · simp only [if_pos ck]
    refine ⟨H, ha, ?_, fun _ _ _ => rfl, c_take_no d4 ck hr hm⟩
    have h29 : ¬ F 29 = -6 := by
      intro q
      unfold ck_tk at ck
      rw [if_pos q] at ck
      exact absurd ck (by decide)
    rw [if_neg h29, ite_self]
    exact hr
  · simp only [if_neg ck]
    have ck1 : ck_tk (F 29) nm = 1 := by
      unfold ck_tk at ck ⊢
      by_cases q1 : F 29 = -6
      · rw [if_pos q1]
      · rw [if_neg q1] at ck ⊢
        by_cases q2 : 6 < nm - F 29
        · rw [if_pos q2] at ck
          exact absurd rfl ck
        · rw [if_neg q2]
    obtain ⟨m, hm11, hat, h30m⟩ := sp_at_ok hn h30
    have e9 : (if F 29 = -6 then (if fi = 0 then F 29 else nm) else F 29) = (if fi = 0 then F 29 else if F 29 = -6 then nm else F 29) := by
      by_cases q1 : fi = 0
      · simp only [if_pos q1, ite_self]
      · simp only [if_neg q1]
    have e30 : sp_put (sp_sh F) (pj_a3 r0 r1 r2) md lo hi fi ic (sp_at F) 30 = nI (m + 1) := by
      rw [sp_put_30, h30m]
      exact nI_1 m
    rw [e30, hat]
    by_cases q12 : n = 12
    · have f12 : F 30 = 12 := by rw [h30, q12]; rfl
      have hm' : m = 11 := by
        have : sp_sh F 30 = 11 := by
          unfold sp_sh
          rw [if_pos f12, pj_upd_ap, if_pos rfl, f12]
          decide
        rw [h30m] at this
        exact (nI_eq (by omega) (by decide)).mp (this.trans (rfl : (11 : Int32) = nI 11))
      have hD := c_dropOldest (N := N) (S := S) (f := F) d5 hr ha f12
      refine ⟨pj_up (pj_up (pj_up (pj_up H r (.inl (2, [.ref a, .int 11, .int (F 29)]))) a (.inr (0, 120, .inl (pj_n120 (sp_sh F))))) a (.inr (0, 120, .inl (pj_n120 (sp_put (sp_sh F) (pj_a3 r0 r1 r2) md lo hi fi ic (31 + 10 * m)))))) r (.inl (2, [.ref a, .int (nI (m + 1)), .int (if F 29 = -6 then (if fi = 0 then F 29 else nm) else F 29)])), ?_, ?_, ?_, ?_⟩
      rotate_left 3
      · simp (disch := first | assumption | exact pj_long_i | exact pj_long_r | exact pj_long_n | decide) only [x36_0, x36_1, x36_2, simprocAttr, pj_then_s, pj_pv_s, pj_pi_s, pj_set_s, if_true, if_false, not_true_eq_false, not_false_eq_true, pj_up_up, pj_so24_23, pj_so25_23, pj_so26_23, pj_so27_23, pj_so28_23, pj_so29_23, pj_so25_24, pj_so26_24, pj_so27_24, pj_so28_24, pj_so29_24, pj_so26_25, pj_so27_25, pj_so28_25, pj_so29_25, pj_so27_26, pj_so28_26, pj_so29_26, pj_so28_27, pj_so29_27, pj_so29_28, pj_up_ap, pj_upd_ap, pj_a3_0, pj_a3_1, pj_a3_2, pj_a3_u0, pj_a3_u1, pj_a3_u2, pj_f3_7, hm, pj_tc, d4]
        refine e36_5 rfl (by rw [hr]; rfl) (c_isTaking hr) ?_
        simp (disch := first | assumption | exact pj_long_i | exact pj_long_r | exact pj_long_n | decide) only [x36_8, x36_12, x36_13, x36_16, x36_18, x36_21, simprocAttr, pj_then_s, pj_pv_s, pj_pi_s, pj_set_s, if_true, if_false, not_true_eq_false, not_false_eq_true, pj_up_up, pj_so24_23, pj_so25_23, pj_so26_23, pj_so27_23, pj_so28_23, pj_so29_23, pj_so25_24, pj_so26_24, pj_so27_24, pj_so28_24, pj_so29_24, pj_so26_25, pj_so27_25, pj_so28_25, pj_so29_25, pj_so27_26, pj_so28_26, pj_so29_26, pj_so28_27, pj_so29_27, pj_so29_28, pj_up_ap, pj_upd_ap, pj_a3_0, pj_a3_1, pj_a3_2, pj_a3_u0, pj_a3_u1, pj_a3_u2, pj_f2_1, ck1, hr, f12]
        refine e36_22 rfl (by rw [hr]; rfl) hD ?_
        have K := c_take_w (N := N) (S := S) (H := pj_up (pj_up H r (.inl (2, [.ref a, .int 11, .int (F 29)]))) a (.inr (0, 120, .inl (pj_n120 (sp_sh F))))) (a := a) (r := r) (m := m) (G := sp_sh F) (e := F 29) (nm := nm) (vo := vo) (md := md) (ar := ar) (lo := lo) (hi := hi) (fi := fi) (ic := ic) (r0 := r0) (r1 := r1) (r2 := r2) (by omega) hic d1 d2 d3 d4 d5 d6 ((sp_sh_hi (by omega)).trans h6) ((sp_sh_hi (by omega)).trans h7) (by simp only [pj_up_ap, if_true, if_false, d3, hm']; rfl) (by simp only [pj_up_ap, if_true]) (by simp only [pj_up_ap, if_false, d1, d4, hm]) (by simp only [pj_up_ap, if_false, d2, d6, hR])
        rw [pj_up_up] at K
        exact K
      · simp only [pj_up_ap, if_true, if_false, d5]
      · simp only [pj_up_ap, if_true, e9]
      · intro j hja hjr
        simp only [pj_up_ap, if_neg hja, if_neg hjr]
    · have hne : ¬ F 30 = 12 := by
        rw [h30]
        intro q
        exact q12 ((nI_eq (by omega) (by decide)).mp (q.trans (rfl : (12 : Int32) = nI 12)))
      have hsh : sp_sh F = F := by
        unfold sp_sh
        rw [if_neg hne]
      have hlt : F 30 < 12 := by
        rw [h30, Int32.lt_iff_toInt_lt, nI_toInt (by omega)]
        have : (12 : Int32).toInt = 12 := rfl
        omega
      rw [hsh] at h30m ⊢
      refine ⟨pj_up (pj_up (H) a (.inr (0, 120, .inl (pj_n120 (sp_put (F) (pj_a3 r0 r1 r2) md lo hi fi ic (31 + 10 * m)))))) r (.inl (2, [.ref a, .int (nI (m + 1)), .int (if F 29 = -6 then (if fi = 0 then F 29 else nm) else F 29)])), ?_, ?_, ?_, ?_⟩
      rotate_left 3
      · simp (disch := first | assumption | exact pj_long_i | exact pj_long_r | exact pj_long_n | decide) only [x36_0, x36_1, x36_2, simprocAttr, pj_then_s, pj_pv_s, pj_pi_s, pj_set_s, if_true, if_false, not_true_eq_false, not_false_eq_true, pj_up_up, pj_so24_23, pj_so25_23, pj_so26_23, pj_so27_23, pj_so28_23, pj_so29_23, pj_so25_24, pj_so26_24, pj_so27_24, pj_so28_24, pj_so29_24, pj_so26_25, pj_so27_25, pj_so28_25, pj_so29_25, pj_so27_26, pj_so28_26, pj_so29_26, pj_so28_27, pj_so29_27, pj_so29_28, pj_up_ap, pj_upd_ap, pj_a3_0, pj_a3_1, pj_a3_2, pj_a3_u0, pj_a3_u1, pj_a3_u2, pj_f3_7, hm, pj_tc, d4]
        refine e36_5 rfl (by rw [hr]; rfl) (c_isTaking hr) ?_
        simp (disch := first | assumption | exact pj_long_i | exact pj_long_r | exact pj_long_n | decide) only [x36_8, x36_12, x36_13, x36_16, x36_18, simprocAttr, pj_then_s, pj_pv_s, pj_pi_s, pj_set_s, if_true, if_false, not_true_eq_false, not_false_eq_true, pj_up_up, pj_so24_23, pj_so25_23, pj_so26_23, pj_so27_23, pj_so28_23, pj_so29_23, pj_so25_24, pj_so26_24, pj_so27_24, pj_so28_24, pj_so29_24, pj_so26_25, pj_so27_25, pj_so28_25, pj_so29_25, pj_so27_26, pj_so28_26, pj_so29_26, pj_so28_27, pj_so29_27, pj_so29_28, pj_up_ap, pj_upd_ap, pj_a3_0, pj_a3_1, pj_a3_2, pj_a3_u0, pj_a3_u1, pj_a3_u2, pj_f2_1, ck1, hr, hlt]
        exact c_take_w (m := m) (G := F) (e := F 29) (nm := nm) (vo := vo) (md := md) (ar := ar) (lo := lo) (hi := hi) (fi := fi) (ic := ic) (r0 := r0) (r1 := r1) (r2 := r2) (by omega) hic d1 d2 d3 d4 d5 d6 h6 h7 (by rw [hr, h30m]) ha hm hR
      · simp only [pj_up_ap, if_true, if_false, d5]
      · simp only [pj_up_ap, if_true, e9]
      · intro j hja hjr
        simp only [pj_up_ap, if_neg hja, if_neg hjr]
end T12
