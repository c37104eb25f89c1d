/-! THE CLASS'S RECORDER -/
theorem pj_cas_110 {f : Nat → Int32} : pj_cas (.inr (0, 120, .inl f)) (.inr (0, 120, .inl f)) 10 0 110 = some (.inr (0, 120, .inl (va_cpy f f 10 0 110))) := by
  unfold pj_cas
  simp only
  rw [if_pos (by decide)]
  rfl
theorem pj_n120_sh {f : Nat → Int32} (h : f 30 = 12) : va_cpy (pj_n120 f) (pj_n120 f) 10 0 110 = pj_n120 (sp_sh f) := by
  funext j
  have hs : sp_sh f = upd (va_cpy f f 41 31 110) 30 (f 30 - 1) := by
    unfold sp_sh
    rw [if_pos h]
  rw [hs]
  unfold va_cpy pj_n120
  by_cases h1 : j < 110
  · rw [if_pos ⟨by omega, by omega⟩, if_pos (by omega), if_pos (by omega), pj_upd_ap, if_neg (by omega), if_pos ⟨by omega, by omega⟩]
    exact congrArg f (by omega)
  · rw [if_neg (by omega)]
    by_cases h2 : j < 120
    · rw [if_pos h2, if_pos h2, pj_upd_ap, if_neg (by omega), if_neg (by omega)]
    · rw [if_neg h2, if_neg h2]
def ck_tk (e t : Int32) : Int32 := if e = -6 then 1 else if 6 < t - e then 0 else 1
section T9
variable {N S : Nat} {H : pj_Heap} {r a : Nat} {n e : Int32} {f : Nat → Int32}
theorem c_isTaking {t : Int32} (hr : H r = .inl (2, [.ref a, .int n, .int e])) : pj_Ends 13 (0, [some (.ref r), some (.int t)], [], (N, S, H)) (some (.int (ck_tk e t)), (N, S, H)) := by
  unfold ck_tk
  by_cases c1 : e = -6
  · rw [if_pos c1]
    simp (disch := first | assumption | exact pj_long_i | exact pj_long_r | exact pj_long_n | decide) only [x13_0, x13_1, x13_4, x13_6, x13_9, x13_10, x13_11, x13_14, x13_15, x13_17, x13_20, x13_21, x13_24, simprocAttr, pj_then_s, pj_pv_s, pj_pi_s, pj_set_s, if_true, if_false, not_true_eq_false, not_false_eq_true, pj_up_up, pj_so24_23, pj_so25_23, pj_so26_23, pj_so27_23, pj_so28_23, pj_so29_23, pj_so25_24, pj_so26_24, pj_so27_24, pj_so28_24, pj_so29_24, pj_so26_25, pj_so27_25, pj_so28_25, pj_so29_25, pj_so27_26, pj_so28_26, pj_so29_26, pj_so28_27, pj_so29_27, pj_so29_28, pj_up_ap, pj_upd_ap, pj_a3_0, pj_a3_1, pj_a3_2, pj_a3_u0, pj_a3_u1, pj_a3_u2, pj_f2_2, hr, c1]
    exact t13_25 (Or.inr rfl)
  · rw [if_neg c1]
    by_cases c2 : 6 < t - e
    · rw [if_pos c2]
      simp (disch := first | assumption | exact pj_long_i | exact pj_long_r | exact pj_long_n | decide) only [x13_0, x13_1, x13_4, x13_6, x13_9, x13_10, x13_11, x13_14, x13_15, x13_17, x13_20, x13_21, x13_24, simprocAttr, pj_then_s, pj_pv_s, pj_pi_s, pj_set_s, if_true, if_false, not_true_eq_false, not_false_eq_true, pj_up_up, pj_so24_23, pj_so25_23, pj_so26_23, pj_so27_23, pj_so28_23, pj_so29_23, pj_so25_24, pj_so26_24, pj_so27_24, pj_so28_24, pj_so29_24, pj_so26_25, pj_so27_25, pj_so28_25, pj_so29_25, pj_so27_26, pj_so28_26, pj_so29_26, pj_so28_27, pj_so29_27, pj_so29_28, pj_up_ap, pj_upd_ap, pj_a3_0, pj_a3_1, pj_a3_2, pj_a3_u0, pj_a3_u1, pj_a3_u2, pj_f2_2, hr, c1, c2]
      exact t13_25 (Or.inl rfl)
    · rw [if_neg c2]
      simp (disch := first | assumption | exact pj_long_i | exact pj_long_r | exact pj_long_n | decide) only [x13_0, x13_1, x13_4, x13_6, x13_9, x13_10, x13_11, x13_14, x13_15, x13_17, x13_20, x13_21, x13_24, simprocAttr, pj_then_s, pj_pv_s, pj_pi_s, pj_set_s, if_true, if_false, not_true_eq_false, not_false_eq_true, pj_up_up, pj_so24_23, pj_so25_23, pj_so26_23, pj_so27_23, pj_so28_23, pj_so29_23, pj_so25_24, pj_so26_24, pj_so27_24, pj_so28_24, pj_so29_24, pj_so26_25, pj_so27_25, pj_so28_25, pj_so29_25, pj_so27_26, pj_so28_26, pj_so29_26, pj_so28_27, pj_so29_27, pj_so29_28, pj_up_ap, pj_upd_ap, pj_a3_0, pj_a3_1, pj_a3_2, pj_a3_u0, pj_a3_u1, pj_a3_u2, pj_f2_2, hr, c1, c2]
      exact t13_25 (Or.inr rfl)
theorem c_dropOldest (hra : (a = r) = False) (hr : H r = .inl (2, [.ref a, .int n, .int e])) (ha : H a = .inr (0, 120, .inl (pj_n120 f))) (h12 : f 30 = 12) :
    pj_Ends 37 (0, [some (.ref r)], [], (N, S, H)) (none, (N, S, pj_up (pj_up H r (.inl (2, [.ref a, .int 11, .int e]))) a (.inr (0, 120, .inl (pj_n120 (sp_sh f)))))) := by
  simp (disch := first | assumption | exact pj_long_i | exact pj_long_r | exact pj_long_n | decide) only [x37_0, x37_1, x37_3, x37_6, x37_7, x37_10, x37_12, x37_13, x37_16, x37_17, x37_18, x37_21, x37_23, x37_24, simprocAttr, pj_then_s, pj_pv_s, pj_pi_s, pj_set_s, if_true, if_false, not_true_eq_false, not_false_eq_true, pj_up_up, pj_so24_23, pj_so25_23, pj_so26_23, pj_so27_23, pj_so28_23, pj_so29_23, pj_so25_24, pj_so26_24, pj_so27_24, pj_so28_24, pj_so29_24, pj_so26_25, pj_so27_25, pj_so28_25, pj_so29_25, pj_so27_26, pj_so28_26, pj_so29_26, pj_so28_27, pj_so29_27, pj_so29_28, pj_up_ap, pj_upd_ap, pj_a3_0, pj_a3_1, pj_a3_2, pj_a3_u0, pj_a3_u1, pj_a3_u2, pj_s2_1, pj_f2_0, pj_f2_1, pj_g4_0, pj_g4_1, pj_g4_2, pj_g4_3, pj_g4_4, hr, ha, hra, pj_cas_110, pj_n120_sh h12]
  exact t37_27
theorem c_asNumber {x : Int32} {M : pj_Mem} (h : x = 0 ∨ x = 1) : pj_Ends 9 (0, [some (.int x)], [], M) (some (.int x), M) := by
  rcases h with e | e
  · subst e
    simp (disch := first | assumption | exact pj_long_i | exact pj_long_r | exact pj_long_n | decide) only [x9_0, x9_1, x9_4, x9_5, x9_8, simprocAttr, pj_then_s, pj_pv_s, pj_pi_s, pj_set_s, if_true, if_false, not_true_eq_false, not_false_eq_true, pj_up_up, pj_so24_23, pj_so25_23, pj_so26_23, pj_so27_23, pj_so28_23, pj_so29_23, pj_so25_24, pj_so26_24, pj_so27_24, pj_so28_24, pj_so29_24, pj_so26_25, pj_so27_25, pj_so28_25, pj_so29_25, pj_so27_26, pj_so28_26, pj_so29_26, pj_so28_27, pj_so29_27, pj_so29_28, pj_up_ap, pj_upd_ap, pj_a3_0, pj_a3_1, pj_a3_2, pj_a3_u0, pj_a3_u1, pj_a3_u2]
    exact t9_9
  · subst e
    simp (disch := first | assumption | exact pj_long_i | exact pj_long_r | exact pj_long_n | decide) only [x9_0, x9_1, x9_4, x9_5, x9_8, simprocAttr, pj_then_s, pj_pv_s, pj_pi_s, pj_set_s, if_true, if_false, not_true_eq_false, not_false_eq_true, pj_up_up, pj_so24_23, pj_so25_23, pj_so26_23, pj_so27_23, pj_so28_23, pj_so29_23, pj_so25_24, pj_so26_24, pj_so27_24, pj_so28_24, pj_so29_24, pj_so26_25, pj_so27_25, pj_so28_25, pj_so29_25, pj_so27_26, pj_so28_26, pj_so29_26, pj_so28_27, pj_so29_27, pj_so29_28, pj_up_ap, pj_upd_ap, pj_a3_0, pj_a3_1, pj_a3_2, pj_a3_u0, pj_a3_u1, pj_a3_u2]
    exact t9_9
end T9
