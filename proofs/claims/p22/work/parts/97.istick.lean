/-! THE LAW OF BOTH: isTick -/
theorem i32_r {r : Int32} : (-500 ≤ r ∧ r ≤ 500) ↔ (-500 ≤ r.toInt ∧ r.toInt ≤ 500) := by
  have e5 : (500 : Int32).toInt = 500 := rfl
  have e6 : (-500 : Int32).toInt = -500 := rfl
  rw [Int32.le_iff_toInt_le, Int32.le_iff_toInt_le, e5, e6]
theorem i32_pos {j : Nat} (h : j ≤ 500) : -500 ≤ nI j ∧ nI j ≤ 500 := by
  rw [i32_r, nI_toInt (by omega)]
  omega
theorem i32_sub3 {j : Nat} (h : j ≤ 500) : -500 ≤ nI j - 3 ∧ nI j - 3 ≤ 500 := by
  have e3 : (3 : Int32).toInt = 3 := rfl
  have es : (nI j - 3).toInt = (j : Int) - 3 := by
    rw [Int32.toInt_sub, nI_toInt (by omega), e3]
    apply Int.bmod_eq_of_le <;> omega
  rw [i32_r, es]
  omega
theorem i32_neg {r : Int32} (h : -500 ≤ r ∧ r ≤ 500) : -500 ≤ -r ∧ -r ≤ 500 := by
  rw [i32_r] at h ⊢
  have es : (-r).toInt = -r.toInt := by
    rw [Int32.toInt_neg]
    apply Int.bmod_eq_of_le <;> omega
  rw [es]
  omega
theorem i32_up {r : Int32} {j : Nat} (h : -500 ≤ r ∧ r ≤ 500) (h2 : ¬ 500 ≤ r) (hj : j < 2) : -500 ≤ r + nI j ∧ r + nI j ≤ 500 := by
  have e5 : (500 : Int32).toInt = 500 := rfl
  rw [i32_r] at h ⊢
  rw [Int32.le_iff_toInt_le, e5] at h2
  have es : (r + nI j).toInt = r.toInt + j := by
    rw [Int32.toInt_add, nI_toInt (by omega)]
    apply Int.bmod_eq_of_le <;> omega
  rw [es]
  omega
theorem i32_dn {r : Int32} {j : Nat} (h : -500 ≤ r ∧ r ≤ 500) (h2 : ¬ r ≤ -500) (hj : j < 2) : -500 ≤ r - nI j ∧ r - nI j ≤ 500 := by
  have e5 : (-500 : Int32).toInt = -500 := rfl
  rw [i32_r] at h ⊢
  rw [Int32.le_iff_toInt_le, e5] at h2
  have es : (r - nI j).toInt = r.toInt - j := by
    rw [Int32.toInt_sub, nI_toInt (by omega)]
    apply Int.bmod_eq_of_le <;> omega
  rw [es]
  omega
section T97
variable {Ln N S b n : Nat} {xs : Nat → Int32} {K : pj_Heap} {x y : pj_Sg} {eb v x0 x1 x2 c f0 vo wd md w : Int32}
theorem h_base {M : pj_Mem} : ∃ r : Int32, (-500 ≤ r ∧ r ≤ 500) ∧ ∀ o, pj_Ends 51 (55, [some (.ref 4), some (.ref 109), some (.int eb), some (.int v), none, none, none, none, none, none, none, none, none, none], [.int r], M) o → pj_Ends 51 (0, [some (.ref 4), some (.ref 109), some (.int eb), some (.int v), none, none, none, none, none, none, none, none, none, none], [], M) o := by
  by_cases c1 : nI (lw_up v 5) = 0
  · refine ⟨nI (lw_up (v >>> ((3 : Int32) &&& 31)) 1001) - 500, pj_rv_in (lw_up_lt (by decide)), fun o h => ?_⟩
    simp (disch := first | assumption | exact pj_long_i | exact pj_long_r | exact pj_long_n | decide) only [x51_0, x51_1, simprocAttr, pj_then_s, pj_pv_s, pj_pi_s, pj_set_s, if_true, if_false, not_true_eq_false, not_false_eq_true, pj_up_up, pj_up_ap, pj_upd_ap, pj_a3_0, pj_a3_1, pj_a3_2, pj_a3_u0, pj_a3_u1, pj_a3_u2]
    refine e51_2 rfl (c_up (d := 5) rfl (by decide) (by decide)) ?_
    simp (disch := first | assumption | exact pj_long_i | exact pj_long_r | exact pj_long_n | decide) only [x51_5, x51_8, x51_9, x51_10, x51_11, simprocAttr, pj_then_s, pj_pv_s, pj_pi_s, pj_set_s, if_true, if_false, not_true_eq_false, not_false_eq_true, pj_up_up, pj_up_ap, pj_upd_ap, pj_a3_0, pj_a3_1, pj_a3_2, pj_a3_u0, pj_a3_u1, pj_a3_u2, c1]
    refine e51_14 rfl (c_up (d := 1001) rfl (by decide) (by decide)) ?_
    simp (disch := first | assumption | exact pj_long_i | exact pj_long_r | exact pj_long_n | decide) only [x51_17, x51_20, x51_21, simprocAttr, pj_then_s, pj_pv_s, pj_pi_s, pj_set_s, if_true, if_false, not_true_eq_false, not_false_eq_true, pj_up_up, pj_up_ap, pj_upd_ap, pj_a3_0, pj_a3_1, pj_a3_2, pj_a3_u0, pj_a3_u1, pj_a3_u2]
    exact h
  · by_cases c2 : nI (lw_up (v >>> ((3 : Int32) &&& 31)) 4) = 0
    · refine ⟨nI (lw_up (v >>> ((5 : Int32) &&& 31)) 7) - 3, i32_sub3 (by have := lw_up_lt (v := v >>> ((5 : Int32) &&& 31)) (d := 7) (by decide); omega), fun o h => ?_⟩
      simp (disch := first | assumption | exact pj_long_i | exact pj_long_r | exact pj_long_n | decide) only [x51_0, x51_1, simprocAttr, pj_then_s, pj_pv_s, pj_pi_s, pj_set_s, if_true, if_false, not_true_eq_false, not_false_eq_true, pj_up_up, pj_up_ap, pj_upd_ap, pj_a3_0, pj_a3_1, pj_a3_2, pj_a3_u0, pj_a3_u1, pj_a3_u2]
      refine e51_2 rfl (c_up (d := 5) rfl (by decide) (by decide)) ?_
      simp (disch := first | assumption | exact pj_long_i | exact pj_long_r | exact pj_long_n | decide) only [x51_5, x51_8, x51_9, x51_10, x51_11, x51_17, x51_20, x51_21, x51_24, x51_25, x51_26, x51_27, simprocAttr, pj_then_s, pj_pv_s, pj_pi_s, pj_set_s, if_true, if_false, not_true_eq_false, not_false_eq_true, pj_up_up, pj_up_ap, pj_upd_ap, pj_a3_0, pj_a3_1, pj_a3_2, pj_a3_u0, pj_a3_u1, pj_a3_u2, c1]
      refine e51_28 rfl (c_up (d := 4) rfl (by decide) (by decide)) ?_
      simp (disch := first | assumption | exact pj_long_i | exact pj_long_r | exact pj_long_n | decide) only [x51_31, x51_34, x51_35, x51_36, x51_37, simprocAttr, pj_then_s, pj_pv_s, pj_pi_s, pj_set_s, if_true, if_false, not_true_eq_false, not_false_eq_true, pj_up_up, pj_up_ap, pj_upd_ap, pj_a3_0, pj_a3_1, pj_a3_2, pj_a3_u0, pj_a3_u1, pj_a3_u2, c2]
      refine e51_39 rfl (c_up (d := 7) rfl (by decide) (by decide)) ?_
      simp (disch := first | assumption | exact pj_long_i | exact pj_long_r | exact pj_long_n | decide) only [x51_42, x51_43, x51_44, simprocAttr, pj_then_s, pj_pv_s, pj_pi_s, pj_set_s, if_true, if_false, not_true_eq_false, not_false_eq_true, pj_up_up, pj_up_ap, pj_upd_ap, pj_a3_0, pj_a3_1, pj_a3_2, pj_a3_u0, pj_a3_u1, pj_a3_u2]
      exact h
    · refine ⟨nI (lw_up (v >>> ((5 : Int32) &&& 31)) 80), i32_pos (by have := lw_up_lt (v := v >>> ((5 : Int32) &&& 31)) (d := 80) (by decide); omega), fun o h => ?_⟩
      simp (disch := first | assumption | exact pj_long_i | exact pj_long_r | exact pj_long_n | decide) only [x51_0, x51_1, simprocAttr, pj_then_s, pj_pv_s, pj_pi_s, pj_set_s, if_true, if_false, not_true_eq_false, not_false_eq_true, pj_up_up, pj_up_ap, pj_upd_ap, pj_a3_0, pj_a3_1, pj_a3_2, pj_a3_u0, pj_a3_u1, pj_a3_u2]
      refine e51_2 rfl (c_up (d := 5) rfl (by decide) (by decide)) ?_
      simp (disch := first | assumption | exact pj_long_i | exact pj_long_r | exact pj_long_n | decide) only [x51_5, x51_8, x51_9, x51_10, x51_11, x51_17, x51_20, x51_21, x51_24, x51_25, x51_26, x51_27, simprocAttr, pj_then_s, pj_pv_s, pj_pi_s, pj_set_s, if_true, if_false, not_true_eq_false, not_false_eq_true, pj_up_up, pj_up_ap, pj_upd_ap, pj_a3_0, pj_a3_1, pj_a3_2, pj_a3_u0, pj_a3_u1, pj_a3_u2, c1]
      refine e51_28 rfl (c_up (d := 4) rfl (by decide) (by decide)) ?_
      simp (disch := first | assumption | exact pj_long_i | exact pj_long_r | exact pj_long_n | decide) only [x51_31, x51_34, x51_35, x51_36, x51_37, x51_42, x51_43, x51_44, x51_47, x51_48, x51_49, x51_50, simprocAttr, pj_then_s, pj_pv_s, pj_pi_s, pj_set_s, if_true, if_false, not_true_eq_false, not_false_eq_true, pj_up_up, pj_up_ap, pj_upd_ap, pj_a3_0, pj_a3_1, pj_a3_2, pj_a3_u0, pj_a3_u1, pj_a3_u2, c2]
      refine e51_52 rfl (c_up (d := 80) rfl (by decide) (by decide)) ?_
      exact h
theorem h_b {M : pj_Mem} (h0 : -500 ≤ x0 ∧ x0 ≤ 500) : ∃ r : Int32, (-500 ≤ r ∧ r ≤ 500) ∧ ∀ o, pj_Ends 51 (105, [some (.ref 4), some (.ref 109), some (.int eb), some (.int v), some (.int x0), none, none, none, none, none, none, none, none, none], [.int r], M) o → pj_Ends 51 (57, [some (.ref 4), some (.ref 109), some (.int eb), some (.int v), some (.int x0), none, none, none, none, none, none, none, none, none], [], M) o := by
  by_cases c1 : nI (lw_up (v >>> ((12 : Int32) &&& 31)) 9) = 0
  · refine ⟨nI (lw_up (v >>> ((15 : Int32) &&& 31)) 501), i32_pos (by have := lw_up_lt (v := v >>> ((15 : Int32) &&& 31)) (d := 501) (by decide); omega), fun o h => ?_⟩
    simp (disch := first | assumption | exact pj_long_i | exact pj_long_r | exact pj_long_n | decide) only [x51_57, x51_58, x51_60, x51_61, simprocAttr, pj_then_s, pj_pv_s, pj_pi_s, pj_set_s, if_true, if_false, not_true_eq_false, not_false_eq_true, pj_up_up, pj_up_ap, pj_upd_ap, pj_a3_0, pj_a3_1, pj_a3_2, pj_a3_u0, pj_a3_u1, pj_a3_u2]
    refine e51_63 rfl (c_up (d := 9) rfl (by decide) (by decide)) ?_
    simp (disch := first | assumption | exact pj_long_i | exact pj_long_r | exact pj_long_n | decide) only [x51_66, x51_69, x51_70, x51_72, x51_73, simprocAttr, pj_then_s, pj_pv_s, pj_pi_s, pj_set_s, if_true, if_false, not_true_eq_false, not_false_eq_true, pj_up_up, pj_up_ap, pj_upd_ap, pj_a3_0, pj_a3_1, pj_a3_2, pj_a3_u0, pj_a3_u1, pj_a3_u2, c1]
    refine e51_76 rfl (c_up (d := 501) rfl (by decide) (by decide)) ?_
    simp (disch := first | assumption | exact pj_long_i | exact pj_long_r | exact pj_long_n | decide) only [x51_79, simprocAttr, pj_then_s, pj_pv_s, pj_pi_s, pj_set_s, if_true, if_false, not_true_eq_false, not_false_eq_true, pj_up_up, pj_up_ap, pj_upd_ap, pj_a3_0, pj_a3_1, pj_a3_2, pj_a3_u0, pj_a3_u1, pj_a3_u2]
    exact h
  · by_cases c2 : 500 ≤ x0
    · refine ⟨x0 + 0, by rw [Int32.add_zero]; exact h0, fun o h => ?_⟩
      simp (disch := first | assumption | exact pj_long_i | exact pj_long_r | exact pj_long_n | decide) only [x51_57, x51_58, x51_60, x51_61, simprocAttr, pj_then_s, pj_pv_s, pj_pi_s, pj_set_s, if_true, if_false, not_true_eq_false, not_false_eq_true, pj_up_up, pj_up_ap, pj_upd_ap, pj_a3_0, pj_a3_1, pj_a3_2, pj_a3_u0, pj_a3_u1, pj_a3_u2]
      refine e51_63 rfl (c_up (d := 9) rfl (by decide) (by decide)) ?_
      simp (disch := first | assumption | exact pj_long_i | exact pj_long_r | exact pj_long_n | decide) only [x51_66, x51_69, x51_70, x51_72, x51_73, x51_79, x51_82, x51_84, x51_86, x51_89, x51_92, x51_93, x51_95, x51_96, x51_100, x51_103, x51_104, simprocAttr, pj_then_s, pj_pv_s, pj_pi_s, pj_set_s, if_true, if_false, not_true_eq_false, not_false_eq_true, pj_up_up, pj_up_ap, pj_upd_ap, pj_a3_0, pj_a3_1, pj_a3_2, pj_a3_u0, pj_a3_u1, pj_a3_u2, c1, c2]
      exact h
    · refine ⟨x0 + nI (lw_up (v >>> ((15 : Int32) &&& 31)) 2), i32_up h0 c2 (lw_up_lt (by decide)), fun o h => ?_⟩
      simp (disch := first | assumption | exact pj_long_i | exact pj_long_r | exact pj_long_n | decide) only [x51_57, x51_58, x51_60, x51_61, simprocAttr, pj_then_s, pj_pv_s, pj_pi_s, pj_set_s, if_true, if_false, not_true_eq_false, not_false_eq_true, pj_up_up, pj_up_ap, pj_upd_ap, pj_a3_0, pj_a3_1, pj_a3_2, pj_a3_u0, pj_a3_u1, pj_a3_u2]
      refine e51_63 rfl (c_up (d := 9) rfl (by decide) (by decide)) ?_
      simp (disch := first | assumption | exact pj_long_i | exact pj_long_r | exact pj_long_n | decide) only [x51_66, x51_69, x51_70, x51_72, x51_73, x51_79, x51_82, x51_84, x51_86, x51_89, x51_92, x51_93, x51_95, x51_96, simprocAttr, pj_then_s, pj_pv_s, pj_pi_s, pj_set_s, if_true, if_false, not_true_eq_false, not_false_eq_true, pj_up_up, pj_up_ap, pj_upd_ap, pj_a3_0, pj_a3_1, pj_a3_2, pj_a3_u0, pj_a3_u1, pj_a3_u2, c1, c2]
      refine e51_97 rfl (c_up (d := 2) rfl (by decide) (by decide)) ?_
      simp (disch := first | assumption | exact pj_long_i | exact pj_long_r | exact pj_long_n | decide) only [x51_100, x51_103, x51_104, simprocAttr, pj_then_s, pj_pv_s, pj_pi_s, pj_set_s, if_true, if_false, not_true_eq_false, not_false_eq_true, pj_up_up, pj_up_ap, pj_upd_ap, pj_a3_0, pj_a3_1, pj_a3_2, pj_a3_u0, pj_a3_u1, pj_a3_u2]
      exact h
theorem h_c {M : pj_Mem} (h0 : -500 ≤ x0 ∧ x0 ≤ 500) : ∃ r : Int32, (-500 ≤ r ∧ r ≤ 500) ∧ ∀ o, pj_Ends 51 (148, [some (.ref 4), some (.ref 109), some (.int eb), some (.int v), some (.int x0), some (.int x1), none, none, none, none, none, none, none, none], [.int r], M) o → pj_Ends 51 (107, [some (.ref 4), some (.ref 109), some (.int eb), some (.int v), some (.int x0), some (.int x1), none, none, none, none, none, none, none, none], [], M) o := by
  by_cases c1 : nI (lw_up (v >>> ((18 : Int32) &&& 31)) 9) = 0
  · refine ⟨-x0, i32_neg h0, fun o h => ?_⟩
    simp (disch := first | assumption | exact pj_long_i | exact pj_long_r | exact pj_long_n | decide) only [x51_107, x51_108, x51_110, x51_111, simprocAttr, pj_then_s, pj_pv_s, pj_pi_s, pj_set_s, if_true, if_false, not_true_eq_false, not_false_eq_true, pj_up_up, pj_up_ap, pj_upd_ap, pj_a3_0, pj_a3_1, pj_a3_2, pj_a3_u0, pj_a3_u1, pj_a3_u2]
    refine e51_113 rfl (c_up (d := 9) rfl (by decide) (by decide)) ?_
    simp (disch := first | assumption | exact pj_long_i | exact pj_long_r | exact pj_long_n | decide) only [x51_116, x51_119, x51_121, x51_122, simprocAttr, pj_then_s, pj_pv_s, pj_pi_s, pj_set_s, if_true, if_false, not_true_eq_false, not_false_eq_true, pj_up_up, pj_up_ap, pj_upd_ap, pj_a3_0, pj_a3_1, pj_a3_2, pj_a3_u0, pj_a3_u1, pj_a3_u2, c1]
    exact h
  · by_cases c2 : x0 ≤ -500
    · refine ⟨x0 - 0, by rw [Int32.sub_zero]; exact h0, fun o h => ?_⟩
      simp (disch := first | assumption | exact pj_long_i | exact pj_long_r | exact pj_long_n | decide) only [x51_107, x51_108, x51_110, x51_111, simprocAttr, pj_then_s, pj_pv_s, pj_pi_s, pj_set_s, if_true, if_false, not_true_eq_false, not_false_eq_true, pj_up_up, pj_up_ap, pj_upd_ap, pj_a3_0, pj_a3_1, pj_a3_2, pj_a3_u0, pj_a3_u1, pj_a3_u2]
      refine e51_113 rfl (c_up (d := 9) rfl (by decide) (by decide)) ?_
      simp (disch := first | assumption | exact pj_long_i | exact pj_long_r | exact pj_long_n | decide) only [x51_116, x51_119, x51_121, x51_122, x51_125, x51_127, x51_129, x51_132, x51_135, x51_136, x51_138, x51_139, x51_143, x51_146, x51_147, simprocAttr, pj_then_s, pj_pv_s, pj_pi_s, pj_set_s, if_true, if_false, not_true_eq_false, not_false_eq_true, pj_up_up, pj_up_ap, pj_upd_ap, pj_a3_0, pj_a3_1, pj_a3_2, pj_a3_u0, pj_a3_u1, pj_a3_u2, c1, c2]
      exact h
    · refine ⟨x0 - nI (lw_up (v >>> ((21 : Int32) &&& 31)) 2), i32_dn h0 c2 (lw_up_lt (by decide)), fun o h => ?_⟩
      simp (disch := first | assumption | exact pj_long_i | exact pj_long_r | exact pj_long_n | decide) only [x51_107, x51_108, x51_110, x51_111, simprocAttr, pj_then_s, pj_pv_s, pj_pi_s, pj_set_s, if_true, if_false, not_true_eq_false, not_false_eq_true, pj_up_up, pj_up_ap, pj_upd_ap, pj_a3_0, pj_a3_1, pj_a3_2, pj_a3_u0, pj_a3_u1, pj_a3_u2]
      refine e51_113 rfl (c_up (d := 9) rfl (by decide) (by decide)) ?_
      simp (disch := first | assumption | exact pj_long_i | exact pj_long_r | exact pj_long_n | decide) only [x51_116, x51_119, x51_121, x51_122, x51_125, x51_127, x51_129, x51_132, x51_135, x51_136, x51_138, x51_139, simprocAttr, pj_then_s, pj_pv_s, pj_pi_s, pj_set_s, if_true, if_false, not_true_eq_false, not_false_eq_true, pj_up_up, pj_up_ap, pj_upd_ap, pj_a3_0, pj_a3_1, pj_a3_2, pj_a3_u0, pj_a3_u1, pj_a3_u2, c1, c2]
      refine e51_140 rfl (c_up (d := 2) rfl (by decide) (by decide)) ?_
      simp (disch := first | assumption | exact pj_long_i | exact pj_long_r | exact pj_long_n | decide) only [x51_143, x51_146, x51_147, simprocAttr, pj_then_s, pj_pv_s, pj_pi_s, pj_set_s, if_true, if_false, not_true_eq_false, not_false_eq_true, pj_up_up, pj_up_ap, pj_upd_ap, pj_a3_0, pj_a3_1, pj_a3_2, pj_a3_u0, pj_a3_u1, pj_a3_u2]
      exact h
theorem h_cl {M : pj_Mem} : ∃ r : Int32, (r = 0 ∨ r = 1) ∧ ∀ o, pj_Ends 51 (166, [some (.ref 4), some (.ref 109), some (.int eb), some (.int v), some (.int x0), some (.int x1), some (.int x2), none, none, none, none, none, none, none], [.int r], M) o → pj_Ends 51 (150, [some (.ref 4), some (.ref 109), some (.int eb), some (.int v), some (.int x0), some (.int x1), some (.int x2), none, none, none, none, none, none, none], [], M) o := by
  by_cases c1 : nI (lw_up (v >>> ((23 : Int32) &&& 31)) 3) ≤ 0
  · refine ⟨0, Or.inl rfl, fun o h => ?_⟩
    simp (disch := first | assumption | exact pj_long_i | exact pj_long_r | exact pj_long_n | decide) only [x51_150, x51_151, x51_153, x51_154, simprocAttr, pj_then_s, pj_pv_s, pj_pi_s, pj_set_s, if_true, if_false, not_true_eq_false, not_false_eq_true, pj_up_up, pj_up_ap, pj_upd_ap, pj_a3_0, pj_a3_1, pj_a3_2, pj_a3_u0, pj_a3_u1, pj_a3_u2]
    refine e51_155 rfl (c_up (d := 3) rfl (by decide) (by decide)) ?_
    simp (disch := first | assumption | exact pj_long_i | exact pj_long_r | exact pj_long_n | decide) only [x51_158, x51_161, x51_162, x51_165, simprocAttr, pj_then_s, pj_pv_s, pj_pi_s, pj_set_s, if_true, if_false, not_true_eq_false, not_false_eq_true, pj_up_up, pj_up_ap, pj_upd_ap, pj_a3_0, pj_a3_1, pj_a3_2, pj_a3_u0, pj_a3_u1, pj_a3_u2, c1]
    exact h
  · refine ⟨1, Or.inr rfl, fun o h => ?_⟩
    simp (disch := first | assumption | exact pj_long_i | exact pj_long_r | exact pj_long_n | decide) only [x51_150, x51_151, x51_153, x51_154, simprocAttr, pj_then_s, pj_pv_s, pj_pi_s, pj_set_s, if_true, if_false, not_true_eq_false, not_false_eq_true, pj_up_up, pj_up_ap, pj_upd_ap, pj_a3_0, pj_a3_1, pj_a3_2, pj_a3_u0, pj_a3_u1, pj_a3_u2]
    refine e51_155 rfl (c_up (d := 3) rfl (by decide) (by decide)) ?_
    simp (disch := first | assumption | exact pj_long_i | exact pj_long_r | exact pj_long_n | decide) only [x51_158, x51_161, x51_162, x51_165, simprocAttr, pj_then_s, pj_pv_s, pj_pi_s, pj_set_s, if_true, if_false, not_true_eq_false, not_false_eq_true, pj_up_up, pj_up_ap, pj_upd_ap, pj_a3_0, pj_a3_1, pj_a3_2, pj_a3_u0, pj_a3_u1, pj_a3_u2, c1]
    exact h
/-- the readings and the switch -/
theorem h_all {M : pj_Mem} : ∃ x0 x1 x2 c : Int32, (-500 ≤ x0 ∧ x0 ≤ 500) ∧ (-500 ≤ x1 ∧ x1 ≤ 500) ∧ (-500 ≤ x2 ∧ x2 ≤ 500) ∧ (c = 0 ∨ c = 1) ∧ ∀ o, pj_Ends 51 (168, [some (.ref 4), some (.ref 109), some (.int eb), some (.int v), some (.int x0), some (.int x1), some (.int x2), some (.int c), none, none, none, none, none, none], [], M) o → pj_Ends 51 (0, [some (.ref 4), some (.ref 109), some (.int eb), some (.int v), none, none, none, none, none, none, none, none, none, none], [], M) o := by
  obtain ⟨x0, i0, k0⟩ := h_base (eb := eb) (v := v) (M := M)
  obtain ⟨x1, i1, k1⟩ := h_b (eb := eb) (v := v) (M := M) i0
  obtain ⟨x2, i2, k2⟩ := h_c (eb := eb) (v := v) (x1 := x1) (M := M) i0
  obtain ⟨c, hc, k3⟩ := h_cl (eb := eb) (v := v) (x0 := x0) (x1 := x1) (x2 := x2) (M := M)
  refine ⟨x0, x1, x2, c, i0, i1, i2, hc, fun o h => k0 o ?_⟩
  simp (disch := first | assumption | exact pj_long_i | exact pj_long_r | exact pj_long_n | decide) only [x51_55, simprocAttr, pj_then_s, pj_pv_s, pj_pi_s, pj_set_s, if_true, if_false, not_true_eq_false, not_false_eq_true, pj_up_up, pj_up_ap, pj_upd_ap, pj_a3_0, pj_a3_1, pj_a3_2, pj_a3_u0, pj_a3_u1, pj_a3_u2, pj_long_i, pj_long_r, pj_long_n]
  refine k1 o ?_
  simp (disch := first | assumption | exact pj_long_i | exact pj_long_r | exact pj_long_n | decide) only [x51_105, simprocAttr, pj_then_s, pj_pv_s, pj_pi_s, pj_set_s, if_true, if_false, not_true_eq_false, not_false_eq_true, pj_up_up, pj_up_ap, pj_upd_ap, pj_a3_0, pj_a3_1, pj_a3_2, pj_a3_u0, pj_a3_u1, pj_a3_u2, pj_long_i, pj_long_r, pj_long_n]
  refine k2 o ?_
  simp (disch := first | assumption | exact pj_long_i | exact pj_long_r | exact pj_long_n | decide) only [x51_148, simprocAttr, pj_then_s, pj_pv_s, pj_pi_s, pj_set_s, if_true, if_false, not_true_eq_false, not_false_eq_true, pj_up_up, pj_up_ap, pj_upd_ap, pj_a3_0, pj_a3_1, pj_a3_2, pj_a3_u0, pj_a3_u1, pj_a3_u2, pj_long_i, pj_long_r, pj_long_n]
  refine k3 o ?_
  simp (disch := first | assumption | exact pj_long_i | exact pj_long_r | exact pj_long_n | decide) only [x51_166, simprocAttr, pj_then_s, pj_pv_s, pj_pi_s, pj_set_s, if_true, if_false, not_true_eq_false, not_false_eq_true, pj_up_up, pj_up_ap, pj_upd_ap, pj_a3_0, pj_a3_1, pj_a3_2, pj_a3_u0, pj_a3_u1, pj_a3_u2, pj_long_i, pj_long_r, pj_long_n]
  exact h
theorem t_372 (hM : lw_M Ln xs K x y) (h1 : ¬ md < 98000) (h2 : ¬ 102000 < md) : ∃ K', lw_M Ln xs K' x y ∧ pj_Ends 51 (372, [some (.ref 4), some (.ref 109), some (.int eb), some (.int v), some (.int x0), some (.int x1), some (.int x2), some (.int c), some (.int f0), some (.int vo), some (.int wd), some (.int md), some (.int w), some (.int 1)], [], (N, S, K)) (some (.int 1), (N, S, K')) := by
  refine ⟨K, hM, ?_⟩
  simp (disch := first | assumption | exact pj_long_i | exact pj_long_r | exact pj_long_n | decide) only [x51_372, x51_374, x51_377, x51_379, x51_381, x51_384, x51_386, x51_388, x51_391, x51_392, x51_395, simprocAttr, pj_then_s, pj_pv_s, pj_pi_s, pj_set_s, if_true, if_false, not_true_eq_false, not_false_eq_true, pj_up_up, pj_up_ap, pj_upd_ap, pj_a3_0, pj_a3_1, pj_a3_2, pj_a3_u0, pj_a3_u1, pj_a3_u2, h1, h2]
  exact t51_396 (Or.inr rfl)
theorem t_354 (hx : pj_In x) (hM : lw_M Ln xs K x y) (h1 : ¬ md < 98000) (h2 : ¬ 102000 < md) (h3 : w &&& op_count x 4 = 0) : ∃ K', lw_M Ln xs K' x y ∧ pj_Ends 51 (354, [some (.ref 4), some (.ref 109), some (.int eb), some (.int v), some (.int x0), some (.int x1), some (.int x2), some (.int c), some (.int f0), some (.int vo), some (.int wd), some (.int md), some (.int w), some (.int 1)], [], (N, S, K)) (some (.int 1), (N, S, K')) := by
  obtain ⟨K1, m1, e1⟩ := o_count (N := N) (S := S) (w := 4) hx hM
  obtain ⟨K2, m2, e2⟩ := t_372 (N := N) (S := S) (eb := eb) (v := v) (x0 := x0) (x1 := x1) (x2 := x2) (c := c) (f0 := f0) (vo := vo) (wd := wd) (w := w) m1 h1 h2
  refine ⟨K2, m2, ?_⟩
  simp (disch := first | assumption | exact pj_long_i | exact pj_long_r | exact pj_long_n | decide) only [x51_354, x51_356, x51_357, simprocAttr, pj_then_s, pj_pv_s, pj_pi_s, pj_set_s, if_true, if_false, not_true_eq_false, not_false_eq_true, pj_up_up, pj_up_ap, pj_upd_ap, pj_a3_0, pj_a3_1, pj_a3_2, pj_a3_u0, pj_a3_u1, pj_a3_u2]
  refine e51_358 rfl hM.u4 e1 ?_
  simp (disch := first | assumption | exact pj_long_i | exact pj_long_r | exact pj_long_n | decide) only [x51_361, x51_362, x51_365, x51_366, x51_369, x51_370, simprocAttr, pj_then_s, pj_pv_s, pj_pi_s, pj_set_s, if_true, if_false, not_true_eq_false, not_false_eq_true, pj_up_up, pj_up_ap, pj_upd_ap, pj_a3_0, pj_a3_1, pj_a3_2, pj_a3_u0, pj_a3_u1, pj_a3_u2, pj_long_i, pj_long_r, pj_long_n, h3]
  exact e2
theorem t_327 (hx : pj_In x) (hM : lw_M Ln xs K x y) (h1 : ¬ md < 98000) (h2 : ¬ 102000 < md) (h3 : w &&& op_count x 4 = 0) (h4 : w &&& 2 = 0 ∨ ¬ op_count x 3 &&& 1 = 0 ∨ ¬ op_count x 4 &&& 1 = 0) : ∃ K', lw_M Ln xs K' x y ∧ pj_Ends 51 (327, [some (.ref 4), some (.ref 109), some (.int eb), some (.int v), some (.int x0), some (.int x1), some (.int x2), some (.int c), some (.int f0), some (.int vo), some (.int wd), some (.int md), some (.int w), some (.int 1)], [], (N, S, K)) (some (.int 1), (N, S, K')) := by
  by_cases c1 : w &&& 2 = 0
  · obtain ⟨K2, m2, e2⟩ := t_354 (N := N) (S := S) (eb := eb) (v := v) (x0 := x0) (x1 := x1) (x2 := x2) (c := c) (f0 := f0) (vo := vo) (wd := wd) (w := w) hx hM h1 h2 h3
    refine ⟨K2, m2, ?_⟩
    simp (disch := first | assumption | exact pj_long_i | exact pj_long_r | exact pj_long_n | decide) only [x51_327, x51_329, x51_330, x51_331, simprocAttr, pj_then_s, pj_pv_s, pj_pi_s, pj_set_s, if_true, if_false, not_true_eq_false, not_false_eq_true, pj_up_up, pj_up_ap, pj_upd_ap, pj_a3_0, pj_a3_1, pj_a3_2, pj_a3_u0, pj_a3_u1, pj_a3_u2, c1]
    exact e2
  · obtain ⟨K1, m1, e1⟩ := o_count (N := N) (S := S) (w := 3) hx hM
    by_cases c2 : op_count x 3 &&& 1 = 0
    · have c3 : ¬ op_count x 4 &&& 1 = 0 := (h4.resolve_left c1).resolve_left (fun q => q c2)
      obtain ⟨K3, m3, e3⟩ := o_count (N := N) (S := S) (w := 4) hx m1
      obtain ⟨K2, m2, e2⟩ := t_354 (N := N) (S := S) (eb := eb) (v := v) (x0 := x0) (x1 := x1) (x2 := x2) (c := c) (f0 := f0) (vo := vo) (wd := wd) (w := w) hx m3 h1 h2 h3
      refine ⟨K2, m2, ?_⟩
      simp (disch := first | assumption | exact pj_long_i | exact pj_long_r | exact pj_long_n | decide) only [x51_327, x51_329, x51_330, x51_331, x51_334, x51_335, simprocAttr, pj_then_s, pj_pv_s, pj_pi_s, pj_set_s, if_true, if_false, not_true_eq_false, not_false_eq_true, pj_up_up, pj_up_ap, pj_upd_ap, pj_a3_0, pj_a3_1, pj_a3_2, pj_a3_u0, pj_a3_u1, pj_a3_u2, c1]
      refine e51_336 rfl hM.u4 e1 ?_
      simp (disch := first | assumption | exact pj_long_i | exact pj_long_r | exact pj_long_n | decide) only [x51_339, x51_340, x51_341, x51_344, x51_345, simprocAttr, pj_then_s, pj_pv_s, pj_pi_s, pj_set_s, if_true, if_false, not_true_eq_false, not_false_eq_true, pj_up_up, pj_up_ap, pj_upd_ap, pj_a3_0, pj_a3_1, pj_a3_2, pj_a3_u0, pj_a3_u1, pj_a3_u2, c2]
      refine e51_346 rfl m1.u4 e3 ?_
      simp (disch := first | assumption | exact pj_long_i | exact pj_long_r | exact pj_long_n | decide) only [x51_349, x51_350, x51_351, simprocAttr, pj_then_s, pj_pv_s, pj_pi_s, pj_set_s, if_true, if_false, not_true_eq_false, not_false_eq_true, pj_up_up, pj_up_ap, pj_upd_ap, pj_a3_0, pj_a3_1, pj_a3_2, pj_a3_u0, pj_a3_u1, pj_a3_u2, c3]
      exact e2
    · obtain ⟨K2, m2, e2⟩ := t_354 (N := N) (S := S) (eb := eb) (v := v) (x0 := x0) (x1 := x1) (x2 := x2) (c := c) (f0 := f0) (vo := vo) (wd := wd) (w := w) hx m1 h1 h2 h3
      refine ⟨K2, m2, ?_⟩
      simp (disch := first | assumption | exact pj_long_i | exact pj_long_r | exact pj_long_n | decide) only [x51_327, x51_329, x51_330, x51_331, x51_334, x51_335, simprocAttr, pj_then_s, pj_pv_s, pj_pi_s, pj_set_s, if_true, if_false, not_true_eq_false, not_false_eq_true, pj_up_up, pj_up_ap, pj_upd_ap, pj_a3_0, pj_a3_1, pj_a3_2, pj_a3_u0, pj_a3_u1, pj_a3_u2, c1]
      refine e51_336 rfl hM.u4 e1 ?_
      simp (disch := first | assumption | exact pj_long_i | exact pj_long_r | exact pj_long_n | decide) only [x51_339, x51_340, x51_341, simprocAttr, pj_then_s, pj_pv_s, pj_pi_s, pj_set_s, if_true, if_false, not_true_eq_false, not_false_eq_true, pj_up_up, pj_up_ap, pj_upd_ap, pj_a3_0, pj_a3_1, pj_a3_2, pj_a3_u0, pj_a3_u1, pj_a3_u2, c2]
      exact e2
theorem t_305 (hx : pj_In x) (hM : lw_M Ln xs K x y) (h1 : ¬ md < 98000) (h2 : ¬ 102000 < md) (h3 : w &&& op_count x 4 = 0) (h4 : w &&& 2 = 0 ∨ ¬ op_count x 3 &&& 1 = 0 ∨ ¬ op_count x 4 &&& 1 = 0) (h5 : w &&& 4 = 0 ∨ ¬ op_count x 3 &&& 2 = 0) : ∃ K', lw_M Ln xs K' x y ∧ pj_Ends 51 (305, [some (.ref 4), some (.ref 109), some (.int eb), some (.int v), some (.int x0), some (.int x1), some (.int x2), some (.int c), some (.int f0), some (.int vo), some (.int wd), some (.int md), some (.int w), some (.int 1)], [], (N, S, K)) (some (.int 1), (N, S, K')) := by
  by_cases c1 : w &&& 4 = 0
  · obtain ⟨K2, m2, e2⟩ := t_327 (N := N) (S := S) (eb := eb) (v := v) (x0 := x0) (x1 := x1) (x2 := x2) (c := c) (f0 := f0) (vo := vo) (wd := wd) (w := w) hx hM h1 h2 h3 h4
    refine ⟨K2, m2, ?_⟩
    simp (disch := first | assumption | exact pj_long_i | exact pj_long_r | exact pj_long_n | decide) only [x51_305, x51_307, x51_310, x51_312, x51_313, x51_314, simprocAttr, pj_then_s, pj_pv_s, pj_pi_s, pj_set_s, if_true, if_false, not_true_eq_false, not_false_eq_true, pj_up_up, pj_up_ap, pj_upd_ap, pj_a3_0, pj_a3_1, pj_a3_2, pj_a3_u0, pj_a3_u1, pj_a3_u2, c1]
    exact e2
  · have c2 := h5.resolve_left c1
    obtain ⟨K1, m1, e1⟩ := o_count (N := N) (S := S) (w := 3) hx hM
    obtain ⟨K2, m2, e2⟩ := t_327 (N := N) (S := S) (eb := eb) (v := v) (x0 := x0) (x1 := x1) (x2 := x2) (c := c) (f0 := f0) (vo := vo) (wd := wd) (w := w) hx m1 h1 h2 h3 h4
    refine ⟨K2, m2, ?_⟩
    simp (disch := first | assumption | exact pj_long_i | exact pj_long_r | exact pj_long_n | decide) only [x51_305, x51_307, x51_310, x51_312, x51_313, x51_314, x51_317, x51_318, simprocAttr, pj_then_s, pj_pv_s, pj_pi_s, pj_set_s, if_true, if_false, not_true_eq_false, not_false_eq_true, pj_up_up, pj_up_ap, pj_upd_ap, pj_a3_0, pj_a3_1, pj_a3_2, pj_a3_u0, pj_a3_u1, pj_a3_u2, c1]
    refine e51_319 rfl hM.u4 e1 ?_
    simp (disch := first | assumption | exact pj_long_i | exact pj_long_r | exact pj_long_n | decide) only [x51_322, x51_323, x51_324, simprocAttr, pj_then_s, pj_pv_s, pj_pi_s, pj_set_s, if_true, if_false, not_true_eq_false, not_false_eq_true, pj_up_up, pj_up_ap, pj_upd_ap, pj_a3_0, pj_a3_1, pj_a3_2, pj_a3_u0, pj_a3_u1, pj_a3_u2, c2]
    exact e2
theorem t_285 (hx : pj_In x) (hM : lw_M Ln xs K x y) (h1 : ¬ md < 98000) (h2 : ¬ 102000 < md) (h3 : w &&& op_count x 4 = 0) (h4 : w &&& 2 = 0 ∨ ¬ op_count x 3 &&& 1 = 0 ∨ ¬ op_count x 4 &&& 1 = 0) (h5 : w &&& 4 = 0 ∨ ¬ op_count x 3 &&& 2 = 0) (h6 : w = 0 ∨ ¬ op_count x 1 ≤ 0) : ∃ K', lw_M Ln xs K' x y ∧ pj_Ends 51 (285, [some (.ref 4), some (.ref 109), some (.int eb), some (.int v), some (.int x0), some (.int x1), some (.int x2), some (.int c), some (.int f0), some (.int vo), some (.int wd), some (.int md), some (.int w), none], [], (N, S, K)) (some (.int 1), (N, S, K')) := by
  by_cases c1 : w = 0
  · obtain ⟨K2, m2, e2⟩ := t_305 (N := N) (S := S) (eb := eb) (v := v) (x0 := x0) (x1 := x1) (x2 := x2) (c := c) (f0 := f0) (vo := vo) (wd := wd) (w := w) hx hM h1 h2 h3 h4 h5
    refine ⟨K2, m2, ?_⟩
    clear h3 h4 h5 h6
    subst c1
    simp (disch := first | assumption | exact pj_long_i | exact pj_long_r | exact pj_long_n | decide) only [x51_285, x51_287, x51_290, x51_291, x51_295, x51_298, x51_299, x51_302, x51_303, simprocAttr, pj_then_s, pj_pv_s, pj_pi_s, pj_set_s, if_true, if_false, not_true_eq_false, not_false_eq_true, pj_up_up, pj_up_ap, pj_upd_ap, pj_a3_0, pj_a3_1, pj_a3_2, pj_a3_u0, pj_a3_u1, pj_a3_u2, pj_long_i, pj_long_r, pj_long_n]
    exact e2
  · have c2 := h6.resolve_left c1
    obtain ⟨K1, m1, e1⟩ := o_count (N := N) (S := S) (w := 1) hx hM
    obtain ⟨K2, m2, e2⟩ := t_305 (N := N) (S := S) (eb := eb) (v := v) (x0 := x0) (x1 := x1) (x2 := x2) (c := c) (f0 := f0) (vo := vo) (wd := wd) (w := w) hx m1 h1 h2 h3 h4 h5
    refine ⟨K2, m2, ?_⟩
    simp (disch := first | assumption | exact pj_long_i | exact pj_long_r | exact pj_long_n | decide) only [x51_285, x51_287, x51_290, x51_291, simprocAttr, pj_then_s, pj_pv_s, pj_pi_s, pj_set_s, if_true, if_false, not_true_eq_false, not_false_eq_true, pj_up_up, pj_up_ap, pj_upd_ap, pj_a3_0, pj_a3_1, pj_a3_2, pj_a3_u0, pj_a3_u1, pj_a3_u2, c1]
    refine e51_292 rfl hM.u4 e1 ?_
    simp (disch := first | assumption | exact pj_long_i | exact pj_long_r | exact pj_long_n | decide) only [x51_295, x51_298, x51_299, x51_302, x51_303, simprocAttr, pj_then_s, pj_pv_s, pj_pi_s, pj_set_s, if_true, if_false, not_true_eq_false, not_false_eq_true, pj_up_up, pj_up_ap, pj_upd_ap, pj_a3_0, pj_a3_1, pj_a3_2, pj_a3_u0, pj_a3_u1, pj_a3_u2, pj_long_i, pj_long_r, pj_long_n, c2]
    exact e2
theorem c_isTick (hb : eb = nI b) (b6 : b < 6) (hN : 109 ≤ N) (hn : n ≤ 999) (hJ : lw_J b n x y) (hM : lw_M Ln xs K x y) : ∃ x' y' K', lw_J b (n + 1) x' y' ∧ lw_M Ln xs K' x' y' ∧ pj_Ends 51 (0, [some (.ref 4), some (.ref 109), some (.int eb), some (.int v), none, none, none, none, none, none, none, none, none, none], [], (N, S, K)) (some (.int 1), (N, S, K')) := by
  obtain ⟨x0, x1, x2, c, i0, i1, i2, hc, kk⟩ := h_all (eb := eb) (v := v) (M := (N, S, K))
  obtain ⟨j1, j2, j3, j4, j5, j6, j7, j8, j9, j10⟩ := J_tick_ok (c := c) hn i0 i1 i2 hJ
  obtain ⟨q1, q2⟩ := J_tick (c := c) b6 hn i0 i1 i2 hJ
  have hx := hJ.1
  have hy := hJ.2.1
  obtain ⟨K1, m1, e1⟩ := o_count (N := N) (S := S) (w := 3) hx hM
  obtain ⟨K2, m2, e2⟩ := o_count (N := N) (S := S) (w := 2) hx m1
  obtain ⟨K3, m3, e3⟩ := o_ifTick (N := N) (S := S) (w := 0) (x0 := x0) (x1 := x1) (x2 := x2) hc hx m2
  obtain ⟨K4, m4, e4⟩ := o_ifTick (N := N) (S := S) (w := 1) (x0 := x0) (x1 := x1) (x2 := x2) hc hx m3
  obtain ⟨K5, m5, e5⟩ := o_tick (N := N) (S := S) (x0 := x0) (x1 := x1) (x2 := x2) hc hx m4
  obtain ⟨K6, m6, e6⟩ := c_ltick (N := N) (S := S) (x0 := x0) (x1 := x1) (x2 := x2) hb b6 hc hN hy m5
  rw [q1] at e6
  have hx' := q2.1
  generalize (op_tick y (lw_pick b 0 x0 x1 x2) (lw_pick b 1 x0 x1 x2) (lw_pick b 2 x0 x1 x2) c).1 = y' at q2 m6
  generalize (op_tick x x0 x1 x2 c).1 = x' at q2 m5 m6 hx' j3 j4 j5 j6 j7 j8
  generalize (op_tick x x0 x1 x2 c).2 = w at e5 e6 j1 j2 j3 j5 j6 j7 j8
  obtain ⟨K7, m7, e7⟩ := o_count (N := N) (S := S) (w := 3) hx' m6
  obtain ⟨K8, m8, e8⟩ := o_count (N := N) (S := S) (w := 2) hx' m7
  obtain ⟨K9, m9, e9⟩ := t_285 (N := N) (S := S) (eb := eb) (v := v) (x0 := x0) (x1 := x1) (x2 := x2) (c := c) (f0 := op_count x 3) (vo := op_count x 2) (wd := op_ifTick x.1 x0 x1 x2 c 0) (w := w) hx' m8 j9 j10 j8 j7 j6 j5
  refine ⟨x', y', K9, q2, m9, kk _ ?_⟩
  rw [j1] at e3 e9
  generalize op_ifTick x.1 x0 x1 x2 c 1 = md at e4 e9
  generalize op_count x 3 = f0 at e1 e9 j2 j3
  generalize op_count x 2 = vo at e2 e9 j4
  simp (disch := first | assumption | exact pj_long_i | exact pj_long_r | exact pj_long_n | decide) only [x51_168, x51_169, simprocAttr, pj_then_s, pj_pv_s, pj_pi_s, pj_set_s, if_true, if_false, not_true_eq_false, not_false_eq_true, pj_up_up, pj_up_ap, pj_upd_ap, pj_a3_0, pj_a3_1, pj_a3_2, pj_a3_u0, pj_a3_u1, pj_a3_u2]
  refine e51_170 rfl hM.u4 e1 ?_
  simp (disch := first | assumption | exact pj_long_i | exact pj_long_r | exact pj_long_n | decide) only [x51_173, x51_175, x51_176, simprocAttr, pj_then_s, pj_pv_s, pj_pi_s, pj_set_s, if_true, if_false, not_true_eq_false, not_false_eq_true, pj_up_up, pj_up_ap, pj_upd_ap, pj_a3_0, pj_a3_1, pj_a3_2, pj_a3_u0, pj_a3_u1, pj_a3_u2, pj_long_i, pj_long_r, pj_long_n]
  refine e51_177 rfl m1.u4 e2 ?_
  simp (disch := first | assumption | exact pj_long_i | exact pj_long_r | exact pj_long_n | decide) only [x51_180, x51_182, x51_183, x51_185, x51_187, x51_189, x51_191, simprocAttr, pj_then_s, pj_pv_s, pj_pi_s, pj_set_s, if_true, if_false, not_true_eq_false, not_false_eq_true, pj_up_up, pj_up_ap, pj_upd_ap, pj_a3_0, pj_a3_1, pj_a3_2, pj_a3_u0, pj_a3_u1, pj_a3_u2, pj_long_i, pj_long_r, pj_long_n]
  refine e51_192 rfl m2.u4 e3 ?_
  simp (disch := first | assumption | exact pj_long_i | exact pj_long_r | exact pj_long_n | decide) only [x51_195, x51_197, x51_198, x51_200, x51_202, x51_204, x51_206, simprocAttr, pj_then_s, pj_pv_s, pj_pi_s, pj_set_s, if_true, if_false, not_true_eq_false, not_false_eq_true, pj_up_up, pj_up_ap, pj_upd_ap, pj_a3_0, pj_a3_1, pj_a3_2, pj_a3_u0, pj_a3_u1, pj_a3_u2, pj_long_i, pj_long_r, pj_long_n]
  refine e51_207 rfl m3.u4 e4 ?_
  simp (disch := first | assumption | exact pj_long_i | exact pj_long_r | exact pj_long_n | decide) only [x51_210, x51_212, x51_213, x51_215, x51_217, x51_219, simprocAttr, pj_then_s, pj_pv_s, pj_pi_s, pj_set_s, if_true, if_false, not_true_eq_false, not_false_eq_true, pj_up_up, pj_up_ap, pj_upd_ap, pj_a3_0, pj_a3_1, pj_a3_2, pj_a3_u0, pj_a3_u1, pj_a3_u2, pj_long_i, pj_long_r, pj_long_n]
  refine e51_221 rfl m4.u4 e5 ?_
  simp (disch := first | assumption | exact pj_long_i | exact pj_long_r | exact pj_long_n | decide) only [x51_224, x51_226, x51_228, x51_230, x51_233, x51_235, x51_236, x51_237, x51_239, x51_241, x51_243, simprocAttr, pj_then_s, pj_pv_s, pj_pi_s, pj_set_s, if_true, if_false, not_true_eq_false, not_false_eq_true, pj_up_up, pj_up_ap, pj_upd_ap, pj_a3_0, pj_a3_1, pj_a3_2, pj_a3_u0, pj_a3_u1, pj_a3_u2, pj_long_i, pj_long_r, pj_long_n]
  refine e51_245 rfl e6 ?_
  simp (disch := first | assumption | exact pj_long_i | exact pj_long_r | exact pj_long_n | decide) only [x51_248, x51_251, x51_253, x51_255, x51_256, x51_259, x51_260, simprocAttr, pj_then_s, pj_pv_s, pj_pi_s, pj_set_s, if_true, if_false, not_true_eq_false, not_false_eq_true, pj_up_up, pj_up_ap, pj_upd_ap, pj_a3_0, pj_a3_1, pj_a3_2, pj_a3_u0, pj_a3_u1, pj_a3_u2, j2]
  refine e51_261 rfl m6.u4 e7 ?_
  simp (disch := first | assumption | exact pj_long_i | exact pj_long_r | exact pj_long_n | decide) only [x51_264, x51_266, x51_268, x51_269, x51_272, x51_273, simprocAttr, pj_then_s, pj_pv_s, pj_pi_s, pj_set_s, if_true, if_false, not_true_eq_false, not_false_eq_true, pj_up_up, pj_up_ap, pj_upd_ap, pj_a3_0, pj_a3_1, pj_a3_2, pj_a3_u0, pj_a3_u1, pj_a3_u2, j3]
  refine e51_274 rfl m7.u4 e8 ?_
  simp (disch := first | assumption | exact pj_long_i | exact pj_long_r | exact pj_long_n | decide) only [x51_277, x51_279, x51_280, x51_281, x51_282, simprocAttr, pj_then_s, pj_pv_s, pj_pi_s, pj_set_s, if_true, if_false, not_true_eq_false, not_false_eq_true, pj_up_up, pj_up_ap, pj_upd_ap, pj_a3_0, pj_a3_1, pj_a3_2, pj_a3_u0, pj_a3_u1, pj_a3_u2, j4]
  exact e9
end T97
