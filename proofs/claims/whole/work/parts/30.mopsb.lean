/-! THE REFERENCE'S CALLS THAT CHANGE, 2 -/
theorem sp_th_lt {a : Int32} (h : ¬ sp_th a = 0) : a = 0 ∨ a = 1 ∨ a = 2 := by
  unfold sp_th at h
  by_cases q : 0 ≤ a ∧ a ≤ 2
  · rw [Int32.le_iff_toInt_le, Int32.le_iff_toInt_le] at q
    have e0 : (0 : Int32).toInt = 0 := rfl
    have e2 : (2 : Int32).toInt = 2 := rfl
    rw [e0, e2] at q
    have : a.toInt = 0 ∨ a.toInt = 1 ∨ a.toInt = 2 := by omega
    rcases this with e | e | e
    · exact Or.inl (Int32.toInt_inj.mp e)
    · exact Or.inr (Or.inl (Int32.toInt_inj.mp e))
    · exact Or.inr (Or.inr (Int32.toInt_inj.mp e))
  · rw [if_neg q] at h
    exact absurd rfl h
theorem pj_tn0 : (0 : Int32).toNatClampNeg = 0 := rfl
theorem pj_tn1 : (1 : Int32).toNatClampNeg = 1 := rfl
theorem pj_tn2 : (2 : Int32).toNatClampNeg = 2 := rfl
def sp_bar (f : Nat → Int32) : Int32 := f 26 + 2 * f 27 + 4 * f 28
def sp_fb (f : Nat → Int32) (k : Nat) (b : Int32) : Int32 := if f (23 + k) = -6 then 0 else 1 <<< (b &&& 31)
def sp_fired (f : Nat → Int32) : Int32 := 0 ||| sp_fb f 0 0 ||| sp_fb f 1 1 ||| sp_fb f 2 2
section M7
variable {N S : Nat} {H : pj_Heap} {o : Option Value × pj_Mem} {hl mid lo hi fi pl sp nu ic td : Int32} {f g : Nat → Int32}
theorem m_barred (hm : H 109 = pj_mo hl mid lo hi fi pl sp nu ic td) (hf : H 110 = .inr (0, 152, .inl f)) : pj_Ends 100 (0, [some (.ref 109)], [], (N, S, H)) (some (.int (sp_bar f)), (N, S, H)) := by
  simp (disch := first | assumption | exact pj_long_i | exact pj_long_r | exact pj_long_n | decide) only [x100_0, x100_1, x100_4, x100_6, x100_7, x100_8, x100_9, x100_12, x100_14, x100_15, x100_16, x100_17, x100_18, x100_19, x100_22, x100_24, x100_25, x100_26, simprocAttr, pj_then_s, pj_pv_s, pj_pi_s, pj_set_s, if_true, if_false, not_true_eq_false, not_false_eq_true, pj_up_up, pj_up_sort, pj_up_ap, pj_upd_ap, pj_a3_0, pj_a3_1, pj_a3_2, pj_a3_u0, pj_a3_u1, pj_a3_u2, pj_f6_0, pj_arl_i, hm, hf, pj_mo]
  exact t100_27
theorem m_fd_0 {n : Int32} (hm : H 109 = pj_mo hl mid lo hi fi pl sp nu ic td) (hf : H 110 = .inr (0, 152, .inl f))
    (K : pj_Ends 102 (4, [some (.ref 109), some (.int (n ||| sp_fb f 0 0)), some (.int (1))], [], (N, S, H)) o) :
    pj_Ends 102 (4, [some (.ref 109), some (.int n), some (.int 0)], [], (N, S, H)) o := by
  unfold sp_fb at K
  rw [x102_4]
  by_cases c1 : f 23 = -6
  · simp only [simprocAttr, ite_self, Int32.lt_irrefl, pj_upd_ap, if_true, if_false, Classical.not_not, not_true_eq_false, not_false_eq_true, true_and, and_true, false_and, and_false, pj_a3_0, pj_a3_1, pj_a3_2, pj_a3_u0, pj_a3_u1, pj_a3_u2, c1] at K
    simp (disch := first | assumption | exact pj_long_i | exact pj_long_r | exact pj_long_n | decide) only [x102_0, x102_1, x102_2, x102_3, x102_5, x102_6, x102_9, x102_10, x102_11, x102_14, x102_16, x102_17, x102_18, x102_19, x102_21, x102_24, x102_25, x102_28, x102_29, x102_30, x102_31, x102_32, x102_33, x102_36, x102_39, simprocAttr, pj_then_s, pj_pv_s, pj_pi_s, pj_set_s, if_true, if_false, not_true_eq_false, not_false_eq_true, pj_up_up, pj_up_sort, pj_up_ap, pj_upd_ap, pj_a3_0, pj_a3_1, pj_a3_2, pj_a3_u0, pj_a3_u1, pj_a3_u2, pj_long_i, pj_long_r, pj_long_n, pj_f6_0, pj_arl_i, hm, hf, pj_mo, c1]
    exact K
  · simp only [simprocAttr, ite_self, Int32.lt_irrefl, pj_upd_ap, if_true, if_false, Classical.not_not, not_true_eq_false, not_false_eq_true, true_and, and_true, false_and, and_false, pj_a3_0, pj_a3_1, pj_a3_2, pj_a3_u0, pj_a3_u1, pj_a3_u2, c1] at K
    simp (disch := first | assumption | exact pj_long_i | exact pj_long_r | exact pj_long_n | decide) only [x102_0, x102_1, x102_2, x102_3, x102_5, x102_6, x102_9, x102_10, x102_11, x102_14, x102_16, x102_17, x102_18, x102_19, x102_21, x102_24, x102_25, x102_28, x102_29, x102_30, x102_31, x102_32, x102_33, x102_36, x102_39, simprocAttr, pj_then_s, pj_pv_s, pj_pi_s, pj_set_s, if_true, if_false, not_true_eq_false, not_false_eq_true, pj_up_up, pj_up_sort, pj_up_ap, pj_upd_ap, pj_a3_0, pj_a3_1, pj_a3_2, pj_a3_u0, pj_a3_u1, pj_a3_u2, pj_long_i, pj_long_r, pj_long_n, pj_f6_0, pj_arl_i, hm, hf, pj_mo, c1]
    exact K
theorem m_fd_1 {n : Int32} (hm : H 109 = pj_mo hl mid lo hi fi pl sp nu ic td) (hf : H 110 = .inr (0, 152, .inl f))
    (K : pj_Ends 102 (4, [some (.ref 109), some (.int (n ||| sp_fb f 1 1)), some (.int (2))], [], (N, S, H)) o) :
    pj_Ends 102 (4, [some (.ref 109), some (.int n), some (.int 1)], [], (N, S, H)) o := by
  unfold sp_fb at K
  rw [x102_4]
  by_cases c1 : f 24 = -6
  · simp only [simprocAttr, ite_self, Int32.lt_irrefl, pj_upd_ap, if_true, if_false, Classical.not_not, not_true_eq_false, not_false_eq_true, true_and, and_true, false_and, and_false, pj_a3_0, pj_a3_1, pj_a3_2, pj_a3_u0, pj_a3_u1, pj_a3_u2, c1] at K
    simp (disch := first | assumption | exact pj_long_i | exact pj_long_r | exact pj_long_n | decide) only [x102_0, x102_1, x102_2, x102_3, x102_5, x102_6, x102_9, x102_10, x102_11, x102_14, x102_16, x102_17, x102_18, x102_19, x102_21, x102_24, x102_25, x102_28, x102_29, x102_30, x102_31, x102_32, x102_33, x102_36, x102_39, simprocAttr, pj_then_s, pj_pv_s, pj_pi_s, pj_set_s, if_true, if_false, not_true_eq_false, not_false_eq_true, pj_up_up, pj_up_sort, pj_up_ap, pj_upd_ap, pj_a3_0, pj_a3_1, pj_a3_2, pj_a3_u0, pj_a3_u1, pj_a3_u2, pj_long_i, pj_long_r, pj_long_n, pj_f6_0, pj_arl_i, hm, hf, pj_mo, c1]
    exact K
  · simp only [simprocAttr, ite_self, Int32.lt_irrefl, pj_upd_ap, if_true, if_false, Classical.not_not, not_true_eq_false, not_false_eq_true, true_and, and_true, false_and, and_false, pj_a3_0, pj_a3_1, pj_a3_2, pj_a3_u0, pj_a3_u1, pj_a3_u2, c1] at K
    simp (disch := first | assumption | exact pj_long_i | exact pj_long_r | exact pj_long_n | decide) only [x102_0, x102_1, x102_2, x102_3, x102_5, x102_6, x102_9, x102_10, x102_11, x102_14, x102_16, x102_17, x102_18, x102_19, x102_21, x102_24, x102_25, x102_28, x102_29, x102_30, x102_31, x102_32, x102_33, x102_36, x102_39, simprocAttr, pj_then_s, pj_pv_s, pj_pi_s, pj_set_s, if_true, if_false, not_true_eq_false, not_false_eq_true, pj_up_up, pj_up_sort, pj_up_ap, pj_upd_ap, pj_a3_0, pj_a3_1, pj_a3_2, pj_a3_u0, pj_a3_u1, pj_a3_u2, pj_long_i, pj_long_r, pj_long_n, pj_f6_0, pj_arl_i, hm, hf, pj_mo, c1]
    exact K
theorem m_fd_2 {n : Int32} (hm : H 109 = pj_mo hl mid lo hi fi pl sp nu ic td) (hf : H 110 = .inr (0, 152, .inl f))
    (K : pj_Ends 102 (4, [some (.ref 109), some (.int (n ||| sp_fb f 2 2)), some (.int (3))], [], (N, S, H)) o) :
    pj_Ends 102 (4, [some (.ref 109), some (.int n), some (.int 2)], [], (N, S, H)) o := by
  unfold sp_fb at K
  rw [x102_4]
  by_cases c1 : f 25 = -6
  · simp only [simprocAttr, ite_self, Int32.lt_irrefl, pj_upd_ap, if_true, if_false, Classical.not_not, not_true_eq_false, not_false_eq_true, true_and, and_true, false_and, and_false, pj_a3_0, pj_a3_1, pj_a3_2, pj_a3_u0, pj_a3_u1, pj_a3_u2, c1] at K
    simp (disch := first | assumption | exact pj_long_i | exact pj_long_r | exact pj_long_n | decide) only [x102_0, x102_1, x102_2, x102_3, x102_5, x102_6, x102_9, x102_10, x102_11, x102_14, x102_16, x102_17, x102_18, x102_19, x102_21, x102_24, x102_25, x102_28, x102_29, x102_30, x102_31, x102_32, x102_33, x102_36, x102_39, simprocAttr, pj_then_s, pj_pv_s, pj_pi_s, pj_set_s, if_true, if_false, not_true_eq_false, not_false_eq_true, pj_up_up, pj_up_sort, pj_up_ap, pj_upd_ap, pj_a3_0, pj_a3_1, pj_a3_2, pj_a3_u0, pj_a3_u1, pj_a3_u2, pj_long_i, pj_long_r, pj_long_n, pj_f6_0, pj_arl_i, hm, hf, pj_mo, c1]
    exact K
  · simp only [simprocAttr, ite_self, Int32.lt_irrefl, pj_upd_ap, if_true, if_false, Classical.not_not, not_true_eq_false, not_false_eq_true, true_and, and_true, false_and, and_false, pj_a3_0, pj_a3_1, pj_a3_2, pj_a3_u0, pj_a3_u1, pj_a3_u2, c1] at K
    simp (disch := first | assumption | exact pj_long_i | exact pj_long_r | exact pj_long_n | decide) only [x102_0, x102_1, x102_2, x102_3, x102_5, x102_6, x102_9, x102_10, x102_11, x102_14, x102_16, x102_17, x102_18, x102_19, x102_21, x102_24, x102_25, x102_28, x102_29, x102_30, x102_31, x102_32, x102_33, x102_36, x102_39, simprocAttr, pj_then_s, pj_pv_s, pj_pi_s, pj_set_s, if_true, if_false, not_true_eq_false, not_false_eq_true, pj_up_up, pj_up_sort, pj_up_ap, pj_upd_ap, pj_a3_0, pj_a3_1, pj_a3_2, pj_a3_u0, pj_a3_u1, pj_a3_u2, pj_long_i, pj_long_r, pj_long_n, pj_f6_0, pj_arl_i, hm, hf, pj_mo, c1]
    exact K
theorem m_fired (hm : H 109 = pj_mo hl mid lo hi fi pl sp nu ic td) (hf : H 110 = .inr (0, 152, .inl f)) :
    pj_Ends 102 (0, [some (.ref 109), none, none], [], (N, S, H)) (some (.int (sp_fired f)), (N, S, H)) := by
  simp (disch := first | assumption | exact pj_long_i | exact pj_long_r | exact pj_long_n | decide) only [x102_0, x102_1, x102_2, x102_3, simprocAttr, pj_then_s, pj_pv_s, pj_pi_s, pj_set_s, if_true, if_false, not_true_eq_false, not_false_eq_true, pj_up_up, pj_up_sort, pj_up_ap, pj_upd_ap, pj_a3_0, pj_a3_1, pj_a3_2, pj_a3_u0, pj_a3_u1, pj_a3_u2, pj_long_i, pj_long_r, pj_long_n]
  refine m_fd_0 hm hf ?_
  refine m_fd_1 hm hf ?_
  refine m_fd_2 hm hf ?_
  simp (disch := first | assumption | exact pj_long_i | exact pj_long_r | exact pj_long_n | decide) only [x102_0, x102_1, x102_2, x102_3, x102_4, x102_5, x102_6, x102_9, x102_10, x102_11, x102_14, x102_16, x102_17, x102_18, x102_19, x102_21, x102_24, x102_25, x102_28, x102_29, x102_30, x102_31, x102_32, x102_33, x102_36, x102_39, simprocAttr, pj_then_s, pj_pv_s, pj_pi_s, pj_set_s, if_true, if_false, not_true_eq_false, not_false_eq_true, pj_up_up, pj_up_sort, pj_up_ap, pj_upd_ap, pj_a3_0, pj_a3_1, pj_a3_2, pj_a3_u0, pj_a3_u1, pj_a3_u2, pj_long_i, pj_long_r, pj_long_n, pj_f6_0, pj_arl_i]
  exact t102_40
end M7
def op_bar (x : pj_Sg) (a b : Int32) : pj_Sg × Int32 := if sp_th a = 0 then (x, -1) else if x.1 (26 + a.toNatClampNeg) = b then (x, -5) else if x.1 (23 + a.toNatClampNeg) = -6 then (sp_push x (upd x.1 (26 + a.toNatClampNeg) b), sp_bar (upd x.1 (26 + a.toNatClampNeg) b)) else (x, -5)
theorem M_bar {N S : Nat} {H : pj_Heap} {x : pj_Sg} {a b : Int32} (hb : b = 0 ∨ b = 1) (hx : pj_In x) (hM : pj_M H x) : pj_Mo N S H 98 [some (.ref 109), some (.int a), some (.int b), none] (op_bar x a b) := by
  have hM' := hM
  obtain ⟨k, hs0, sl0, r0, r1, r2, a0, a1, a2, mid, lo, hi, fi, sp, nu, ic, td, ⟨hm, hf, hk, hh, hs, hv, hg, hA, hp⟩, hr⟩ := hM
  have K0 : ∀ (a : Int32) (H' : pj_Heap) (r : Int32), ¬ sp_th a = 0 → pj_Ends 98 (19, [some (.ref 109), some (.int a), some (.int b), some (.int b)], [], (N, S, H)) (some (.int r), (N, S, H')) → pj_Ends 98 (0, [some (.ref 109), some (.int a), some (.int b), none], [], (N, S, H)) (some (.int r), (N, S, H')) := by
    intro a H' r c1 K
    simp (disch := first | assumption | exact pj_long_i | exact pj_long_r | exact pj_long_n | decide) only [x98_0, simprocAttr, pj_then_s, pj_pv_s, pj_pi_s, pj_set_s, if_true, if_false, not_true_eq_false, not_false_eq_true, pj_up_up, pj_up_sort, pj_up_ap, pj_upd_ap, pj_a3_0, pj_a3_1, pj_a3_2, pj_a3_u0, pj_a3_u1, pj_a3_u2]
    refine e98_1 rfl m_isThree ?_
    rcases hb with e | e
    · subst e
      simp (disch := first | assumption | exact pj_long_i | exact pj_long_r | exact pj_long_n | decide) only [x98_4, x98_7, x98_9, x98_10, x98_13, x98_14, x98_17, x98_18, simprocAttr, pj_then_s, pj_pv_s, pj_pi_s, pj_set_s, if_true, if_false, not_true_eq_false, not_false_eq_true, pj_up_up, pj_up_sort, pj_up_ap, pj_upd_ap, pj_a3_0, pj_a3_1, pj_a3_2, pj_a3_u0, pj_a3_u1, pj_a3_u2, pj_long_i, pj_long_r, pj_long_n, c1]
      exact K
    · subst e
      simp (disch := first | assumption | exact pj_long_i | exact pj_long_r | exact pj_long_n | decide) only [x98_4, x98_7, x98_9, x98_10, x98_13, x98_14, x98_17, x98_18, simprocAttr, pj_then_s, pj_pv_s, pj_pi_s, pj_set_s, if_true, if_false, not_true_eq_false, not_false_eq_true, pj_up_up, pj_up_sort, pj_up_ap, pj_upd_ap, pj_a3_0, pj_a3_1, pj_a3_2, pj_a3_u0, pj_a3_u1, pj_a3_u2, pj_long_i, pj_long_r, pj_long_n, c1]
      exact K
  unfold op_bar
  by_cases c1 : sp_th a = 0
  · rw [if_pos c1]
    refine pj_Mo_same hM' ?_
    simp (disch := first | assumption | exact pj_long_i | exact pj_long_r | exact pj_long_n | decide) only [x98_0, simprocAttr, pj_then_s, pj_pv_s, pj_pi_s, pj_set_s, if_true, if_false, not_true_eq_false, not_false_eq_true, pj_up_up, pj_up_sort, pj_up_ap, pj_upd_ap, pj_a3_0, pj_a3_1, pj_a3_2, pj_a3_u0, pj_a3_u1, pj_a3_u2]
    refine e98_1 rfl m_isThree ?_
    simp (disch := first | assumption | exact pj_long_i | exact pj_long_r | exact pj_long_n | decide) only [x98_4, x98_7, simprocAttr, pj_then_s, pj_pv_s, pj_pi_s, pj_set_s, if_true, if_false, not_true_eq_false, not_false_eq_true, pj_up_up, pj_up_sort, pj_up_ap, pj_upd_ap, pj_a3_0, pj_a3_1, pj_a3_2, pj_a3_u0, pj_a3_u1, pj_a3_u2, c1]
    exact t98_8
  rw [if_neg c1]
  have K1 := K0 a
  rcases sp_th_lt c1 with e | e | e
  · subst e
    rw [pj_tn0]
    by_cases c2 : x.1 26 = b
    · rw [if_pos c2]
      refine pj_Mo_same hM' (K1 _ _ c1 ?_)
      simp (disch := first | assumption | exact pj_long_i | exact pj_long_r | exact pj_long_n | decide) only [x98_19, x98_20, x98_23, x98_25, x98_26, x98_27, x98_28, x98_29, x98_32, x98_33, x98_36, x98_38, x98_39, x98_40, x98_41, x98_43, x98_46, simprocAttr, pj_then_s, pj_pv_s, pj_pi_s, pj_set_s, if_true, if_false, not_true_eq_false, not_false_eq_true, pj_up_up, pj_up_sort, pj_up_ap, pj_upd_ap, pj_a3_0, pj_a3_1, pj_a3_2, pj_a3_u0, pj_a3_u1, pj_a3_u2, pj_f6_0, pj_arl_i, hm, hf, pj_mo, c2]
      exact t98_48
    rw [if_neg c2]
    by_cases c3 : x.1 23 = -6
    · rw [if_pos c3]
      refine m_chg (f' := upd x.1 26 b) (H1 := pj_up (pj_up H 110 (.inr (0, 152, .inl (upd x.1 26 b)))) 111 (.inr (0, 152, .inl (va_cpy x.1 k 0 0 152)))) (mid := mid) (lo := lo) (hi := hi) (fi := fi) (sp := sp) (nu := nu) (ic := ic) (td := td) (hs := hs0) (sl := sl0) (k := va_cpy x.1 k 0 0 152) (r0 := r0) (r1 := r1) (r2 := r2) (a0 := a0) (a1 := a1) (a2 := a2) hx ⟨(by (try simp (disch := decide) only [simprocAttr, pj_up_ap, if_true, if_false, pj_mo, hm, hf, hk, hh, hs, hv, hg, hA, hp]) <;> rfl), (by (try simp (disch := decide) only [simprocAttr, pj_up_ap, if_true, if_false, pj_mo, hm, hf, hk, hh, hs, hv, hg, hA, hp]) <;> rfl), (by (try simp (disch := decide) only [simprocAttr, pj_up_ap, if_true, if_false, pj_mo, hm, hf, hk, hh, hs, hv, hg, hA, hp]) <;> rfl), (by (try simp (disch := decide) only [simprocAttr, pj_up_ap, if_true, if_false, pj_mo, hm, hf, hk, hh, hs, hv, hg, hA, hp]) <;> rfl), (by (try simp (disch := decide) only [simprocAttr, pj_up_ap, if_true, if_false, pj_mo, hm, hf, hk, hh, hs, hv, hg, hA, hp]) <;> rfl), (by (try simp (disch := decide) only [simprocAttr, pj_up_ap, if_true, if_false, pj_mo, hm, hf, hk, hh, hs, hv, hg, hA, hp]) <;> rfl), (by (try simp (disch := decide) only [simprocAttr, pj_up_ap, if_true, if_false, pj_mo, hm, hf, hk, hh, hs, hv, hg, hA, hp]) <;> rfl), (by (try simp (disch := decide) only [simprocAttr, pj_up_ap, if_true, if_false, pj_mo, hm, hf, hk, hh, hs, hv, hg, hA, hp]) <;> rfl), (by (try simp (disch := decide) only [simprocAttr, pj_up_ap, if_true, if_false, pj_mo, hm, hf, hk, hh, hs, hv, hg, hA, hp]) <;> rfl)⟩ hr (fun j hj => va_cpy_lt hj) (by intro j hj; repeat rw [pj_up_lo hj (by decide)]) (fun H2 h2 => ?_)
      refine K1 _ _ c1 ?_
      simp (disch := first | assumption | exact pj_long_i | exact pj_long_r | exact pj_long_n | decide) only [x98_19, x98_20, x98_23, x98_25, x98_26, x98_27, x98_28, x98_29, x98_32, x98_33, x98_36, x98_38, x98_39, x98_40, x98_41, x98_43, x98_46, x98_49, simprocAttr, pj_then_s, pj_pv_s, pj_pi_s, pj_set_s, if_true, if_false, not_true_eq_false, not_false_eq_true, pj_up_up, pj_up_sort, pj_up_ap, pj_upd_ap, pj_a3_0, pj_a3_1, pj_a3_2, pj_a3_u0, pj_a3_u1, pj_a3_u2, pj_f6_0, pj_arl_i, hm, hf, pj_mo, c2, c3]
      refine e98_50 rfl (by first | (rw [hm]; rfl) | (simp only [simprocAttr, pj_up_ap, if_true, if_false, hm, pj_mo]; rfl)) (m_keep hm hf hk) ?_
      simp (disch := first | assumption | exact pj_long_i | exact pj_long_r | exact pj_long_n | decide) only [x98_53, x98_54, x98_57, x98_59, x98_60, x98_61, x98_62, x98_63, x98_64, simprocAttr, pj_then_s, pj_pv_s, pj_pi_s, pj_set_s, if_true, if_false, not_true_eq_false, not_false_eq_true, pj_up_up, pj_up_sort, pj_up_ap, pj_upd_ap, pj_a3_0, pj_a3_1, pj_a3_2, pj_a3_u0, pj_a3_u1, pj_a3_u2, pj_f6_0, pj_ars_i, hm, hf, pj_mo]
      refine e98_65 rfl (by first | (rw [hm]; rfl) | (simp only [simprocAttr, pj_up_ap, if_true, if_false, hm, pj_mo]; rfl)) (m_barred (f := upd x.1 26 b) (mid := mid) (lo := lo) (hi := hi) (fi := fi) (pl := nI x.2.2.2.2.2.1) (sp := sp) (nu := nu) (ic := ic) (td := td) (hl := nI x.2.1) (by (try simp (disch := decide) only [simprocAttr, pj_up_ap, if_true, if_false, pj_mo, hm]) <;> rfl) (by (try simp (disch := decide) only [simprocAttr, pj_up_ap, if_true, if_false, pj_mo, hm]) <;> rfl)) ?_
      refine e98_68 rfl (by first | (rw [hm]; rfl) | (simp only [simprocAttr, pj_up_ap, if_true, if_false, hm, pj_mo]; rfl)) h2 ?_
      exact t98_71
    · rw [if_neg c3]
      refine pj_Mo_same hM' (K1 _ _ c1 ?_)
      simp (disch := first | assumption | exact pj_long_i | exact pj_long_r | exact pj_long_n | decide) only [x98_19, x98_20, x98_23, x98_25, x98_26, x98_27, x98_28, x98_29, x98_32, x98_33, x98_36, x98_38, x98_39, x98_40, x98_41, x98_43, x98_46, simprocAttr, pj_then_s, pj_pv_s, pj_pi_s, pj_set_s, if_true, if_false, not_true_eq_false, not_false_eq_true, pj_up_up, pj_up_sort, pj_up_ap, pj_upd_ap, pj_a3_0, pj_a3_1, pj_a3_2, pj_a3_u0, pj_a3_u1, pj_a3_u2, pj_f6_0, pj_arl_i, hm, hf, pj_mo, c2, c3]
      exact t98_48
  · subst e
    rw [pj_tn1]
    by_cases c2 : x.1 27 = b
    · rw [if_pos c2]
      refine pj_Mo_same hM' (K1 _ _ c1 ?_)
      simp (disch := first | assumption | exact pj_long_i | exact pj_long_r | exact pj_long_n | decide) only [x98_19, x98_20, x98_23, x98_25, x98_26, x98_27, x98_28, x98_29, x98_32, x98_33, x98_36, x98_38, x98_39, x98_40, x98_41, x98_43, x98_46, simprocAttr, pj_then_s, pj_pv_s, pj_pi_s, pj_set_s, if_true, if_false, not_true_eq_false, not_false_eq_true, pj_up_up, pj_up_sort, pj_up_ap, pj_upd_ap, pj_a3_0, pj_a3_1, pj_a3_2, pj_a3_u0, pj_a3_u1, pj_a3_u2, pj_f6_0, pj_arl_i, hm, hf, pj_mo, c2]
      exact t98_48
    rw [if_neg c2]
    by_cases c3 : x.1 24 = -6
    · rw [if_pos c3]
      refine m_chg (f' := upd x.1 27 b) (H1 := pj_up (pj_up H 110 (.inr (0, 152, .inl (upd x.1 27 b)))) 111 (.inr (0, 152, .inl (va_cpy x.1 k 0 0 152)))) (mid := mid) (lo := lo) (hi := hi) (fi := fi) (sp := sp) (nu := nu) (ic := ic) (td := td) (hs := hs0) (sl := sl0) (k := va_cpy x.1 k 0 0 152) (r0 := r0) (r1 := r1) (r2 := r2) (a0 := a0) (a1 := a1) (a2 := a2) hx ⟨(by (try simp (disch := decide) only [simprocAttr, pj_up_ap, if_true, if_false, pj_mo, hm, hf, hk, hh, hs, hv, hg, hA, hp]) <;> rfl), (by (try simp (disch := decide) only [simprocAttr, pj_up_ap, if_true, if_false, pj_mo, hm, hf, hk, hh, hs, hv, hg, hA, hp]) <;> rfl), (by (try simp (disch := decide) only [simprocAttr, pj_up_ap, if_true, if_false, pj_mo, hm, hf, hk, hh, hs, hv, hg, hA, hp]) <;> rfl), (by (try simp (disch := decide) only [simprocAttr, pj_up_ap, if_true, if_false, pj_mo, hm, hf, hk, hh, hs, hv, hg, hA, hp]) <;> rfl), (by (try simp (disch := decide) only [simprocAttr, pj_up_ap, if_true, if_false, pj_mo, hm, hf, hk, hh, hs, hv, hg, hA, hp]) <;> rfl), (by (try simp (disch := decide) only [simprocAttr, pj_up_ap, if_true, if_false, pj_mo, hm, hf, hk, hh, hs, hv, hg, hA, hp]) <;> rfl), (by (try simp (disch := decide) only [simprocAttr, pj_up_ap, if_true, if_false, pj_mo, hm, hf, hk, hh, hs, hv, hg, hA, hp]) <;> rfl), (by (try simp (disch := decide) only [simprocAttr, pj_up_ap, if_true, if_false, pj_mo, hm, hf, hk, hh, hs, hv, hg, hA, hp]) <;> rfl), (by (try simp (disch := decide) only [simprocAttr, pj_up_ap, if_true, if_false, pj_mo, hm, hf, hk, hh, hs, hv, hg, hA, hp]) <;> rfl)⟩ hr (fun j hj => va_cpy_lt hj) (by intro j hj; repeat rw [pj_up_lo hj (by decide)]) (fun H2 h2 => ?_)
      refine K1 _ _ c1 ?_
      simp (disch := first | assumption | exact pj_long_i | exact pj_long_r | exact pj_long_n | decide) only [x98_19, x98_20, x98_23, x98_25, x98_26, x98_27, x98_28, x98_29, x98_32, x98_33, x98_36, x98_38, x98_39, x98_40, x98_41, x98_43, x98_46, x98_49, simprocAttr, pj_then_s, pj_pv_s, pj_pi_s, pj_set_s, if_true, if_false, not_true_eq_false, not_false_eq_true, pj_up_up, pj_up_sort, pj_up_ap, pj_upd_ap, pj_a3_0, pj_a3_1, pj_a3_2, pj_a3_u0, pj_a3_u1, pj_a3_u2, pj_f6_0, pj_arl_i, hm, hf, pj_mo, c2, c3]
      refine e98_50 rfl (by first | (rw [hm]; rfl) | (simp only [simprocAttr, pj_up_ap, if_true, if_false, hm, pj_mo]; rfl)) (m_keep hm hf hk) ?_
      simp (disch := first | assumption | exact pj_long_i | exact pj_long_r | exact pj_long_n | decide) only [x98_53, x98_54, x98_57, x98_59, x98_60, x98_61, x98_62, x98_63, x98_64, simprocAttr, pj_then_s, pj_pv_s, pj_pi_s, pj_set_s, if_true, if_false, not_true_eq_false, not_false_eq_true, pj_up_up, pj_up_sort, pj_up_ap, pj_upd_ap, pj_a3_0, pj_a3_1, pj_a3_2, pj_a3_u0, pj_a3_u1, pj_a3_u2, pj_f6_0, pj_ars_i, hm, hf, pj_mo]
      refine e98_65 rfl (by first | (rw [hm]; rfl) | (simp only [simprocAttr, pj_up_ap, if_true, if_false, hm, pj_mo]; rfl)) (m_barred (f := upd x.1 27 b) (mid := mid) (lo := lo) (hi := hi) (fi := fi) (pl := nI x.2.2.2.2.2.1) (sp := sp) (nu := nu) (ic := ic) (td := td) (hl := nI x.2.1) (by (try simp (disch := decide) only [simprocAttr, pj_up_ap, if_true, if_false, pj_mo, hm]) <;> rfl) (by (try simp (disch := decide) only [simprocAttr, pj_up_ap, if_true, if_false, pj_mo, hm]) <;> rfl)) ?_
      refine e98_68 rfl (by first | (rw [hm]; rfl) | (simp only [simprocAttr, pj_up_ap, if_true, if_false, hm, pj_mo]; rfl)) h2 ?_
      exact t98_71
    · rw [if_neg c3]
      refine pj_Mo_same hM' (K1 _ _ c1 ?_)
      simp (disch := first | assumption | exact pj_long_i | exact pj_long_r | exact pj_long_n | decide) only [x98_19, x98_20, x98_23, x98_25, x98_26, x98_27, x98_28, x98_29, x98_32, x98_33, x98_36, x98_38, x98_39, x98_40, x98_41, x98_43, x98_46, simprocAttr, pj_then_s, pj_pv_s, pj_pi_s, pj_set_s, if_true, if_false, not_true_eq_false, not_false_eq_true, pj_up_up, pj_up_sort, pj_up_ap, pj_upd_ap, pj_a3_0, pj_a3_1, pj_a3_2, pj_a3_u0, pj_a3_u1, pj_a3_u2, pj_f6_0, pj_arl_i, hm, hf, pj_mo, c2, c3]
      exact t98_48
  · subst e
    rw [pj_tn2]
    by_cases c2 : x.1 28 = b
    · rw [if_pos c2]
      refine pj_Mo_same hM' (K1 _ _ c1 ?_)
      simp (disch := first | assumption | exact pj_long_i | exact pj_long_r | exact pj_long_n | decide) only [x98_19, x98_20, x98_23, x98_25, x98_26, x98_27, x98_28, x98_29, x98_32, x98_33, x98_36, x98_38, x98_39, x98_40, x98_41, x98_43, x98_46, simprocAttr, pj_then_s, pj_pv_s, pj_pi_s, pj_set_s, if_true, if_false, not_true_eq_false, not_false_eq_true, pj_up_up, pj_up_sort, pj_up_ap, pj_upd_ap, pj_a3_0, pj_a3_1, pj_a3_2, pj_a3_u0, pj_a3_u1, pj_a3_u2, pj_f6_0, pj_arl_i, hm, hf, pj_mo, c2]
      exact t98_48
    rw [if_neg c2]
    by_cases c3 : x.1 25 = -6
    · rw [if_pos c3]
      refine m_chg (f' := upd x.1 28 b) (H1 := pj_up (pj_up H 110 (.inr (0, 152, .inl (upd x.1 28 b)))) 111 (.inr (0, 152, .inl (va_cpy x.1 k 0 0 152)))) (mid := mid) (lo := lo) (hi := hi) (fi := fi) (sp := sp) (nu := nu) (ic := ic) (td := td) (hs := hs0) (sl := sl0) (k := va_cpy x.1 k 0 0 152) (r0 := r0) (r1 := r1) (r2 := r2) (a0 := a0) (a1 := a1) (a2 := a2) hx ⟨(by (try simp (disch := decide) only [simprocAttr, pj_up_ap, if_true, if_false, pj_mo, hm, hf, hk, hh, hs, hv, hg, hA, hp]) <;> rfl), (by (try simp (disch := decide) only [simprocAttr, pj_up_ap, if_true, if_false, pj_mo, hm, hf, hk, hh, hs, hv, hg, hA, hp]) <;> rfl), (by (try simp (disch := decide) only [simprocAttr, pj_up_ap, if_true, if_false, pj_mo, hm, hf, hk, hh, hs, hv, hg, hA, hp]) <;> rfl), (by (try simp (disch := decide) only [simprocAttr, pj_up_ap, if_true, if_false, pj_mo, hm, hf, hk, hh, hs, hv, hg, hA, hp]) <;> rfl), (by (try simp (disch := decide) only [simprocAttr, pj_up_ap, if_true, if_false, pj_mo, hm, hf, hk, hh, hs, hv, hg, hA, hp]) <;> rfl), (by (try simp (disch := decide) only [simprocAttr, pj_up_ap, if_true, if_false, pj_mo, hm, hf, hk, hh, hs, hv, hg, hA, hp]) <;> rfl), (by (try simp (disch := decide) only [simprocAttr, pj_up_ap, if_true, if_false, pj_mo, hm, hf, hk, hh, hs, hv, hg, hA, hp]) <;> rfl), (by (try simp (disch := decide) only [simprocAttr, pj_up_ap, if_true, if_false, pj_mo, hm, hf, hk, hh, hs, hv, hg, hA, hp]) <;> rfl), (by (try simp (disch := decide) only [simprocAttr, pj_up_ap, if_true, if_false, pj_mo, hm, hf, hk, hh, hs, hv, hg, hA, hp]) <;> rfl)⟩ hr (fun j hj => va_cpy_lt hj) (by intro j hj; repeat rw [pj_up_lo hj (by decide)]) (fun H2 h2 => ?_)
      refine K1 _ _ c1 ?_
      simp (disch := first | assumption | exact pj_long_i | exact pj_long_r | exact pj_long_n | decide) only [x98_19, x98_20, x98_23, x98_25, x98_26, x98_27, x98_28, x98_29, x98_32, x98_33, x98_36, x98_38, x98_39, x98_40, x98_41, x98_43, x98_46, x98_49, simprocAttr, pj_then_s, pj_pv_s, pj_pi_s, pj_set_s, if_true, if_false, not_true_eq_false, not_false_eq_true, pj_up_up, pj_up_sort, pj_up_ap, pj_upd_ap, pj_a3_0, pj_a3_1, pj_a3_2, pj_a3_u0, pj_a3_u1, pj_a3_u2, pj_f6_0, pj_arl_i, hm, hf, pj_mo, c2, c3]
      refine e98_50 rfl (by first | (rw [hm]; rfl) | (simp only [simprocAttr, pj_up_ap, if_true, if_false, hm, pj_mo]; rfl)) (m_keep hm hf hk) ?_
      simp (disch := first | assumption | exact pj_long_i | exact pj_long_r | exact pj_long_n | decide) only [x98_53, x98_54, x98_57, x98_59, x98_60, x98_61, x98_62, x98_63, x98_64, simprocAttr, pj_then_s, pj_pv_s, pj_pi_s, pj_set_s, if_true, if_false, not_true_eq_false, not_false_eq_true, pj_up_up, pj_up_sort, pj_up_ap, pj_upd_ap, pj_a3_0, pj_a3_1, pj_a3_2, pj_a3_u0, pj_a3_u1, pj_a3_u2, pj_f6_0, pj_ars_i, hm, hf, pj_mo]
      refine e98_65 rfl (by first | (rw [hm]; rfl) | (simp only [simprocAttr, pj_up_ap, if_true, if_false, hm, pj_mo]; rfl)) (m_barred (f := upd x.1 28 b) (mid := mid) (lo := lo) (hi := hi) (fi := fi) (pl := nI x.2.2.2.2.2.1) (sp := sp) (nu := nu) (ic := ic) (td := td) (hl := nI x.2.1) (by (try simp (disch := decide) only [simprocAttr, pj_up_ap, if_true, if_false, pj_mo, hm]) <;> rfl) (by (try simp (disch := decide) only [simprocAttr, pj_up_ap, if_true, if_false, pj_mo, hm]) <;> rfl)) ?_
      refine e98_68 rfl (by first | (rw [hm]; rfl) | (simp only [simprocAttr, pj_up_ap, if_true, if_false, hm, pj_mo]; rfl)) h2 ?_
      exact t98_71
    · rw [if_neg c3]
      refine pj_Mo_same hM' (K1 _ _ c1 ?_)
      simp (disch := first | assumption | exact pj_long_i | exact pj_long_r | exact pj_long_n | decide) only [x98_19, x98_20, x98_23, x98_25, x98_26, x98_27, x98_28, x98_29, x98_32, x98_33, x98_36, x98_38, x98_39, x98_40, x98_41, x98_43, x98_46, simprocAttr, pj_then_s, pj_pv_s, pj_pi_s, pj_set_s, if_true, if_false, not_true_eq_false, not_false_eq_true, pj_up_up, pj_up_sort, pj_up_ap, pj_upd_ap, pj_a3_0, pj_a3_1, pj_a3_2, pj_a3_u0, pj_a3_u1, pj_a3_u2, pj_f6_0, pj_arl_i, hm, hf, pj_mo, c2, c3]
      exact t98_48
def sp_tst (f : Nat → Int32) (k : Nat) : Nat → Int32 := upd (upd (upd (upd f (14 + k) 1) (8 + k) 0) (11 + k) 0) (17 + k) 0
def op_test (x : pj_Sg) (a : Int32) : pj_Sg × Int32 := if sp_th a = 0 then (x, -1) else if sp_fired x.1 = 0 then (sp_push x (sp_tst x.1 a.toNatClampNeg), 1 - x.1 (14 + a.toNatClampNeg)) else (x, -5)
theorem M_test {N S : Nat} {H : pj_Heap} {x : pj_Sg} {a : Int32} (hx : pj_In x) (hM : pj_M H x) : pj_Mo N S H 101 [some (.ref 109), some (.int a), none] (op_test x a) := by
  have hM' := hM
  obtain ⟨k, hs0, sl0, r0, r1, r2, a0, a1, a2, mid, lo, hi, fi, sp, nu, ic, td, ⟨hm, hf, hk, hh, hs, hv, hg, hA, hp⟩, hr⟩ := hM
  unfold op_test
  by_cases c1 : sp_th a = 0
  · rw [if_pos c1]
    refine pj_Mo_same hM' ?_
    simp (disch := first | assumption | exact pj_long_i | exact pj_long_r | exact pj_long_n | decide) only [x101_0, simprocAttr, pj_then_s, pj_pv_s, pj_pi_s, pj_set_s, if_true, if_false, not_true_eq_false, not_false_eq_true, pj_up_up, pj_up_sort, pj_up_ap, pj_upd_ap, pj_a3_0, pj_a3_1, pj_a3_2, pj_a3_u0, pj_a3_u1, pj_a3_u2]
    refine e101_1 rfl m_isThree ?_
    simp (disch := first | assumption | exact pj_long_i | exact pj_long_r | exact pj_long_n | decide) only [x101_4, x101_7, simprocAttr, pj_then_s, pj_pv_s, pj_pi_s, pj_set_s, if_true, if_false, not_true_eq_false, not_false_eq_true, pj_up_up, pj_up_sort, pj_up_ap, pj_upd_ap, pj_a3_0, pj_a3_1, pj_a3_2, pj_a3_u0, pj_a3_u1, pj_a3_u2, c1]
    exact t101_8
  rw [if_neg c1]
  by_cases c2 : sp_fired x.1 = 0
  · rw [if_pos c2]
    have K0 : ∀ H2, pj_Ends 101 (23, [some (.ref 109), some (.int a), none], [], (N, S, pj_up H 111 (.inr (0, 152, .inl (va_cpy x.1 k 0 0 152))))) (some (.int (1 - x.1 (14 + a.toNatClampNeg))), (N, S, H2)) → pj_Ends 101 (0, [some (.ref 109), some (.int a), none], [], (N, S, H)) (some (.int (1 - x.1 (14 + a.toNatClampNeg))), (N, S, H2)) := by
      intro H2 K
      simp (disch := first | assumption | exact pj_long_i | exact pj_long_r | exact pj_long_n | decide) only [x101_0, simprocAttr, pj_then_s, pj_pv_s, pj_pi_s, pj_set_s, if_true, if_false, not_true_eq_false, not_false_eq_true, pj_up_up, pj_up_sort, pj_up_ap, pj_upd_ap, pj_a3_0, pj_a3_1, pj_a3_2, pj_a3_u0, pj_a3_u1, pj_a3_u2]
      refine e101_1 rfl m_isThree ?_
      simp (disch := first | assumption | exact pj_long_i | exact pj_long_r | exact pj_long_n | decide) only [x101_4, x101_7, x101_9, simprocAttr, pj_then_s, pj_pv_s, pj_pi_s, pj_set_s, if_true, if_false, not_true_eq_false, not_false_eq_true, pj_up_up, pj_up_sort, pj_up_ap, pj_upd_ap, pj_a3_0, pj_a3_1, pj_a3_2, pj_a3_u0, pj_a3_u1, pj_a3_u2, c1]
      refine e101_10 rfl (by first | (rw [hm]; rfl) | (simp only [simprocAttr, pj_up_ap, if_true, if_false, hm, pj_mo]; rfl)) (m_fired hm hf) ?_
      simp (disch := first | assumption | exact pj_long_i | exact pj_long_r | exact pj_long_n | decide) only [x101_13, x101_16, x101_19, simprocAttr, pj_then_s, pj_pv_s, pj_pi_s, pj_set_s, if_true, if_false, not_true_eq_false, not_false_eq_true, pj_up_up, pj_up_sort, pj_up_ap, pj_upd_ap, pj_a3_0, pj_a3_1, pj_a3_2, pj_a3_u0, pj_a3_u1, pj_a3_u2, c2]
      refine e101_20 rfl (by first | (rw [hm]; rfl) | (simp only [simprocAttr, pj_up_ap, if_true, if_false, hm, pj_mo]; rfl)) (m_keep hm hf hk) ?_
      exact K
    rcases sp_th_lt c1 with e | e | e
    · subst e
      rw [pj_tn0] at K0 ⊢
      refine m_chg (f' := sp_tst x.1 0) (H1 := pj_up (pj_up H 110 (.inr (0, 152, .inl (sp_tst x.1 0)))) 111 (.inr (0, 152, .inl (va_cpy x.1 k 0 0 152)))) (mid := mid) (lo := lo) (hi := hi) (fi := fi) (sp := sp) (nu := nu) (ic := ic) (td := td) (hs := hs0) (sl := sl0) (k := va_cpy x.1 k 0 0 152) (r0 := r0) (r1 := r1) (r2 := r2) (a0 := a0) (a1 := a1) (a2 := a2) hx ⟨(by (try simp (disch := decide) only [simprocAttr, pj_up_ap, if_true, if_false, pj_mo, hm, hf, hk, hh, hs, hv, hg, hA, hp]) <;> rfl), (by (try simp (disch := decide) only [simprocAttr, pj_up_ap, if_true, if_false, pj_mo, hm, hf, hk, hh, hs, hv, hg, hA, hp]) <;> rfl), (by (try simp (disch := decide) only [simprocAttr, pj_up_ap, if_true, if_false, pj_mo, hm, hf, hk, hh, hs, hv, hg, hA, hp]) <;> rfl), (by (try simp (disch := decide) only [simprocAttr, pj_up_ap, if_true, if_false, pj_mo, hm, hf, hk, hh, hs, hv, hg, hA, hp]) <;> rfl), (by (try simp (disch := decide) only [simprocAttr, pj_up_ap, if_true, if_false, pj_mo, hm, hf, hk, hh, hs, hv, hg, hA, hp]) <;> rfl), (by (try simp (disch := decide) only [simprocAttr, pj_up_ap, if_true, if_false, pj_mo, hm, hf, hk, hh, hs, hv, hg, hA, hp]) <;> rfl), (by (try simp (disch := decide) only [simprocAttr, pj_up_ap, if_true, if_false, pj_mo, hm, hf, hk, hh, hs, hv, hg, hA, hp]) <;> rfl), (by (try simp (disch := decide) only [simprocAttr, pj_up_ap, if_true, if_false, pj_mo, hm, hf, hk, hh, hs, hv, hg, hA, hp]) <;> rfl), (by (try simp (disch := decide) only [simprocAttr, pj_up_ap, if_true, if_false, pj_mo, hm, hf, hk, hh, hs, hv, hg, hA, hp]) <;> rfl)⟩ hr (fun j hj => va_cpy_lt hj) (by intro j hj; repeat rw [pj_up_lo hj (by decide)]) (fun H2 h2 => ?_)
      refine K0 _ ?_
      unfold sp_tst at h2
      simp only [simprocAttr] at h2
      simp (disch := first | assumption | exact pj_long_i | exact pj_long_r | exact pj_long_n | decide) only [x101_23, x101_24, x101_25, x101_28, x101_30, x101_31, x101_32, x101_33, x101_34, x101_35, x101_36, x101_39, x101_41, x101_42, x101_43, x101_44, x101_45, x101_46, x101_49, x101_51, x101_52, x101_53, x101_54, x101_55, x101_56, x101_59, x101_61, x101_62, x101_63, x101_64, x101_65, x101_66, x101_69, x101_71, x101_72, x101_73, x101_74, x101_75, x101_76, simprocAttr, pj_then_s, pj_pv_s, pj_pi_s, pj_set_s, if_true, if_false, not_true_eq_false, not_false_eq_true, pj_up_up, pj_up_sort, pj_up_ap, pj_upd_ap, pj_a3_0, pj_a3_1, pj_a3_2, pj_a3_u0, pj_a3_u1, pj_a3_u2, pj_f6_0, pj_arl_i, pj_long_i, pj_long_r, pj_long_n, pj_ars_i, hm, hf, pj_mo]
      refine e101_77 rfl (by first | (rw [hm]; rfl) | (simp only [simprocAttr, pj_up_ap, if_true, if_false, hm, pj_mo]; rfl)) h2 ?_
      exact t101_80
    · subst e
      rw [pj_tn1] at K0 ⊢
      refine m_chg (f' := sp_tst x.1 1) (H1 := pj_up (pj_up H 110 (.inr (0, 152, .inl (sp_tst x.1 1)))) 111 (.inr (0, 152, .inl (va_cpy x.1 k 0 0 152)))) (mid := mid) (lo := lo) (hi := hi) (fi := fi) (sp := sp) (nu := nu) (ic := ic) (td := td) (hs := hs0) (sl := sl0) (k := va_cpy x.1 k 0 0 152) (r0 := r0) (r1 := r1) (r2 := r2) (a0 := a0) (a1 := a1) (a2 := a2) hx ⟨(by (try simp (disch := decide) only [simprocAttr, pj_up_ap, if_true, if_false, pj_mo, hm, hf, hk, hh, hs, hv, hg, hA, hp]) <;> rfl), (by (try simp (disch := decide) only [simprocAttr, pj_up_ap, if_true, if_false, pj_mo, hm, hf, hk, hh, hs, hv, hg, hA, hp]) <;> rfl), (by (try simp (disch := decide) only [simprocAttr, pj_up_ap, if_true, if_false, pj_mo, hm, hf, hk, hh, hs, hv, hg, hA, hp]) <;> rfl), (by (try simp (disch := decide) only [simprocAttr, pj_up_ap, if_true, if_false, pj_mo, hm, hf, hk, hh, hs, hv, hg, hA, hp]) <;> rfl), (by (try simp (disch := decide) only [simprocAttr, pj_up_ap, if_true, if_false, pj_mo, hm, hf, hk, hh, hs, hv, hg, hA, hp]) <;> rfl), (by (try simp (disch := decide) only [simprocAttr, pj_up_ap, if_true, if_false, pj_mo, hm, hf, hk, hh, hs, hv, hg, hA, hp]) <;> rfl), (by (try simp (disch := decide) only [simprocAttr, pj_up_ap, if_true, if_false, pj_mo, hm, hf, hk, hh, hs, hv, hg, hA, hp]) <;> rfl), (by (try simp (disch := decide) only [simprocAttr, pj_up_ap, if_true, if_false, pj_mo, hm, hf, hk, hh, hs, hv, hg, hA, hp]) <;> rfl), (by (try simp (disch := decide) only [simprocAttr, pj_up_ap, if_true, if_false, pj_mo, hm, hf, hk, hh, hs, hv, hg, hA, hp]) <;> rfl)⟩ hr (fun j hj => va_cpy_lt hj) (by intro j hj; repeat rw [pj_up_lo hj (by decide)]) (fun H2 h2 => ?_)
      refine K0 _ ?_
      unfold sp_tst at h2
      simp only [simprocAttr] at h2
      simp (disch := first | assumption | exact pj_long_i | exact pj_long_r | exact pj_long_n | decide) only [x101_23, x101_24, x101_25, x101_28, x101_30, x101_31, x101_32, x101_33, x101_34, x101_35, x101_36, x101_39, x101_41, x101_42, x101_43, x101_44, x101_45, x101_46, x101_49, x101_51, x101_52, x101_53, x101_54, x101_55, x101_56, x101_59, x101_61, x101_62, x101_63, x101_64, x101_65, x101_66, x101_69, x101_71, x101_72, x101_73, x101_74, x101_75, x101_76, simprocAttr, pj_then_s, pj_pv_s, pj_pi_s, pj_set_s, if_true, if_false, not_true_eq_false, not_false_eq_true, pj_up_up, pj_up_sort, pj_up_ap, pj_upd_ap, pj_a3_0, pj_a3_1, pj_a3_2, pj_a3_u0, pj_a3_u1, pj_a3_u2, pj_f6_0, pj_arl_i, pj_long_i, pj_long_r, pj_long_n, pj_ars_i, hm, hf, pj_mo]
      refine e101_77 rfl (by first | (rw [hm]; rfl) | (simp only [simprocAttr, pj_up_ap, if_true, if_false, hm, pj_mo]; rfl)) h2 ?_
      exact t101_80
    · subst e
      rw [pj_tn2] at K0 ⊢
      refine m_chg (f' := sp_tst x.1 2) (H1 := pj_up (pj_up H 110 (.inr (0, 152, .inl (sp_tst x.1 2)))) 111 (.inr (0, 152, .inl (va_cpy x.1 k 0 0 152)))) (mid := mid) (lo := lo) (hi := hi) (fi := fi) (sp := sp) (nu := nu) (ic := ic) (td := td) (hs := hs0) (sl := sl0) (k := va_cpy x.1 k 0 0 152) (r0 := r0) (r1 := r1) (r2 := r2) (a0 := a0) (a1 := a1) (a2 := a2) hx ⟨(by (try simp (disch := decide) only [simprocAttr, pj_up_ap, if_true, if_false, pj_mo, hm, hf, hk, hh, hs, hv, hg, hA, hp]) <;> rfl), (by (try simp (disch := decide) only [simprocAttr, pj_up_ap, if_true, if_false, pj_mo, hm, hf, hk, hh, hs, hv, hg, hA, hp]) <;> rfl), (by (try simp (disch := decide) only [simprocAttr, pj_up_ap, if_true, if_false, pj_mo, hm, hf, hk, hh, hs, hv, hg, hA, hp]) <;> rfl), (by (try simp (disch := decide) only [simprocAttr, pj_up_ap, if_true, if_false, pj_mo, hm, hf, hk, hh, hs, hv, hg, hA, hp]) <;> rfl), (by (try simp (disch := decide) only [simprocAttr, pj_up_ap, if_true, if_false, pj_mo, hm, hf, hk, hh, hs, hv, hg, hA, hp]) <;> rfl), (by (try simp (disch := decide) only [simprocAttr, pj_up_ap, if_true, if_false, pj_mo, hm, hf, hk, hh, hs, hv, hg, hA, hp]) <;> rfl), (by (try simp (disch := decide) only [simprocAttr, pj_up_ap, if_true, if_false, pj_mo, hm, hf, hk, hh, hs, hv, hg, hA, hp]) <;> rfl), (by (try simp (disch := decide) only [simprocAttr, pj_up_ap, if_true, if_false, pj_mo, hm, hf, hk, hh, hs, hv, hg, hA, hp]) <;> rfl), (by (try simp (disch := decide) only [simprocAttr, pj_up_ap, if_true, if_false, pj_mo, hm, hf, hk, hh, hs, hv, hg, hA, hp]) <;> rfl)⟩ hr (fun j hj => va_cpy_lt hj) (by intro j hj; repeat rw [pj_up_lo hj (by decide)]) (fun H2 h2 => ?_)
      refine K0 _ ?_
      unfold sp_tst at h2
      simp only [simprocAttr] at h2
      simp (disch := first | assumption | exact pj_long_i | exact pj_long_r | exact pj_long_n | decide) only [x101_23, x101_24, x101_25, x101_28, x101_30, x101_31, x101_32, x101_33, x101_34, x101_35, x101_36, x101_39, x101_41, x101_42, x101_43, x101_44, x101_45, x101_46, x101_49, x101_51, x101_52, x101_53, x101_54, x101_55, x101_56, x101_59, x101_61, x101_62, x101_63, x101_64, x101_65, x101_66, x101_69, x101_71, x101_72, x101_73, x101_74, x101_75, x101_76, simprocAttr, pj_then_s, pj_pv_s, pj_pi_s, pj_set_s, if_true, if_false, not_true_eq_false, not_false_eq_true, pj_up_up, pj_up_sort, pj_up_ap, pj_upd_ap, pj_a3_0, pj_a3_1, pj_a3_2, pj_a3_u0, pj_a3_u1, pj_a3_u2, pj_f6_0, pj_arl_i, pj_long_i, pj_long_r, pj_long_n, pj_ars_i, hm, hf, pj_mo]
      refine e101_77 rfl (by first | (rw [hm]; rfl) | (simp only [simprocAttr, pj_up_ap, if_true, if_false, hm, pj_mo]; rfl)) h2 ?_
      exact t101_80
  · rw [if_neg c2]
    refine pj_Mo_same hM' ?_
    simp (disch := first | assumption | exact pj_long_i | exact pj_long_r | exact pj_long_n | decide) only [x101_0, simprocAttr, pj_then_s, pj_pv_s, pj_pi_s, pj_set_s, if_true, if_false, not_true_eq_false, not_false_eq_true, pj_up_up, pj_up_sort, pj_up_ap, pj_upd_ap, pj_a3_0, pj_a3_1, pj_a3_2, pj_a3_u0, pj_a3_u1, pj_a3_u2]
    refine e101_1 rfl m_isThree ?_
    simp (disch := first | assumption | exact pj_long_i | exact pj_long_r | exact pj_long_n | decide) only [x101_4, x101_7, x101_9, simprocAttr, pj_then_s, pj_pv_s, pj_pi_s, pj_set_s, if_true, if_false, not_true_eq_false, not_false_eq_true, pj_up_up, pj_up_sort, pj_up_ap, pj_upd_ap, pj_a3_0, pj_a3_1, pj_a3_2, pj_a3_u0, pj_a3_u1, pj_a3_u2, c1]
    refine e101_10 rfl (by first | (rw [hm]; rfl) | (simp only [simprocAttr, pj_up_ap, if_true, if_false, hm, pj_mo]; rfl)) (m_fired hm hf) ?_
    simp (disch := first | assumption | exact pj_long_i | exact pj_long_r | exact pj_long_n | decide) only [x101_13, x101_16, simprocAttr, pj_then_s, pj_pv_s, pj_pi_s, pj_set_s, if_true, if_false, not_true_eq_false, not_false_eq_true, pj_up_up, pj_up_sort, pj_up_ap, pj_upd_ap, pj_a3_0, pj_a3_1, pj_a3_2, pj_a3_u0, pj_a3_u1, pj_a3_u2, c2]
    exact t101_18
def sp_srv (f : Nat → Int32) : Nat → Int32 := upd (upd (upd (upd (upd (upd (upd (upd (upd f 23 (-6)) 11 0) 24 (-6)) 12 0) 25 (-6)) 13 0) 7 0) 29 (-6)) 30 0
def op_service (x : pj_Sg) : pj_Sg × Int32 := (sp_push x (sp_srv x.1), sp_bits (sp_fired x.1))
theorem M_service {N S : Nat} {H : pj_Heap} {x : pj_Sg} (hx : pj_In x) (hM : pj_M H x) : pj_Mo N S H 103 [some (.ref 109), none, none] (op_service x) := by
  obtain ⟨k, hs0, sl0, r0, r1, r2, a0, a1, a2, mid, lo, hi, fi, sp, nu, ic, td, ⟨hm, hf, hk, hh, hs, hv, hg, hA, hp⟩, hr⟩ := hM
  unfold op_service
  refine m_chg (f' := sp_srv x.1) (H1 := pj_up (pj_up H 110 (.inr (0, 152, .inl (sp_srv x.1)))) 111 (.inr (0, 152, .inl (va_cpy x.1 k 0 0 152)))) (mid := mid) (lo := lo) (hi := hi) (fi := fi) (sp := sp) (nu := nu) (ic := ic) (td := td) (hs := hs0) (sl := sl0) (k := va_cpy x.1 k 0 0 152) (r0 := r0) (r1 := r1) (r2 := r2) (a0 := a0) (a1 := a1) (a2 := a2) hx ⟨(by (try simp (disch := decide) only [simprocAttr, pj_up_ap, if_true, if_false, pj_mo, hm, hf, hk, hh, hs, hv, hg, hA, hp]) <;> rfl), (by (try simp (disch := decide) only [simprocAttr, pj_up_ap, if_true, if_false, pj_mo, hm, hf, hk, hh, hs, hv, hg, hA, hp]) <;> rfl), (by (try simp (disch := decide) only [simprocAttr, pj_up_ap, if_true, if_false, pj_mo, hm, hf, hk, hh, hs, hv, hg, hA, hp]) <;> rfl), (by (try simp (disch := decide) only [simprocAttr, pj_up_ap, if_true, if_false, pj_mo, hm, hf, hk, hh, hs, hv, hg, hA, hp]) <;> rfl), (by (try simp (disch := decide) only [simprocAttr, pj_up_ap, if_true, if_false, pj_mo, hm, hf, hk, hh, hs, hv, hg, hA, hp]) <;> rfl), (by (try simp (disch := decide) only [simprocAttr, pj_up_ap, if_true, if_false, pj_mo, hm, hf, hk, hh, hs, hv, hg, hA, hp]) <;> rfl), (by (try simp (disch := decide) only [simprocAttr, pj_up_ap, if_true, if_false, pj_mo, hm, hf, hk, hh, hs, hv, hg, hA, hp]) <;> rfl), (by (try simp (disch := decide) only [simprocAttr, pj_up_ap, if_true, if_false, pj_mo, hm, hf, hk, hh, hs, hv, hg, hA, hp]) <;> rfl), (by (try simp (disch := decide) only [simprocAttr, pj_up_ap, if_true, if_false, pj_mo, hm, hf, hk, hh, hs, hv, hg, hA, hp]) <;> rfl)⟩ hr (fun j hj => va_cpy_lt hj) (by intro j hj; repeat rw [pj_up_lo hj (by decide)]) (fun H2 h2 => ?_)
  unfold sp_srv at h2
  simp (disch := first | assumption | exact pj_long_i | exact pj_long_r | exact pj_long_n | decide) only [x103_0, simprocAttr, pj_then_s, pj_pv_s, pj_pi_s, pj_set_s, if_true, if_false, not_true_eq_false, not_false_eq_true, pj_up_up, pj_up_sort, pj_up_ap, pj_upd_ap, pj_a3_0, pj_a3_1, pj_a3_2, pj_a3_u0, pj_a3_u1, pj_a3_u2]
  refine e103_1 rfl (by first | (rw [hm]; rfl) | (simp only [simprocAttr, pj_up_ap, if_true, if_false, hm, pj_mo]; rfl)) (m_keep hm hf hk) ?_
  simp (disch := first | assumption | exact pj_long_i | exact pj_long_r | exact pj_long_n | decide) only [x103_4, simprocAttr, pj_then_s, pj_pv_s, pj_pi_s, pj_set_s, if_true, if_false, not_true_eq_false, not_false_eq_true, pj_up_up, pj_up_sort, pj_up_ap, pj_upd_ap, pj_a3_0, pj_a3_1, pj_a3_2, pj_a3_u0, pj_a3_u1, pj_a3_u2]
  refine e103_5 rfl (by first | (rw [hm]; rfl) | (simp only [simprocAttr, pj_up_ap, if_true, if_false, hm, pj_mo]; rfl)) (m_fired (f := x.1) (mid := mid) (lo := lo) (hi := hi) (fi := fi) (pl := nI x.2.2.2.2.2.1) (sp := sp) (nu := nu) (ic := ic) (td := td) (hl := nI x.2.1) (by (try simp (disch := decide) only [simprocAttr, pj_up_ap, if_true, if_false, pj_mo, hm]) <;> rfl) (by (try simp (disch := decide) only [simprocAttr, pj_up_ap, if_true, if_false, pj_mo, hm, hf]) <;> rfl)) ?_
  refine e103_8 rfl m_bits ?_
  generalize sp_bits (sp_fired x.1) = w at h2 ⊢
  simp (disch := first | assumption | exact pj_long_i | exact pj_long_r | exact pj_long_n | decide) only [x103_11, x103_12, x103_13, x103_14, x103_15, x103_16, x103_19, x103_20, x103_23, x103_25, x103_26, x103_27, x103_29, x103_30, x103_31, x103_34, x103_36, x103_37, x103_38, x103_39, x103_40, x103_43, x103_46, x103_47, x103_50, x103_52, x103_53, x103_54, x103_55, x103_58, x103_60, x103_62, x103_63, x103_64, x103_67, x103_69, x103_70, x103_71, x103_72, simprocAttr, pj_then_s, pj_pv_s, pj_pi_s, pj_set_s, if_true, if_false, not_true_eq_false, not_false_eq_true, pj_up_up, pj_up_sort, pj_up_ap, pj_upd_ap, pj_a3_0, pj_a3_1, pj_a3_2, pj_a3_u0, pj_a3_u1, pj_a3_u2, pj_long_i, pj_long_r, pj_long_n, pj_f6_0, pj_ars_i, hm, hf, pj_mo]
  refine e103_73 rfl (by first | (rw [hm]; rfl) | (simp only [simprocAttr, pj_up_ap, if_true, if_false, hm, pj_mo]; rfl)) h2 ?_
  exact t103_76
