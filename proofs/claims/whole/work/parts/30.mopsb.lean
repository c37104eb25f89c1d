/-! THE REFERENCE'S CALLS THAT CHANGE, 2 -/
theorem sp_th_lt {a : Int32} (h : ¬ sp_th a = 0) : a = 0 ∨ a = 1 ∨ a = 2 := by
  unfold sp_th at h
  by_cases q : 0 ≤ a ∧ a ≤ 2
  · rw [Int32.le_iff_toInt_le, Int32.le_iff_toInt_le] at q
    have e0 : (0 : Int32).toInt = 0 := rfl
    have e2 : (2 : Int32).toInt = 2 := rfl
    rw [e0, e2] at q
    have : a.toInt = 0 ∨ a.toInt = 1 ∨ a.toInt = 2 := by omega
    rcases this with e | e | e
    · exact Or.inl (Int32.toInt_inj.mp e)
    · exact Or.inr (Or.inl (Int32.toInt_inj.mp e))
    · exact Or.inr (Or.inr (Int32.toInt_inj.mp e))
  · rw [if_neg q] at h
    exact absurd rfl h
theorem pj_tn0 : (0 : Int32).toNatClampNeg = 0 := rfl
theorem pj_tn1 : (1 : Int32).toNatClampNeg = 1 := rfl
theorem pj_tn2 : (2 : Int32).toNatClampNeg = 2 := rfl
def sp_bar (f : Nat → Int32) : Int32 := f 26 + 2 * f 27 + 4 * f 28
def sp_fb (f : Nat → Int32) (k : Nat) (b : Int32) : Int32 := if f (23 + k) = -6 then 0 else 1 <<< (b &&& 31)
def sp_fired (f : Nat → Int32) : Int32 := 0 ||| sp_fb f 0 0 ||| sp_fb f 1 1 ||| sp_fb f 2 2
section M7
variable {N S : Nat} {H : pj_Heap} {o : Option Value × pj_Mem} {hl mid lo hi fi pl sp nu ic td : Int32} {f g : Nat → Int32}
theorem m_barred (hm : H 109 = pj_mo hl mid lo hi fi pl sp nu ic td) (hf : H 110 = .inr (0, 152, .inl f)) : pj_Ends 101 (0, [some (.ref 109)], [], (N, S, H)) (some (.int (sp_bar f)), (N, S, H)) := by
  simp (disch := first | assumption | exact pj_long_i | exact pj_long_r | exact pj_long_n | decide) only [x101_0, x101_1, x101_4, x101_6, x101_7, x101_8, x101_9, x101_12, x101_14, x101_15, x101_16, x101_17, x101_18, x101_19, x101_22, x101_24, x101_25, x101_26, simprocAttr, pj_then_s, pj_pv_s, pj_pi_s, pj_set_s, if_true, if_false, not_true_eq_false, not_false_eq_true, pj_up_up, pj_up_sort, pj_up_ap, pj_upd_ap, pj_a3_0, pj_a3_1, pj_a3_2, pj_a3_u0, pj_a3_u1, pj_a3_u2, pj_f6_0, pj_arl_i, hm, hf, pj_mo]
  exact t101_27
theorem m_fd_0 {n : Int32} (hm : H 109 = pj_mo hl mid lo hi fi pl sp nu ic td) (hf : H 110 = .inr (0, 152, .inl f))
    (K : pj_Ends 103 (4, [some (.ref 109), some (.int (n ||| sp_fb f 0 0)), some (.int (1))], [], (N, S, H)) o) :
    pj_Ends 103 (4, [some (.ref 109), some (.int n), some (.int 0)], [], (N, S, H)) o := by
  unfold sp_fb at K
  rw [x103_4]
  by_cases c1 : f 23 = -6
  · simp only [simprocAttr, ite_self, Int32.lt_irrefl, pj_upd_ap, if_true, if_false, Classical.not_not, not_true_eq_false, not_false_eq_true, true_and, and_true, false_and, and_false, pj_a3_0, pj_a3_1, pj_a3_2, pj_a3_u0, pj_a3_u1, pj_a3_u2, c1] at K
    simp (disch := first | assumption | exact pj_long_i | exact pj_long_r | exact pj_long_n | decide) only [x103_0, x103_1, x103_2, x103_3, x103_5, x103_6, x103_9, x103_10, x103_11, x103_14, x103_16, x103_17, x103_18, x103_19, x103_21, x103_24, x103_25, x103_28, x103_29, x103_30, x103_31, x103_32, x103_33, x103_36, x103_39, simprocAttr, pj_then_s, pj_pv_s, pj_pi_s, pj_set_s, if_true, if_false, not_true_eq_false, not_false_eq_true, pj_up_up, pj_up_sort, pj_up_ap, pj_upd_ap, pj_a3_0, pj_a3_1, pj_a3_2, pj_a3_u0, pj_a3_u1, pj_a3_u2, pj_long_i, pj_long_r, pj_long_n, pj_f6_0, pj_arl_i, hm, hf, pj_mo, c1]
    exact K
  · simp only [simprocAttr, ite_self, Int32.lt_irrefl, pj_upd_ap, if_true, if_false, Classical.not_not, not_true_eq_false, not_false_eq_true, true_and, and_true, false_and, and_false, pj_a3_0, pj_a3_1, pj_a3_2, pj_a3_u0, pj_a3_u1, pj_a3_u2, c1] at K
    simp (disch := first | assumption | exact pj_long_i | exact pj_long_r | exact pj_long_n | decide) only [x103_0, x103_1, x103_2, x103_3, x103_5, x103_6, x103_9, x103_10, x103_11, x103_14, x103_16, x103_17, x103_18, x103_19, x103_21, x103_24, x103_25, x103_28, x103_29, x103_30, x103_31, x103_32, x103_33, x103_36, x103_39, simprocAttr, pj_then_s, pj_pv_s, pj_pi_s, pj_set_s, if_true, if_false, not_true_eq_false, not_false_eq_true, pj_up_up, pj_up_sort, pj_up_ap, pj_upd_ap, pj_a3_0, pj_a3_1, pj_a3_2, pj_a3_u0, pj_a3_u1, pj_a3_u2, pj_long_i, pj_long_r, pj_long_n, pj_f6_0, pj_arl_i, hm, hf, pj_mo, c1]
    exact K
theorem m_fd_1 {n : Int32} (hm : H 109 = pj_mo hl mid lo hi fi pl sp nu ic td) (hf : H 110 = .inr (0, 152, .inl f))
    (K : pj_Ends 103 (4, [some (.ref 109), some (.int (n ||| sp_fb f 1 1)), some (.int (2))], [], (N, S, H)) o) :
    pj_Ends 103 (4, [some (.ref 109), some (.int n), some (.int 1)], [], (N, S, H)) o := by
  unfold sp_fb at K
  rw [x103_4]
  by_cases c1 : f 24 = -6
  · simp only [simprocAttr, ite_self, Int32.lt_irrefl, pj_upd_ap, if_true, if_false, Classical.not_not, not_true_eq_false, not_false_eq_true, true_and, and_true, false_and, and_false, pj_a3_0, pj_a3_1, pj_a3_2, pj_a3_u0, pj_a3_u1, pj_a3_u2, c1] at K
    simp (disch := first | assumption | exact pj_long_i | exact pj_long_r | exact pj_long_n | decide) only [x103_0, x103_1, x103_2, x103_3, x103_5, x103_6, x103_9, x103_10, x103_11, x103_14, x103_16, x103_17, x103_18, x103_19, x103_21, x103_24, x103_25, x103_28, x103_29, x103_30, x103_31, x103_32, x103_33, x103_36, x103_39, simprocAttr, pj_then_s, pj_pv_s, pj_pi_s, pj_set_s, if_true, if_false, not_true_eq_false, not_false_eq_true, pj_up_up, pj_up_sort, pj_up_ap, pj_upd_ap, pj_a3_0, pj_a3_1, pj_a3_2, pj_a3_u0, pj_a3_u1, pj_a3_u2, pj_long_i, pj_long_r, pj_long_n, pj_f6_0, pj_arl_i, hm, hf, pj_mo, c1]
    exact K
  · simp only [simprocAttr, ite_self, Int32.lt_irrefl, pj_upd_ap, if_true, if_false, Classical.not_not, not_true_eq_false, not_false_eq_true, true_and, and_true, false_and, and_false, pj_a3_0, pj_a3_1, pj_a3_2, pj_a3_u0, pj_a3_u1, pj_a3_u2, c1] at K
    simp (disch := first | assumption | exact pj_long_i | exact pj_long_r | exact pj_long_n | decide) only [x103_0, x103_1, x103_2, x103_3, x103_5, x103_6, x103_9, x103_10, x103_11, x103_14, x103_16, x103_17, x103_18, x103_19, x103_21, x103_24, x103_25, x103_28, x103_29, x103_30, x103_31, x103_32, x103_33, x103_36, x103_39, simprocAttr, pj_then_s, pj_pv_s, pj_pi_s, pj_set_s, if_true, if_false, not_true_eq_false, not_false_eq_true, pj_up_up, pj_up_sort, pj_up_ap, pj_upd_ap, pj_a3_0, pj_a3_1, pj_a3_2, pj_a3_u0, pj_a3_u1, pj_a3_u2, pj_long_i, pj_long_r, pj_long_n, pj_f6_0, pj_arl_i, hm, hf, pj_mo, c1]
    exact K
theorem m_fd_2 {n : Int32} (hm : H 109 = pj_mo hl mid lo hi fi pl sp nu ic td) (hf : H 110 = .inr (0, 152, .inl f))
    (K : pj_Ends 103 (4, [some (.ref 109), some (.int (n ||| sp_fb f 2 2)), some (.int (3))], [], (N, S, H)) o) :
    pj_Ends 103 (4, [some (.ref 109), some (.int n), some (.int 2)], [], (N, S, H)) o := by
  unfold sp_fb at K
  rw [x103_4]
  by_cases c1 : f 25 = -6
  · simp only [simprocAttr, ite_self, Int32.lt_irrefl, pj_upd_ap, if_true, if_false, Classical.not_not, not_true_eq_false, not_false_eq_true, true_and, and_true, false_and, and_false, pj_a3_0, pj_a3_1, pj_a3_2, pj_a3_u0, pj_a3_u1, pj_a3_u2, c1] at K
    simp (disch := first | assumption | exact pj_long_i | exact pj_long_r | exact pj_long_n | decide) only [x103_0, x103_1, x103_2, x103_3, x103_5, x103_6, x103_9, x103_10, x103_11, x103_14, x103_16, x103_17, x103_18, x103_19, x103_21, x103_24, x103_25, x103_28, x103_29, x103_30, x103_31, x103_32, x103_33, x103_36, x103_39, simprocAttr, pj_then_s, pj_pv_s, pj_pi_s, pj_set_s, if_true, if_false, not_true_eq_false, not_false_eq_true, pj_up_up, pj_up_sort, pj_up_ap, pj_upd_ap, pj_a3_0, pj_a3_1, pj_a3_2, pj_a3_u0, pj_a3_u1, pj_a3_u2, pj_long_i, pj_long_r, pj_long_n, pj_f6_0, pj_arl_i, hm, hf, pj_mo, c1]
    exact K
  · simp only [simprocAttr, ite_self, Int32.lt_irrefl, pj_upd_ap, if_true, if_false, Classical.not_not, not_true_eq_false, not_false_eq_true, true_and, and_true, false_and, and_false, pj_a3_0, pj_a3_1, pj_a3_2, pj_a3_u0, pj_a3_u1, pj_a3_u2, c1] at K
    simp (disch := first | assumption | exact pj_long_i | exact pj_long_r | exact pj_long_n | decide) only [x103_0, x103_1, x103_2, x103_3, x103_5, x103_6, x103_9, x103_10, x103_11, x103_14, x103_16, x103_17, x103_18, x103_19, x103_21, x103_24, x103_25, x103_28, x103_29, x103_30, x103_31, x103_32, x103_33, x103_36, x103_39, simprocAttr, pj_then_s, pj_pv_s, pj_pi_s, pj_set_s, if_true, if_false, not_true_eq_false, not_false_eq_true, pj_up_up, pj_up_sort, pj_up_ap, pj_upd_ap, pj_a3_0, pj_a3_1, pj_a3_2, pj_a3_u0, pj_a3_u1, pj_a3_u2, pj_long_i, pj_long_r, pj_long_n, pj_f6_0, pj_arl_i, hm, hf, pj_mo, c1]
    exact K
theorem m_fired (hm : H 109 = pj_mo hl mid lo hi fi pl sp nu ic td) (hf : H 110 = .inr (0, 152, .inl f)) :
    pj_Ends 103 (0, [some (.ref 109), none, none], [], (N, S, H)) (some (.int (sp_fired f)), (N, S, H)) := by
  simp (disch := first | assumption | exact pj_long_i | exact pj_long_r | exact pj_long_n | decide) only [x103_0, x103_1, x103_2, x103_3, simprocAttr, pj_then_s, pj_pv_s, pj_pi_s, pj_set_s, if_true, if_false, not_true_eq_false, not_false_eq_true, pj_up_up, pj_up_sort, pj_up_ap, pj_upd_ap, pj_a3_0, pj_a3_1, pj_a3_2, pj_a3_u0, pj_a3_u1, pj_a3_u2, pj_long_i, pj_long_r, pj_long_n]
  refine m_fd_0 hm hf ?_
  refine m_fd_1 hm hf ?_
  refine m_fd_2 hm hf ?_
  simp (disch := first | assumption | exact pj_long_i | exact pj_long_r | exact pj_long_n | decide) only [x103_0, x103_1, x103_2, x103_3, x103_4, x103_5, x103_6, x103_9, x103_10, x103_11, x103_14, x103_16, x103_17, x103_18, x103_19, x103_21, x103_24, x103_25, x103_28, x103_29, x103_30, x103_31, x103_32, x103_33, x103_36, x103_39, simprocAttr, pj_then_s, pj_pv_s, pj_pi_s, pj_set_s, if_true, if_false, not_true_eq_false, not_false_eq_true, pj_up_up, pj_up_sort, pj_up_ap, pj_upd_ap, pj_a3_0, pj_a3_1, pj_a3_2, pj_a3_u0, pj_a3_u1, pj_a3_u2, pj_long_i, pj_long_r, pj_long_n, pj_f6_0, pj_arl_i]
  exact t103_40
end M7
def op_bar (x : pj_Sg) (a b : Int32) : pj_Sg × Int32 := if sp_th a = 0 then (x, -1) else if x.1 (26 + a.toNatClampNeg) = b then (x, -5) else if x.1 (23 + a.toNatClampNeg) = -6 then (sp_push x (upd x.1 (26 + a.toNatClampNeg) b), sp_bar (upd x.1 (26 + a.toNatClampNeg) b)) else (x, -5)
theorem M_bar {N S : Nat} {H : pj_Heap} {x : pj_Sg} {a b : Int32} (hb : b = 0 ∨ b = 1) (hx : pj_In x) (hM : pj_M H x) : pj_Mo N S H 99 [some (.ref 109), some (.int a), some (.int b), none] (op_bar x a b) := by
  have hM' := hM
  obtain ⟨k, hs0, sl0, r0, r1, r2, a0, a1, a2, mid, lo, hi, fi, sp, nu, ic, td, ⟨hm, hf, hk, hh, hs, hv, hg, hA, hp⟩, hr⟩ := hM
  have K0 : ∀ (a : Int32) (H' : pj_Heap) (r : Int32), ¬ sp_th a = 0 → pj_Ends 99 (19, [some (.ref 109), some (.int a), some (.int b), some (.int b)], [], (N, S, H)) (some (.int r), (N, S, H')) → pj_Ends 99 (0, [some (.ref 109), some (.int a), some (.int b), none], [], (N, S, H)) (some (.int r), (N, S, H')) := by
    intro a H' r c1 K
    simp (disch := first | assumption | exact pj_long_i | exact pj_long_r | exact pj_long_n | decide) only [x99_0, simprocAttr, pj_then_s, pj_pv_s, pj_pi_s, pj_set_s, if_true, if_false, not_true_eq_false, not_false_eq_true, pj_up_up, pj_up_sort, pj_up_ap, pj_upd_ap, pj_a3_0, pj_a3_1, pj_a3_2, pj_a3_u0, pj_a3_u1, pj_a3_u2]
    refine e99_1 rfl m_isThree ?_
    rcases hb with e | e
    · subst e
      simp (disch := first | assumption | exact pj_long_i | exact pj_long_r | exact pj_long_n | decide) only [x99_4, x99_7, x99_9, x99_10, x99_13, x99_14, x99_17, x99_18, simprocAttr, pj_then_s, pj_pv_s, pj_pi_s, pj_set_s, if_true, if_false, not_true_eq_false, not_false_eq_true, pj_up_up, pj_up_sort, pj_up_ap, pj_upd_ap, pj_a3_0, pj_a3_1, pj_a3_2, pj_a3_u0, pj_a3_u1, pj_a3_u2, pj_long_i, pj_long_r, pj_long_n, c1]
      exact K
    · subst e
      simp (disch := first | assumption | exact pj_long_i | exact pj_long_r | exact pj_long_n | decide) only [x99_4, x99_7, x99_9, x99_10, x99_13, x99_14, x99_17, x99_18, simprocAttr, pj_then_s, pj_pv_s, pj_pi_s, pj_set_s, if_true, if_false, not_true_eq_false, not_false_eq_true, pj_up_up, pj_up_sort, pj_up_ap, pj_upd_ap, pj_a3_0, pj_a3_1, pj_a3_2, pj_a3_u0, pj_a3_u1, pj_a3_u2, pj_long_i, pj_long_r, pj_long_n, c1]
      exact K
  unfold op_bar
  by_cases c1 : sp_th a = 0
  · rw [if_pos c1]
    refine pj_Mo_same hM' ?_
    simp (disch := first | assumption | exact pj_long_i | exact pj_long_r | exact pj_long_n | decide) only [x99_0, simprocAttr, pj_then_s, pj_pv_s, pj_pi_s, pj_set_s, if_true, if_false, not_true_eq_false, not_false_eq_true, pj_up_up, pj_up_sort, pj_up_ap, pj_upd_ap, pj_a3_0, pj_a3_1, pj_a3_2, pj_a3_u0, pj_a3_u1, pj_a3_u2]
    refine e99_1 rfl m_isThree ?_
    simp (disch := first | assumption | exact pj_long_i | exact pj_long_r | exact pj_long_n | decide) only [x99_4, x99_7, simprocAttr, pj_then_s, pj_pv_s, pj_pi_s, pj_set_s, if_true, if_false, not_true_eq_false, not_false_eq_true, pj_up_up, pj_up_sort, pj_up_ap, pj_upd_ap, pj_a3_0, pj_a3_1, pj_a3_2, pj_a3_u0, pj_a3_u1, pj_a3_u2, c1]
    exact t99_8
  rw [if_neg c1]
  have K1 := K0 a
  rcases sp_th_lt c1 with e | e | e
  · subst e
    rw [pj_tn0]
    by_cases c2 : x.1 26 = b
    · rw [if_pos c2]
      refine pj_Mo_same hM' (K1 _ _ c1 ?_)
      simp (disch := first | assumption | exact pj_long_i | exact pj_long_r | exact pj_long_n | decide) only [x99_19, x99_20, x99_23, x99_25, x99_26, x99_27, x99_28, x99_29, x99_32, x99_33, x99_36, x99_38, x99_39, x99_40, x99_41, x99_43, x99_46, simprocAttr, pj_then_s, pj_pv_s, pj_pi_s, pj_set_s, if_true, if_false, not_true_eq_false, not_false_eq_true, pj_up_up, pj_up_sort, pj_up_ap, pj_upd_ap, pj_a3_0, pj_a3_1, pj_a3_2, pj_a3_u0, pj_a3_u1, pj_a3_u2, pj_f6_0, pj_arl_i, hm, hf, pj_mo, c2]
      exact t99_48
    rw [if_neg c2]
    by_cases c3 : x.1 23 = -6
    · rw [if_pos c3]
      refine m_chg (f' := upd x.1 26 b) (H1 := pj_up (pj_up H 110 (.inr (0, 152, .inl (upd x.1 26 b)))) 111 (.inr (0, 152, .inl (va_cpy x.1 k 0 0 152)))) (mid := mid) (lo := lo) (hi := hi) (fi := fi) (sp := sp) (nu := nu) (ic := ic) (td := td) (hs := hs0) (sl := sl0) (k := va_cpy x.1 k 0 0 152) (r0 := r0) (r1 := r1) (r2 := r2) (a0 := a0) (a1 := a1) (a2 := a2) hx ⟨(by (try simp (disch := decide) only [simprocAttr, pj_up_ap, if_true, if_false, pj_mo, hm, hf, hk, hh, hs, hv, hg, hA, hp]) <;> rfl), (by (try simp (disch := decide) only [simprocAttr, pj_up_ap, if_true, if_false, pj_mo, hm, hf, hk, hh, hs, hv, hg, hA, hp]) <;> rfl), (by (try simp (disch := decide) only [simprocAttr, pj_up_ap, if_true, if_false, pj_mo, hm, hf, hk, hh, hs, hv, hg, hA, hp]) <;> rfl), (by (try simp (disch := decide) only [simprocAttr, pj_up_ap, if_true, if_false, pj_mo, hm, hf, hk, hh, hs, hv, hg, hA, hp]) <;> rfl), (by (try simp (disch := decide) only [simprocAttr, pj_up_ap, if_true, if_false, pj_mo, hm, hf, hk, hh, hs, hv, hg, hA, hp]) <;> rfl), (by (try simp (disch := decide) only [simprocAttr, pj_up_ap, if_true, if_false, pj_mo, hm, hf, hk, hh, hs, hv, hg, hA, hp]) <;> rfl), (by (try simp (disch := decide) only [simprocAttr, pj_up_ap, if_true, if_false, pj_mo, hm, hf, hk, hh, hs, hv, hg, hA, hp]) <;> rfl), (by (try simp (disch := decide) only [simprocAttr, pj_up_ap, if_true, if_false, pj_mo, hm, hf, hk, hh, hs, hv, hg, hA, hp]) <;> rfl), (by (try simp (disch := decide) only [simprocAttr, pj_up_ap, if_true, if_false, pj_mo, hm, hf, hk, hh, hs, hv, hg, hA, hp]) <;> rfl)⟩ hr (fun j hj => va_cpy_lt hj) (by intro j hj; repeat rw [pj_up_lo hj (by decide)]) (fun H2 h2 => ?_)
      refine K1 _ _ c1 ?_
      simp (disch := first | assumption | exact pj_long_i | exact pj_long_r | exact pj_long_n | decide) only [x99_19, x99_20, x99_23, x99_25, x99_26, x99_27, x99_28, x99_29, x99_32, x99_33, x99_36, x99_38, x99_39, x99_40, x99_41, x99_43, x99_46, x99_49, simprocAttr, pj_then_s, pj_pv_s, pj_pi_s, pj_set_s, if_true, if_false, not_true_eq_false, not_false_eq_true, pj_up_up, pj_up_sort, pj_up_ap, pj_upd_ap, pj_a3_0, pj_a3_1, pj_a3_2, pj_a3_u0, pj_a3_u1, pj_a3_u2, pj_f6_0, pj_arl_i, hm, hf, pj_mo, c2, c3]
      refine e99_50 rfl (by first | (rw [hm]; rfl) | (simp only [simprocAttr, pj_up_ap, if_true, if_false, hm, pj_mo]; rfl)) (m_keep hm hf hk) ?_
      simp (disch := first | assumption | exact pj_long_i | exact pj_long_r | exact pj_long_n | decide) only [x99_53, x99_54, x99_57, x99_59, x99_60, x99_61, x99_62, x99_63, x99_64, simprocAttr, pj_then_s, pj_pv_s, pj_pi_s, pj_set_s, if_true, if_false, not_true_eq_false, not_false_eq_true, pj_up_up, pj_up_sort, pj_up_ap, pj_upd_ap, pj_a3_0, pj_a3_1, pj_a3_2, pj_a3_u0, pj_a3_u1, pj_a3_u2, pj_f6_0, pj_ars_i, hm, hf, pj_mo]
      refine e99_65 rfl (by first | (rw [hm]; rfl) | (simp only [simprocAttr, pj_up_ap, if_true, if_false, hm, pj_mo]; rfl)) (m_barred (f := upd x.1 26 b) (mid := mid) (lo := lo) (hi := hi) (fi := fi) (pl := nI x.2.2.2.2.2.1) (sp := sp) (nu := nu) (ic := ic) (td := td) (hl := nI x.2.1) (by (try simp (disch := decide) only [simprocAttr, pj_up_ap, if_true, if_false, pj_mo, hm]) <;> rfl) (by (try simp (disch := decide) only [simprocAttr, pj_up_ap, if_true, if_false, pj_mo, hm]) <;> rfl)) ?_
      refine e99_68 rfl (by first | (rw [hm]; rfl) | (simp only [simprocAttr, pj_up_ap, if_true, if_false, hm, pj_mo]; rfl)) h2 ?_
      exact t99_71
    · rw [if_neg c3]
      refine pj_Mo_same hM' (K1 _ _ c1 ?_)
      simp (disch := first | assumption | exact pj_long_i | exact pj_long_r | exact pj_long_n | decide) only [x99_19, x99_20, x99_23, x99_25, x99_26, x99_27, x99_28, x99_29, x99_32, x99_33, x99_36, x99_38, x99_39, x99_40, x99_41, x99_43, x99_46, simprocAttr, pj_then_s, pj_pv_s, pj_pi_s, pj_set_s, if_true, if_false, not_true_eq_false, not_false_eq_true, pj_up_up, pj_up_sort, pj_up_ap, pj_upd_ap, pj_a3_0, pj_a3_1, pj_a3_2, pj_a3_u0, pj_a3_u1, pj_a3_u2, pj_f6_0, pj_arl_i, hm, hf, pj_mo, c2, c3]
      exact t99_48
  · subst e
    rw [pj_tn1]
    by_cases c2 : x.1 27 = b
    · rw [if_pos c2]
      refine pj_Mo_same hM' (K1 _ _ c1 ?_)
      simp (disch := first | assumption | exact pj_long_i | exact pj_long_r | exact pj_long_n | decide) only [x99_19, x99_20, x99_23, x99_25, x99_26, x99_27, x99_28, x99_29, x99_32, x99_33, x99_36, x99_38, x99_39, x99_40, x99_41, x99_43, x99_46, simprocAttr, pj_then_s, pj_pv_s, pj_pi_s, pj_set_s, if_true, if_false, not_true_eq_false, not_false_eq_true, pj_up_up, pj_up_sort, pj_up_ap, pj_upd_ap, pj_a3_0, pj_a3_1, pj_a3_2, pj_a3_u0, pj_a3_u1, pj_a3_u2, pj_f6_0, pj_arl_i, hm, hf, pj_mo, c2]
      exact t99_48
    rw [if_neg c2]
    by_cases c3 : x.1 24 = -6
    · rw [if_pos c3]
      refine m_chg (f' := upd x.1 27 b) (H1 := pj_up (pj_up H 110 (.inr (0, 152, .inl (upd x.1 27 b)))) 111 (.inr (0, 152, .inl (va_cpy x.1 k 0 0 152)))) (mid := mid) (lo := lo) (hi := hi) (fi := fi) (sp := sp) (nu := nu) (ic := ic) (td := td) (hs := hs0) (sl := sl0) (k := va_cpy x.1 k 0 0 152) (r0 := r0) (r1 := r1) (r2 := r2) (a0 := a0) (a1 := a1) (a2 := a2) hx ⟨(by (try simp (disch := decide) only [simprocAttr, pj_up_ap, if_true, if_false, pj_mo, hm, hf, hk, hh, hs, hv, hg, hA, hp]) <;> rfl), (by (try simp (disch := decide) only [simprocAttr, pj_up_ap, if_true, if_false, pj_mo, hm, hf, hk, hh, hs, hv, hg, hA, hp]) <;> rfl), (by (try simp (disch := decide) only [simprocAttr, pj_up_ap, if_true, if_false, pj_mo, hm, hf, hk, hh, hs, hv, hg, hA, hp]) <;> rfl), (by (try simp (disch := decide) only [simprocAttr, pj_up_ap, if_true, if_false, pj_mo, hm, hf, hk, hh, hs, hv, hg, hA, hp]) <;> rfl), (by (try simp (disch := decide) only [simprocAttr, pj_up_ap, if_true, if_false, pj_mo, hm, hf, hk, hh, hs, hv, hg, hA, hp]) <;> rfl), (by (try simp (disch := decide) only [simprocAttr, pj_up_ap, if_true, if_false, pj_mo, hm, hf, hk, hh, hs, hv, hg, hA, hp]) <;> rfl), (by (try simp (disch := decide) only [simprocAttr, pj_up_ap, if_true, if_false, pj_mo, hm, hf, hk, hh, hs, hv, hg, hA, hp]) <;> rfl), (by (try simp (disch := decide) only [simprocAttr, pj_up_ap, if_true, if_false, pj_mo, hm, hf, hk, hh, hs, hv, hg, hA, hp]) <;> rfl), (by (try simp (disch := decide) only [simprocAttr, pj_up_ap, if_true, if_false, pj_mo, hm, hf, hk, hh, hs, hv, hg, hA, hp]) <;> rfl)⟩ hr (fun j hj => va_cpy_lt hj) (by intro j hj; repeat rw [pj_up_lo hj (by decide)]) (fun H2 h2 => ?_)
      refine K1 _ _ c1 ?_
      simp (disch := first | assumption | exact pj_long_i | exact pj_long_r | exact pj_long_n | decide) only [x99_19, x99_20, x99_23, x99_25, x99_26, x99_27, x99_28, x99_29, x99_32, x99_33, x99_36, x99_38, x99_39, x99_40, x99_41, x99_43, x99_46, x99_49, simprocAttr, pj_then_s, pj_pv_s, pj_pi_s, pj_set_s, if_true, if_false, not_true_eq_false, not_false_eq_true, pj_up_up, pj_up_sort, pj_up_ap, pj_upd_ap, pj_a3_0, pj_a3_1, pj_a3_2, pj_a3_u0, pj_a3_u1, pj_a3_u2, pj_f6_0, pj_arl_i, hm, hf, pj_mo, c2, c3]
      refine e99_50 rfl (by first | (rw [hm]; rfl) | (simp only [simprocAttr, pj_up_ap, if_true, if_false, hm, pj_mo]; rfl)) (m_keep hm hf hk) ?_
      simp (disch := first | assumption | exact pj_long_i | exact pj_long_r | exact pj_long_n | decide) only [x99_53, x99_54, x99_57, x99_59, x99_60, x99_61, x99_62, x99_63, x99_64, simprocAttr, pj_then_s, pj_pv_s, pj_pi_s, pj_set_s, if_true, if_false, not_true_eq_false, not_false_eq_true, pj_up_up, pj_up_sort, pj_up_ap, pj_upd_ap, pj_a3_0, pj_a3_1, pj_a3_2, pj_a3_u0, pj_a3_u1, pj_a3_u2, pj_f6_0, pj_ars_i, hm, hf, pj_mo]
      refine e99_65 rfl (by first | (rw [hm]; rfl) | (simp only [simprocAttr, pj_up_ap, if_true, if_false, hm, pj_mo]; rfl)) (m_barred (f := upd x.1 27 b) (mid := mid) (lo := lo) (hi := hi) (fi := fi) (pl := nI x.2.2.2.2.2.1) (sp := sp) (nu := nu) (ic := ic) (td := td) (hl := nI x.2.1) (by (try simp (disch := decide) only [simprocAttr, pj_up_ap, if_true, if_false, pj_mo, hm]) <;> rfl) (by (try simp (disch := decide) only [simprocAttr, pj_up_ap, if_true, if_false, pj_mo, hm]) <;> rfl)) ?_
      refine e99_68 rfl (by first | (rw [hm]; rfl) | (simp only [simprocAttr, pj_up_ap, if_true, if_false, hm, pj_mo]; rfl)) h2 ?_
      exact t99_71
    · rw [if_neg c3]
      refine pj_Mo_same hM' (K1 _ _ c1 ?_)
      simp (disch := first | assumption | exact pj_long_i | exact pj_long_r | exact pj_long_n | decide) only [x99_19, x99_20, x99_23, x99_25, x99_26, x99_27, x99_28, x99_29, x99_32, x99_33, x99_36, x99_38, x99_39, x99_40, x99_41, x99_43, x99_46, simprocAttr, pj_then_s, pj_pv_s, pj_pi_s, pj_set_s, if_true, if_false, not_true_eq_false, not_false_eq_true, pj_up_up, pj_up_sort, pj_up_ap, pj_upd_ap, pj_a3_0, pj_a3_1, pj_a3_2, pj_a3_u0, pj_a3_u1, pj_a3_u2, pj_f6_0, pj_arl_i, hm, hf, pj_mo, c2, c3]
      exact t99_48
  · subst e
    rw [pj_tn2]
    by_cases c2 : x.1 28 = b
    · rw [if_pos c2]
      refine pj_Mo_same hM' (K1 _ _ c1 ?_)
      simp (disch := first | assumption | exact pj_long_i | exact pj_long_r | exact pj_long_n | decide) only [x99_19, x99_20, x99_23, x99_25, x99_26, x99_27, x99_28, x99_29, x99_32, x99_33, x99_36, x99_38, x99_39, x99_40, x99_41, x99_43, x99_46, simprocAttr, pj_then_s, pj_pv_s, pj_pi_s, pj_set_s, if_true, if_false, not_true_eq_false, not_false_eq_true, pj_up_up, pj_up_sort, pj_up_ap, pj_upd_ap, pj_a3_0, pj_a3_1, pj_a3_2, pj_a3_u0, pj_a3_u1, pj_a3_u2, pj_f6_0, pj_arl_i, hm, hf, pj_mo, c2]
      exact t99_48
    rw [if_neg c2]
    by_cases c3 : x.1 25 = -6
    · rw [if_pos c3]
      refine m_chg (f' := upd x.1 28 b) (H1 := pj_up (pj_up H 110 (.inr (0, 152, .inl (upd x.1 28 b)))) 111 (.inr (0, 152, .inl (va_cpy x.1 k 0 0 152)))) (mid := mid) (lo := lo) (hi := hi) (fi := fi) (sp := sp) (nu := nu) (ic := ic) (td := td) (hs := hs0) (sl := sl0) (k := va_cpy x.1 k 0 0 152) (r0 := r0) (r1 := r1) (r2 := r2) (a0 := a0) (a1 := a1) (a2 := a2) hx ⟨(by (try simp (disch := decide) only [simprocAttr, pj_up_ap, if_true, if_false, pj_mo, hm, hf, hk, hh, hs, hv, hg, hA, hp]) <;> rfl), (by (try simp (disch := decide) only [simprocAttr, pj_up_ap, if_true, if_false, pj_mo, hm, hf, hk, hh, hs, hv, hg, hA, hp]) <;> rfl), (by (try simp (disch := decide) only [simprocAttr, pj_up_ap, if_true, if_false, pj_mo, hm, hf, hk, hh, hs, hv, hg, hA, hp]) <;> rfl), (by (try simp (disch := decide) only [simprocAttr, pj_up_ap, if_true, if_false, pj_mo, hm, hf, hk, hh, hs, hv, hg, hA, hp]) <;> rfl), (by (try simp (disch := decide) only [simprocAttr, pj_up_ap, if_true, if_false, pj_mo, hm, hf, hk, hh, hs, hv, hg, hA, hp]) <;> rfl), (by (try simp (disch := decide) only [simprocAttr, pj_up_ap, if_true, if_false, pj_mo, hm, hf, hk, hh, hs, hv, hg, hA, hp]) <;> rfl), (by (try simp (disch := decide) only [simprocAttr, pj_up_ap, if_true, if_false, pj_mo, hm, hf, hk, hh, hs, hv, hg, hA, hp]) <;> rfl), (by (try simp (disch := decide) only [simprocAttr, pj_up_ap, if_true, if_false, pj_mo, hm, hf, hk, hh, hs, hv, hg, hA, hp]) <;> rfl), (by (try simp (disch := decide) only [simprocAttr, pj_up_ap, if_true, if_false, pj_mo, hm, hf, hk, hh, hs, hv, hg, hA, hp]) <;> rfl)⟩ hr (fun j hj => va_cpy_lt hj) (by intro j hj; repeat rw [pj_up_lo hj (by decide)]) (fun H2 h2 => ?_)
      refine K1 _ _ c1 ?_
      simp (disch := first | assumption | exact pj_long_i | exact pj_long_r | exact pj_long_n | decide) only [x99_19, x99_20, x99_23, x99_25, x99_26, x99_27, x99_28, x99_29, x99_32, x99_33, x99_36, x99_38, x99_39, x99_40, x99_41, x99_43, x99_46, x99_49, simprocAttr, pj_then_s, pj_pv_s, pj_pi_s, pj_set_s, if_true, if_false, not_true_eq_false, not_false_eq_true, pj_up_up, pj_up_sort, pj_up_ap, pj_upd_ap, pj_a3_0, pj_a3_1, pj_a3_2, pj_a3_u0, pj_a3_u1, pj_a3_u2, pj_f6_0, pj_arl_i, hm, hf, pj_mo, c2, c3]
      refine e99_50 rfl (by first | (rw [hm]; rfl) | (simp only [simprocAttr, pj_up_ap, if_true, if_false, hm, pj_mo]; rfl)) (m_keep hm hf hk) ?_
      simp (disch := first | assumption | exact pj_long_i | exact pj_long_r | exact pj_long_n | decide) only [x99_53, x99_54, x99_57, x99_59, x99_60, x99_61, x99_62, x99_63, x99_64, simprocAttr, pj_then_s, pj_pv_s, pj_pi_s, pj_set_s, if_true, if_false, not_true_eq_false, not_false_eq_true, pj_up_up, pj_up_sort, pj_up_ap, pj_upd_ap, pj_a3_0, pj_a3_1, pj_a3_2, pj_a3_u0, pj_a3_u1, pj_a3_u2, pj_f6_0, pj_ars_i, hm, hf, pj_mo]
      refine e99_65 rfl (by first | (rw [hm]; rfl) | (simp only [simprocAttr, pj_up_ap, if_true, if_false, hm, pj_mo]; rfl)) (m_barred (f := upd x.1 28 b) (mid := mid) (lo := lo) (hi := hi) (fi := fi) (pl := nI x.2.2.2.2.2.1) (sp := sp) (nu := nu) (ic := ic) (td := td) (hl := nI x.2.1) (by (try simp (disch := decide) only [simprocAttr, pj_up_ap, if_true, if_false, pj_mo, hm]) <;> rfl) (by (try simp (disch := decide) only [simprocAttr, pj_up_ap, if_true, if_false, pj_mo, hm]) <;> rfl)) ?_
      refine e99_68 rfl (by first | (rw [hm]; rfl) | (simp only [simprocAttr, pj_up_ap, if_true, if_false, hm, pj_mo]; rfl)) h2 ?_
      exact t99_71
    · rw [if_neg c3]
      refine pj_Mo_same hM' (K1 _ _ c1 ?_)
      simp (disch := first | assumption | exact pj_long_i | exact pj_long_r | exact pj_long_n | decide) only [x99_19, x99_20, x99_23, x99_25, x99_26, x99_27, x99_28, x99_29, x99_32, x99_33, x99_36, x99_38, x99_39, x99_40, x99_41, x99_43, x99_46, simprocAttr, pj_then_s, pj_pv_s, pj_pi_s, pj_set_s, if_true, if_false, not_true_eq_false, not_false_eq_true, pj_up_up, pj_up_sort, pj_up_ap, pj_upd_ap, pj_a3_0, pj_a3_1, pj_a3_2, pj_a3_u0, pj_a3_u1, pj_a3_u2, pj_f6_0, pj_arl_i, hm, hf, pj_mo, c2, c3]
      exact t99_48
def sp_tst (f : Nat → Int32) (k : Nat) : Nat → Int32 := upd (upd (upd (upd f (14 + k) 1) (8 + k) 0) (11 + k) 0) (17 + k) 0
def op_test (x : pj_Sg) (a : Int32) : pj_Sg × Int32 := if sp_th a = 0 then (x, -1) else if sp_fired x.1 = 0 then (sp_push x (sp_tst x.1 a.toNatClampNeg), 1 - x.1 (14 + a.toNatClampNeg)) else (x, -5)
theorem M_test {N S : Nat} {H : pj_Heap} {x : pj_Sg} {a : Int32} (hx : pj_In x) (hM : pj_M H x) : pj_Mo N S H 102 [some (.ref 109), some (.int a), none] (op_test x a) := by
  have hM' := hM
  obtain ⟨k, hs0, sl0, r0, r1, r2, a0, a1, a2, mid, lo, hi, fi, sp, nu, ic, td, ⟨hm, hf, hk, hh, hs, hv, hg, hA, hp⟩, hr⟩ := hM
  unfold op_test
  by_cases c1 : sp_th a = 0
  · rw [if_pos c1]
    refine pj_Mo_same hM' ?_
    simp (disch := first | assumption | exact pj_long_i | exact pj_long_r | exact pj_long_n | decide) only [x102_0, simprocAttr, pj_then_s, pj_pv_s, pj_pi_s, pj_set_s, if_true, if_false, not_true_eq_false, not_false_eq_true, pj_up_up, pj_up_sort, pj_up_ap, pj_upd_ap, pj_a3_0, pj_a3_1, pj_a3_2, pj_a3_u0, pj_a3_u1, pj_a3_u2]
    refine e102_1 rfl m_isThree ?_
    simp (disch := first | assumption | exact pj_long_i | exact pj_long_r | exact pj_long_n | decide) only [x102_4, x102_7, simprocAttr, pj_then_s, pj_pv_s, pj_pi_s, pj_set_s, if_true, if_false, not_true_eq_false, not_false_eq_true, pj_up_up, pj_up_sort, pj_up_ap, pj_upd_ap, pj_a3_0, pj_a3_1, pj_a3_2, pj_a3_u0, pj_a3_u1, pj_a3_u2, c1]
    exact t102_8
  rw [if_neg c1]
  by_cases c2 : sp_fired x.1 = 0
  · rw [if_pos c2]
    have K0 : ∀ H2, pj_Ends 102 (23, [some (.ref 109), some (.int a), none], [], (N, S, pj_up H 111 (.inr (0, 152, .inl (va_cpy x.1 k 0 0 152))))) (some (.int (1 - x.1 (14 + a.toNatClampNeg))), (N, S, H2)) → pj_Ends 102 (0, [some (.ref 109), some (.int a), none], [], (N, S, H)) (some (.int (1 - x.1 (14 + a.toNatClampNeg))), (N, S, H2)) := by
      intro H2 K
      simp (disch := first | assumption | exact pj_long_i | exact pj_long_r | exact pj_long_n | decide) only [x102_0, simprocAttr, pj_then_s, pj_pv_s, pj_pi_s, pj_set_s, if_true, if_false, not_true_eq_false, not_false_eq_true, pj_up_up, pj_up_sort, pj_up_ap, pj_upd_ap, pj_a3_0, pj_a3_1, pj_a3_2, pj_a3_u0, pj_a3_u1, pj_a3_u2]
      refine e102_1 rfl m_isThree ?_
      simp (disch := first | assumption | exact pj_long_i | exact pj_long_r | exact pj_long_n | decide) only [x102_4, x102_7, x102_9, simprocAttr, pj_then_s, pj_pv_s, pj_pi_s, pj_set_s, if_true, if_false, not_true_eq_false, not_false_eq_true, pj_up_up, pj_up_sort, pj_up_ap, pj_upd_ap, pj_a3_0, pj_a3_1, pj_a3_2, pj_a3_u0, pj_a3_u1, pj_a3_u2, c1]
      refine e102_10 rfl (by first | (rw [hm]; rfl) | (simp only [simprocAttr, pj_up_ap, if_true, if_false, hm, pj_mo]; rfl)) (m_fired hm hf) ?_
      simp (disch := first | assumption | exact pj_long_i | exact pj_long_r | exact pj_long_n | decide) only [x102_13, x102_16, x102_19, simprocAttr, pj_then_s, pj_pv_s, pj_pi_s, pj_set_s, if_true, if_false, not_true_eq_false, not_false_eq_true, pj_up_up, pj_up_sort, pj_up_ap, pj_upd_ap, pj_a3_0, pj_a3_1, pj_a3_2, pj_a3_u0, pj_a3_u1, pj_a3_u2, c2]
      refine e102_20 rfl (by first | (rw [hm]; rfl) | (simp only [simprocAttr, pj_up_ap, if_true, if_false, hm, pj_mo]; rfl)) (m_keep hm hf hk) ?_
      exact K
    rcases sp_th_lt c1 with e | e | e
    · subst e
      rw [pj_tn0] at K0 ⊢
      refine m_chg (f' := sp_tst x.1 0) (H1 := pj_up (pj_up H 110 (.inr (0, 152, .inl (sp_tst x.1 0)))) 111 (.inr (0, 152, .inl (va_cpy x.1 k 0 0 152)))) (mid := mid) (lo := lo) (hi := hi) (fi := fi) (sp := sp) (nu := nu) (ic := ic) (td := td) (hs := hs0) (sl := sl0) (k := va_cpy x.1 k 0 0 152) (r0 := r0) (r1 := r1) (r2 := r2) (a0 := a0) (a1 := a1) (a2 := a2) hx ⟨(by (try simp (disch := decide) only [simprocAttr, pj_up_ap, if_true, if_false, pj_mo, hm, hf, hk, hh, hs, hv, hg, hA, hp]) <;> rfl), (by (try simp (disch := decide) only [simprocAttr, pj_up_ap, if_true, if_false, pj_mo, hm, hf, hk, hh, hs, hv, hg, hA, hp]) <;> rfl), (by (try simp (disch := decide) only [simprocAttr, pj_up_ap, if_true, if_false, pj_mo, hm, hf, hk, hh, hs, hv, hg, hA, hp]) <;> rfl), (by (try simp (disch := decide) only [simprocAttr, pj_up_ap, if_true, if_false, pj_mo, hm, hf, hk, hh, hs, hv, hg, hA, hp]) <;> rfl), (by (try simp (disch := decide) only [simprocAttr, pj_up_ap, if_true, if_false, pj_mo, hm, hf, hk, hh, hs, hv, hg, hA, hp]) <;> rfl), (by (try simp (disch := decide) only [simprocAttr, pj_up_ap, if_true, if_false, pj_mo, hm, hf, hk, hh, hs, hv, hg, hA, hp]) <;> rfl), (by (try simp (disch := decide) only [simprocAttr, pj_up_ap, if_true, if_false, pj_mo, hm, hf, hk, hh, hs, hv, hg, hA, hp]) <;> rfl), (by (try simp (disch := decide) only [simprocAttr, pj_up_ap, if_true, if_false, pj_mo, hm, hf, hk, hh, hs, hv, hg, hA, hp]) <;> rfl), (by (try simp (disch := decide) only [simprocAttr, pj_up_ap, if_true, if_false, pj_mo, hm, hf, hk, hh, hs, hv, hg, hA, hp]) <;> rfl)⟩ hr (fun j hj => va_cpy_lt hj) (by intro j hj; repeat rw [pj_up_lo hj (by decide)]) (fun H2 h2 => ?_)
      refine K0 _ ?_
      unfold sp_tst at h2
      simp only [simprocAttr] at h2
      simp (disch := first | assumption | exact pj_long_i | exact pj_long_r | exact pj_long_n | decide) only [x102_23, x102_24, x102_25, x102_28, x102_30, x102_31, x102_32, x102_33, x102_34, x102_35, x102_36, x102_39, x102_41, x102_42, x102_43, x102_44, x102_45, x102_46, x102_49, x102_51, x102_52, x102_53, x102_54, x102_55, x102_56, x102_59, x102_61, x102_62, x102_63, x102_64, x102_65, x102_66, x102_69, x102_71, x102_72, x102_73, x102_74, x102_75, x102_76, simprocAttr, pj_then_s, pj_pv_s, pj_pi_s, pj_set_s, if_true, if_false, not_true_eq_false, not_false_eq_true, pj_up_up, pj_up_sort, pj_up_ap, pj_upd_ap, pj_a3_0, pj_a3_1, pj_a3_2, pj_a3_u0, pj_a3_u1, pj_a3_u2, pj_f6_0, pj_arl_i, pj_long_i, pj_long_r, pj_long_n, pj_ars_i, hm, hf, pj_mo]
      refine e102_77 rfl (by first | (rw [hm]; rfl) | (simp only [simprocAttr, pj_up_ap, if_true, if_false, hm, pj_mo]; rfl)) h2 ?_
      exact t102_80
    · subst e
      rw [pj_tn1] at K0 ⊢
      refine m_chg (f' := sp_tst x.1 1) (H1 := pj_up (pj_up H 110 (.inr (0, 152, .inl (sp_tst x.1 1)))) 111 (.inr (0, 152, .inl (va_cpy x.1 k 0 0 152)))) (mid := mid) (lo := lo) (hi := hi) (fi := fi) (sp := sp) (nu := nu) (ic := ic) (td := td) (hs := hs0) (sl := sl0) (k := va_cpy x.1 k 0 0 152) (r0 := r0) (r1 := r1) (r2 := r2) (a0 := a0) (a1 := a1) (a2 := a2) hx ⟨(by (try simp (disch := decide) only [simprocAttr, pj_up_ap, if_true, if_false, pj_mo, hm, hf, hk, hh, hs, hv, hg, hA, hp]) <;> rfl), (by (try simp (disch := decide) only [simprocAttr, pj_up_ap, if_true, if_false, pj_mo, hm, hf, hk, hh, hs, hv, hg, hA, hp]) <;> rfl), (by (try simp (disch := decide) only [simprocAttr, pj_up_ap, if_true, if_false, pj_mo, hm, hf, hk, hh, hs, hv, hg, hA, hp]) <;> rfl), (by (try simp (disch := decide) only [simprocAttr, pj_up_ap, if_true, if_false, pj_mo, hm, hf, hk, hh, hs, hv, hg, hA, hp]) <;> rfl), (by (try simp (disch := decide) only [simprocAttr, pj_up_ap, if_true, if_false, pj_mo, hm, hf, hk, hh, hs, hv, hg, hA, hp]) <;> rfl), (by (try simp (disch := decide) only [simprocAttr, pj_up_ap, if_true, if_false, pj_mo, hm, hf, hk, hh, hs, hv, hg, hA, hp]) <;> rfl), (by (try simp (disch := decide) only [simprocAttr, pj_up_ap, if_true, if_false, pj_mo, hm, hf, hk, hh, hs, hv, hg, hA, hp]) <;> rfl), (by (try simp (disch := decide) only [simprocAttr, pj_up_ap, if_true, if_false, pj_mo, hm, hf, hk, hh, hs, hv, hg, hA, hp]) <;> rfl), (by (try simp (disch := decide) only [simprocAttr, pj_up_ap, if_true, if_false, pj_mo, hm, hf, hk, hh, hs, hv, hg, hA, hp]) <;> rfl)⟩ hr (fun j hj => va_cpy_lt hj) (by intro j hj; repeat rw [pj_up_lo hj (by decide)]) (fun H2 h2 => ?_)
      refine K0 _ ?_
      unfold sp_tst at h2
      simp only [simprocAttr] at h2
      simp (disch := first | assumption | exact pj_long_i | exact pj_long_r | exact pj_long_n | decide) only [x102_23, x102_24, x102_25, x102_28, x102_30, x102_31, x102_32, x102_33, x102_34, x102_35, x102_36, x102_39, x102_41, x102_42, x102_43, x102_44, x102_45, x102_46, x102_49, x102_51, x102_52, x102_53, x102_54, x102_55, x102_56, x102_59, x102_61, x102_62, x102_63, x102_64, x102_65, x102_66, x102_69, x102_71, x102_72, x102_73, x102_74, x102_75, x102_76, simprocAttr, pj_then_s, pj_pv_s, pj_pi_s, pj_set_s, if_true, if_false, not_true_eq_false, not_false_eq_true, pj_up_up, pj_up_sort, pj_up_ap, pj_upd_ap, pj_a3_0, pj_a3_1, pj_a3_2, pj_a3_u0, pj_a3_u1, pj_a3_u2, pj_f6_0, pj_arl_i, pj_long_i, pj_long_r, pj_long_n, pj_ars_i, hm, hf, pj_mo]
      refine e102_77 rfl (by first | (rw [hm]; rfl) | (simp only [simprocAttr, pj_up_ap, if_true, if_false, hm, pj_mo]; rfl)) h2 ?_
      exact t102_80
    · subst e
      rw [pj_tn2] at K0 ⊢
      refine m_chg (f' := sp_tst x.1 2) (H1 := pj_up (pj_up H 110 (.inr (0, 152, .inl (sp_tst x.1 2)))) 111 (.inr (0, 152, .inl (va_cpy x.1 k 0 0 152)))) (mid := mid) (lo := lo) (hi := hi) (fi := fi) (sp := sp) (nu := nu) (ic := ic) (td := td) (hs := hs0) (sl := sl0) (k := va_cpy x.1 k 0 0 152) (r0 := r0) (r1 := r1) (r2 := r2) (a0 := a0) (a1 := a1) (a2 := a2) hx ⟨(by (try simp (disch := decide) only [simprocAttr, pj_up_ap, if_true, if_false, pj_mo, hm, hf, hk, hh, hs, hv, hg, hA, hp]) <;> rfl), (by (try simp (disch := decide) only [simprocAttr, pj_up_ap, if_true, if_false, pj_mo, hm, hf, hk, hh, hs, hv, hg, hA, hp]) <;> rfl), (by (try simp (disch := decide) only [simprocAttr, pj_up_ap, if_true, if_false, pj_mo, hm, hf, hk, hh, hs, hv, hg, hA, hp]) <;> rfl), (by (try simp (disch := decide) only [simprocAttr, pj_up_ap, if_true, if_false, pj_mo, hm, hf, hk, hh, hs, hv, hg, hA, hp]) <;> rfl), (by (try simp (disch := decide) only [simprocAttr, pj_up_ap, if_true, if_false, pj_mo, hm, hf, hk, hh, hs, hv, hg, hA, hp]) <;> rfl), (by (try simp (disch := decide) only [simprocAttr, pj_up_ap, if_true, if_false, pj_mo, hm, hf, hk, hh, hs, hv, hg, hA, hp]) <;> rfl), (by (try simp (disch := decide) only [simprocAttr, pj_up_ap, if_true, if_false, pj_mo, hm, hf, hk, hh, hs, hv, hg, hA, hp]) <;> rfl), (by (try simp (disch := decide) only [simprocAttr, pj_up_ap, if_true, if_false, pj_mo, hm, hf, hk, hh, hs, hv, hg, hA, hp]) <;> rfl), (by (try simp (disch := decide) only [simprocAttr, pj_up_ap, if_true, if_false, pj_mo, hm, hf, hk, hh, hs, hv, hg, hA, hp]) <;> rfl)⟩ hr (fun j hj => va_cpy_lt hj) (by intro j hj; repeat rw [pj_up_lo hj (by decide)]) (fun H2 h2 => ?_)
      refine K0 _ ?_
      unfold sp_tst at h2
      simp only [simprocAttr] at h2
      simp (disch := first | assumption | exact pj_long_i | exact pj_long_r | exact pj_long_n | decide) only [x102_23, x102_24, x102_25, x102_28, x102_30, x102_31, x102_32, x102_33, x102_34, x102_35, x102_36, x102_39, x102_41, x102_42, x102_43, x102_44, x102_45, x102_46, x102_49, x102_51, x102_52, x102_53, x102_54, x102_55, x102_56, x102_59, x102_61, x102_62, x102_63, x102_64, x102_65, x102_66, x102_69, x102_71, x102_72, x102_73, x102_74, x102_75, x102_76, simprocAttr, pj_then_s, pj_pv_s, pj_pi_s, pj_set_s, if_true, if_false, not_true_eq_false, not_false_eq_true, pj_up_up, pj_up_sort, pj_up_ap, pj_upd_ap, pj_a3_0, pj_a3_1, pj_a3_2, pj_a3_u0, pj_a3_u1, pj_a3_u2, pj_f6_0, pj_arl_i, pj_long_i, pj_long_r, pj_long_n, pj_ars_i, hm, hf, pj_mo]
      refine e102_77 rfl (by first | (rw [hm]; rfl) | (simp only [simprocAttr, pj_up_ap, if_true, if_false, hm, pj_mo]; rfl)) h2 ?_
      exact t102_80
  · rw [if_neg c2]
    refine pj_Mo_same hM' ?_
    simp (disch := first | assumption | exact pj_long_i | exact pj_long_r | exact pj_long_n | decide) only [x102_0, simprocAttr, pj_then_s, pj_pv_s, pj_pi_s, pj_set_s, if_true, if_false, not_true_eq_false, not_false_eq_true, pj_up_up, pj_up_sort, pj_up_ap, pj_upd_ap, pj_a3_0, pj_a3_1, pj_a3_2, pj_a3_u0, pj_a3_u1, pj_a3_u2]
    refine e102_1 rfl m_isThree ?_
    simp (disch := first | assumption | exact pj_long_i | exact pj_long_r | exact pj_long_n | decide) only [x102_4, x102_7, x102_9, simprocAttr, pj_then_s, pj_pv_s, pj_pi_s, pj_set_s, if_true, if_false, not_true_eq_false, not_false_eq_true, pj_up_up, pj_up_sort, pj_up_ap, pj_upd_ap, pj_a3_0, pj_a3_1, pj_a3_2, pj_a3_u0, pj_a3_u1, pj_a3_u2, c1]
    refine e102_10 rfl (by first | (rw [hm]; rfl) | (simp only [simprocAttr, pj_up_ap, if_true, if_false, hm, pj_mo]; rfl)) (m_fired hm hf) ?_
    simp (disch := first | assumption | exact pj_long_i | exact pj_long_r | exact pj_long_n | decide) only [x102_13, x102_16, simprocAttr, pj_then_s, pj_pv_s, pj_pi_s, pj_set_s, if_true, if_false, not_true_eq_false, not_false_eq_true, pj_up_up, pj_up_sort, pj_up_ap, pj_upd_ap, pj_a3_0, pj_a3_1, pj_a3_2, pj_a3_u0, pj_a3_u1, pj_a3_u2, c2]
    exact t102_18
def sp_srv (f : Nat → Int32) : Nat → Int32 := upd (upd (upd (upd (upd (upd (upd (upd (upd f 23 (-6)) 11 0) 24 (-6)) 12 0) 25 (-6)) 13 0) 7 0) 29 (-6)) 30 0
def op_service (x : pj_Sg) : pj_Sg × Int32 := (sp_push x (sp_srv x.1), sp_bits (sp_fired x.1))
theorem M_service {N S : Nat} {H : pj_Heap} {x : pj_Sg} (hx : pj_In x) (hM : pj_M H x) : pj_Mo N S H 104 [some (.ref 109), none, none] (op_service x) := by
  obtain ⟨k, hs0, sl0, r0, r1, r2, a0, a1, a2, mid, lo, hi, fi, sp, nu, ic, td, ⟨hm, hf, hk, hh, hs, hv, hg, hA, hp⟩, hr⟩ := hM
  unfold op_service
  refine m_chg (f' := sp_srv x.1) (H1 := pj_up (pj_up H 110 (.inr (0, 152, .inl (sp_srv x.1)))) 111 (.inr (0, 152, .inl (va_cpy x.1 k 0 0 152)))) (mid := mid) (lo := lo) (hi := hi) (fi := fi) (sp := sp) (nu := nu) (ic := ic) (td := td) (hs := hs0) (sl := sl0) (k := va_cpy x.1 k 0 0 152) (r0 := r0) (r1 := r1) (r2 := r2) (a0 := a0) (a1 := a1) (a2 := a2) hx ⟨(by (try simp (disch := decide) only [simprocAttr, pj_up_ap, if_true, if_false, pj_mo, hm, hf, hk, hh, hs, hv, hg, hA, hp]) <;> rfl), (by (try simp (disch := decide) only [simprocAttr, pj_up_ap, if_true, if_false, pj_mo, hm, hf, hk, hh, hs, hv, hg, hA, hp]) <;> rfl), (by (try simp (disch := decide) only [simprocAttr, pj_up_ap, if_true, if_false, pj_mo, hm, hf, hk, hh, hs, hv, hg, hA, hp]) <;> rfl), (by (try simp (disch := decide) only [simprocAttr, pj_up_ap, if_true, if_false, pj_mo, hm, hf, hk, hh, hs, hv, hg, hA, hp]) <;> rfl), (by (try simp (disch := decide) only [simprocAttr, pj_up_ap, if_true, if_false, pj_mo, hm, hf, hk, hh, hs, hv, hg, hA, hp]) <;> rfl), (by (try simp (disch := decide) only [simprocAttr, pj_up_ap, if_true, if_false, pj_mo, hm, hf, hk, hh, hs, hv, hg, hA, hp]) <;> rfl), (by (try simp (disch := decide) only [simprocAttr, pj_up_ap, if_true, if_false, pj_mo, hm, hf, hk, hh, hs, hv, hg, hA, hp]) <;> rfl), (by (try simp (disch := decide) only [simprocAttr, pj_up_ap, if_true, if_false, pj_mo, hm, hf, hk, hh, hs, hv, hg, hA, hp]) <;> rfl), (by (try simp (disch := decide) only [simprocAttr, pj_up_ap, if_true, if_false, pj_mo, hm, hf, hk, hh, hs, hv, hg, hA, hp]) <;> rfl)⟩ hr (fun j hj => va_cpy_lt hj) (by intro j hj; repeat rw [pj_up_lo hj (by decide)]) (fun H2 h2 => ?_)
  unfold sp_srv at h2
  simp (disch := first | assumption | exact pj_long_i | exact pj_long_r | exact pj_long_n | decide) only [x104_0, simprocAttr, pj_then_s, pj_pv_s, pj_pi_s, pj_set_s, if_true, if_false, not_true_eq_false, not_false_eq_true, pj_up_up, pj_up_sort, pj_up_ap, pj_upd_ap, pj_a3_0, pj_a3_1, pj_a3_2, pj_a3_u0, pj_a3_u1, pj_a3_u2]
  refine e104_1 rfl (by first | (rw [hm]; rfl) | (simp only [simprocAttr, pj_up_ap, if_true, if_false, hm, pj_mo]; rfl)) (m_keep hm hf hk) ?_
  simp (disch := first | assumption | exact pj_long_i | exact pj_long_r | exact pj_long_n | decide) only [x104_4, simprocAttr, pj_then_s, pj_pv_s, pj_pi_s, pj_set_s, if_true, if_false, not_true_eq_false, not_false_eq_true, pj_up_up, pj_up_sort, pj_up_ap, pj_upd_ap, pj_a3_0, pj_a3_1, pj_a3_2, pj_a3_u0, pj_a3_u1, pj_a3_u2]
  refine e104_5 rfl (by first | (rw [hm]; rfl) | (simp only [simprocAttr, pj_up_ap, if_true, if_false, hm, pj_mo]; rfl)) (m_fired (f := x.1) (mid := mid) (lo := lo) (hi := hi) (fi := fi) (pl := nI x.2.2.2.2.2.1) (sp := sp) (nu := nu) (ic := ic) (td := td) (hl := nI x.2.1) (by (try simp (disch := decide) only [simprocAttr, pj_up_ap, if_true, if_false, pj_mo, hm]) <;> rfl) (by (try simp (disch := decide) only [simprocAttr, pj_up_ap, if_true, if_false, pj_mo, hm, hf]) <;> rfl)) ?_
  refine e104_8 rfl m_bits ?_
  generalize sp_bits (sp_fired x.1) = w at h2 ⊢
  simp (disch := first | assumption | exact pj_long_i | exact pj_long_r | exact pj_long_n | decide) only [x104_11, x104_12, x104_13, x104_14, x104_15, x104_16, x104_19, x104_20, x104_23, x104_25, x104_26, x104_27, x104_29, x104_30, x104_31, x104_34, x104_36, x104_37, x104_38, x104_39, x104_40, x104_43, x104_46, x104_47, x104_50, x104_52, x104_53, x104_54, x104_55, x104_58, x104_60, x104_62, x104_63, x104_64, x104_67, x104_69, x104_70, x104_71, x104_72, simprocAttr, pj_then_s, pj_pv_s, pj_pi_s, pj_set_s, if_true, if_false, not_true_eq_false, not_false_eq_true, pj_up_up, pj_up_sort, pj_up_ap, pj_upd_ap, pj_a3_0, pj_a3_1, pj_a3_2, pj_a3_u0, pj_a3_u1, pj_a3_u2, pj_long_i, pj_long_r, pj_long_n, pj_f6_0, pj_ars_i, hm, hf, pj_mo]
  refine e104_73 rfl (by first | (rw [hm]; rfl) | (simp only [simprocAttr, pj_up_ap, if_true, if_false, hm, pj_mo]; rfl)) h2 ?_
  exact t104_76
