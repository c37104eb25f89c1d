/-! THE REFERENCE'S WHAT-IFS -/
theorem va_cpy_back {k F f : Nat → Int32} (hF : ∀ j, 152 ≤ j → F j = 0) (hf : ∀ j, 152 ≤ j → f j = 0) (h : ∀ j, j < 152 → k j = f j) : va_cpy k F 0 0 152 = f := va_cpy_row hF hf (fun j hj => by rw [Nat.zero_add]; exact h j hj)
def op_if (f g : Nat → Int32) (c w : Int32) : Int32 := if w = 0 then tk_fi f g c else if w = 1 then tk_m f g + 100000 else if w = 2 then sp_vot (sp_tick f g c) else if w = 3 then tk_lo f g c else if w = 4 then tk_hi f g c else (if sp_tick f g c 7 ≤ 0 then 0 else 1)
def op_ifTick (f : Nat → Int32) (b0 b1 b2 c w : Int32) : Int32 := if sp_rd b0 = 0 then -2 else if sp_rd b1 = 0 then -2 else if sp_rd b2 = 0 then -2 else if 0 ≤ w ∧ w ≤ 5 then op_if f (pj_a3 b0 b1 b2) c w else -2
theorem M_ifTick {N S : Nat} {H : pj_Heap} {x : pj_Sg} {b0 b1 b2 c w : Int32} (hx : pj_In x) (hM : pj_M H x) : pj_Mo N S H 108 [some (.ref 109), some (.int b0), some (.int b1), some (.int b2), some (.int c), some (.int w), none, none] (x, op_ifTick x.1 b0 b1 b2 c w) := by
  have hM' := hM
  obtain ⟨k, hs0, sl0, r0, r1, r2, a0, a1, a2, mid, lo, hi, fi, sp, nu, ic, td, ⟨hm, hf, hk, hh, hs, hv, hg, hA, hp⟩, hr⟩ := hM
  obtain ⟨t, ht, h152, ⟨n, hn, hrec⟩, hRo⟩ := hx.1
  unfold op_ifTick
  by_cases c1 : sp_rd b0 = 0
  · rw [if_pos c1]
    refine pj_Mo_same hM' ?_
    simp (disch := first | assumption | exact pj_long_i | exact pj_long_r | exact pj_long_n | decide) only [x108_0, simprocAttr, pj_then_s, pj_pv_s, pj_pi_s, pj_set_s, if_true, if_false, not_true_eq_false, not_false_eq_true, pj_up_up, pj_up_sort, pj_up_ap, pj_upd_ap, pj_a3_0, pj_a3_1, pj_a3_2, pj_a3_u0, pj_a3_u1, pj_a3_u2]
    refine e108_1 rfl m_isReading ?_
    simp (disch := first | assumption | exact pj_long_i | exact pj_long_r | exact pj_long_n | decide) only [x108_4, x108_7, x108_11, x108_14, x108_18, x108_21, x108_23, x108_24, x108_25, x108_31, x108_34, simprocAttr, pj_then_s, pj_pv_s, pj_pi_s, pj_set_s, if_true, if_false, not_true_eq_false, not_false_eq_true, pj_up_up, pj_up_sort, pj_up_ap, pj_upd_ap, pj_a3_0, pj_a3_1, pj_a3_2, pj_a3_u0, pj_a3_u1, pj_a3_u2, c1]
    exact t108_36
  rw [if_neg c1]
  by_cases c2 : sp_rd b1 = 0
  · rw [if_pos c2]
    refine pj_Mo_same hM' ?_
    simp (disch := first | assumption | exact pj_long_i | exact pj_long_r | exact pj_long_n | decide) only [x108_0, simprocAttr, pj_then_s, pj_pv_s, pj_pi_s, pj_set_s, if_true, if_false, not_true_eq_false, not_false_eq_true, pj_up_up, pj_up_sort, pj_up_ap, pj_upd_ap, pj_a3_0, pj_a3_1, pj_a3_2, pj_a3_u0, pj_a3_u1, pj_a3_u2]
    refine e108_1 rfl m_isReading ?_
    simp (disch := first | assumption | exact pj_long_i | exact pj_long_r | exact pj_long_n | decide) only [x108_4, x108_7, simprocAttr, pj_then_s, pj_pv_s, pj_pi_s, pj_set_s, if_true, if_false, not_true_eq_false, not_false_eq_true, pj_up_up, pj_up_sort, pj_up_ap, pj_upd_ap, pj_a3_0, pj_a3_1, pj_a3_2, pj_a3_u0, pj_a3_u1, pj_a3_u2, c1]
    refine e108_8 rfl m_isReading ?_
    simp (disch := first | assumption | exact pj_long_i | exact pj_long_r | exact pj_long_n | decide) only [x108_11, x108_14, x108_18, x108_21, x108_23, x108_24, x108_25, x108_31, x108_34, simprocAttr, pj_then_s, pj_pv_s, pj_pi_s, pj_set_s, if_true, if_false, not_true_eq_false, not_false_eq_true, pj_up_up, pj_up_sort, pj_up_ap, pj_upd_ap, pj_a3_0, pj_a3_1, pj_a3_2, pj_a3_u0, pj_a3_u1, pj_a3_u2, c2]
    exact t108_36
  rw [if_neg c2]
  by_cases c3 : sp_rd b2 = 0
  · rw [if_pos c3]
    refine pj_Mo_same hM' ?_
    simp (disch := first | assumption | exact pj_long_i | exact pj_long_r | exact pj_long_n | decide) only [x108_0, simprocAttr, pj_then_s, pj_pv_s, pj_pi_s, pj_set_s, if_true, if_false, not_true_eq_false, not_false_eq_true, pj_up_up, pj_up_sort, pj_up_ap, pj_upd_ap, pj_a3_0, pj_a3_1, pj_a3_2, pj_a3_u0, pj_a3_u1, pj_a3_u2]
    refine e108_1 rfl m_isReading ?_
    simp (disch := first | assumption | exact pj_long_i | exact pj_long_r | exact pj_long_n | decide) only [x108_4, x108_7, simprocAttr, pj_then_s, pj_pv_s, pj_pi_s, pj_set_s, if_true, if_false, not_true_eq_false, not_false_eq_true, pj_up_up, pj_up_sort, pj_up_ap, pj_upd_ap, pj_a3_0, pj_a3_1, pj_a3_2, pj_a3_u0, pj_a3_u1, pj_a3_u2, c1]
    refine e108_8 rfl m_isReading ?_
    simp (disch := first | assumption | exact pj_long_i | exact pj_long_r | exact pj_long_n | decide) only [x108_11, x108_14, simprocAttr, pj_then_s, pj_pv_s, pj_pi_s, pj_set_s, if_true, if_false, not_true_eq_false, not_false_eq_true, pj_up_up, pj_up_sort, pj_up_ap, pj_upd_ap, pj_a3_0, pj_a3_1, pj_a3_2, pj_a3_u0, pj_a3_u1, pj_a3_u2, c2]
    refine e108_15 rfl m_isReading ?_
    simp (disch := first | assumption | exact pj_long_i | exact pj_long_r | exact pj_long_n | decide) only [x108_18, x108_21, x108_23, x108_24, x108_25, x108_31, x108_34, simprocAttr, pj_then_s, pj_pv_s, pj_pi_s, pj_set_s, if_true, if_false, not_true_eq_false, not_false_eq_true, pj_up_up, pj_up_sort, pj_up_ap, pj_upd_ap, pj_a3_0, pj_a3_1, pj_a3_2, pj_a3_u0, pj_a3_u1, pj_a3_u2, c3]
    exact t108_36
  rw [if_neg c3]
  have hin : sp_in w.toInt64 0 5 = if 0 ≤ w ∧ w ≤ 5 then 1 else 0 := sp_in_i (by decide) (by decide)
  by_cases c4 : 0 ≤ w ∧ w ≤ 5
  · rw [if_pos c4]
    rw [if_pos c4] at hin
    obtain ⟨x0, x1, x2, hT⟩ := m_on_ex (f := x.1) (c := c) (b0 := b0) (b1 := b1) (b2 := b2) hn hrec
    have htl := sp_tick_tail (g := pj_a3 b0 b1 b2) (c := c) hn hrec h152
    unfold op_if
    generalize sp_tick x.1 (pj_a3 b0 b1 b2) c = F at hT htl ⊢
    generalize tk_fi x.1 (pj_a3 b0 b1 b2) c = v at hT ⊢
    generalize tk_lo x.1 (pj_a3 b0 b1 b2) c = y at hT ⊢
    generalize tk_hi x.1 (pj_a3 b0 b1 b2) c = z at hT ⊢
    generalize tk_m x.1 (pj_a3 b0 b1 b2) = m at hT ⊢
    have hb := va_cpy_back (k := va_cpy x.1 k 0 0 152) htl h152 (fun j hj => va_cpy_lt hj)
    refine ⟨pj_up (pj_up (pj_up (pj_up (pj_up H 109 (pj_mo (nI x.2.1) m y z v (nI x.2.2.2.2.2.1) sp nu ic td)) 110 (.inr (0, 152, .inl x.1))) 111 (.inr (0, 152, .inl (va_cpy x.1 k 0 0 152)))) 115 (.inr (0, 3, .inl (pj_a3 b0 b1 b2)))) 116 (.inr (0, 3, .inl (pj_a3 x0 x1 x2))), ⟨va_cpy x.1 k 0 0 152, hs0, sl0, b0, b1, b2, x0, x1, x2, m, y, z, v, sp, nu, ic, td, ⟨(by (try simp (disch := decide) only [simprocAttr, pj_up_ap, if_true, if_false, pj_mo, hm, hf, hk, hh, hs, hv, hg, hA, hp]) <;> rfl), (by (try simp (disch := decide) only [simprocAttr, pj_up_ap, if_true, if_false, pj_mo, hm, hf, hk, hh, hs, hv, hg, hA, hp]) <;> rfl), (by (try simp (disch := decide) only [simprocAttr, pj_up_ap, if_true, if_false, pj_mo, hm, hf, hk, hh, hs, hv, hg, hA, hp]) <;> rfl), (by (try simp (disch := decide) only [simprocAttr, pj_up_ap, if_true, if_false, pj_mo, hm, hf, hk, hh, hs, hv, hg, hA, hp]) <;> rfl), (by (try simp (disch := decide) only [simprocAttr, pj_up_ap, if_true, if_false, pj_mo, hm, hf, hk, hh, hs, hv, hg, hA, hp]) <;> rfl), (by (try simp (disch := decide) only [simprocAttr, pj_up_ap, if_true, if_false, pj_mo, hm, hf, hk, hh, hs, hv, hg, hA, hp]) <;> rfl), (by (try simp (disch := decide) only [simprocAttr, pj_up_ap, if_true, if_false, pj_mo, hm, hf, hk, hh, hs, hv, hg, hA, hp]) <;> rfl), (by (try simp (disch := decide) only [simprocAttr, pj_up_ap, if_true, if_false, pj_mo, hm, hf, hk, hh, hs, hv, hg, hA, hp]) <;> rfl), (by (try simp (disch := decide) only [simprocAttr, pj_up_ap, if_true, if_false, pj_mo, hm, hf, hk, hh, hs, hv, hg, hA, hp]) <;> rfl)⟩, hr⟩, (by intro j hj; repeat rw [pj_up_lo hj (by decide)]), ?_⟩
    simp (disch := first | assumption | exact pj_long_i | exact pj_long_r | exact pj_long_n | decide) only [x108_0, simprocAttr, pj_then_s, pj_pv_s, pj_pi_s, pj_set_s, if_true, if_false, not_true_eq_false, not_false_eq_true, pj_up_up, pj_up_sort, pj_up_ap, pj_upd_ap, pj_a3_0, pj_a3_1, pj_a3_2, pj_a3_u0, pj_a3_u1, pj_a3_u2]
    refine e108_1 rfl m_isReading ?_
    simp (disch := first | assumption | exact pj_long_i | exact pj_long_r | exact pj_long_n | decide) only [x108_4, x108_7, simprocAttr, pj_then_s, pj_pv_s, pj_pi_s, pj_set_s, if_true, if_false, not_true_eq_false, not_false_eq_true, pj_up_up, pj_up_sort, pj_up_ap, pj_upd_ap, pj_a3_0, pj_a3_1, pj_a3_2, pj_a3_u0, pj_a3_u1, pj_a3_u2, c1]
    refine e108_8 rfl m_isReading ?_
    simp (disch := first | assumption | exact pj_long_i | exact pj_long_r | exact pj_long_n | decide) only [x108_11, x108_14, simprocAttr, pj_then_s, pj_pv_s, pj_pi_s, pj_set_s, if_true, if_false, not_true_eq_false, not_false_eq_true, pj_up_up, pj_up_sort, pj_up_ap, pj_upd_ap, pj_a3_0, pj_a3_1, pj_a3_2, pj_a3_u0, pj_a3_u1, pj_a3_u2, c2]
    refine e108_15 rfl m_isReading ?_
    simp (disch := first | assumption | exact pj_long_i | exact pj_long_r | exact pj_long_n | decide) only [x108_18, x108_21, x108_23, x108_24, x108_25, simprocAttr, pj_then_s, pj_pv_s, pj_pi_s, pj_set_s, if_true, if_false, not_true_eq_false, not_false_eq_true, pj_up_up, pj_up_sort, pj_up_ap, pj_upd_ap, pj_a3_0, pj_a3_1, pj_a3_2, pj_a3_u0, pj_a3_u1, pj_a3_u2, c3]
    refine e108_28 rfl m_in ?_
    simp (disch := first | assumption | exact pj_long_i | exact pj_long_r | exact pj_long_n | decide) only [x108_31, x108_34, x108_37, simprocAttr, pj_then_s, pj_pv_s, pj_pi_s, pj_set_s, if_true, if_false, not_true_eq_false, not_false_eq_true, pj_up_up, pj_up_sort, pj_up_ap, pj_upd_ap, pj_a3_0, pj_a3_1, pj_a3_2, pj_a3_u0, pj_a3_u1, pj_a3_u2, hin]
    refine e108_38 rfl (by first | (rw [hm]; rfl) | (simp only [simprocAttr, pj_up_ap, if_true, if_false, hm, pj_mo]; rfl)) (m_keep hm hf hk) ?_
    simp (disch := first | assumption | exact pj_long_i | exact pj_long_r | exact pj_long_n | decide) only [x108_41, x108_42, x108_43, x108_44, simprocAttr, pj_then_s, pj_pv_s, pj_pi_s, pj_set_s, if_true, if_false, not_true_eq_false, not_false_eq_true, pj_up_up, pj_up_sort, pj_up_ap, pj_upd_ap, pj_a3_0, pj_a3_1, pj_a3_2, pj_a3_u0, pj_a3_u1, pj_a3_u2]
    refine e108_45 rfl (by first | (rw [hm]; rfl) | (simp only [simprocAttr, pj_up_ap, if_true, if_false, hm, pj_mo]; rfl)) (m_lays (mid := mid) (lo := lo) (hi := hi) (fi := fi) (pl := nI x.2.2.2.2.2.1) (sp := sp) (nu := nu) (ic := ic) (td := td) (hl := nI x.2.1) (r0 := r0) (r1 := r1) (r2 := r2) (by (try simp (disch := decide) only [simprocAttr, pj_up_ap, if_true, if_false, pj_mo, hm, hg]) <;> rfl) (by (try simp (disch := decide) only [simprocAttr, pj_up_ap, if_true, if_false, pj_mo, hm, hg]) <;> rfl)) ?_
    simp (disch := first | assumption | exact pj_long_i | exact pj_long_r | exact pj_long_n | decide) only [x108_48, x108_49, simprocAttr, pj_then_s, pj_pv_s, pj_pi_s, pj_set_s, if_true, if_false, not_true_eq_false, not_false_eq_true, pj_up_up, pj_up_sort, pj_up_ap, pj_upd_ap, pj_a3_0, pj_a3_1, pj_a3_2, pj_a3_u0, pj_a3_u1, pj_a3_u2]
    refine e108_51 rfl (by first | (rw [hm]; rfl) | (simp only [simprocAttr, pj_up_ap, if_true, if_false, hm, pj_mo]; rfl)) (hT _ _ _ (nI x.2.1) mid lo hi fi (nI x.2.2.2.2.2.1) sp nu ic td a0 a1 a2 (by (try simp (disch := decide) only [simprocAttr, pj_up_ap, if_true, if_false, pj_mo, hm, hf]) <;> rfl) (by (try simp (disch := decide) only [simprocAttr, pj_up_ap, if_true, if_false, pj_mo, hm, hf]) <;> rfl) (by (try simp (disch := decide) only [simprocAttr, pj_up_ap, if_true, if_false, pj_mo, hm]) <;> rfl) (by (try simp (disch := decide) only [simprocAttr, pj_up_ap, if_true, if_false, pj_mo, hA]) <;> rfl)) ?_
    simp (disch := first | assumption | exact pj_long_i | exact pj_long_r | exact pj_long_n | decide) only [x108_54, simprocAttr, pj_then_s, pj_pv_s, pj_pi_s, pj_set_s, if_true, if_false, not_true_eq_false, not_false_eq_true, pj_up_up, pj_up_sort, pj_up_ap, pj_upd_ap, pj_a3_0, pj_a3_1, pj_a3_2, pj_a3_u0, pj_a3_u1, pj_a3_u2]
    refine e108_55 rfl (by first | (rw [hm]; rfl) | (simp only [simprocAttr, pj_up_ap, if_true, if_false, hm, pj_mo]; rfl)) (m_voters (f := F) (mid := m) (lo := y) (hi := z) (fi := v) (pl := nI x.2.2.2.2.2.1) (sp := sp) (nu := nu) (ic := ic) (td := td) (hl := nI x.2.1) (by (try simp (disch := decide) only [simprocAttr, pj_up_ap, if_true, if_false, pj_mo, hm]) <;> rfl) (by (try simp (disch := decide) only [simprocAttr, pj_up_ap, if_true, if_false, pj_mo, hm]) <;> rfl)) ?_
    have K0 : ∀ q, q = (if F 7 ≤ 0 then 0 else 1) → pj_Ends 108 (77, [some (.ref 109), some (.int b0), some (.int b1), some (.int b2), some (.int c), some (.int w), some (.int (sp_vot F)), some (.int q)], [], (N, S, pj_up (pj_up (pj_up (pj_up (pj_up H 109 (pj_mo (nI x.2.1) m y z v (nI x.2.2.2.2.2.1) sp nu ic td)) 110 (.inr (0, 152, .inl F))) 111 (.inr (0, 152, .inl (va_cpy x.1 k 0 0 152)))) 115 (.inr (0, 3, .inl (pj_a3 b0 b1 b2)))) 116 (.inr (0, 3, .inl (pj_a3 x0 x1 x2))))) (some (.int (if w = 0 then v else if w = 1 then m + 100000 else if w = 2 then sp_vot F else if w = 3 then y else if w = 4 then z else (if F 7 ≤ 0 then 0 else 1))), (N, S, pj_up (pj_up (pj_up (pj_up (pj_up H 109 (pj_mo (nI x.2.1) m y z v (nI x.2.2.2.2.2.1) sp nu ic td)) 110 (.inr (0, 152, .inl x.1))) 111 (.inr (0, 152, .inl (va_cpy x.1 k 0 0 152)))) 115 (.inr (0, 3, .inl (pj_a3 b0 b1 b2)))) 116 (.inr (0, 3, .inl (pj_a3 x0 x1 x2))))) := by
      intro q hq
      rw [← hq]
      simp (disch := first | assumption | exact pj_long_i | exact pj_long_r | exact pj_long_n | decide) only [x108_77, simprocAttr, pj_then_s, pj_pv_s, pj_pi_s, pj_set_s, if_true, if_false, not_true_eq_false, not_false_eq_true, pj_up_up, pj_up_sort, pj_up_ap, pj_upd_ap, pj_a3_0, pj_a3_1, pj_a3_2, pj_a3_u0, pj_a3_u1, pj_a3_u2]
      refine e108_78 rfl (by first | (rw [hm]; rfl) | (simp only [simprocAttr, pj_up_ap, if_true, if_false, hm, pj_mo]; rfl)) (m_giveBack (f := va_cpy x.1 k 0 0 152) (g := F) (mid := m) (lo := y) (hi := z) (fi := v) (pl := nI x.2.2.2.2.2.1) (sp := sp) (nu := nu) (ic := ic) (td := td) (hl := nI x.2.1) (by (try simp (disch := decide) only [simprocAttr, pj_up_ap, if_true, if_false, pj_mo, hm]) <;> rfl) (by (try simp (disch := decide) only [simprocAttr, pj_up_ap, if_true, if_false, pj_mo, hm]) <;> rfl) (by (try simp (disch := decide) only [simprocAttr, pj_up_ap, if_true, if_false, pj_mo, hm]) <;> rfl)) ?_
      rw [hb]
      by_cases w0 : w = 0
      · subst w0
        simp (disch := first | assumption | exact pj_long_i | exact pj_long_r | exact pj_long_n | decide) only [x108_81, x108_83, x108_86, x108_87, x108_90, x108_93, x108_95, x108_96, x108_99, x108_100, x108_103, x108_105, x108_106, x108_109, x108_111, x108_112, x108_115, x108_117, x108_120, x108_122, x108_123, x108_126, x108_127, x108_130, x108_133, x108_135, x108_136, x108_139, x108_140, x108_143, x108_146, simprocAttr, pj_then_s, pj_pv_s, pj_pi_s, pj_set_s, if_true, if_false, not_true_eq_false, not_false_eq_true, pj_up_up, pj_up_sort, pj_up_ap, pj_upd_ap, pj_a3_0, pj_a3_1, pj_a3_2, pj_a3_u0, pj_a3_u1, pj_a3_u2, pj_f6_11, pj_f6_8, pj_f6_9, pj_f6_10, pj_mo]
        exact t108_148
      by_cases w1 : w = 1
      · subst w1
        simp (disch := first | assumption | exact pj_long_i | exact pj_long_r | exact pj_long_n | decide) only [x108_81, x108_83, x108_86, x108_87, x108_90, x108_93, x108_95, x108_96, x108_99, x108_100, x108_103, x108_105, x108_106, x108_109, x108_111, x108_112, x108_115, x108_117, x108_120, x108_122, x108_123, x108_126, x108_127, x108_130, x108_133, x108_135, x108_136, x108_139, x108_140, x108_143, x108_146, simprocAttr, pj_then_s, pj_pv_s, pj_pi_s, pj_set_s, if_true, if_false, not_true_eq_false, not_false_eq_true, pj_up_up, pj_up_sort, pj_up_ap, pj_upd_ap, pj_a3_0, pj_a3_1, pj_a3_2, pj_a3_u0, pj_a3_u1, pj_a3_u2, pj_f6_11, pj_f6_8, pj_f6_9, pj_f6_10, pj_mo]
        exact t108_148
      by_cases w2 : w = 2
      · subst w2
        simp (disch := first | assumption | exact pj_long_i | exact pj_long_r | exact pj_long_n | decide) only [x108_81, x108_83, x108_86, x108_87, x108_90, x108_93, x108_95, x108_96, x108_99, x108_100, x108_103, x108_105, x108_106, x108_109, x108_111, x108_112, x108_115, x108_117, x108_120, x108_122, x108_123, x108_126, x108_127, x108_130, x108_133, x108_135, x108_136, x108_139, x108_140, x108_143, x108_146, simprocAttr, pj_then_s, pj_pv_s, pj_pi_s, pj_set_s, if_true, if_false, not_true_eq_false, not_false_eq_true, pj_up_up, pj_up_sort, pj_up_ap, pj_upd_ap, pj_a3_0, pj_a3_1, pj_a3_2, pj_a3_u0, pj_a3_u1, pj_a3_u2, pj_f6_11, pj_f6_8, pj_f6_9, pj_f6_10, pj_mo]
        exact t108_148
      by_cases w3 : w = 3
      · subst w3
        simp (disch := first | assumption | exact pj_long_i | exact pj_long_r | exact pj_long_n | decide) only [x108_81, x108_83, x108_86, x108_87, x108_90, x108_93, x108_95, x108_96, x108_99, x108_100, x108_103, x108_105, x108_106, x108_109, x108_111, x108_112, x108_115, x108_117, x108_120, x108_122, x108_123, x108_126, x108_127, x108_130, x108_133, x108_135, x108_136, x108_139, x108_140, x108_143, x108_146, simprocAttr, pj_then_s, pj_pv_s, pj_pi_s, pj_set_s, if_true, if_false, not_true_eq_false, not_false_eq_true, pj_up_up, pj_up_sort, pj_up_ap, pj_upd_ap, pj_a3_0, pj_a3_1, pj_a3_2, pj_a3_u0, pj_a3_u1, pj_a3_u2, pj_f6_11, pj_f6_8, pj_f6_9, pj_f6_10, pj_mo]
        exact t108_148
      by_cases w4 : w = 4
      · subst w4
        simp (disch := first | assumption | exact pj_long_i | exact pj_long_r | exact pj_long_n | decide) only [x108_81, x108_83, x108_86, x108_87, x108_90, x108_93, x108_95, x108_96, x108_99, x108_100, x108_103, x108_105, x108_106, x108_109, x108_111, x108_112, x108_115, x108_117, x108_120, x108_122, x108_123, x108_126, x108_127, x108_130, x108_133, x108_135, x108_136, x108_139, x108_140, x108_143, x108_146, simprocAttr, pj_then_s, pj_pv_s, pj_pi_s, pj_set_s, if_true, if_false, not_true_eq_false, not_false_eq_true, pj_up_up, pj_up_sort, pj_up_ap, pj_upd_ap, pj_a3_0, pj_a3_1, pj_a3_2, pj_a3_u0, pj_a3_u1, pj_a3_u2, pj_f6_11, pj_f6_8, pj_f6_9, pj_f6_10, pj_mo]
        exact t108_148
      simp (disch := first | assumption | exact pj_long_i | exact pj_long_r | exact pj_long_n | decide) only [x108_81, x108_83, x108_86, x108_87, x108_90, x108_93, x108_95, x108_96, x108_99, x108_100, x108_103, x108_105, x108_106, x108_109, x108_111, x108_112, x108_115, x108_117, x108_120, x108_122, x108_123, x108_126, x108_127, x108_130, x108_133, x108_135, x108_136, x108_139, x108_140, x108_143, x108_146, simprocAttr, pj_then_s, pj_pv_s, pj_pi_s, pj_set_s, if_true, if_false, not_true_eq_false, not_false_eq_true, pj_up_up, pj_up_sort, pj_up_ap, pj_upd_ap, pj_a3_0, pj_a3_1, pj_a3_2, pj_a3_u0, pj_a3_u1, pj_a3_u2, pj_f6_11, pj_f6_8, pj_f6_9, pj_f6_10, pj_mo, w0, w1, w2, w3, w4]
      exact t108_148
    by_cases c7 : F 7 ≤ 0
    · simp (disch := first | assumption | exact pj_long_i | exact pj_long_r | exact pj_long_n | decide) only [x108_58, x108_60, x108_61, x108_64, x108_66, x108_67, x108_70, x108_71, x108_74, x108_75, simprocAttr, pj_then_s, pj_pv_s, pj_pi_s, pj_set_s, if_true, if_false, not_true_eq_false, not_false_eq_true, pj_up_up, pj_up_sort, pj_up_ap, pj_upd_ap, pj_a3_0, pj_a3_1, pj_a3_2, pj_a3_u0, pj_a3_u1, pj_a3_u2, pj_long_i, pj_long_r, pj_long_n, pj_f6_0, pj_arl_i, pj_mo, c7]
      have K1 := K0 0 (if_pos c7).symm
      rw [if_pos c7] at K1
      exact K1
    · simp (disch := first | assumption | exact pj_long_i | exact pj_long_r | exact pj_long_n | decide) only [x108_58, x108_60, x108_61, x108_64, x108_66, x108_67, x108_70, x108_71, x108_74, x108_75, simprocAttr, pj_then_s, pj_pv_s, pj_pi_s, pj_set_s, if_true, if_false, not_true_eq_false, not_false_eq_true, pj_up_up, pj_up_sort, pj_up_ap, pj_upd_ap, pj_a3_0, pj_a3_1, pj_a3_2, pj_a3_u0, pj_a3_u1, pj_a3_u2, pj_long_i, pj_long_r, pj_long_n, pj_f6_0, pj_arl_i, pj_mo, c7]
      have K1 := K0 1 (if_neg c7).symm
      rw [if_neg c7] at K1
      exact K1
  · rw [if_neg c4]
    rw [if_neg c4] at hin
    refine pj_Mo_same hM' ?_
    simp (disch := first | assumption | exact pj_long_i | exact pj_long_r | exact pj_long_n | decide) only [x108_0, simprocAttr, pj_then_s, pj_pv_s, pj_pi_s, pj_set_s, if_true, if_false, not_true_eq_false, not_false_eq_true, pj_up_up, pj_up_sort, pj_up_ap, pj_upd_ap, pj_a3_0, pj_a3_1, pj_a3_2, pj_a3_u0, pj_a3_u1, pj_a3_u2]
    refine e108_1 rfl m_isReading ?_
    simp (disch := first | assumption | exact pj_long_i | exact pj_long_r | exact pj_long_n | decide) only [x108_4, x108_7, simprocAttr, pj_then_s, pj_pv_s, pj_pi_s, pj_set_s, if_true, if_false, not_true_eq_false, not_false_eq_true, pj_up_up, pj_up_sort, pj_up_ap, pj_upd_ap, pj_a3_0, pj_a3_1, pj_a3_2, pj_a3_u0, pj_a3_u1, pj_a3_u2, c1]
    refine e108_8 rfl m_isReading ?_
    simp (disch := first | assumption | exact pj_long_i | exact pj_long_r | exact pj_long_n | decide) only [x108_11, x108_14, simprocAttr, pj_then_s, pj_pv_s, pj_pi_s, pj_set_s, if_true, if_false, not_true_eq_false, not_false_eq_true, pj_up_up, pj_up_sort, pj_up_ap, pj_upd_ap, pj_a3_0, pj_a3_1, pj_a3_2, pj_a3_u0, pj_a3_u1, pj_a3_u2, c2]
    refine e108_15 rfl m_isReading ?_
    simp (disch := first | assumption | exact pj_long_i | exact pj_long_r | exact pj_long_n | decide) only [x108_18, x108_21, x108_23, x108_24, x108_25, simprocAttr, pj_then_s, pj_pv_s, pj_pi_s, pj_set_s, if_true, if_false, not_true_eq_false, not_false_eq_true, pj_up_up, pj_up_sort, pj_up_ap, pj_upd_ap, pj_a3_0, pj_a3_1, pj_a3_2, pj_a3_u0, pj_a3_u1, pj_a3_u2, c3]
    refine e108_28 rfl m_in ?_
    simp (disch := first | assumption | exact pj_long_i | exact pj_long_r | exact pj_long_n | decide) only [x108_31, x108_34, simprocAttr, pj_then_s, pj_pv_s, pj_pi_s, pj_set_s, if_true, if_false, not_true_eq_false, not_false_eq_true, pj_up_up, pj_up_sort, pj_up_ap, pj_upd_ap, pj_a3_0, pj_a3_1, pj_a3_2, pj_a3_u0, pj_a3_u1, pj_a3_u2, hin]
    exact t108_36
/-- the least reading: so many readings are left -/
def op_lr (f : Nat → Int32) (a c : Int32) : Nat → Nat → Int32
  | 0, _ => -6
  | n + 1, i => if tk_fi f (pj_a3 (nI i - 500) (nI i - 500) (nI i - 500)) c >>> (a &&& 31) &&& 1 = 1 then nI i - 500 + 100000 else op_lr f a c n (i + 1)
def op_leastReading (f : Nat → Int32) (a c : Int32) : Int32 := if sp_th a = 0 then -1 else op_lr f a c 1001 0
theorem pj_rv {i : Nat} (h : i < 1001) : (nI i - 500).toInt = i - 500 := by
  have e : nI i - 500 = Int32.ofInt ((i : Int) - 500) := by
    rw [Int32.ofInt_sub, Int32.ofInt_eq_ofNat]
    rfl
  rw [e, Int32.toInt_ofInt_of_le (by have : (Int32.size : Int) = 4294967296 := rfl; omega) (by have : (Int32.size : Int) = 4294967296 := rfl; omega)]
theorem pj_rv_rd {i : Nat} (h : i < 1001) : sp_rd (nI i - 500) = 1 := by
  unfold sp_rd
  rw [if_pos]
  rw [Int32.le_iff_toInt_le, Int32.le_iff_toInt_le, pj_rv h]
  have e0 : (-500 : Int32).toInt = -500 := rfl
  have e1 : (500 : Int32).toInt = 500 := rfl
  omega
theorem pj_rv_le {i : Nat} (h : i < 1001) : ¬ 500 < nI i - 500 := by
  rw [Int32.lt_iff_toInt_lt, pj_rv h]
  have e1 : (500 : Int32).toInt = 500 := rfl
  omega
theorem pj_rv_s (i : Nat) : nI i - 500 + 1 = nI (i + 1) - 500 := by
  rw [← nI_1, Int32.sub_eq_add_neg, Int32.sub_eq_add_neg, Int32.add_assoc, Int32.add_assoc, Int32.add_comm (-500) 1]
theorem m_lr_l {x : pj_Sg} {a c : Int32} (hx : pj_In x) : ∀ (n i N S : Nat) (H : pj_Heap), i + n = 1001 → pj_M H x → ∃ H', pj_M H' x ∧ (∀ j, j < 109 → H' j = H j) ∧ pj_Ends 110 (13, [some (.ref 109), some (.int a), some (.int c), some (.int (nI i - 500))], [], (N, S, H)) (some (.int (op_lr x.1 a c n i)), (N, S, H')) := by
  intro n
  induction n with
  | zero =>
    intro i N S H hi hM
    obtain rfl : i = 1001 := by omega
    refine ⟨H, hM, fun _ _ => rfl, ?_⟩
    have c1 : (500 : Int32) < nI 1001 - 500 := by decide
    unfold op_lr
    simp (disch := first | assumption | exact pj_long_i | exact pj_long_r | exact pj_long_n | decide) only [x110_13, x110_14, x110_17, x110_20, x110_21, x110_22, x110_23, x110_24, x110_25, x110_29, x110_30, x110_31, x110_32, x110_33, x110_34, x110_37, x110_38, x110_40, x110_42, x110_45, x110_48, simprocAttr, pj_then_s, pj_pv_s, pj_pi_s, pj_set_s, if_true, if_false, not_true_eq_false, not_false_eq_true, pj_up_up, pj_up_sort, pj_up_ap, pj_upd_ap, pj_a3_0, pj_a3_1, pj_a3_2, pj_a3_u0, pj_a3_u1, pj_a3_u2, pj_long_i, pj_long_r, pj_long_n, c1]
    exact t110_50
  | succ n ih =>
    intro i N S H hi hM
    have h1 := pj_rv_rd (i := i) (by omega)
    have h2 := pj_rv_le (i := i) (by omega)
    have h3 := pj_rv_s i
    have hop : op_ifTick x.1 (nI i - 500) (nI i - 500) (nI i - 500) c 0 = tk_fi x.1 (pj_a3 (nI i - 500) (nI i - 500) (nI i - 500)) c := by
      unfold op_ifTick op_if
      rw [h1, if_neg (by decide), if_neg (by decide), if_neg (by decide), if_pos (by decide), if_pos rfl]
    obtain ⟨H1, q1, q2, q3⟩ := M_ifTick (N := N) (S := S) (b0 := nI i - 500) (b1 := nI i - 500) (b2 := nI i - 500) (c := c) (w := 0) hx hM
    have hcl : ∃ hl mid lo hi fi pl sp nu ic td, H 109 = pj_mo hl mid lo hi fi pl sp nu ic td := by
      obtain ⟨k, hs0, sl0, r0, r1, r2, a0, a1, a2, mid, lo, hi, fi, sp, nu, ic, td, ⟨hm, hf, hk, hh, hs, hv, hg, hA, hp⟩, hr⟩ := hM
      exact ⟨_, _, _, _, _, _, _, _, _, _, hm⟩
    obtain ⟨hl, mid, lo, hi9, fi, pl, sp, nu, ic, td, hm⟩ := hcl
    simp only [hop] at q3
    unfold op_lr
    by_cases c1 : tk_fi x.1 (pj_a3 (nI i - 500) (nI i - 500) (nI i - 500)) c >>> (a &&& 31) &&& 1 = 1
    · refine ⟨H1, q1, q2, ?_⟩
      simp (disch := first | assumption | exact pj_long_i | exact pj_long_r | exact pj_long_n | decide) only [x110_13, x110_14, x110_17, x110_20, x110_21, x110_22, x110_23, x110_24, x110_25, simprocAttr, pj_then_s, pj_pv_s, pj_pi_s, pj_set_s, if_true, if_false, not_true_eq_false, not_false_eq_true, pj_up_up, pj_up_sort, pj_up_ap, pj_upd_ap, pj_a3_0, pj_a3_1, pj_a3_2, pj_a3_u0, pj_a3_u1, pj_a3_u2, h2]
      refine e110_26 rfl (by first | (rw [hm]; rfl) | (simp only [simprocAttr, pj_up_ap, if_true, if_false, hm, pj_mo]; rfl)) q3 ?_
      rw [if_pos c1]
      simp (disch := first | assumption | exact pj_long_i | exact pj_long_r | exact pj_long_n | decide) only [x110_29, x110_30, x110_31, x110_32, x110_33, x110_34, x110_37, x110_38, x110_40, simprocAttr, pj_then_s, pj_pv_s, pj_pi_s, pj_set_s, if_true, if_false, not_true_eq_false, not_false_eq_true, pj_up_up, pj_up_sort, pj_up_ap, pj_upd_ap, pj_a3_0, pj_a3_1, pj_a3_2, pj_a3_u0, pj_a3_u1, pj_a3_u2, c1]
      exact t110_41
    · obtain ⟨H2, p1, p2, p3⟩ := ih (i + 1) N S H1 (by omega) q1
      refine ⟨H2, p1, fun j hj => by rw [p2 j hj, q2 j hj], ?_⟩
      rw [x110_13]
      simp (disch := first | assumption | exact pj_long_i | exact pj_long_r | exact pj_long_n | decide) only [x110_14, x110_17, x110_20, x110_21, x110_22, x110_23, x110_24, x110_25, simprocAttr, pj_then_s, pj_pv_s, pj_pi_s, pj_set_s, if_true, if_false, not_true_eq_false, not_false_eq_true, pj_up_up, pj_up_sort, pj_up_ap, pj_upd_ap, pj_a3_0, pj_a3_1, pj_a3_2, pj_a3_u0, pj_a3_u1, pj_a3_u2, h2]
      refine e110_26 rfl (by first | (rw [hm]; rfl) | (simp only [simprocAttr, pj_up_ap, if_true, if_false, hm, pj_mo]; rfl)) q3 ?_
      rw [if_neg c1]
      simp (disch := first | assumption | exact pj_long_i | exact pj_long_r | exact pj_long_n | decide) only [x110_29, x110_30, x110_31, x110_32, x110_33, x110_34, x110_37, x110_38, x110_40, x110_42, x110_45, simprocAttr, pj_then_s, pj_pv_s, pj_pi_s, pj_set_s, if_true, if_false, not_true_eq_false, not_false_eq_true, pj_up_up, pj_up_sort, pj_up_ap, pj_upd_ap, pj_a3_0, pj_a3_1, pj_a3_2, pj_a3_u0, pj_a3_u1, pj_a3_u2, pj_long_i, pj_long_r, pj_long_n, c1, h3]
      exact p3
theorem M_leastReading {N S : Nat} {H : pj_Heap} {x : pj_Sg} {a c : Int32} (hx : pj_In x) (hM : pj_M H x) : pj_Mo N S H 110 [some (.ref 109), some (.int a), some (.int c), none] (x, op_leastReading x.1 a c) := by
  unfold op_leastReading
  by_cases c1 : sp_th a = 0
  · rw [if_pos c1]
    refine pj_Mo_same hM ?_
    simp (disch := first | assumption | exact pj_long_i | exact pj_long_r | exact pj_long_n | decide) only [x110_0, simprocAttr, pj_then_s, pj_pv_s, pj_pi_s, pj_set_s, if_true, if_false, not_true_eq_false, not_false_eq_true, pj_up_up, pj_up_sort, pj_up_ap, pj_upd_ap, pj_a3_0, pj_a3_1, pj_a3_2, pj_a3_u0, pj_a3_u1, pj_a3_u2]
    refine e110_1 rfl m_isThree ?_
    simp (disch := first | assumption | exact pj_long_i | exact pj_long_r | exact pj_long_n | decide) only [x110_4, x110_7, simprocAttr, pj_then_s, pj_pv_s, pj_pi_s, pj_set_s, if_true, if_false, not_true_eq_false, not_false_eq_true, pj_up_up, pj_up_sort, pj_up_ap, pj_upd_ap, pj_a3_0, pj_a3_1, pj_a3_2, pj_a3_u0, pj_a3_u1, pj_a3_u2, c1]
    exact t110_8
  rw [if_neg c1]
  obtain ⟨H1, q1, q2, q3⟩ := m_lr_l (a := a) (c := c) hx 1001 0 N S H rfl hM
  refine ⟨H1, q1, q2, ?_⟩
  have e0 : nI 0 - 500 = -500 := rfl
  rw [e0] at q3
  simp (disch := first | assumption | exact pj_long_i | exact pj_long_r | exact pj_long_n | decide) only [x110_0, simprocAttr, pj_then_s, pj_pv_s, pj_pi_s, pj_set_s, if_true, if_false, not_true_eq_false, not_false_eq_true, pj_up_up, pj_up_sort, pj_up_ap, pj_upd_ap, pj_a3_0, pj_a3_1, pj_a3_2, pj_a3_u0, pj_a3_u1, pj_a3_u2]
  refine e110_1 rfl m_isThree ?_
  simp (disch := first | assumption | exact pj_long_i | exact pj_long_r | exact pj_long_n | decide) only [x110_4, x110_7, x110_9, x110_12, simprocAttr, pj_then_s, pj_pv_s, pj_pi_s, pj_set_s, if_true, if_false, not_true_eq_false, not_false_eq_true, pj_up_up, pj_up_sort, pj_up_ap, pj_upd_ap, pj_a3_0, pj_a3_1, pj_a3_2, pj_a3_u0, pj_a3_u1, pj_a3_u2, pj_long_i, pj_long_r, pj_long_n, c1]
  exact q3
/-- so many ticks ahead are left -/
def op_tt (g : Nat → Int32) (s : Nat) : Nat → Nat → (Nat → Int32) → Int32
  | 0, n, f => if f (23 + s) = -6 then -6 else nI n
  | m + 1, n, f => if f (23 + s) = -6 then op_tt g s m (n + 1) (sp_tick f g 1) else nI n
def op_ticksTo (f : Nat → Int32) (a r : Int32) : Int32 := if sp_th a = 0 then -1 else if sp_rd r = 0 then -2 else op_tt (pj_a3 r r r) a.toNatClampNeg 50 0 f
theorem m_tt_e0 {x : pj_Sg} {r : Int32} {n : Nat} {f k hs sl : Nat → Int32} {r0 r1 r2 a0 a1 a2 mid lo hi fi sp nu ic td : Int32} {N S : Nat} {H : pj_Heap} (hx : pj_In x) (hf0 : ∀ j, 152 ≤ j → f j = 0) (hc : pj_MC H f k hs sl x.2.2.2.2.1 x.2.2.2.2.2.2 x.2.1 x.2.2.2.2.2.1 r0 r1 r2 a0 a1 a2 mid lo hi fi sp nu ic td) (hr : pj_MR x.2.1 x.2.2.1 x.2.2.2.1 x.2.2.2.2.1 hs sl) (hk : ∀ j, j < 152 → k j = x.1 j) :
    ∃ H', pj_M H' x ∧ (∀ j, j < 109 → H' j = H j) ∧ pj_Ends 111 (63, [some (.ref 109), some (.int 0), some (.int r), some (.int (nI n)), none], [], (N, S, H)) (some (.int (if f 23 = -6 then -6 else nI n)), (N, S, H')) := by
  obtain ⟨t, ht, h152, hRo⟩ := hx.1
  obtain ⟨hm, hf, hk', hh, hs', hv, hg, hA, hp⟩ := hc
  have hb := va_cpy_back hf0 h152 hk
  have h1 := m_giveBack hm hk' hf (N := N) (S := S)
  rw [hb] at h1
  refine ⟨pj_up H 110 (.inr (0, 152, .inl x.1)), ⟨k, hs, sl, r0, r1, r2, a0, a1, a2, mid, lo, hi, fi, sp, nu, ic, td, ⟨(by (try simp (disch := decide) only [simprocAttr, pj_up_ap, if_true, if_false, pj_mo, hm]) <;> rfl), (by (try simp (disch := decide) only [simprocAttr, pj_up_ap, if_true, if_false, pj_mo, hm]) <;> rfl), (by (try simp (disch := decide) only [simprocAttr, pj_up_ap, if_true, if_false, pj_mo, hk']) <;> rfl), (by (try simp (disch := decide) only [simprocAttr, pj_up_ap, if_true, if_false, pj_mo, hh]) <;> rfl), (by (try simp (disch := decide) only [simprocAttr, pj_up_ap, if_true, if_false, pj_mo, hs']) <;> rfl), (by (try simp (disch := decide) only [simprocAttr, pj_up_ap, if_true, if_false, pj_mo, hv]) <;> rfl), (by (try simp (disch := decide) only [simprocAttr, pj_up_ap, if_true, if_false, pj_mo, hg]) <;> rfl), (by (try simp (disch := decide) only [simprocAttr, pj_up_ap, if_true, if_false, pj_mo, hA]) <;> rfl), (by (try simp (disch := decide) only [simprocAttr, pj_up_ap, if_true, if_false, pj_mo, hp]) <;> rfl)⟩, hr⟩, (by intro j hj; repeat rw [pj_up_lo hj (by decide)]), ?_⟩
  by_cases c1 : f 23 = -6
  · rw [if_pos c1]
    simp (disch := first | assumption | exact pj_long_i | exact pj_long_r | exact pj_long_n | decide) only [x111_63, x111_64, x111_67, x111_69, x111_70, x111_71, x111_72, x111_74, x111_77, x111_78, x111_81, x111_82, x111_84, simprocAttr, pj_then_s, pj_pv_s, pj_pi_s, pj_set_s, if_true, if_false, not_true_eq_false, not_false_eq_true, pj_up_up, pj_up_sort, pj_up_ap, pj_upd_ap, pj_a3_0, pj_a3_1, pj_a3_2, pj_a3_u0, pj_a3_u1, pj_a3_u2, pj_f6_0, pj_arl_i, pj_long_i, pj_long_r, pj_long_n, hm, hf, pj_mo, c1]
    refine e111_85 rfl (by first | (rw [hm]; rfl) | (simp only [simprocAttr, pj_up_ap, if_true, if_false, hm, pj_mo]; rfl)) h1 ?_
    simp (disch := first | assumption | exact pj_long_i | exact pj_long_r | exact pj_long_n | decide) only [x111_88, x111_90, x111_93, x111_94, x111_97, simprocAttr, pj_then_s, pj_pv_s, pj_pi_s, pj_set_s, if_true, if_false, not_true_eq_false, not_false_eq_true, pj_up_up, pj_up_sort, pj_up_ap, pj_upd_ap, pj_a3_0, pj_a3_1, pj_a3_2, pj_a3_u0, pj_a3_u1, pj_a3_u2]
    exact t111_99
  · rw [if_neg c1]
    simp (disch := first | assumption | exact pj_long_i | exact pj_long_r | exact pj_long_n | decide) only [x111_63, x111_64, x111_67, x111_69, x111_70, x111_71, x111_72, x111_74, x111_77, x111_78, x111_81, x111_82, x111_84, simprocAttr, pj_then_s, pj_pv_s, pj_pi_s, pj_set_s, if_true, if_false, not_true_eq_false, not_false_eq_true, pj_up_up, pj_up_sort, pj_up_ap, pj_upd_ap, pj_a3_0, pj_a3_1, pj_a3_2, pj_a3_u0, pj_a3_u1, pj_a3_u2, pj_f6_0, pj_arl_i, pj_long_i, pj_long_r, pj_long_n, hm, hf, pj_mo, c1]
    refine e111_85 rfl (by first | (rw [hm]; rfl) | (simp only [simprocAttr, pj_up_ap, if_true, if_false, hm, pj_mo]; rfl)) h1 ?_
    simp (disch := first | assumption | exact pj_long_i | exact pj_long_r | exact pj_long_n | decide) only [x111_88, x111_90, x111_93, x111_94, x111_97, simprocAttr, pj_then_s, pj_pv_s, pj_pi_s, pj_set_s, if_true, if_false, not_true_eq_false, not_false_eq_true, pj_up_up, pj_up_sort, pj_up_ap, pj_upd_ap, pj_a3_0, pj_a3_1, pj_a3_2, pj_a3_u0, pj_a3_u1, pj_a3_u2]
    exact t111_99
theorem m_tt_l0 {x : pj_Sg} {r : Int32} (hx : pj_In x) : ∀ (m n : Nat) (f k hs sl : Nat → Int32) (r0 r1 r2 a0 a1 a2 mid lo hi fi sp nu ic td : Int32) (N S : Nat) (H : pj_Heap), n + m = 50 → (∀ j, 152 ≤ j → f j = 0) → (∃ q, q ≤ 12 ∧ f 30 = nI q) → pj_MC H f k hs sl x.2.2.2.2.1 x.2.2.2.2.2.2 x.2.1 x.2.2.2.2.2.1 r0 r1 r2 a0 a1 a2 mid lo hi fi sp nu ic td → pj_MR x.2.1 x.2.2.1 x.2.2.2.1 x.2.2.2.2.1 hs sl → (∀ j, j < 152 → k j = x.1 j) →
    ∃ H', pj_M H' x ∧ (∀ j, j < 109 → H' j = H j) ∧ pj_Ends 111 (25, [some (.ref 109), some (.int 0), some (.int r), some (.int (nI n)), none], [], (N, S, H)) (some (.int (op_tt (pj_a3 r r r) 0 m n f)), (N, S, H')) := by
  intro m
  induction m with
  | zero =>
    intro n f k hs sl r0 r1 r2 a0 a1 a2 mid lo hi fi sp nu ic td N S H hn hf0 hrec hc hr hk
    obtain rfl : n = 50 := by omega
    obtain ⟨H', q1, q2, q3⟩ := m_tt_e0 (r := r) (n := 50) (N := N) (S := S) hx hf0 hc hr hk
    refine ⟨H', q1, q2, ?_⟩
    have c1 : (50 : Int32) ≤ nI 50 := by decide
    unfold op_tt
    simp (disch := first | assumption | exact pj_long_i | exact pj_long_r | exact pj_long_n | decide) only [x111_25, x111_26, x111_28, simprocAttr, pj_then_s, pj_pv_s, pj_pi_s, pj_set_s, if_true, if_false, not_true_eq_false, not_false_eq_true, pj_up_up, pj_up_sort, pj_up_ap, pj_upd_ap, pj_a3_0, pj_a3_1, pj_a3_2, pj_a3_u0, pj_a3_u1, pj_a3_u2, c1]
    exact q3
  | succ m ih =>
    intro n f k hs sl r0 r1 r2 a0 a1 a2 mid lo hi fi sp nu ic td N S H hn hf0 hrec hc hr hk
    have c1 : ¬ (50 : Int32) ≤ nI n := nI_ge (b := 50) (by omega) (by decide)
    by_cases c2 : f 23 = -6
    · obtain ⟨q, hq, h30⟩ := hrec
      obtain ⟨hm, hf, hk', hh, hs', hv, hg, hA, hp⟩ := hc
      obtain ⟨x0, x1, x2, hT⟩ := m_on_ex (f := f) (c := 1) (b0 := r) (b1 := r) (b2 := r) hq h30
      have htl := sp_tick_tail (g := pj_a3 r r r) (c := 1) hq h30 hf0
      have h30' := sp_tick_30 (g := pj_a3 r r r) (c := 1) hq h30
      have eop : op_tt (pj_a3 r r r) 0 (m + 1) n f = op_tt (pj_a3 r r r) 0 m (n + 1) (sp_tick f (pj_a3 r r r) 1) := by
        rw [op_tt]
        exact if_pos c2
      rw [eop]
      generalize sp_tick f (pj_a3 r r r) 1 = F at hT htl h30' ⊢
      generalize tk_fi f (pj_a3 r r r) 1 = v at hT
      generalize tk_lo f (pj_a3 r r r) 1 = y at hT
      generalize tk_hi f (pj_a3 r r r) 1 = z at hT
      generalize tk_m f (pj_a3 r r r) = w at hT
      obtain ⟨H', q1, q2, q3⟩ := ih (n + 1) F k hs sl r r r x0 x1 x2 w y z v sp nu ic td N S (pj_up (pj_up (pj_up (pj_up H 109 (pj_mo (nI x.2.1) w y z v (nI x.2.2.2.2.2.1) sp nu ic td)) 110 (.inr (0, 152, .inl F))) 115 (.inr (0, 3, .inl (pj_a3 r r r)))) 116 (.inr (0, 3, .inl (pj_a3 x0 x1 x2)))) (by omega) htl h30' ⟨(by (try simp (disch := decide) only [simprocAttr, pj_up_ap, if_true, if_false, pj_mo, hm]) <;> rfl), (by (try simp (disch := decide) only [simprocAttr, pj_up_ap, if_true, if_false, pj_mo, hm]) <;> rfl), (by (try simp (disch := decide) only [simprocAttr, pj_up_ap, if_true, if_false, pj_mo, hk']) <;> rfl), (by (try simp (disch := decide) only [simprocAttr, pj_up_ap, if_true, if_false, pj_mo, hh]) <;> rfl), (by (try simp (disch := decide) only [simprocAttr, pj_up_ap, if_true, if_false, pj_mo, hs']) <;> rfl), (by (try simp (disch := decide) only [simprocAttr, pj_up_ap, if_true, if_false, pj_mo, hv]) <;> rfl), (by (try simp (disch := decide) only [simprocAttr, pj_up_ap, if_true, if_false, pj_mo, hg]) <;> rfl), (by (try simp (disch := decide) only [simprocAttr, pj_up_ap, if_true, if_false, pj_mo, hA]) <;> rfl), (by (try simp (disch := decide) only [simprocAttr, pj_up_ap, if_true, if_false, pj_mo, hp]) <;> rfl)⟩ hr hk
      refine ⟨H', q1, ?_, ?_⟩
      · intro j hj
        rw [q2 j hj]
        repeat rw [pj_up_lo hj (by decide)]
      rw [x111_25]
      simp (disch := first | assumption | exact pj_long_i | exact pj_long_r | exact pj_long_n | decide) only [x111_26, x111_28, x111_31, x111_32, x111_35, x111_37, x111_38, x111_39, x111_40, x111_42, x111_45, x111_46, x111_47, x111_48, simprocAttr, pj_then_s, pj_pv_s, pj_pi_s, pj_set_s, if_true, if_false, not_true_eq_false, not_false_eq_true, pj_up_up, pj_up_sort, pj_up_ap, pj_upd_ap, pj_a3_0, pj_a3_1, pj_a3_2, pj_a3_u0, pj_a3_u1, pj_a3_u2, pj_f6_0, pj_arl_i, c1, c2, hm, hf, pj_mo]
      refine e111_49 rfl (by first | (rw [hm]; rfl) | (simp only [simprocAttr, pj_up_ap, if_true, if_false, hm, pj_mo]; rfl)) (m_lays (mid := mid) (lo := lo) (hi := hi) (fi := fi) (pl := nI x.2.2.2.2.2.1) (sp := sp) (nu := nu) (ic := ic) (td := td) (hl := nI x.2.1) (r0 := r0) (r1 := r1) (r2 := r2) hm hg) ?_
      simp (disch := first | assumption | exact pj_long_i | exact pj_long_r | exact pj_long_n | decide) only [x111_52, x111_53, simprocAttr, pj_then_s, pj_pv_s, pj_pi_s, pj_set_s, if_true, if_false, not_true_eq_false, not_false_eq_true, pj_up_up, pj_up_sort, pj_up_ap, pj_upd_ap, pj_a3_0, pj_a3_1, pj_a3_2, pj_a3_u0, pj_a3_u1, pj_a3_u2]
      refine e111_54 rfl (by first | (rw [hm]; rfl) | (simp only [simprocAttr, pj_up_ap, if_true, if_false, hm, pj_mo]; rfl)) (hT _ _ _ (nI x.2.1) mid lo hi fi (nI x.2.2.2.2.2.1) sp nu ic td a0 a1 a2 (by (try simp (disch := decide) only [simprocAttr, pj_up_ap, if_true, if_false, pj_mo, hm, hf]) <;> rfl) (by (try simp (disch := decide) only [simprocAttr, pj_up_ap, if_true, if_false, pj_mo, hm, hf]) <;> rfl) (by (try simp (disch := decide) only [simprocAttr, pj_up_ap, if_true, if_false, pj_mo, hm]) <;> rfl) (by (try simp (disch := decide) only [simprocAttr, pj_up_ap, if_true, if_false, pj_mo, hA]) <;> rfl)) ?_
      simp (disch := first | assumption | exact pj_long_i | exact pj_long_r | exact pj_long_n | decide) only [x111_57, x111_60, simprocAttr, pj_then_s, pj_pv_s, pj_pi_s, pj_set_s, if_true, if_false, not_true_eq_false, not_false_eq_true, pj_up_up, pj_up_sort, pj_up_ap, pj_upd_ap, pj_a3_0, pj_a3_1, pj_a3_2, pj_a3_u0, pj_a3_u1, pj_a3_u2, pj_long_i, pj_long_r, pj_long_n, nI_1]
      exact q3
    · obtain ⟨H', q1, q2, q3⟩ := m_tt_e0 (r := r) (n := n) (N := N) (S := S) hx hf0 hc hr hk
      refine ⟨H', q1, q2, ?_⟩
      have eop : op_tt (pj_a3 r r r) 0 (m + 1) n f = nI n := by
        rw [op_tt]
        exact if_neg c2
      rw [eop]
      rw [if_neg c2] at q3
      obtain ⟨hm, hf, hk', hh, hs', hv, hg, hA, hp⟩ := hc
      simp (disch := first | assumption | exact pj_long_i | exact pj_long_r | exact pj_long_n | decide) only [x111_25, x111_26, x111_28, x111_31, x111_32, x111_35, x111_37, x111_38, x111_39, x111_40, x111_42, x111_45, x111_46, x111_47, x111_48, x111_52, x111_53, x111_57, x111_60, simprocAttr, pj_then_s, pj_pv_s, pj_pi_s, pj_set_s, if_true, if_false, not_true_eq_false, not_false_eq_true, pj_up_up, pj_up_sort, pj_up_ap, pj_upd_ap, pj_a3_0, pj_a3_1, pj_a3_2, pj_a3_u0, pj_a3_u1, pj_a3_u2, pj_f6_0, pj_arl_i, pj_long_i, pj_long_r, pj_long_n, c1, c2, hm, hf, pj_mo]
      exact q3
theorem m_tt_e1 {x : pj_Sg} {r : Int32} {n : Nat} {f k hs sl : Nat → Int32} {r0 r1 r2 a0 a1 a2 mid lo hi fi sp nu ic td : Int32} {N S : Nat} {H : pj_Heap} (hx : pj_In x) (hf0 : ∀ j, 152 ≤ j → f j = 0) (hc : pj_MC H f k hs sl x.2.2.2.2.1 x.2.2.2.2.2.2 x.2.1 x.2.2.2.2.2.1 r0 r1 r2 a0 a1 a2 mid lo hi fi sp nu ic td) (hr : pj_MR x.2.1 x.2.2.1 x.2.2.2.1 x.2.2.2.2.1 hs sl) (hk : ∀ j, j < 152 → k j = x.1 j) :
    ∃ H', pj_M H' x ∧ (∀ j, j < 109 → H' j = H j) ∧ pj_Ends 111 (63, [some (.ref 109), some (.int 1), some (.int r), some (.int (nI n)), none], [], (N, S, H)) (some (.int (if f 24 = -6 then -6 else nI n)), (N, S, H')) := by
  obtain ⟨t, ht, h152, hRo⟩ := hx.1
  obtain ⟨hm, hf, hk', hh, hs', hv, hg, hA, hp⟩ := hc
  have hb := va_cpy_back hf0 h152 hk
  have h1 := m_giveBack hm hk' hf (N := N) (S := S)
  rw [hb] at h1
  refine ⟨pj_up H 110 (.inr (0, 152, .inl x.1)), ⟨k, hs, sl, r0, r1, r2, a0, a1, a2, mid, lo, hi, fi, sp, nu, ic, td, ⟨(by (try simp (disch := decide) only [simprocAttr, pj_up_ap, if_true, if_false, pj_mo, hm]) <;> rfl), (by (try simp (disch := decide) only [simprocAttr, pj_up_ap, if_true, if_false, pj_mo, hm]) <;> rfl), (by (try simp (disch := decide) only [simprocAttr, pj_up_ap, if_true, if_false, pj_mo, hk']) <;> rfl), (by (try simp (disch := decide) only [simprocAttr, pj_up_ap, if_true, if_false, pj_mo, hh]) <;> rfl), (by (try simp (disch := decide) only [simprocAttr, pj_up_ap, if_true, if_false, pj_mo, hs']) <;> rfl), (by (try simp (disch := decide) only [simprocAttr, pj_up_ap, if_true, if_false, pj_mo, hv]) <;> rfl), (by (try simp (disch := decide) only [simprocAttr, pj_up_ap, if_true, if_false, pj_mo, hg]) <;> rfl), (by (try simp (disch := decide) only [simprocAttr, pj_up_ap, if_true, if_false, pj_mo, hA]) <;> rfl), (by (try simp (disch := decide) only [simprocAttr, pj_up_ap, if_true, if_false, pj_mo, hp]) <;> rfl)⟩, hr⟩, (by intro j hj; repeat rw [pj_up_lo hj (by decide)]), ?_⟩
  by_cases c1 : f 24 = -6
  · rw [if_pos c1]
    simp (disch := first | assumption | exact pj_long_i | exact pj_long_r | exact pj_long_n | decide) only [x111_63, x111_64, x111_67, x111_69, x111_70, x111_71, x111_72, x111_74, x111_77, x111_78, x111_81, x111_82, x111_84, simprocAttr, pj_then_s, pj_pv_s, pj_pi_s, pj_set_s, if_true, if_false, not_true_eq_false, not_false_eq_true, pj_up_up, pj_up_sort, pj_up_ap, pj_upd_ap, pj_a3_0, pj_a3_1, pj_a3_2, pj_a3_u0, pj_a3_u1, pj_a3_u2, pj_f6_0, pj_arl_i, pj_long_i, pj_long_r, pj_long_n, hm, hf, pj_mo, c1]
    refine e111_85 rfl (by first | (rw [hm]; rfl) | (simp only [simprocAttr, pj_up_ap, if_true, if_false, hm, pj_mo]; rfl)) h1 ?_
    simp (disch := first | assumption | exact pj_long_i | exact pj_long_r | exact pj_long_n | decide) only [x111_88, x111_90, x111_93, x111_94, x111_97, simprocAttr, pj_then_s, pj_pv_s, pj_pi_s, pj_set_s, if_true, if_false, not_true_eq_false, not_false_eq_true, pj_up_up, pj_up_sort, pj_up_ap, pj_upd_ap, pj_a3_0, pj_a3_1, pj_a3_2, pj_a3_u0, pj_a3_u1, pj_a3_u2]
    exact t111_99
  · rw [if_neg c1]
    simp (disch := first | assumption | exact pj_long_i | exact pj_long_r | exact pj_long_n | decide) only [x111_63, x111_64, x111_67, x111_69, x111_70, x111_71, x111_72, x111_74, x111_77, x111_78, x111_81, x111_82, x111_84, simprocAttr, pj_then_s, pj_pv_s, pj_pi_s, pj_set_s, if_true, if_false, not_true_eq_false, not_false_eq_true, pj_up_up, pj_up_sort, pj_up_ap, pj_upd_ap, pj_a3_0, pj_a3_1, pj_a3_2, pj_a3_u0, pj_a3_u1, pj_a3_u2, pj_f6_0, pj_arl_i, pj_long_i, pj_long_r, pj_long_n, hm, hf, pj_mo, c1]
    refine e111_85 rfl (by first | (rw [hm]; rfl) | (simp only [simprocAttr, pj_up_ap, if_true, if_false, hm, pj_mo]; rfl)) h1 ?_
    simp (disch := first | assumption | exact pj_long_i | exact pj_long_r | exact pj_long_n | decide) only [x111_88, x111_90, x111_93, x111_94, x111_97, simprocAttr, pj_then_s, pj_pv_s, pj_pi_s, pj_set_s, if_true, if_false, not_true_eq_false, not_false_eq_true, pj_up_up, pj_up_sort, pj_up_ap, pj_upd_ap, pj_a3_0, pj_a3_1, pj_a3_2, pj_a3_u0, pj_a3_u1, pj_a3_u2]
    exact t111_99
theorem m_tt_l1 {x : pj_Sg} {r : Int32} (hx : pj_In x) : ∀ (m n : Nat) (f k hs sl : Nat → Int32) (r0 r1 r2 a0 a1 a2 mid lo hi fi sp nu ic td : Int32) (N S : Nat) (H : pj_Heap), n + m = 50 → (∀ j, 152 ≤ j → f j = 0) → (∃ q, q ≤ 12 ∧ f 30 = nI q) → pj_MC H f k hs sl x.2.2.2.2.1 x.2.2.2.2.2.2 x.2.1 x.2.2.2.2.2.1 r0 r1 r2 a0 a1 a2 mid lo hi fi sp nu ic td → pj_MR x.2.1 x.2.2.1 x.2.2.2.1 x.2.2.2.2.1 hs sl → (∀ j, j < 152 → k j = x.1 j) →
    ∃ H', pj_M H' x ∧ (∀ j, j < 109 → H' j = H j) ∧ pj_Ends 111 (25, [some (.ref 109), some (.int 1), some (.int r), some (.int (nI n)), none], [], (N, S, H)) (some (.int (op_tt (pj_a3 r r r) 1 m n f)), (N, S, H')) := by
  intro m
  induction m with
  | zero =>
    intro n f k hs sl r0 r1 r2 a0 a1 a2 mid lo hi fi sp nu ic td N S H hn hf0 hrec hc hr hk
    obtain rfl : n = 50 := by omega
    obtain ⟨H', q1, q2, q3⟩ := m_tt_e1 (r := r) (n := 50) (N := N) (S := S) hx hf0 hc hr hk
    refine ⟨H', q1, q2, ?_⟩
    have c1 : (50 : Int32) ≤ nI 50 := by decide
    unfold op_tt
    simp (disch := first | assumption | exact pj_long_i | exact pj_long_r | exact pj_long_n | decide) only [x111_25, x111_26, x111_28, simprocAttr, pj_then_s, pj_pv_s, pj_pi_s, pj_set_s, if_true, if_false, not_true_eq_false, not_false_eq_true, pj_up_up, pj_up_sort, pj_up_ap, pj_upd_ap, pj_a3_0, pj_a3_1, pj_a3_2, pj_a3_u0, pj_a3_u1, pj_a3_u2, c1]
    exact q3
  | succ m ih =>
    intro n f k hs sl r0 r1 r2 a0 a1 a2 mid lo hi fi sp nu ic td N S H hn hf0 hrec hc hr hk
    have c1 : ¬ (50 : Int32) ≤ nI n := nI_ge (b := 50) (by omega) (by decide)
    by_cases c2 : f 24 = -6
    · obtain ⟨q, hq, h30⟩ := hrec
      obtain ⟨hm, hf, hk', hh, hs', hv, hg, hA, hp⟩ := hc
      obtain ⟨x0, x1, x2, hT⟩ := m_on_ex (f := f) (c := 1) (b0 := r) (b1 := r) (b2 := r) hq h30
      have htl := sp_tick_tail (g := pj_a3 r r r) (c := 1) hq h30 hf0
      have h30' := sp_tick_30 (g := pj_a3 r r r) (c := 1) hq h30
      have eop : op_tt (pj_a3 r r r) 1 (m + 1) n f = op_tt (pj_a3 r r r) 1 m (n + 1) (sp_tick f (pj_a3 r r r) 1) := by
        rw [op_tt]
        exact if_pos c2
      rw [eop]
      generalize sp_tick f (pj_a3 r r r) 1 = F at hT htl h30' ⊢
      generalize tk_fi f (pj_a3 r r r) 1 = v at hT
      generalize tk_lo f (pj_a3 r r r) 1 = y at hT
      generalize tk_hi f (pj_a3 r r r) 1 = z at hT
      generalize tk_m f (pj_a3 r r r) = w at hT
      obtain ⟨H', q1, q2, q3⟩ := ih (n + 1) F k hs sl r r r x0 x1 x2 w y z v sp nu ic td N S (pj_up (pj_up (pj_up (pj_up H 109 (pj_mo (nI x.2.1) w y z v (nI x.2.2.2.2.2.1) sp nu ic td)) 110 (.inr (0, 152, .inl F))) 115 (.inr (0, 3, .inl (pj_a3 r r r)))) 116 (.inr (0, 3, .inl (pj_a3 x0 x1 x2)))) (by omega) htl h30' ⟨(by (try simp (disch := decide) only [simprocAttr, pj_up_ap, if_true, if_false, pj_mo, hm]) <;> rfl), (by (try simp (disch := decide) only [simprocAttr, pj_up_ap, if_true, if_false, pj_mo, hm]) <;> rfl), (by (try simp (disch := decide) only [simprocAttr, pj_up_ap, if_true, if_false, pj_mo, hk']) <;> rfl), (by (try simp (disch := decide) only [simprocAttr, pj_up_ap, if_true, if_false, pj_mo, hh]) <;> rfl), (by (try simp (disch := decide) only [simprocAttr, pj_up_ap, if_true, if_false, pj_mo, hs']) <;> rfl), (by (try simp (disch := decide) only [simprocAttr, pj_up_ap, if_true, if_false, pj_mo, hv]) <;> rfl), (by (try simp (disch := decide) only [simprocAttr, pj_up_ap, if_true, if_false, pj_mo, hg]) <;> rfl), (by (try simp (disch := decide) only [simprocAttr, pj_up_ap, if_true, if_false, pj_mo, hA]) <;> rfl), (by (try simp (disch := decide) only [simprocAttr, pj_up_ap, if_true, if_false, pj_mo, hp]) <;> rfl)⟩ hr hk
      refine ⟨H', q1, ?_, ?_⟩
      · intro j hj
        rw [q2 j hj]
        repeat rw [pj_up_lo hj (by decide)]
      rw [x111_25]
      simp (disch := first | assumption | exact pj_long_i | exact pj_long_r | exact pj_long_n | decide) only [x111_26, x111_28, x111_31, x111_32, x111_35, x111_37, x111_38, x111_39, x111_40, x111_42, x111_45, x111_46, x111_47, x111_48, simprocAttr, pj_then_s, pj_pv_s, pj_pi_s, pj_set_s, if_true, if_false, not_true_eq_false, not_false_eq_true, pj_up_up, pj_up_sort, pj_up_ap, pj_upd_ap, pj_a3_0, pj_a3_1, pj_a3_2, pj_a3_u0, pj_a3_u1, pj_a3_u2, pj_f6_0, pj_arl_i, c1, c2, hm, hf, pj_mo]
      refine e111_49 rfl (by first | (rw [hm]; rfl) | (simp only [simprocAttr, pj_up_ap, if_true, if_false, hm, pj_mo]; rfl)) (m_lays (mid := mid) (lo := lo) (hi := hi) (fi := fi) (pl := nI x.2.2.2.2.2.1) (sp := sp) (nu := nu) (ic := ic) (td := td) (hl := nI x.2.1) (r0 := r0) (r1 := r1) (r2 := r2) hm hg) ?_
      simp (disch := first | assumption | exact pj_long_i | exact pj_long_r | exact pj_long_n | decide) only [x111_52, x111_53, simprocAttr, pj_then_s, pj_pv_s, pj_pi_s, pj_set_s, if_true, if_false, not_true_eq_false, not_false_eq_true, pj_up_up, pj_up_sort, pj_up_ap, pj_upd_ap, pj_a3_0, pj_a3_1, pj_a3_2, pj_a3_u0, pj_a3_u1, pj_a3_u2]
      refine e111_54 rfl (by first | (rw [hm]; rfl) | (simp only [simprocAttr, pj_up_ap, if_true, if_false, hm, pj_mo]; rfl)) (hT _ _ _ (nI x.2.1) mid lo hi fi (nI x.2.2.2.2.2.1) sp nu ic td a0 a1 a2 (by (try simp (disch := decide) only [simprocAttr, pj_up_ap, if_true, if_false, pj_mo, hm, hf]) <;> rfl) (by (try simp (disch := decide) only [simprocAttr, pj_up_ap, if_true, if_false, pj_mo, hm, hf]) <;> rfl) (by (try simp (disch := decide) only [simprocAttr, pj_up_ap, if_true, if_false, pj_mo, hm]) <;> rfl) (by (try simp (disch := decide) only [simprocAttr, pj_up_ap, if_true, if_false, pj_mo, hA]) <;> rfl)) ?_
      simp (disch := first | assumption | exact pj_long_i | exact pj_long_r | exact pj_long_n | decide) only [x111_57, x111_60, simprocAttr, pj_then_s, pj_pv_s, pj_pi_s, pj_set_s, if_true, if_false, not_true_eq_false, not_false_eq_true, pj_up_up, pj_up_sort, pj_up_ap, pj_upd_ap, pj_a3_0, pj_a3_1, pj_a3_2, pj_a3_u0, pj_a3_u1, pj_a3_u2, pj_long_i, pj_long_r, pj_long_n, nI_1]
      exact q3
    · obtain ⟨H', q1, q2, q3⟩ := m_tt_e1 (r := r) (n := n) (N := N) (S := S) hx hf0 hc hr hk
      refine ⟨H', q1, q2, ?_⟩
      have eop : op_tt (pj_a3 r r r) 1 (m + 1) n f = nI n := by
        rw [op_tt]
        exact if_neg c2
      rw [eop]
      rw [if_neg c2] at q3
      obtain ⟨hm, hf, hk', hh, hs', hv, hg, hA, hp⟩ := hc
      simp (disch := first | assumption | exact pj_long_i | exact pj_long_r | exact pj_long_n | decide) only [x111_25, x111_26, x111_28, x111_31, x111_32, x111_35, x111_37, x111_38, x111_39, x111_40, x111_42, x111_45, x111_46, x111_47, x111_48, x111_52, x111_53, x111_57, x111_60, simprocAttr, pj_then_s, pj_pv_s, pj_pi_s, pj_set_s, if_true, if_false, not_true_eq_false, not_false_eq_true, pj_up_up, pj_up_sort, pj_up_ap, pj_upd_ap, pj_a3_0, pj_a3_1, pj_a3_2, pj_a3_u0, pj_a3_u1, pj_a3_u2, pj_f6_0, pj_arl_i, pj_long_i, pj_long_r, pj_long_n, c1, c2, hm, hf, pj_mo]
      exact q3
theorem m_tt_e2 {x : pj_Sg} {r : Int32} {n : Nat} {f k hs sl : Nat → Int32} {r0 r1 r2 a0 a1 a2 mid lo hi fi sp nu ic td : Int32} {N S : Nat} {H : pj_Heap} (hx : pj_In x) (hf0 : ∀ j, 152 ≤ j → f j = 0) (hc : pj_MC H f k hs sl x.2.2.2.2.1 x.2.2.2.2.2.2 x.2.1 x.2.2.2.2.2.1 r0 r1 r2 a0 a1 a2 mid lo hi fi sp nu ic td) (hr : pj_MR x.2.1 x.2.2.1 x.2.2.2.1 x.2.2.2.2.1 hs sl) (hk : ∀ j, j < 152 → k j = x.1 j) :
    ∃ H', pj_M H' x ∧ (∀ j, j < 109 → H' j = H j) ∧ pj_Ends 111 (63, [some (.ref 109), some (.int 2), some (.int r), some (.int (nI n)), none], [], (N, S, H)) (some (.int (if f 25 = -6 then -6 else nI n)), (N, S, H')) := by
  obtain ⟨t, ht, h152, hRo⟩ := hx.1
  obtain ⟨hm, hf, hk', hh, hs', hv, hg, hA, hp⟩ := hc
  have hb := va_cpy_back hf0 h152 hk
  have h1 := m_giveBack hm hk' hf (N := N) (S := S)
  rw [hb] at h1
  refine ⟨pj_up H 110 (.inr (0, 152, .inl x.1)), ⟨k, hs, sl, r0, r1, r2, a0, a1, a2, mid, lo, hi, fi, sp, nu, ic, td, ⟨(by (try simp (disch := decide) only [simprocAttr, pj_up_ap, if_true, if_false, pj_mo, hm]) <;> rfl), (by (try simp (disch := decide) only [simprocAttr, pj_up_ap, if_true, if_false, pj_mo, hm]) <;> rfl), (by (try simp (disch := decide) only [simprocAttr, pj_up_ap, if_true, if_false, pj_mo, hk']) <;> rfl), (by (try simp (disch := decide) only [simprocAttr, pj_up_ap, if_true, if_false, pj_mo, hh]) <;> rfl), (by (try simp (disch := decide) only [simprocAttr, pj_up_ap, if_true, if_false, pj_mo, hs']) <;> rfl), (by (try simp (disch := decide) only [simprocAttr, pj_up_ap, if_true, if_false, pj_mo, hv]) <;> rfl), (by (try simp (disch := decide) only [simprocAttr, pj_up_ap, if_true, if_false, pj_mo, hg]) <;> rfl), (by (try simp (disch := decide) only [simprocAttr, pj_up_ap, if_true, if_false, pj_mo, hA]) <;> rfl), (by (try simp (disch := decide) only [simprocAttr, pj_up_ap, if_true, if_false, pj_mo, hp]) <;> rfl)⟩, hr⟩, (by intro j hj; repeat rw [pj_up_lo hj (by decide)]), ?_⟩
  by_cases c1 : f 25 = -6
  · rw [if_pos c1]
    simp (disch := first | assumption | exact pj_long_i | exact pj_long_r | exact pj_long_n | decide) only [x111_63, x111_64, x111_67, x111_69, x111_70, x111_71, x111_72, x111_74, x111_77, x111_78, x111_81, x111_82, x111_84, simprocAttr, pj_then_s, pj_pv_s, pj_pi_s, pj_set_s, if_true, if_false, not_true_eq_false, not_false_eq_true, pj_up_up, pj_up_sort, pj_up_ap, pj_upd_ap, pj_a3_0, pj_a3_1, pj_a3_2, pj_a3_u0, pj_a3_u1, pj_a3_u2, pj_f6_0, pj_arl_i, pj_long_i, pj_long_r, pj_long_n, hm, hf, pj_mo, c1]
    refine e111_85 rfl (by first | (rw [hm]; rfl) | (simp only [simprocAttr, pj_up_ap, if_true, if_false, hm, pj_mo]; rfl)) h1 ?_
    simp (disch := first | assumption | exact pj_long_i | exact pj_long_r | exact pj_long_n | decide) only [x111_88, x111_90, x111_93, x111_94, x111_97, simprocAttr, pj_then_s, pj_pv_s, pj_pi_s, pj_set_s, if_true, if_false, not_true_eq_false, not_false_eq_true, pj_up_up, pj_up_sort, pj_up_ap, pj_upd_ap, pj_a3_0, pj_a3_1, pj_a3_2, pj_a3_u0, pj_a3_u1, pj_a3_u2]
    exact t111_99
  · rw [if_neg c1]
    simp (disch := first | assumption | exact pj_long_i | exact pj_long_r | exact pj_long_n | decide) only [x111_63, x111_64, x111_67, x111_69, x111_70, x111_71, x111_72, x111_74, x111_77, x111_78, x111_81, x111_82, x111_84, simprocAttr, pj_then_s, pj_pv_s, pj_pi_s, pj_set_s, if_true, if_false, not_true_eq_false, not_false_eq_true, pj_up_up, pj_up_sort, pj_up_ap, pj_upd_ap, pj_a3_0, pj_a3_1, pj_a3_2, pj_a3_u0, pj_a3_u1, pj_a3_u2, pj_f6_0, pj_arl_i, pj_long_i, pj_long_r, pj_long_n, hm, hf, pj_mo, c1]
    refine e111_85 rfl (by first | (rw [hm]; rfl) | (simp only [simprocAttr, pj_up_ap, if_true, if_false, hm, pj_mo]; rfl)) h1 ?_
    simp (disch := first | assumption | exact pj_long_i | exact pj_long_r | exact pj_long_n | decide) only [x111_88, x111_90, x111_93, x111_94, x111_97, simprocAttr, pj_then_s, pj_pv_s, pj_pi_s, pj_set_s, if_true, if_false, not_true_eq_false, not_false_eq_true, pj_up_up, pj_up_sort, pj_up_ap, pj_upd_ap, pj_a3_0, pj_a3_1, pj_a3_2, pj_a3_u0, pj_a3_u1, pj_a3_u2]
    exact t111_99
theorem m_tt_l2 {x : pj_Sg} {r : Int32} (hx : pj_In x) : ∀ (m n : Nat) (f k hs sl : Nat → Int32) (r0 r1 r2 a0 a1 a2 mid lo hi fi sp nu ic td : Int32) (N S : Nat) (H : pj_Heap), n + m = 50 → (∀ j, 152 ≤ j → f j = 0) → (∃ q, q ≤ 12 ∧ f 30 = nI q) → pj_MC H f k hs sl x.2.2.2.2.1 x.2.2.2.2.2.2 x.2.1 x.2.2.2.2.2.1 r0 r1 r2 a0 a1 a2 mid lo hi fi sp nu ic td → pj_MR x.2.1 x.2.2.1 x.2.2.2.1 x.2.2.2.2.1 hs sl → (∀ j, j < 152 → k j = x.1 j) →
    ∃ H', pj_M H' x ∧ (∀ j, j < 109 → H' j = H j) ∧ pj_Ends 111 (25, [some (.ref 109), some (.int 2), some (.int r), some (.int (nI n)), none], [], (N, S, H)) (some (.int (op_tt (pj_a3 r r r) 2 m n f)), (N, S, H')) := by
  intro m
  induction m with
  | zero =>
    intro n f k hs sl r0 r1 r2 a0 a1 a2 mid lo hi fi sp nu ic td N S H hn hf0 hrec hc hr hk
    obtain rfl : n = 50 := by omega
    obtain ⟨H', q1, q2, q3⟩ := m_tt_e2 (r := r) (n := 50) (N := N) (S := S) hx hf0 hc hr hk
    refine ⟨H', q1, q2, ?_⟩
    have c1 : (50 : Int32) ≤ nI 50 := by decide
    unfold op_tt
    simp (disch := first | assumption | exact pj_long_i | exact pj_long_r | exact pj_long_n | decide) only [x111_25, x111_26, x111_28, simprocAttr, pj_then_s, pj_pv_s, pj_pi_s, pj_set_s, if_true, if_false, not_true_eq_false, not_false_eq_true, pj_up_up, pj_up_sort, pj_up_ap, pj_upd_ap, pj_a3_0, pj_a3_1, pj_a3_2, pj_a3_u0, pj_a3_u1, pj_a3_u2, c1]
    exact q3
  | succ m ih =>
    intro n f k hs sl r0 r1 r2 a0 a1 a2 mid lo hi fi sp nu ic td N S H hn hf0 hrec hc hr hk
    have c1 : ¬ (50 : Int32) ≤ nI n := nI_ge (b := 50) (by omega) (by decide)
    by_cases c2 : f 25 = -6
    · obtain ⟨q, hq, h30⟩ := hrec
      obtain ⟨hm, hf, hk', hh, hs', hv, hg, hA, hp⟩ := hc
      obtain ⟨x0, x1, x2, hT⟩ := m_on_ex (f := f) (c := 1) (b0 := r) (b1 := r) (b2 := r) hq h30
      have htl := sp_tick_tail (g := pj_a3 r r r) (c := 1) hq h30 hf0
      have h30' := sp_tick_30 (g := pj_a3 r r r) (c := 1) hq h30
      have eop : op_tt (pj_a3 r r r) 2 (m + 1) n f = op_tt (pj_a3 r r r) 2 m (n + 1) (sp_tick f (pj_a3 r r r) 1) := by
        rw [op_tt]
        exact if_pos c2
      rw [eop]
      generalize sp_tick f (pj_a3 r r r) 1 = F at hT htl h30' ⊢
      generalize tk_fi f (pj_a3 r r r) 1 = v at hT
      generalize tk_lo f (pj_a3 r r r) 1 = y at hT
      generalize tk_hi f (pj_a3 r r r) 1 = z at hT
      generalize tk_m f (pj_a3 r r r) = w at hT
      obtain ⟨H', q1, q2, q3⟩ := ih (n + 1) F k hs sl r r r x0 x1 x2 w y z v sp nu ic td N S (pj_up (pj_up (pj_up (pj_up H 109 (pj_mo (nI x.2.1) w y z v (nI x.2.2.2.2.2.1) sp nu ic td)) 110 (.inr (0, 152, .inl F))) 115 (.inr (0, 3, .inl (pj_a3 r r r)))) 116 (.inr (0, 3, .inl (pj_a3 x0 x1 x2)))) (by omega) htl h30' ⟨(by (try simp (disch := decide) only [simprocAttr, pj_up_ap, if_true, if_false, pj_mo, hm]) <;> rfl), (by (try simp (disch := decide) only [simprocAttr, pj_up_ap, if_true, if_false, pj_mo, hm]) <;> rfl), (by (try simp (disch := decide) only [simprocAttr, pj_up_ap, if_true, if_false, pj_mo, hk']) <;> rfl), (by (try simp (disch := decide) only [simprocAttr, pj_up_ap, if_true, if_false, pj_mo, hh]) <;> rfl), (by (try simp (disch := decide) only [simprocAttr, pj_up_ap, if_true, if_false, pj_mo, hs']) <;> rfl), (by (try simp (disch := decide) only [simprocAttr, pj_up_ap, if_true, if_false, pj_mo, hv]) <;> rfl), (by (try simp (disch := decide) only [simprocAttr, pj_up_ap, if_true, if_false, pj_mo, hg]) <;> rfl), (by (try simp (disch := decide) only [simprocAttr, pj_up_ap, if_true, if_false, pj_mo, hA]) <;> rfl), (by (try simp (disch := decide) only [simprocAttr, pj_up_ap, if_true, if_false, pj_mo, hp]) <;> rfl)⟩ hr hk
      refine ⟨H', q1, ?_, ?_⟩
      · intro j hj
        rw [q2 j hj]
        repeat rw [pj_up_lo hj (by decide)]
      rw [x111_25]
      simp (disch := first | assumption | exact pj_long_i | exact pj_long_r | exact pj_long_n | decide) only [x111_26, x111_28, x111_31, x111_32, x111_35, x111_37, x111_38, x111_39, x111_40, x111_42, x111_45, x111_46, x111_47, x111_48, simprocAttr, pj_then_s, pj_pv_s, pj_pi_s, pj_set_s, if_true, if_false, not_true_eq_false, not_false_eq_true, pj_up_up, pj_up_sort, pj_up_ap, pj_upd_ap, pj_a3_0, pj_a3_1, pj_a3_2, pj_a3_u0, pj_a3_u1, pj_a3_u2, pj_f6_0, pj_arl_i, c1, c2, hm, hf, pj_mo]
      refine e111_49 rfl (by first | (rw [hm]; rfl) | (simp only [simprocAttr, pj_up_ap, if_true, if_false, hm, pj_mo]; rfl)) (m_lays (mid := mid) (lo := lo) (hi := hi) (fi := fi) (pl := nI x.2.2.2.2.2.1) (sp := sp) (nu := nu) (ic := ic) (td := td) (hl := nI x.2.1) (r0 := r0) (r1 := r1) (r2 := r2) hm hg) ?_
      simp (disch := first | assumption | exact pj_long_i | exact pj_long_r | exact pj_long_n | decide) only [x111_52, x111_53, simprocAttr, pj_then_s, pj_pv_s, pj_pi_s, pj_set_s, if_true, if_false, not_true_eq_false, not_false_eq_true, pj_up_up, pj_up_sort, pj_up_ap, pj_upd_ap, pj_a3_0, pj_a3_1, pj_a3_2, pj_a3_u0, pj_a3_u1, pj_a3_u2]
      refine e111_54 rfl (by first | (rw [hm]; rfl) | (simp only [simprocAttr, pj_up_ap, if_true, if_false, hm, pj_mo]; rfl)) (hT _ _ _ (nI x.2.1) mid lo hi fi (nI x.2.2.2.2.2.1) sp nu ic td a0 a1 a2 (by (try simp (disch := decide) only [simprocAttr, pj_up_ap, if_true, if_false, pj_mo, hm, hf]) <;> rfl) (by (try simp (disch := decide) only [simprocAttr, pj_up_ap, if_true, if_false, pj_mo, hm, hf]) <;> rfl) (by (try simp (disch := decide) only [simprocAttr, pj_up_ap, if_true, if_false, pj_mo, hm]) <;> rfl) (by (try simp (disch := decide) only [simprocAttr, pj_up_ap, if_true, if_false, pj_mo, hA]) <;> rfl)) ?_
      simp (disch := first | assumption | exact pj_long_i | exact pj_long_r | exact pj_long_n | decide) only [x111_57, x111_60, simprocAttr, pj_then_s, pj_pv_s, pj_pi_s, pj_set_s, if_true, if_false, not_true_eq_false, not_false_eq_true, pj_up_up, pj_up_sort, pj_up_ap, pj_upd_ap, pj_a3_0, pj_a3_1, pj_a3_2, pj_a3_u0, pj_a3_u1, pj_a3_u2, pj_long_i, pj_long_r, pj_long_n, nI_1]
      exact q3
    · obtain ⟨H', q1, q2, q3⟩ := m_tt_e2 (r := r) (n := n) (N := N) (S := S) hx hf0 hc hr hk
      refine ⟨H', q1, q2, ?_⟩
      have eop : op_tt (pj_a3 r r r) 2 (m + 1) n f = nI n := by
        rw [op_tt]
        exact if_neg c2
      rw [eop]
      rw [if_neg c2] at q3
      obtain ⟨hm, hf, hk', hh, hs', hv, hg, hA, hp⟩ := hc
      simp (disch := first | assumption | exact pj_long_i | exact pj_long_r | exact pj_long_n | decide) only [x111_25, x111_26, x111_28, x111_31, x111_32, x111_35, x111_37, x111_38, x111_39, x111_40, x111_42, x111_45, x111_46, x111_47, x111_48, x111_52, x111_53, x111_57, x111_60, simprocAttr, pj_then_s, pj_pv_s, pj_pi_s, pj_set_s, if_true, if_false, not_true_eq_false, not_false_eq_true, pj_up_up, pj_up_sort, pj_up_ap, pj_upd_ap, pj_a3_0, pj_a3_1, pj_a3_2, pj_a3_u0, pj_a3_u1, pj_a3_u2, pj_f6_0, pj_arl_i, pj_long_i, pj_long_r, pj_long_n, c1, c2, hm, hf, pj_mo]
      exact q3
theorem M_ticksTo {N S : Nat} {H : pj_Heap} {x : pj_Sg} {a r : Int32} (hx : pj_In x) (hM : pj_M H x) : pj_Mo N S H 111 [some (.ref 109), some (.int a), some (.int r), none, none] (x, op_ticksTo x.1 a r) := by
  have hM' := hM
  unfold op_ticksTo
  by_cases c1 : sp_th a = 0
  · rw [if_pos c1]
    refine pj_Mo_same hM ?_
    simp (disch := first | assumption | exact pj_long_i | exact pj_long_r | exact pj_long_n | decide) only [x111_0, simprocAttr, pj_then_s, pj_pv_s, pj_pi_s, pj_set_s, if_true, if_false, not_true_eq_false, not_false_eq_true, pj_up_up, pj_up_sort, pj_up_ap, pj_upd_ap, pj_a3_0, pj_a3_1, pj_a3_2, pj_a3_u0, pj_a3_u1, pj_a3_u2]
    refine e111_1 rfl m_isThree ?_
    simp (disch := first | assumption | exact pj_long_i | exact pj_long_r | exact pj_long_n | decide) only [x111_4, x111_7, simprocAttr, pj_then_s, pj_pv_s, pj_pi_s, pj_set_s, if_true, if_false, not_true_eq_false, not_false_eq_true, pj_up_up, pj_up_sort, pj_up_ap, pj_upd_ap, pj_a3_0, pj_a3_1, pj_a3_2, pj_a3_u0, pj_a3_u1, pj_a3_u2, c1]
    exact t111_8
  rw [if_neg c1]
  by_cases c2 : sp_rd r = 0
  · rw [if_pos c2]
    refine pj_Mo_same hM ?_
    simp (disch := first | assumption | exact pj_long_i | exact pj_long_r | exact pj_long_n | decide) only [x111_0, simprocAttr, pj_then_s, pj_pv_s, pj_pi_s, pj_set_s, if_true, if_false, not_true_eq_false, not_false_eq_true, pj_up_up, pj_up_sort, pj_up_ap, pj_upd_ap, pj_a3_0, pj_a3_1, pj_a3_2, pj_a3_u0, pj_a3_u1, pj_a3_u2]
    refine e111_1 rfl m_isThree ?_
    simp (disch := first | assumption | exact pj_long_i | exact pj_long_r | exact pj_long_n | decide) only [x111_4, x111_7, x111_9, simprocAttr, pj_then_s, pj_pv_s, pj_pi_s, pj_set_s, if_true, if_false, not_true_eq_false, not_false_eq_true, pj_up_up, pj_up_sort, pj_up_ap, pj_upd_ap, pj_a3_0, pj_a3_1, pj_a3_2, pj_a3_u0, pj_a3_u1, pj_a3_u2, c1]
    refine e111_10 rfl m_isReading ?_
    simp (disch := first | assumption | exact pj_long_i | exact pj_long_r | exact pj_long_n | decide) only [x111_13, x111_16, simprocAttr, pj_then_s, pj_pv_s, pj_pi_s, pj_set_s, if_true, if_false, not_true_eq_false, not_false_eq_true, pj_up_up, pj_up_sort, pj_up_ap, pj_upd_ap, pj_a3_0, pj_a3_1, pj_a3_2, pj_a3_u0, pj_a3_u1, pj_a3_u2, c2]
    exact t111_18
  rw [if_neg c2]
  obtain ⟨k, hs0, sl0, r0, r1, r2, a0, a1, a2, mid, lo, hi, fi, sp, nu, ic, td, ⟨hm, hf, hk, hh, hs, hv, hg, hA, hp⟩, hr⟩ := hM
  obtain ⟨t, ht, h152, hrec, hRo⟩ := hx.1
  rcases sp_th_lt c1 with e | e | e
  · subst e
    rw [pj_tn0]
    obtain ⟨H', q1, q2, q3⟩ := m_tt_l0 (r := r) hx 50 0 x.1 (va_cpy x.1 k 0 0 152) hs0 sl0 r0 r1 r2 a0 a1 a2 mid lo hi fi sp nu ic td N S (pj_up H 111 (.inr (0, 152, .inl (va_cpy x.1 k 0 0 152)))) rfl h152 hrec ⟨(by (try simp (disch := decide) only [simprocAttr, pj_up_ap, if_true, if_false, pj_mo, hm, hf, hk, hh, hs, hv, hg, hA, hp]) <;> rfl), (by (try simp (disch := decide) only [simprocAttr, pj_up_ap, if_true, if_false, pj_mo, hm, hf, hk, hh, hs, hv, hg, hA, hp]) <;> rfl), (by (try simp (disch := decide) only [simprocAttr, pj_up_ap, if_true, if_false, pj_mo, hm, hf, hk, hh, hs, hv, hg, hA, hp]) <;> rfl), (by (try simp (disch := decide) only [simprocAttr, pj_up_ap, if_true, if_false, pj_mo, hm, hf, hk, hh, hs, hv, hg, hA, hp]) <;> rfl), (by (try simp (disch := decide) only [simprocAttr, pj_up_ap, if_true, if_false, pj_mo, hm, hf, hk, hh, hs, hv, hg, hA, hp]) <;> rfl), (by (try simp (disch := decide) only [simprocAttr, pj_up_ap, if_true, if_false, pj_mo, hm, hf, hk, hh, hs, hv, hg, hA, hp]) <;> rfl), (by (try simp (disch := decide) only [simprocAttr, pj_up_ap, if_true, if_false, pj_mo, hm, hf, hk, hh, hs, hv, hg, hA, hp]) <;> rfl), (by (try simp (disch := decide) only [simprocAttr, pj_up_ap, if_true, if_false, pj_mo, hm, hf, hk, hh, hs, hv, hg, hA, hp]) <;> rfl), (by (try simp (disch := decide) only [simprocAttr, pj_up_ap, if_true, if_false, pj_mo, hm, hf, hk, hh, hs, hv, hg, hA, hp]) <;> rfl)⟩ hr (fun j hj => va_cpy_lt hj)
    refine ⟨H', q1, ?_, ?_⟩
    · intro j hj
      rw [q2 j hj, pj_up_lo hj (by decide)]
    simp (disch := first | assumption | exact pj_long_i | exact pj_long_r | exact pj_long_n | decide) only [x111_0, simprocAttr, pj_then_s, pj_pv_s, pj_pi_s, pj_set_s, if_true, if_false, not_true_eq_false, not_false_eq_true, pj_up_up, pj_up_sort, pj_up_ap, pj_upd_ap, pj_a3_0, pj_a3_1, pj_a3_2, pj_a3_u0, pj_a3_u1, pj_a3_u2]
    refine e111_1 rfl m_isThree ?_
    simp (disch := first | assumption | exact pj_long_i | exact pj_long_r | exact pj_long_n | decide) only [x111_4, x111_7, x111_9, simprocAttr, pj_then_s, pj_pv_s, pj_pi_s, pj_set_s, if_true, if_false, not_true_eq_false, not_false_eq_true, pj_up_up, pj_up_sort, pj_up_ap, pj_upd_ap, pj_a3_0, pj_a3_1, pj_a3_2, pj_a3_u0, pj_a3_u1, pj_a3_u2, c1]
    refine e111_10 rfl m_isReading ?_
    simp (disch := first | assumption | exact pj_long_i | exact pj_long_r | exact pj_long_n | decide) only [x111_13, x111_16, x111_19, simprocAttr, pj_then_s, pj_pv_s, pj_pi_s, pj_set_s, if_true, if_false, not_true_eq_false, not_false_eq_true, pj_up_up, pj_up_sort, pj_up_ap, pj_upd_ap, pj_a3_0, pj_a3_1, pj_a3_2, pj_a3_u0, pj_a3_u1, pj_a3_u2, c2]
    refine e111_20 rfl (by first | (rw [hm]; rfl) | (simp only [simprocAttr, pj_up_ap, if_true, if_false, hm, pj_mo]; rfl)) (m_keep hm hf hk) ?_
    simp (disch := first | assumption | exact pj_long_i | exact pj_long_r | exact pj_long_n | decide) only [x111_23, x111_24, simprocAttr, pj_then_s, pj_pv_s, pj_pi_s, pj_set_s, if_true, if_false, not_true_eq_false, not_false_eq_true, pj_up_up, pj_up_sort, pj_up_ap, pj_upd_ap, pj_a3_0, pj_a3_1, pj_a3_2, pj_a3_u0, pj_a3_u1, pj_a3_u2, pj_long_i, pj_long_r, pj_long_n]
    exact q3
  · subst e
    rw [pj_tn1]
    obtain ⟨H', q1, q2, q3⟩ := m_tt_l1 (r := r) hx 50 0 x.1 (va_cpy x.1 k 0 0 152) hs0 sl0 r0 r1 r2 a0 a1 a2 mid lo hi fi sp nu ic td N S (pj_up H 111 (.inr (0, 152, .inl (va_cpy x.1 k 0 0 152)))) rfl h152 hrec ⟨(by (try simp (disch := decide) only [simprocAttr, pj_up_ap, if_true, if_false, pj_mo, hm, hf, hk, hh, hs, hv, hg, hA, hp]) <;> rfl), (by (try simp (disch := decide) only [simprocAttr, pj_up_ap, if_true, if_false, pj_mo, hm, hf, hk, hh, hs, hv, hg, hA, hp]) <;> rfl), (by (try simp (disch := decide) only [simprocAttr, pj_up_ap, if_true, if_false, pj_mo, hm, hf, hk, hh, hs, hv, hg, hA, hp]) <;> rfl), (by (try simp (disch := decide) only [simprocAttr, pj_up_ap, if_true, if_false, pj_mo, hm, hf, hk, hh, hs, hv, hg, hA, hp]) <;> rfl), (by (try simp (disch := decide) only [simprocAttr, pj_up_ap, if_true, if_false, pj_mo, hm, hf, hk, hh, hs, hv, hg, hA, hp]) <;> rfl), (by (try simp (disch := decide) only [simprocAttr, pj_up_ap, if_true, if_false, pj_mo, hm, hf, hk, hh, hs, hv, hg, hA, hp]) <;> rfl), (by (try simp (disch := decide) only [simprocAttr, pj_up_ap, if_true, if_false, pj_mo, hm, hf, hk, hh, hs, hv, hg, hA, hp]) <;> rfl), (by (try simp (disch := decide) only [simprocAttr, pj_up_ap, if_true, if_false, pj_mo, hm, hf, hk, hh, hs, hv, hg, hA, hp]) <;> rfl), (by (try simp (disch := decide) only [simprocAttr, pj_up_ap, if_true, if_false, pj_mo, hm, hf, hk, hh, hs, hv, hg, hA, hp]) <;> rfl)⟩ hr (fun j hj => va_cpy_lt hj)
    refine ⟨H', q1, ?_, ?_⟩
    · intro j hj
      rw [q2 j hj, pj_up_lo hj (by decide)]
    simp (disch := first | assumption | exact pj_long_i | exact pj_long_r | exact pj_long_n | decide) only [x111_0, simprocAttr, pj_then_s, pj_pv_s, pj_pi_s, pj_set_s, if_true, if_false, not_true_eq_false, not_false_eq_true, pj_up_up, pj_up_sort, pj_up_ap, pj_upd_ap, pj_a3_0, pj_a3_1, pj_a3_2, pj_a3_u0, pj_a3_u1, pj_a3_u2]
    refine e111_1 rfl m_isThree ?_
    simp (disch := first | assumption | exact pj_long_i | exact pj_long_r | exact pj_long_n | decide) only [x111_4, x111_7, x111_9, simprocAttr, pj_then_s, pj_pv_s, pj_pi_s, pj_set_s, if_true, if_false, not_true_eq_false, not_false_eq_true, pj_up_up, pj_up_sort, pj_up_ap, pj_upd_ap, pj_a3_0, pj_a3_1, pj_a3_2, pj_a3_u0, pj_a3_u1, pj_a3_u2, c1]
    refine e111_10 rfl m_isReading ?_
    simp (disch := first | assumption | exact pj_long_i | exact pj_long_r | exact pj_long_n | decide) only [x111_13, x111_16, x111_19, simprocAttr, pj_then_s, pj_pv_s, pj_pi_s, pj_set_s, if_true, if_false, not_true_eq_false, not_false_eq_true, pj_up_up, pj_up_sort, pj_up_ap, pj_upd_ap, pj_a3_0, pj_a3_1, pj_a3_2, pj_a3_u0, pj_a3_u1, pj_a3_u2, c2]
    refine e111_20 rfl (by first | (rw [hm]; rfl) | (simp only [simprocAttr, pj_up_ap, if_true, if_false, hm, pj_mo]; rfl)) (m_keep hm hf hk) ?_
    simp (disch := first | assumption | exact pj_long_i | exact pj_long_r | exact pj_long_n | decide) only [x111_23, x111_24, simprocAttr, pj_then_s, pj_pv_s, pj_pi_s, pj_set_s, if_true, if_false, not_true_eq_false, not_false_eq_true, pj_up_up, pj_up_sort, pj_up_ap, pj_upd_ap, pj_a3_0, pj_a3_1, pj_a3_2, pj_a3_u0, pj_a3_u1, pj_a3_u2, pj_long_i, pj_long_r, pj_long_n]
    exact q3
  · subst e
    rw [pj_tn2]
    obtain ⟨H', q1, q2, q3⟩ := m_tt_l2 (r := r) hx 50 0 x.1 (va_cpy x.1 k 0 0 152) hs0 sl0 r0 r1 r2 a0 a1 a2 mid lo hi fi sp nu ic td N S (pj_up H 111 (.inr (0, 152, .inl (va_cpy x.1 k 0 0 152)))) rfl h152 hrec ⟨(by (try simp (disch := decide) only [simprocAttr, pj_up_ap, if_true, if_false, pj_mo, hm, hf, hk, hh, hs, hv, hg, hA, hp]) <;> rfl), (by (try simp (disch := decide) only [simprocAttr, pj_up_ap, if_true, if_false, pj_mo, hm, hf, hk, hh, hs, hv, hg, hA, hp]) <;> rfl), (by (try simp (disch := decide) only [simprocAttr, pj_up_ap, if_true, if_false, pj_mo, hm, hf, hk, hh, hs, hv, hg, hA, hp]) <;> rfl), (by (try simp (disch := decide) only [simprocAttr, pj_up_ap, if_true, if_false, pj_mo, hm, hf, hk, hh, hs, hv, hg, hA, hp]) <;> rfl), (by (try simp (disch := decide) only [simprocAttr, pj_up_ap, if_true, if_false, pj_mo, hm, hf, hk, hh, hs, hv, hg, hA, hp]) <;> rfl), (by (try simp (disch := decide) only [simprocAttr, pj_up_ap, if_true, if_false, pj_mo, hm, hf, hk, hh, hs, hv, hg, hA, hp]) <;> rfl), (by (try simp (disch := decide) only [simprocAttr, pj_up_ap, if_true, if_false, pj_mo, hm, hf, hk, hh, hs, hv, hg, hA, hp]) <;> rfl), (by (try simp (disch := decide) only [simprocAttr, pj_up_ap, if_true, if_false, pj_mo, hm, hf, hk, hh, hs, hv, hg, hA, hp]) <;> rfl), (by (try simp (disch := decide) only [simprocAttr, pj_up_ap, if_true, if_false, pj_mo, hm, hf, hk, hh, hs, hv, hg, hA, hp]) <;> rfl)⟩ hr (fun j hj => va_cpy_lt hj)
    refine ⟨H', q1, ?_, ?_⟩
    · intro j hj
      rw [q2 j hj, pj_up_lo hj (by decide)]
    simp (disch := first | assumption | exact pj_long_i | exact pj_long_r | exact pj_long_n | decide) only [x111_0, simprocAttr, pj_then_s, pj_pv_s, pj_pi_s, pj_set_s, if_true, if_false, not_true_eq_false, not_false_eq_true, pj_up_up, pj_up_sort, pj_up_ap, pj_upd_ap, pj_a3_0, pj_a3_1, pj_a3_2, pj_a3_u0, pj_a3_u1, pj_a3_u2]
    refine e111_1 rfl m_isThree ?_
    simp (disch := first | assumption | exact pj_long_i | exact pj_long_r | exact pj_long_n | decide) only [x111_4, x111_7, x111_9, simprocAttr, pj_then_s, pj_pv_s, pj_pi_s, pj_set_s, if_true, if_false, not_true_eq_false, not_false_eq_true, pj_up_up, pj_up_sort, pj_up_ap, pj_upd_ap, pj_a3_0, pj_a3_1, pj_a3_2, pj_a3_u0, pj_a3_u1, pj_a3_u2, c1]
    refine e111_10 rfl m_isReading ?_
    simp (disch := first | assumption | exact pj_long_i | exact pj_long_r | exact pj_long_n | decide) only [x111_13, x111_16, x111_19, simprocAttr, pj_then_s, pj_pv_s, pj_pi_s, pj_set_s, if_true, if_false, not_true_eq_false, not_false_eq_true, pj_up_up, pj_up_sort, pj_up_ap, pj_upd_ap, pj_a3_0, pj_a3_1, pj_a3_2, pj_a3_u0, pj_a3_u1, pj_a3_u2, c2]
    refine e111_20 rfl (by first | (rw [hm]; rfl) | (simp only [simprocAttr, pj_up_ap, if_true, if_false, hm, pj_mo]; rfl)) (m_keep hm hf hk) ?_
    simp (disch := first | assumption | exact pj_long_i | exact pj_long_r | exact pj_long_n | decide) only [x111_23, x111_24, simprocAttr, pj_then_s, pj_pv_s, pj_pi_s, pj_set_s, if_true, if_false, not_true_eq_false, not_false_eq_true, pj_up_up, pj_up_sort, pj_up_ap, pj_upd_ap, pj_a3_0, pj_a3_1, pj_a3_2, pj_a3_u0, pj_a3_u1, pj_a3_u2, pj_long_i, pj_long_r, pj_long_n]
    exact q3
