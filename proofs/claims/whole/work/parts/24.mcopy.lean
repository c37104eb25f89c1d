/-! THE REFERENCE'S COPIES -/
theorem pj_in_nI {j n : Nat} (h : j < n) (hn : n < 2 ^ 31) : pj_in (nI j) n = true := by
  have h1 := vp_in_nI h hn
  unfold vp_in at h1
  unfold pj_in
  simp only [Bool.not_eq_true', Bool.or_eq_false_iff, decide_eq_false_iff_not]
  exact ⟨fun q => h1 (Or.inl q), fun q => h1 (Or.inr q)⟩
theorem pj_cpy_s {f g : Nat → Int32} {sp dp j : Nat} : upd (va_cpy f g sp dp j) (dp + j) (f (sp + j)) = va_cpy f g sp dp (j + 1) := by
  funext k
  unfold upd va_cpy
  by_cases h : k = dp + j
  · subst h
    rw [if_pos rfl, if_pos ⟨by omega, by omega⟩, show sp + (dp + j - dp) = sp + j by omega]
  · rw [if_neg h]
    by_cases h2 : dp ≤ k ∧ k < dp + j
    · rw [if_pos h2, if_pos ⟨h2.1, by omega⟩]
    · rw [if_neg h2, if_neg (by omega)]
theorem pj_cpy_0 {f g : Nat → Int32} {sp dp : Nat} : va_cpy f g sp dp 0 = g := by
  funext k
  unfold va_cpy
  rw [if_neg (by omega)]
theorem pj_cpy_hi {f g : Nat → Int32} {sp dp j k : Nat} (h : dp + j ≤ k) : va_cpy f g sp dp j k = g k := if_neg (by omega)
theorem pj_nl (n : Nat) : (OfNat.ofNat n : Int32) = nI n := rfl
theorem pj_up_id {H : pj_Heap} {a : Nat} {c : pj_Cell} (h : H a = c) : pj_up H a c = H := by
  funext j
  unfold pj_up
  split
  · rename_i e; rw [e, h]
  · rfl
section MC
variable {N S : Nat} {o : Option Value × pj_Mem} {hl mid lo hi fi pl sp nu ic td : Int32} {f g : Nat → Int32}
theorem m_keep_l : ∀ (n j : Nat) (H : pj_Heap), j + n = 152 → H 109 = pj_mo hl mid lo hi fi pl sp nu ic td → H 110 = .inr (0, 152, .inl f) → H 111 = .inr (0, 152, .inl (va_cpy f g 0 0 j)) →
    pj_Ends 77 (2, [some (.ref 109), some (.int (nI j))], [], (N, S, H)) (none, (N, S, pj_up H 111 (.inr (0, 152, .inl (va_cpy f g 0 0 152))))) := by
  intro n
  induction n with
  | zero =>
    intro j H hj hm hf hk
    obtain rfl : j = 152 := by omega
    have c1 : (152 : Int32) ≤ nI 152 := by decide
    simp (disch := first | assumption | exact pj_long_i | exact pj_long_r | exact pj_long_n | decide) only [x77_0, x77_1, x77_2, x77_3, x77_6, x77_9, x77_10, x77_13, x77_14, x77_15, x77_18, x77_19, x77_20, x77_21, x77_24, simprocAttr, pj_then_s, pj_pv_s, pj_pi_s, pj_set_s, if_true, if_false, not_true_eq_false, not_false_eq_true, pj_up_up, pj_up_sort, pj_up_ap, pj_upd_ap, pj_a3_0, pj_a3_1, pj_a3_2, pj_a3_u0, pj_a3_u1, pj_a3_u2, pj_long_i, pj_long_r, pj_long_n, pj_f6_1, pj_f6_0, pj_arl_i, pj_ars_i, c1]
    rw [pj_up_id hk]
    exact t77_27
  | succ n ih =>
    intro j H hj hm hf hk
    have c1 : ¬ (152 : Int32) ≤ nI j := nI_ge (b := 152) (by omega) (by decide)
    have e1 : (nI j).toNatClampNeg = j := nI_clamp (by omega)
    have e2 : pj_in (nI j) 152 = true := pj_in_nI (by omega) (by decide)
    rw [x77_2]
    simp (disch := first | assumption | exact pj_long_i | exact pj_long_r | exact pj_long_n | decide) only [x77_0, x77_1, x77_3, x77_6, x77_9, x77_10, x77_13, x77_14, x77_15, x77_18, x77_19, x77_20, x77_21, x77_24, simprocAttr, pj_then_s, pj_pv_s, pj_pi_s, pj_set_s, if_true, if_false, not_true_eq_false, not_false_eq_true, pj_up_up, pj_up_sort, pj_up_ap, pj_upd_ap, pj_a3_0, pj_a3_1, pj_a3_2, pj_a3_u0, pj_a3_u1, pj_a3_u2, pj_long_i, pj_long_r, pj_long_n, pj_f6_1, pj_f6_0, pj_arl_i, pj_ars_i, hm, hf, hk, pj_mo, c1, e1, nI_1]
    have e3 : upd (va_cpy f g 0 0 j) j (f j) = va_cpy f g 0 0 (j + 1) := by
      have := pj_cpy_s (f := f) (g := g) (sp := 0) (dp := 0) (j := j)
      rw [Nat.zero_add] at this
      exact this
    rw [e3]
    refine (ih (j + 1) _ (by omega) (by first | assumption | rfl | (simp only [simprocAttr, pj_up_ap, if_true, if_false, *])) (by first | assumption | rfl | (simp only [simprocAttr, pj_up_ap, if_true, if_false, *])) (by first | assumption | rfl | (simp only [simprocAttr, pj_up_ap, if_true, if_false, *]))).res ?_
    rw [pj_up_up]
theorem m_keep {H : pj_Heap} (hm : H 109 = pj_mo hl mid lo hi fi pl sp nu ic td) (hf : H 110 = .inr (0, 152, .inl f)) (hk : H 111 = .inr (0, 152, .inl g)) :
    pj_Ends 77 (0, [some (.ref 109), none], [], (N, S, H)) (none, (N, S, pj_up H 111 (.inr (0, 152, .inl (va_cpy f g 0 0 152))))) := by
  simp (disch := first | assumption | exact pj_long_i | exact pj_long_r | exact pj_long_n | decide) only [x77_0, x77_1, simprocAttr, pj_then_s, pj_pv_s, pj_pi_s, pj_set_s, if_true, if_false, not_true_eq_false, not_false_eq_true, pj_up_up, pj_up_sort, pj_up_ap, pj_upd_ap, pj_a3_0, pj_a3_1, pj_a3_2, pj_a3_u0, pj_a3_u1, pj_a3_u2, pj_long_i, pj_long_r, pj_long_n]
  exact m_keep_l 152 0 H rfl hm hf (by rw [pj_cpy_0]; exact hk)
theorem m_giveBack_l : ∀ (n j : Nat) (H : pj_Heap), j + n = 152 → H 109 = pj_mo hl mid lo hi fi pl sp nu ic td → H 111 = .inr (0, 152, .inl f) → H 110 = .inr (0, 152, .inl (va_cpy f g 0 0 j)) →
    pj_Ends 109 (2, [some (.ref 109), some (.int (nI j))], [], (N, S, H)) (none, (N, S, pj_up H 110 (.inr (0, 152, .inl (va_cpy f g 0 0 152))))) := by
  intro n
  induction n with
  | zero =>
    intro j H hj hm hf hk
    obtain rfl : j = 152 := by omega
    have c1 : (152 : Int32) ≤ nI 152 := by decide
    simp (disch := first | assumption | exact pj_long_i | exact pj_long_r | exact pj_long_n | decide) only [x109_0, x109_1, x109_2, x109_3, x109_6, x109_9, x109_10, x109_13, x109_14, x109_15, x109_18, x109_19, x109_20, x109_21, x109_24, simprocAttr, pj_then_s, pj_pv_s, pj_pi_s, pj_set_s, if_true, if_false, not_true_eq_false, not_false_eq_true, pj_up_up, pj_up_sort, pj_up_ap, pj_upd_ap, pj_a3_0, pj_a3_1, pj_a3_2, pj_a3_u0, pj_a3_u1, pj_a3_u2, pj_long_i, pj_long_r, pj_long_n, pj_f6_0, pj_f6_1, pj_arl_i, pj_ars_i, c1]
    rw [pj_up_id hk]
    exact t109_27
  | succ n ih =>
    intro j H hj hm hf hk
    have c1 : ¬ (152 : Int32) ≤ nI j := nI_ge (b := 152) (by omega) (by decide)
    have e1 : (nI j).toNatClampNeg = j := nI_clamp (by omega)
    have e2 : pj_in (nI j) 152 = true := pj_in_nI (by omega) (by decide)
    rw [x109_2]
    simp (disch := first | assumption | exact pj_long_i | exact pj_long_r | exact pj_long_n | decide) only [x109_0, x109_1, x109_3, x109_6, x109_9, x109_10, x109_13, x109_14, x109_15, x109_18, x109_19, x109_20, x109_21, x109_24, simprocAttr, pj_then_s, pj_pv_s, pj_pi_s, pj_set_s, if_true, if_false, not_true_eq_false, not_false_eq_true, pj_up_up, pj_up_sort, pj_up_ap, pj_upd_ap, pj_a3_0, pj_a3_1, pj_a3_2, pj_a3_u0, pj_a3_u1, pj_a3_u2, pj_long_i, pj_long_r, pj_long_n, pj_f6_0, pj_f6_1, pj_arl_i, pj_ars_i, hm, hf, hk, pj_mo, c1, e1, nI_1]
    have e3 : upd (va_cpy f g 0 0 j) j (f j) = va_cpy f g 0 0 (j + 1) := by
      have := pj_cpy_s (f := f) (g := g) (sp := 0) (dp := 0) (j := j)
      rw [Nat.zero_add] at this
      exact this
    rw [e3]
    refine (ih (j + 1) _ (by omega) (by first | assumption | rfl | (simp only [simprocAttr, pj_up_ap, if_true, if_false, *])) (by first | assumption | rfl | (simp only [simprocAttr, pj_up_ap, if_true, if_false, *])) (by first | assumption | rfl | (simp only [simprocAttr, pj_up_ap, if_true, if_false, *]))).res ?_
    rw [pj_up_up]
theorem m_giveBack {H : pj_Heap} (hm : H 109 = pj_mo hl mid lo hi fi pl sp nu ic td) (hf : H 111 = .inr (0, 152, .inl f)) (hk : H 110 = .inr (0, 152, .inl g)) :
    pj_Ends 109 (0, [some (.ref 109), none], [], (N, S, H)) (none, (N, S, pj_up H 110 (.inr (0, 152, .inl (va_cpy f g 0 0 152))))) := by
  simp (disch := first | assumption | exact pj_long_i | exact pj_long_r | exact pj_long_n | decide) only [x109_0, x109_1, simprocAttr, pj_then_s, pj_pv_s, pj_pi_s, pj_set_s, if_true, if_false, not_true_eq_false, not_false_eq_true, pj_up_up, pj_up_sort, pj_up_ap, pj_upd_ap, pj_a3_0, pj_a3_1, pj_a3_2, pj_a3_u0, pj_a3_u1, pj_a3_u2, pj_long_i, pj_long_r, pj_long_n]
  exact m_giveBack_l 152 0 H rfl hm hf (by rw [pj_cpy_0]; exact hk)
/-- the record's row moves down -/
theorem m_shift_l {c : Int32} {x3 : Option Value} : ∀ (n j : Nat) (H : pj_Heap), j + n = 110 → H 109 = pj_mo hl mid lo hi fi pl sp nu ic td → H 110 = .inr (0, 152, .inl (va_cpy f f 41 31 j)) →
    pj_Ends 97 (47, [some (.ref 109), some (.int c), some (.int (nI 110)), x3], [], (N, S, pj_up H 110 (.inr (0, 152, .inl (va_cpy f f 41 31 110))))) o →
    pj_Ends 97 (14, [some (.ref 109), some (.int c), some (.int (nI j)), x3], [], (N, S, H)) o := by
  intro n
  induction n with
  | zero =>
    intro j H hj hm hk K
    obtain rfl : j = 110 := by omega
    have c1 : (110 : Int32) ≤ nI 110 := by decide
    rw [pj_up_id hk] at K
    simp (disch := first | assumption | exact pj_long_i | exact pj_long_r | exact pj_long_n | decide) only [x97_14, x97_15, x97_17, simprocAttr, pj_then_s, pj_pv_s, pj_pi_s, pj_set_s, if_true, if_false, not_true_eq_false, not_false_eq_true, pj_up_up, pj_up_sort, pj_up_ap, pj_upd_ap, pj_a3_0, pj_a3_1, pj_a3_2, pj_a3_u0, pj_a3_u1, pj_a3_u2, c1]
    exact K
  | succ n ih =>
    intro j H hj hm hk K
    have c1 : ¬ (110 : Int32) ≤ nI j := nI_ge (b := 110) (by omega) (by decide)
    have e0 : (31 : Int32) + nI j = nI (31 + j) := nI_add 31 j
    have e9 : nI (31 + j) + (10 : Int32) = nI (31 + j + 10) := nI_add (31 + j) 10
    have e1 : (nI (31 + j)).toNatClampNeg = 31 + j := nI_clamp (by omega)
    have e2 : pj_in (nI (31 + j)) 152 = true := pj_in_nI (by omega) (by decide)
    have e4 : (nI (31 + j + 10)).toNatClampNeg = 31 + j + 10 := nI_clamp (by omega)
    have e5 : pj_in (nI (31 + j + 10)) 152 = true := pj_in_nI (by omega) (by decide)
    have e6 : va_cpy f f 41 31 j (31 + j + 10) = f (41 + j) := by rw [pj_cpy_hi (by omega), show 31 + j + 10 = 41 + j by omega]
    rw [x97_14]
    simp (disch := first | assumption | exact pj_long_i | exact pj_long_r | exact pj_long_n | decide) only [x97_15, x97_17, x97_20, x97_21, x97_24, x97_26, x97_27, x97_28, x97_29, x97_32, x97_34, x97_35, x97_36, x97_38, x97_39, x97_40, x97_41, x97_44, simprocAttr, pj_then_s, pj_pv_s, pj_pi_s, pj_set_s, if_true, if_false, not_true_eq_false, not_false_eq_true, pj_up_up, pj_up_sort, pj_up_ap, pj_upd_ap, pj_a3_0, pj_a3_1, pj_a3_2, pj_a3_u0, pj_a3_u1, pj_a3_u2, pj_f6_0, pj_arl_i, pj_ars_i, pj_long_i, pj_long_r, pj_long_n, hm, hk, pj_mo, c1, e0, e9, e1, e4, e6, nI_1]
    rw [pj_cpy_s]
    refine ih (j + 1) _ (by omega) (by first | assumption | rfl | (simp only [simprocAttr, pj_up_ap, if_true, if_false, *])) (by first | assumption | rfl | (simp only [simprocAttr, pj_up_ap, if_true, if_false, *])) ?_
    rw [pj_up_up]
    exact K
end MC
