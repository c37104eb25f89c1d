/-! THE REFERENCE'S UNDO AND SLOTS -/
section M8
variable {N S : Nat} {o : Option Value × pj_Mem} {hl mid lo hi fi pl sp nu ic td : Int32} {f g : Nat → Int32}
theorem m_undo_l {i : Nat} (hi6 : i < 6) : ∀ (n j : Nat) (H : pj_Heap), j + n = 152 → H 109 = pj_mo (nI i) mid lo hi fi pl sp nu ic td → H 112 = .inr (0, 912, .inl f) → H 110 = .inr (0, 152, .inl (va_cpy f g (152 * i) 0 j)) →
    pj_Ends 120 (56, [some (.ref 109), some (.int (nI 152))], [], (N, S, pj_up H 110 (.inr (0, 152, .inl (va_cpy f g (152 * i) 0 152))))) o →
    pj_Ends 120 (22, [some (.ref 109), some (.int (nI j))], [], (N, S, H)) o := by
  intro n
  induction n with
  | zero =>
    intro j H hj hm hf hk K
    obtain rfl : j = 152 := by omega
    have c1 : (152 : Int32) ≤ nI 152 := by decide
    rw [pj_up_id hk] at K
    simp (disch := first | assumption | exact pj_long_i | exact pj_long_r | exact pj_long_n | decide) only [x120_22, x120_23, x120_26, simprocAttr, pj_then_s, pj_pv_s, pj_pi_s, pj_set_s, if_true, if_false, not_true_eq_false, not_false_eq_true, pj_up_up, pj_up_sort, pj_up_ap, pj_upd_ap, pj_a3_0, pj_a3_1, pj_a3_2, pj_a3_u0, pj_a3_u1, pj_a3_u2, c1]
    exact K
  | succ n ih =>
    intro j H hj hm hf hk K
    have c1 : ¬ (152 : Int32) ≤ nI j := nI_ge (b := 152) (by omega) (by decide)
    have e0 : (152 : Int32) * nI i = nI (152 * i) := pk_mul 152 i
    have e9 : nI (152 * i) + nI j = nI (152 * i + j) := nI_add (152 * i) j
    have e1 : (nI j).toNatClampNeg = j := nI_clamp (by omega)
    have e2 : pj_in (nI j) 152 = true := pj_in_nI (by omega) (by decide)
    have e4 : (nI (152 * i + j)).toNatClampNeg = 152 * i + j := nI_clamp (by omega)
    have e5 : pj_in (nI (152 * i + j)) 912 = true := pj_in_nI (by omega) (by decide)
    rw [x120_22]
    simp (disch := first | assumption | exact pj_long_i | exact pj_long_r | exact pj_long_n | decide) only [x120_23, x120_26, x120_29, x120_30, x120_33, x120_34, x120_35, x120_38, x120_41, x120_42, x120_45, x120_46, x120_47, x120_48, x120_49, x120_50, x120_53, simprocAttr, pj_then_s, pj_pv_s, pj_pi_s, pj_set_s, if_true, if_false, not_true_eq_false, not_false_eq_true, pj_up_up, pj_up_sort, pj_up_ap, pj_upd_ap, pj_a3_0, pj_a3_1, pj_a3_2, pj_a3_u0, pj_a3_u1, pj_a3_u2, pj_f6_0, pj_f6_2, pj_f6_3, pj_arl_i, pj_ars_i, pj_long_i, pj_long_r, pj_long_n, hm, hf, hk, pj_mo, c1, e0, e9, e1, e4, nI_1]
    have e3 : upd (va_cpy f g (152 * i) 0 j) j (f (152 * i + j)) = va_cpy f g (152 * i) 0 (j + 1) := by
      have := pj_cpy_s (f := f) (g := g) (sp := 152 * i) (dp := 0) (j := j)
      rw [Nat.zero_add] at this
      exact this
    rw [e3]
    refine ih (j + 1) _ (by omega) (by (try simp (disch := decide) only [simprocAttr, pj_up_ap, if_true, if_false, pj_mo, hm]) <;> rfl) (by (try simp (disch := decide) only [simprocAttr, pj_up_ap, if_true, if_false, pj_mo, hm, hf]) <;> rfl) (by (try simp (disch := decide) only [simprocAttr, pj_up_ap, if_true, if_false, pj_mo, hm]) <;> rfl) ?_
    rw [pj_up_up]
    exact K
theorem m_save_l {i : Nat} (hi2 : i < 2) : ∀ (n j : Nat) (H : pj_Heap), j + n = 152 → H 109 = pj_mo hl mid lo hi fi pl sp nu ic td → H 110 = .inr (0, 152, .inl f) → H 113 = .inr (0, 304, .inl (va_cpy f g 0 (152 * i) j)) →
    pj_Ends 121 (46, [some (.ref 109), some (.int (nI i)), some (.int (nI 152))], [], (N, S, pj_up H 113 (.inr (0, 304, .inl (va_cpy f g 0 (152 * i) 152))))) o →
    pj_Ends 121 (15, [some (.ref 109), some (.int (nI i)), some (.int (nI j))], [], (N, S, H)) o := by
  intro n
  induction n with
  | zero =>
    intro j H hj hm hf hk K
    obtain rfl : j = 152 := by omega
    have c1 : (152 : Int32) ≤ nI 152 := by decide
    rw [pj_up_id hk] at K
    simp (disch := first | assumption | exact pj_long_i | exact pj_long_r | exact pj_long_n | decide) only [x121_15, x121_16, x121_19, simprocAttr, pj_then_s, pj_pv_s, pj_pi_s, pj_set_s, if_true, if_false, not_true_eq_false, not_false_eq_true, pj_up_up, pj_up_sort, pj_up_ap, pj_upd_ap, pj_a3_0, pj_a3_1, pj_a3_2, pj_a3_u0, pj_a3_u1, pj_a3_u2, c1]
    exact K
  | succ n ih =>
    intro j H hj hm hf hk K
    have c1 : ¬ (152 : Int32) ≤ nI j := nI_ge (b := 152) (by omega) (by decide)
    have e0 : (152 : Int32) * nI i = nI (152 * i) := pk_mul 152 i
    have e9 : nI (152 * i) + nI j = nI (152 * i + j) := nI_add (152 * i) j
    have e1 : (nI j).toNatClampNeg = j := nI_clamp (by omega)
    have e2 : pj_in (nI j) 152 = true := pj_in_nI (by omega) (by decide)
    have e4 : (nI (152 * i + j)).toNatClampNeg = 152 * i + j := nI_clamp (by omega)
    have e5 : pj_in (nI (152 * i + j)) 304 = true := pj_in_nI (by omega) (by decide)
    rw [x121_15]
    simp (disch := first | assumption | exact pj_long_i | exact pj_long_r | exact pj_long_n | decide) only [x121_16, x121_19, x121_22, x121_23, x121_26, x121_29, x121_30, x121_31, x121_32, x121_33, x121_34, x121_37, x121_38, x121_39, x121_40, x121_43, simprocAttr, pj_then_s, pj_pv_s, pj_pi_s, pj_set_s, if_true, if_false, not_true_eq_false, not_false_eq_true, pj_up_up, pj_up_sort, pj_up_ap, pj_upd_ap, pj_a3_0, pj_a3_1, pj_a3_2, pj_a3_u0, pj_a3_u1, pj_a3_u2, pj_f6_4, pj_f6_0, pj_arl_i, pj_ars_i, pj_long_i, pj_long_r, pj_long_n, hm, hf, hk, pj_mo, c1, e0, e9, e1, e4, nI_1]
    have e3 : upd (va_cpy f g 0 (152 * i) j) (152 * i + j) (f j) = va_cpy f g 0 (152 * i) (j + 1) := by
      have := pj_cpy_s (f := f) (g := g) (sp := 0) (dp := 152 * i) (j := j)
      rw [Nat.zero_add] at this
      exact this
    rw [e3]
    refine ih (j + 1) _ (by omega) (by (try simp (disch := decide) only [simprocAttr, pj_up_ap, if_true, if_false, pj_mo, hm]) <;> rfl) (by (try simp (disch := decide) only [simprocAttr, pj_up_ap, if_true, if_false, pj_mo, hm, hf]) <;> rfl) (by (try simp (disch := decide) only [simprocAttr, pj_up_ap, if_true, if_false, pj_mo, hm]) <;> rfl) ?_
    rw [pj_up_up]
    exact K
theorem m_rest_l {i : Nat} (hi2 : i < 2) : ∀ (n j : Nat) (H : pj_Heap), j + n = 152 → H 109 = pj_mo hl mid lo hi fi pl sp nu ic td → H 113 = .inr (0, 304, .inl f) → H 110 = .inr (0, 152, .inl (va_cpy f g (152 * i) 0 j)) →
    pj_Ends 122 (62, [some (.ref 109), some (.int (nI i)), some (.int (nI 152))], [], (N, S, pj_up H 110 (.inr (0, 152, .inl (va_cpy f g (152 * i) 0 152))))) o →
    pj_Ends 122 (31, [some (.ref 109), some (.int (nI i)), some (.int (nI j))], [], (N, S, H)) o := by
  intro n
  induction n with
  | zero =>
    intro j H hj hm hf hk K
    obtain rfl : j = 152 := by omega
    have c1 : (152 : Int32) ≤ nI 152 := by decide
    rw [pj_up_id hk] at K
    simp (disch := first | assumption | exact pj_long_i | exact pj_long_r | exact pj_long_n | decide) only [x122_31, x122_32, x122_35, simprocAttr, pj_then_s, pj_pv_s, pj_pi_s, pj_set_s, if_true, if_false, not_true_eq_false, not_false_eq_true, pj_up_up, pj_up_sort, pj_up_ap, pj_upd_ap, pj_a3_0, pj_a3_1, pj_a3_2, pj_a3_u0, pj_a3_u1, pj_a3_u2, c1]
    exact K
  | succ n ih =>
    intro j H hj hm hf hk K
    have c1 : ¬ (152 : Int32) ≤ nI j := nI_ge (b := 152) (by omega) (by decide)
    have e0 : (152 : Int32) * nI i = nI (152 * i) := pk_mul 152 i
    have e9 : nI (152 * i) + nI j = nI (152 * i + j) := nI_add (152 * i) j
    have e1 : (nI j).toNatClampNeg = j := nI_clamp (by omega)
    have e2 : pj_in (nI j) 152 = true := pj_in_nI (by omega) (by decide)
    have e4 : (nI (152 * i + j)).toNatClampNeg = 152 * i + j := nI_clamp (by omega)
    have e5 : pj_in (nI (152 * i + j)) 304 = true := pj_in_nI (by omega) (by decide)
    rw [x122_31]
    simp (disch := first | assumption | exact pj_long_i | exact pj_long_r | exact pj_long_n | decide) only [x122_32, x122_35, x122_38, x122_39, x122_42, x122_43, x122_44, x122_47, x122_50, x122_51, x122_52, x122_53, x122_54, x122_55, x122_56, x122_59, simprocAttr, pj_then_s, pj_pv_s, pj_pi_s, pj_set_s, if_true, if_false, not_true_eq_false, not_false_eq_true, pj_up_up, pj_up_sort, pj_up_ap, pj_upd_ap, pj_a3_0, pj_a3_1, pj_a3_2, pj_a3_u0, pj_a3_u1, pj_a3_u2, pj_f6_0, pj_f6_4, pj_arl_i, pj_ars_i, pj_long_i, pj_long_r, pj_long_n, hm, hf, hk, pj_mo, c1, e0, e9, e1, e4, nI_1]
    have e3 : upd (va_cpy f g (152 * i) 0 j) j (f (152 * i + j)) = va_cpy f g (152 * i) 0 (j + 1) := by
      have := pj_cpy_s (f := f) (g := g) (sp := 152 * i) (dp := 0) (j := j)
      rw [Nat.zero_add] at this
      exact this
    rw [e3]
    refine ih (j + 1) _ (by omega) (by (try simp (disch := decide) only [simprocAttr, pj_up_ap, if_true, if_false, pj_mo, hm]) <;> rfl) (by (try simp (disch := decide) only [simprocAttr, pj_up_ap, if_true, if_false, pj_mo, hm, hf]) <;> rfl) (by (try simp (disch := decide) only [simprocAttr, pj_up_ap, if_true, if_false, pj_mo, hm]) <;> rfl) ?_
    rw [pj_up_up]
    exact K
end M8
theorem va_cpy_row {g f r : Nat → Int32} {p : Nat} (hg : ∀ j, 152 ≤ j → g j = 0) (hr : ∀ j, 152 ≤ j → r j = 0) (h : ∀ j, j < 152 → f (p + j) = r j) : va_cpy f g p 0 152 = r := by
  funext j
  unfold va_cpy
  by_cases hj : j < 152
  · rw [if_pos ⟨by omega, by omega⟩, Nat.sub_zero, h j hj]
  · rw [if_neg (by omega), hg j (by omega), hr j (by omega)]
def op_undo (x : pj_Sg) : pj_Sg × Int32 := if x.2.1 = 0 then (x, -5) else ((x.2.2.1 (x.2.1 - 1), x.2.1 - 1, x.2.2), nI (x.2.1 - 1))
theorem M_undo {N S : Nat} {H : pj_Heap} {x : pj_Sg} (hx : pj_In x) (hM : pj_M H x) : pj_Mo N S H 120 [some (.ref 109), none] (op_undo x) := by
  have hM' := hM
  obtain ⟨k, hs0, sl0, r0, r1, r2, a0, a1, a2, mid, lo, hi, fi, sp, nu, ic, td, ⟨hm, hf, hk, hh, hs, hv, hg, hA, hp⟩, hr⟩ := hM
  obtain ⟨f, n, h, s, sv, pl, pd⟩ := x
  simp only at hm hf hh hv hp hr hM' ⊢
  unfold op_undo
  by_cases c1 : n = 0
  · subst c1
    rw [if_pos rfl]
    refine pj_Mo_same hM' ?_
    simp (disch := first | assumption | exact pj_long_i | exact pj_long_r | exact pj_long_n | decide) only [x120_0, x120_1, x120_4, x120_7, simprocAttr, pj_then_s, pj_pv_s, pj_pi_s, pj_set_s, if_true, if_false, not_true_eq_false, not_false_eq_true, pj_up_up, pj_up_sort, pj_up_ap, pj_upd_ap, pj_a3_0, pj_a3_1, pj_a3_2, pj_a3_u0, pj_a3_u1, pj_a3_u2, pj_f6_3, hm, pj_mo, nI_0]
    exact t120_9
  rw [if_neg c1]
  simp only
  have h6 : n ≤ 6 := hx.2.1
  obtain ⟨i, rfl⟩ : ∃ i, n = i + 1 := ⟨n - 1, by omega⟩
  have e1 : i + 1 - 1 = i := rfl
  rw [e1]
  obtain ⟨t, ht, h152, -⟩ := hx.1
  obtain ⟨t2, ht2, h2, -⟩ := hx.2.2.2.1 i (by simp only; omega)
  have c2 : ¬ nI (i + 1) = 0 := nI_ne0 (by omega) (by omega)
  have ec := va_cpy_row (g := f) (f := hs0) (r := h i) (p := 152 * i) h152 h2 (fun j hj => hr.1 i j (by omega) hj)
  refine ⟨pj_up (pj_up H 109 (pj_mo (nI i) mid lo hi fi (nI pl) sp nu ic td)) 110 (.inr (0, 152, .inl (h i))), ⟨k, hs0, sl0, r0, r1, r2, a0, a1, a2, mid, lo, hi, fi, sp, nu, ic, td, ⟨(by (try simp (disch := decide) only [simprocAttr, pj_up_ap, if_true, if_false, pj_mo, hm, hf, hk, hh, hs, hv, hg, hA, hp]) <;> rfl), (by (try simp (disch := decide) only [simprocAttr, pj_up_ap, if_true, if_false, pj_mo, hm, hf, hk, hh, hs, hv, hg, hA, hp]) <;> rfl), (by (try simp (disch := decide) only [simprocAttr, pj_up_ap, if_true, if_false, pj_mo, hm, hf, hk, hh, hs, hv, hg, hA, hp]) <;> rfl), (by (try simp (disch := decide) only [simprocAttr, pj_up_ap, if_true, if_false, pj_mo, hm, hf, hk, hh, hs, hv, hg, hA, hp]) <;> rfl), (by (try simp (disch := decide) only [simprocAttr, pj_up_ap, if_true, if_false, pj_mo, hm, hf, hk, hh, hs, hv, hg, hA, hp]) <;> rfl), (by (try simp (disch := decide) only [simprocAttr, pj_up_ap, if_true, if_false, pj_mo, hm, hf, hk, hh, hs, hv, hg, hA, hp]) <;> rfl), (by (try simp (disch := decide) only [simprocAttr, pj_up_ap, if_true, if_false, pj_mo, hm, hf, hk, hh, hs, hv, hg, hA, hp]) <;> rfl), (by (try simp (disch := decide) only [simprocAttr, pj_up_ap, if_true, if_false, pj_mo, hm, hf, hk, hh, hs, hv, hg, hA, hp]) <;> rfl), (by (try simp (disch := decide) only [simprocAttr, pj_up_ap, if_true, if_false, pj_mo, hm, hf, hk, hh, hs, hv, hg, hA, hp]) <;> rfl)⟩, fun i' j (hi' : i' < i) hj => hr.1 i' j (by omega) hj, hr.2⟩, (by intro j hj; repeat rw [pj_up_lo hj (by decide)]), ?_⟩
  simp (disch := first | assumption | exact pj_long_i | exact pj_long_r | exact pj_long_n | decide) only [x120_0, x120_1, x120_4, x120_7, x120_10, x120_11, x120_11i, x120_12, x120_15, x120_16, x120_17, x120_20, x120_21, simprocAttr, pj_then_s, pj_pv_s, pj_pi_s, pj_set_s, if_true, if_false, not_true_eq_false, not_false_eq_true, pj_up_up, pj_up_sort, pj_up_ap, pj_upd_ap, pj_a3_0, pj_a3_1, pj_a3_2, pj_a3_u0, pj_a3_u1, pj_a3_u2, pj_f6_3, pj_s6_3, pj_long_i, pj_long_r, pj_long_n, hm, pj_mo, c2, nI_pred]
  refine m_undo_l (i := i) (f := hs0) (g := f) (mid := mid) (lo := lo) (hi := hi) (fi := fi) (pl := nI pl) (sp := sp) (nu := nu) (ic := ic) (td := td) (by omega) 152 0 _ rfl (by (try simp (disch := decide) only [simprocAttr, pj_up_ap, if_true, if_false, pj_mo, hm]) <;> rfl) (by (try simp (disch := decide) only [simprocAttr, pj_up_ap, if_true, if_false, pj_mo, hh]) <;> rfl) (by rw [pj_cpy_0]; simp (disch := decide) only [simprocAttr, pj_up_ap, if_true, if_false, hf]) ?_
  rw [ec]
  simp (disch := first | assumption | exact pj_long_i | exact pj_long_r | exact pj_long_n | decide) only [x120_56, x120_57, simprocAttr, pj_then_s, pj_pv_s, pj_pi_s, pj_set_s, if_true, if_false, not_true_eq_false, not_false_eq_true, pj_up_up, pj_up_sort, pj_up_ap, pj_upd_ap, pj_a3_0, pj_a3_1, pj_a3_2, pj_a3_u0, pj_a3_u1, pj_a3_u2, pj_f6_3, pj_mo]
  exact t120_60
theorem sp_slot {a : Int32} (h : 0 ≤ a ∧ a ≤ 1) : a = nI 0 ∨ a = nI 1 := by
  rw [Int32.le_iff_toInt_le, Int32.le_iff_toInt_le] at h
  have e0 : (0 : Int32).toInt = 0 := rfl
  have e2 : (1 : Int32).toInt = 1 := rfl
  rw [e0, e2] at h
  have : a.toInt = 0 ∨ a.toInt = 1 := by omega
  rcases this with e | e
  · exact Or.inl (Int32.toInt_inj.mp e)
  · exact Or.inr (Int32.toInt_inj.mp e)
def op_save (x : pj_Sg) (a : Int32) : pj_Sg × Int32 := if 0 ≤ a ∧ a ≤ 1 then ((x.1, x.2.1, x.2.2.1, fun i => if i = a.toNatClampNeg then x.1 else x.2.2.2.1 i, upd x.2.2.2.2.1 a.toNatClampNeg 1, x.2.2.2.2.2), x.1 6) else (x, -2)
theorem M_save {N S : Nat} {H : pj_Heap} {x : pj_Sg} {a : Int32} (hx : pj_In x) (hM : pj_M H x) : pj_Mo N S H 121 [some (.ref 109), some (.int a), none] (op_save x a) := by
  have hM' := hM
  obtain ⟨k, hs0, sl0, r0, r1, r2, a0, a1, a2, mid, lo, hi, fi, sp, nu, ic, td, ⟨hm, hf, hk, hh, hs, hv, hg, hA, hp⟩, hr⟩ := hM
  obtain ⟨f, n, h, s, sv, pl, pd⟩ := x
  simp only at hm hf hh hv hp hr hM' ⊢
  unfold op_save
  have hin : sp_in a.toInt64 0 1 = if 0 ≤ a ∧ a ≤ 1 then 1 else 0 := sp_in_i (by decide) (by decide)
  by_cases c1 : 0 ≤ a ∧ a ≤ 1
  · rw [if_pos c1]
    rw [if_pos c1] at hin
    simp only
    have K0 : ∀ (i : Nat), i < 2 → a = nI i → pj_Mo N S H 121 [some (.ref 109), some (.int (nI i)), none] ((f, n, h, fun i' => if i' = i then f else s i', upd sv i 1, pl, pd), f 6) := by
      intro i hi2 ea
      rw [ea] at hin
      have e1 : (nI i).toNatClampNeg = i := nI_clamp (by omega)
      have e2 : pj_in (nI i) 2 = true := pj_in_nI (by omega) (by decide)
      have hR : pj_MR n h (fun i' => if i' = i then f else s i') (upd sv i 1) hs0 (va_cpy f sl0 0 (152 * i) 152) := by
        refine ⟨hr.1, fun i' j hi' hj q => ?_⟩
        by_cases ei : i' = i
        · subst ei
          simp only [if_true]
          unfold va_cpy
          rw [if_pos ⟨by omega, by omega⟩]
          exact congrArg _ (by omega)
        · simp only [ei, if_false]
          rw [pj_upd_ap, if_neg ei] at q
          rw [← hr.2 i' j hi' hj q]
          unfold va_cpy
          rw [if_neg (by omega)]
      refine ⟨pj_up (pj_up H 113 (.inr (0, 304, .inl (va_cpy f sl0 0 (152 * i) 152)))) 114 (.inr (0, 2, .inl (upd sv i 1))), ⟨k, hs0, va_cpy f sl0 0 (152 * i) 152, r0, r1, r2, a0, a1, a2, mid, lo, hi, fi, sp, nu, ic, td, ⟨(by (try simp (disch := decide) only [simprocAttr, pj_up_ap, if_true, if_false, pj_mo, hm, hf, hk, hh, hs, hv, hg, hA, hp]) <;> rfl), (by (try simp (disch := decide) only [simprocAttr, pj_up_ap, if_true, if_false, pj_mo, hm, hf, hk, hh, hs, hv, hg, hA, hp]) <;> rfl), (by (try simp (disch := decide) only [simprocAttr, pj_up_ap, if_true, if_false, pj_mo, hm, hf, hk, hh, hs, hv, hg, hA, hp]) <;> rfl), (by (try simp (disch := decide) only [simprocAttr, pj_up_ap, if_true, if_false, pj_mo, hm, hf, hk, hh, hs, hv, hg, hA, hp]) <;> rfl), (by (try simp (disch := decide) only [simprocAttr, pj_up_ap, if_true, if_false, pj_mo, hm, hf, hk, hh, hs, hv, hg, hA, hp]) <;> rfl), (by (try simp (disch := decide) only [simprocAttr, pj_up_ap, if_true, if_false, pj_mo, hm, hf, hk, hh, hs, hv, hg, hA, hp]) <;> rfl), (by (try simp (disch := decide) only [simprocAttr, pj_up_ap, if_true, if_false, pj_mo, hm, hf, hk, hh, hs, hv, hg, hA, hp]) <;> rfl), (by (try simp (disch := decide) only [simprocAttr, pj_up_ap, if_true, if_false, pj_mo, hm, hf, hk, hh, hs, hv, hg, hA, hp]) <;> rfl), (by (try simp (disch := decide) only [simprocAttr, pj_up_ap, if_true, if_false, pj_mo, hm, hf, hk, hh, hs, hv, hg, hA, hp]) <;> rfl)⟩, hR⟩, (by intro j hj; repeat rw [pj_up_lo hj (by decide)]), ?_⟩
      simp (disch := first | assumption | exact pj_long_i | exact pj_long_r | exact pj_long_n | decide) only [x121_0, x121_1, x121_2, x121_3, simprocAttr, pj_then_s, pj_pv_s, pj_pi_s, pj_set_s, if_true, if_false, not_true_eq_false, not_false_eq_true, pj_up_up, pj_up_sort, pj_up_ap, pj_upd_ap, pj_a3_0, pj_a3_1, pj_a3_2, pj_a3_u0, pj_a3_u1, pj_a3_u2]
      refine e121_4 rfl m_in ?_
      simp (disch := first | assumption | exact pj_long_i | exact pj_long_r | exact pj_long_n | decide) only [x121_7, x121_10, x121_13, x121_14, simprocAttr, pj_then_s, pj_pv_s, pj_pi_s, pj_set_s, if_true, if_false, not_true_eq_false, not_false_eq_true, pj_up_up, pj_up_sort, pj_up_ap, pj_upd_ap, pj_a3_0, pj_a3_1, pj_a3_2, pj_a3_u0, pj_a3_u1, pj_a3_u2, pj_long_i, pj_long_r, pj_long_n, hin]
      refine m_save_l (i := i) (f := f) (g := sl0) (hl := nI n) (mid := mid) (lo := lo) (hi := hi) (fi := fi) (pl := nI pl) (sp := sp) (nu := nu) (ic := ic) (td := td) hi2 152 0 _ rfl hm hf (by rw [pj_cpy_0]; exact hs) ?_
      simp (disch := first | assumption | exact pj_long_i | exact pj_long_r | exact pj_long_n | decide) only [x121_46, x121_47, x121_50, x121_51, x121_52, x121_53, x121_54, x121_57, x121_59, simprocAttr, pj_then_s, pj_pv_s, pj_pi_s, pj_set_s, if_true, if_false, not_true_eq_false, not_false_eq_true, pj_up_up, pj_up_sort, pj_up_ap, pj_upd_ap, pj_a3_0, pj_a3_1, pj_a3_2, pj_a3_u0, pj_a3_u1, pj_a3_u2, pj_f6_5, pj_ars_i, pj_f6_0, pj_arl_i, hm, hf, hv, pj_mo, e1]
      exact t121_60
    rcases sp_slot c1 with e | e
    · have K1 := K0 0 (by decide) e
      rw [e]
      exact K1
    · have K1 := K0 1 (by decide) e
      rw [e]
      exact K1
  · rw [if_neg c1]
    rw [if_neg c1] at hin
    refine pj_Mo_same hM' ?_
    simp (disch := first | assumption | exact pj_long_i | exact pj_long_r | exact pj_long_n | decide) only [x121_0, x121_1, x121_2, x121_3, simprocAttr, pj_then_s, pj_pv_s, pj_pi_s, pj_set_s, if_true, if_false, not_true_eq_false, not_false_eq_true, pj_up_up, pj_up_sort, pj_up_ap, pj_upd_ap, pj_a3_0, pj_a3_1, pj_a3_2, pj_a3_u0, pj_a3_u1, pj_a3_u2]
    refine e121_4 rfl m_in ?_
    simp (disch := first | assumption | exact pj_long_i | exact pj_long_r | exact pj_long_n | decide) only [x121_7, x121_10, simprocAttr, pj_then_s, pj_pv_s, pj_pi_s, pj_set_s, if_true, if_false, not_true_eq_false, not_false_eq_true, pj_up_up, pj_up_sort, pj_up_ap, pj_upd_ap, pj_a3_0, pj_a3_1, pj_a3_2, pj_a3_u0, pj_a3_u1, pj_a3_u2, hin]
    exact t121_12
def op_restore (x : pj_Sg) (a : Int32) : pj_Sg × Int32 := if 0 ≤ a ∧ a ≤ 1 then (if x.2.2.2.2.1 a.toNatClampNeg = 0 then (x, -5) else (sp_push x (x.2.2.2.1 a.toNatClampNeg), x.2.2.2.1 a.toNatClampNeg 6)) else (x, -2)
theorem M_restore {N S : Nat} {H : pj_Heap} {x : pj_Sg} {a : Int32} (hx : pj_In x) (hM : pj_M H x) : pj_Mo N S H 122 [some (.ref 109), some (.int a), none] (op_restore x a) := by
  have hM' := hM
  obtain ⟨k, hs0, sl0, r0, r1, r2, a0, a1, a2, mid, lo, hi, fi, sp, nu, ic, td, ⟨hm, hf, hk, hh, hs, hv, hg, hA, hp⟩, hr⟩ := hM
  unfold op_restore
  have hin : sp_in a.toInt64 0 1 = if 0 ≤ a ∧ a ≤ 1 then 1 else 0 := sp_in_i (by decide) (by decide)
  by_cases c1 : 0 ≤ a ∧ a ≤ 1
  · rw [if_pos c1]
    rw [if_pos c1] at hin
    have K0 : ∀ (i : Nat), i < 2 → a = nI i → pj_Mo N S H 122 [some (.ref 109), some (.int (nI i)), none] (if x.2.2.2.2.1 i = 0 then (x, -5) else (sp_push x (x.2.2.2.1 i), x.2.2.2.1 i 6)) := by
      intro i hi2 ea
      rw [ea] at hin
      have e1 : (nI i).toNatClampNeg = i := nI_clamp (by omega)
      have e2 : pj_in (nI i) 2 = true := pj_in_nI (by omega) (by decide)
      by_cases c2 : x.2.2.2.2.1 i = 0
      · rw [if_pos c2]
        refine pj_Mo_same hM' ?_
        simp (disch := first | assumption | exact pj_long_i | exact pj_long_r | exact pj_long_n | decide) only [x122_0, x122_1, x122_2, x122_3, simprocAttr, pj_then_s, pj_pv_s, pj_pi_s, pj_set_s, if_true, if_false, not_true_eq_false, not_false_eq_true, pj_up_up, pj_up_sort, pj_up_ap, pj_upd_ap, pj_a3_0, pj_a3_1, pj_a3_2, pj_a3_u0, pj_a3_u1, pj_a3_u2]
        refine e122_4 rfl m_in ?_
        simp (disch := first | assumption | exact pj_long_i | exact pj_long_r | exact pj_long_n | decide) only [x122_7, x122_10, x122_13, x122_14, x122_17, x122_18, x122_19, x122_22, simprocAttr, pj_then_s, pj_pv_s, pj_pi_s, pj_set_s, if_true, if_false, not_true_eq_false, not_false_eq_true, pj_up_up, pj_up_sort, pj_up_ap, pj_upd_ap, pj_a3_0, pj_a3_1, pj_a3_2, pj_a3_u0, pj_a3_u1, pj_a3_u2, pj_f6_5, pj_arl_i, hin, hm, hv, pj_mo, e1, c2]
        exact t122_24
      · rw [if_neg c2]
        obtain ⟨t, ht, h152, -⟩ := hx.1
        have hsv := hx.2.2.2.2 i hi2
        have q1 : x.2.2.2.2.1 i = 1 := by
          rcases hsv with q | q
          · exact absurd q c2
          · exact q.1
        obtain ⟨t2, ht2, h2, -⟩ : ∃ t, t ≤ 100000 ∧ pj_Ro (x.2.2.2.1 i) t := by
          rcases hsv with q | q
          · exact absurd q c2
          · exact q.2
        have ec := va_cpy_row (g := x.1) (f := sl0) (r := x.2.2.2.1 i) (p := 152 * i) h152 h2 (fun j hj => hr.2 i j hi2 hj q1)
        refine m_chg (f' := x.2.2.2.1 i) (H1 := pj_up (pj_up H 110 (.inr (0, 152, .inl (x.2.2.2.1 i)))) 111 (.inr (0, 152, .inl (va_cpy x.1 k 0 0 152)))) (mid := mid) (lo := lo) (hi := hi) (fi := fi) (sp := sp) (nu := nu) (ic := ic) (td := td) (hs := hs0) (sl := sl0) (k := va_cpy x.1 k 0 0 152) (r0 := r0) (r1 := r1) (r2 := r2) (a0 := a0) (a1 := a1) (a2 := a2) hx ⟨(by (try simp (disch := decide) only [simprocAttr, pj_up_ap, if_true, if_false, pj_mo, hm, hf, hk, hh, hs, hv, hg, hA, hp]) <;> rfl), (by (try simp (disch := decide) only [simprocAttr, pj_up_ap, if_true, if_false, pj_mo, hm, hf, hk, hh, hs, hv, hg, hA, hp]) <;> rfl), (by (try simp (disch := decide) only [simprocAttr, pj_up_ap, if_true, if_false, pj_mo, hm, hf, hk, hh, hs, hv, hg, hA, hp]) <;> rfl), (by (try simp (disch := decide) only [simprocAttr, pj_up_ap, if_true, if_false, pj_mo, hm, hf, hk, hh, hs, hv, hg, hA, hp]) <;> rfl), (by (try simp (disch := decide) only [simprocAttr, pj_up_ap, if_true, if_false, pj_mo, hm, hf, hk, hh, hs, hv, hg, hA, hp]) <;> rfl), (by (try simp (disch := decide) only [simprocAttr, pj_up_ap, if_true, if_false, pj_mo, hm, hf, hk, hh, hs, hv, hg, hA, hp]) <;> rfl), (by (try simp (disch := decide) only [simprocAttr, pj_up_ap, if_true, if_false, pj_mo, hm, hf, hk, hh, hs, hv, hg, hA, hp]) <;> rfl), (by (try simp (disch := decide) only [simprocAttr, pj_up_ap, if_true, if_false, pj_mo, hm, hf, hk, hh, hs, hv, hg, hA, hp]) <;> rfl), (by (try simp (disch := decide) only [simprocAttr, pj_up_ap, if_true, if_false, pj_mo, hm, hf, hk, hh, hs, hv, hg, hA, hp]) <;> rfl)⟩ hr (fun j hj => va_cpy_lt hj) (by intro j hj; repeat rw [pj_up_lo hj (by decide)]) (fun H2 h2 => ?_)
        simp (disch := first | assumption | exact pj_long_i | exact pj_long_r | exact pj_long_n | decide) only [x122_0, x122_1, x122_2, x122_3, simprocAttr, pj_then_s, pj_pv_s, pj_pi_s, pj_set_s, if_true, if_false, not_true_eq_false, not_false_eq_true, pj_up_up, pj_up_sort, pj_up_ap, pj_upd_ap, pj_a3_0, pj_a3_1, pj_a3_2, pj_a3_u0, pj_a3_u1, pj_a3_u2]
        refine e122_4 rfl m_in ?_
        simp (disch := first | assumption | exact pj_long_i | exact pj_long_r | exact pj_long_n | decide) only [x122_7, x122_10, x122_13, x122_14, x122_17, x122_18, x122_19, x122_22, x122_25, simprocAttr, pj_then_s, pj_pv_s, pj_pi_s, pj_set_s, if_true, if_false, not_true_eq_false, not_false_eq_true, pj_up_up, pj_up_sort, pj_up_ap, pj_upd_ap, pj_a3_0, pj_a3_1, pj_a3_2, pj_a3_u0, pj_a3_u1, pj_a3_u2, pj_f6_5, pj_arl_i, hin, hm, hv, pj_mo, e1, c2]
        refine e122_26 rfl (by first | (rw [hm]; rfl) | (simp only [simprocAttr, pj_up_ap, if_true, if_false, hm, pj_mo]; rfl)) (m_keep hm hf hk) ?_
        simp (disch := first | assumption | exact pj_long_i | exact pj_long_r | exact pj_long_n | decide) only [x122_29, x122_30, simprocAttr, pj_then_s, pj_pv_s, pj_pi_s, pj_set_s, if_true, if_false, not_true_eq_false, not_false_eq_true, pj_up_up, pj_up_sort, pj_up_ap, pj_upd_ap, pj_a3_0, pj_a3_1, pj_a3_2, pj_a3_u0, pj_a3_u1, pj_a3_u2, pj_long_i, pj_long_r, pj_long_n]
        refine m_rest_l (i := i) (f := sl0) (g := x.1) (hl := nI x.2.1) (mid := mid) (lo := lo) (hi := hi) (fi := fi) (pl := nI x.2.2.2.2.2.1) (sp := sp) (nu := nu) (ic := ic) (td := td) hi2 152 0 _ rfl (by (try simp (disch := decide) only [simprocAttr, pj_up_ap, if_true, if_false, pj_mo, hm]) <;> rfl) (by (try simp (disch := decide) only [simprocAttr, pj_up_ap, if_true, if_false, pj_mo, hs]) <;> rfl) (by rw [pj_cpy_0]; simp (disch := decide) only [simprocAttr, pj_up_ap, if_true, if_false, hf]) ?_
        rw [ec]
        simp (disch := first | assumption | exact pj_long_i | exact pj_long_r | exact pj_long_n | decide) only [x122_62, x122_63, x122_64, x122_67, x122_69, simprocAttr, pj_then_s, pj_pv_s, pj_pi_s, pj_set_s, if_true, if_false, not_true_eq_false, not_false_eq_true, pj_up_up, pj_up_sort, pj_up_ap, pj_upd_ap, pj_a3_0, pj_a3_1, pj_a3_2, pj_a3_u0, pj_a3_u1, pj_a3_u2, pj_f6_0, pj_arl_i, hm, pj_mo]
        refine e122_70 rfl (by first | (rw [hm]; rfl) | (simp only [simprocAttr, pj_up_ap, if_true, if_false, hm, pj_mo]; rfl)) h2 ?_
        exact t122_73
    rcases sp_slot c1 with e | e
    · have K1 := K0 0 (by decide) e
      rw [e]
      exact K1
    · have K1 := K0 1 (by decide) e
      rw [e]
      exact K1
  · rw [if_neg c1]
    rw [if_neg c1] at hin
    refine pj_Mo_same hM' ?_
    simp (disch := first | assumption | exact pj_long_i | exact pj_long_r | exact pj_long_n | decide) only [x122_0, x122_1, x122_2, x122_3, simprocAttr, pj_then_s, pj_pv_s, pj_pi_s, pj_set_s, if_true, if_false, not_true_eq_false, not_false_eq_true, pj_up_up, pj_up_sort, pj_up_ap, pj_upd_ap, pj_a3_0, pj_a3_1, pj_a3_2, pj_a3_u0, pj_a3_u1, pj_a3_u2]
    refine e122_4 rfl m_in ?_
    simp (disch := first | assumption | exact pj_long_i | exact pj_long_r | exact pj_long_n | decide) only [x122_7, x122_10, simprocAttr, pj_then_s, pj_pv_s, pj_pi_s, pj_set_s, if_true, if_false, not_true_eq_false, not_false_eq_true, pj_up_up, pj_up_sort, pj_up_ap, pj_upd_ap, pj_a3_0, pj_a3_1, pj_a3_2, pj_a3_u0, pj_a3_u1, pj_a3_u2, hin]
    exact t122_12
