/-! THE REFERENCE READS -/
def ps_h (p : Nat → Int32) (l s : Nat) (a b : Int32) : Int32 := if s < l then (if a ≤ p s ∧ p s ≤ b then 1 else 0) else 0
theorem ps_h_01 {p : Nat → Int32} {l s : Nat} {a b : Int32} : ps_h p l s a b = 0 ∨ ps_h p l s a b = 1 := by
  unfold ps_h
  split
  · split
    · exact Or.inr rfl
    · exact Or.inl rfl
  · exact Or.inl rfl
section MP
variable {N S : Nat} {H : pj_Heap} {o : Option Value × pj_Mem} {hl mid lo hi fi nu ic td : Int32} {p : Nat → Int32} {l s : Nat}
theorem m_isHere {a b : Int32} (hl80 : l ≤ 80) (hs80 : s ≤ 80) (hm : H 109 = pj_mo hl mid lo hi fi (nI l) (nI s) nu ic td) (hp : H 117 = .inr (0, 80, .inl p)) :
    pj_Ends 117 (0, [some (.ref 109), some (.int a), some (.int b)], [], (N, S, H)) (some (.int (ps_h p l s a b)), (N, S, H)) := by
  unfold ps_h
  have e1 : (nI s).toNatClampNeg = s := nI_clamp (by omega)
  by_cases c1 : s < l
  · rw [if_pos c1]
    have e2 : pj_in (nI s) 80 = true := pj_in_nI (by omega) (by decide)
    have d1 : ¬ nI l ≤ nI s := nI_ge c1 (by omega)
    simp (disch := first | assumption | exact pj_long_i | exact pj_long_r | exact pj_long_n | decide) only [x117_0, x117_1, x117_4, x117_5, x117_8, x117_11, x117_12, x117_15, x117_16, x117_19, x117_20, x117_21, x117_22, x117_23, x117_24, simprocAttr, pj_then_s, pj_pv_s, pj_pi_s, pj_set_s, if_true, if_false, not_true_eq_false, not_false_eq_true, pj_up_up, pj_up_sort, pj_up_ap, pj_upd_ap, pj_a3_0, pj_a3_1, pj_a3_2, pj_a3_u0, pj_a3_u1, pj_a3_u2, pj_f6_14, pj_f6_13, pj_f6_12, pj_arl_i, hm, hp, pj_mo, d1, e1]
    refine e117_25 rfl m_in ?_
    rw [sp_in_i (a' := a) (b' := b) rfl rfl]
    by_cases c2 : a ≤ p s ∧ p s ≤ b
    · rw [if_pos c2]
      simp (disch := first | assumption | exact pj_long_i | exact pj_long_r | exact pj_long_n | decide) only [x117_28, x117_31, x117_32, x117_35, simprocAttr, pj_then_s, pj_pv_s, pj_pi_s, pj_set_s, if_true, if_false, not_true_eq_false, not_false_eq_true, pj_up_up, pj_up_sort, pj_up_ap, pj_upd_ap, pj_a3_0, pj_a3_1, pj_a3_2, pj_a3_u0, pj_a3_u1, pj_a3_u2]
      exact t117_36 (Or.inr rfl)
    · rw [if_neg c2]
      simp (disch := first | assumption | exact pj_long_i | exact pj_long_r | exact pj_long_n | decide) only [x117_28, x117_31, x117_32, x117_35, simprocAttr, pj_then_s, pj_pv_s, pj_pi_s, pj_set_s, if_true, if_false, not_true_eq_false, not_false_eq_true, pj_up_up, pj_up_sort, pj_up_ap, pj_upd_ap, pj_a3_0, pj_a3_1, pj_a3_2, pj_a3_u0, pj_a3_u1, pj_a3_u2]
      exact t117_36 (Or.inl rfl)
  · rw [if_neg c1]
    have d1 : nI l ≤ nI s := nI_le (by omega) (by omega)
    simp (disch := first | assumption | exact pj_long_i | exact pj_long_r | exact pj_long_n | decide) only [x117_0, x117_1, x117_4, x117_5, x117_8, x117_11, x117_12, x117_15, x117_16, x117_19, x117_20, x117_21, x117_22, x117_23, x117_24, x117_28, x117_31, x117_32, x117_35, simprocAttr, pj_then_s, pj_pv_s, pj_pi_s, pj_set_s, if_true, if_false, not_true_eq_false, not_false_eq_true, pj_up_up, pj_up_sort, pj_up_ap, pj_upd_ap, pj_a3_0, pj_a3_1, pj_a3_2, pj_a3_u0, pj_a3_u1, pj_a3_u2, pj_f6_14, pj_f6_13, pj_f6_12, pj_arl_i, hm, pj_mo, d1]
    exact t117_36 (Or.inl rfl)
/-- whether a character is here, and where the reading goes on -/
def ps_t (p : Nat → Int32) (l s : Nat) (a : Int32) : Int32 := ps_h p l s a a
theorem ps_t_01 {a : Int32} : ps_t p l s a = 0 ∨ ps_t p l s a = 1 := ps_h_01
def ps_n (p : Nat → Int32) (l s : Nat) (a : Int32) : Nat := if ps_t p l s a = 0 then s else s + 1
theorem m_takes {a : Int32} (hl80 : l ≤ 80) (hs80 : s ≤ 80) (hm : H 109 = pj_mo hl mid lo hi fi (nI l) (nI s) nu ic td) (hp : H 117 = .inr (0, 80, .inl p)) :
    pj_Ends 116 (0, [some (.ref 109), some (.int a), none], [], (N, S, H)) (some (.int (ps_t p l s a)), (N, S, pj_up H 109 (pj_mo hl mid lo hi fi (nI l) (nI (ps_n p l s a)) nu ic td))) := by
  unfold ps_n
  simp (disch := first | assumption | exact pj_long_i | exact pj_long_r | exact pj_long_n | decide) only [x116_0, x116_1, x116_2, simprocAttr, pj_then_s, pj_pv_s, pj_pi_s, pj_set_s, if_true, if_false, not_true_eq_false, not_false_eq_true, pj_up_up, pj_up_sort, pj_up_ap, pj_upd_ap, pj_a3_0, pj_a3_1, pj_a3_2, pj_a3_u0, pj_a3_u1, pj_a3_u2]
  refine e116_3 rfl (by first | (rw [hm]; rfl) | (simp only [simprocAttr, pj_up_ap, if_true, if_false, hm, pj_mo]; rfl)) (m_isHere hl80 hs80 hm hp) ?_
  rw [show ps_h p l s a a = ps_t p l s a from rfl]
  rcases ps_t_01 (p := p) (l := l) (s := s) (a := a) with e | e
  · rw [if_pos e, e]
    have z : nI s + (0 : Int32) = nI s := nI_add s 0
    simp (disch := first | assumption | exact pj_long_i | exact pj_long_r | exact pj_long_n | decide) only [x116_6, x116_7, x116_8, x116_8i, x116_9, x116_12, x116_13, x116_16, x116_17, x116_20, x116_21, x116_22, x116_25, simprocAttr, pj_then_s, pj_pv_s, pj_pi_s, pj_set_s, if_true, if_false, not_true_eq_false, not_false_eq_true, pj_up_up, pj_up_sort, pj_up_ap, pj_upd_ap, pj_a3_0, pj_a3_1, pj_a3_2, pj_a3_u0, pj_a3_u1, pj_a3_u2, pj_long_i, pj_long_r, pj_long_n, pj_f6_14, pj_s6_14, hm, pj_mo, z]
    exact t116_26 (Or.inl rfl)
  · rw [if_neg (by rw [e]; decide), e]
    simp (disch := first | assumption | exact pj_long_i | exact pj_long_r | exact pj_long_n | decide) only [x116_6, x116_7, x116_8, x116_8i, x116_9, x116_12, x116_13, x116_16, x116_17, x116_20, x116_21, x116_22, x116_25, simprocAttr, pj_then_s, pj_pv_s, pj_pi_s, pj_set_s, if_true, if_false, not_true_eq_false, not_false_eq_true, pj_up_up, pj_up_sort, pj_up_ap, pj_upd_ap, pj_a3_0, pj_a3_1, pj_a3_2, pj_a3_u0, pj_a3_u1, pj_a3_u2, pj_long_i, pj_long_r, pj_long_n, pj_f6_14, pj_s6_14, hm, pj_mo, nI_1]
    exact t116_26 (Or.inr rfl)
theorem ps_n_le {a : Int32} (hs : s ≤ l) : s ≤ ps_n p l s a ∧ ps_n p l s a ≤ l := by
  unfold ps_n ps_t ps_h
  by_cases h : s < l
  · rw [if_pos h]
    split
    · split <;> omega
    · split <;> omega
  · rw [if_neg h, if_pos rfl]
    omega
/-- the digits behind the first: so many are left to look at -/
def ps_d (p : Nat → Int32) (l : Nat) : Nat → Int32 → Nat → Int32 × Nat
  | 0, d, s => (d, s)
  | m + 1, d, s => if d ≤ 0 then (d, s) else if ps_h p l s 48 57 = 0 then (d, s) else if 10 * d + p s - 48 ≤ 500 then ps_d p l m (10 * d + p s - 48) (s + 1) else (d, s)
theorem ps_d_le : ∀ (m : Nat) (d : Int32) (s : Nat), s ≤ l → s ≤ (ps_d p l m d s).2 ∧ (ps_d p l m d s).2 ≤ l
  | 0, d, s, h => ⟨Nat.le_refl _, h⟩
  | m + 1, d, s, h => by
    unfold ps_d
    split
    · exact ⟨Nat.le_refl _, h⟩
    · split
      · exact ⟨Nat.le_refl _, h⟩
      · rename_i hh
        split
        · have hs : s < l := by
            unfold ps_h at hh
            by_cases q : s < l
            · exact q
            · rw [if_neg q] at hh
              exact absurd rfl hh
          have := ps_d_le m (10 * d + p s - 48) (s + 1) (by omega)
          omega
        · exact ⟨Nat.le_refl _, h⟩
theorem m_num_l {x1 : Int32} (hl80 : l ≤ 80) : ∀ (m s : Nat) (d : Int32) (H : pj_Heap), s ≤ l → l ≤ s + m → H 109 = pj_mo hl mid lo hi fi (nI l) (nI s) d ic td → H 117 = .inr (0, 80, .inl p) →
    pj_Ends 118 (127, [some (.ref 109), some (.int x1)], [], (N, S, pj_up H 109 (pj_mo hl mid lo hi fi (nI l) (nI (ps_d p l m d s).2) (ps_d p l m d s).1 ic td))) o →
    pj_Ends 118 (46, [some (.ref 109), some (.int x1)], [], (N, S, H)) o := by
  intro m
  induction m with
  | zero =>
    intro s d H hs hm0 hm hp K
    obtain rfl : s = l := by omega
    have e : ps_d p s 0 d s = (d, s) := rfl
    rw [e] at K
    simp only at K
    rw [pj_up_id hm] at K
    by_cases c1 : d ≤ 0
    · simp (disch := first | assumption | exact pj_long_i | exact pj_long_r | exact pj_long_n | decide) only [x118_46, x118_47, x118_50, simprocAttr, pj_then_s, pj_pv_s, pj_pi_s, pj_set_s, if_true, if_false, not_true_eq_false, not_false_eq_true, pj_up_up, pj_up_sort, pj_up_ap, pj_upd_ap, pj_a3_0, pj_a3_1, pj_a3_2, pj_a3_u0, pj_a3_u1, pj_a3_u2, pj_f6_15, hm, pj_mo, c1]
      exact K
    · simp (disch := first | assumption | exact pj_long_i | exact pj_long_r | exact pj_long_n | decide) only [x118_46, x118_47, x118_50, x118_53, x118_54, x118_56, simprocAttr, pj_then_s, pj_pv_s, pj_pi_s, pj_set_s, if_true, if_false, not_true_eq_false, not_false_eq_true, pj_up_up, pj_up_sort, pj_up_ap, pj_upd_ap, pj_a3_0, pj_a3_1, pj_a3_2, pj_a3_u0, pj_a3_u1, pj_a3_u2, pj_f6_15, hm, pj_mo, c1]
      refine e118_58 rfl (by first | (rw [hm]; rfl) | (simp only [simprocAttr, pj_up_ap, if_true, if_false, hm, pj_mo]; rfl)) (m_isHere hl80 (by omega) hm hp) ?_
      have e2 : ps_h p s s 48 57 = 0 := if_neg (by omega)
      simp (disch := first | assumption | exact pj_long_i | exact pj_long_r | exact pj_long_n | decide) only [x118_61, simprocAttr, pj_then_s, pj_pv_s, pj_pi_s, pj_set_s, if_true, if_false, not_true_eq_false, not_false_eq_true, pj_up_up, pj_up_sort, pj_up_ap, pj_upd_ap, pj_a3_0, pj_a3_1, pj_a3_2, pj_a3_u0, pj_a3_u1, pj_a3_u2, e2]
      exact K
  | succ m ih =>
    intro s d H hs hm0 hm hp K
    unfold ps_d at K
    rw [x118_46]
    by_cases c1 : d ≤ 0
    · rw [if_pos c1] at K
      simp only at K
      rw [pj_up_id hm] at K
      simp (disch := first | assumption | exact pj_long_i | exact pj_long_r | exact pj_long_n | decide) only [x118_47, x118_50, simprocAttr, pj_then_s, pj_pv_s, pj_pi_s, pj_set_s, if_true, if_false, not_true_eq_false, not_false_eq_true, pj_up_up, pj_up_sort, pj_up_ap, pj_upd_ap, pj_a3_0, pj_a3_1, pj_a3_2, pj_a3_u0, pj_a3_u1, pj_a3_u2, pj_f6_15, hm, pj_mo, c1]
      exact K
    rw [if_neg c1] at K
    simp (disch := first | assumption | exact pj_long_i | exact pj_long_r | exact pj_long_n | decide) only [x118_47, x118_50, x118_53, x118_54, x118_56, simprocAttr, pj_then_s, pj_pv_s, pj_pi_s, pj_set_s, if_true, if_false, not_true_eq_false, not_false_eq_true, pj_up_up, pj_up_sort, pj_up_ap, pj_upd_ap, pj_a3_0, pj_a3_1, pj_a3_2, pj_a3_u0, pj_a3_u1, pj_a3_u2, pj_f6_15, hm, pj_mo, c1]
    refine e118_58 rfl (by first | (rw [hm]; rfl) | (simp only [simprocAttr, pj_up_ap, if_true, if_false, hm, pj_mo]; rfl)) (m_isHere hl80 (by omega) hm hp) ?_
    by_cases c2 : ps_h p l s 48 57 = 0
    · rw [if_pos c2] at K
      simp only at K
      rw [pj_up_id hm] at K
      simp (disch := first | assumption | exact pj_long_i | exact pj_long_r | exact pj_long_n | decide) only [x118_61, simprocAttr, pj_then_s, pj_pv_s, pj_pi_s, pj_set_s, if_true, if_false, not_true_eq_false, not_false_eq_true, pj_up_up, pj_up_sort, pj_up_ap, pj_upd_ap, pj_a3_0, pj_a3_1, pj_a3_2, pj_a3_u0, pj_a3_u1, pj_a3_u2, c2]
      exact K
    rw [if_neg c2] at K
    have hsl : s < l := by
      unfold ps_h at c2
      by_cases q : s < l
      · exact q
      · rw [if_neg q] at c2
        exact absurd rfl c2
    have e1 : (nI s).toNatClampNeg = s := nI_clamp (by omega)
    have e2 : pj_in (nI s) 80 = true := pj_in_nI (by omega) (by decide)
    by_cases c3 : 10 * d + p s - 48 ≤ 500
    · rw [if_pos c3] at K
      have d3 : ¬ 500 < 10 * d + p s - 48 := Int32.not_lt.mpr c3
      simp (disch := first | assumption | exact pj_long_i | exact pj_long_r | exact pj_long_n | decide) only [x118_61, x118_64, x118_66, x118_67, x118_70, x118_71, x118_72, x118_75, x118_76, x118_79, x118_80, x118_81, x118_83, x118_84, x118_87, x118_90, x118_91, x118_93, x118_94, x118_97, x118_98, x118_99, x118_102, x118_103, x118_106, x118_107, x118_108, x118_110, x118_111, x118_114, x118_115, x118_115i, x118_116, x118_119, x118_120, x118_121, x118_124, simprocAttr, pj_then_s, pj_pv_s, pj_pi_s, pj_set_s, if_true, if_false, not_true_eq_false, not_false_eq_true, pj_up_up, pj_up_sort, pj_up_ap, pj_upd_ap, pj_a3_0, pj_a3_1, pj_a3_2, pj_a3_u0, pj_a3_u1, pj_a3_u2, pj_f6_15, pj_f6_12, pj_f6_14, pj_arl_i, pj_s6_15, pj_s6_14, c2, hm, hp, pj_mo, e1, d3, nI_1]
      refine ih (s + 1) (10 * d + p s - 48) _ (by omega) (by omega) (by (try simp (disch := decide) only [simprocAttr, pj_up_ap, if_true, if_false, pj_mo, hm]) <;> rfl) (by (try simp (disch := decide) only [simprocAttr, pj_up_ap, if_true, if_false, pj_mo, hp]) <;> rfl) ?_
      rw [pj_up_up]
      exact K
    · rw [if_neg c3] at K
      simp only at K
      rw [pj_up_id hm] at K
      have d3 : 500 < 10 * d + p s - 48 := Int32.not_le.mp c3
      simp (disch := first | assumption | exact pj_long_i | exact pj_long_r | exact pj_long_n | decide) only [x118_61, x118_64, x118_66, x118_67, x118_70, x118_71, x118_72, x118_75, x118_76, x118_79, x118_80, x118_81, x118_83, x118_84, x118_87, simprocAttr, pj_then_s, pj_pv_s, pj_pi_s, pj_set_s, if_true, if_false, not_true_eq_false, not_false_eq_true, pj_up_up, pj_up_sort, pj_up_ap, pj_upd_ap, pj_a3_0, pj_a3_1, pj_a3_2, pj_a3_u0, pj_a3_u1, pj_a3_u2, pj_f6_15, pj_f6_12, pj_f6_14, pj_arl_i, c2, hm, hp, pj_mo, e1, d3]
      exact K
/-- a number: whether there is one, where the reading goes on, what it is -/
def ps_num (p : Nat → Int32) (l s : Nat) : Int32 × Nat × Int32 :=
  if ps_h p l (ps_n p l s 45) 48 57 = 0 then (0, ps_n p l s 45, 0)
  else (1, (ps_d p l 80 (p (ps_n p l s 45) - 48) (ps_n p l s 45 + 1)).2, if ps_t p l s 45 = 0 then (ps_d p l 80 (p (ps_n p l s 45) - 48) (ps_n p l s 45 + 1)).1 else -(ps_d p l 80 (p (ps_n p l s 45) - 48) (ps_n p l s 45 + 1)).1)
theorem ps_h_lt {a b : Int32} (h : ¬ ps_h p l s a b = 0) : s < l := by
  unfold ps_h at h
  by_cases q : s < l
  · exact q
  · rw [if_neg q] at h
    exact absurd rfl h
theorem ps_num_le (hs : s ≤ l) : s ≤ (ps_num p l s).2.1 ∧ (ps_num p l s).2.1 ≤ l ∧ (¬ (ps_num p l s).1 = 0 → s < (ps_num p l s).2.1) := by
  have h1 := ps_n_le (p := p) (a := 45) hs
  unfold ps_num
  by_cases c : ps_h p l (ps_n p l s 45) 48 57 = 0
  · rw [if_pos c]
    exact ⟨h1.1, h1.2, fun q => absurd rfl q⟩
  · rw [if_neg c]
    have h2 := ps_h_lt c
    have h3 := ps_d_le (p := p) (l := l) 80 (p (ps_n p l s 45) - 48) (ps_n p l s 45 + 1) (by omega)
    simp only
    refine ⟨by omega, by omega, fun _ => by omega⟩
theorem m_readsNumber (hl80 : l ≤ 80) (hs : s ≤ l) (hm : H 109 = pj_mo hl mid lo hi fi (nI l) (nI s) nu ic td) (hp : H 117 = .inr (0, 80, .inl p)) :
    pj_Ends 118 (0, [some (.ref 109), none], [], (N, S, H)) (some (.int (ps_num p l s).1), (N, S, pj_up H 109 (pj_mo hl mid lo hi fi (nI l) (nI (ps_num p l s).2.1) (if (ps_num p l s).1 = 0 then nu else (ps_num p l s).2.2) ic td))) := by
  have h1 := ps_n_le (p := p) (a := 45) hs
  simp (disch := first | assumption | exact pj_long_i | exact pj_long_r | exact pj_long_n | decide) only [x118_0, x118_1, simprocAttr, pj_then_s, pj_pv_s, pj_pi_s, pj_set_s, if_true, if_false, not_true_eq_false, not_false_eq_true, pj_up_up, pj_up_sort, pj_up_ap, pj_upd_ap, pj_a3_0, pj_a3_1, pj_a3_2, pj_a3_u0, pj_a3_u1, pj_a3_u2]
  refine e118_3 rfl (by first | (rw [hm]; rfl) | (simp only [simprocAttr, pj_up_ap, if_true, if_false, hm, pj_mo]; rfl)) (m_takes hl80 (by omega) hm hp) ?_
  simp (disch := first | assumption | exact pj_long_i | exact pj_long_r | exact pj_long_n | decide) only [x118_6, x118_7, x118_8, x118_10, simprocAttr, pj_then_s, pj_pv_s, pj_pi_s, pj_set_s, if_true, if_false, not_true_eq_false, not_false_eq_true, pj_up_up, pj_up_sort, pj_up_ap, pj_upd_ap, pj_a3_0, pj_a3_1, pj_a3_2, pj_a3_u0, pj_a3_u1, pj_a3_u2, pj_long_i, pj_long_r, pj_long_n]
  refine e118_12 rfl (by first | (rw [hm]; rfl) | (simp only [simprocAttr, pj_up_ap, if_true, if_false, hm, pj_mo]; rfl)) (m_isHere (s := ps_n p l s 45) (l := l) (p := p) (hl := hl) (mid := mid) (lo := lo) (hi := hi) (fi := fi) (nu := nu) (ic := ic) (td := td) hl80 (by omega) (by (try simp (disch := decide) only [simprocAttr, pj_up_ap, if_true, if_false, pj_mo, hm]) <;> rfl) (by (try simp (disch := decide) only [simprocAttr, pj_up_ap, if_true, if_false, pj_mo, hp]) <;> rfl)) ?_
  unfold ps_num
  by_cases c : ps_h p l (ps_n p l s 45) 48 57 = 0
  · rw [if_pos c]
    simp (disch := first | assumption | exact pj_long_i | exact pj_long_r | exact pj_long_n | decide) only [x118_15, x118_18, simprocAttr, pj_then_s, pj_pv_s, pj_pi_s, pj_set_s, if_true, if_false, not_true_eq_false, not_false_eq_true, pj_up_up, pj_up_sort, pj_up_ap, pj_upd_ap, pj_a3_0, pj_a3_1, pj_a3_2, pj_a3_u0, pj_a3_u1, pj_a3_u2, c]
    exact t118_19 (Or.inl rfl)
  · rw [if_neg c]
    have h2 := ps_h_lt c
    generalize ps_n p l s 45 = s1 at h1 h2 c ⊢
    have e1 : (nI s1).toNatClampNeg = s1 := nI_clamp (by omega)
    have e2 : pj_in (nI s1) 80 = true := pj_in_nI (by omega) (by decide)
    simp (disch := first | assumption | exact pj_long_i | exact pj_long_r | exact pj_long_n | decide) only [x118_15, x118_18, x118_20, x118_21, x118_22, x118_25, x118_26, x118_29, x118_30, x118_32, x118_33, x118_36, x118_37, x118_37i, x118_38, x118_41, x118_42, x118_43, simprocAttr, pj_then_s, pj_pv_s, pj_pi_s, pj_set_s, if_true, if_false, not_true_eq_false, not_false_eq_true, pj_up_up, pj_up_sort, pj_up_ap, pj_upd_ap, pj_a3_0, pj_a3_1, pj_a3_2, pj_a3_u0, pj_a3_u1, pj_a3_u2, pj_f6_12, pj_f6_14, pj_arl_i, pj_s6_15, pj_s6_14, c, hp, pj_mo, e1, nI_1]
    refine m_num_l (p := p) (l := l) (hl := hl) (mid := mid) (lo := lo) (hi := hi) (fi := fi) (ic := ic) (td := td) hl80 80 (s1 + 1) (p s1 - 48) _ (by omega) (by omega) (by (try simp (disch := decide) only [simprocAttr, pj_up_ap, if_true, if_false, pj_mo, hm]) <;> rfl) (by (try simp (disch := decide) only [simprocAttr, pj_up_ap, if_true, if_false, pj_mo, hp]) <;> rfl) ?_
    generalize ps_d p l 80 (p s1 - 48) (s1 + 1) = q
    obtain ⟨d, s2⟩ := q
    rcases ps_t_01 (p := p) (l := l) (s := s) (a := 45) with e | e
    · rw [e]
      simp (disch := first | assumption | exact pj_long_i | exact pj_long_r | exact pj_long_n | decide) only [x118_127, x118_128, x118_129, x118_132, x118_133, x118_136, x118_137, x118_140, x118_141, x118_144, x118_147, simprocAttr, pj_then_s, pj_pv_s, pj_pi_s, pj_set_s, if_true, if_false, not_true_eq_false, not_false_eq_true, pj_up_up, pj_up_sort, pj_up_ap, pj_upd_ap, pj_a3_0, pj_a3_1, pj_a3_2, pj_a3_u0, pj_a3_u1, pj_a3_u2, pj_f6_15, pj_s6_15, pj_mo]
      exact t118_148 (Or.inr rfl)
    · rw [e]
      simp (disch := first | assumption | exact pj_long_i | exact pj_long_r | exact pj_long_n | decide) only [x118_127, x118_128, x118_129, x118_132, x118_133, x118_136, x118_137, x118_140, x118_141, x118_144, x118_147, simprocAttr, pj_then_s, pj_pv_s, pj_pi_s, pj_set_s, if_true, if_false, not_true_eq_false, not_false_eq_true, pj_up_up, pj_up_sort, pj_up_ap, pj_upd_ap, pj_a3_0, pj_a3_1, pj_a3_2, pj_a3_u0, pj_a3_u1, pj_a3_u2, pj_f6_15, pj_s6_15, pj_mo]
      exact t118_148 (Or.inr rfl)
end MP
