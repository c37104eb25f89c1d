/-! THE REFERENCE'S CHANGES -/
def sp_in (x a b : Int64) : Int32 := if a ≤ x ∧ x ≤ b then 1 else 0
theorem sp_in_01 {x a b : Int64} : sp_in x a b = 0 ∨ sp_in x a b = 1 := by
  unfold sp_in
  split
  · exact Or.inr rfl
  · exact Or.inl rfl
theorem lg_lt {x y : Int64} : lg_cmp x y < 0 ↔ x < y := by
  unfold lg_cmp
  by_cases h : x > y
  · have h' : ¬ x < y := fun q => Int64.lt_irrefl (Int64.lt_trans h q)
    rw [if_pos h]
    exact ⟨fun q => absurd q (by decide), fun q => absurd q h'⟩
  · rw [if_neg h]
    by_cases h2 : x = y
    · rw [if_pos h2]
      subst h2
      exact ⟨fun q => absurd q (by decide), fun q => absurd q (Int64.lt_irrefl)⟩
    · rw [if_neg h2]
      exact ⟨fun _ => Int64.lt_of_le_of_ne (Int64.not_lt.mp h) h2, fun _ => by decide⟩
theorem lg_gt {x y : Int64} : 0 < lg_cmp x y ↔ y < x := by
  unfold lg_cmp
  by_cases h : x > y
  · rw [if_pos h]
    exact ⟨fun _ => h, fun _ => by decide⟩
  · rw [if_neg h]
    by_cases h2 : x = y
    · rw [if_pos h2]
      exact ⟨fun q => absurd q (by decide), fun q => absurd q h⟩
    · rw [if_neg h2]
      exact ⟨fun q => absurd q (by decide), fun q => absurd q h⟩
theorem m_in {x a b : Int64} {M : pj_Mem} : pj_Ends 76 (0, [some (.long x), none, some (.long a), none, some (.long b), none], [], M) (some (.int (sp_in x a b)), M) := by
  unfold sp_in
  by_cases h : x < a
  · have h' : ¬ (a ≤ x ∧ x ≤ b) := fun q => absurd h (Int64.not_lt.mpr q.1)
    simp (disch := first | assumption | exact pj_long_i | exact pj_long_r | exact pj_long_n | decide) only [x76_0, x76_1, x76_2, x76_3, x76_6, x76_7, x76_9, x76_10, x76_13, x76_14, x76_17, simprocAttr, pj_then_s, pj_pv_s, pj_pi_s, pj_set_s, if_true, if_false, not_true_eq_false, not_false_eq_true, pj_up_up, pj_up_sort, pj_up_ap, pj_upd_ap, pj_a3_0, pj_a3_1, pj_a3_2, pj_a3_u0, pj_a3_u1, pj_a3_u2, lg_lt, lg_gt, h, h']
    exact t76_18 (Or.inl rfl)
  · by_cases h2 : b < x
    · have h' : ¬ (a ≤ x ∧ x ≤ b) := fun q => absurd h2 (Int64.not_lt.mpr q.2)
      simp (disch := first | assumption | exact pj_long_i | exact pj_long_r | exact pj_long_n | decide) only [x76_0, x76_1, x76_2, x76_3, x76_6, x76_7, x76_9, x76_10, x76_13, x76_14, x76_17, simprocAttr, pj_then_s, pj_pv_s, pj_pi_s, pj_set_s, if_true, if_false, not_true_eq_false, not_false_eq_true, pj_up_up, pj_up_sort, pj_up_ap, pj_upd_ap, pj_a3_0, pj_a3_1, pj_a3_2, pj_a3_u0, pj_a3_u1, pj_a3_u2, lg_lt, lg_gt, h, h2, h']
      exact t76_18 (Or.inl rfl)
    · have h' : (a ≤ x ∧ x ≤ b) := ⟨Int64.not_lt.mp h, Int64.not_lt.mp h2⟩
      simp (disch := first | assumption | exact pj_long_i | exact pj_long_r | exact pj_long_n | decide) only [x76_0, x76_1, x76_2, x76_3, x76_6, x76_7, x76_9, x76_10, x76_13, x76_14, x76_17, simprocAttr, pj_then_s, pj_pv_s, pj_pi_s, pj_set_s, if_true, if_false, not_true_eq_false, not_false_eq_true, pj_up_up, pj_up_sort, pj_up_ap, pj_upd_ap, pj_a3_0, pj_a3_1, pj_a3_2, pj_a3_u0, pj_a3_u1, pj_a3_u2, lg_lt, lg_gt, h, h2, h']
      exact t76_18 (Or.inr rfl)
theorem sp_in_i {r : Int32} {a b : Int64} {a' b' : Int32} (ha : a = a'.toInt64) (hb : b = b'.toInt64) : sp_in r.toInt64 a b = if a' ≤ r ∧ r ≤ b' then 1 else 0 := by
  unfold sp_in
  subst ha
  subst hb
  have e : ∀ x y : Int32, x.toInt64 ≤ y.toInt64 ↔ x ≤ y := by
    intro x y
    rw [Int64.le_iff_toInt_le, Int32.le_iff_toInt_le, Int32.toInt_toInt64, Int32.toInt_toInt64]
  simp only [e]
def sp_rd (r : Int32) : Int32 := if -500 ≤ r ∧ r ≤ 500 then 1 else 0
theorem sp_rd_01 {r : Int32} : sp_rd r = 0 ∨ sp_rd r = 1 := by
  unfold sp_rd
  split
  · exact Or.inr rfl
  · exact Or.inl rfl
theorem m_isReading {r : Int32} {N S : Nat} {H : pj_Heap} : pj_Ends 80 (0, [some (.int r)], [], (N, S, H)) (some (.int (sp_rd r)), (N, S, H)) := by
  simp (disch := first | assumption | exact pj_long_i | exact pj_long_r | exact pj_long_n | decide) only [x80_0, x80_1, x80_2, x80_5, simprocAttr, pj_then_s, pj_pv_s, pj_pi_s, pj_set_s, if_true, if_false, not_true_eq_false, not_false_eq_true, pj_up_up, pj_up_sort, pj_up_ap, pj_upd_ap, pj_a3_0, pj_a3_1, pj_a3_2, pj_a3_u0, pj_a3_u1, pj_a3_u2]
  refine e80_8 rfl m_in ?_
  rw [sp_in_i (a' := -500) (b' := 500) (by decide) (by decide)]
  exact t80_11 sp_rd_01
def sp_th (k : Int32) : Int32 := if 0 ≤ k ∧ k ≤ 2 then 1 else 0
theorem sp_th_01 {r : Int32} : sp_th r = 0 ∨ sp_th r = 1 := by
  unfold sp_th
  split
  · exact Or.inr rfl
  · exact Or.inl rfl
theorem m_isThree {r : Int32} {N S : Nat} {H : pj_Heap} : pj_Ends 99 (0, [some (.int r)], [], (N, S, H)) (some (.int (sp_th r)), (N, S, H)) := by
  simp (disch := first | assumption | exact pj_long_i | exact pj_long_r | exact pj_long_n | decide) only [x99_0, x99_1, x99_2, x99_3, simprocAttr, pj_then_s, pj_pv_s, pj_pi_s, pj_set_s, if_true, if_false, not_true_eq_false, not_false_eq_true, pj_up_up, pj_up_sort, pj_up_ap, pj_upd_ap, pj_a3_0, pj_a3_1, pj_a3_2, pj_a3_u0, pj_a3_u1, pj_a3_u2]
  refine e99_6 rfl m_in ?_
  rw [sp_in_i (a' := 0) (b' := 2) (by decide) (by decide)]
  exact t99_9 sp_th_01
section MH
variable {N S : Nat} {o : Option Value × pj_Mem} {mid lo hi fi pl sp nu ic td r0 r1 r2 : Int32} {f g : Nat → Int32}
theorem m_lays {H : pj_Heap} {hl a b c : Int32} (hm : H 109 = pj_mo hl mid lo hi fi pl sp nu ic td) (hg : H 115 = .inr (0, 3, .inl (pj_a3 r0 r1 r2))) :
    pj_Ends 81 (0, [some (.ref 109), some (.int a), some (.int b), some (.int c)], [], (N, S, H)) (none, (N, S, pj_up H 115 (.inr (0, 3, .inl (pj_a3 a b c))))) := by
  simp (disch := first | assumption | exact pj_long_i | exact pj_long_r | exact pj_long_n | decide) only [x81_0, x81_1, x81_4, x81_5, x81_6, x81_7, x81_8, x81_11, x81_12, x81_13, x81_14, x81_15, x81_18, x81_19, x81_20, simprocAttr, pj_then_s, pj_pv_s, pj_pi_s, pj_set_s, if_true, if_false, not_true_eq_false, not_false_eq_true, pj_up_up, pj_up_sort, pj_up_ap, pj_upd_ap, pj_a3_0, pj_a3_1, pj_a3_2, pj_a3_u0, pj_a3_u1, pj_a3_u2, pj_f6_6, pj_ars_i, hm, hg, pj_mo]
  exact t81_21
theorem m_down_l {hl c : Int32} : ∀ (n j : Nat) (H : pj_Heap), j + n = 760 → H 109 = pj_mo hl mid lo hi fi pl sp nu ic td → H 112 = .inr (0, 912, .inl (va_cpy f f 152 0 j)) →
    pj_Ends 78 (40, [some (.ref 109), some (.int c), some (.int (nI 760))], [], (N, S, pj_up H 112 (.inr (0, 912, .inl (va_cpy f f 152 0 760))))) o →
    pj_Ends 78 (11, [some (.ref 109), some (.int c), some (.int (nI j))], [], (N, S, H)) o := by
  intro n
  induction n with
  | zero =>
    intro j H hj hm hk K
    obtain rfl : j = 760 := by omega
    have c1 : (760 : Int32) ≤ nI 760 := by decide
    rw [pj_up_id hk] at K
    simp (disch := first | assumption | exact pj_long_i | exact pj_long_r | exact pj_long_n | decide) only [x78_11, x78_12, x78_15, simprocAttr, pj_then_s, pj_pv_s, pj_pi_s, pj_set_s, if_true, if_false, not_true_eq_false, not_false_eq_true, pj_up_up, pj_up_sort, pj_up_ap, pj_upd_ap, pj_a3_0, pj_a3_1, pj_a3_2, pj_a3_u0, pj_a3_u1, pj_a3_u2, c1]
    exact K
  | succ n ih =>
    intro j H hj hm hk K
    have c1 : ¬ (760 : Int32) ≤ nI j := nI_ge (b := 760) (by omega) (by decide)
    have e9 : nI j + (152 : Int32) = nI (j + 152) := nI_add j 152
    have e1 : (nI j).toNatClampNeg = j := nI_clamp (by omega)
    have e2 : pj_in (nI j) 912 = true := pj_in_nI (by omega) (by decide)
    have e4 : (nI (j + 152)).toNatClampNeg = j + 152 := nI_clamp (by omega)
    have e5 : pj_in (nI (j + 152)) 912 = true := pj_in_nI (by omega) (by decide)
    have e6 : va_cpy f f 152 0 j (j + 152) = f (152 + j) := by rw [pj_cpy_hi (by omega), Nat.add_comm]
    rw [x78_11]
    simp (disch := first | assumption | exact pj_long_i | exact pj_long_r | exact pj_long_n | decide) only [x78_12, x78_15, x78_18, x78_19, x78_22, x78_23, x78_24, x78_27, x78_28, x78_31, x78_32, x78_33, x78_34, x78_37, simprocAttr, pj_then_s, pj_pv_s, pj_pi_s, pj_set_s, if_true, if_false, not_true_eq_false, not_false_eq_true, pj_up_up, pj_up_sort, pj_up_ap, pj_upd_ap, pj_a3_0, pj_a3_1, pj_a3_2, pj_a3_u0, pj_a3_u1, pj_a3_u2, pj_f6_2, pj_arl_i, pj_ars_i, pj_long_i, pj_long_r, pj_long_n, hm, hk, pj_mo, c1, e9, e1, e4, e6, nI_1]
    have e3 : upd (va_cpy f f 152 0 j) j (f (152 + j)) = va_cpy f f 152 0 (j + 1) := by
      have := pj_cpy_s (f := f) (g := f) (sp := 152) (dp := 0) (j := j)
      rw [Nat.zero_add] at this
      exact this
    rw [e3]
    refine ih (j + 1) _ (by omega) (by (try simp (disch := decide) only [simprocAttr, pj_up_ap, if_true, if_false, pj_mo, hm]) <;> rfl) (by (try simp (disch := decide) only [simprocAttr, pj_up_ap, if_true, if_false, pj_mo, hm]) <;> rfl) ?_
    rw [pj_up_up]
    exact K
theorem m_push_l {c : Int32} {i : Nat} (hi6 : i < 6) : ∀ (n j : Nat) (H : pj_Heap), j + n = 152 → H 109 = pj_mo (nI i) mid lo hi fi pl sp nu ic td → H 111 = .inr (0, 152, .inl f) → H 112 = .inr (0, 912, .inl (va_cpy f g 0 (152 * i) j)) →
    pj_Ends 78 (86, [some (.ref 109), some (.int c), some (.int (nI 152))], [], (N, S, pj_up H 112 (.inr (0, 912, .inl (va_cpy f g 0 (152 * i) 152))))) o →
    pj_Ends 78 (52, [some (.ref 109), some (.int c), some (.int (nI j))], [], (N, S, H)) o := by
  intro n
  induction n with
  | zero =>
    intro j H hj hm hf hk K
    obtain rfl : j = 152 := by omega
    have c1 : (152 : Int32) ≤ nI 152 := by decide
    rw [pj_up_id hk] at K
    simp (disch := first | assumption | exact pj_long_i | exact pj_long_r | exact pj_long_n | decide) only [x78_52, x78_53, x78_56, simprocAttr, pj_then_s, pj_pv_s, pj_pi_s, pj_set_s, if_true, if_false, not_true_eq_false, not_false_eq_true, pj_up_up, pj_up_sort, pj_up_ap, pj_upd_ap, pj_a3_0, pj_a3_1, pj_a3_2, pj_a3_u0, pj_a3_u1, pj_a3_u2, c1]
    exact K
  | succ n ih =>
    intro j H hj hm hf hk K
    have c1 : ¬ (152 : Int32) ≤ nI j := nI_ge (b := 152) (by omega) (by decide)
    have e0 : (152 : Int32) * nI i = nI (152 * i) := pk_mul 152 i
    have e9 : nI (152 * i) + nI j = nI (152 * i + j) := nI_add (152 * i) j
    have e1 : (nI j).toNatClampNeg = j := nI_clamp (by omega)
    have e2 : pj_in (nI j) 152 = true := pj_in_nI (by omega) (by decide)
    have e4 : (nI (152 * i + j)).toNatClampNeg = 152 * i + j := nI_clamp (by omega)
    have e5 : pj_in (nI (152 * i + j)) 912 = true := pj_in_nI (by omega) (by decide)
    rw [x78_52]
    simp (disch := first | assumption | exact pj_long_i | exact pj_long_r | exact pj_long_n | decide) only [x78_53, x78_56, x78_59, x78_60, x78_63, x78_66, x78_67, x78_70, x78_71, x78_72, x78_73, x78_74, x78_77, x78_78, x78_79, x78_80, x78_83, simprocAttr, pj_then_s, pj_pv_s, pj_pi_s, pj_set_s, if_true, if_false, not_true_eq_false, not_false_eq_true, pj_up_up, pj_up_sort, pj_up_ap, pj_upd_ap, pj_a3_0, pj_a3_1, pj_a3_2, pj_a3_u0, pj_a3_u1, pj_a3_u2, pj_f6_2, pj_f6_3, pj_f6_1, pj_arl_i, pj_ars_i, pj_long_i, pj_long_r, pj_long_n, hm, hf, hk, pj_mo, c1, e0, e9, e1, e4, nI_1]
    have e3 : upd (va_cpy f g 0 (152 * i) j) (152 * i + j) (f j) = va_cpy f g 0 (152 * i) (j + 1) := by
      have := pj_cpy_s (f := f) (g := g) (sp := 0) (dp := 152 * i) (j := j)
      rw [Nat.zero_add] at this
      exact this
    rw [e3]
    refine ih (j + 1) _ (by omega) (by (try simp (disch := decide) only [simprocAttr, pj_up_ap, if_true, if_false, pj_mo, hm]) <;> rfl) (by (try simp (disch := decide) only [simprocAttr, pj_up_ap, if_true, if_false, pj_mo, hm, hf]) <;> rfl) (by (try simp (disch := decide) only [simprocAttr, pj_up_ap, if_true, if_false, pj_mo, hm]) <;> rfl) ?_
    rw [pj_up_up]
    exact K
/-- the history's row behind a change, and how long it is -/
def sp_hn (i : Nat) : Nat := if i = 6 then 5 else i
def sp_hh (k h : Nat → Int32) (i : Nat) : Nat → Int32 := va_cpy k (if i = 6 then va_cpy h h 152 0 760 else h) 0 (152 * sp_hn i) 152
theorem m_changed {H : pj_Heap} {c : Int32} {i : Nat} (hi6 : i ≤ 6) (hm : H 109 = pj_mo (nI i) mid lo hi fi pl sp nu ic td) (hf : H 111 = .inr (0, 152, .inl f)) (hk : H 112 = .inr (0, 912, .inl g)) :
    pj_Ends 78 (0, [some (.ref 109), some (.int c), none], [], (N, S, H)) (some (.int c), (N, S, pj_up (pj_up H 109 (pj_mo (nI (sp_hn i + 1)) mid lo hi fi pl sp nu ic td)) 112 (.inr (0, 912, .inl (sp_hh f g i))))) := by
  by_cases h6 : i = 6
  · subst h6
    have c1 : nI 6 = 6 := rfl
    have c5 : nI 5 = 5 := rfl
    have c2 : sp_hh f g 6 = va_cpy f (va_cpy g g 152 0 760) 0 (152 * 5) 152 := rfl
    have c3 : sp_hn 6 = 5 := rfl
    rw [c2, c3]
    simp (disch := first | assumption | exact pj_long_i | exact pj_long_r | exact pj_long_n | decide) only [x78_0, x78_1, x78_4, x78_6, x78_9, x78_10, simprocAttr, pj_then_s, pj_pv_s, pj_pi_s, pj_set_s, if_true, if_false, not_true_eq_false, not_false_eq_true, pj_up_up, pj_up_sort, pj_up_ap, pj_upd_ap, pj_a3_0, pj_a3_1, pj_a3_2, pj_a3_u0, pj_a3_u1, pj_a3_u2, pj_f6_3, pj_long_i, pj_long_r, pj_long_n, hm, hk, pj_mo, c1]
    refine m_down_l 760 0 H rfl hm (by rw [pj_cpy_0]; exact hk) ?_
    simp (disch := first | assumption | exact pj_long_i | exact pj_long_r | exact pj_long_n | decide) only [x78_40, x78_41, x78_41i, x78_42, x78_45, x78_46, x78_47, x78_50, x78_51, simprocAttr, pj_then_s, pj_pv_s, pj_pi_s, pj_set_s, if_true, if_false, not_true_eq_false, not_false_eq_true, pj_up_up, pj_up_sort, pj_up_ap, pj_upd_ap, pj_a3_0, pj_a3_1, pj_a3_2, pj_a3_u0, pj_a3_u1, pj_a3_u2, pj_f6_3, pj_s6_3, pj_long_i, pj_long_r, pj_long_n, hm, pj_mo, c1]
    refine m_push_l (i := 5) (g := va_cpy g g 152 0 760) (f := f) (mid := mid) (lo := lo) (hi := hi) (fi := fi) (pl := pl) (sp := sp) (nu := nu) (ic := ic) (td := td) (by decide) 152 0 _ rfl (by (try simp (disch := decide) only [simprocAttr, pj_up_ap, if_true, if_false, pj_mo, hm, hf, hk, c5]) <;> rfl) (by (try simp (disch := decide) only [simprocAttr, pj_up_ap, if_true, if_false, pj_mo, hm, hf, hk]) <;> rfl) (by rw [pj_cpy_0]; simp (disch := decide) only [simprocAttr, pj_up_ap, if_true, if_false]) ?_
    simp (disch := first | assumption | exact pj_long_i | exact pj_long_r | exact pj_long_n | decide) only [x78_86, x78_87, x78_87i, x78_88, x78_91, x78_92, x78_93, x78_96, simprocAttr, pj_then_s, pj_pv_s, pj_pi_s, pj_set_s, if_true, if_false, not_true_eq_false, not_false_eq_true, pj_up_up, pj_up_sort, pj_up_ap, pj_upd_ap, pj_a3_0, pj_a3_1, pj_a3_2, pj_a3_u0, pj_a3_u1, pj_a3_u2, pj_f6_3, pj_s6_3, hm, pj_mo, c1]
    exact t78_97
  · have c2 : sp_hh f g i = va_cpy f g 0 (152 * i) 152 := by
      unfold sp_hh sp_hn
      rw [if_neg h6, if_neg h6]
    have c3 : sp_hn i = i := if_neg h6
    have c1 : ¬ nI i = 6 := fun q => h6 ((nI_eq (by omega) (by decide)).mp (q : nI i = nI 6))
    rw [c2, c3]
    simp (disch := first | assumption | exact pj_long_i | exact pj_long_r | exact pj_long_n | decide) only [x78_0, x78_1, x78_4, x78_6, simprocAttr, pj_then_s, pj_pv_s, pj_pi_s, pj_set_s, if_true, if_false, not_true_eq_false, not_false_eq_true, pj_up_up, pj_up_sort, pj_up_ap, pj_upd_ap, pj_a3_0, pj_a3_1, pj_a3_2, pj_a3_u0, pj_a3_u1, pj_a3_u2, pj_f6_3, hm, pj_mo, c1]
    simp (disch := first | assumption | exact pj_long_i | exact pj_long_r | exact pj_long_n | decide) only [x78_50, x78_51, simprocAttr, pj_then_s, pj_pv_s, pj_pi_s, pj_set_s, if_true, if_false, not_true_eq_false, not_false_eq_true, pj_up_up, pj_up_sort, pj_up_ap, pj_upd_ap, pj_a3_0, pj_a3_1, pj_a3_2, pj_a3_u0, pj_a3_u1, pj_a3_u2, pj_long_i, pj_long_r, pj_long_n]
    refine m_push_l (i := i) (g := g) (f := f) (mid := mid) (lo := lo) (hi := hi) (fi := fi) (pl := pl) (sp := sp) (nu := nu) (ic := ic) (td := td) (by omega) 152 0 _ rfl (by (try simp (disch := decide) only [simprocAttr, pj_up_ap, if_true, if_false, pj_mo, hm, hf, hk]) <;> rfl) (by (try simp (disch := decide) only [simprocAttr, pj_up_ap, if_true, if_false, pj_mo, hm, hf, hk]) <;> rfl) (by rw [pj_cpy_0]; simp (disch := decide) only [simprocAttr, pj_up_ap, if_true, if_false, hk]) ?_
    simp (disch := first | assumption | exact pj_long_i | exact pj_long_r | exact pj_long_n | decide) only [x78_86, x78_87, x78_87i, x78_88, x78_91, x78_92, x78_93, x78_96, simprocAttr, pj_then_s, pj_pv_s, pj_pi_s, pj_set_s, if_true, if_false, not_true_eq_false, not_false_eq_true, pj_up_up, pj_up_sort, pj_up_ap, pj_upd_ap, pj_a3_0, pj_a3_1, pj_a3_2, pj_a3_u0, pj_a3_u1, pj_a3_u2, pj_f6_3, pj_s6_3, hm, pj_mo, nI_1]
    exact t78_97
end MH
