/-! THE REFERENCE'S WHOLE TICK -/
def tk_A (f g : Nat → Int32) : Nat → Int32 := pj_a3 (g 0 - sp_T1 f g 8) (g 1 - sp_T1 f g 9) (g 2 - sp_T1 f g 10)
def tk_m (f g : Nat → Int32) : Int32 := sp_mid (sp_T1 f g) (tk_A f g)
def tk_2 (f g : Nat → Int32) : Nat → Int32 := sp_T2 (sp_T1 f g) (tk_A f g) (tk_m f g)
def tk_3 (f g : Nat → Int32) (c : Int32) : Nat → Int32 := sp_T3 (tk_2 f g) g (tk_m f g) c
def tk_4 (f g : Nat → Int32) (c : Int32) : Nat → Int32 := sp_T4 (tk_3 f g c) (tk_A f g)
def tk_5 (f g : Nat → Int32) (c : Int32) : Nat → Int32 := upd (tk_4 f g c) 7 (sp_left (tk_4 f g c) c)
def tk_lo (f g : Nat → Int32) (c : Int32) : Int32 := sp_vof (tk_5 f g c) (tk_5 f g c 0)
def tk_hi (f g : Nat → Int32) (c : Int32) : Int32 := sp_vof (tk_5 f g c) (tk_5 f g c 1)
def tk_6 (f g : Nat → Int32) (c : Int32) : Nat → Int32 := sp_f3 (tk_5 f g c) (tk_lo f g c) (tk_hi f g c)
def tk_fi (f g : Nat → Int32) (c : Int32) : Int32 := sp_fires (tk_5 f g c) (tk_lo f g c) (tk_hi f g c)
def tk_7 (f g : Nat → Int32) (c : Int32) : Nat → Int32 := if sp_rec (tk_6 f g c) = 0 then tk_6 f g c else sp_put (sp_sh (tk_6 f g c)) g (tk_m f g) (tk_lo f g c) (tk_hi f g c) (tk_fi f g c) c (sp_at (tk_6 f g c))
def tk_8 (f g : Nat → Int32) (c : Int32) : Nat → Int32 := upd (tk_7 f g c) 29 (if tk_fi f g c = 0 then tk_7 f g c 29 else if tk_7 f g c 29 = -6 then tk_7 f g c 6 else tk_7 f g c 29)
def sp_tick (f g : Nat → Int32) (c : Int32) : Nat → Int32 := upd (tk_8 f g c) 6 (tk_8 f g c 6 + 1)
theorem sp_T1_ne {f g : Nat → Int32} {k : Nat} (h : k < 14 ∨ 22 < k) : sp_T1 f g k = f k := by
  unfold sp_T1 sp_t1
  simp only [pj_upd_ap]
  repeat rw [if_neg (by omega)]
theorem sp_T2_ne {f a : Nat → Int32} {m : Int32} {k : Nat} (h : k < 14 ∨ 16 < k) : sp_T2 f a m k = f k := by
  unfold sp_T2 sp_t2
  simp only [pj_upd_ap]
  repeat rw [if_neg (by omega)]
theorem sp_t3_ne {f g : Nat → Int32} {m c : Int32} {i k : Nat} (h : k ≠ 8 + i) : sp_t3 f g m c i k = f k := by
  unfold sp_t3
  split
  · split
    · split
      · rw [pj_upd_ap, if_neg h]
      · rfl
    · rfl
  · rfl
theorem sp_T3_ne {f g : Nat → Int32} {m c : Int32} {k : Nat} (h : k < 8 ∨ 10 < k) : sp_T3 f g m c k = f k := by
  unfold sp_T3
  rw [sp_t3_ne (by omega), sp_t3_ne (by omega), sp_t3_ne (by omega)]
theorem sp_T4_ne {f a : Nat → Int32} {k : Nat} (h : k < 11 ∨ 13 < k) : sp_T4 f a k = f k := by
  unfold sp_T4 sp_t4
  simp only [pj_upd_ap]
  repeat rw [if_neg (by omega)]
theorem sp_fr_ne {f : Nat → Int32} {y : Int32} {i k : Nat} (h : k ≠ 23 + i) : sp_fr f y i k = f k := by
  unfold sp_fr
  split
  · rfl
  · rw [pj_upd_ap, if_neg h]
theorem sp_f3_ne {f : Nat → Int32} {lo hi : Int32} {k : Nat} (h : k < 23 ∨ 25 < k) : sp_f3 f lo hi k = f k := by
  unfold sp_f3 sp_f2 sp_f1
  rw [sp_fr_ne (by omega), sp_fr_ne (by omega), sp_fr_ne (by omega)]
theorem tk_5_ne {f g : Nat → Int32} {c : Int32} {k : Nat} (h : k < 7 ∨ 22 < k) : tk_5 f g c k = f k := by
  unfold tk_5 tk_4 tk_3 tk_2
  rw [pj_upd_ap, if_neg (by omega), sp_T4_ne (by omega), sp_T3_ne (by omega), sp_T2_ne (by omega), sp_T1_ne (by omega)]
theorem tk_6_ne {f g : Nat → Int32} {c : Int32} {k : Nat} (h : k < 7 ∨ 25 < k) : tk_6 f g c k = f k := by
  unfold tk_6
  rw [sp_f3_ne (by omega), tk_5_ne (by omega)]
section M6
variable {N S : Nat} {H : pj_Heap} {o : Option Value × pj_Mem} {hl mid lo hi fi pl sp nu ic td m y z w : Int32} {f g f1 f2 f3 f4 f5 f6 f7 f8 f9 A : Nat → Int32} {r0 r1 r2 a0 a1 a2 : Int32}
theorem m_on_d {c : Int32} (h8 : upd f7 29 (if w = 0 then f7 29 else if f7 29 = -6 then f7 6 else f7 29) = f8) (h9 : upd f8 6 (f8 6 + 1) = f9) (hm : H 109 = pj_mo hl m y z w pl sp nu ic td) (hf : H 110 = .inr (0, 152, .inl f7)) :
    pj_Ends 82 (108, [some (.ref 109), some (.int c)], [], (N, S, H)) (none, (N, S, pj_up H 110 (.inr (0, 152, .inl f9)))) := by
  by_cases c1 : w = 0
  · rw [if_pos c1] at h8
    subst h8
    subst h9
    simp (disch := first | assumption | exact pj_long_i | exact pj_long_r | exact pj_long_n | decide) only [x82_108, x82_109, x82_112, x82_114, x82_115, x82_118, x82_121, x82_122, x82_125, x82_127, x82_128, x82_130, x82_133, x82_134, x82_137, x82_139, x82_140, x82_143, x82_144, x82_147, x82_149, x82_150, x82_151, x82_152, x82_155, x82_157, x82_158, x82_159, x82_160, x82_161, simprocAttr, pj_then_s, pj_pv_s, pj_pi_s, pj_set_s, if_true, if_false, not_true_eq_false, not_false_eq_true, pj_up_up, pj_up_sort, pj_up_ap, pj_upd_ap, pj_a3_0, pj_a3_1, pj_a3_2, pj_a3_u0, pj_a3_u1, pj_a3_u2, pj_f6_0, pj_f6_11, pj_arl_i, pj_ars_i, hm, hf, pj_mo, c1]
    exact t82_162
  · rw [if_neg c1] at h8
    by_cases c2 : f7 29 = -6
    · rw [if_pos c2] at h8
      subst h8
      subst h9
      simp (disch := first | assumption | exact pj_long_i | exact pj_long_r | exact pj_long_n | decide) only [x82_108, x82_109, x82_112, x82_114, x82_115, x82_118, x82_121, x82_122, x82_125, x82_127, x82_128, x82_130, x82_133, x82_134, x82_137, x82_139, x82_140, x82_143, x82_144, x82_147, x82_149, x82_150, x82_151, x82_152, x82_155, x82_157, x82_158, x82_159, x82_160, x82_161, simprocAttr, pj_then_s, pj_pv_s, pj_pi_s, pj_set_s, if_true, if_false, not_true_eq_false, not_false_eq_true, pj_up_up, pj_up_sort, pj_up_ap, pj_upd_ap, pj_a3_0, pj_a3_1, pj_a3_2, pj_a3_u0, pj_a3_u1, pj_a3_u2, pj_f6_0, pj_f6_11, pj_arl_i, pj_ars_i, hm, hf, pj_mo, c1, c2]
      exact t82_162
    · rw [if_neg c2] at h8
      subst h8
      subst h9
      simp (disch := first | assumption | exact pj_long_i | exact pj_long_r | exact pj_long_n | decide) only [x82_108, x82_109, x82_112, x82_114, x82_115, x82_118, x82_121, x82_122, x82_125, x82_127, x82_128, x82_130, x82_133, x82_134, x82_137, x82_139, x82_140, x82_143, x82_144, x82_147, x82_149, x82_150, x82_151, x82_152, x82_155, x82_157, x82_158, x82_159, x82_160, x82_161, simprocAttr, pj_then_s, pj_pv_s, pj_pi_s, pj_set_s, if_true, if_false, not_true_eq_false, not_false_eq_true, pj_up_up, pj_up_sort, pj_up_ap, pj_upd_ap, pj_a3_0, pj_a3_1, pj_a3_2, pj_a3_u0, pj_a3_u1, pj_a3_u2, pj_f6_0, pj_f6_11, pj_arl_i, pj_ars_i, hm, hf, pj_mo, c1, c2]
      exact t82_162
theorem m_on_c {c : Int32} {n : Nat} (hn : n ≤ 12) (hr : f6 30 = nI n) (hlo : sp_vof f5 (f5 0) = y) (hhi : sp_vof f5 (f5 1) = z) (h6 : sp_f3 f5 y z = f6) (hfi : sp_fires f5 y z = w) (h7 : (if sp_rec f6 = 0 then f6 else sp_put (sp_sh f6) g m y z w c (sp_at f6)) = f7) (h8 : upd f7 29 (if w = 0 then f7 29 else if f7 29 = -6 then f7 6 else f7 29) = f8) (h9 : upd f8 6 (f8 6 + 1) = f9) (hm : H 109 = pj_mo hl m lo hi fi pl sp nu ic td) (hf : H 110 = .inr (0, 152, .inl f5)) (hg : H 115 = .inr (0, 3, .inl g)) :
    pj_Ends 82 (64, [some (.ref 109), some (.int c)], [], (N, S, H)) (none, (N, S, pj_up (pj_up H 109 (pj_mo hl m y z w pl sp nu ic td)) 110 (.inr (0, 152, .inl f9)))) := by
  simp (disch := first | assumption | exact pj_long_i | exact pj_long_r | exact pj_long_n | decide) only [x82_64, x82_65, x82_66, x82_67, x82_70, x82_71, simprocAttr, pj_then_s, pj_pv_s, pj_pi_s, pj_set_s, if_true, if_false, not_true_eq_false, not_false_eq_true, pj_up_up, pj_up_sort, pj_up_ap, pj_upd_ap, pj_a3_0, pj_a3_1, pj_a3_2, pj_a3_u0, pj_a3_u1, pj_a3_u2, pj_f6_0, pj_arl_i, hm, hf, pj_mo]
  refine e82_72 rfl (by first | (rw [hm]; rfl) | (simp only [simprocAttr, pj_up_ap, if_true, if_false, hm, pj_mo]; rfl)) (m_votesOf (hl := hl) (mid := m) (lo := lo) (hi := hi) (fi := fi) (pl := pl) (sp := sp) (nu := nu) (ic := ic) (td := td) (f := f5) (by (try simp (disch := decide) only [simprocAttr, pj_up_ap, if_true, if_false, pj_mo, hm, hf, hg]) <;> rfl) (by (try simp (disch := decide) only [simprocAttr, pj_up_ap, if_true, if_false, pj_mo, hm, hf, hg]) <;> rfl)) ?_
  simp (disch := first | assumption | exact pj_long_i | exact pj_long_r | exact pj_long_n | decide) only [x82_75, x82_78, x82_79, x82_80, x82_81, x82_84, x82_85, simprocAttr, pj_then_s, pj_pv_s, pj_pi_s, pj_set_s, if_true, if_false, not_true_eq_false, not_false_eq_true, pj_up_up, pj_up_sort, pj_up_ap, pj_upd_ap, pj_a3_0, pj_a3_1, pj_a3_2, pj_a3_u0, pj_a3_u1, pj_a3_u2, pj_s6_9, pj_f6_0, pj_arl_i, hm, hf, pj_mo, hlo]
  refine e82_86 rfl (by first | (rw [hm]; rfl) | (simp only [simprocAttr, pj_up_ap, if_true, if_false, hm, pj_mo]; rfl)) (m_votesOf (hl := hl) (mid := m) (lo := y) (hi := hi) (fi := fi) (pl := pl) (sp := sp) (nu := nu) (ic := ic) (td := td) (f := f5) (by (try simp (disch := decide) only [simprocAttr, pj_up_ap, if_true, if_false, pj_mo, hm, hf, hg]) <;> rfl) (by (try simp (disch := decide) only [simprocAttr, pj_up_ap, if_true, if_false, pj_mo, hm, hf, hg]) <;> rfl)) ?_
  simp (disch := first | assumption | exact pj_long_i | exact pj_long_r | exact pj_long_n | decide) only [x82_89, x82_92, simprocAttr, pj_then_s, pj_pv_s, pj_pi_s, pj_set_s, if_true, if_false, not_true_eq_false, not_false_eq_true, pj_up_up, pj_up_sort, pj_up_ap, pj_upd_ap, pj_a3_0, pj_a3_1, pj_a3_2, pj_a3_u0, pj_a3_u1, pj_a3_u2, pj_s6_10, hm, pj_mo, hhi]
  refine e82_93 rfl (by first | (rw [hm]; rfl) | (simp only [simprocAttr, pj_up_ap, if_true, if_false, hm, pj_mo]; rfl)) (m_firesStages (hl := hl) (mid := m) (lo := y) (hi := z) (fi := fi) (pl := pl) (sp := sp) (nu := nu) (ic := ic) (td := td) (f := f5) (by (try simp (disch := decide) only [simprocAttr, pj_up_ap, if_true, if_false, pj_mo, hm, hf, hg]) <;> rfl) (by (try simp (disch := decide) only [simprocAttr, pj_up_ap, if_true, if_false, pj_mo, hm, hf, hg]) <;> rfl)) ?_
  simp (disch := first | assumption | exact pj_long_i | exact pj_long_r | exact pj_long_n | decide) only [x82_96, simprocAttr, pj_then_s, pj_pv_s, pj_pi_s, pj_set_s, if_true, if_false, not_true_eq_false, not_false_eq_true, pj_up_up, pj_up_sort, pj_up_ap, pj_upd_ap, pj_a3_0, pj_a3_1, pj_a3_2, pj_a3_u0, pj_a3_u1, pj_a3_u2, hm, pj_mo, h6, hfi]
  refine e82_97 rfl (by first | (rw [hm]; rfl) | (simp only [simprocAttr, pj_up_ap, if_true, if_false, hm, pj_mo]; rfl)) (m_records (hl := hl) (mid := m) (lo := y) (hi := z) (fi := w) (pl := pl) (sp := sp) (nu := nu) (ic := ic) (td := td) (f := f6) (by (try simp (disch := decide) only [simprocAttr, pj_up_ap, if_true, if_false, pj_mo, hm, hf, hg]) <;> rfl) (by (try simp (disch := decide) only [simprocAttr, pj_up_ap, if_true, if_false, pj_mo, hm, hf, hg]) <;> rfl)) ?_
  by_cases c1 : sp_rec f6 = 0
  · rw [if_pos c1] at h7
    subst h7
    simp (disch := first | assumption | exact pj_long_i | exact pj_long_r | exact pj_long_n | decide) only [x82_100, simprocAttr, pj_then_s, pj_pv_s, pj_pi_s, pj_set_s, if_true, if_false, not_true_eq_false, not_false_eq_true, pj_up_up, pj_up_sort, pj_up_ap, pj_upd_ap, pj_a3_0, pj_a3_1, pj_a3_2, pj_a3_u0, pj_a3_u1, pj_a3_u2, c1]
    refine (m_on_d (hl := hl) (m := m) (y := y) (z := z) (w := w) (pl := pl) (sp := sp) (nu := nu) (ic := ic) (td := td) h8 h9 (by (try simp (disch := decide) only [simprocAttr, pj_up_ap, if_true, if_false, pj_mo, hm, hf, hg]) <;> rfl) (by (try simp (disch := decide) only [simprocAttr, pj_up_ap, if_true, if_false, pj_mo, hm, hf, hg]) <;> rfl)).res ?_
    simp (disch := decide) only [pj_up_up, pj_up_sort, pj_mo]
  · rw [if_neg c1] at h7
    simp (disch := first | assumption | exact pj_long_i | exact pj_long_r | exact pj_long_n | decide) only [x82_100, x82_103, x82_104, simprocAttr, pj_then_s, pj_pv_s, pj_pi_s, pj_set_s, if_true, if_false, not_true_eq_false, not_false_eq_true, pj_up_up, pj_up_sort, pj_up_ap, pj_upd_ap, pj_a3_0, pj_a3_1, pj_a3_2, pj_a3_u0, pj_a3_u1, pj_a3_u2, c1]
    refine e82_105 rfl (by first | (rw [hm]; rfl) | (simp only [simprocAttr, pj_up_ap, if_true, if_false, hm, pj_mo]; rfl)) (m_putsRecord (hl := hl) (mid := m) (lo := y) (hi := z) (fi := w) (pl := pl) (sp := sp) (nu := nu) (ic := ic) (td := td) (f := f6) (g := g) hn (by (try simp (disch := decide) only [simprocAttr, pj_up_ap, if_true, if_false, pj_mo, hm, hf, hg]) <;> rfl) (by (try simp (disch := decide) only [simprocAttr, pj_up_ap, if_true, if_false, pj_mo, hm, hf, hg]) <;> rfl) (by (try simp (disch := decide) only [simprocAttr, pj_up_ap, if_true, if_false, pj_mo, hm, hf, hg]) <;> rfl) hr) ?_
    rw [h7]
    simp (disch := first | assumption | exact pj_long_i | exact pj_long_r | exact pj_long_n | decide) only [simprocAttr, pj_then_s, pj_pv_s, pj_pi_s, pj_set_s, if_true, if_false, not_true_eq_false, not_false_eq_true, pj_up_up, pj_up_sort, pj_up_ap, pj_upd_ap, pj_a3_0, pj_a3_1, pj_a3_2, pj_a3_u0, pj_a3_u1, pj_a3_u2]
    refine (m_on_d (hl := hl) (m := m) (y := y) (z := z) (w := w) (pl := pl) (sp := sp) (nu := nu) (ic := ic) (td := td) h8 h9 (by (try simp (disch := decide) only [simprocAttr, pj_up_ap, if_true, if_false, pj_mo, hm, hf, hg]) <;> rfl) (by (try simp (disch := decide) only [simprocAttr, pj_up_ap, if_true, if_false, pj_mo, hm, hf, hg]) <;> rfl)).res ?_
    simp (disch := decide) only [pj_up_up, pj_up_sort, pj_mo]
theorem m_on_b {c : Int32} {n : Nat} (hn : n ≤ 12) (hr : f6 30 = nI n) (h5 : upd f4 7 (if c = 0 then (if f4 7 ≤ 0 then 0 else f4 7 - 1) else f4 2) = f5) (hlo : sp_vof f5 (f5 0) = y) (hhi : sp_vof f5 (f5 1) = z) (h6 : sp_f3 f5 y z = f6) (hfi : sp_fires f5 y z = w) (h7 : (if sp_rec f6 = 0 then f6 else sp_put (sp_sh f6) g m y z w c (sp_at f6)) = f7) (h8 : upd f7 29 (if w = 0 then f7 29 else if f7 29 = -6 then f7 6 else f7 29) = f8) (h9 : upd f8 6 (f8 6 + 1) = f9) (hm : H 109 = pj_mo hl m lo hi fi pl sp nu ic td) (hf : H 110 = .inr (0, 152, .inl f4)) (hg : H 115 = .inr (0, 3, .inl g)) :
    pj_Ends 82 (21, [some (.ref 109), some (.int c)], [], (N, S, H)) (none, (N, S, pj_up (pj_up H 109 (pj_mo hl m y z w pl sp nu ic td)) 110 (.inr (0, 152, .inl f9)))) := by
  have K : ∀ H', H' = pj_up H 110 (.inr (0, 152, .inl f5)) → pj_Ends 82 (64, [some (.ref 109), some (.int c)], [], (N, S, H')) (none, (N, S, pj_up (pj_up H 109 (pj_mo hl m y z w pl sp nu ic td)) 110 (.inr (0, 152, .inl f9)))) := by
    intro H' e
    subst e
    refine (m_on_c (hl := hl) (m := m) (lo := lo) (hi := hi) (fi := fi) (pl := pl) (sp := sp) (nu := nu) (ic := ic) (td := td) hn hr hlo hhi h6 hfi h7 h8 h9 (by (try simp (disch := decide) only [simprocAttr, pj_up_ap, if_true, if_false, pj_mo, hm, hf, hg]) <;> rfl) (by (try simp (disch := decide) only [simprocAttr, pj_up_ap, if_true, if_false, pj_mo, hm, hf, hg]) <;> rfl) (by (try simp (disch := decide) only [simprocAttr, pj_up_ap, if_true, if_false, pj_mo, hm, hf, hg]) <;> rfl)).res ?_
    simp (disch := decide) only [pj_up_up, pj_up_sort, pj_mo]
  by_cases c1 : c = 0
  · rw [if_pos c1] at h5
    by_cases c2 : f4 7 ≤ 0
    · rw [if_pos c2] at h5
      simp (disch := first | assumption | exact pj_long_i | exact pj_long_r | exact pj_long_n | decide) only [x82_21, x82_22, x82_25, x82_27, x82_28, x82_31, x82_32, x82_35, x82_36, x82_37, x82_40, x82_41, x82_44, x82_46, x82_47, x82_50, x82_51, x82_54, x82_56, x82_57, x82_58, x82_59, x82_62, x82_63, simprocAttr, pj_then_s, pj_pv_s, pj_pi_s, pj_set_s, if_true, if_false, not_true_eq_false, not_false_eq_true, pj_up_up, pj_up_sort, pj_up_ap, pj_upd_ap, pj_a3_0, pj_a3_1, pj_a3_2, pj_a3_u0, pj_a3_u1, pj_a3_u2, pj_f6_0, pj_arl_i, pj_ars_i, hm, hf, pj_mo, c1, c2]
      rw [h5, ← c1]
      exact K _ rfl
    · rw [if_neg c2] at h5
      simp (disch := first | assumption | exact pj_long_i | exact pj_long_r | exact pj_long_n | decide) only [x82_21, x82_22, x82_25, x82_27, x82_28, x82_31, x82_32, x82_35, x82_36, x82_37, x82_40, x82_41, x82_44, x82_46, x82_47, x82_50, x82_51, x82_54, x82_56, x82_57, x82_58, x82_59, x82_62, x82_63, simprocAttr, pj_then_s, pj_pv_s, pj_pi_s, pj_set_s, if_true, if_false, not_true_eq_false, not_false_eq_true, pj_up_up, pj_up_sort, pj_up_ap, pj_upd_ap, pj_a3_0, pj_a3_1, pj_a3_2, pj_a3_u0, pj_a3_u1, pj_a3_u2, pj_f6_0, pj_arl_i, pj_ars_i, hm, hf, pj_mo, c1, c2]
      rw [h5, ← c1]
      exact K _ rfl
  · rw [if_neg c1] at h5
    simp (disch := first | assumption | exact pj_long_i | exact pj_long_r | exact pj_long_n | decide) only [x82_21, x82_22, x82_25, x82_27, x82_28, x82_31, x82_32, x82_35, x82_36, x82_37, x82_40, x82_41, x82_44, x82_46, x82_47, x82_50, x82_51, x82_54, x82_56, x82_57, x82_58, x82_59, x82_62, x82_63, simprocAttr, pj_then_s, pj_pv_s, pj_pi_s, pj_set_s, if_true, if_false, not_true_eq_false, not_false_eq_true, pj_up_up, pj_up_sort, pj_up_ap, pj_upd_ap, pj_a3_0, pj_a3_1, pj_a3_2, pj_a3_u0, pj_a3_u1, pj_a3_u2, pj_f6_0, pj_arl_i, pj_ars_i, hm, hf, pj_mo, c1]
    rw [h5]
    exact K _ rfl
theorem m_on_a {c : Int32} {n : Nat} (hn : n ≤ 12) (hr : f6 30 = nI n) (h1 : sp_T1 f (pj_a3 r0 r1 r2) = f1) (hAA : pj_a3 (r0 - f1 8) (r1 - f1 9) (r2 - f1 10) = A) (hmm : sp_mid f1 A = m) (h2 : sp_T2 f1 A m = f2) (h3 : sp_T3 f2 (pj_a3 r0 r1 r2) m c = f3) (h4 : sp_T4 f3 A = f4) (h5 : upd f4 7 (if c = 0 then (if f4 7 ≤ 0 then 0 else f4 7 - 1) else f4 2) = f5) (hlo : sp_vof f5 (f5 0) = y) (hhi : sp_vof f5 (f5 1) = z) (h6 : sp_f3 f5 y z = f6) (hfi : sp_fires f5 y z = w) (h7 : (if sp_rec f6 = 0 then f6 else sp_put (sp_sh f6) (pj_a3 r0 r1 r2) m y z w c (sp_at f6)) = f7) (h8 : upd f7 29 (if w = 0 then f7 29 else if f7 29 = -6 then f7 6 else f7 29) = f8) (h9 : upd f8 6 (f8 6 + 1) = f9) (hm : H 109 = pj_mo hl mid lo hi fi pl sp nu ic td) (hf : H 110 = .inr (0, 152, .inl f)) (hg : H 115 = .inr (0, 3, .inl (pj_a3 r0 r1 r2))) (hA : H 116 = .inr (0, 3, .inl (pj_a3 a0 a1 a2))) :
    pj_Ends 82 (0, [some (.ref 109), some (.int c)], [], (N, S, H)) (none, (N, S, pj_up (pj_up (pj_up H 109 (pj_mo hl m y z w pl sp nu ic td)) 110 (.inr (0, 152, .inl f9))) 116 (.inr (0, 3, .inl A)))) := by
  simp (disch := first | assumption | exact pj_long_i | exact pj_long_r | exact pj_long_n | decide) only [x82_0, simprocAttr, pj_then_s, pj_pv_s, pj_pi_s, pj_set_s, if_true, if_false, not_true_eq_false, not_false_eq_true, pj_up_up, pj_up_sort, pj_up_ap, pj_upd_ap, pj_a3_0, pj_a3_1, pj_a3_2, pj_a3_u0, pj_a3_u1, pj_a3_u2]
  refine e82_1 rfl (by first | (rw [hm]; rfl) | (simp only [simprocAttr, pj_up_ap, if_true, if_false, hm, pj_mo]; rfl)) (m_looksForStuck hm hf hg) ?_
  rw [h1]
  simp (disch := first | assumption | exact pj_long_i | exact pj_long_r | exact pj_long_n | decide) only [x82_4, simprocAttr, pj_then_s, pj_pv_s, pj_pi_s, pj_set_s, if_true, if_false, not_true_eq_false, not_false_eq_true, pj_up_up, pj_up_sort, pj_up_ap, pj_upd_ap, pj_a3_0, pj_a3_1, pj_a3_2, pj_a3_u0, pj_a3_u1, pj_a3_u2]
  refine e82_5 rfl (by first | (rw [hm]; rfl) | (simp only [simprocAttr, pj_up_ap, if_true, if_false, hm, pj_mo]; rfl)) (m_findMiddle (hl := hl) (mid := mid) (lo := lo) (hi := hi) (fi := fi) (pl := pl) (sp := sp) (nu := nu) (ic := ic) (td := td) (f := f1) (r0 := r0) (r1 := r1) (r2 := r2) (a0 := a0) (a1 := a1) (a2 := a2) (by (try simp (disch := decide) only [simprocAttr, pj_up_ap, if_true, if_false, pj_mo, hm, hf, hg, hA]) <;> rfl) (by (try simp (disch := decide) only [simprocAttr, pj_up_ap, if_true, if_false, pj_mo, hm, hf, hg, hA]) <;> rfl) (by (try simp (disch := decide) only [simprocAttr, pj_up_ap, if_true, if_false, pj_mo, hm, hf, hg, hA]) <;> rfl) (by (try simp (disch := decide) only [simprocAttr, pj_up_ap, if_true, if_false, pj_mo, hm, hf, hg, hA]) <;> rfl)) ?_
  rw [hAA, hmm]
  simp (disch := first | assumption | exact pj_long_i | exact pj_long_r | exact pj_long_n | decide) only [x82_8, simprocAttr, pj_then_s, pj_pv_s, pj_pi_s, pj_set_s, if_true, if_false, not_true_eq_false, not_false_eq_true, pj_up_up, pj_up_sort, pj_up_ap, pj_upd_ap, pj_a3_0, pj_a3_1, pj_a3_2, pj_a3_u0, pj_a3_u1, pj_a3_u2]
  refine e82_9 rfl (by first | (rw [hm]; rfl) | (simp only [simprocAttr, pj_up_ap, if_true, if_false, hm, pj_mo]; rfl)) (m_looksForFar (hl := hl) (mid := m) (lo := lo) (hi := hi) (fi := fi) (pl := pl) (sp := sp) (nu := nu) (ic := ic) (td := td) (f := f1) (g := A) (by (try simp (disch := decide) only [simprocAttr, pj_up_ap, if_true, if_false, pj_mo, hm, hf, hg, hA]) <;> rfl) (by (try simp (disch := decide) only [simprocAttr, pj_up_ap, if_true, if_false, pj_mo, hm, hf, hg, hA]) <;> rfl) (by (try simp (disch := decide) only [simprocAttr, pj_up_ap, if_true, if_false, pj_mo, hm, hf, hg, hA]) <;> rfl)) ?_
  simp (disch := first | assumption | exact pj_long_i | exact pj_long_r | exact pj_long_n | decide) only [x82_12, x82_13, simprocAttr, pj_then_s, pj_pv_s, pj_pi_s, pj_set_s, if_true, if_false, not_true_eq_false, not_false_eq_true, pj_up_up, pj_up_sort, pj_up_ap, pj_upd_ap, pj_a3_0, pj_a3_1, pj_a3_2, pj_a3_u0, pj_a3_u1, pj_a3_u2, h2]
  refine e82_14 rfl (by first | (rw [hm]; rfl) | (simp only [simprocAttr, pj_up_ap, if_true, if_false, hm, pj_mo]; rfl)) (m_learns (hl := hl) (mid := m) (lo := lo) (hi := hi) (fi := fi) (pl := pl) (sp := sp) (nu := nu) (ic := ic) (td := td) (f := f2) (g := pj_a3 r0 r1 r2) (by (try simp (disch := decide) only [simprocAttr, pj_up_ap, if_true, if_false, pj_mo, hm, hf, hg, hA]) <;> rfl) (by (try simp (disch := decide) only [simprocAttr, pj_up_ap, if_true, if_false, pj_mo, hm, hf, hg, hA]) <;> rfl) (by (try simp (disch := decide) only [simprocAttr, pj_up_ap, if_true, if_false, pj_mo, hm, hf, hg, hA]) <;> rfl)) ?_
  simp (disch := first | assumption | exact pj_long_i | exact pj_long_r | exact pj_long_n | decide) only [x82_17, simprocAttr, pj_then_s, pj_pv_s, pj_pi_s, pj_set_s, if_true, if_false, not_true_eq_false, not_false_eq_true, pj_up_up, pj_up_sort, pj_up_ap, pj_upd_ap, pj_a3_0, pj_a3_1, pj_a3_2, pj_a3_u0, pj_a3_u1, pj_a3_u2, h3]
  refine e82_18 rfl (by first | (rw [hm]; rfl) | (simp only [simprocAttr, pj_up_ap, if_true, if_false, hm, pj_mo]; rfl)) (m_sums (hl := hl) (mid := m) (lo := lo) (hi := hi) (fi := fi) (pl := pl) (sp := sp) (nu := nu) (ic := ic) (td := td) (f := f3) (g := A) (by (try simp (disch := decide) only [simprocAttr, pj_up_ap, if_true, if_false, pj_mo, hm, hf, hg, hA]) <;> rfl) (by (try simp (disch := decide) only [simprocAttr, pj_up_ap, if_true, if_false, pj_mo, hm, hf, hg, hA]) <;> rfl) (by (try simp (disch := decide) only [simprocAttr, pj_up_ap, if_true, if_false, pj_mo, hm, hf, hg, hA]) <;> rfl)) ?_
  simp (disch := first | assumption | exact pj_long_i | exact pj_long_r | exact pj_long_n | decide) only [simprocAttr, pj_then_s, pj_pv_s, pj_pi_s, pj_set_s, if_true, if_false, not_true_eq_false, not_false_eq_true, pj_up_up, pj_up_sort, pj_up_ap, pj_upd_ap, pj_a3_0, pj_a3_1, pj_a3_2, pj_a3_u0, pj_a3_u1, pj_a3_u2, h4]
  refine (m_on_b (f4 := f4) (hl := hl) (m := m) (lo := lo) (hi := hi) (fi := fi) (pl := pl) (sp := sp) (nu := nu) (ic := ic) (td := td) hn hr h5 hlo hhi h6 hfi h7 h8 h9 (by (try simp (disch := decide) only [simprocAttr, pj_up_ap, if_true, if_false, pj_mo, hm, hf, hg, hA]) <;> rfl) (by (try simp (disch := decide) only [simprocAttr, pj_up_ap, if_true, if_false, pj_mo, hm, hf, hg, hA]) <;> rfl) (by (try simp (disch := decide) only [simprocAttr, pj_up_ap, if_true, if_false, pj_mo, hm, hf, hg, hA]) <;> rfl)).res ?_
  rw [pj_up_sort (a := 116) (b := 109) (by decide), pj_up_sort (a := 110) (b := 109) (by decide), pj_up_up, pj_up_sort (a := 116) (b := 110) (by decide), pj_up_up]
theorem m_ticksOn {c : Int32} {n : Nat} (hn : n ≤ 12) (hr : f 30 = nI n) (hm : H 109 = pj_mo hl mid lo hi fi pl sp nu ic td) (hf : H 110 = .inr (0, 152, .inl f)) (hg : H 115 = .inr (0, 3, .inl (pj_a3 r0 r1 r2))) (hA : H 116 = .inr (0, 3, .inl (pj_a3 a0 a1 a2))) :
    pj_Ends 82 (0, [some (.ref 109), some (.int c)], [], (N, S, H)) (none, (N, S, pj_up (pj_up (pj_up H 109 (pj_mo hl (tk_m f (pj_a3 r0 r1 r2)) (tk_lo f (pj_a3 r0 r1 r2) c) (tk_hi f (pj_a3 r0 r1 r2) c) (tk_fi f (pj_a3 r0 r1 r2) c) pl sp nu ic td)) 110 (.inr (0, 152, .inl (sp_tick f (pj_a3 r0 r1 r2) c)))) 116 (.inr (0, 3, .inl (tk_A f (pj_a3 r0 r1 r2)))))) := by
  have h30 : tk_6 f (pj_a3 r0 r1 r2) c 30 = nI n := by rw [tk_6_ne (by omega)]; exact hr
  exact m_on_a (f1 := sp_T1 f (pj_a3 r0 r1 r2)) (A := tk_A f (pj_a3 r0 r1 r2)) (m := tk_m f (pj_a3 r0 r1 r2)) (f2 := tk_2 f (pj_a3 r0 r1 r2)) (f3 := tk_3 f (pj_a3 r0 r1 r2) c) (f4 := tk_4 f (pj_a3 r0 r1 r2) c) (f5 := tk_5 f (pj_a3 r0 r1 r2) c) (y := tk_lo f (pj_a3 r0 r1 r2) c) (z := tk_hi f (pj_a3 r0 r1 r2) c) (f6 := tk_6 f (pj_a3 r0 r1 r2) c) (w := tk_fi f (pj_a3 r0 r1 r2) c) (f7 := tk_7 f (pj_a3 r0 r1 r2) c) (f8 := tk_8 f (pj_a3 r0 r1 r2) c) (f9 := sp_tick f (pj_a3 r0 r1 r2) c) hn h30 rfl rfl rfl rfl rfl rfl rfl rfl rfl rfl rfl rfl rfl rfl hm hf hg hA
end M6
