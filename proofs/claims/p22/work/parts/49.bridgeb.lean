/-! BRIDGES: the votes, the offsets, the speeds -/
theorem tk_A_0 {f g : Nat → Int32} : tk_A f g 0 = g 0 - f 8 := by
  unfold tk_A
  rw [pj_a3_0, sp_T1_ne (by omega)]
theorem tk_A_1 {f g : Nat → Int32} : tk_A f g 1 = g 1 - f 9 := by
  unfold tk_A
  rw [pj_a3_1, sp_T1_ne (by omega)]
theorem tk_A_2 {f g : Nat → Int32} : tk_A f g 2 = g 2 - f 10 := by
  unfold tk_A
  rw [pj_a3_2, sp_T1_ne (by omega)]
theorem tk_m_ck {f g : Nat → Int32} (hb : pj_b3 (f 14) (f 15) (f 16)) : tk_m f g = ck_mid (ck_v f g 0) (ck_v f g 1) (ck_v f g 2) (g 0 - f 8) (g 1 - f 9) (g 2 - f 10) := by
  unfold tk_m
  rw [sp_mid_ck (by rw [sp_T1_v0, sp_T1_v1, sp_T1_v2]; exact ⟨ck_v_01 hb.1, ck_v_01 hb.2.1, ck_v_01 hb.2.2⟩), sp_T1_v0, sp_T1_v1, sp_T1_v2, tk_A_0, tk_A_1, tk_A_2]
theorem sp_T2_ck {F a : Nat → Int32} {m : Int32} (hb : pj_b3 (F 14) (F 15) (F 16)) : sp_T2 F a m 14 = ck_f (F 14) (F 15) (F 16) (F 14) (a 0 - m) (F 4) ∧ sp_T2 F a m 15 = ck_f (F 14) (F 15) (F 16) (F 15) (a 1 - m) (F 4) ∧ sp_T2 F a m 16 = ck_f (F 14) (F 15) (F 16) (F 16) (a 2 - m) (F 4) := by
  have h7 : sp_vot F = 7 ↔ F 14 = 1 ∧ F 15 = 1 ∧ F 16 = 1 := pj_pk7 hb
  unfold sp_T2 sp_t2 ck_f
  by_cases c : F 14 = 1 ∧ F 15 = 1 ∧ F 16 = 1
  · have c7 := h7.mpr c
    rw [if_pos c7]
    simp only [if_pos c]
    refine ⟨?_, ?_, ?_⟩ <;> simp only [simprocAttr, pj_upd_ap, if_true, if_false]
  · have c7 : ¬ sp_vot F = 7 := fun q => c (h7.mp q)
    rw [if_neg c7]
    simp only [if_neg c]
    refine ⟨?_, ?_, ?_⟩ <;> simp only [simprocAttr, pj_upd_ap, if_true, if_false]
theorem ck_to_dir {x y : Int32} (hx : -500 ≤ x ∧ x ≤ 500) (hy : -500 ≤ y ∧ y ≤ 500) : ck_to x y = x + sp_dir (y - x) := by
  have e5 : (500 : Int32).toInt = 500 := rfl
  have e6 : (-500 : Int32).toInt = -500 := rfl
  have e0 : (0 : Int32).toInt = 0 := rfl
  rw [Int32.le_iff_toInt_le, Int32.le_iff_toInt_le, e5, e6] at hx hy
  have es : (y - x).toInt = y.toInt - x.toInt := by
    rw [Int32.toInt_sub]
    apply Int.bmod_eq_of_le <;> omega
  unfold ck_to sp_dir
  by_cases c1 : x < y
  · have d1 : ¬ y - x ≤ 0 := by
      rw [Int32.le_iff_toInt_le, es, e0]
      rw [Int32.lt_iff_toInt_lt] at c1
      omega
    rw [if_pos c1, if_neg d1]
  · rw [if_neg c1]
    rw [Int32.lt_iff_toInt_lt] at c1
    have d1 : y - x ≤ 0 := by
      rw [Int32.le_iff_toInt_le, es, e0]
      omega
    rw [if_pos d1]
    by_cases c2 : y < x
    · have d2 : ¬ 0 ≤ y - x := by
        rw [Int32.le_iff_toInt_le, es, e0]
        rw [Int32.lt_iff_toInt_lt] at c2
        omega
      rw [if_pos c2, if_neg d2, Int32.sub_eq_add_neg]
    · have d2 : 0 ≤ y - x := by
        rw [Int32.le_iff_toInt_le, es, e0]
        rw [Int32.lt_iff_toInt_lt] at c2
        omega
      rw [if_neg c2, if_pos d2, Int32.add_zero]

