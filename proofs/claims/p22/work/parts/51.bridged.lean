/-! BRIDGES: the stages -/
theorem sp_bits_pk {a b c : Int32} (h : pj_b3 a b c) : sp_bits (pj_pk a b c) = a + b + c := by
  obtain ⟨h1, h2, h3⟩ := h
  rcases h1 with rfl | rfl <;> rcases h2 with rfl | rfl <;> rcases h3 with rfl | rfl <;> decide
theorem sp_may0_ck {f : Nat → Int32} {l0 l1 l2 hi : Int32} (h7 : ¬ f 7 = 0) (hb : f 26 = 0 ∨ f 26 = 1) (bl : pj_b3 l0 l1 l2) : sp_may0 f (pj_pk l0 l1 l2) hi = ck_y (f 23) (f 26) (ck_d0 (l0 + l1 + l2)) := by
  have q10 : ¬ (1 : Int32) = 0 := by decide
  have q01 : ¬ (0 : Int32) = 1 := by decide
  unfold sp_may0 ck_y ck_d0
  rw [sp_bits_pk bl]
  rcases hb with e | e
  · simp only [e, if_neg q01, if_neg h7, if_true]
  · simp only [e, if_neg q10, if_true]
theorem sp_may1_ck {f : Nat → Int32} {l0 l1 l2 hi : Int32} (h7 : ¬ f 7 = 0) (h0 : f 26 = 0 ∨ f 26 = 1) (hb : f 27 = 0 ∨ f 27 = 1) (bl : pj_b3 l0 l1 l2) : sp_may1 f (pj_pk l0 l1 l2) hi = ck_y (f 24) (f 27) (ck_d1 (l0 + l1 + l2) (f 6) (f 23) (f 5) (f 26)) := by
  have q10 : ¬ (1 : Int32) = 0 := by decide
  have q01 : ¬ (0 : Int32) = 1 := by decide
  have hh : sp_hf f 0 = ck_hw (f 6) (f 23) (f 5) := rfl
  have h26 : (if f 26 = 1 then (1 : Int32) else 0) = f 26 := by
    rcases h0 with e | e
    · rw [e, if_neg q01]
    · rw [e, if_pos rfl]
  unfold sp_may1 ck_y ck_d1
  rw [sp_bits_pk bl, hh, h26]
  rcases hb with e | e
  · simp only [e, if_neg q01, if_neg h7, if_true]
  · simp only [e, if_neg q10, if_true]
theorem sp_may2_ck {f : Nat → Int32} {h0 h1 h2 lo : Int32} (h7 : ¬ f 7 = 0) (hb : f 28 = 0 ∨ f 28 = 1) (bh : pj_b3 h0 h1 h2) : sp_may2 f lo (pj_pk h0 h1 h2) = ck_y (f 25) (f 28) (ck_d2 (h0 + h1 + h2) (f 6) (f 24) (f 5)) := by
  have q10 : ¬ (1 : Int32) = 0 := by decide
  have q01 : ¬ (0 : Int32) = 1 := by decide
  have hh : sp_hf f 1 = ck_hw (f 6) (f 24) (f 5) := rfl
  have hz : (if ck_hw (f 6) (f 24) (f 5) = 0 then (0 : Int32) else 1) = ck_hw (f 6) (f 24) (f 5) := by
    rcases ck_hw_01 (nm := f 6) (t := f 24) (d := f 5) with e | e
    · rw [e, if_pos rfl]
    · rw [e, if_neg q10]
  unfold sp_may2 ck_y ck_d2
  rw [sp_bits_pk bh, hh, hz]
  rcases hb with e | e
  · simp only [e, if_neg q01, if_neg h7, if_true]
  · simp only [e, if_neg q10, if_true]

