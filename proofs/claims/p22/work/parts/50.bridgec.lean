/-! BRIDGES: the offsets, the speeds, who votes -/
theorem sp_t3_at {F g : Nat → Int32} {m c : Int32} {k : Nat} (hb : F (14 + k) = 0 ∨ F (14 + k) = 1) (hx : -500 ≤ F (8 + k) ∧ F (8 + k) ≤ 500) (hg : -500 ≤ g k ∧ g k ≤ 500) : sp_t3 F g m c k (8 + k) = ck_o (ck_q m c) (F (14 + k)) (F (8 + k)) (g k) := by
  unfold sp_t3 ck_o ck_q
  by_cases c1 : c = 0
  · rw [if_pos c1, if_pos c1]
    by_cases c2 : sp_abs m ≤ 3
    · rw [if_pos c2, if_pos c2]
      have q10 : ¬ (1 : Int32) = 0 := by decide
      have q01 : ¬ (0 : Int32) = 1 := by decide
      rcases hb with e | e
      · simp only [e, if_neg q10, if_neg q01, if_true]
      · simp only [e, if_neg q10, if_true, pj_upd_ap, ck_to_dir hx hg]
    · rw [if_neg c2, if_neg c2, if_pos rfl]
  · rw [if_neg c1, if_neg c1]
    have e : (if sp_abs m ≤ 3 then (0 : Int32) else 0) = 0 := by
      split <;> rfl
    rw [e, if_pos rfl]
theorem sp_T3_ck {F g : Nat → Int32} {m c : Int32} (hb : ∀ k, k < 3 → F (14 + k) = 0 ∨ F (14 + k) = 1) (hx : ∀ k, k < 3 → -500 ≤ F (8 + k) ∧ F (8 + k) ≤ 500) (hg : ∀ k, k < 3 → -500 ≤ g k ∧ g k ≤ 500) : ∀ k, k < 3 → sp_T3 F g m c (8 + k) = ck_o (ck_q m c) (F (14 + k)) (F (8 + k)) (g k) := by
  intro k hk
  unfold sp_T3
  have : k = 0 ∨ k = 1 ∨ k = 2 := by omega
  rcases this with e | e | e
  · subst e
    rw [sp_t3_ne (i := 2) (by omega), sp_t3_ne (i := 1) (by omega)]
    exact sp_t3_at (k := 0) (hb 0 (by omega)) (hx 0 (by omega)) (hg 0 (by omega))
  · subst e
    rw [sp_t3_ne (i := 2) (by omega)]
    have e1 : sp_t3 F g m c 0 (14 + 1) = F (14 + 1) := sp_t3_ne (by omega)
    have e2 : sp_t3 F g m c 0 (8 + 1) = F (8 + 1) := sp_t3_ne (by omega)
    rw [sp_t3_at (k := 1) (by rw [e1]; exact hb 1 (by omega)) (by rw [e2]; exact hx 1 (by omega)) (hg 1 (by omega)), e1, e2]
  · subst e
    have e1 : sp_t3 (sp_t3 F g m c 0) g m c 1 (14 + 2) = F (14 + 2) := by rw [sp_t3_ne (by omega), sp_t3_ne (by omega)]
    have e2 : sp_t3 (sp_t3 F g m c 0) g m c 1 (8 + 2) = F (8 + 2) := by rw [sp_t3_ne (by omega), sp_t3_ne (by omega)]
    rw [sp_t3_at (k := 2) (by rw [e1]; exact hb 2 (by omega)) (by rw [e2]; exact hx 2 (by omega)) (hg 2 (by omega)), e1, e2]
theorem sp_T4_ck {F a : Nat → Int32} : sp_T4 F a 11 = ck_sp (F 11) (a 0) ∧ sp_T4 F a 12 = ck_sp (F 12) (a 1) ∧ sp_T4 F a 13 = ck_sp (F 13) (a 2) := by
  unfold sp_T4 sp_t4 ck_sp
  refine ⟨?_, ?_, ?_⟩ <;> simp only [simprocAttr, pj_upd_ap, if_true, if_false]
theorem sp_vof_ck {F : Nat → Int32} {x : Int32} (hb : pj_b3 (F 14) (F 15) (F 16)) : sp_vof F x = pj_pk (ck_w (F 14) (F 11) x) (ck_w (F 15) (F 12) x) (ck_w (F 16) (F 13) x) := by
  unfold sp_vof sp_vb ck_w
  obtain ⟨h0, h1, h2⟩ := hb
  simp only [simprocAttr]
  rcases h0 with e0 | e0 <;> rcases h1 with e1 | e1 <;> rcases h2 with e2 | e2 <;> simp only [simprocAttr, e0, e1, e2, if_true, if_false] <;> (repeat (first | rfl | decide | split))

