/-! THE ORDER OF THE SENSORS: the sensor k of the first object is the sensor lw_th b k of the second one -/
def lw_th (b k : Nat) : Nat := if b < 3 then (k + b) % 3 else (5 - k + b) % 3
def lw_set (b : Nat) (v : Int32) : Int32 := 0 ||| ((v >>> ((0 : Int32) &&& 31) &&& 1) <<< (nI (lw_th b 0) &&& 31)) ||| ((v >>> ((1 : Int32) &&& 31) &&& 1) <<< (nI (lw_th b 1) &&& 31)) ||| ((v >>> ((2 : Int32) &&& 31) &&& 1) <<< (nI (lw_th b 2) &&& 31))
theorem lw_b6 {b : Nat} (h : b < 6) : b = 0 ∨ b = 1 ∨ b = 2 ∨ b = 3 ∨ b = 4 ∨ b = 5 := by omega
theorem lw_k3 {k : Nat} (h : k < 3) : k = 0 ∨ k = 1 ∨ k = 2 := by omega
theorem lw_th_lt {b k : Nat} : lw_th b k < 3 := by
  unfold lw_th
  split <;> exact Nat.mod_lt _ (by decide)
theorem lw_set_0 {b : Nat} (h : b < 6) : lw_set b 0 = 0 := by
  rcases lw_b6 h with e | e | e | e | e | e <;> subst e <;> decide
theorem lw_set_pk_0 {x0 x1 x2 : Int32} (h : pj_b3 x0 x1 x2) : lw_set 0 (pj_pk x0 x1 x2) = pj_pk x0 x1 x2 := by
  obtain ⟨h0, h1, h2⟩ := h
  rcases h0 with rfl | rfl <;> rcases h1 with rfl | rfl <;> rcases h2 with rfl | rfl <;> decide
theorem lw_set_pk_1 {x0 x1 x2 : Int32} (h : pj_b3 x0 x1 x2) : lw_set 1 (pj_pk x0 x1 x2) = pj_pk x2 x0 x1 := by
  obtain ⟨h0, h1, h2⟩ := h
  rcases h0 with rfl | rfl <;> rcases h1 with rfl | rfl <;> rcases h2 with rfl | rfl <;> decide
theorem lw_set_pk_2 {x0 x1 x2 : Int32} (h : pj_b3 x0 x1 x2) : lw_set 2 (pj_pk x0 x1 x2) = pj_pk x1 x2 x0 := by
  obtain ⟨h0, h1, h2⟩ := h
  rcases h0 with rfl | rfl <;> rcases h1 with rfl | rfl <;> rcases h2 with rfl | rfl <;> decide
theorem lw_set_pk_3 {x0 x1 x2 : Int32} (h : pj_b3 x0 x1 x2) : lw_set 3 (pj_pk x0 x1 x2) = pj_pk x2 x1 x0 := by
  obtain ⟨h0, h1, h2⟩ := h
  rcases h0 with rfl | rfl <;> rcases h1 with rfl | rfl <;> rcases h2 with rfl | rfl <;> decide
theorem lw_set_pk_4 {x0 x1 x2 : Int32} (h : pj_b3 x0 x1 x2) : lw_set 4 (pj_pk x0 x1 x2) = pj_pk x0 x2 x1 := by
  obtain ⟨h0, h1, h2⟩ := h
  rcases h0 with rfl | rfl <;> rcases h1 with rfl | rfl <;> rcases h2 with rfl | rfl <;> decide
theorem lw_set_pk_5 {x0 x1 x2 : Int32} (h : pj_b3 x0 x1 x2) : lw_set 5 (pj_pk x0 x1 x2) = pj_pk x1 x0 x2 := by
  obtain ⟨h0, h1, h2⟩ := h
  rcases h0 with rfl | rfl <;> rcases h1 with rfl | rfl <;> rcases h2 with rfl | rfl <;> decide
theorem pj_mx_t (a b : Int32) : (pj_mx a b).toInt = max a.toInt b.toInt := by
  unfold pj_mx
  split
  · rename_i h
    rw [Int32.lt_iff_toInt_lt] at h
    omega
  · rename_i h
    rw [Int32.lt_iff_toInt_lt] at h
    omega
theorem pj_mn_t (a b : Int32) : (pj_mn a b).toInt = min a.toInt b.toInt := by
  unfold pj_mn
  split
  · rename_i h
    rw [Int32.lt_iff_toInt_lt] at h
    omega
  · rename_i h
    rw [Int32.lt_iff_toInt_lt] at h
    omega
theorem pj_mn_c (a b : Int32) : pj_mn a b = pj_mn b a := by
  apply Int32.toInt_inj.mp
  rw [pj_mn_t, pj_mn_t]
  omega
theorem pj_mx_c (a b : Int32) : pj_mx a b = pj_mx b a := by
  apply Int32.toInt_inj.mp
  rw [pj_mx_t, pj_mx_t]
  omega
theorem pj_mm_c (a b c : Int32) : pj_mx (pj_mn a c) (pj_mn (pj_mx a c) b) = pj_mx (pj_mn a b) (pj_mn (pj_mx a b) c) := by
  apply Int32.toInt_inj.mp
  rw [pj_mx_t, pj_mx_t, pj_mn_t, pj_mn_t, pj_mn_t, pj_mn_t, pj_mx_t, pj_mx_t]
  omega
theorem ck_mid_01 {v0 v1 v2 a0 a1 a2 : Int32} (h : pj_b3 v0 v1 v2) : ck_mid v1 v0 v2 a1 a0 a2 = ck_mid v0 v1 v2 a0 a1 a2 := by
  obtain ⟨h0, h1, h2⟩ := h
  have q10 : ¬ (1 : Int32) = 0 := by decide
  have q01 : ¬ (0 : Int32) = 1 := by decide
  unfold ck_mid ck_least ck_l
  rcases h0 with rfl | rfl <;> rcases h1 with rfl | rfl <;> rcases h2 with rfl | rfl <;> simp only [if_neg q10, if_neg q01, q10, q01, if_true, if_false, and_true, true_and, and_false, false_and]
  · exact pj_mn_c _ _
  · rw [pj_mn_c a1 a0, pj_mx_c a1 a0]
theorem ck_mid_12 {v0 v1 v2 a0 a1 a2 : Int32} (h : pj_b3 v0 v1 v2) : ck_mid v0 v2 v1 a0 a2 a1 = ck_mid v0 v1 v2 a0 a1 a2 := by
  obtain ⟨h0, h1, h2⟩ := h
  have q10 : ¬ (1 : Int32) = 0 := by decide
  have q01 : ¬ (0 : Int32) = 1 := by decide
  unfold ck_mid ck_least ck_l
  rcases h0 with rfl | rfl <;> rcases h1 with rfl | rfl <;> rcases h2 with rfl | rfl <;> simp only [if_neg q10, if_neg q01, q10, q01, if_true, if_false, and_true, true_and, and_false, false_and]
  · exact pj_mn_c _ _
  · exact pj_mm_c _ _ _
theorem pj_b3_01 {a b c : Int32} (h : pj_b3 a b c) : pj_b3 b a c := ⟨h.2.1, h.1, h.2.2⟩
theorem pj_b3_12 {a b c : Int32} (h : pj_b3 a b c) : pj_b3 a c b := ⟨h.1, h.2.2, h.2.1⟩
theorem ck_mid_p0 {v0 v1 v2 a0 a1 a2 : Int32} (_h : pj_b3 v0 v1 v2) : ck_mid v0 v1 v2 a0 a1 a2 = ck_mid v0 v1 v2 a0 a1 a2 := rfl
theorem ck_mid_p1 {v0 v1 v2 a0 a1 a2 : Int32} (h : pj_b3 v0 v1 v2) : ck_mid v2 v0 v1 a2 a0 a1 = ck_mid v0 v1 v2 a0 a1 a2 := (ck_mid_01 (pj_b3_12 h)).trans (ck_mid_12 h)
theorem ck_mid_p2 {v0 v1 v2 a0 a1 a2 : Int32} (h : pj_b3 v0 v1 v2) : ck_mid v1 v2 v0 a1 a2 a0 = ck_mid v0 v1 v2 a0 a1 a2 := (ck_mid_12 (pj_b3_01 h)).trans (ck_mid_01 h)
theorem ck_mid_p3 {v0 v1 v2 a0 a1 a2 : Int32} (h : pj_b3 v0 v1 v2) : ck_mid v2 v1 v0 a2 a1 a0 = ck_mid v0 v1 v2 a0 a1 a2 := (ck_mid_12 (pj_b3_01 (pj_b3_12 h))).trans (ck_mid_p1 h)
theorem ck_mid_p4 {v0 v1 v2 a0 a1 a2 : Int32} (h : pj_b3 v0 v1 v2) : ck_mid v0 v2 v1 a0 a2 a1 = ck_mid v0 v1 v2 a0 a1 a2 := ck_mid_12 h
theorem ck_mid_p5 {v0 v1 v2 a0 a1 a2 : Int32} (h : pj_b3 v0 v1 v2) : ck_mid v1 v0 v2 a1 a0 a2 = ck_mid v0 v1 v2 a0 a1 a2 := ck_mid_01 h
theorem ck_f_01p {v0 v1 v2 v d x : Int32} : ck_f v1 v0 v2 v d x = ck_f v0 v1 v2 v d x := by
  have e : (v1 = 1 ∧ v0 = 1 ∧ v2 = 1) = (v0 = 1 ∧ v1 = 1 ∧ v2 = 1) := propext ⟨fun q => ⟨q.2.1, q.1, q.2.2⟩, fun q => ⟨q.2.1, q.1, q.2.2⟩⟩
  unfold ck_f
  simp only [e]
theorem ck_f_12p {v0 v1 v2 v d x : Int32} : ck_f v0 v2 v1 v d x = ck_f v0 v1 v2 v d x := by
  have e : (v0 = 1 ∧ v2 = 1 ∧ v1 = 1) = (v0 = 1 ∧ v1 = 1 ∧ v2 = 1) := propext ⟨fun q => ⟨q.1, q.2.2, q.2.1⟩, fun q => ⟨q.1, q.2.2, q.2.1⟩⟩
  unfold ck_f
  simp only [e]
theorem ck_f_p0 {v0 v1 v2 v d x : Int32} : ck_f v0 v1 v2 v d x = ck_f v0 v1 v2 v d x := rfl
theorem ck_f_p1 {v0 v1 v2 v d x : Int32} : ck_f v2 v0 v1 v d x = ck_f v0 v1 v2 v d x := ck_f_01p.trans ck_f_12p
theorem ck_f_p2 {v0 v1 v2 v d x : Int32} : ck_f v1 v2 v0 v d x = ck_f v0 v1 v2 v d x := ck_f_12p.trans ck_f_01p
theorem ck_f_p3 {v0 v1 v2 v d x : Int32} : ck_f v2 v1 v0 v d x = ck_f v0 v1 v2 v d x := ck_f_12p.trans ck_f_p1
theorem ck_f_p4 {v0 v1 v2 v d x : Int32} : ck_f v0 v2 v1 v d x = ck_f v0 v1 v2 v d x := ck_f_12p
theorem ck_f_p5 {v0 v1 v2 v d x : Int32} : ck_f v1 v0 v2 v d x = ck_f v0 v1 v2 v d x := ck_f_01p
/-- what the stages look at -/
def lw_A (F F' : Nat → Int32) : Prop := ∀ j, (5 ≤ j ∧ j ≤ 7) ∨ (23 ≤ j ∧ j ≤ 28) → F' j = F j
theorem lw_A.fr {F F' : Nat → Int32} {y : Int32} {k : Nat} (h : lw_A F F') : lw_A (sp_fr F y k) (sp_fr F' y k) := by
  intro j hj
  unfold sp_fr
  by_cases c : y = 0
  · rw [if_pos c, if_pos c]
    exact h j hj
  · rw [if_neg c, if_neg c, pj_upd_ap, pj_upd_ap]
    by_cases q : j = 23 + k
    · rw [if_pos q, if_pos q]
      exact h 6 (by decide)
    · rw [if_neg q, if_neg q]
      exact h j hj
theorem lw_A.may0 {F F' : Nat → Int32} {lo hi lo' hi' : Int32} (h : lw_A F F') (hl : sp_bits lo' = sp_bits lo) : sp_may0 F' lo' hi' = sp_may0 F lo hi := by
  unfold sp_may0
  rw [h 23 (by decide), h 26 (by decide), h 7 (by decide), hl]
theorem lw_A.may1 {F F' : Nat → Int32} {lo hi lo' hi' : Int32} (h : lw_A F F') (hl : sp_bits lo' = sp_bits lo) : sp_may1 F' lo' hi' = sp_may1 F lo hi := by
  have e : sp_hf F' 0 = sp_hf F 0 := by
    unfold sp_hf
    rw [h (23 + 0) (by decide), h 6 (by decide), h 5 (by decide)]
  unfold sp_may1
  rw [h 24 (by decide), h 27 (by decide), h 7 (by decide), h 26 (by decide), hl, e]
theorem lw_A.may2 {F F' : Nat → Int32} {lo hi lo' hi' : Int32} (h : lw_A F F') (hh : sp_bits hi' = sp_bits hi) : sp_may2 F' lo' hi' = sp_may2 F lo hi := by
  have e : sp_hf F' 1 = sp_hf F 1 := by
    unfold sp_hf
    rw [h (23 + 1) (by decide), h 6 (by decide), h 5 (by decide)]
  unfold sp_may2
  rw [h 25 (by decide), h 28 (by decide), h 7 (by decide), hh, e]
theorem lw_A.f3 {F F' : Nat → Int32} {lo hi lo' hi' : Int32} (h : lw_A F F') (hl : sp_bits lo' = sp_bits lo) (hh : sp_bits hi' = sp_bits hi) : lw_A (sp_f3 F lo hi) (sp_f3 F' lo' hi') ∧ sp_fires F' lo' hi' = sp_fires F lo hi := by
  have m0 : sp_may0 F' lo' hi' = sp_may0 F lo hi := h.may0 hl
  have h1 : lw_A (sp_f1 F lo hi) (sp_f1 F' lo' hi') := by
    unfold sp_f1
    rw [m0]
    exact h.fr
  have m1 : sp_may1 (sp_f1 F' lo' hi') lo' hi' = sp_may1 (sp_f1 F lo hi) lo hi := h1.may1 hl
  have h2 : lw_A (sp_f2 F lo hi) (sp_f2 F' lo' hi') := by
    unfold sp_f2
    rw [m1]
    exact h1.fr
  have m2 : sp_may2 (sp_f2 F' lo' hi') lo' hi' = sp_may2 (sp_f2 F lo hi) lo hi := h2.may2 hh
  refine ⟨?_, ?_⟩
  · unfold sp_f3
    rw [m2]
    exact h2.fr
  · unfold sp_fires
    rw [m0, m1, m2]
