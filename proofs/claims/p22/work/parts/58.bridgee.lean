/-! BRIDGES: the stages behind a tick -/
theorem sp_fr_at {f : Nat → Int32} {y : Int32} {k : Nat} : sp_fr f y k (23 + k) = ck_n y (f (23 + k)) (f 6) := by
  unfold sp_fr ck_n
  by_cases h : y = 0
  · rw [if_pos h, if_pos h]
  · rw [if_neg h, if_neg h, pj_upd_ap, if_pos rfl]
theorem sp_fires_pk {a b c : Int32} : sp_fi (sp_fi (sp_fi 0 a 0) b 1) c 2 = pj_pk (ck_n a 0 1) (ck_n b 0 1) (ck_n c 0 1) := by
  unfold sp_fi ck_n
  by_cases h0 : a = 0 <;> by_cases h1 : b = 0 <;> by_cases h2 : c = 0 <;> simp only [if_pos, if_neg, h0, h1, h2, if_true, if_false] <;> decide
theorem sp_f3_ck {F : Nat → Int32} {l0 l1 l2 h0 h1 h2 : Int32} (h7 : ¬ F 7 = 0) (bb : pj_b3 (F 26) (F 27) (F 28)) (bl : pj_b3 l0 l1 l2) (bh : pj_b3 h0 h1 h2) :
    sp_f3 F (pj_pk l0 l1 l2) (pj_pk h0 h1 h2) 23 = ck_n (ck_yy F (F 6) (l0 + l1 + l2) (h0 + h1 + h2) 0) (F 23) (F 6) ∧ sp_f3 F (pj_pk l0 l1 l2) (pj_pk h0 h1 h2) 24 = ck_n (ck_yy F (F 6) (l0 + l1 + l2) (h0 + h1 + h2) 1) (F 24) (F 6) ∧ sp_f3 F (pj_pk l0 l1 l2) (pj_pk h0 h1 h2) 25 = ck_n (ck_yy F (F 6) (l0 + l1 + l2) (h0 + h1 + h2) 2) (F 25) (F 6) ∧ sp_fires F (pj_pk l0 l1 l2) (pj_pk h0 h1 h2) = pj_pk (ck_n (ck_yy F (F 6) (l0 + l1 + l2) (h0 + h1 + h2) 0) 0 1) (ck_n (ck_yy F (F 6) (l0 + l1 + l2) (h0 + h1 + h2) 1) 0 1) (ck_n (ck_yy F (F 6) (l0 + l1 + l2) (h0 + h1 + h2) 2) 0 1) := by
  have m0 : sp_may0 F (pj_pk l0 l1 l2) (pj_pk h0 h1 h2) = ck_yy F (F 6) (l0 + l1 + l2) (h0 + h1 + h2) 0 := sp_may0_ck h7 bb.1 bl
  have n1 : ∀ k, k ≠ 23 → sp_f1 F (pj_pk l0 l1 l2) (pj_pk h0 h1 h2) k = F k := fun k hk => sp_fr_ne (by omega)
  have a1 : sp_f1 F (pj_pk l0 l1 l2) (pj_pk h0 h1 h2) 23 = ck_n (ck_yy F (F 6) (l0 + l1 + l2) (h0 + h1 + h2) 0) (F 23) (F 6) := by
    unfold sp_f1
    rw [m0]
    exact sp_fr_at
  have m1 : sp_may1 (sp_f1 F (pj_pk l0 l1 l2) (pj_pk h0 h1 h2)) (pj_pk l0 l1 l2) (pj_pk h0 h1 h2) = ck_yy F (F 6) (l0 + l1 + l2) (h0 + h1 + h2) 1 := by
    rw [sp_may1_ck (by rw [n1 7 (by decide)]; exact h7) (by rw [n1 26 (by decide)]; exact bb.1) (by rw [n1 27 (by decide)]; exact bb.2.1) bl, a1, n1 24 (by decide), n1 27 (by decide), n1 6 (by decide), n1 5 (by decide), n1 26 (by decide)]
    rfl
  have n2 : ∀ k, k ≠ 23 → k ≠ 24 → sp_f2 F (pj_pk l0 l1 l2) (pj_pk h0 h1 h2) k = F k := fun k hk hk2 => (sp_fr_ne (by omega)).trans (n1 k hk)
  have a2 : sp_f2 F (pj_pk l0 l1 l2) (pj_pk h0 h1 h2) 24 = ck_n (ck_yy F (F 6) (l0 + l1 + l2) (h0 + h1 + h2) 1) (F 24) (F 6) := by
    unfold sp_f2
    rw [m1]
    refine (sp_fr_at (k := 1)).trans ?_
    rw [n1 (23 + 1) (by decide), n1 6 (by decide)]
  have m2 : sp_may2 (sp_f2 F (pj_pk l0 l1 l2) (pj_pk h0 h1 h2)) (pj_pk l0 l1 l2) (pj_pk h0 h1 h2) = ck_yy F (F 6) (l0 + l1 + l2) (h0 + h1 + h2) 2 := by
    rw [sp_may2_ck (by rw [n2 7 (by decide) (by decide)]; exact h7) (by rw [n2 28 (by decide) (by decide)]; exact bb.2.2) bh, a2, n2 25 (by decide) (by decide), n2 28 (by decide) (by decide), n2 6 (by decide) (by decide), n2 5 (by decide) (by decide)]
    rfl
  refine ⟨?_, ?_, ?_, ?_⟩
  · refine (sp_fr_ne (by omega)).trans ((sp_fr_ne (by omega)).trans a1)
  · refine (sp_fr_ne (by omega)).trans a2
  · unfold sp_f3
    rw [m2]
    refine (sp_fr_at (k := 2)).trans ?_
    rw [n2 (23 + 2) (by decide) (by decide), n2 6 (by decide) (by decide)]
  · unfold sp_fires
    rw [m0, m1, m2]
    exact sp_fires_pk
theorem sp_f3_no {F : Nat → Int32} {lo hi : Int32} (h7 : F 7 = 0) : sp_f3 F lo hi = F ∧ sp_fires F lo hi = 0 := by
  have m0 : sp_may0 F lo hi = 0 := by
    unfold sp_may0
    simp only [if_pos h7, ite_self]
  have f1 : sp_f1 F lo hi = F := by
    unfold sp_f1 sp_fr
    rw [m0, if_pos rfl]
  have m1 : sp_may1 F lo hi = 0 := by
    unfold sp_may1
    simp only [if_pos h7, ite_self]
  have f2 : sp_f2 F lo hi = F := by
    unfold sp_f2 sp_fr
    rw [f1, m1, if_pos rfl]
  have m2 : sp_may2 F lo hi = 0 := by
    unfold sp_may2
    simp only [if_pos h7, ite_self]
  refine ⟨?_, ?_⟩
  · unfold sp_f3 sp_fr
    rw [f2, m2, if_pos rfl]
  · unfold sp_fires sp_fi
    rw [f1, f2, m0, m1, m2, if_pos rfl, if_pos rfl, if_pos rfl]
theorem sp_rec_ck {F : Nat → Int32} {t : Nat} (ht : t ≤ 200000) (h6 : F 6 = nI t) (h29 : F 29 = -6 ∨ ∃ e, e ≤ t ∧ F 29 = nI e) : sp_rec F = ck_tk (F 29) (F 6) := by
  unfold sp_rec ck_tk
  rcases h29 with q | ⟨e, he, q⟩
  · rw [if_pos q, if_pos q]
  · have hne : ¬ F 29 = -6 := by
      rw [q]
      intro w
      have : (nI e).toInt = (-6 : Int32).toInt := congrArg _ w
      rw [nI_toInt (by omega)] at this
      have e6 : (-6 : Int32).toInt = -6 := rfl
      omega
    rw [if_neg hne, if_neg hne, q, h6]
    have e1 : nI e + 6 = nI (e + 6) := nI_add e 6
    have e2 : nI t - nI e = nI (t - e) := by
      have : nI t = nI (t - e) + nI e := by rw [nI_add]; exact congrArg nI (by omega)
      rw [this, Int32.add_sub_cancel]
    rw [e1, e2]
    have e3 : (6 : Int32) = nI 6 := rfl
    by_cases c : e + 6 < t
    · rw [if_pos ((nI_ltI (by omega) (by omega)).mpr c), if_pos (by rw [e3]; exact (nI_ltI (by omega) (by omega)).mpr (by omega))]
    · rw [if_neg (fun w => c ((nI_ltI (by omega) (by omega)).mp w)), if_neg (fun w => c (by rw [e3] at w; have := (nI_ltI (by omega) (by omega)).mp w; omega))]
theorem sp_left_ck {x y c : Int32} (hx : 0 ≤ x) : (if c = 0 then (if x ≤ 0 then (0 : Int32) else x - 1) else y) = (if c = 0 then pj_mx (x - 1) 0 else y) := by
  by_cases c0 : c = 0
  · rw [if_pos c0, if_pos c0]
    unfold pj_mx
    have e0 : (0 : Int32).toInt = 0 := rfl
    have e1 : (1 : Int32).toInt = 1 := rfl
    rw [Int32.le_iff_toInt_le, e0] at hx
    have hlt := Int32.toInt_lt x
    have es : (x - 1).toInt = x.toInt - 1 := by
      rw [Int32.toInt_sub, e1]
      apply Int.bmod_eq_of_le <;> omega
    by_cases q : x ≤ 0
    · have q' : x - 1 < 0 := by
        rw [Int32.le_iff_toInt_le, e0] at q
        rw [Int32.lt_iff_toInt_lt, es, e0]
        omega
      rw [if_pos q, if_pos q']
    · have q' : ¬ x - 1 < 0 := by
        rw [Int32.le_iff_toInt_le, e0] at q
        rw [Int32.lt_iff_toInt_lt, es, e0]
        omega
      rw [if_neg q, if_neg q']
  · rw [if_neg c0, if_neg c0]

