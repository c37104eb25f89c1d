/-! A TICK KEEPS WHAT A ROW KEEPS -/
theorem ck_to_in {x y : Int32} (hx : -500 ≤ x ∧ x ≤ 500) (hy : -500 ≤ y ∧ y ≤ 500) : -500 ≤ ck_to x y ∧ ck_to x y ≤ 500 := by
  have e5 : (500 : Int32).toInt = 500 := rfl
  have e6 : (-500 : Int32).toInt = -500 := rfl
  have e1 : (1 : Int32).toInt = 1 := rfl
  rw [Int32.le_iff_toInt_le, Int32.le_iff_toInt_le, e5, e6] at hx hy
  unfold ck_to
  by_cases c1 : x < y
  · rw [if_pos c1]
    rw [Int32.lt_iff_toInt_lt] at c1
    have es : (x + 1).toInt = x.toInt + 1 := by
      rw [Int32.toInt_add, e1]
      apply Int.bmod_eq_of_le <;> omega
    rw [Int32.le_iff_toInt_le, Int32.le_iff_toInt_le, e5, e6, es]
    omega
  · rw [if_neg c1]
    by_cases c2 : y < x
    · rw [if_pos c2]
      rw [Int32.lt_iff_toInt_lt] at c2
      have es : (x - 1).toInt = x.toInt - 1 := by
        rw [Int32.toInt_sub, e1]
        apply Int.bmod_eq_of_le <;> omega
      rw [Int32.le_iff_toInt_le, Int32.le_iff_toInt_le, e5, e6, es]
      omega
    · rw [if_neg c2, Int32.le_iff_toInt_le, Int32.le_iff_toInt_le, e5, e6]
      omega
theorem ck_o_in {q v x y : Int32} (hx : -500 ≤ x ∧ x ≤ 500) (hy : -500 ≤ y ∧ y ≤ 500) : -500 ≤ ck_o q v x y ∧ ck_o q v x y ≤ 500 := by
  unfold ck_o
  split
  · exact hx
  · split
    · exact hx
    · exact ck_to_in hx hy
theorem ck_s_in {s r x : Int32} {t : Nat} (h : ∃ a, a ≤ t ∧ s = nI a) : ∃ a, a ≤ t + 1 ∧ sp_same s r x = nI a := by
  obtain ⟨a, ha, e⟩ := h
  unfold sp_same
  split
  · exact ⟨1, by omega, rfl⟩
  · split
    · exact ⟨a + 1, by omega, by rw [e]; exact nI_1 a⟩
    · exact ⟨1, by omega, rfl⟩
section T30
variable {f : Nat → Int32} {b0 b1 b2 c : Int32}
theorem pj_Ro.tick {t : Nat} (hR : pj_Ro f t) (hg : ∀ k, k < 3 → -500 ≤ pj_a3 b0 b1 b2 k ∧ pj_a3 b0 b1 b2 k ≤ 500) : pj_Ro (sp_tick f (pj_a3 b0 b1 b2) c) (t + 1) := by
  have A := tk_all (c := c) hR hg rfl rfl rfl rfl rfl rfl rfl rfl rfl rfl rfl rfl rfl rfl rfl rfl rfl rfl rfl rfl rfl rfl rfl rfl rfl rfl
  have hR2 := hR
  obtain ⟨r0, ⟨m, hm, r30⟩, r6, rv, rb, r7, r2, rs, r8, r29⟩ := hR2
  have bv : pj_b3 (f 14) (f 15) (f 16) := ⟨rv 0 (by decide), rv 1 (by decide), rv 2 (by decide)⟩
  obtain ⟨-, x7, ⟨xo0, xo1, xo2⟩, -, ⟨xw0, xw1, xw2⟩, ⟨xs0, xs1, xs2⟩, -, -, -⟩ := A
  have n6 : ∀ k, k < 23 → k ≠ 6 → sp_tick f (pj_a3 b0 b1 b2) c k = tk_5 f (pj_a3 b0 b1 b2) c k := fun k h1 h2 => (sp_tick_hi hm r30 (Or.inl (by omega)) h2 (by omega)).trans (tk_6_5 (Or.inl h1))
  have kv0 : ck_v f (pj_a3 b0 b1 b2) 0 = 0 ∨ ck_v f (pj_a3 b0 b1 b2) 0 = 1 := ck_v_01 bv.1
  have kv1 : ck_v f (pj_a3 b0 b1 b2) 1 = 0 ∨ ck_v f (pj_a3 b0 b1 b2) 1 = 1 := ck_v_01 bv.2.1
  have kv2 : ck_v f (pj_a3 b0 b1 b2) 2 = 0 ∨ ck_v f (pj_a3 b0 b1 b2) 2 = 1 := ck_v_01 bv.2.2
  refine ⟨sp_tick_tail hm r30 r0, sp_tick_30 hm r30, ?_, ?_, ?_, ?_, ?_, ?_, ?_, ?_⟩
  · rw [sp_tick_6 hm r30, r6]
    exact nI_1 t
  · intro k hk
    have : k = 0 ∨ k = 1 ∨ k = 2 := by omega
    rcases this with e | e | e <;> subst e
    · rw [n6 (14 + 0) (by decide) (by decide), show tk_5 f (pj_a3 b0 b1 b2) c (14 + 0) = _ from xw0]
      exact ck_f_01 kv0
    · rw [n6 (14 + 1) (by decide) (by decide), show tk_5 f (pj_a3 b0 b1 b2) c (14 + 1) = _ from xw1]
      exact ck_f_01 kv1
    · rw [n6 (14 + 2) (by decide) (by decide), show tk_5 f (pj_a3 b0 b1 b2) c (14 + 2) = _ from xw2]
      exact ck_f_01 kv2
  · intro k hk
    rw [sp_tick_hi hm r30 (Or.inl (by omega)) (by omega) (by omega), tk_6_ne (by omega)]
    exact rb k hk
  · rw [n6 7 (by decide) (by decide), x7]
    exact ck_ar_0 r2
  · rw [n6 2 (by decide) (by decide), tk_5_ne (by decide)]
    exact r2
  · intro k hk
    have : k = 0 ∨ k = 1 ∨ k = 2 := by omega
    rcases this with e | e | e <;> subst e
    · rw [n6 (17 + 0) (by decide) (by decide), show tk_5 f (pj_a3 b0 b1 b2) c (17 + 0) = _ from xs0]
      exact ck_s_in (rs 0 (by decide))
    · rw [n6 (17 + 1) (by decide) (by decide), show tk_5 f (pj_a3 b0 b1 b2) c (17 + 1) = _ from xs1]
      exact ck_s_in (rs 1 (by decide))
    · rw [n6 (17 + 2) (by decide) (by decide), show tk_5 f (pj_a3 b0 b1 b2) c (17 + 2) = _ from xs2]
      exact ck_s_in (rs 2 (by decide))
  · intro k hk
    have : k = 0 ∨ k = 1 ∨ k = 2 := by omega
    rcases this with e | e | e <;> subst e
    · rw [n6 (8 + 0) (by decide) (by decide), show tk_5 f (pj_a3 b0 b1 b2) c (8 + 0) = _ from xo0]
      exact ck_o_in (r8 0 (by decide)) (hg 0 (by decide))
    · rw [n6 (8 + 1) (by decide) (by decide), show tk_5 f (pj_a3 b0 b1 b2) c (8 + 1) = _ from xo1]
      exact ck_o_in (r8 1 (by decide)) (hg 1 (by decide))
    · rw [n6 (8 + 2) (by decide) (by decide), show tk_5 f (pj_a3 b0 b1 b2) c (8 + 2) = _ from xo2]
      exact ck_o_in (r8 2 (by decide)) (hg 2 (by decide))
  · have h29 : tk_6 f (pj_a3 b0 b1 b2) c 29 = f 29 := tk_6_ne (by decide)
    rw [tk_29 hR, h29]
    have old : f 29 = -6 ∨ ∃ e, e ≤ t + 1 ∧ f 29 = nI e := by
      rcases r29 with q | ⟨e, he, q⟩
      · exact Or.inl q
      · exact Or.inr ⟨e, by omega, q⟩
    split
    · exact old
    · split
      · exact Or.inr ⟨t, by omega, r6⟩
      · exact old
/-- whether a stage that has not fired fires now -/
theorem tk_fires {t k : Nat} (hR : pj_Ro f t) (ht : t ≤ 200000) (hk : k < 3) (hg : ∀ k, k < 3 → -500 ≤ pj_a3 b0 b1 b2 k ∧ pj_a3 b0 b1 b2 k ≤ 500) (hn : f (23 + k) = -6) :
    ∃ y0 y1 y2 : Int32, pj_b3 y0 y1 y2 ∧ tk_fi f (pj_a3 b0 b1 b2) c = pj_pk y0 y1 y2 ∧ (sp_tick f (pj_a3 b0 b1 b2) c (23 + k) = -6 ↔ pj_a3 y0 y1 y2 k = 0) := by
  have A := tk_all (c := c) hR hg rfl rfl rfl rfl rfl rfl rfl rfl rfl rfl rfl rfl rfl rfl rfl rfl rfl rfl rfl rfl rfl rfl rfl rfl rfl rfl
  have A1 : ∃ l0 l1 l2, pj_b3 l0 l1 l2 ∧ tk_lo f (pj_a3 b0 b1 b2) c = pj_pk l0 l1 l2 := ⟨_, _, _, ⟨ck_w_01, ck_w_01, ck_w_01⟩, A.2.2.2.2.2.2.2.1⟩
  have A2 : ∃ l0 l1 l2, pj_b3 l0 l1 l2 ∧ tk_hi f (pj_a3 b0 b1 b2) c = pj_pk l0 l1 l2 := ⟨_, _, _, ⟨ck_w_01, ck_w_01, ck_w_01⟩, A.2.2.2.2.2.2.2.2⟩
  clear A
  obtain ⟨l0, l1, l2, bl, elo⟩ := A1
  obtain ⟨h0, h1, h2, bh, ehi⟩ := A2
  have hR2 := hR
  obtain ⟨r0, ⟨m, hm, r30⟩, r6, rv, rb, r7, r2, rs, r8, r29⟩ := hR2
  have n6 : sp_tick f (pj_a3 b0 b1 b2) c (23 + k) = tk_6 f (pj_a3 b0 b1 b2) c (23 + k) := sp_tick_hi hm r30 (Or.inl (by omega)) (by omega) (by omega)
  rw [n6]
  by_cases c0 : tk_5 f (pj_a3 b0 b1 b2) c 7 = 0
  · obtain ⟨F0, Fi⟩ := sp_f3_no (F := tk_5 f (pj_a3 b0 b1 b2) c) (lo := tk_lo f (pj_a3 b0 b1 b2) c) (hi := tk_hi f (pj_a3 b0 b1 b2) c) c0
    have e6 : tk_6 f (pj_a3 b0 b1 b2) c = tk_5 f (pj_a3 b0 b1 b2) c := F0
    refine ⟨0, 0, 0, ⟨Or.inl rfl, Or.inl rfl, Or.inl rfl⟩, Fi, ?_⟩
    rw [e6, tk_5_ne (Or.inr (by omega)), hn]
    have : pj_a3 0 0 0 k = 0 := by
      unfold pj_a3
      simp only [ite_self]
    rw [this]
    exact ⟨fun _ => rfl, fun _ => rfl⟩
  · have F := sp_f3_ck (F := tk_5 f (pj_a3 b0 b1 b2) c) c0 (by rw [tk_5_ne (by decide), tk_5_ne (by decide), tk_5_ne (by decide)]; exact ⟨rb 0 (by decide), rb 1 (by decide), rb 2 (by decide)⟩) bl bh
    rw [← elo, ← ehi, tk_5_ne (k := 6) (by decide), tk_5_ne (k := 23) (by decide), tk_5_ne (k := 24) (by decide), tk_5_ne (k := 25) (by decide)] at F
    obtain ⟨F0, F1, F2, Fi⟩ := F
    refine ⟨_, _, _, ⟨ck_n_01 (Or.inl rfl), ck_n_01 (Or.inl rfl), ck_n_01 (Or.inl rfl)⟩, Fi, ?_⟩
    have core : ∀ y : Int32, (ck_n y (-6) (f 6) = -6 ↔ ck_n y 0 1 = 0) := by
      intro y
      unfold ck_n
      by_cases q : y = 0
      · rw [if_pos q, if_pos q]
        exact ⟨fun _ => rfl, fun _ => rfl⟩
      · rw [if_neg q, if_neg q, r6]
        refine ⟨fun w => ?_, fun w => absurd w (by decide)⟩
        have : (nI t).toInt = (-6 : Int32).toInt := congrArg _ w
        rw [nI_toInt (by omega)] at this
        have e6 : (-6 : Int32).toInt = -6 := rfl
        omega
    have : k = 0 ∨ k = 1 ∨ k = 2 := by omega
    rcases this with e | e | e <;> subst e
    · rw [show tk_6 f (pj_a3 b0 b1 b2) c (23 + 0) = _ from F0, show f 23 = -6 from hn, pj_a3_0]
      exact core _
    · rw [show tk_6 f (pj_a3 b0 b1 b2) c (23 + 1) = _ from F1, show f 24 = -6 from hn, pj_a3_1]
      exact core _
    · rw [show tk_6 f (pj_a3 b0 b1 b2) c (23 + 2) = _ from F2, show f 25 = -6 from hn, pj_a3_2]
      exact core _
end T30
