/-! BOTH OBJECTS: what holds of their states, and what each call keeps -/
def lw_J (b n : Nat) (x y : pj_Sg) : Prop := pj_In x ∧ pj_In y ∧ y.2.1 = x.2.1 ∧ lw_R b x.1 y.1 ∧ (∀ i, i < x.2.1 → lw_R b (x.2.2.1 i) (y.2.2.1 i)) ∧ (∃ t, t ≤ n ∧ lw_I x.1 t) ∧ ∀ i, i < x.2.1 → ∃ t, t ≤ n ∧ lw_I (x.2.2.1 i) t
theorem lw_J.mono {b n n' : Nat} {x y : pj_Sg} (h : lw_J b n x y) (hn : n ≤ n') : lw_J b n' x y := by
  obtain ⟨h1, h2, h3, h4, h5, ⟨t, ht, h6⟩, h7⟩ := h
  refine ⟨h1, h2, h3, h4, h5, ⟨t, by omega, h6⟩, fun i hi => ?_⟩
  obtain ⟨t2, ht2, q⟩ := h7 i hi
  exact ⟨t2, by omega, q⟩
theorem lw_J.push {b n n' : Nat} {x y : pj_Sg} {f f' : Nat → Int32} (h : lw_J b n x y) (hn : n ≤ n') (hx : pj_In (sp_push x f)) (hy : pj_In (sp_push y f')) (hR : lw_R b f f') (hI : ∃ t, t ≤ n' ∧ lw_I f t) : lw_J b n' (sp_push x f) (sp_push y f') := by
  obtain ⟨-, -, h3, h4, h5, h6, h7⟩ := h.mono hn
  have hx6 : x.2.1 ≤ 6 := h.1.2.1
  refine ⟨hx, hy, ?_, hR, fun i hi => ?_, hI, fun i hi => ?_⟩
  · show sp_hn y.2.1 + 1 = sp_hn x.2.1 + 1
    rw [h3]
  · have hi' : i < sp_hn x.2.1 + 1 := hi
    show lw_R b (sp_ph x.1 x.2.1 x.2.2.1 i) (sp_ph y.1 y.2.1 y.2.2.1 i)
    rw [h3]
    unfold sp_hn at hi'
    unfold sp_ph
    by_cases c : x.2.1 = 6
    · rw [if_pos c] at hi'
      rw [if_pos c, if_pos c]
      by_cases c5 : i = 5
      · rw [if_pos c5, if_pos c5]
        exact h4
      · rw [if_neg c5, if_neg c5]
        exact h5 (i + 1) (by omega)
    · rw [if_neg c] at hi'
      rw [if_neg c, if_neg c]
      by_cases c5 : i = x.2.1
      · rw [if_pos c5, if_pos c5]
        exact h4
      · rw [if_neg c5, if_neg c5]
        exact h5 i (by omega)
  · have hi' : i < sp_hn x.2.1 + 1 := hi
    show ∃ t, t ≤ n' ∧ lw_I (sp_ph x.1 x.2.1 x.2.2.1 i) t
    unfold sp_hn at hi'
    unfold sp_ph
    by_cases c : x.2.1 = 6
    · rw [if_pos c] at hi'
      rw [if_pos c]
      by_cases c5 : i = 5
      · rw [if_pos c5]
        exact h6
      · rw [if_neg c5]
        exact h7 (i + 1) (by omega)
    · rw [if_neg c] at hi'
      rw [if_neg c]
      by_cases c5 : i = x.2.1
      · rw [if_pos c5]
        exact h6
      · rw [if_neg c5]
        exact h7 i (by omega)
/-- a change that leaves the ticks, the stages, the recorder -/
theorem lw_I.chg {n : Nat} {f F : Nat → Int32} (hn : n ≤ 1000) (h : ∃ t, t ≤ n ∧ lw_I f t) (hR : ∃ t, t ≤ 100000 ∧ pj_Ro F t) (e : ∀ j, (23 ≤ j ∧ j ≤ 25) ∨ 29 ≤ j ∨ j = 6 → F j = f j) : ∃ t, t ≤ n ∧ lw_I F t := by
  obtain ⟨t, ht, hI⟩ := h
  obtain ⟨t2, ht2, hR2⟩ := hR
  have e6 : nI t = nI t2 := hI.1.2.2.1.symm.trans ((e 6 (by omega)).symm.trans hR2.2.2.1)
  have : t = t2 := (nI_eq (by omega) (by omega)).mp e6
  subst this
  exact ⟨t, ht, hI.keep hR2 e⟩
section T95
variable {b n : Nat} {x y : pj_Sg}
theorem J_set {a v : Int32} (hn : n ≤ 1000) (h : lw_J b n x y) : (op_set y a v).2 = (op_set x a v).2 ∧ lw_J b n (op_set x a v).1 (op_set y a v).1 := by
  have ix := I_set (a := a) (v := v) h.1
  have iy := I_set (a := a) (v := v) h.2.1
  unfold op_set at ix iy ⊢
  by_cases c : sp_is a v = 0
  · rw [if_pos c, if_pos c]
    exact ⟨rfl, h⟩
  · rw [if_neg c] at ix iy
    rw [if_neg c, if_neg c]
    have ha : a.toNatClampNeg < 6 := by
      rcases sp_is_lt c with e | e | e | e | e | e <;> subst e <;> decide
    refine ⟨h.2.2.2.1.1 _ (by omega), h.push (Nat.le_refl _) ix iy (h.2.2.2.1.row (Or.inl (by omega))) (lw_I.chg hn h.2.2.2.2.2.1 ix.1 (fun j hj => ?_))⟩
    show upd x.1 a.toNatClampNeg v j = x.1 j
    rw [pj_upd_ap, if_neg (by omega)]
theorem sp_th_cl {a : Int32} (h : ¬ sp_th a = 0) : a.toNatClampNeg < 3 := by
  rcases sp_th_lt h with e | e | e <;> subst e <;> decide
theorem J_bar {a v : Int32} (hv : v = 0 ∨ v = 1) (hn : n ≤ 1000) (h : lw_J b n x y) : (op_bar y a v).2 = (op_bar x a v).2 ∧ lw_J b n (op_bar x a v).1 (op_bar y a v).1 := by
  have ix := I_bar (a := a) hv h.1
  have iy := I_bar (a := a) hv h.2.1
  unfold op_bar at ix iy ⊢
  by_cases c : sp_th a = 0
  · rw [if_pos c, if_pos c]
    exact ⟨rfl, h⟩
  have ha := sp_th_cl c
  have hR := h.2.2.2.1
  rw [if_neg c] at ix iy
  rw [if_neg c, if_neg c, hR.2.1 (26 + a.toNatClampNeg) (by omega) (by omega), hR.2.1 (23 + a.toNatClampNeg) (by omega) (by omega)]
  rw [hR.2.1 (26 + a.toNatClampNeg) (by omega) (by omega), hR.2.1 (23 + a.toNatClampNeg) (by omega) (by omega)] at iy
  by_cases c1 : x.1 (26 + a.toNatClampNeg) = v
  · rw [if_pos c1, if_pos c1]
    exact ⟨rfl, h⟩
  rw [if_neg c1] at ix iy
  rw [if_neg c1, if_neg c1]
  by_cases c2 : x.1 (23 + a.toNatClampNeg) = -6
  · rw [if_pos c2] at ix iy
    rw [if_pos c2, if_pos c2]
    have hR2 : lw_R b (upd x.1 (26 + a.toNatClampNeg) v) (upd y.1 (26 + a.toNatClampNeg) v) := hR.row (Or.inr (by omega))
    refine ⟨?_, h.push (Nat.le_refl _) ix iy hR2 (lw_I.chg hn h.2.2.2.2.2.1 ix.1 (fun j hj => ?_))⟩
    · show sp_bar (upd y.1 (26 + a.toNatClampNeg) v) = sp_bar (upd x.1 (26 + a.toNatClampNeg) v)
      unfold sp_bar
      rw [hR2.2.1 26 (by decide) (by decide), hR2.2.1 27 (by decide) (by decide), hR2.2.1 28 (by decide) (by decide)]
    · show upd x.1 (26 + a.toNatClampNeg) v j = x.1 j
      rw [pj_upd_ap, if_neg (by omega)]
  · rw [if_neg c2, if_neg c2]
    exact ⟨rfl, h⟩
theorem lw_R.fired {f f' : Nat → Int32} (h : lw_R b f f') : sp_fired f' = sp_fired f := by
  rw [sp_fired_z, sp_fired_z, h.2.1 23 (by decide) (by decide), h.2.1 24 (by decide) (by decide), h.2.1 25 (by decide) (by decide)]
theorem nI_th {k : Nat} (h : k < 3) : ¬ sp_th (nI k) = 0 ∧ (nI k).toNatClampNeg = k := by
  rcases lw_k3 h with e | e | e <;> subst e <;> exact ⟨by decide, rfl⟩
theorem J_test {k : Nat} (hb : b < 6) (hk : k < 3) (hn : n ≤ 1000) (h : lw_J b n x y) : (op_test y (nI (lw_th b k))).2 = (op_test x (nI k)).2 ∧ lw_J b n (op_test x (nI k)).1 (op_test y (nI (lw_th b k))).1 := by
  have ix := I_test (a := nI k) h.1
  have iy := I_test (a := nI (lw_th b k)) h.2.1
  have hR := h.2.2.2.1
  unfold op_test at ix iy ⊢
  obtain ⟨t1, t2⟩ := nI_th hk
  obtain ⟨u1, u2⟩ := nI_th (lw_th_lt (b := b) (k := k))
  rw [if_neg t1, t2] at ix
  rw [if_neg u1, u2, hR.fired] at iy
  rw [if_neg t1, if_neg u1, t2, u2, hR.fired]
  by_cases c : sp_fired x.1 = 0
  · rw [if_pos c] at ix iy
    rw [if_pos c, if_pos c]
    refine ⟨?_, h.push (Nat.le_refl _) ix iy (hR.tst hb hk) (lw_I.chg hn h.2.2.2.2.2.1 ix.1 (fun j hj => ?_))⟩
    · have e : y.1 (14 + lw_th b k) = x.1 (14 + k) := hR.2.2.1 2 k (by decide) hk
      show 1 - y.1 (14 + lw_th b k) = 1 - x.1 (14 + k)
      rw [e]
    · show sp_tst x.1 k j = x.1 j
      unfold sp_tst
      simp only [pj_upd_ap]
      rw [if_neg (by omega), if_neg (by omega), if_neg (by omega), if_neg (by omega)]
  · rw [if_neg c, if_neg c]
    exact ⟨rfl, h⟩
theorem J_service (hn : n ≤ 1000) (h : lw_J b n x y) : (op_service y).2 = (op_service x).2 ∧ lw_J b n (op_service x).1 (op_service y).1 := by
  have ix := I_service h.1
  have iy := I_service h.2.1
  unfold op_service at ix iy ⊢
  have hR := h.2.2.2.1
  refine ⟨?_, h.push (Nat.le_refl _) ix iy hR.srv ?_⟩
  · show sp_bits (sp_fired y.1) = sp_bits (sp_fired x.1)
    rw [hR.fired]
  · obtain ⟨t, ht, hI⟩ := h.2.2.2.2.2.1
    obtain ⟨t2, ht2, hR2⟩ := ix.1
    have hR2' : pj_Ro (sp_srv x.1) t2 := hR2
    have e6 : nI t = nI t2 := hI.1.2.2.1.symm.trans hR2'.2.2.1
    have : t = t2 := (nI_eq (by omega) (by omega)).mp e6
    subst this
    exact ⟨t, ht, lw_I.srv hR2'⟩
theorem J_undo (h : lw_J b n x y) : (op_undo y).2 = (op_undo x).2 ∧ lw_J b n (op_undo x).1 (op_undo y).1 := by
  have ix := I_undo h.1
  have iy := I_undo h.2.1
  obtain ⟨h1, h2, h3, h4, h5, h6, h7⟩ := id h
  unfold op_undo at ix iy ⊢
  rw [h3] at iy ⊢
  by_cases c : x.2.1 = 0
  · rw [if_pos c, if_pos c]
    exact ⟨rfl, h⟩
  · rw [if_neg c] at ix iy
    rw [if_neg c, if_neg c]
    exact ⟨rfl, ix, iy, rfl, h5 _ (by omega), fun i hi => h5 i (by have : i < x.2.1 - 1 := hi; omega), h7 _ (by omega), fun i hi => h7 i (by have : i < x.2.1 - 1 := hi; omega)⟩
theorem sp_rd_1 {r : Int32} (h : -500 ≤ r ∧ r ≤ 500) : ¬ sp_rd r = 0 := by
  unfold sp_rd
  rw [if_pos h]
  decide
theorem op_tick_in {x0 x1 x2 c : Int32} (h0 : -500 ≤ x0 ∧ x0 ≤ 500) (h1 : -500 ≤ x1 ∧ x1 ≤ 500) (h2 : -500 ≤ x2 ∧ x2 ≤ 500) (h6 : ¬ 100000 ≤ x.1 6) : op_tick x x0 x1 x2 c = (sp_push x (sp_tick x.1 (pj_a3 x0 x1 x2) c), tk_fi x.1 (pj_a3 x0 x1 x2) c) := by
  unfold op_tick
  rw [if_neg (sp_rd_1 h0), if_neg (sp_rd_1 h1), if_neg (sp_rd_1 h2), if_neg h6]
theorem J_tick_0 {x0 x1 x2 c : Int32} (hn : n ≤ 999) (i0 : -500 ≤ x0 ∧ x0 ≤ 500) (i1 : -500 ≤ x1 ∧ x1 ≤ 500) (i2 : -500 ≤ x2 ∧ x2 ≤ 500) (h : lw_J 0 n x y) : (op_tick y x0 x1 x2 c).2 = (op_tick x x0 x1 x2 c).2 ∧ lw_J 0 (n + 1) (op_tick x x0 x1 x2 c).1 (op_tick y x0 x1 x2 c).1 := by
  have ix := I_tick (b0 := x0) (b1 := x1) (b2 := x2) (c := c) h.1
  have iy := I_tick (b0 := x0) (b1 := x1) (b2 := x2) (c := c) h.2.1
  obtain ⟨t, ht, hI⟩ := h.2.2.2.2.2.1
  have hR := h.2.2.2.1
  have x6 : ¬ 100000 ≤ x.1 6 := by
    rw [hI.1.2.2.1]
    exact fun w => absurd ((nI_leI (a := 100000) (by decide) (by omega)).mp w) (by omega)
  have y6 : ¬ 100000 ≤ y.1 6 := by
    rw [hR.1 6 (by decide)]
    exact x6
  rw [op_tick_in i0 i1 i2 x6] at ix
  rw [op_tick_in i0 i1 i2 y6] at iy
  rw [op_tick_in i0 i1 i2 x6, op_tick_in i0 i1 i2 y6]
  have hg := pj_in_pk i0 i1 i2
  obtain ⟨t2, ht2, hR2⟩ := h.2.1.1
  obtain ⟨q1, q2, -⟩ := lw_tick_0 (c := c) hI.1 hR2 hg hR
  have hI2 := hI.tick (c := c) (by omega) hg
  generalize sp_tick x.1 (pj_a3 x0 x1 x2) c = F at ix q1 hI2 ⊢
  generalize sp_tick y.1 (pj_a3 x0 x1 x2) c = F' at iy q1 ⊢
  generalize tk_fi x.1 (pj_a3 x0 x1 x2) c = w at ix q2 ⊢
  generalize tk_fi y.1 (pj_a3 x0 x1 x2) c = w' at iy q2 ⊢
  exact ⟨q2, h.push (by omega) ix iy q1 ⟨t + 1, by omega, hI2⟩⟩
theorem J_tick_1 {x0 x1 x2 c : Int32} (hn : n ≤ 999) (i0 : -500 ≤ x0 ∧ x0 ≤ 500) (i1 : -500 ≤ x1 ∧ x1 ≤ 500) (i2 : -500 ≤ x2 ∧ x2 ≤ 500) (h : lw_J 1 n x y) : (op_tick y x2 x0 x1 c).2 = (op_tick x x0 x1 x2 c).2 ∧ lw_J 1 (n + 1) (op_tick x x0 x1 x2 c).1 (op_tick y x2 x0 x1 c).1 := by
  have ix := I_tick (b0 := x0) (b1 := x1) (b2 := x2) (c := c) h.1
  have iy := I_tick (b0 := x2) (b1 := x0) (b2 := x1) (c := c) h.2.1
  obtain ⟨t, ht, hI⟩ := h.2.2.2.2.2.1
  have hR := h.2.2.2.1
  have x6 : ¬ 100000 ≤ x.1 6 := by
    rw [hI.1.2.2.1]
    exact fun w => absurd ((nI_leI (a := 100000) (by decide) (by omega)).mp w) (by omega)
  have y6 : ¬ 100000 ≤ y.1 6 := by
    rw [hR.1 6 (by decide)]
    exact x6
  rw [op_tick_in i0 i1 i2 x6] at ix
  rw [op_tick_in i2 i0 i1 y6] at iy
  rw [op_tick_in i0 i1 i2 x6, op_tick_in i2 i0 i1 y6]
  have hg := pj_in_pk i0 i1 i2
  obtain ⟨t2, ht2, hR2⟩ := h.2.1.1
  obtain ⟨q1, q2, -⟩ := lw_tick_1 (c := c) hI.1 hR2 hg hR
  have hI2 := hI.tick (c := c) (by omega) hg
  generalize sp_tick x.1 (pj_a3 x0 x1 x2) c = F at ix q1 hI2 ⊢
  generalize sp_tick y.1 (pj_a3 x2 x0 x1) c = F' at iy q1 ⊢
  generalize tk_fi x.1 (pj_a3 x0 x1 x2) c = w at ix q2 ⊢
  generalize tk_fi y.1 (pj_a3 x2 x0 x1) c = w' at iy q2 ⊢
  exact ⟨q2, h.push (by omega) ix iy q1 ⟨t + 1, by omega, hI2⟩⟩
theorem J_tick_2 {x0 x1 x2 c : Int32} (hn : n ≤ 999) (i0 : -500 ≤ x0 ∧ x0 ≤ 500) (i1 : -500 ≤ x1 ∧ x1 ≤ 500) (i2 : -500 ≤ x2 ∧ x2 ≤ 500) (h : lw_J 2 n x y) : (op_tick y x1 x2 x0 c).2 = (op_tick x x0 x1 x2 c).2 ∧ lw_J 2 (n + 1) (op_tick x x0 x1 x2 c).1 (op_tick y x1 x2 x0 c).1 := by
  have ix := I_tick (b0 := x0) (b1 := x1) (b2 := x2) (c := c) h.1
  have iy := I_tick (b0 := x1) (b1 := x2) (b2 := x0) (c := c) h.2.1
  obtain ⟨t, ht, hI⟩ := h.2.2.2.2.2.1
  have hR := h.2.2.2.1
  have x6 : ¬ 100000 ≤ x.1 6 := by
    rw [hI.1.2.2.1]
    exact fun w => absurd ((nI_leI (a := 100000) (by decide) (by omega)).mp w) (by omega)
  have y6 : ¬ 100000 ≤ y.1 6 := by
    rw [hR.1 6 (by decide)]
    exact x6
  rw [op_tick_in i0 i1 i2 x6] at ix
  rw [op_tick_in i1 i2 i0 y6] at iy
  rw [op_tick_in i0 i1 i2 x6, op_tick_in i1 i2 i0 y6]
  have hg := pj_in_pk i0 i1 i2
  obtain ⟨t2, ht2, hR2⟩ := h.2.1.1
  obtain ⟨q1, q2, -⟩ := lw_tick_2 (c := c) hI.1 hR2 hg hR
  have hI2 := hI.tick (c := c) (by omega) hg
  generalize sp_tick x.1 (pj_a3 x0 x1 x2) c = F at ix q1 hI2 ⊢
  generalize sp_tick y.1 (pj_a3 x1 x2 x0) c = F' at iy q1 ⊢
  generalize tk_fi x.1 (pj_a3 x0 x1 x2) c = w at ix q2 ⊢
  generalize tk_fi y.1 (pj_a3 x1 x2 x0) c = w' at iy q2 ⊢
  exact ⟨q2, h.push (by omega) ix iy q1 ⟨t + 1, by omega, hI2⟩⟩
theorem J_tick_3 {x0 x1 x2 c : Int32} (hn : n ≤ 999) (i0 : -500 ≤ x0 ∧ x0 ≤ 500) (i1 : -500 ≤ x1 ∧ x1 ≤ 500) (i2 : -500 ≤ x2 ∧ x2 ≤ 500) (h : lw_J 3 n x y) : (op_tick y x2 x1 x0 c).2 = (op_tick x x0 x1 x2 c).2 ∧ lw_J 3 (n + 1) (op_tick x x0 x1 x2 c).1 (op_tick y x2 x1 x0 c).1 := by
  have ix := I_tick (b0 := x0) (b1 := x1) (b2 := x2) (c := c) h.1
  have iy := I_tick (b0 := x2) (b1 := x1) (b2 := x0) (c := c) h.2.1
  obtain ⟨t, ht, hI⟩ := h.2.2.2.2.2.1
  have hR := h.2.2.2.1
  have x6 : ¬ 100000 ≤ x.1 6 := by
    rw [hI.1.2.2.1]
    exact fun w => absurd ((nI_leI (a := 100000) (by decide) (by omega)).mp w) (by omega)
  have y6 : ¬ 100000 ≤ y.1 6 := by
    rw [hR.1 6 (by decide)]
    exact x6
  rw [op_tick_in i0 i1 i2 x6] at ix
  rw [op_tick_in i2 i1 i0 y6] at iy
  rw [op_tick_in i0 i1 i2 x6, op_tick_in i2 i1 i0 y6]
  have hg := pj_in_pk i0 i1 i2
  obtain ⟨t2, ht2, hR2⟩ := h.2.1.1
  obtain ⟨q1, q2, -⟩ := lw_tick_3 (c := c) hI.1 hR2 hg hR
  have hI2 := hI.tick (c := c) (by omega) hg
  generalize sp_tick x.1 (pj_a3 x0 x1 x2) c = F at ix q1 hI2 ⊢
  generalize sp_tick y.1 (pj_a3 x2 x1 x0) c = F' at iy q1 ⊢
  generalize tk_fi x.1 (pj_a3 x0 x1 x2) c = w at ix q2 ⊢
  generalize tk_fi y.1 (pj_a3 x2 x1 x0) c = w' at iy q2 ⊢
  exact ⟨q2, h.push (by omega) ix iy q1 ⟨t + 1, by omega, hI2⟩⟩
theorem J_tick_4 {x0 x1 x2 c : Int32} (hn : n ≤ 999) (i0 : -500 ≤ x0 ∧ x0 ≤ 500) (i1 : -500 ≤ x1 ∧ x1 ≤ 500) (i2 : -500 ≤ x2 ∧ x2 ≤ 500) (h : lw_J 4 n x y) : (op_tick y x0 x2 x1 c).2 = (op_tick x x0 x1 x2 c).2 ∧ lw_J 4 (n + 1) (op_tick x x0 x1 x2 c).1 (op_tick y x0 x2 x1 c).1 := by
  have ix := I_tick (b0 := x0) (b1 := x1) (b2 := x2) (c := c) h.1
  have iy := I_tick (b0 := x0) (b1 := x2) (b2 := x1) (c := c) h.2.1
  obtain ⟨t, ht, hI⟩ := h.2.2.2.2.2.1
  have hR := h.2.2.2.1
  have x6 : ¬ 100000 ≤ x.1 6 := by
    rw [hI.1.2.2.1]
    exact fun w => absurd ((nI_leI (a := 100000) (by decide) (by omega)).mp w) (by omega)
  have y6 : ¬ 100000 ≤ y.1 6 := by
    rw [hR.1 6 (by decide)]
    exact x6
  rw [op_tick_in i0 i1 i2 x6] at ix
  rw [op_tick_in i0 i2 i1 y6] at iy
  rw [op_tick_in i0 i1 i2 x6, op_tick_in i0 i2 i1 y6]
  have hg := pj_in_pk i0 i1 i2
  obtain ⟨t2, ht2, hR2⟩ := h.2.1.1
  obtain ⟨q1, q2, -⟩ := lw_tick_4 (c := c) hI.1 hR2 hg hR
  have hI2 := hI.tick (c := c) (by omega) hg
  generalize sp_tick x.1 (pj_a3 x0 x1 x2) c = F at ix q1 hI2 ⊢
  generalize sp_tick y.1 (pj_a3 x0 x2 x1) c = F' at iy q1 ⊢
  generalize tk_fi x.1 (pj_a3 x0 x1 x2) c = w at ix q2 ⊢
  generalize tk_fi y.1 (pj_a3 x0 x2 x1) c = w' at iy q2 ⊢
  exact ⟨q2, h.push (by omega) ix iy q1 ⟨t + 1, by omega, hI2⟩⟩
theorem J_tick_5 {x0 x1 x2 c : Int32} (hn : n ≤ 999) (i0 : -500 ≤ x0 ∧ x0 ≤ 500) (i1 : -500 ≤ x1 ∧ x1 ≤ 500) (i2 : -500 ≤ x2 ∧ x2 ≤ 500) (h : lw_J 5 n x y) : (op_tick y x1 x0 x2 c).2 = (op_tick x x0 x1 x2 c).2 ∧ lw_J 5 (n + 1) (op_tick x x0 x1 x2 c).1 (op_tick y x1 x0 x2 c).1 := by
  have ix := I_tick (b0 := x0) (b1 := x1) (b2 := x2) (c := c) h.1
  have iy := I_tick (b0 := x1) (b1 := x0) (b2 := x2) (c := c) h.2.1
  obtain ⟨t, ht, hI⟩ := h.2.2.2.2.2.1
  have hR := h.2.2.2.1
  have x6 : ¬ 100000 ≤ x.1 6 := by
    rw [hI.1.2.2.1]
    exact fun w => absurd ((nI_leI (a := 100000) (by decide) (by omega)).mp w) (by omega)
  have y6 : ¬ 100000 ≤ y.1 6 := by
    rw [hR.1 6 (by decide)]
    exact x6
  rw [op_tick_in i0 i1 i2 x6] at ix
  rw [op_tick_in i1 i0 i2 y6] at iy
  rw [op_tick_in i0 i1 i2 x6, op_tick_in i1 i0 i2 y6]
  have hg := pj_in_pk i0 i1 i2
  obtain ⟨t2, ht2, hR2⟩ := h.2.1.1
  obtain ⟨q1, q2, -⟩ := lw_tick_5 (c := c) hI.1 hR2 hg hR
  have hI2 := hI.tick (c := c) (by omega) hg
  generalize sp_tick x.1 (pj_a3 x0 x1 x2) c = F at ix q1 hI2 ⊢
  generalize sp_tick y.1 (pj_a3 x1 x0 x2) c = F' at iy q1 ⊢
  generalize tk_fi x.1 (pj_a3 x0 x1 x2) c = w at ix q2 ⊢
  generalize tk_fi y.1 (pj_a3 x1 x0 x2) c = w' at iy q2 ⊢
  exact ⟨q2, h.push (by omega) ix iy q1 ⟨t + 1, by omega, hI2⟩⟩
/-- what the law asks of a tick, of the first object -/
theorem J_tick_ok {x0 x1 x2 c : Int32} (hn : n ≤ 999) (i0 : -500 ≤ x0 ∧ x0 ≤ 500) (i1 : -500 ≤ x1 ∧ x1 ≤ 500) (i2 : -500 ≤ x2 ∧ x2 ≤ 500) (h : lw_J b n x y) :
    op_ifTick x.1 x0 x1 x2 c 0 = (op_tick x x0 x1 x2 c).2 ∧ op_count x 3 &&& (op_tick x x0 x1 x2 c).2 = 0 ∧ op_count (op_tick x x0 x1 x2 c).1 3 = op_count x 3 ||| (op_tick x x0 x1 x2 c).2 ∧ op_count (op_tick x x0 x1 x2 c).1 2 &&& (op_count x 2 ^^^ (-1)) = 0 ∧ ((op_tick x x0 x1 x2 c).2 = 0 ∨ ¬ op_count (op_tick x x0 x1 x2 c).1 1 ≤ 0) ∧ ((op_tick x x0 x1 x2 c).2 &&& 4 = 0 ∨ ¬ op_count (op_tick x x0 x1 x2 c).1 3 &&& 2 = 0) ∧ ((op_tick x x0 x1 x2 c).2 &&& 2 = 0 ∨ ¬ op_count (op_tick x x0 x1 x2 c).1 3 &&& 1 = 0 ∨ ¬ op_count (op_tick x x0 x1 x2 c).1 4 &&& 1 = 0) ∧ (op_tick x x0 x1 x2 c).2 &&& op_count (op_tick x x0 x1 x2 c).1 4 = 0 ∧ ¬ op_ifTick x.1 x0 x1 x2 c 1 < 98000 ∧ ¬ 102000 < op_ifTick x.1 x0 x1 x2 c 1 := by
  obtain ⟨t, ht, hI⟩ := h.2.2.2.2.2.1
  have x6 : ¬ 100000 ≤ x.1 6 := by
    rw [hI.1.2.2.1]
    exact fun w => absurd ((nI_leI (a := 100000) (by decide) (by omega)).mp w) (by omega)
  have hg := pj_in_pk i0 i1 i2
  have hR := hI.1
  have hR1 := hR.tick (c := c) hg
  have hm := tk_m_in hR hg
  have hv := lw_votes (c := c) hR hg
  obtain ⟨-, ⟨m, hm12, r30⟩, r6, rv, rb, r7, r2, rs, r8, r29⟩ := hR
  have hb3 : pj_b3 (x.1 26) (x.1 27) (x.1 28) := ⟨rb 0 (by decide), rb 1 (by decide), rb 2 (by decide)⟩
  obtain ⟨y0, y1, y2, hY⟩ := lw_tick_y (g := pj_a3 x0 x1 x2) (c := c) hm12 r30
  have hB : ∀ k, 25 < k → k < 29 → sp_tick x.1 (pj_a3 x0 x1 x2) c k = x.1 k := fun k a1 a2 => (sp_tick_hi hm12 r30 (Or.inl (by omega)) (by omega) (by omega)).trans (tk_6_ne (by omega))
  obtain ⟨k1, k2, k3, k4, k5, k6⟩ := hY.ok (by rw [r6]; exact nI_n6 (by omega)) hb3 ⟨hB 26 (by decide) (by decide), hB 27 (by decide) (by decide), hB 28 (by decide) (by decide)⟩
  have e7 := hR1.2.2.2.2.2.1
  have f0 : op_ifTick x.1 x0 x1 x2 c 0 = tk_fi x.1 (pj_a3 x0 x1 x2) c := by
    unfold op_ifTick
    rw [if_neg (sp_rd_1 i0), if_neg (sp_rd_1 i1), if_neg (sp_rd_1 i2), if_pos (by decide)]
    unfold op_if
    rw [if_pos rfl]
  have f1 : op_ifTick x.1 x0 x1 x2 c 1 = tk_m x.1 (pj_a3 x0 x1 x2) + 100000 := by
    unfold op_ifTick
    rw [if_neg (sp_rd_1 i0), if_neg (sp_rd_1 i1), if_neg (sp_rd_1 i2), if_pos (by decide)]
    unfold op_if
    rw [if_neg (by decide), if_pos rfl]
  rw [op_tick_in i0 i1 i2 x6, f0, f1]
  clear f0 f1 hY hB hR1 x6
  generalize sp_tick x.1 (pj_a3 x0 x1 x2) c = F at k2 k3 k4 k5 k6 hv e7 ⊢
  generalize tk_fi x.1 (pj_a3 x0 x1 x2) c = w at k1 k2 k3 k4 k5 k6 ⊢
  generalize tk_m x.1 (pj_a3 x0 x1 x2) = m0 at hm ⊢
  refine ⟨rfl, k1, k2, hv, ?_, k3, k4, k5, hm⟩
  rcases k6 with q | q
  · exact Or.inl q
  · exact Or.inr (fun u => q (Int32.le_antisymm u e7))
/-- what the law asks of both, behind each call -/
theorem J_count {w : Int32} (h : lw_J b n x y) (hw : 0 ≤ w ∧ w < 14) (h2 : ¬ w = 2) : op_count y w = op_count x w := by
  have hR := h.2.2.2.1
  unfold op_count
  by_cases c1 : 8 ≤ w ∧ w ≤ 13
  · rw [if_pos c1, if_pos c1]
    rcases sp_813 c1 with e | e | e | e | e | e <;> subst e <;> exact hR.1 _ (by decide)
  rw [if_neg c1, if_neg c1]
  have eb : sp_bar y.1 = sp_bar x.1 := by
    unfold sp_bar
    rw [hR.2.1 26 (by decide) (by decide), hR.2.1 27 (by decide) (by decide), hR.2.1 28 (by decide) (by decide)]
  have er : sp_rec y.1 = sp_rec x.1 := by
    unfold sp_rec
    rw [hR.2.1 29 (by decide) (by decide), hR.1 6 (by decide)]
  rw [hR.1 6 (by decide), hR.1 7 (by decide), hR.fired, eb, hR.2.1 30 (by decide) (by decide), hR.2.1 29 (by decide) (by decide), er, if_neg h2, if_neg h2]
  have d14 : ¬ w = 14 := fun q => by
    subst q
    exact absurd hw.2 (by decide)
  have d15 : ¬ w = 15 := fun q => by
    subst q
    exact absurd hw.2 (by decide)
  rw [if_neg d14, if_neg d14, if_neg d15, if_neg d15]
theorem J_votes (hb : b < 6) (h : lw_J b n x y) : op_count x 2 < 8 ∧ op_count y 2 = lw_set b (op_count x 2) := by
  have hR := h.2.2.2.1
  obtain ⟨t, ht, hI⟩ := h.1.1
  obtain ⟨-, -, -, rv, -⟩ := hI
  have bv : pj_b3 (x.1 14) (x.1 15) (x.1 16) := ⟨rv 0 (by decide), rv 1 (by decide), rv 2 (by decide)⟩
  have e1 : op_count x 2 = pj_pk (x.1 14) (x.1 15) (x.1 16) := rfl
  have e2 : op_count y 2 = pj_pk (y.1 14) (y.1 15) (y.1 16) := rfl
  rw [e1, e2]
  refine ⟨?_, ?_⟩
  · obtain ⟨b0, b1, b2⟩ := bv
    rcases b0 with a0 | a0 <;> rcases b1 with a1 | a1 <;> rcases b2 with a2 | a2 <;> rw [a0, a1, a2] <;> decide
  · have k0 := hR.2.2.1 2 0 (by decide) (by decide)
    have k1 := hR.2.2.1 2 1 (by decide) (by decide)
    have k2 := hR.2.2.1 2 2 (by decide) (by decide)
    rcases lw_b6 hb with e | e | e | e | e | e <;> subst e
    · rw [lw_set_pk_0 bv]
      have q0 : y.1 14 = x.1 14 := k0
      have q1 : y.1 15 = x.1 15 := k1
      have q2 : y.1 16 = x.1 16 := k2
      rw [q0, q1, q2]
    · rw [lw_set_pk_1 bv]
      have q0 : y.1 15 = x.1 14 := k0
      have q1 : y.1 16 = x.1 15 := k1
      have q2 : y.1 14 = x.1 16 := k2
      rw [q0, q1, q2]
    · rw [lw_set_pk_2 bv]
      have q0 : y.1 16 = x.1 14 := k0
      have q1 : y.1 14 = x.1 15 := k1
      have q2 : y.1 15 = x.1 16 := k2
      rw [q0, q1, q2]
    · rw [lw_set_pk_3 bv]
      have q0 : y.1 16 = x.1 14 := k0
      have q1 : y.1 15 = x.1 15 := k1
      have q2 : y.1 14 = x.1 16 := k2
      rw [q0, q1, q2]
    · rw [lw_set_pk_4 bv]
      have q0 : y.1 14 = x.1 14 := k0
      have q1 : y.1 16 = x.1 15 := k1
      have q2 : y.1 15 = x.1 16 := k2
      rw [q0, q1, q2]
    · rw [lw_set_pk_5 bv]
      have q0 : y.1 15 = x.1 14 := k0
      have q1 : y.1 14 = x.1 15 := k1
      have q2 : y.1 16 = x.1 16 := k2
      rw [q0, q1, q2]
theorem J_sensor {k : Nat} {w : Int32} (hk : k < 3) (h : lw_J b n x y) : op_sensor y.1 (nI (lw_th b k)) w = op_sensor x.1 (nI k) w := by
  have hR := h.2.2.2.1
  obtain ⟨t1, t2⟩ := nI_th hk
  obtain ⟨u1, u2⟩ := nI_th (lw_th_lt (b := b) (k := k))
  unfold op_sensor
  have s0 : y.1 (8 + lw_th b k) = x.1 (8 + k) := hR.2.2.1 0 k (by decide) hk
  have s1 : y.1 (11 + lw_th b k) = x.1 (11 + k) := hR.2.2.1 1 k (by decide) hk
  have s2 : y.1 (14 + lw_th b k) = x.1 (14 + k) := hR.2.2.1 2 k (by decide) hk
  have s3 : y.1 (17 + lw_th b k) = x.1 (17 + k) := hR.2.2.1 3 k (by decide) hk
  have s4 : y.1 (20 + lw_th b k) = x.1 (20 + k) := hR.2.2.1 4 k (by decide) hk
  rw [if_neg t1, if_neg u1, t2, u2, s0, s1, s2, s3, s4, hR.1 6 (by decide)]
theorem J_stage {a w : Int32} (h : lw_J b n x y) : op_stage y.1 a w = op_stage x.1 a w := by
  have hR := h.2.2.2.1
  unfold op_stage
  by_cases c : sp_th a = 0
  · rw [if_pos c, if_pos c]
  have := sp_th_cl c
  rw [if_neg c, if_neg c, hR.2.1 (23 + a.toNatClampNeg) (by omega) (by omega), hR.2.1 (26 + a.toNatClampNeg) (by omega) (by omega)]
theorem J_ev (h : lw_J b n x y) : op_count x 6 = -6 ↔ op_count x 3 = 0 := by
  obtain ⟨t, ht, hI⟩ := h.2.2.2.2.2.1
  have e1 : op_count x 6 = x.1 29 := rfl
  have e2 : op_count x 3 = sp_fired x.1 := rfl
  rw [e1, e2, sp_fired_0]
  exact hI.2.1
theorem op_record_in {f : Nat → Int32} {m i j : Nat} (hm : m ≤ 12) (h30 : f 30 = nI m) (hi : i < m) (hj : j ≤ 9) : op_record f (nI i) (nI j) = f (31 + 10 * i + j) := by
  unfold op_record
  rw [if_pos ⟨nI_pos' (by omega), by rw [h30]; exact nI_lt hi (by omega)⟩, if_pos ⟨nI_pos' (by omega), (nI_leI (b := 9) (by omega) (by decide)).mpr hj⟩, nI_clamp (by omega), nI_clamp (by omega)]
/-- the recorder, on both sides -/
theorem J_record (hn : n ≤ 1000) (h : lw_J b n x y) : ∃ m, m ≤ 12 ∧ op_count x 5 = nI m ∧ (∀ i, i < m → op_record x.1 (nI i) 0 = op_record x.1 0 0 + nI i ∧ lw_set b (op_record x.1 (nI i) 6) = op_record y.1 (nI i) 6 ∧ lw_set b (op_record x.1 (nI i) 7) = op_record y.1 (nI i) 7 ∧ op_record x.1 (nI i) 5 = op_record y.1 (nI i) 5 ∧ op_record x.1 (nI i) 8 = op_record y.1 (nI i) 8 ∧ op_record x.1 (nI i) 9 = op_record y.1 (nI i) 9) ∧ (0 < m → ¬ op_count x 0 - 1 < op_record x.1 (nI m - 1) 0 ∧ (op_count x 6 = -6 ∨ ¬ op_count x 6 + 6 < op_record x.1 (nI m - 1) 0)) := by
  have hR := h.2.2.2.1
  obtain ⟨t, ht, hI⟩ := h.2.2.2.2.2.1
  obtain ⟨hRo, -, m, r, k1, k2, k3, k4, k5, k6⟩ := hI
  obtain ⟨-, -, r6, -, -, -, -, -, -, r29⟩ := hRo
  have y30 : y.1 30 = nI m := (hR.2.1 30 (by decide) (by decide)).trans k2
  have at0 : ∀ {i}, i < m → op_record x.1 (nI i) 0 = nI (r + i) := by
    intro i hi
    refine (op_record_in (j := 0) k1 k2 hi (by decide)).trans ?_
    exact k3 i hi
  refine ⟨m, k1, k2, fun i hi => ?_, fun hm => ⟨?_, ?_⟩⟩
  · obtain ⟨q0, q5, q6, q7, q8, q9⟩ := hR.2.2.2 i (by omega)
    have at00 : op_record x.1 0 0 = nI (r + 0) := at0 (i := 0) (by omega)
    refine ⟨?_, ?_, ?_, ?_, ?_, ?_⟩
    · rw [at0 hi, at00, nI_add]
      exact congrArg nI (by omega)
    · have a1 : op_record x.1 (nI i) 6 = x.1 (31 + 10 * i + 6) := op_record_in (j := 6) k1 k2 hi (by decide)
      have a2 : op_record y.1 (nI i) 6 = y.1 (31 + 10 * i + 6) := op_record_in (j := 6) k1 y30 hi (by decide)
      rw [a1, a2, q6]
    · have a1 : op_record x.1 (nI i) 7 = x.1 (31 + 10 * i + 7) := op_record_in (j := 7) k1 k2 hi (by decide)
      have a2 : op_record y.1 (nI i) 7 = y.1 (31 + 10 * i + 7) := op_record_in (j := 7) k1 y30 hi (by decide)
      rw [a1, a2, q7]
    · have a1 : op_record x.1 (nI i) 5 = x.1 (31 + 10 * i + 5) := op_record_in (j := 5) k1 k2 hi (by decide)
      have a2 : op_record y.1 (nI i) 5 = y.1 (31 + 10 * i + 5) := op_record_in (j := 5) k1 y30 hi (by decide)
      rw [a1, a2, q5]
    · have a1 : op_record x.1 (nI i) 8 = x.1 (31 + 10 * i + 8) := op_record_in (j := 8) k1 k2 hi (by decide)
      have a2 : op_record y.1 (nI i) 8 = y.1 (31 + 10 * i + 8) := op_record_in (j := 8) k1 y30 hi (by decide)
      rw [a1, a2, q8]
    · have a1 : op_record x.1 (nI i) 9 = x.1 (31 + 10 * i + 9) := op_record_in (j := 9) k1 k2 hi (by decide)
      have a2 : op_record y.1 (nI i) 9 = y.1 (31 + 10 * i + 9) := op_record_in (j := 9) k1 y30 hi (by decide)
      rw [a1, a2, q9]
  · obtain ⟨m', rfl⟩ : ∃ m', m = m' + 1 := ⟨m - 1, by omega⟩
    obtain ⟨t', rfl⟩ : ∃ t', t = t' + 1 := ⟨t - 1, by omega⟩
    have e0 : op_count x 0 = x.1 6 := rfl
    rw [e0, r6, nI_pred, nI_pred, at0 (by omega)]
    exact nI_nlt (by omega) (by omega)
  · have e6 : op_count x 6 = x.1 29 := rfl
    rw [e6]
    rcases r29 with q | ⟨e, he, q⟩
    · exact Or.inl q
    · refine Or.inr ?_
      obtain ⟨m', rfl⟩ : ∃ m', m = m' + 1 := ⟨m - 1, by omega⟩
      have := k6 e he q
      have e1 : nI e + 6 = nI (e + 6) := nI_add e 6
      rw [q, nI_pred, at0 (by omega), e1]
      exact nI_nlt (by omega) (by omega)
/-- the law's end -/
theorem J_end {s : Nat} {r : Int32} (hb : b < 6) (hs : s < 3) (hr : -500 ≤ r ∧ r ≤ 500) (h : lw_J b n x y) :
    op_leastReading x.1 (nI s) 1 = op_leastReading y.1 (nI s) 1 ∧ op_ticksTo x.1 (nI s) r = op_ticksTo y.1 (nI s) r ∧ (op_ticksTo x.1 (nI s) r = 0 ↔ op_count x 3 >>> (nI s &&& 31) &&& 1 = 1) ∧ (op_stage x.1 (nI s) 1 = 0 ∨ (op_leastReading x.1 (nI s) 1 = -6 ∧ ¬ op_ticksTo x.1 (nI s) r = 1)) := by
  have hR := h.2.2.2.1
  obtain ⟨t, ht, hI⟩ := h.1.1
  obtain ⟨t2, ht2, hI2⟩ := h.2.1.1
  obtain ⟨t1, cl⟩ := nI_th hs
  unfold op_leastReading op_ticksTo
  rw [if_neg t1, if_neg t1, if_neg t1, if_neg t1, if_neg (sp_rd_1 hr), if_neg (sp_rd_1 hr), cl]
  refine ⟨(lw_lr hb hI hI2 hR 1001 0 (by decide)).symm, (lw_tt hb hr hs 50 0 _ _ t t2 hI hI2 hR).symm, ?_, ?_⟩
  · rw [lw_tt_0]
    have e2 : op_count x 3 = sp_fired x.1 := rfl
    rw [e2, sp_fired_z]
    rcases lw_k3 hs with e | e | e <;> subst e
    · show ¬ x.1 23 = -6 ↔ _
      rcases lw_z_01 (v := x.1 24) with a1 | a1 <;> rcases lw_z_01 (v := x.1 25) with a2 | a2 <;> rw [a1, a2] <;> (unfold lw_z; by_cases q : x.1 23 = -6 <;> simp only [q, if_true, if_false, not_true_eq_false, not_false_eq_true, true_iff, false_iff] <;> decide)
    · show ¬ x.1 24 = -6 ↔ _
      rcases lw_z_01 (v := x.1 23) with a1 | a1 <;> rcases lw_z_01 (v := x.1 25) with a2 | a2 <;> rw [a1, a2] <;> (unfold lw_z; by_cases q : x.1 24 = -6 <;> simp only [q, if_true, if_false, not_true_eq_false, not_false_eq_true, true_iff, false_iff] <;> decide)
    · show ¬ x.1 25 = -6 ↔ _
      rcases lw_z_01 (v := x.1 23) with a1 | a1 <;> rcases lw_z_01 (v := x.1 24) with a2 | a2 <;> rw [a1, a2] <;> (unfold lw_z; by_cases q : x.1 25 = -6 <;> simp only [q, if_true, if_false, not_true_eq_false, not_false_eq_true, true_iff, false_iff] <;> decide)
  · obtain ⟨-, ⟨m, hm12, r30⟩, -, -, rb, -⟩ := hI
    have es : op_stage x.1 (nI s) 1 = x.1 (26 + s) := by
      unfold op_stage
      rw [if_neg t1, if_neg (by decide), if_pos rfl, cl]
    rw [es]
    rcases rb s hs with q | q
    · exact Or.inl q
    · exact Or.inr ⟨lw_lr_no hm12 r30 hs q 1001 0, lw_tt_no1 hm12 r30 hs q⟩
end T95
