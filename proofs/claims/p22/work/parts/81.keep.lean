/-! WHAT A STATE KEEPS, EVERY CALL KEEPS -/
theorem nat_14 {a k : Nat} (hk : k < 3) (c : 14 + k = a) : (14 ≤ a ∧ a ≤ 16) ∨ (26 ≤ a ∧ a ≤ 28) := by omega
theorem nat_26 {a k : Nat} (hk : k < 3) (c : 26 + k = a) : (14 ≤ a ∧ a ≤ 16) ∨ (26 ≤ a ∧ a ≤ 28) := by omega
theorem nat_17 {a k : Nat} (hk : k < 3) (c : 17 + k = a) : 17 ≤ a ∧ a ≤ 19 := by omega
theorem nat_8 {a k : Nat} (hk : k < 3) (c : 8 + k = a) : 8 ≤ a ∧ a ≤ 10 := by omega
theorem pj_Ro.chg {f : Nat → Int32} {t a : Nat} {v : Int32} (h : pj_Ro f t) (ha : a < 152) (n30 : a ≠ 30) (n6 : a ≠ 6) (hb : (14 ≤ a ∧ a ≤ 16) ∨ (26 ≤ a ∧ a ≤ 28) → v = 0 ∨ v = 1) (h7 : a = 7 ∨ a = 2 → 0 ≤ v) (h17 : 17 ≤ a ∧ a ≤ 19 → ∃ b, b ≤ t ∧ v = nI b) (h8 : 8 ≤ a ∧ a ≤ 10 → -500 ≤ v ∧ v ≤ 500) (h29 : a = 29 → v = -6) : pj_Ro (upd f a v) t := by
  obtain ⟨r0, ⟨m, hm, r30⟩, r6, rv, rb, r7, r2, rs, r8, r29⟩ := h
  refine ⟨fun j hj => ?_, ⟨m, hm, ?_⟩, ?_, fun k hk => ?_, fun k hk => ?_, ?_, ?_, fun k hk => ?_, fun k hk => ?_, ?_⟩
  · rw [pj_upd_ap, if_neg (Nat.ne_of_gt (Nat.lt_of_lt_of_le ha hj))]
    exact r0 j hj
  · rw [pj_upd_ap, if_neg (Ne.symm n30)]
    exact r30
  · rw [pj_upd_ap, if_neg (Ne.symm n6)]
    exact r6
  · rw [pj_upd_ap]
    by_cases c : 14 + k = a
    · rw [if_pos c]
      exact hb (nat_14 hk c)
    · rw [if_neg c]
      exact rv k hk
  · rw [pj_upd_ap]
    by_cases c : 26 + k = a
    · rw [if_pos c]
      exact hb (nat_26 hk c)
    · rw [if_neg c]
      exact rb k hk
  · rw [pj_upd_ap]
    by_cases c : 7 = a
    · rw [if_pos c]
      exact h7 (Or.inl c.symm)
    · rw [if_neg c]
      exact r7
  · rw [pj_upd_ap]
    by_cases c : 2 = a
    · rw [if_pos c]
      exact h7 (Or.inr c.symm)
    · rw [if_neg c]
      exact r2
  · rw [pj_upd_ap]
    by_cases c : 17 + k = a
    · rw [if_pos c]
      exact h17 (nat_17 hk c)
    · rw [if_neg c]
      exact rs k hk
  · rw [pj_upd_ap]
    by_cases c : 8 + k = a
    · rw [if_pos c]
      exact h8 (nat_8 hk c)
    · rw [if_neg c]
      exact r8 k hk
  · rw [pj_upd_ap]
    by_cases c : 29 = a
    · rw [if_pos c]
      exact Or.inl (h29 c.symm)
    · rw [if_neg c]
      exact r29
theorem pj_Ro.u30 {f : Nat → Int32} {t m : Nat} (h : pj_Ro f t) (hm : m ≤ 12) : pj_Ro (upd f 30 (nI m)) t := by
  obtain ⟨r0, -, r6, rv, rb, r7, r2, rs, r8, r29⟩ := h
  refine ⟨fun j hj => ?_, ⟨m, hm, ?_⟩, ?_, fun k hk => ?_, fun k hk => ?_, ?_, ?_, fun k hk => ?_, fun k hk => ?_, ?_⟩
  · rw [pj_upd_ap, if_neg (by omega)]
    exact r0 j hj
  · rw [pj_upd_ap, if_pos rfl]
  · rw [pj_upd_ap, if_neg (by omega)]
    exact r6
  · rw [pj_upd_ap, if_neg (by omega)]
    exact rv k hk
  · rw [pj_upd_ap, if_neg (by omega)]
    exact rb k hk
  · rw [pj_upd_ap, if_neg (by omega)]
    exact r7
  · rw [pj_upd_ap, if_neg (by omega)]
    exact r2
  · rw [pj_upd_ap, if_neg (by omega)]
    exact rs k hk
  · rw [pj_upd_ap, if_neg (by omega)]
    exact r8 k hk
  · rw [pj_upd_ap, if_neg (by omega)]
    exact r29
theorem pj_In.push {x : pj_Sg} {f : Nat → Int32} (h : pj_In x) (hf : ∃ t, t ≤ 100000 ∧ pj_Ro f t) : pj_In (sp_push x f) := by
  obtain ⟨h1, h2, h3, h4, h5⟩ := h
  refine ⟨hf, ?_, h3, fun i hi => ?_, h5⟩
  · show sp_hn x.2.1 + 1 ≤ 6
    unfold sp_hn
    split <;> omega
  · have hi' : i < sp_hn x.2.1 + 1 := hi
    show ∃ t, t ≤ 100000 ∧ pj_Ro (sp_ph x.1 x.2.1 x.2.2.1 i) t
    unfold sp_hn at hi'
    unfold sp_ph
    by_cases c : x.2.1 = 6
    · rw [if_pos c]
      rw [if_pos c] at hi'
      by_cases c5 : i = 5
      · rw [if_pos c5]
        exact h1
      · rw [if_neg c5]
        exact h4 (i + 1) (by omega)
    · rw [if_neg c]
      rw [if_neg c] at hi'
      by_cases c5 : i = x.2.1
      · rw [if_pos c5]
        exact h1
      · rw [if_neg c5]
        exact h4 i (by omega)
section T60
variable {x : pj_Sg}
theorem I_set {a v : Int32} (h : pj_In x) : pj_In (op_set x a v).1 := by
  unfold op_set
  by_cases c : sp_is a v = 0
  · rw [if_pos c]
    exact h
  · rw [if_neg c]
    obtain ⟨t, ht, hR⟩ := h.1
    have c0 : ¬ a < 0 := by
      intro w
      apply c
      unfold sp_is
      repeat rw [if_neg (by intro q; subst q; revert w; decide)]
    have c6 : a < 6 := by
      by_cases w : a < 6
      · exact w
      · exact absurd (by unfold sp_is; repeat rw [if_neg (by intro q; subst q; revert w; decide)]) c
    rcases i32_06 c0 c6 with e | e | e | e | e | e <;> subst e
    · exact h.push ⟨t, ht, hR.chg (a := 0) (by decide) (by decide) (by decide) (by omega) (by omega) (by omega) (by omega) (by omega)⟩
    · exact h.push ⟨t, ht, hR.chg (a := 1) (by decide) (by decide) (by decide) (by omega) (by omega) (by omega) (by omega) (by omega)⟩
    · refine h.push ⟨t, ht, hR.chg (a := 2) (by decide) (by decide) (by decide) (by omega) (fun _ => ?_) (by omega) (by omega) (by omega)⟩
      have es : sp_is 2 v = sp_rg v 1 50 := by
        unfold sp_is
        repeat (first | rw [if_pos rfl] | rw [if_neg (by decide)])
      rw [es] at c
      unfold sp_rg at c
      by_cases q : 1 ≤ v ∧ v ≤ 50
      · exact Int32.le_trans (by decide) q.1
      · rw [if_neg q] at c
        exact absurd rfl c
    · exact h.push ⟨t, ht, hR.chg (a := 3) (by decide) (by decide) (by decide) (by omega) (by omega) (by omega) (by omega) (by omega)⟩
    · exact h.push ⟨t, ht, hR.chg (a := 4) (by decide) (by decide) (by decide) (by omega) (by omega) (by omega) (by omega) (by omega)⟩
    · exact h.push ⟨t, ht, hR.chg (a := 5) (by decide) (by decide) (by decide) (by omega) (by omega) (by omega) (by omega) (by omega)⟩
theorem I_tick {b0 b1 b2 c : Int32} (h : pj_In x) : pj_In (op_tick x b0 b1 b2 c).1 := by
  unfold op_tick
  by_cases c0 : sp_rd b0 = 0
  · rw [if_pos c0]
    exact h
  rw [if_neg c0]
  by_cases c1 : sp_rd b1 = 0
  · rw [if_pos c1]
    exact h
  rw [if_neg c1]
  by_cases c2 : sp_rd b2 = 0
  · rw [if_pos c2]
    exact h
  rw [if_neg c2]
  by_cases c4 : 100000 ≤ x.1 6
  · rw [if_pos c4]
    exact h
  rw [if_neg c4]
  obtain ⟨t, ht, hR⟩ := h.1
  refine h.push ⟨t + 1, ?_, hR.tick (sp_rd_a3 c0 c1 c2)⟩
  have r6 := hR.2.2.1
  rw [r6] at c4
  exact Nat.lt_of_not_le (fun w => c4 ((nI_leI (a := 100000) (by decide) (by omega)).mpr w))
theorem I_bar {a b : Int32} (hb : b = 0 ∨ b = 1) (h : pj_In x) : pj_In (op_bar x a b).1 := by
  unfold op_bar
  by_cases c0 : sp_th a = 0
  · rw [if_pos c0]
    exact h
  rw [if_neg c0]
  by_cases c1 : x.1 (26 + a.toNatClampNeg) = b
  · rw [if_pos c1]
    exact h
  rw [if_neg c1]
  by_cases c2 : x.1 (23 + a.toNatClampNeg) = -6
  · rw [if_pos c2]
    obtain ⟨t, ht, hR⟩ := h.1
    have ha : a.toNatClampNeg ≤ 2 := by
      rcases sp_th_lt c0 with e | e | e <;> subst e <;> decide
    exact h.push ⟨t, ht, hR.chg (by omega) (by omega) (by omega) (fun _ => hb) (by omega) (by omega) (by omega) (by omega)⟩
  · rw [if_neg c2]
    exact h
theorem I_test {a : Int32} (h : pj_In x) : pj_In (op_test x a).1 := by
  unfold op_test
  by_cases c0 : sp_th a = 0
  · rw [if_pos c0]
    exact h
  rw [if_neg c0]
  by_cases c1 : sp_fired x.1 = 0
  · rw [if_pos c1]
    obtain ⟨t, ht, hR⟩ := h.1
    have ha : a.toNatClampNeg ≤ 2 := by
      rcases sp_th_lt c0 with e | e | e <;> subst e <;> decide
    refine h.push ⟨t, ht, ?_⟩
    unfold sp_tst
    refine pj_Ro.chg ?_ (by omega) (by omega) (by omega) (by omega) (by omega) (fun _ => ⟨0, by omega, rfl⟩) (by omega) (by omega)
    refine pj_Ro.chg ?_ (by omega) (by omega) (by omega) (by omega) (by omega) (by omega) (by omega) (by omega)
    refine pj_Ro.chg ?_ (by omega) (by omega) (by omega) (by omega) (by omega) (by omega) (fun _ => ⟨by decide, by decide⟩) (by omega)
    exact hR.chg (by omega) (by omega) (by omega) (fun _ => Or.inr rfl) (by omega) (by omega) (by omega) (by omega)
  · rw [if_neg c1]
    exact h
theorem I_service (h : pj_In x) : pj_In (op_service x).1 := by
  obtain ⟨t, ht, hR⟩ := h.1
  refine h.push ⟨t, ht, ?_⟩
  unfold sp_srv
  refine pj_Ro.u30 (m := 0) ?_ (by decide)
  refine pj_Ro.chg ?_ (by decide) (by decide) (by decide) (by omega) (by omega) (by omega) (by omega) (fun _ => rfl)
  refine pj_Ro.chg ?_ (by decide) (by decide) (by decide) (by omega) (fun _ => by decide) (by omega) (by omega) (by omega)
  repeat (first | exact hR | refine pj_Ro.chg ?_ (by decide) (by decide) (by decide) (by omega) (by omega) (by omega) (by omega) (by omega))
theorem I_undo (h : pj_In x) : pj_In (op_undo x).1 := by
  unfold op_undo
  by_cases c : x.2.1 = 0
  · rw [if_pos c]
    exact h
  · rw [if_neg c]
    obtain ⟨h1, h2, h3, h4, h5⟩ := h
    exact ⟨h4 _ (by omega), by show x.2.1 - 1 ≤ 6; omega, h3, fun i hi => h4 i (by have : i < x.2.1 - 1 := hi; omega), h5⟩
end T60
