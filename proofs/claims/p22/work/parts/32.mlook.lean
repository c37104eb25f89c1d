/-! THE REFERENCE'S LOOKS -/
def op_sensor (f : Nat → Int32) (a w : Int32) : Int32 := if sp_th a = 0 then -1 else if w = 0 then f (8 + a.toNatClampNeg) + 100000 else if w = 1 then f (11 + a.toNatClampNeg) + 100000 else if w = 2 then f (14 + a.toNatClampNeg) else if w = 3 then f (17 + a.toNatClampNeg) else if w = 4 then (if f 6 = 0 then -6 else f (20 + a.toNatClampNeg) + 100000) else -2
def op_stage (f : Nat → Int32) (a w : Int32) : Int32 := if sp_th a = 0 then -1 else if w = 0 then f (23 + a.toNatClampNeg) else if w = 1 then f (26 + a.toNatClampNeg) else -2
def op_record (f : Nat → Int32) (p w : Int32) : Int32 := if 0 ≤ p ∧ p < f 30 then (if 0 ≤ w ∧ w ≤ 9 then f (31 + 10 * p.toNatClampNeg + w.toNatClampNeg) else -2) else -1
theorem pj_nI_of {a : Int32} {b : Nat} (hb : b < 2 ^ 31) (h0 : 0 ≤ a) (h : a < nI b) : ∃ i, i < b ∧ a = nI i := by
  obtain ⟨j, h1, h2⟩ := nI_of (Int32.not_lt.mpr h0)
  subst h2
  exact ⟨j, (nI_ltI h1 hb).mp h, rfl⟩
def op_count (x : pj_Sg) (w : Int32) : Int32 := if 8 ≤ w ∧ w ≤ 13 then x.1 (w - 8).toNatClampNeg else if w = 0 then x.1 6 else if w = 1 then x.1 7 else if w = 2 then sp_vot x.1 else if w = 3 then sp_fired x.1 else if w = 4 then sp_bar x.1 else if w = 5 then x.1 30 else if w = 6 then x.1 29 else if w = 7 then sp_rec x.1 else if w = 14 then nI x.2.2.2.2.2.1 else if w = 15 then nI x.2.1 else -2
theorem sp_813 {w : Int32} (h : 8 ≤ w ∧ w ≤ 13) : w = 8 ∨ w = 9 ∨ w = 10 ∨ w = 11 ∨ w = 12 ∨ w = 13 := by
  rw [Int32.le_iff_toInt_le, Int32.le_iff_toInt_le] at h
  have e0 : (8 : Int32).toInt = 8 := rfl
  have e2 : (13 : Int32).toInt = 13 := rfl
  rw [e0, e2] at h
  have : w.toInt = 8 ∨ w.toInt = 9 ∨ w.toInt = 10 ∨ w.toInt = 11 ∨ w.toInt = 12 ∨ w.toInt = 13 := by omega
  rcases this with e | e | e | e | e | e
  · exact Or.inl (Int32.toInt_inj.mp e)
  · exact Or.inr (Or.inl (Int32.toInt_inj.mp e))
  · exact Or.inr (Or.inr (Or.inl (Int32.toInt_inj.mp e)))
  · exact Or.inr (Or.inr (Or.inr (Or.inl (Int32.toInt_inj.mp e))))
  · exact Or.inr (Or.inr (Or.inr (Or.inr (Or.inl (Int32.toInt_inj.mp e)))))
  · exact Or.inr (Or.inr (Or.inr (Or.inr (Or.inr (Int32.toInt_inj.mp e)))))
