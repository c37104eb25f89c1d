/-! THE STATE THAT BOTH KEEP: the row, the history, the slots, the pad -/
abbrev pj_Sg : Type := (Nat → Int32) × Nat × (Nat → Nat → Int32) × (Nat → Nat → Int32) × (Nat → Int32) × Nat × (Nat → Int32)
/-- what a row keeps at a tick -/
def pj_Ro (f : Nat → Int32) (t : Nat) : Prop :=
  (∀ j, 152 ≤ j → f j = 0) ∧ (∃ m, m ≤ 12 ∧ f 30 = nI m) ∧ f 6 = nI t ∧ (∀ k, k < 3 → f (14 + k) = 0 ∨ f (14 + k) = 1) ∧ (∀ k, k < 3 → f (26 + k) = 0 ∨ f (26 + k) = 1) ∧ 0 ≤ f 7 ∧ 0 ≤ f 2 ∧ (∀ k, k < 3 → ∃ a, a ≤ t ∧ f (17 + k) = nI a) ∧ (∀ k, k < 3 → -500 ≤ f (8 + k) ∧ f (8 + k) ≤ 500) ∧ (f 29 = -6 ∨ ∃ e, e ≤ t ∧ f 29 = nI e)
def pj_In (x : pj_Sg) : Prop := (∃ t, t ≤ 100000 ∧ pj_Ro x.1 t) ∧ x.2.1 ≤ 6 ∧ x.2.2.2.2.2.1 ≤ 80 ∧ (∀ i, i < x.2.1 → ∃ t, t ≤ 100000 ∧ pj_Ro (x.2.2.1 i) t) ∧ (∀ i, i < 2 → x.2.2.2.2.1 i = 0 ∨ (x.2.2.2.2.1 i = 1 ∧ ∃ t, t ≤ 100000 ∧ pj_Ro (x.2.2.2.1 i) t))
def sp_ph (f : Nat → Int32) (n : Nat) (h : Nat → Nat → Int32) : Nat → Nat → Int32 := fun i => if n = 6 then (if i = 5 then f else h (i + 1)) else (if i = n then f else h i)
/-- a change: the row that was goes into the history -/
def sp_push (x : pj_Sg) (f : Nat → Int32) : pj_Sg := (f, sp_hn x.2.1 + 1, sp_ph x.1 x.2.1 x.2.2.1, x.2.2.2)
/-- the reference's memory for a state -/
def pj_MC (H : pj_Heap) (f k hs sl sv pd : Nat → Int32) (n pl : Nat) (r0 r1 r2 a0 a1 a2 mid lo hi fi sp nu ic td : Int32) : Prop :=
  H 109 = pj_mo (nI n) mid lo hi fi (nI pl) sp nu ic td ∧ H 110 = .inr (0, 152, .inl f) ∧ H 111 = .inr (0, 152, .inl k) ∧ H 112 = .inr (0, 912, .inl hs) ∧ H 113 = .inr (0, 304, .inl sl) ∧ H 114 = .inr (0, 2, .inl sv) ∧ H 115 = .inr (0, 3, .inl (pj_a3 r0 r1 r2)) ∧ H 116 = .inr (0, 3, .inl (pj_a3 a0 a1 a2)) ∧ H 117 = .inr (0, 80, .inl pd)
def pj_MR (n : Nat) (h s : Nat → Nat → Int32) (sv hs sl : Nat → Int32) : Prop := (∀ i j, i < n → j < 152 → hs (152 * i + j) = h i j) ∧ (∀ i j, i < 2 → j < 152 → sv i = 1 → sl (152 * i + j) = s i j)
def pj_M (H : pj_Heap) (x : pj_Sg) : Prop := ∃ (k hs sl : Nat → Int32) (r0 r1 r2 a0 a1 a2 mid lo hi fi sp nu ic td : Int32), pj_MC H x.1 k hs sl x.2.2.2.2.1 x.2.2.2.2.2.2 x.2.1 x.2.2.2.2.2.1 r0 r1 r2 a0 a1 a2 mid lo hi fi sp nu ic td ∧ pj_MR x.2.1 x.2.2.1 x.2.2.2.1 x.2.2.2.2.1 hs sl
/-- a tick writes no further than the row, and the record stays in its bounds -/
theorem sp_sh_30 {f : Nat → Int32} {n : Nat} (hn : n ≤ 12) (hr : f 30 = nI n) : ∃ m, m ≤ 11 ∧ sp_sh f 30 = nI m ∧ (m = n ∨ n = 12) := by
  unfold sp_sh
  by_cases h : f 30 = 12
  · rw [if_pos h, h]
    have hn : nI n = nI 12 := hr ▸ h
    refine ⟨11, by omega, rfl, Or.inr ((nI_eq (by omega) (by decide)).mp hn)⟩
  · rw [if_neg h, hr]
    have : n ≠ 12 := fun q => h (by rw [hr, q]; rfl)
    exact ⟨n, by omega, rfl, Or.inl rfl⟩
theorem sp_sh_hi {f : Nat → Int32} {k : Nat} (h : k < 30 ∨ 152 ≤ k) : sp_sh f k = f k := by
  unfold sp_sh
  split
  · rw [pj_upd_ap, if_neg (by omega)]
    unfold va_cpy
    rw [if_neg (by omega)]
  · rfl
theorem sp_put_ne {f g : Nat → Int32} {mid lo hi fi cl : Int32} {a k : Nat} (h : k < a ∨ a + 9 < k) (h3 : k ≠ 30) : sp_put f g mid lo hi fi cl a k = f k := by
  unfold sp_put
  simp only [pj_upd_ap]
  rw [if_neg h3]
  repeat rw [if_neg (by omega)]
theorem sp_put_30 {f g : Nat → Int32} {mid lo hi fi cl : Int32} {a : Nat} : sp_put f g mid lo hi fi cl a 30 = f 30 + 1 := by
  unfold sp_put
  rw [pj_upd_ap, if_pos rfl]
theorem sp_at_ok {f : Nat → Int32} {n : Nat} (hn : n ≤ 12) (hr : f 30 = nI n) : ∃ m, m ≤ 11 ∧ sp_at f = 31 + 10 * m ∧ sp_sh f 30 = nI m := by
  obtain ⟨m, h1, h2, -⟩ := sp_sh_30 hn hr
  refine ⟨m, h1, ?_, h2⟩
  unfold sp_at
  rw [h2, nI_clamp (by omega)]
theorem tk_7_hi {f g : Nat → Int32} {c : Int32} {n k : Nat} (hn : n ≤ 12) (hr : f 30 = nI n) (h : k < 30 ∨ 152 ≤ k) : tk_7 f g c k = tk_6 f g c k := by
  have h30 : tk_6 f g c 30 = nI n := by rw [tk_6_ne (by omega)]; exact hr
  obtain ⟨m, h1, h2, h3⟩ := sp_at_ok hn h30
  unfold tk_7
  split
  · rfl
  · rw [h2, sp_put_ne (by omega) (by omega), sp_sh_hi (by omega)]
theorem tk_7_30 {f g : Nat → Int32} {c : Int32} {n : Nat} (hn : n ≤ 12) (hr : f 30 = nI n) : ∃ m, m ≤ 12 ∧ tk_7 f g c 30 = nI m := by
  have h30 : tk_6 f g c 30 = nI n := by rw [tk_6_ne (by omega)]; exact hr
  unfold tk_7
  split
  · exact ⟨n, hn, h30⟩
  · obtain ⟨m, h1, h2, h3⟩ := sp_at_ok hn h30
    refine ⟨m + 1, by omega, ?_⟩
    rw [sp_put_30, h3]
    exact nI_1 m
theorem sp_tick_hi {f g : Nat → Int32} {c : Int32} {n k : Nat} (hn : n ≤ 12) (hr : f 30 = nI n) (h : k < 30 ∨ 152 ≤ k) (h6 : k ≠ 6) (h29 : k ≠ 29) : sp_tick f g c k = tk_6 f g c k := by
  unfold sp_tick tk_8
  rw [pj_upd_ap, if_neg h6, pj_upd_ap, if_neg h29, tk_7_hi hn hr h]
theorem sp_tick_30 {f g : Nat → Int32} {c : Int32} {n : Nat} (hn : n ≤ 12) (hr : f 30 = nI n) : ∃ m, m ≤ 12 ∧ sp_tick f g c 30 = nI m := by
  unfold sp_tick tk_8
  rw [pj_upd_ap, if_neg (by omega), pj_upd_ap, if_neg (by omega)]
  exact tk_7_30 hn hr
theorem sp_tick_6 {f g : Nat → Int32} {c : Int32} {n : Nat} (hn : n ≤ 12) (hr : f 30 = nI n) : sp_tick f g c 6 = f 6 + 1 := by
  unfold sp_tick tk_8
  rw [pj_upd_ap, if_pos rfl, pj_upd_ap, if_neg (by omega), tk_7_hi hn hr (by omega), tk_6_ne (by omega)]
theorem sp_tick_tail {f g : Nat → Int32} {c : Int32} {n : Nat} (hn : n ≤ 12) (hr : f 30 = nI n) (h0 : ∀ j, 152 ≤ j → f j = 0) : ∀ j, 152 ≤ j → sp_tick f g c j = 0 := by
  intro j hj
  rw [sp_tick_hi hn hr (by omega) (by omega) (by omega), tk_6_ne (by omega), h0 j hj]

