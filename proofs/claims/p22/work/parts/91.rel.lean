/-! THE ORDER OF THE SENSORS: the rows of both objects -/
def lw_Rr (b : Nat) (f f' : Nat → Int32) (a : Nat) : Prop := f' (a + 0) = f (a + 0) ∧ f' (a + 5) = f (a + 5) ∧ f' (a + 6) = lw_set b (f (a + 6)) ∧ f' (a + 7) = lw_set b (f (a + 7)) ∧ f' (a + 8) = f (a + 8) ∧ f' (a + 9) = f (a + 9)
def lw_R (b : Nat) (f f' : Nat → Int32) : Prop := (∀ j, j < 8 → f' j = f j) ∧ (∀ j, 23 ≤ j → j < 31 → f' j = f j) ∧ (∀ i k, i < 5 → k < 3 → f' (8 + 3 * i + lw_th b k) = f (8 + 3 * i + k)) ∧ ∀ i, i < 12 → lw_Rr b f f' (31 + 10 * i)
theorem lw_th_inj : ∀ b, b < 6 → ∀ k, k < 3 → ∀ k', k' < 3 → lw_th b k = lw_th b k' → k = k' := by decide
theorem lw_Rr.of {b : Nat} {f f' F F' : Nat → Int32} {a a' : Nat} (h : lw_Rr b f f' a') (e : ∀ j, j ≤ 9 → F (a + j) = f (a' + j)) (e' : ∀ j, j ≤ 9 → F' (a + j) = f' (a' + j)) : lw_Rr b F F' a := by
  obtain ⟨h0, h5, h6, h7, h8, h9⟩ := h
  exact ⟨by rw [e 0 (by decide), e' 0 (by decide), h0], by rw [e 5 (by decide), e' 5 (by decide), h5], by rw [e 6 (by decide), e' 6 (by decide), h6], by rw [e 7 (by decide), e' 7 (by decide), h7], by rw [e 8 (by decide), e' 8 (by decide), h8], by rw [e 9 (by decide), e' 9 (by decide), h9]⟩
theorem lw_R.row {b a : Nat} {F F' : Nat → Int32} {v : Int32} (h : lw_R b F F') (ha : a < 8 ∨ (23 ≤ a ∧ a < 31)) : lw_R b (upd F a v) (upd F' a v) := by
  obtain ⟨h1, h2, h3, h4⟩ := h
  refine ⟨fun j hj => ?_, fun j hj hj2 => ?_, fun i k hi hk => ?_, fun i hi => ?_⟩
  · rw [pj_upd_ap, pj_upd_ap]
    by_cases c : j = a
    · rw [if_pos c, if_pos c]
    · rw [if_neg c, if_neg c]
      exact h1 j hj
  · rw [pj_upd_ap, pj_upd_ap]
    by_cases c : j = a
    · rw [if_pos c, if_pos c]
    · rw [if_neg c, if_neg c]
      exact h2 j hj hj2
  · have := lw_th_lt (b := b) (k := k)
    rw [pj_upd_ap, pj_upd_ap, if_neg (by omega), if_neg (by omega)]
    exact h3 i k hi hk
  · refine (h4 i hi).of (fun j hj => ?_) (fun j hj => ?_)
    · rw [pj_upd_ap, if_neg (by omega)]
    · rw [pj_upd_ap, if_neg (by omega)]
theorem lw_R.sen {b i k : Nat} {F F' : Nat → Int32} {v : Int32} (hb : b < 6) (hi : i < 5) (hk : k < 3) (h : lw_R b F F') : lw_R b (upd F (8 + 3 * i + k) v) (upd F' (8 + 3 * i + lw_th b k) v) := by
  obtain ⟨h1, h2, h3, h4⟩ := h
  have ht := lw_th_lt (b := b) (k := k)
  refine ⟨fun j hj => ?_, fun j hj hj2 => ?_, fun i2 k2 hi2 hk2 => ?_, fun i2 hi2 => ?_⟩
  · rw [pj_upd_ap, pj_upd_ap, if_neg (by omega), if_neg (by omega)]
    exact h1 j hj
  · rw [pj_upd_ap, pj_upd_ap, if_neg (by omega), if_neg (by omega)]
    exact h2 j hj hj2
  · have ht2 := lw_th_lt (b := b) (k := k2)
    rw [pj_upd_ap, pj_upd_ap]
    by_cases c : i2 = i ∧ k2 = k
    · rw [c.1, c.2, if_pos rfl, if_pos rfl]
    · have c' : ¬ (i2 = i ∧ lw_th b k2 = lw_th b k) := fun q => c ⟨q.1, lw_th_inj b hb k2 hk2 k hk q.2⟩
      rw [if_neg (by omega), if_neg (by omega)]
      exact h3 i2 k2 hi2 hk2
  · refine (h4 i2 hi2).of (fun j hj => ?_) (fun j hj => ?_)
    · rw [pj_upd_ap, if_neg (by omega)]
    · rw [pj_upd_ap, if_neg (by omega)]
/-- the rows behind a shift -/
theorem sp_sh_at {f : Nat → Int32} {n i j : Nat} (hn : n ≤ 12) (hr : f 30 = nI n) (hi : i < 12) (hj : j ≤ 9) : sp_sh f (31 + 10 * i + j) = f (31 + 10 * (if n = 12 ∧ i < 11 then i + 1 else i) + j) := by
  unfold sp_sh
  by_cases c : n = 12
  · have c12 : f 30 = 12 := by
      rw [hr, c]
      rfl
    rw [if_pos c12, pj_upd_ap, if_neg (by omega)]
    unfold va_cpy
    by_cases q : i < 11
    · rw [if_pos ⟨by omega, by omega⟩, if_pos ⟨c, q⟩]
      exact congrArg f (by omega)
    · rw [if_neg (by omega), if_neg (fun w => q w.2)]
  · have c12 : ¬ f 30 = 12 := by
      intro q
      rw [hr] at q
      exact c ((nI_eq (by omega) (by decide)).mp (q : nI n = nI 12))
    rw [if_neg c12, if_neg (fun w => c w.1)]
theorem sp_put_0 {f g : Nat → Int32} {mid lo hi fi cl : Int32} {a : Nat} (h : 31 ≤ a) : sp_put f g mid lo hi fi cl a (a + 0) = f 6 := by
  unfold sp_put
  simp only [pj_upd_ap]
  rw [if_neg (by omega), if_neg (by omega), if_neg (by omega), if_neg (by omega), if_neg (by omega), if_neg (by omega), if_neg (by omega), if_neg (by omega), if_neg (by omega), if_neg (by omega), if_pos (by omega)]
theorem sp_put_5 {f g : Nat → Int32} {mid lo hi fi cl : Int32} {a : Nat} (h : 31 ≤ a) : sp_put f g mid lo hi fi cl a (a + 5) = mid + 100000 := by
  unfold sp_put
  simp only [pj_upd_ap]
  rw [if_neg (by omega), if_neg (by omega), if_neg (by omega), if_neg (by omega), if_neg (by omega), if_true]
theorem sp_put_6 {f g : Nat → Int32} {mid lo hi fi cl : Int32} {a : Nat} (h : 31 ≤ a) : sp_put f g mid lo hi fi cl a (a + 6) = lo := by
  unfold sp_put
  simp only [pj_upd_ap]
  rw [if_neg (by omega), if_neg (by omega), if_neg (by omega), if_neg (by omega), if_true]
theorem sp_put_7 {f g : Nat → Int32} {mid lo hi fi cl : Int32} {a : Nat} (h : 31 ≤ a) : sp_put f g mid lo hi fi cl a (a + 7) = hi := by
  unfold sp_put
  simp only [pj_upd_ap]
  rw [if_neg (by omega), if_neg (by omega), if_neg (by omega), if_true]
theorem sp_put_8 {f g : Nat → Int32} {mid lo hi fi cl : Int32} {a : Nat} (h : 31 ≤ a) : sp_put f g mid lo hi fi cl a (a + 8) = (if f 7 ≤ 0 then 0 else 1) := by
  unfold sp_put
  simp only [pj_upd_ap]
  rw [if_neg (by omega), if_neg (by omega), if_true]
theorem sp_put_9 {f g : Nat → Int32} {mid lo hi fi cl : Int32} {a : Nat} (h : 31 ≤ a) : sp_put f g mid lo hi fi cl a (a + 9) = fi := by
  unfold sp_put
  simp only [pj_upd_ap]
  rw [if_neg (by omega), if_true]
theorem sp_sh_lo {f : Nat → Int32} {k : Nat} (h : k < 30) : sp_sh f k = f k := sp_sh_hi (Or.inl h)
theorem sp_sh_30e {f f' : Nat → Int32} (h : f' 30 = f 30) : sp_sh f' 30 = sp_sh f 30 := by
  unfold sp_sh
  rw [h]
  by_cases c : f 30 = 12
  · rw [if_pos c, if_pos c, pj_upd_ap, pj_upd_ap, if_pos rfl, if_pos rfl]
  · rw [if_neg c, if_neg c]
    exact h
/-- the recorder takes the tick, on both sides -/
theorem lw_R.recs {b n : Nat} {F F' g g' : Nat → Int32} {m lo hi fi c lo' hi' : Int32} (hn : n ≤ 12) (h30 : F 30 = nI n) (h : lw_R b F F') (hlo : lo' = lw_set b lo) (hhi : hi' = lw_set b hi) : lw_R b (if sp_rec F = 0 then F else sp_put (sp_sh F) g m lo hi fi c (sp_at F)) (if sp_rec F' = 0 then F' else sp_put (sp_sh F') g' m lo' hi' fi c (sp_at F')) := by
  have hh := h
  obtain ⟨h1, h2, h3, h4⟩ := hh
  have er : sp_rec F' = sp_rec F := by
    unfold sp_rec
    rw [h2 29 (by decide) (by decide), h1 6 (by decide)]
  have e30 : F' 30 = F 30 := h2 30 (by decide) (by decide)
  rw [er]
  by_cases c0 : sp_rec F = 0
  · rw [if_pos c0, if_pos c0]
    exact h
  rw [if_neg c0, if_neg c0]
  have ea : sp_at F' = sp_at F := by
    unfold sp_at
    rw [sp_sh_30e e30]
  obtain ⟨q, hq, eq, eq30⟩ := sp_at_ok hn h30
  rw [ea, eq]
  refine ⟨fun j hj => ?_, fun j hj hj2 => ?_, fun i k hi hk => ?_, fun i hi => ?_⟩
  · rw [sp_put_ne (Or.inl (by omega)) (by omega), sp_put_ne (Or.inl (by omega)) (by omega), sp_sh_lo (by omega), sp_sh_lo (by omega)]
    exact h1 j hj
  · by_cases c3 : j = 30
    · subst c3
      rw [sp_put_30, sp_put_30, sp_sh_30e e30]
    · rw [sp_put_ne (Or.inl (by omega)) (by omega), sp_put_ne (Or.inl (by omega)) (by omega), sp_sh_lo (by omega), sp_sh_lo (by omega)]
      exact h2 j hj hj2
  · have := lw_th_lt (b := b) (k := k)
    rw [sp_put_ne (Or.inl (by omega)) (by omega), sp_put_ne (Or.inl (by omega)) (by omega), sp_sh_lo (by omega), sp_sh_lo (by omega)]
    exact h3 i k hi hk
  · by_cases c1 : i = q
    · subst c1
      refine ⟨?_, ?_, ?_, ?_, ?_, ?_⟩
      · rw [sp_put_0 (by omega), sp_put_0 (by omega), sp_sh_lo (by decide), sp_sh_lo (by decide)]
        exact h1 6 (by decide)
      · rw [sp_put_5 (by omega), sp_put_5 (by omega)]
      · rw [sp_put_6 (by omega), sp_put_6 (by omega)]
        exact hlo
      · rw [sp_put_7 (by omega), sp_put_7 (by omega)]
        exact hhi
      · rw [sp_put_8 (by omega), sp_put_8 (by omega), sp_sh_lo (by decide), sp_sh_lo (by decide), h1 7 (by decide)]
      · rw [sp_put_9 (by omega), sp_put_9 (by omega)]
    · refine (h4 (if n = 12 ∧ i < 11 then i + 1 else i) (by split <;> omega)).of (fun j hj => ?_) (fun j hj => ?_)
      · rw [sp_put_ne (by omega) (by omega), sp_sh_at hn h30 hi hj]
      · rw [sp_put_ne (by omega) (by omega), sp_sh_at hn (e30.trans h30) hi hj]
/-- a service, on both sides -/
theorem lw_R.srv {b : Nat} {f f' : Nat → Int32} (h : lw_R b f f') : lw_R b (sp_srv f) (sp_srv f') := by
  obtain ⟨h1, h2, h3, h4⟩ := h
  unfold sp_srv
  refine lw_R.row ?_ (Or.inr (by decide))
  refine lw_R.row ?_ (Or.inr (by decide))
  refine lw_R.row ?_ (Or.inl (by decide))
  refine ⟨fun j hj => ?_, fun j hj hj2 => ?_, fun i k hi hk => ?_, fun i hi => ?_⟩
  · simp only [pj_upd_ap]
    repeat rw [if_neg (by omega)]
    exact h1 j hj
  · simp only [pj_upd_ap]
    by_cases c3 : j = 25
    · subst c3
      rfl
    by_cases c4 : j = 24
    · subst c4
      rfl
    by_cases c5 : j = 23
    · subst c5
      rfl
    repeat rw [if_neg (by omega)]
    exact h2 j hj hj2
  · have := lw_th_lt (b := b) (k := k)
    simp only [pj_upd_ap]
    by_cases c : i = 1
    · subst c
      have a1 : 8 + 3 * 1 + lw_th b k = 11 ∨ 8 + 3 * 1 + lw_th b k = 12 ∨ 8 + 3 * 1 + lw_th b k = 13 := by omega
      have a2 : 8 + 3 * 1 + k = 11 ∨ 8 + 3 * 1 + k = 12 ∨ 8 + 3 * 1 + k = 13 := by omega
      rcases a1 with e1 | e1 | e1 <;> rcases a2 with e2 | e2 | e2 <;> rw [e1, e2] <;> rfl
    · repeat rw [if_neg (by omega)]
      exact h3 i k hi hk
  · refine (h4 i hi).of (fun j hj => ?_) (fun j hj => ?_)
    · simp only [pj_upd_ap]
      repeat rw [if_neg (by omega)]
    · simp only [pj_upd_ap]
      repeat rw [if_neg (by omega)]
theorem lw_R.tst {b k : Nat} {f f' : Nat → Int32} (hb : b < 6) (hk : k < 3) (h : lw_R b f f') : lw_R b (sp_tst f k) (sp_tst f' (lw_th b k)) := by
  unfold sp_tst
  exact lw_R.sen (i := 3) hb (by decide) hk (lw_R.sen (i := 1) hb (by decide) hk (lw_R.sen (i := 0) hb (by decide) hk (lw_R.sen (i := 2) hb (by decide) hk h)))
