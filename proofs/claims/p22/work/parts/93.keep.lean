/-! WHAT A UNIT KEEPS: the stages of a tick, the votes, the middle, the recorder's rows -/
theorem sp_may0_n {F : Nat → Int32} {lo hi : Int32} (h : ¬ sp_may0 F lo hi = 0) : F 23 = -6 ∧ ¬ F 26 = 1 ∧ ¬ F 7 = 0 := by
  unfold sp_may0 at h
  by_cases c1 : F 23 = -6
  · rw [if_pos c1] at h
    by_cases c2 : F 26 = 1
    · rw [if_pos c2] at h
      exact absurd rfl h
    · rw [if_neg c2] at h
      by_cases c3 : F 7 = 0
      · rw [if_pos c3] at h
        exact absurd rfl h
      · exact ⟨c1, c2, c3⟩
  · rw [if_neg c1] at h
    exact absurd rfl h
theorem sp_hf_n {F : Nat → Int32} {s : Nat} (h : ¬ sp_hf F s = 0) : ¬ F (23 + s) = -6 := by
  intro q
  apply h
  unfold sp_hf
  rw [if_pos q]
theorem sp_may1_n {F : Nat → Int32} {lo hi : Int32} (h : ¬ sp_may1 F lo hi = 0) : F 24 = -6 ∧ ¬ F 27 = 1 ∧ ¬ F 7 = 0 ∧ (¬ F 23 = -6 ∨ F 26 = 1) := by
  unfold sp_may1 at h
  by_cases c1 : F 24 = -6
  · rw [if_pos c1] at h
    by_cases c2 : F 27 = 1
    · rw [if_pos c2] at h
      exact absurd rfl h
    · rw [if_neg c2] at h
      by_cases c3 : F 7 = 0
      · rw [if_pos c3] at h
        exact absurd rfl h
      · rw [if_neg c3] at h
        refine ⟨c1, c2, c3, ?_⟩
        by_cases c4 : sp_bits lo < 2
        · rw [if_pos c4] at h
          exact absurd rfl h
        · rw [if_neg c4] at h
          by_cases c5 : sp_hf F 0 = 0
          · rw [if_pos c5] at h
            by_cases c6 : F 26 = 1
            · exact Or.inr c6
            · rw [if_neg c6] at h
              exact absurd rfl h
          · exact Or.inl (sp_hf_n c5)
  · rw [if_neg c1] at h
    exact absurd rfl h
theorem sp_may2_n {F : Nat → Int32} {lo hi : Int32} (h : ¬ sp_may2 F lo hi = 0) : F 25 = -6 ∧ ¬ F 28 = 1 ∧ ¬ F 7 = 0 ∧ ¬ F 24 = -6 := by
  unfold sp_may2 at h
  by_cases c1 : F 25 = -6
  · rw [if_pos c1] at h
    by_cases c2 : F 28 = 1
    · rw [if_pos c2] at h
      exact absurd rfl h
    · rw [if_neg c2] at h
      by_cases c3 : F 7 = 0
      · rw [if_pos c3] at h
        exact absurd rfl h
      · rw [if_neg c3] at h
        refine ⟨c1, c2, c3, ?_⟩
        by_cases c4 : sp_bits hi < 2
        · rw [if_pos c4] at h
          exact absurd rfl h
        · rw [if_neg c4] at h
          by_cases c5 : sp_hf F 1 = 0
          · rw [if_pos c5] at h
            exact absurd rfl h
          · exact sp_hf_n (s := 1) c5
  · rw [if_neg c1] at h
    exact absurd rfl h
/-- the stages of a tick -/
def lw_Y (f F : Nat → Int32) (fi nm : Int32) (y0 y1 y2 : Int32) : Prop := fi = pj_pk (ck_n y0 0 1) (ck_n y1 0 1) (ck_n y2 0 1) ∧ F 23 = ck_n y0 (f 23) nm ∧ F 24 = ck_n y1 (f 24) nm ∧ F 25 = ck_n y2 (f 25) nm ∧ (¬ y0 = 0 → f 23 = -6 ∧ ¬ f 26 = 1 ∧ ¬ F 7 = 0) ∧ (¬ y1 = 0 → f 24 = -6 ∧ ¬ f 27 = 1 ∧ ¬ F 7 = 0 ∧ (¬ F 23 = -6 ∨ f 26 = 1)) ∧ (¬ y2 = 0 → f 25 = -6 ∧ ¬ f 28 = 1 ∧ ¬ F 7 = 0 ∧ ¬ F 24 = -6)
theorem lw_f3 {F : Nat → Int32} {lo hi : Int32} : ∃ y0 y1 y2, lw_Y F (sp_f3 F lo hi) (sp_fires F lo hi) (F 6) y0 y1 y2 := by
  have n1 : ∀ k, k ≠ 23 → sp_f1 F lo hi k = F k := fun k hk => sp_fr_ne (by omega)
  have n2 : ∀ k, k ≠ 23 → k ≠ 24 → sp_f2 F lo hi k = F k := fun k hk hk2 => (sp_fr_ne (by omega)).trans (n1 k hk)
  have a1 : sp_f1 F lo hi 23 = ck_n (sp_may0 F lo hi) (F 23) (F 6) := sp_fr_at (k := 0)
  have a2 : sp_f2 F lo hi 24 = ck_n (sp_may1 (sp_f1 F lo hi) lo hi) (F 24) (F 6) := by
    refine (sp_fr_at (k := 1)).trans ?_
    rw [n1 (23 + 1) (by decide), n1 6 (by decide)]
  have a3 : sp_f3 F lo hi 25 = ck_n (sp_may2 (sp_f2 F lo hi) lo hi) (F 25) (F 6) := by
    refine (sp_fr_at (k := 2)).trans ?_
    rw [n2 (23 + 2) (by decide) (by decide), n2 6 (by decide) (by decide)]
  have b1 : sp_f3 F lo hi 23 = sp_f1 F lo hi 23 := (sp_fr_ne (by omega)).trans (sp_fr_ne (by omega))
  have b2 : sp_f3 F lo hi 24 = sp_f2 F lo hi 24 := sp_fr_ne (by omega)
  have b7 : sp_f3 F lo hi 7 = F 7 := sp_f3_ne (by omega)
  refine ⟨sp_may0 F lo hi, sp_may1 (sp_f1 F lo hi) lo hi, sp_may2 (sp_f2 F lo hi) lo hi, sp_fires_pk, b1.trans a1, b2.trans a2, a3, fun h => ?_, fun h => ?_, fun h => ?_⟩
  · rw [b7]
    exact sp_may0_n h
  · have := sp_may1_n h
    rw [n1 24 (by decide), n1 27 (by decide), n1 7 (by decide), n1 26 (by decide), ← b1] at this
    rw [b7]
    exact this
  · have := sp_may2_n h
    rw [n2 25 (by decide) (by decide), n2 28 (by decide) (by decide), n2 7 (by decide) (by decide), ← b2] at this
    rw [b7]
    exact this
theorem lw_tick_y {f g : Nat → Int32} {c : Int32} {n : Nat} (hn : n ≤ 12) (hr : f 30 = nI n) : ∃ y0 y1 y2, lw_Y f (sp_tick f g c) (tk_fi f g c) (f 6) y0 y1 y2 := by
  obtain ⟨y0, y1, y2, h1, h2, h3, h4, h5, h6, h7⟩ := lw_f3 (F := tk_5 f g c) (lo := tk_lo f g c) (hi := tk_hi f g c)
  have e : ∀ k, k < 30 → k ≠ 6 → k ≠ 29 → sp_tick f g c k = sp_f3 (tk_5 f g c) (tk_lo f g c) (tk_hi f g c) k := fun k a b d => sp_tick_hi hn hr (Or.inl a) b d
  have n5 : ∀ k, k < 7 ∨ 22 < k → tk_5 f g c k = f k := fun k hk => tk_5_ne hk
  rw [n5 23 (by decide), n5 6 (by decide)] at h2
  rw [n5 24 (by decide), n5 6 (by decide)] at h3
  rw [n5 25 (by decide), n5 6 (by decide)] at h4
  rw [n5 23 (by decide), n5 26 (by decide)] at h5
  rw [n5 24 (by decide), n5 27 (by decide), n5 26 (by decide)] at h6
  rw [n5 25 (by decide), n5 28 (by decide)] at h7
  refine ⟨y0, y1, y2, h1, ?_, ?_, ?_, ?_, ?_, ?_⟩
  · rw [e 23 (by decide) (by decide) (by decide)]
    exact h2
  · rw [e 24 (by decide) (by decide) (by decide)]
    exact h3
  · rw [e 25 (by decide) (by decide) (by decide)]
    exact h4
  · rw [e 7 (by decide) (by decide) (by decide)]
    exact h5
  · rw [e 7 (by decide) (by decide) (by decide), e 23 (by decide) (by decide) (by decide)]
    exact h6
  · rw [e 7 (by decide) (by decide) (by decide), e 24 (by decide) (by decide) (by decide)]
    exact h7
theorem ck_n_0 {x z : Int32} : ck_n 0 x z = x := if_pos rfl
theorem ck_n_1 {y x z : Int32} (h : ¬ y = 0) : ck_n y x z = z := if_neg h
theorem lw_fi0 {y0 y1 y2 : Int32} : pj_pk (ck_n y0 0 1) (ck_n y1 0 1) (ck_n y2 0 1) = 0 ↔ y0 = 0 ∧ y1 = 0 ∧ y2 = 0 := by
  unfold ck_n
  by_cases h0 : y0 = 0 <;> by_cases h1 : y1 = 0 <;> by_cases h2 : y2 = 0 <;> simp only [h0, h1, h2, if_true, if_false, and_true, true_and, and_false, false_and, iff_true, iff_false] <;> decide
/-- the bits of a tick's stages: what is told of them -/
theorem lw_bits {z0 z1 z2 y0 y1 y2 c0 c1 c2 : Int32} (i0 : z0 = 0 ∨ z0 = 1) (i1 : z1 = 0 ∨ z1 = 1) (i2 : z2 = 0 ∨ z2 = 1) (j0 : y0 = 0 ∨ y0 = 1) (j1 : y1 = 0 ∨ y1 = 1) (j2 : y2 = 0 ∨ y2 = 1) (b0 : c0 = 0 ∨ c0 = 1) (b1 : c1 = 0 ∨ c1 = 1) (b2 : c2 = 0 ∨ c2 = 1) (h0 : y0 = 0 ∨ (z0 = 0 ∧ c0 = 0)) (h1 : y1 = 0 ∨ (z1 = 0 ∧ c1 = 0 ∧ (z0 = 1 ∨ y0 = 1 ∨ c0 = 1))) (h2 : y2 = 0 ∨ (z2 = 0 ∧ c2 = 0 ∧ (z1 = 1 ∨ y1 = 1))) :
    pj_pk z0 z1 z2 &&& pj_pk y0 y1 y2 = 0 ∧ pj_pk (z0 + y0) (z1 + y1) (z2 + y2) = pj_pk z0 z1 z2 ||| pj_pk y0 y1 y2 ∧ (pj_pk y0 y1 y2 &&& 4 = 0 ∨ ¬ pj_pk (z0 + y0) (z1 + y1) (z2 + y2) &&& 2 = 0) ∧ (pj_pk y0 y1 y2 &&& 2 = 0 ∨ ¬ pj_pk (z0 + y0) (z1 + y1) (z2 + y2) &&& 1 = 0 ∨ ¬ pj_pk c0 c1 c2 &&& 1 = 0) ∧ pj_pk y0 y1 y2 &&& pj_pk c0 c1 c2 = 0 := by
  rcases i0 with rfl | rfl <;> rcases i1 with rfl | rfl <;> rcases i2 with rfl | rfl <;> rcases j0 with rfl | rfl <;> rcases j1 with rfl | rfl <;> rcases j2 with rfl | rfl <;> rcases b0 with rfl | rfl <;> rcases b1 with rfl | rfl <;> rcases b2 with rfl | rfl <;> first | decide | (revert h0; decide) | (revert h1; decide) | (revert h2; decide)
def lw_z (v : Int32) : Int32 := if v = -6 then 0 else 1
theorem lw_z_01 {v : Int32} : lw_z v = 0 ∨ lw_z v = 1 := by
  unfold lw_z
  split
  · exact Or.inl rfl
  · exact Or.inr rfl
theorem sp_fired_z {f : Nat → Int32} : sp_fired f = pj_pk (lw_z (f 23)) (lw_z (f 24)) (lw_z (f 25)) := by
  unfold sp_fired sp_fb lw_z
  show ((0 : Int32) ||| (if f 23 = -6 then (0 : Int32) else 1 <<< ((0 : Int32) &&& 31)) ||| (if f 24 = -6 then (0 : Int32) else 1 <<< ((1 : Int32) &&& 31)) ||| (if f 25 = -6 then (0 : Int32) else 1 <<< ((2 : Int32) &&& 31))) = _
  by_cases h0 : f 23 = -6 <;> by_cases h1 : f 24 = -6 <;> by_cases h2 : f 25 = -6 <;> simp only [h0, h1, h2, if_true, if_false] <;> decide
theorem sp_fired_0 {f : Nat → Int32} : sp_fired f = 0 ↔ f 23 = -6 ∧ f 24 = -6 ∧ f 25 = -6 := by
  rw [sp_fired_z]
  unfold lw_z
  by_cases h0 : f 23 = -6 <;> by_cases h1 : f 24 = -6 <;> by_cases h2 : f 25 = -6 <;> simp only [h0, h1, h2, if_true, if_false, and_true, true_and, and_false, false_and, iff_true, iff_false] <;> decide
theorem lw_Y.ok {f F : Nat → Int32} {fi nm y0 y1 y2 : Int32} (h : lw_Y f F fi nm y0 y1 y2) (h6 : ¬ nm = -6) (hb : pj_b3 (f 26) (f 27) (f 28)) (hB : F 26 = f 26 ∧ F 27 = f 27 ∧ F 28 = f 28) :
    sp_fired f &&& fi = 0 ∧ sp_fired F = sp_fired f ||| fi ∧ (fi &&& 4 = 0 ∨ ¬ sp_fired F &&& 2 = 0) ∧ (fi &&& 2 = 0 ∨ ¬ sp_fired F &&& 1 = 0 ∨ ¬ sp_bar F &&& 1 = 0) ∧ fi &&& sp_bar F = 0 ∧ (fi = 0 ∨ ¬ F 7 = 0) := by
  obtain ⟨e, e0, e1, e2, k0, k1, k2⟩ := h
  obtain ⟨hb0, hb1, hb2⟩ := hb
  have eb : sp_bar F = pj_pk (f 26) (f 27) (f 28) := by
    unfold sp_bar
    rw [hB.1, hB.2.1, hB.2.2]
    rfl
  have u6 : (-6 : Int32) = -6 := rfl
  have zn : lw_z nm = 1 := if_neg h6
  have z6 : lw_z (-6) = 0 := if_pos rfl
  have z : ∀ {y v w : Int32}, w = ck_n y v nm → (¬ y = 0 → v = -6) → lw_z w = lw_z v + ck_n y 0 1 := by
    intro y v w q r
    subst q
    by_cases c : y = 0
    · subst c
      rw [ck_n_0, ck_n_0, Int32.add_zero]
    · rw [ck_n_1 c, ck_n_1 c, r c, zn, z6]
      rfl
  have n01 : ∀ {y : Int32}, ck_n y 0 1 = 0 ∨ ck_n y 0 1 = 1 := fun {y} => ck_n_01 (Or.inl rfl)
  have bz : ∀ {v : Int32}, (v = 0 ∨ v = 1) → ¬ v = 1 → v = 0 := fun a b => a.resolve_right b
  have zz : ∀ {v : Int32}, ¬ v = -6 → lw_z v = 1 := fun a => if_neg a
  have E := lw_bits (z0 := lw_z (f 23)) (z1 := lw_z (f 24)) (z2 := lw_z (f 25)) (y0 := ck_n y0 0 1) (y1 := ck_n y1 0 1) (y2 := ck_n y2 0 1) (c0 := f 26) (c1 := f 27) (c2 := f 28) lw_z_01 lw_z_01 lw_z_01 n01 n01 n01 hb0 hb1 hb2 ?_ ?_ ?_
  · rw [sp_fired_z, sp_fired_z, eb, e, z e0 (fun w => (k0 w).1), z e1 (fun w => (k1 w).1), z e2 (fun w => (k2 w).1)]
    refine ⟨E.1, E.2.1, E.2.2.1, E.2.2.2.1, E.2.2.2.2, ?_⟩
    by_cases c0 : y0 = 0
    · by_cases c1 : y1 = 0
      · by_cases c2 : y2 = 0
        · exact Or.inl (lw_fi0.mpr ⟨c0, c1, c2⟩)
        · exact Or.inr (k2 c2).2.2.1
      · exact Or.inr (k1 c1).2.2.1
    · exact Or.inr (k0 c0).2.2
  · by_cases c : y0 = 0
    · subst c
      exact Or.inl ck_n_0
    · exact Or.inr ⟨by rw [(k0 c).1, z6], bz hb0 (k0 c).2.1⟩
  · by_cases c : y1 = 0
    · subst c
      exact Or.inl ck_n_0
    · obtain ⟨q1, q2, -, q3⟩ := k1 c
      refine Or.inr ⟨by rw [q1, z6], bz hb1 q2, ?_⟩
      rcases q3 with q3 | q3
      · by_cases d : y0 = 0
        · subst d
          rw [ck_n_0] at e0
          rw [e0] at q3
          exact Or.inl (zz q3)
        · exact Or.inr (Or.inl (ck_n_1 d))
      · exact Or.inr (Or.inr q3)
  · by_cases c : y2 = 0
    · subst c
      exact Or.inl ck_n_0
    · obtain ⟨q1, q2, -, q3⟩ := k2 c
      refine Or.inr ⟨by rw [q1, z6], bz hb2 q2, ?_⟩
      by_cases d : y1 = 0
      · subst d
        rw [ck_n_0] at e1
        rw [e1] at q3
        exact Or.inl (zz q3)
      · exact Or.inr (ck_n_1 d)
/-- the middle is 0, or made of the accelerations -/
theorem pj_mx_P {P : Int32 → Prop} {a b : Int32} (ha : P a) (hb : P b) : P (pj_mx a b) := by
  unfold pj_mx
  split <;> assumption
theorem pj_mn_P {P : Int32 → Prop} {a b : Int32} (ha : P a) (hb : P b) : P (pj_mn a b) := by
  unfold pj_mn
  split <;> assumption
theorem ck_l_P {P : Int32 → Prop} {v a : Int32} {q : Int32 × Int32} (hq : P q.1) (ha : P a) : P (ck_l v a q).1 := by
  unfold ck_l
  by_cases c : v = 0
  · rw [if_pos c]
    exact hq
  · rw [if_neg c]
    show P (if q.2 = 0 then a else pj_mn q.1 a)
    by_cases d : q.2 = 0
    · rw [if_pos d]
      exact ha
    · rw [if_neg d]
      exact pj_mn_P hq ha
theorem ck_mid_P {P : Int32 → Prop} {v0 v1 v2 a0 a1 a2 : Int32} (h : P 0) (h0 : P a0) (h1 : P a1) (h2 : P a2) : P (ck_mid v0 v1 v2 a0 a1 a2) := by
  unfold ck_mid
  by_cases c : v0 = 1 ∧ v1 = 1 ∧ v2 = 1
  · rw [if_pos c]
    exact pj_mx_P (pj_mn_P h0 h1) (pj_mn_P (pj_mx_P h0 h1) h2)
  · rw [if_neg c]
    exact ck_l_P (ck_l_P (ck_l_P h h0) h1) h2
theorem lw_acc {x y : Int32} (hx : -500 ≤ x ∧ x ≤ 500) (hy : -500 ≤ y ∧ y ≤ 500) : -1000 ≤ (x - y).toInt ∧ (x - y).toInt ≤ 1000 := by
  have e5 : (500 : Int32).toInt = 500 := rfl
  have e6 : (-500 : Int32).toInt = -500 := rfl
  rw [Int32.le_iff_toInt_le, Int32.le_iff_toInt_le, e5, e6] at hx hy
  have es : (x - y).toInt = x.toInt - y.toInt := by
    rw [Int32.toInt_sub]
    apply Int.bmod_eq_of_le <;> omega
  rw [es]
  omega
theorem tk_m_in {f : Nat → Int32} {t : Nat} {x0 x1 x2 : Int32} (hR : pj_Ro f t) (hg : ∀ k, k < 3 → -500 ≤ pj_a3 x0 x1 x2 k ∧ pj_a3 x0 x1 x2 k ≤ 500) : ¬ tk_m f (pj_a3 x0 x1 x2) + 100000 < 98000 ∧ ¬ 102000 < tk_m f (pj_a3 x0 x1 x2) + 100000 := by
  obtain ⟨-, -, -, rv, -, -, -, -, r8, -⟩ := hR
  obtain ⟨i0, i1, i2⟩ := pj_pk_in hg
  have hb : pj_b3 (f 14) (f 15) (f 16) := ⟨rv 0 (by decide), rv 1 (by decide), rv 2 (by decide)⟩
  rw [tk_m_ck hb]
  have K := ck_mid_P (P := fun q => -1000 ≤ q.toInt ∧ q.toInt ≤ 1000) (v0 := ck_v f (pj_a3 x0 x1 x2) 0) (v1 := ck_v f (pj_a3 x0 x1 x2) 1) (v2 := ck_v f (pj_a3 x0 x1 x2) 2) (a0 := pj_a3 x0 x1 x2 0 - f 8) (a1 := pj_a3 x0 x1 x2 1 - f 9) (a2 := pj_a3 x0 x1 x2 2 - f 10) (by decide) (lw_acc i0 (r8 0 (by decide))) (lw_acc i1 (r8 1 (by decide))) (lw_acc i2 (r8 2 (by decide)))
  generalize ck_mid (ck_v f (pj_a3 x0 x1 x2) 0) (ck_v f (pj_a3 x0 x1 x2) 1) (ck_v f (pj_a3 x0 x1 x2) 2) (pj_a3 x0 x1 x2 0 - f 8) (pj_a3 x0 x1 x2 1 - f 9) (pj_a3 x0 x1 x2 2 - f 10) = q at K ⊢
  have K' : -1000 ≤ q.toInt ∧ q.toInt ≤ 1000 := K
  have e1 : (100000 : Int32).toInt = 100000 := rfl
  have e2 : (98000 : Int32).toInt = 98000 := rfl
  have e3 : (102000 : Int32).toInt = 102000 := rfl
  have es : (q + 100000).toInt = q.toInt + 100000 := by
    rw [Int32.toInt_add, e1]
    apply Int.bmod_eq_of_le <;> omega
  rw [Int32.lt_iff_toInt_lt, Int32.lt_iff_toInt_lt, es, e2, e3]
  omega
/-- votes are only lost -/
theorem lw_vot {w0 w1 w2 v0 v1 v2 : Int32} (hb : pj_b3 v0 v1 v2) (h0 : w0 = 0 ∨ w0 = v0) (h1 : w1 = 0 ∨ w1 = v1) (h2 : w2 = 0 ∨ w2 = v2) : pj_pk w0 w1 w2 &&& (pj_pk v0 v1 v2 ^^^ (-1)) = 0 := by
  obtain ⟨b0, b1, b2⟩ := hb
  rcases b0 with rfl | rfl <;> rcases b1 with rfl | rfl <;> rcases b2 with rfl | rfl <;> rcases h0 with rfl | rfl <;> rcases h1 with rfl | rfl <;> rcases h2 with rfl | rfl <;> decide
theorem ck_f_or {v0 v1 v2 v d x u : Int32} (h : v = 0 ∨ v = u) : ck_f v0 v1 v2 v d x = 0 ∨ ck_f v0 v1 v2 v d x = u := by
  unfold ck_f
  split
  · split
    · exact h
    · exact Or.inl rfl
  · exact h
theorem ck_v_or {f g : Nat → Int32} {k : Nat} : ck_v f g k = 0 ∨ ck_v f g k = f (14 + k) := by
  unfold ck_v
  split
  · exact Or.inr rfl
  · exact Or.inl rfl
theorem lw_votes {f : Nat → Int32} {t : Nat} {x0 x1 x2 c : Int32} (hR : pj_Ro f t) (hg : ∀ k, k < 3 → -500 ≤ pj_a3 x0 x1 x2 k ∧ pj_a3 x0 x1 x2 k ≤ 500) : sp_vot (sp_tick f (pj_a3 x0 x1 x2) c) &&& (sp_vot f ^^^ (-1)) = 0 := by
  have A := tk_all (c := c) hR hg rfl rfl rfl rfl rfl rfl rfl rfl rfl rfl rfl rfl rfl rfl rfl rfl rfl rfl rfl rfl rfl rfl rfl rfl rfl rfl
  obtain ⟨r0, ⟨m, hm, r30⟩, r6, rv, rb, r7, r2, rs, r8, r29⟩ := hR
  have bv : pj_b3 (f 14) (f 15) (f 16) := ⟨rv 0 (by decide), rv 1 (by decide), rv 2 (by decide)⟩
  obtain ⟨-, -, -, -, ⟨xw0, xw1, xw2⟩, -, -, -, -⟩ := A
  have n6 : ∀ k, k < 23 → k ≠ 6 → sp_tick f (pj_a3 x0 x1 x2) c k = tk_5 f (pj_a3 x0 x1 x2) c k := fun k h1 h2 => (sp_tick_hi hm r30 (Or.inl (by omega)) h2 (by omega)).trans (tk_6_5 (Or.inl h1))
  have e1 : sp_vot (sp_tick f (pj_a3 x0 x1 x2) c) = pj_pk (sp_tick f (pj_a3 x0 x1 x2) c 14) (sp_tick f (pj_a3 x0 x1 x2) c 15) (sp_tick f (pj_a3 x0 x1 x2) c 16) := rfl
  have e2 : sp_vot f = pj_pk (f 14) (f 15) (f 16) := rfl
  rw [e1, e2, n6 14 (by decide) (by decide), n6 15 (by decide) (by decide), n6 16 (by decide) (by decide), xw0, xw1, xw2]
  exact lw_vot bv (ck_f_or ck_v_or) (ck_f_or ck_v_or) (ck_f_or ck_v_or)
