/-! BRIDGES: a whole tick -/
section T14
variable {ic b0 b1 b2 c : Int32} {f : Nat → Int32} {v0 v1 v2 s0 s1 s2 a0 a1 a2 md w0 w1 w2 o0 o1 o2 p0 p1 p2 ar l0 l1 l2 h0 h1 h2 : Int32}
theorem tk_all {t : Nat} (hR : pj_Ro f t) (hg : ∀ k, k < 3 → -500 ≤ pj_a3 b0 b1 b2 k ∧ pj_a3 b0 b1 b2 k ≤ 500)
    (hv0 : ck_v f (pj_a3 b0 b1 b2) 0 = v0) (hv1 : ck_v f (pj_a3 b0 b1 b2) 1 = v1) (hv2 : ck_v f (pj_a3 b0 b1 b2) 2 = v2) (hs0 : ck_s f (pj_a3 b0 b1 b2) 0 = s0) (hs1 : ck_s f (pj_a3 b0 b1 b2) 1 = s1) (hs2 : ck_s f (pj_a3 b0 b1 b2) 2 = s2) (ha0 : b0 - f 8 = a0) (ha1 : b1 - f 9 = a1) (ha2 : b2 - f 10 = a2) (hmd : ck_mid v0 v1 v2 a0 a1 a2 = md) (hw0 : ck_f v0 v1 v2 v0 (a0 - md) (f 4) = w0) (hw1 : ck_f v0 v1 v2 v1 (a1 - md) (f 4) = w1) (hw2 : ck_f v0 v1 v2 v2 (a2 - md) (f 4) = w2) (ho0 : ck_o (ck_q md c) w0 (f 8) b0 = o0) (ho1 : ck_o (ck_q md c) w1 (f 9) b1 = o1) (ho2 : ck_o (ck_q md c) w2 (f 10) b2 = o2) (hp0 : ck_sp (f 11) a0 = p0) (hp1 : ck_sp (f 12) a1 = p1) (hp2 : ck_sp (f 13) a2 = p2) (har : (if c = 0 then pj_mx (f 7 - 1) 0 else f 2) = ar) (hl0 : ck_w w0 p0 (f 0) = l0) (hl1 : ck_w w1 p1 (f 0) = l1) (hl2 : ck_w w2 p2 (f 0) = l2) (hh0 : ck_w w0 p0 (f 1) = h0) (hh1 : ck_w w1 p1 (f 1) = h1) (hh2 : ck_w w2 p2 (f 1) = h2) :
    tk_m f (pj_a3 b0 b1 b2) = md ∧ tk_5 f (pj_a3 b0 b1 b2) c 7 = ar ∧ (tk_5 f (pj_a3 b0 b1 b2) c 8 = o0 ∧ tk_5 f (pj_a3 b0 b1 b2) c 9 = o1 ∧ tk_5 f (pj_a3 b0 b1 b2) c 10 = o2) ∧ (tk_5 f (pj_a3 b0 b1 b2) c 11 = p0 ∧ tk_5 f (pj_a3 b0 b1 b2) c 12 = p1 ∧ tk_5 f (pj_a3 b0 b1 b2) c 13 = p2) ∧ (tk_5 f (pj_a3 b0 b1 b2) c 14 = w0 ∧ tk_5 f (pj_a3 b0 b1 b2) c 15 = w1 ∧ tk_5 f (pj_a3 b0 b1 b2) c 16 = w2) ∧ (tk_5 f (pj_a3 b0 b1 b2) c 17 = s0 ∧ tk_5 f (pj_a3 b0 b1 b2) c 18 = s1 ∧ tk_5 f (pj_a3 b0 b1 b2) c 19 = s2) ∧ (tk_5 f (pj_a3 b0 b1 b2) c 20 = b0 ∧ tk_5 f (pj_a3 b0 b1 b2) c 21 = b1 ∧ tk_5 f (pj_a3 b0 b1 b2) c 22 = b2) ∧ tk_lo f (pj_a3 b0 b1 b2) c = pj_pk l0 l1 l2 ∧ tk_hi f (pj_a3 b0 b1 b2) c = pj_pk h0 h1 h2 := by
  obtain ⟨-, -, -, rv, rb, r7, -, -, r8, -⟩ := hR
  have hb : pj_b3 (f 14) (f 15) (f 16) := ⟨rv 0 (by decide), rv 1 (by decide), rv 2 (by decide)⟩
  have kv : pj_b3 v0 v1 v2 := ⟨hv0 ▸ ck_v_01 hb.1, hv1 ▸ ck_v_01 hb.2.1, hv2 ▸ ck_v_01 hb.2.2⟩
  have kw : pj_b3 w0 w1 w2 := ⟨hw0 ▸ ck_f_01 kv.1, hw1 ▸ ck_f_01 kv.2.1, hw2 ▸ ck_f_01 kv.2.2⟩
  have em : tk_m f (pj_a3 b0 b1 b2) = md := by
    rw [tk_m_ck hb, hv0, hv1, hv2, pj_a3_0, pj_a3_1, pj_a3_2, ha0, ha1, ha2, hmd]
  have n2_1 : ∀ k, k < 14 ∨ 16 < k → tk_2 f (pj_a3 b0 b1 b2) k = sp_T1 f (pj_a3 b0 b1 b2) k := fun k hk => sp_T2_ne hk
  have n3_2 : ∀ k, k < 8 ∨ 10 < k → tk_3 f (pj_a3 b0 b1 b2) c k = tk_2 f (pj_a3 b0 b1 b2) k := fun k hk => sp_T3_ne hk
  have n4_3 : ∀ k, k < 11 ∨ 13 < k → tk_4 f (pj_a3 b0 b1 b2) c k = tk_3 f (pj_a3 b0 b1 b2) c k := fun k hk => sp_T4_ne hk
  have n5_4 : ∀ k, k ≠ 7 → tk_5 f (pj_a3 b0 b1 b2) c k = tk_4 f (pj_a3 b0 b1 b2) c k := by
    intro k hk
    unfold tk_5
    rw [pj_upd_ap, if_neg hk]
  have e2 := sp_T2_ck (F := sp_T1 f (pj_a3 b0 b1 b2)) (a := tk_A f (pj_a3 b0 b1 b2)) (m := tk_m f (pj_a3 b0 b1 b2)) (by rw [sp_T1_v0, sp_T1_v1, sp_T1_v2, hv0, hv1, hv2]; exact kv)
  rw [sp_T1_v0, sp_T1_v1, sp_T1_v2, hv0, hv1, hv2, tk_A_0, tk_A_1, tk_A_2, em, sp_T1_ne (k := 4) (by omega), pj_a3_0, pj_a3_1, pj_a3_2, ha0, ha1, ha2, hw0, hw1, hw2] at e2
  have w2_0 : tk_2 f (pj_a3 b0 b1 b2) 14 = w0 := by unfold tk_2; rw [em]; exact e2.1
  have w2_1 : tk_2 f (pj_a3 b0 b1 b2) 15 = w1 := by unfold tk_2; rw [em]; exact e2.2.1
  have w2_2 : tk_2 f (pj_a3 b0 b1 b2) 16 = w2 := by unfold tk_2; rw [em]; exact e2.2.2
  have lo2 : ∀ k, k < 14 → tk_2 f (pj_a3 b0 b1 b2) k = f k := fun k hk => (n2_1 k (Or.inl hk)).trans (sp_T1_ne (Or.inl hk))
  have e3 := sp_T3_ck (F := tk_2 f (pj_a3 b0 b1 b2)) (g := pj_a3 b0 b1 b2) (m := tk_m f (pj_a3 b0 b1 b2)) (c := c) (by
    intro k hk
    have : k = 0 ∨ k = 1 ∨ k = 2 := by omega
    rcases this with q | q | q <;> subst q
    · rw [w2_0]; exact kw.1
    · rw [w2_1]; exact kw.2.1
    · rw [w2_2]; exact kw.2.2) (by
    intro k hk
    rw [lo2 (8 + k) (by omega)]
    exact r8 k hk) hg
  have o3_0 : tk_3 f (pj_a3 b0 b1 b2) c 8 = o0 := by
    refine (e3 0 (by decide)).trans ?_
    rw [lo2 (8 + 0) (by decide), em, w2_0, pj_a3_0]
    exact ho0
  have o3_1 : tk_3 f (pj_a3 b0 b1 b2) c 9 = o1 := by
    refine (e3 1 (by decide)).trans ?_
    rw [lo2 (8 + 1) (by decide), em, w2_1, pj_a3_1]
    exact ho1
  have o3_2 : tk_3 f (pj_a3 b0 b1 b2) c 10 = o2 := by
    refine (e3 2 (by decide)).trans ?_
    rw [lo2 (8 + 2) (by decide), em, w2_2, pj_a3_2]
    exact ho2
  have e4 := sp_T4_ck (F := tk_3 f (pj_a3 b0 b1 b2) c) (a := tk_A f (pj_a3 b0 b1 b2))
  rw [n3_2 11 (by decide), n3_2 12 (by decide), n3_2 13 (by decide), lo2 11 (by decide), lo2 12 (by decide), lo2 13 (by decide), tk_A_0, tk_A_1, tk_A_2, pj_a3_0, pj_a3_1, pj_a3_2, ha0, ha1, ha2, hp0, hp1, hp2] at e4
  have lo4 : ∀ k, k < 8 → tk_4 f (pj_a3 b0 b1 b2) c k = f k := fun k hk => (n4_3 k (by omega)).trans ((n3_2 k (by omega)).trans (lo2 k (by omega)))
  have x7 : tk_5 f (pj_a3 b0 b1 b2) c 7 = ar := by
    unfold tk_5
    rw [pj_upd_ap, if_pos rfl]
    unfold sp_left
    rw [lo4 7 (by decide), lo4 2 (by decide), sp_left_ck r7]
    exact har
  have y0 : tk_5 f (pj_a3 b0 b1 b2) c 11 = p0 := (n5_4 11 (by decide)).trans e4.1
  have y1 : tk_5 f (pj_a3 b0 b1 b2) c 12 = p1 := (n5_4 12 (by decide)).trans e4.2.1
  have y2 : tk_5 f (pj_a3 b0 b1 b2) c 13 = p2 := (n5_4 13 (by decide)).trans e4.2.2
  have z0 : tk_5 f (pj_a3 b0 b1 b2) c 14 = w0 := (n5_4 14 (by decide)).trans ((n4_3 14 (by decide)).trans ((n3_2 14 (by decide)).trans w2_0))
  have z1 : tk_5 f (pj_a3 b0 b1 b2) c 15 = w1 := (n5_4 15 (by decide)).trans ((n4_3 15 (by decide)).trans ((n3_2 15 (by decide)).trans w2_1))
  have z2 : tk_5 f (pj_a3 b0 b1 b2) c 16 = w2 := (n5_4 16 (by decide)).trans ((n4_3 16 (by decide)).trans ((n3_2 16 (by decide)).trans w2_2))
  have hi1 : ∀ k, 16 < k → tk_5 f (pj_a3 b0 b1 b2) c k = sp_T1 f (pj_a3 b0 b1 b2) k := fun k hk => (n5_4 k (by omega)).trans ((n4_3 k (by omega)).trans ((n3_2 k (by omega)).trans (n2_1 k (by omega))))
  refine ⟨em, x7, ⟨?_, ?_, ?_⟩, ⟨y0, y1, y2⟩, ⟨z0, z1, z2⟩, ⟨?_, ?_, ?_⟩, ⟨?_, ?_, ?_⟩, ?_, ?_⟩
  · exact (n5_4 8 (by decide)).trans ((n4_3 8 (by decide)).trans o3_0)
  · exact (n5_4 9 (by decide)).trans ((n4_3 9 (by decide)).trans o3_1)
  · exact (n5_4 10 (by decide)).trans ((n4_3 10 (by decide)).trans o3_2)
  · rw [hi1 17 (by decide), sp_T1_s0, hs0]
  · rw [hi1 18 (by decide), sp_T1_s1, hs1]
  · rw [hi1 19 (by decide), sp_T1_s2, hs2]
  · rw [hi1 20 (by decide), sp_T1_r0, pj_a3_0]
  · rw [hi1 21 (by decide), sp_T1_r1, pj_a3_1]
  · rw [hi1 22 (by decide), sp_T1_r2, pj_a3_2]
  · unfold tk_lo
    rw [sp_vof_ck (by rw [z0, z1, z2]; exact kw), z0, z1, z2, y0, y1, y2, tk_5_ne (by omega), hl0, hl1, hl2]
  · unfold tk_hi
    rw [sp_vof_ck (by rw [z0, z1, z2]; exact kw), z0, z1, z2, y0, y1, y2, tk_5_ne (by omega), hh0, hh1, hh2]
end T14
