/-! THE ORDER OF THE SENSORS: a tick, on both sides -/
theorem tk_6_7 {f g : Nat → Int32} {c : Int32} : tk_6 f g c 7 = tk_5 f g c 7 := tk_6_5 (Or.inl (by decide))
theorem lw_nm (v : Int32) : ∃ w, v = w := ⟨v, rfl⟩
theorem pj_pk_in {x0 x1 x2 : Int32} (h : ∀ k, k < 3 → -500 ≤ pj_a3 x0 x1 x2 k ∧ pj_a3 x0 x1 x2 k ≤ 500) : (-500 ≤ x0 ∧ x0 ≤ 500) ∧ (-500 ≤ x1 ∧ x1 ≤ 500) ∧ (-500 ≤ x2 ∧ x2 ≤ 500) := ⟨h 0 (by decide), h 1 (by decide), h 2 (by decide)⟩
theorem pj_in_pk {x0 x1 x2 : Int32} (h0 : -500 ≤ x0 ∧ x0 ≤ 500) (h1 : -500 ≤ x1 ∧ x1 ≤ 500) (h2 : -500 ≤ x2 ∧ x2 ≤ 500) : ∀ k, k < 3 → -500 ≤ pj_a3 x0 x1 x2 k ∧ pj_a3 x0 x1 x2 k ≤ 500 := by
  intro k hk
  rcases lw_k3 hk with e | e | e <;> subst e
  · exact h0
  · exact h1
  · exact h2
/-- behind the sums: the stages, the recorder, the numbers -/
theorem lw_R.last {b n : Nat} {f f' g g' : Nat → Int32} {c : Int32} (hn : n ≤ 12) (h30 : f 30 = nI n) (h : lw_R b (tk_6 f g c) (tk_6 f' g' c)) (hm : tk_m f' g' = tk_m f g) (hfi : tk_fi f' g' c = tk_fi f g c) (hlo : tk_lo f' g' c = lw_set b (tk_lo f g c)) (hhi : tk_hi f' g' c = lw_set b (tk_hi f g c)) : lw_R b (sp_tick f g c) (sp_tick f' g' c) := by
  have e30 : tk_6 f g c 30 = nI n := by
    rw [tk_6_ne (by omega)]
    exact h30
  have h7 : lw_R b (tk_7 f g c) (tk_7 f' g' c) := by
    unfold tk_7
    rw [hm, hfi]
    exact lw_R.recs hn e30 h hlo hhi
  have h8 : lw_R b (tk_8 f g c) (tk_8 f' g' c) := by
    unfold tk_8
    rw [hfi, h7.2.1 29 (by decide) (by decide), h7.1 6 (by decide)]
    exact lw_R.row h7 (Or.inr (by decide))
  unfold sp_tick
  rw [h8.1 6 (by decide)]
  exact lw_R.row h8 (Or.inl (by decide))
theorem lw_sum_0 {x0 x1 x2 : Int32} (h : pj_b3 x0 x1 x2) : x0 + x1 + x2 = x0 + x1 + x2 := by
  obtain ⟨h0, h1, h2⟩ := h
  rcases h0 with rfl | rfl <;> rcases h1 with rfl | rfl <;> rcases h2 with rfl | rfl <;> decide
theorem lw_tick_0 {f f' : Nat → Int32} {t t' : Nat} {x0 x1 x2 c : Int32} (hR : pj_Ro f t) (hR' : pj_Ro f' t') (hg : ∀ k, k < 3 → -500 ≤ pj_a3 x0 x1 x2 k ∧ pj_a3 x0 x1 x2 k ≤ 500) (h : lw_R 0 f f') : lw_R 0 (sp_tick f (pj_a3 x0 x1 x2) c) (sp_tick f' (pj_a3 x0 x1 x2) c) ∧ tk_fi f' (pj_a3 x0 x1 x2) c = tk_fi f (pj_a3 x0 x1 x2) c ∧ tk_m f' (pj_a3 x0 x1 x2) = tk_m f (pj_a3 x0 x1 x2) := by
  obtain ⟨hs, hu, hq, hr⟩ := h
  obtain ⟨i0, i1, i2⟩ := pj_pk_in hg
  have hg' : ∀ k, k < 3 → -500 ≤ pj_a3 x0 x1 x2 k ∧ pj_a3 x0 x1 x2 k ≤ 500 := pj_in_pk i0 i1 i2
  have th0 : lw_th 0 0 = 0 := by decide
  have th1 : lw_th 0 1 = 1 := by decide
  have th2 : lw_th 0 2 = 2 := by decide
  have e8 : f' 8 = f 8 := by
    have q := hq 0 0 (by decide) (by decide)
    rw [th0] at q
    exact q
  have e9 : f' 9 = f 9 := by
    have q := hq 0 1 (by decide) (by decide)
    rw [th1] at q
    exact q
  have e10 : f' 10 = f 10 := by
    have q := hq 0 2 (by decide) (by decide)
    rw [th2] at q
    exact q
  have e11 : f' 11 = f 11 := by
    have q := hq 1 0 (by decide) (by decide)
    rw [th0] at q
    exact q
  have e12 : f' 12 = f 12 := by
    have q := hq 1 1 (by decide) (by decide)
    rw [th1] at q
    exact q
  have e13 : f' 13 = f 13 := by
    have q := hq 1 2 (by decide) (by decide)
    rw [th2] at q
    exact q
  have e14 : f' 14 = f 14 := by
    have q := hq 2 0 (by decide) (by decide)
    rw [th0] at q
    exact q
  have e15 : f' 15 = f 15 := by
    have q := hq 2 1 (by decide) (by decide)
    rw [th1] at q
    exact q
  have e16 : f' 16 = f 16 := by
    have q := hq 2 2 (by decide) (by decide)
    rw [th2] at q
    exact q
  have e17 : f' 17 = f 17 := by
    have q := hq 3 0 (by decide) (by decide)
    rw [th0] at q
    exact q
  have e18 : f' 18 = f 18 := by
    have q := hq 3 1 (by decide) (by decide)
    rw [th1] at q
    exact q
  have e19 : f' 19 = f 19 := by
    have q := hq 3 2 (by decide) (by decide)
    rw [th2] at q
    exact q
  have e20 : f' 20 = f 20 := by
    have q := hq 4 0 (by decide) (by decide)
    rw [th0] at q
    exact q
  have e21 : f' 21 = f 21 := by
    have q := hq 4 1 (by decide) (by decide)
    rw [th1] at q
    exact q
  have e22 : f' 22 = f 22 := by
    have q := hq 4 2 (by decide) (by decide)
    rw [th2] at q
    exact q
  have hRR := hR
  obtain ⟨-, ⟨n, hn, h30⟩, -, rv, -⟩ := hRR
  have hb : pj_b3 (f 14) (f 15) (f 16) := ⟨rv 0 (by decide), rv 1 (by decide), rv 2 (by decide)⟩
  obtain ⟨v0, hv0⟩ := lw_nm (ck_v f (pj_a3 x0 x1 x2) 0)
  obtain ⟨v1, hv1⟩ := lw_nm (ck_v f (pj_a3 x0 x1 x2) 1)
  obtain ⟨v2, hv2⟩ := lw_nm (ck_v f (pj_a3 x0 x1 x2) 2)
  obtain ⟨s0, hs0⟩ := lw_nm (ck_s f (pj_a3 x0 x1 x2) 0)
  obtain ⟨s1, hs1⟩ := lw_nm (ck_s f (pj_a3 x0 x1 x2) 1)
  obtain ⟨s2, hs2⟩ := lw_nm (ck_s f (pj_a3 x0 x1 x2) 2)
  obtain ⟨a0, ha0⟩ := lw_nm (x0 - f 8)
  obtain ⟨a1, ha1⟩ := lw_nm (x1 - f 9)
  obtain ⟨a2, ha2⟩ := lw_nm (x2 - f 10)
  obtain ⟨md, hmd⟩ := lw_nm (ck_mid v0 v1 v2 a0 a1 a2)
  obtain ⟨w0, hw0⟩ := lw_nm (ck_f v0 v1 v2 v0 (a0 - md) (f 4))
  obtain ⟨w1, hw1⟩ := lw_nm (ck_f v0 v1 v2 v1 (a1 - md) (f 4))
  obtain ⟨w2, hw2⟩ := lw_nm (ck_f v0 v1 v2 v2 (a2 - md) (f 4))
  obtain ⟨o0, ho0⟩ := lw_nm (ck_o (ck_q md c) w0 (f 8) x0)
  obtain ⟨o1, ho1⟩ := lw_nm (ck_o (ck_q md c) w1 (f 9) x1)
  obtain ⟨o2, ho2⟩ := lw_nm (ck_o (ck_q md c) w2 (f 10) x2)
  obtain ⟨p0, hp0⟩ := lw_nm (ck_sp (f 11) a0)
  obtain ⟨p1, hp1⟩ := lw_nm (ck_sp (f 12) a1)
  obtain ⟨p2, hp2⟩ := lw_nm (ck_sp (f 13) a2)
  obtain ⟨ar, har⟩ := lw_nm (if c = 0 then pj_mx (f 7 - 1) 0 else f 2)
  obtain ⟨l0, hl0⟩ := lw_nm (ck_w w0 p0 (f 0))
  obtain ⟨l1, hl1⟩ := lw_nm (ck_w w1 p1 (f 0))
  obtain ⟨l2, hl2⟩ := lw_nm (ck_w w2 p2 (f 0))
  obtain ⟨h0, hh0⟩ := lw_nm (ck_w w0 p0 (f 1))
  obtain ⟨h1, hh1⟩ := lw_nm (ck_w w1 p1 (f 1))
  obtain ⟨h2, hh2⟩ := lw_nm (ck_w w2 p2 (f 1))
  have kv : pj_b3 v0 v1 v2 := ⟨hv0 ▸ ck_v_01 hb.1, hv1 ▸ ck_v_01 hb.2.1, hv2 ▸ ck_v_01 hb.2.2⟩
  have kl : pj_b3 l0 l1 l2 := ⟨hl0 ▸ ck_w_01, hl1 ▸ ck_w_01, hl2 ▸ ck_w_01⟩
  have kh : pj_b3 h0 h1 h2 := ⟨hh0 ▸ ck_w_01, hh1 ▸ ck_w_01, hh2 ▸ ck_w_01⟩
  obtain ⟨m1, x7, ⟨y8, y9, y10⟩, ⟨y11, y12, y13⟩, ⟨y14, y15, y16⟩, ⟨y17, y18, y19⟩, ⟨y20, y21, y22⟩, z1, z2⟩ := tk_all (c := c) hR hg hv0 hv1 hv2 hs0 hs1 hs2 ha0 ha1 ha2 hmd hw0 hw1 hw2 ho0 ho1 ho2 hp0 hp1 hp2 har hl0 hl1 hl2 hh0 hh1 hh2
  obtain ⟨m1', x7', ⟨y8', y9', y10'⟩, ⟨y11', y12', y13'⟩, ⟨y14', y15', y16'⟩, ⟨y17', y18', y19'⟩, ⟨y20', y21', y22'⟩, z1', z2'⟩ := tk_all (f := f') (c := c) (v0 := v0) (v1 := v1) (v2 := v2) (s0 := s0) (s1 := s1) (s2 := s2) (a0 := a0) (a1 := a1) (a2 := a2) (w0 := w0) (w1 := w1) (w2 := w2) (o0 := o0) (o1 := o1) (o2 := o2) (p0 := p0) (p1 := p1) (p2 := p2) (l0 := l0) (l1 := l1) (l2 := l2) (h0 := h0) (h1 := h1) (h2 := h2) (md := md) (ar := ar) hR' hg' (by
    rw [← hv0]
    show (if sp_same (f' 17) (f' 20) x0 < f' 3 then f' 14 else 0) = (if sp_same (f 17) (f 20) x0 < f 3 then f 14 else 0)
    rw [e17, e20, e14, hs 3 (by decide)]) (by
    rw [← hv1]
    show (if sp_same (f' 18) (f' 21) x1 < f' 3 then f' 15 else 0) = (if sp_same (f 18) (f 21) x1 < f 3 then f 15 else 0)
    rw [e18, e21, e15, hs 3 (by decide)]) (by
    rw [← hv2]
    show (if sp_same (f' 19) (f' 22) x2 < f' 3 then f' 16 else 0) = (if sp_same (f 19) (f 22) x2 < f 3 then f 16 else 0)
    rw [e19, e22, e16, hs 3 (by decide)]) (by
    rw [← hs0]
    show sp_same (f' 17) (f' 20) x0 = sp_same (f 17) (f 20) x0
    rw [e17, e20]) (by
    rw [← hs1]
    show sp_same (f' 18) (f' 21) x1 = sp_same (f 18) (f 21) x1
    rw [e18, e21]) (by
    rw [← hs2]
    show sp_same (f' 19) (f' 22) x2 = sp_same (f 19) (f 22) x2
    rw [e19, e22]) (by rw [e8]; exact ha0) (by rw [e9]; exact ha1) (by rw [e10]; exact ha2) ((ck_mid_p0 kv).trans hmd) (by rw [hs 4 (by decide)]; exact ck_f_p0.trans hw0) (by rw [hs 4 (by decide)]; exact ck_f_p0.trans hw1) (by rw [hs 4 (by decide)]; exact ck_f_p0.trans hw2) (by rw [e8]; exact ho0) (by rw [e9]; exact ho1) (by rw [e10]; exact ho2) (by rw [e11]; exact hp0) (by rw [e12]; exact hp1) (by rw [e13]; exact hp2) (by rw [hs 7 (by decide), hs 2 (by decide)]; exact har) (by rw [hs 0 (by decide)]; exact hl0) (by rw [hs 0 (by decide)]; exact hl1) (by rw [hs 0 (by decide)]; exact hl2) (by rw [hs 1 (by decide)]; exact hh0) (by rw [hs 1 (by decide)]; exact hh1) (by rw [hs 1 (by decide)]; exact hh2)
  have hA : lw_A (tk_5 f (pj_a3 x0 x1 x2) c) (tk_5 f' (pj_a3 x0 x1 x2) c) := by
    intro j hj
    by_cases c7 : j = 7
    · subst c7
      rw [x7, x7']
    · rw [tk_5_ne (by omega), tk_5_ne (by omega)]
      by_cases c8 : j < 8
      · exact hs j c8
      · exact hu j (by omega) (by omega)
  have bl : sp_bits (tk_lo f' (pj_a3 x0 x1 x2) c) = sp_bits (tk_lo f (pj_a3 x0 x1 x2) c) := by
    rw [z1, z1']
  have bh : sp_bits (tk_hi f' (pj_a3 x0 x1 x2) c) = sp_bits (tk_hi f (pj_a3 x0 x1 x2) c) := by
    rw [z2, z2']
  have elo : tk_lo f' (pj_a3 x0 x1 x2) c = lw_set 0 (tk_lo f (pj_a3 x0 x1 x2) c) := by
    rw [z1, z1', lw_set_pk_0 kl]
  have ehi : tk_hi f' (pj_a3 x0 x1 x2) c = lw_set 0 (tk_hi f (pj_a3 x0 x1 x2) c) := by
    rw [z2, z2', lw_set_pk_0 kh]
  obtain ⟨h3, hfi⟩ := hA.f3 bl bh
  have hfi' : tk_fi f' (pj_a3 x0 x1 x2) c = tk_fi f (pj_a3 x0 x1 x2) c := hfi
  have h3' : lw_A (tk_6 f (pj_a3 x0 x1 x2) c) (tk_6 f' (pj_a3 x0 x1 x2) c) := h3
  refine ⟨lw_R.last hn h30 ?_ (m1'.trans m1.symm) hfi' elo ehi, hfi', m1'.trans m1.symm⟩
  refine ⟨fun j hj => ?_, fun j hj hj2 => ?_, fun i k hi hk => ?_, fun i hi => ?_⟩
  · by_cases c7 : j = 7
    · subst c7
      rw [tk_6_7, tk_6_7, x7, x7']
    · rw [tk_6_ne (by omega), tk_6_ne (by omega)]
      exact hs j hj
  · by_cases c3 : j ≤ 28
    · exact h3' j (by omega)
    · rw [tk_6_ne (by omega), tk_6_ne (by omega)]
      exact hu j hj hj2
  · have ci : i = 0 ∨ i = 1 ∨ i = 2 ∨ i = 3 ∨ i = 4 := by omega
    rcases lw_k3 hk with e | e | e <;> subst e
    · rw [th0]
      rcases ci with e | e | e | e | e <;> subst e
      · exact (tk_6_5 (Or.inl (by decide))).trans (y8'.trans (y8.symm.trans (tk_6_5 (Or.inl (by decide))).symm))
      · exact (tk_6_5 (Or.inl (by decide))).trans (y11'.trans (y11.symm.trans (tk_6_5 (Or.inl (by decide))).symm))
      · exact (tk_6_5 (Or.inl (by decide))).trans (y14'.trans (y14.symm.trans (tk_6_5 (Or.inl (by decide))).symm))
      · exact (tk_6_5 (Or.inl (by decide))).trans (y17'.trans (y17.symm.trans (tk_6_5 (Or.inl (by decide))).symm))
      · exact (tk_6_5 (Or.inl (by decide))).trans (y20'.trans (y20.symm.trans (tk_6_5 (Or.inl (by decide))).symm))
    · rw [th1]
      rcases ci with e | e | e | e | e <;> subst e
      · exact (tk_6_5 (Or.inl (by decide))).trans (y9'.trans (y9.symm.trans (tk_6_5 (Or.inl (by decide))).symm))
      · exact (tk_6_5 (Or.inl (by decide))).trans (y12'.trans (y12.symm.trans (tk_6_5 (Or.inl (by decide))).symm))
      · exact (tk_6_5 (Or.inl (by decide))).trans (y15'.trans (y15.symm.trans (tk_6_5 (Or.inl (by decide))).symm))
      · exact (tk_6_5 (Or.inl (by decide))).trans (y18'.trans (y18.symm.trans (tk_6_5 (Or.inl (by decide))).symm))
      · exact (tk_6_5 (Or.inl (by decide))).trans (y21'.trans (y21.symm.trans (tk_6_5 (Or.inl (by decide))).symm))
    · rw [th2]
      rcases ci with e | e | e | e | e <;> subst e
      · exact (tk_6_5 (Or.inl (by decide))).trans (y10'.trans (y10.symm.trans (tk_6_5 (Or.inl (by decide))).symm))
      · exact (tk_6_5 (Or.inl (by decide))).trans (y13'.trans (y13.symm.trans (tk_6_5 (Or.inl (by decide))).symm))
      · exact (tk_6_5 (Or.inl (by decide))).trans (y16'.trans (y16.symm.trans (tk_6_5 (Or.inl (by decide))).symm))
      · exact (tk_6_5 (Or.inl (by decide))).trans (y19'.trans (y19.symm.trans (tk_6_5 (Or.inl (by decide))).symm))
      · exact (tk_6_5 (Or.inl (by decide))).trans (y22'.trans (y22.symm.trans (tk_6_5 (Or.inl (by decide))).symm))
  · refine (hr i hi).of (fun j hj => ?_) (fun j hj => ?_)
    · rw [tk_6_ne (by omega)]
    · rw [tk_6_ne (by omega)]
theorem lw_sum_1 {x0 x1 x2 : Int32} (h : pj_b3 x0 x1 x2) : x2 + x0 + x1 = x0 + x1 + x2 := by
  obtain ⟨h0, h1, h2⟩ := h
  rcases h0 with rfl | rfl <;> rcases h1 with rfl | rfl <;> rcases h2 with rfl | rfl <;> decide
theorem lw_tick_1 {f f' : Nat → Int32} {t t' : Nat} {x0 x1 x2 c : Int32} (hR : pj_Ro f t) (hR' : pj_Ro f' t') (hg : ∀ k, k < 3 → -500 ≤ pj_a3 x0 x1 x2 k ∧ pj_a3 x0 x1 x2 k ≤ 500) (h : lw_R 1 f f') : lw_R 1 (sp_tick f (pj_a3 x0 x1 x2) c) (sp_tick f' (pj_a3 x2 x0 x1) c) ∧ tk_fi f' (pj_a3 x2 x0 x1) c = tk_fi f (pj_a3 x0 x1 x2) c ∧ tk_m f' (pj_a3 x2 x0 x1) = tk_m f (pj_a3 x0 x1 x2) := by
  obtain ⟨hs, hu, hq, hr⟩ := h
  obtain ⟨i0, i1, i2⟩ := pj_pk_in hg
  have hg' : ∀ k, k < 3 → -500 ≤ pj_a3 x2 x0 x1 k ∧ pj_a3 x2 x0 x1 k ≤ 500 := pj_in_pk i2 i0 i1
  have th0 : lw_th 1 0 = 1 := by decide
  have th1 : lw_th 1 1 = 2 := by decide
  have th2 : lw_th 1 2 = 0 := by decide
  have e9 : f' 9 = f 8 := by
    have q := hq 0 0 (by decide) (by decide)
    rw [th0] at q
    exact q
  have e10 : f' 10 = f 9 := by
    have q := hq 0 1 (by decide) (by decide)
    rw [th1] at q
    exact q
  have e8 : f' 8 = f 10 := by
    have q := hq 0 2 (by decide) (by decide)
    rw [th2] at q
    exact q
  have e12 : f' 12 = f 11 := by
    have q := hq 1 0 (by decide) (by decide)
    rw [th0] at q
    exact q
  have e13 : f' 13 = f 12 := by
    have q := hq 1 1 (by decide) (by decide)
    rw [th1] at q
    exact q
  have e11 : f' 11 = f 13 := by
    have q := hq 1 2 (by decide) (by decide)
    rw [th2] at q
    exact q
  have e15 : f' 15 = f 14 := by
    have q := hq 2 0 (by decide) (by decide)
    rw [th0] at q
    exact q
  have e16 : f' 16 = f 15 := by
    have q := hq 2 1 (by decide) (by decide)
    rw [th1] at q
    exact q
  have e14 : f' 14 = f 16 := by
    have q := hq 2 2 (by decide) (by decide)
    rw [th2] at q
    exact q
  have e18 : f' 18 = f 17 := by
    have q := hq 3 0 (by decide) (by decide)
    rw [th0] at q
    exact q
  have e19 : f' 19 = f 18 := by
    have q := hq 3 1 (by decide) (by decide)
    rw [th1] at q
    exact q
  have e17 : f' 17 = f 19 := by
    have q := hq 3 2 (by decide) (by decide)
    rw [th2] at q
    exact q
  have e21 : f' 21 = f 20 := by
    have q := hq 4 0 (by decide) (by decide)
    rw [th0] at q
    exact q
  have e22 : f' 22 = f 21 := by
    have q := hq 4 1 (by decide) (by decide)
    rw [th1] at q
    exact q
  have e20 : f' 20 = f 22 := by
    have q := hq 4 2 (by decide) (by decide)
    rw [th2] at q
    exact q
  have hRR := hR
  obtain ⟨-, ⟨n, hn, h30⟩, -, rv, -⟩ := hRR
  have hb : pj_b3 (f 14) (f 15) (f 16) := ⟨rv 0 (by decide), rv 1 (by decide), rv 2 (by decide)⟩
  obtain ⟨v0, hv0⟩ := lw_nm (ck_v f (pj_a3 x0 x1 x2) 0)
  obtain ⟨v1, hv1⟩ := lw_nm (ck_v f (pj_a3 x0 x1 x2) 1)
  obtain ⟨v2, hv2⟩ := lw_nm (ck_v f (pj_a3 x0 x1 x2) 2)
  obtain ⟨s0, hs0⟩ := lw_nm (ck_s f (pj_a3 x0 x1 x2) 0)
  obtain ⟨s1, hs1⟩ := lw_nm (ck_s f (pj_a3 x0 x1 x2) 1)
  obtain ⟨s2, hs2⟩ := lw_nm (ck_s f (pj_a3 x0 x1 x2) 2)
  obtain ⟨a0, ha0⟩ := lw_nm (x0 - f 8)
  obtain ⟨a1, ha1⟩ := lw_nm (x1 - f 9)
  obtain ⟨a2, ha2⟩ := lw_nm (x2 - f 10)
  obtain ⟨md, hmd⟩ := lw_nm (ck_mid v0 v1 v2 a0 a1 a2)
  obtain ⟨w0, hw0⟩ := lw_nm (ck_f v0 v1 v2 v0 (a0 - md) (f 4))
  obtain ⟨w1, hw1⟩ := lw_nm (ck_f v0 v1 v2 v1 (a1 - md) (f 4))
  obtain ⟨w2, hw2⟩ := lw_nm (ck_f v0 v1 v2 v2 (a2 - md) (f 4))
  obtain ⟨o0, ho0⟩ := lw_nm (ck_o (ck_q md c) w0 (f 8) x0)
  obtain ⟨o1, ho1⟩ := lw_nm (ck_o (ck_q md c) w1 (f 9) x1)
  obtain ⟨o2, ho2⟩ := lw_nm (ck_o (ck_q md c) w2 (f 10) x2)
  obtain ⟨p0, hp0⟩ := lw_nm (ck_sp (f 11) a0)
  obtain ⟨p1, hp1⟩ := lw_nm (ck_sp (f 12) a1)
  obtain ⟨p2, hp2⟩ := lw_nm (ck_sp (f 13) a2)
  obtain ⟨ar, har⟩ := lw_nm (if c = 0 then pj_mx (f 7 - 1) 0 else f 2)
  obtain ⟨l0, hl0⟩ := lw_nm (ck_w w0 p0 (f 0))
  obtain ⟨l1, hl1⟩ := lw_nm (ck_w w1 p1 (f 0))
  obtain ⟨l2, hl2⟩ := lw_nm (ck_w w2 p2 (f 0))
  obtain ⟨h0, hh0⟩ := lw_nm (ck_w w0 p0 (f 1))
  obtain ⟨h1, hh1⟩ := lw_nm (ck_w w1 p1 (f 1))
  obtain ⟨h2, hh2⟩ := lw_nm (ck_w w2 p2 (f 1))
  have kv : pj_b3 v0 v1 v2 := ⟨hv0 ▸ ck_v_01 hb.1, hv1 ▸ ck_v_01 hb.2.1, hv2 ▸ ck_v_01 hb.2.2⟩
  have kl : pj_b3 l0 l1 l2 := ⟨hl0 ▸ ck_w_01, hl1 ▸ ck_w_01, hl2 ▸ ck_w_01⟩
  have kh : pj_b3 h0 h1 h2 := ⟨hh0 ▸ ck_w_01, hh1 ▸ ck_w_01, hh2 ▸ ck_w_01⟩
  obtain ⟨m1, x7, ⟨y8, y9, y10⟩, ⟨y11, y12, y13⟩, ⟨y14, y15, y16⟩, ⟨y17, y18, y19⟩, ⟨y20, y21, y22⟩, z1, z2⟩ := tk_all (c := c) hR hg hv0 hv1 hv2 hs0 hs1 hs2 ha0 ha1 ha2 hmd hw0 hw1 hw2 ho0 ho1 ho2 hp0 hp1 hp2 har hl0 hl1 hl2 hh0 hh1 hh2
  obtain ⟨m1', x7', ⟨y8', y9', y10'⟩, ⟨y11', y12', y13'⟩, ⟨y14', y15', y16'⟩, ⟨y17', y18', y19'⟩, ⟨y20', y21', y22'⟩, z1', z2'⟩ := tk_all (f := f') (c := c) (v0 := v2) (v1 := v0) (v2 := v1) (s0 := s2) (s1 := s0) (s2 := s1) (a0 := a2) (a1 := a0) (a2 := a1) (w0 := w2) (w1 := w0) (w2 := w1) (o0 := o2) (o1 := o0) (o2 := o1) (p0 := p2) (p1 := p0) (p2 := p1) (l0 := l2) (l1 := l0) (l2 := l1) (h0 := h2) (h1 := h0) (h2 := h1) (md := md) (ar := ar) hR' hg' (by
    rw [← hv2]
    show (if sp_same (f' 17) (f' 20) x2 < f' 3 then f' 14 else 0) = (if sp_same (f 19) (f 22) x2 < f 3 then f 16 else 0)
    rw [e17, e20, e14, hs 3 (by decide)]) (by
    rw [← hv0]
    show (if sp_same (f' 18) (f' 21) x0 < f' 3 then f' 15 else 0) = (if sp_same (f 17) (f 20) x0 < f 3 then f 14 else 0)
    rw [e18, e21, e15, hs 3 (by decide)]) (by
    rw [← hv1]
    show (if sp_same (f' 19) (f' 22) x1 < f' 3 then f' 16 else 0) = (if sp_same (f 18) (f 21) x1 < f 3 then f 15 else 0)
    rw [e19, e22, e16, hs 3 (by decide)]) (by
    rw [← hs2]
    show sp_same (f' 17) (f' 20) x2 = sp_same (f 19) (f 22) x2
    rw [e17, e20]) (by
    rw [← hs0]
    show sp_same (f' 18) (f' 21) x0 = sp_same (f 17) (f 20) x0
    rw [e18, e21]) (by
    rw [← hs1]
    show sp_same (f' 19) (f' 22) x1 = sp_same (f 18) (f 21) x1
    rw [e19, e22]) (by rw [e8]; exact ha2) (by rw [e9]; exact ha0) (by rw [e10]; exact ha1) ((ck_mid_p1 kv).trans hmd) (by rw [hs 4 (by decide)]; exact ck_f_p1.trans hw2) (by rw [hs 4 (by decide)]; exact ck_f_p1.trans hw0) (by rw [hs 4 (by decide)]; exact ck_f_p1.trans hw1) (by rw [e8]; exact ho2) (by rw [e9]; exact ho0) (by rw [e10]; exact ho1) (by rw [e11]; exact hp2) (by rw [e12]; exact hp0) (by rw [e13]; exact hp1) (by rw [hs 7 (by decide), hs 2 (by decide)]; exact har) (by rw [hs 0 (by decide)]; exact hl2) (by rw [hs 0 (by decide)]; exact hl0) (by rw [hs 0 (by decide)]; exact hl1) (by rw [hs 1 (by decide)]; exact hh2) (by rw [hs 1 (by decide)]; exact hh0) (by rw [hs 1 (by decide)]; exact hh1)
  have hA : lw_A (tk_5 f (pj_a3 x0 x1 x2) c) (tk_5 f' (pj_a3 x2 x0 x1) c) := by
    intro j hj
    by_cases c7 : j = 7
    · subst c7
      rw [x7, x7']
    · rw [tk_5_ne (by omega), tk_5_ne (by omega)]
      by_cases c8 : j < 8
      · exact hs j c8
      · exact hu j (by omega) (by omega)
  have bl : sp_bits (tk_lo f' (pj_a3 x2 x0 x1) c) = sp_bits (tk_lo f (pj_a3 x0 x1 x2) c) := by
    rw [z1, z1', sp_bits_pk kl, sp_bits_pk ⟨kl.2.2, kl.1, kl.2.1⟩, lw_sum_1 kl]
  have bh : sp_bits (tk_hi f' (pj_a3 x2 x0 x1) c) = sp_bits (tk_hi f (pj_a3 x0 x1 x2) c) := by
    rw [z2, z2', sp_bits_pk kh, sp_bits_pk ⟨kh.2.2, kh.1, kh.2.1⟩, lw_sum_1 kh]
  have elo : tk_lo f' (pj_a3 x2 x0 x1) c = lw_set 1 (tk_lo f (pj_a3 x0 x1 x2) c) := by
    rw [z1, z1', lw_set_pk_1 kl]
  have ehi : tk_hi f' (pj_a3 x2 x0 x1) c = lw_set 1 (tk_hi f (pj_a3 x0 x1 x2) c) := by
    rw [z2, z2', lw_set_pk_1 kh]
  obtain ⟨h3, hfi⟩ := hA.f3 bl bh
  have hfi' : tk_fi f' (pj_a3 x2 x0 x1) c = tk_fi f (pj_a3 x0 x1 x2) c := hfi
  have h3' : lw_A (tk_6 f (pj_a3 x0 x1 x2) c) (tk_6 f' (pj_a3 x2 x0 x1) c) := h3
  refine ⟨lw_R.last hn h30 ?_ (m1'.trans m1.symm) hfi' elo ehi, hfi', m1'.trans m1.symm⟩
  refine ⟨fun j hj => ?_, fun j hj hj2 => ?_, fun i k hi hk => ?_, fun i hi => ?_⟩
  · by_cases c7 : j = 7
    · subst c7
      rw [tk_6_7, tk_6_7, x7, x7']
    · rw [tk_6_ne (by omega), tk_6_ne (by omega)]
      exact hs j hj
  · by_cases c3 : j ≤ 28
    · exact h3' j (by omega)
    · rw [tk_6_ne (by omega), tk_6_ne (by omega)]
      exact hu j hj hj2
  · have ci : i = 0 ∨ i = 1 ∨ i = 2 ∨ i = 3 ∨ i = 4 := by omega
    rcases lw_k3 hk with e | e | e <;> subst e
    · rw [th0]
      rcases ci with e | e | e | e | e <;> subst e
      · exact (tk_6_5 (Or.inl (by decide))).trans (y9'.trans (y8.symm.trans (tk_6_5 (Or.inl (by decide))).symm))
      · exact (tk_6_5 (Or.inl (by decide))).trans (y12'.trans (y11.symm.trans (tk_6_5 (Or.inl (by decide))).symm))
      · exact (tk_6_5 (Or.inl (by decide))).trans (y15'.trans (y14.symm.trans (tk_6_5 (Or.inl (by decide))).symm))
      · exact (tk_6_5 (Or.inl (by decide))).trans (y18'.trans (y17.symm.trans (tk_6_5 (Or.inl (by decide))).symm))
      · exact (tk_6_5 (Or.inl (by decide))).trans (y21'.trans (y20.symm.trans (tk_6_5 (Or.inl (by decide))).symm))
    · rw [th1]
      rcases ci with e | e | e | e | e <;> subst e
      · exact (tk_6_5 (Or.inl (by decide))).trans (y10'.trans (y9.symm.trans (tk_6_5 (Or.inl (by decide))).symm))
      · exact (tk_6_5 (Or.inl (by decide))).trans (y13'.trans (y12.symm.trans (tk_6_5 (Or.inl (by decide))).symm))
      · exact (tk_6_5 (Or.inl (by decide))).trans (y16'.trans (y15.symm.trans (tk_6_5 (Or.inl (by decide))).symm))
      · exact (tk_6_5 (Or.inl (by decide))).trans (y19'.trans (y18.symm.trans (tk_6_5 (Or.inl (by decide))).symm))
      · exact (tk_6_5 (Or.inl (by decide))).trans (y22'.trans (y21.symm.trans (tk_6_5 (Or.inl (by decide))).symm))
    · rw [th2]
      rcases ci with e | e | e | e | e <;> subst e
      · exact (tk_6_5 (Or.inl (by decide))).trans (y8'.trans (y10.symm.trans (tk_6_5 (Or.inl (by decide))).symm))
      · exact (tk_6_5 (Or.inl (by decide))).trans (y11'.trans (y13.symm.trans (tk_6_5 (Or.inl (by decide))).symm))
      · exact (tk_6_5 (Or.inl (by decide))).trans (y14'.trans (y16.symm.trans (tk_6_5 (Or.inl (by decide))).symm))
      · exact (tk_6_5 (Or.inl (by decide))).trans (y17'.trans (y19.symm.trans (tk_6_5 (Or.inl (by decide))).symm))
      · exact (tk_6_5 (Or.inl (by decide))).trans (y20'.trans (y22.symm.trans (tk_6_5 (Or.inl (by decide))).symm))
  · refine (hr i hi).of (fun j hj => ?_) (fun j hj => ?_)
    · rw [tk_6_ne (by omega)]
    · rw [tk_6_ne (by omega)]
theorem lw_sum_2 {x0 x1 x2 : Int32} (h : pj_b3 x0 x1 x2) : x1 + x2 + x0 = x0 + x1 + x2 := by
  obtain ⟨h0, h1, h2⟩ := h
  rcases h0 with rfl | rfl <;> rcases h1 with rfl | rfl <;> rcases h2 with rfl | rfl <;> decide
theorem lw_tick_2 {f f' : Nat → Int32} {t t' : Nat} {x0 x1 x2 c : Int32} (hR : pj_Ro f t) (hR' : pj_Ro f' t') (hg : ∀ k, k < 3 → -500 ≤ pj_a3 x0 x1 x2 k ∧ pj_a3 x0 x1 x2 k ≤ 500) (h : lw_R 2 f f') : lw_R 2 (sp_tick f (pj_a3 x0 x1 x2) c) (sp_tick f' (pj_a3 x1 x2 x0) c) ∧ tk_fi f' (pj_a3 x1 x2 x0) c = tk_fi f (pj_a3 x0 x1 x2) c ∧ tk_m f' (pj_a3 x1 x2 x0) = tk_m f (pj_a3 x0 x1 x2) := by
  obtain ⟨hs, hu, hq, hr⟩ := h
  obtain ⟨i0, i1, i2⟩ := pj_pk_in hg
  have hg' : ∀ k, k < 3 → -500 ≤ pj_a3 x1 x2 x0 k ∧ pj_a3 x1 x2 x0 k ≤ 500 := pj_in_pk i1 i2 i0
  have th0 : lw_th 2 0 = 2 := by decide
  have th1 : lw_th 2 1 = 0 := by decide
  have th2 : lw_th 2 2 = 1 := by decide
  have e10 : f' 10 = f 8 := by
    have q := hq 0 0 (by decide) (by decide)
    rw [th0] at q
    exact q
  have e8 : f' 8 = f 9 := by
    have q := hq 0 1 (by decide) (by decide)
    rw [th1] at q
    exact q
  have e9 : f' 9 = f 10 := by
    have q := hq 0 2 (by decide) (by decide)
    rw [th2] at q
    exact q
  have e13 : f' 13 = f 11 := by
    have q := hq 1 0 (by decide) (by decide)
    rw [th0] at q
    exact q
  have e11 : f' 11 = f 12 := by
    have q := hq 1 1 (by decide) (by decide)
    rw [th1] at q
    exact q
  have e12 : f' 12 = f 13 := by
    have q := hq 1 2 (by decide) (by decide)
    rw [th2] at q
    exact q
  have e16 : f' 16 = f 14 := by
    have q := hq 2 0 (by decide) (by decide)
    rw [th0] at q
    exact q
  have e14 : f' 14 = f 15 := by
    have q := hq 2 1 (by decide) (by decide)
    rw [th1] at q
    exact q
  have e15 : f' 15 = f 16 := by
    have q := hq 2 2 (by decide) (by decide)
    rw [th2] at q
    exact q
  have e19 : f' 19 = f 17 := by
    have q := hq 3 0 (by decide) (by decide)
    rw [th0] at q
    exact q
  have e17 : f' 17 = f 18 := by
    have q := hq 3 1 (by decide) (by decide)
    rw [th1] at q
    exact q
  have e18 : f' 18 = f 19 := by
    have q := hq 3 2 (by decide) (by decide)
    rw [th2] at q
    exact q
  have e22 : f' 22 = f 20 := by
    have q := hq 4 0 (by decide) (by decide)
    rw [th0] at q
    exact q
  have e20 : f' 20 = f 21 := by
    have q := hq 4 1 (by decide) (by decide)
    rw [th1] at q
    exact q
  have e21 : f' 21 = f 22 := by
    have q := hq 4 2 (by decide) (by decide)
    rw [th2] at q
    exact q
  have hRR := hR
  obtain ⟨-, ⟨n, hn, h30⟩, -, rv, -⟩ := hRR
  have hb : pj_b3 (f 14) (f 15) (f 16) := ⟨rv 0 (by decide), rv 1 (by decide), rv 2 (by decide)⟩
  obtain ⟨v0, hv0⟩ := lw_nm (ck_v f (pj_a3 x0 x1 x2) 0)
  obtain ⟨v1, hv1⟩ := lw_nm (ck_v f (pj_a3 x0 x1 x2) 1)
  obtain ⟨v2, hv2⟩ := lw_nm (ck_v f (pj_a3 x0 x1 x2) 2)
  obtain ⟨s0, hs0⟩ := lw_nm (ck_s f (pj_a3 x0 x1 x2) 0)
  obtain ⟨s1, hs1⟩ := lw_nm (ck_s f (pj_a3 x0 x1 x2) 1)
  obtain ⟨s2, hs2⟩ := lw_nm (ck_s f (pj_a3 x0 x1 x2) 2)
  obtain ⟨a0, ha0⟩ := lw_nm (x0 - f 8)
  obtain ⟨a1, ha1⟩ := lw_nm (x1 - f 9)
  obtain ⟨a2, ha2⟩ := lw_nm (x2 - f 10)
  obtain ⟨md, hmd⟩ := lw_nm (ck_mid v0 v1 v2 a0 a1 a2)
  obtain ⟨w0, hw0⟩ := lw_nm (ck_f v0 v1 v2 v0 (a0 - md) (f 4))
  obtain ⟨w1, hw1⟩ := lw_nm (ck_f v0 v1 v2 v1 (a1 - md) (f 4))
  obtain ⟨w2, hw2⟩ := lw_nm (ck_f v0 v1 v2 v2 (a2 - md) (f 4))
  obtain ⟨o0, ho0⟩ := lw_nm (ck_o (ck_q md c) w0 (f 8) x0)
  obtain ⟨o1, ho1⟩ := lw_nm (ck_o (ck_q md c) w1 (f 9) x1)
  obtain ⟨o2, ho2⟩ := lw_nm (ck_o (ck_q md c) w2 (f 10) x2)
  obtain ⟨p0, hp0⟩ := lw_nm (ck_sp (f 11) a0)
  obtain ⟨p1, hp1⟩ := lw_nm (ck_sp (f 12) a1)
  obtain ⟨p2, hp2⟩ := lw_nm (ck_sp (f 13) a2)
  obtain ⟨ar, har⟩ := lw_nm (if c = 0 then pj_mx (f 7 - 1) 0 else f 2)
  obtain ⟨l0, hl0⟩ := lw_nm (ck_w w0 p0 (f 0))
  obtain ⟨l1, hl1⟩ := lw_nm (ck_w w1 p1 (f 0))
  obtain ⟨l2, hl2⟩ := lw_nm (ck_w w2 p2 (f 0))
  obtain ⟨h0, hh0⟩ := lw_nm (ck_w w0 p0 (f 1))
  obtain ⟨h1, hh1⟩ := lw_nm (ck_w w1 p1 (f 1))
  obtain ⟨h2, hh2⟩ := lw_nm (ck_w w2 p2 (f 1))
  have kv : pj_b3 v0 v1 v2 := ⟨hv0 ▸ ck_v_01 hb.1, hv1 ▸ ck_v_01 hb.2.1, hv2 ▸ ck_v_01 hb.2.2⟩
  have kl : pj_b3 l0 l1 l2 := ⟨hl0 ▸ ck_w_01, hl1 ▸ ck_w_01, hl2 ▸ ck_w_01⟩
  have kh : pj_b3 h0 h1 h2 := ⟨hh0 ▸ ck_w_01, hh1 ▸ ck_w_01, hh2 ▸ ck_w_01⟩
  obtain ⟨m1, x7, ⟨y8, y9, y10⟩, ⟨y11, y12, y13⟩, ⟨y14, y15, y16⟩, ⟨y17, y18, y19⟩, ⟨y20, y21, y22⟩, z1, z2⟩ := tk_all (c := c) hR hg hv0 hv1 hv2 hs0 hs1 hs2 ha0 ha1 ha2 hmd hw0 hw1 hw2 ho0 ho1 ho2 hp0 hp1 hp2 har hl0 hl1 hl2 hh0 hh1 hh2
  obtain ⟨m1', x7', ⟨y8', y9', y10'⟩, ⟨y11', y12', y13'⟩, ⟨y14', y15', y16'⟩, ⟨y17', y18', y19'⟩, ⟨y20', y21', y22'⟩, z1', z2'⟩ := tk_all (f := f') (c := c) (v0 := v1) (v1 := v2) (v2 := v0) (s0 := s1) (s1 := s2) (s2 := s0) (a0 := a1) (a1 := a2) (a2 := a0) (w0 := w1) (w1 := w2) (w2 := w0) (o0 := o1) (o1 := o2) (o2 := o0) (p0 := p1) (p1 := p2) (p2 := p0) (l0 := l1) (l1 := l2) (l2 := l0) (h0 := h1) (h1 := h2) (h2 := h0) (md := md) (ar := ar) hR' hg' (by
    rw [← hv1]
    show (if sp_same (f' 17) (f' 20) x1 < f' 3 then f' 14 else 0) = (if sp_same (f 18) (f 21) x1 < f 3 then f 15 else 0)
    rw [e17, e20, e14, hs 3 (by decide)]) (by
    rw [← hv2]
    show (if sp_same (f' 18) (f' 21) x2 < f' 3 then f' 15 else 0) = (if sp_same (f 19) (f 22) x2 < f 3 then f 16 else 0)
    rw [e18, e21, e15, hs 3 (by decide)]) (by
    rw [← hv0]
    show (if sp_same (f' 19) (f' 22) x0 < f' 3 then f' 16 else 0) = (if sp_same (f 17) (f 20) x0 < f 3 then f 14 else 0)
    rw [e19, e22, e16, hs 3 (by decide)]) (by
    rw [← hs1]
    show sp_same (f' 17) (f' 20) x1 = sp_same (f 18) (f 21) x1
    rw [e17, e20]) (by
    rw [← hs2]
    show sp_same (f' 18) (f' 21) x2 = sp_same (f 19) (f 22) x2
    rw [e18, e21]) (by
    rw [← hs0]
    show sp_same (f' 19) (f' 22) x0 = sp_same (f 17) (f 20) x0
    rw [e19, e22]) (by rw [e8]; exact ha1) (by rw [e9]; exact ha2) (by rw [e10]; exact ha0) ((ck_mid_p2 kv).trans hmd) (by rw [hs 4 (by decide)]; exact ck_f_p2.trans hw1) (by rw [hs 4 (by decide)]; exact ck_f_p2.trans hw2) (by rw [hs 4 (by decide)]; exact ck_f_p2.trans hw0) (by rw [e8]; exact ho1) (by rw [e9]; exact ho2) (by rw [e10]; exact ho0) (by rw [e11]; exact hp1) (by rw [e12]; exact hp2) (by rw [e13]; exact hp0) (by rw [hs 7 (by decide), hs 2 (by decide)]; exact har) (by rw [hs 0 (by decide)]; exact hl1) (by rw [hs 0 (by decide)]; exact hl2) (by rw [hs 0 (by decide)]; exact hl0) (by rw [hs 1 (by decide)]; exact hh1) (by rw [hs 1 (by decide)]; exact hh2) (by rw [hs 1 (by decide)]; exact hh0)
  have hA : lw_A (tk_5 f (pj_a3 x0 x1 x2) c) (tk_5 f' (pj_a3 x1 x2 x0) c) := by
    intro j hj
    by_cases c7 : j = 7
    · subst c7
      rw [x7, x7']
    · rw [tk_5_ne (by omega), tk_5_ne (by omega)]
      by_cases c8 : j < 8
      · exact hs j c8
      · exact hu j (by omega) (by omega)
  have bl : sp_bits (tk_lo f' (pj_a3 x1 x2 x0) c) = sp_bits (tk_lo f (pj_a3 x0 x1 x2) c) := by
    rw [z1, z1', sp_bits_pk kl, sp_bits_pk ⟨kl.2.1, kl.2.2, kl.1⟩, lw_sum_2 kl]
  have bh : sp_bits (tk_hi f' (pj_a3 x1 x2 x0) c) = sp_bits (tk_hi f (pj_a3 x0 x1 x2) c) := by
    rw [z2, z2', sp_bits_pk kh, sp_bits_pk ⟨kh.2.1, kh.2.2, kh.1⟩, lw_sum_2 kh]
  have elo : tk_lo f' (pj_a3 x1 x2 x0) c = lw_set 2 (tk_lo f (pj_a3 x0 x1 x2) c) := by
    rw [z1, z1', lw_set_pk_2 kl]
  have ehi : tk_hi f' (pj_a3 x1 x2 x0) c = lw_set 2 (tk_hi f (pj_a3 x0 x1 x2) c) := by
    rw [z2, z2', lw_set_pk_2 kh]
  obtain ⟨h3, hfi⟩ := hA.f3 bl bh
  have hfi' : tk_fi f' (pj_a3 x1 x2 x0) c = tk_fi f (pj_a3 x0 x1 x2) c := hfi
  have h3' : lw_A (tk_6 f (pj_a3 x0 x1 x2) c) (tk_6 f' (pj_a3 x1 x2 x0) c) := h3
  refine ⟨lw_R.last hn h30 ?_ (m1'.trans m1.symm) hfi' elo ehi, hfi', m1'.trans m1.symm⟩
  refine ⟨fun j hj => ?_, fun j hj hj2 => ?_, fun i k hi hk => ?_, fun i hi => ?_⟩
  · by_cases c7 : j = 7
    · subst c7
      rw [tk_6_7, tk_6_7, x7, x7']
    · rw [tk_6_ne (by omega), tk_6_ne (by omega)]
      exact hs j hj
  · by_cases c3 : j ≤ 28
    · exact h3' j (by omega)
    · rw [tk_6_ne (by omega), tk_6_ne (by omega)]
      exact hu j hj hj2
  · have ci : i = 0 ∨ i = 1 ∨ i = 2 ∨ i = 3 ∨ i = 4 := by omega
    rcases lw_k3 hk with e | e | e <;> subst e
    · rw [th0]
      rcases ci with e | e | e | e | e <;> subst e
      · exact (tk_6_5 (Or.inl (by decide))).trans (y10'.trans (y8.symm.trans (tk_6_5 (Or.inl (by decide))).symm))
      · exact (tk_6_5 (Or.inl (by decide))).trans (y13'.trans (y11.symm.trans (tk_6_5 (Or.inl (by decide))).symm))
      · exact (tk_6_5 (Or.inl (by decide))).trans (y16'.trans (y14.symm.trans (tk_6_5 (Or.inl (by decide))).symm))
      · exact (tk_6_5 (Or.inl (by decide))).trans (y19'.trans (y17.symm.trans (tk_6_5 (Or.inl (by decide))).symm))
      · exact (tk_6_5 (Or.inl (by decide))).trans (y22'.trans (y20.symm.trans (tk_6_5 (Or.inl (by decide))).symm))
    · rw [th1]
      rcases ci with e | e | e | e | e <;> subst e
      · exact (tk_6_5 (Or.inl (by decide))).trans (y8'.trans (y9.symm.trans (tk_6_5 (Or.inl (by decide))).symm))
      · exact (tk_6_5 (Or.inl (by decide))).trans (y11'.trans (y12.symm.trans (tk_6_5 (Or.inl (by decide))).symm))
      · exact (tk_6_5 (Or.inl (by decide))).trans (y14'.trans (y15.symm.trans (tk_6_5 (Or.inl (by decide))).symm))
      · exact (tk_6_5 (Or.inl (by decide))).trans (y17'.trans (y18.symm.trans (tk_6_5 (Or.inl (by decide))).symm))
      · exact (tk_6_5 (Or.inl (by decide))).trans (y20'.trans (y21.symm.trans (tk_6_5 (Or.inl (by decide))).symm))
    · rw [th2]
      rcases ci with e | e | e | e | e <;> subst e
      · exact (tk_6_5 (Or.inl (by decide))).trans (y9'.trans (y10.symm.trans (tk_6_5 (Or.inl (by decide))).symm))
      · exact (tk_6_5 (Or.inl (by decide))).trans (y12'.trans (y13.symm.trans (tk_6_5 (Or.inl (by decide))).symm))
      · exact (tk_6_5 (Or.inl (by decide))).trans (y15'.trans (y16.symm.trans (tk_6_5 (Or.inl (by decide))).symm))
      · exact (tk_6_5 (Or.inl (by decide))).trans (y18'.trans (y19.symm.trans (tk_6_5 (Or.inl (by decide))).symm))
      · exact (tk_6_5 (Or.inl (by decide))).trans (y21'.trans (y22.symm.trans (tk_6_5 (Or.inl (by decide))).symm))
  · refine (hr i hi).of (fun j hj => ?_) (fun j hj => ?_)
    · rw [tk_6_ne (by omega)]
    · rw [tk_6_ne (by omega)]
theorem lw_sum_3 {x0 x1 x2 : Int32} (h : pj_b3 x0 x1 x2) : x2 + x1 + x0 = x0 + x1 + x2 := by
  obtain ⟨h0, h1, h2⟩ := h
  rcases h0 with rfl | rfl <;> rcases h1 with rfl | rfl <;> rcases h2 with rfl | rfl <;> decide
theorem lw_tick_3 {f f' : Nat → Int32} {t t' : Nat} {x0 x1 x2 c : Int32} (hR : pj_Ro f t) (hR' : pj_Ro f' t') (hg : ∀ k, k < 3 → -500 ≤ pj_a3 x0 x1 x2 k ∧ pj_a3 x0 x1 x2 k ≤ 500) (h : lw_R 3 f f') : lw_R 3 (sp_tick f (pj_a3 x0 x1 x2) c) (sp_tick f' (pj_a3 x2 x1 x0) c) ∧ tk_fi f' (pj_a3 x2 x1 x0) c = tk_fi f (pj_a3 x0 x1 x2) c ∧ tk_m f' (pj_a3 x2 x1 x0) = tk_m f (pj_a3 x0 x1 x2) := by
  obtain ⟨hs, hu, hq, hr⟩ := h
  obtain ⟨i0, i1, i2⟩ := pj_pk_in hg
  have hg' : ∀ k, k < 3 → -500 ≤ pj_a3 x2 x1 x0 k ∧ pj_a3 x2 x1 x0 k ≤ 500 := pj_in_pk i2 i1 i0
  have th0 : lw_th 3 0 = 2 := by decide
  have th1 : lw_th 3 1 = 1 := by decide
  have th2 : lw_th 3 2 = 0 := by decide
  have e10 : f' 10 = f 8 := by
    have q := hq 0 0 (by decide) (by decide)
    rw [th0] at q
    exact q
  have e9 : f' 9 = f 9 := by
    have q := hq 0 1 (by decide) (by decide)
    rw [th1] at q
    exact q
  have e8 : f' 8 = f 10 := by
    have q := hq 0 2 (by decide) (by decide)
    rw [th2] at q
    exact q
  have e13 : f' 13 = f 11 := by
    have q := hq 1 0 (by decide) (by decide)
    rw [th0] at q
    exact q
  have e12 : f' 12 = f 12 := by
    have q := hq 1 1 (by decide) (by decide)
    rw [th1] at q
    exact q
  have e11 : f' 11 = f 13 := by
    have q := hq 1 2 (by decide) (by decide)
    rw [th2] at q
    exact q
  have e16 : f' 16 = f 14 := by
    have q := hq 2 0 (by decide) (by decide)
    rw [th0] at q
    exact q
  have e15 : f' 15 = f 15 := by
    have q := hq 2 1 (by decide) (by decide)
    rw [th1] at q
    exact q
  have e14 : f' 14 = f 16 := by
    have q := hq 2 2 (by decide) (by decide)
    rw [th2] at q
    exact q
  have e19 : f' 19 = f 17 := by
    have q := hq 3 0 (by decide) (by decide)
    rw [th0] at q
    exact q
  have e18 : f' 18 = f 18 := by
    have q := hq 3 1 (by decide) (by decide)
    rw [th1] at q
    exact q
  have e17 : f' 17 = f 19 := by
    have q := hq 3 2 (by decide) (by decide)
    rw [th2] at q
    exact q
  have e22 : f' 22 = f 20 := by
    have q := hq 4 0 (by decide) (by decide)
    rw [th0] at q
    exact q
  have e21 : f' 21 = f 21 := by
    have q := hq 4 1 (by decide) (by decide)
    rw [th1] at q
    exact q
  have e20 : f' 20 = f 22 := by
    have q := hq 4 2 (by decide) (by decide)
    rw [th2] at q
    exact q
  have hRR := hR
  obtain ⟨-, ⟨n, hn, h30⟩, -, rv, -⟩ := hRR
  have hb : pj_b3 (f 14) (f 15) (f 16) := ⟨rv 0 (by decide), rv 1 (by decide), rv 2 (by decide)⟩
  obtain ⟨v0, hv0⟩ := lw_nm (ck_v f (pj_a3 x0 x1 x2) 0)
  obtain ⟨v1, hv1⟩ := lw_nm (ck_v f (pj_a3 x0 x1 x2) 1)
  obtain ⟨v2, hv2⟩ := lw_nm (ck_v f (pj_a3 x0 x1 x2) 2)
  obtain ⟨s0, hs0⟩ := lw_nm (ck_s f (pj_a3 x0 x1 x2) 0)
  obtain ⟨s1, hs1⟩ := lw_nm (ck_s f (pj_a3 x0 x1 x2) 1)
  obtain ⟨s2, hs2⟩ := lw_nm (ck_s f (pj_a3 x0 x1 x2) 2)
  obtain ⟨a0, ha0⟩ := lw_nm (x0 - f 8)
  obtain ⟨a1, ha1⟩ := lw_nm (x1 - f 9)
  obtain ⟨a2, ha2⟩ := lw_nm (x2 - f 10)
  obtain ⟨md, hmd⟩ := lw_nm (ck_mid v0 v1 v2 a0 a1 a2)
  obtain ⟨w0, hw0⟩ := lw_nm (ck_f v0 v1 v2 v0 (a0 - md) (f 4))
  obtain ⟨w1, hw1⟩ := lw_nm (ck_f v0 v1 v2 v1 (a1 - md) (f 4))
  obtain ⟨w2, hw2⟩ := lw_nm (ck_f v0 v1 v2 v2 (a2 - md) (f 4))
  obtain ⟨o0, ho0⟩ := lw_nm (ck_o (ck_q md c) w0 (f 8) x0)
  obtain ⟨o1, ho1⟩ := lw_nm (ck_o (ck_q md c) w1 (f 9) x1)
  obtain ⟨o2, ho2⟩ := lw_nm (ck_o (ck_q md c) w2 (f 10) x2)
  obtain ⟨p0, hp0⟩ := lw_nm (ck_sp (f 11) a0)
  obtain ⟨p1, hp1⟩ := lw_nm (ck_sp (f 12) a1)
  obtain ⟨p2, hp2⟩ := lw_nm (ck_sp (f 13) a2)
  obtain ⟨ar, har⟩ := lw_nm (if c = 0 then pj_mx (f 7 - 1) 0 else f 2)
  obtain ⟨l0, hl0⟩ := lw_nm (ck_w w0 p0 (f 0))
  obtain ⟨l1, hl1⟩ := lw_nm (ck_w w1 p1 (f 0))
  obtain ⟨l2, hl2⟩ := lw_nm (ck_w w2 p2 (f 0))
  obtain ⟨h0, hh0⟩ := lw_nm (ck_w w0 p0 (f 1))
  obtain ⟨h1, hh1⟩ := lw_nm (ck_w w1 p1 (f 1))
  obtain ⟨h2, hh2⟩ := lw_nm (ck_w w2 p2 (f 1))
  have kv : pj_b3 v0 v1 v2 := ⟨hv0 ▸ ck_v_01 hb.1, hv1 ▸ ck_v_01 hb.2.1, hv2 ▸ ck_v_01 hb.2.2⟩
  have kl : pj_b3 l0 l1 l2 := ⟨hl0 ▸ ck_w_01, hl1 ▸ ck_w_01, hl2 ▸ ck_w_01⟩
  have kh : pj_b3 h0 h1 h2 := ⟨hh0 ▸ ck_w_01, hh1 ▸ ck_w_01, hh2 ▸ ck_w_01⟩
  obtain ⟨m1, x7, ⟨y8, y9, y10⟩, ⟨y11, y12, y13⟩, ⟨y14, y15, y16⟩, ⟨y17, y18, y19⟩, ⟨y20, y21, y22⟩, z1, z2⟩ := tk_all (c := c) hR hg hv0 hv1 hv2 hs0 hs1 hs2 ha0 ha1 ha2 hmd hw0 hw1 hw2 ho0 ho1 ho2 hp0 hp1 hp2 har hl0 hl1 hl2 hh0 hh1 hh2
  obtain ⟨m1', x7', ⟨y8', y9', y10'⟩, ⟨y11', y12', y13'⟩, ⟨y14', y15', y16'⟩, ⟨y17', y18', y19'⟩, ⟨y20', y21', y22'⟩, z1', z2'⟩ := tk_all (f := f') (c := c) (v0 := v2) (v1 := v1) (v2 := v0) (s0 := s2) (s1 := s1) (s2 := s0) (a0 := a2) (a1 := a1) (a2 := a0) (w0 := w2) (w1 := w1) (w2 := w0) (o0 := o2) (o1 := o1) (o2 := o0) (p0 := p2) (p1 := p1) (p2 := p0) (l0 := l2) (l1 := l1) (l2 := l0) (h0 := h2) (h1 := h1) (h2 := h0) (md := md) (ar := ar) hR' hg' (by
    rw [← hv2]
    show (if sp_same (f' 17) (f' 20) x2 < f' 3 then f' 14 else 0) = (if sp_same (f 19) (f 22) x2 < f 3 then f 16 else 0)
    rw [e17, e20, e14, hs 3 (by decide)]) (by
    rw [← hv1]
    show (if sp_same (f' 18) (f' 21) x1 < f' 3 then f' 15 else 0) = (if sp_same (f 18) (f 21) x1 < f 3 then f 15 else 0)
    rw [e18, e21, e15, hs 3 (by decide)]) (by
    rw [← hv0]
    show (if sp_same (f' 19) (f' 22) x0 < f' 3 then f' 16 else 0) = (if sp_same (f 17) (f 20) x0 < f 3 then f 14 else 0)
    rw [e19, e22, e16, hs 3 (by decide)]) (by
    rw [← hs2]
    show sp_same (f' 17) (f' 20) x2 = sp_same (f 19) (f 22) x2
    rw [e17, e20]) (by
    rw [← hs1]
    show sp_same (f' 18) (f' 21) x1 = sp_same (f 18) (f 21) x1
    rw [e18, e21]) (by
    rw [← hs0]
    show sp_same (f' 19) (f' 22) x0 = sp_same (f 17) (f 20) x0
    rw [e19, e22]) (by rw [e8]; exact ha2) (by rw [e9]; exact ha1) (by rw [e10]; exact ha0) ((ck_mid_p3 kv).trans hmd) (by rw [hs 4 (by decide)]; exact ck_f_p3.trans hw2) (by rw [hs 4 (by decide)]; exact ck_f_p3.trans hw1) (by rw [hs 4 (by decide)]; exact ck_f_p3.trans hw0) (by rw [e8]; exact ho2) (by rw [e9]; exact ho1) (by rw [e10]; exact ho0) (by rw [e11]; exact hp2) (by rw [e12]; exact hp1) (by rw [e13]; exact hp0) (by rw [hs 7 (by decide), hs 2 (by decide)]; exact har) (by rw [hs 0 (by decide)]; exact hl2) (by rw [hs 0 (by decide)]; exact hl1) (by rw [hs 0 (by decide)]; exact hl0) (by rw [hs 1 (by decide)]; exact hh2) (by rw [hs 1 (by decide)]; exact hh1) (by rw [hs 1 (by decide)]; exact hh0)
  have hA : lw_A (tk_5 f (pj_a3 x0 x1 x2) c) (tk_5 f' (pj_a3 x2 x1 x0) c) := by
    intro j hj
    by_cases c7 : j = 7
    · subst c7
      rw [x7, x7']
    · rw [tk_5_ne (by omega), tk_5_ne (by omega)]
      by_cases c8 : j < 8
      · exact hs j c8
      · exact hu j (by omega) (by omega)
  have bl : sp_bits (tk_lo f' (pj_a3 x2 x1 x0) c) = sp_bits (tk_lo f (pj_a3 x0 x1 x2) c) := by
    rw [z1, z1', sp_bits_pk kl, sp_bits_pk ⟨kl.2.2, kl.2.1, kl.1⟩, lw_sum_3 kl]
  have bh : sp_bits (tk_hi f' (pj_a3 x2 x1 x0) c) = sp_bits (tk_hi f (pj_a3 x0 x1 x2) c) := by
    rw [z2, z2', sp_bits_pk kh, sp_bits_pk ⟨kh.2.2, kh.2.1, kh.1⟩, lw_sum_3 kh]
  have elo : tk_lo f' (pj_a3 x2 x1 x0) c = lw_set 3 (tk_lo f (pj_a3 x0 x1 x2) c) := by
    rw [z1, z1', lw_set_pk_3 kl]
  have ehi : tk_hi f' (pj_a3 x2 x1 x0) c = lw_set 3 (tk_hi f (pj_a3 x0 x1 x2) c) := by
    rw [z2, z2', lw_set_pk_3 kh]
  obtain ⟨h3, hfi⟩ := hA.f3 bl bh
  have hfi' : tk_fi f' (pj_a3 x2 x1 x0) c = tk_fi f (pj_a3 x0 x1 x2) c := hfi
  have h3' : lw_A (tk_6 f (pj_a3 x0 x1 x2) c) (tk_6 f' (pj_a3 x2 x1 x0) c) := h3
  refine ⟨lw_R.last hn h30 ?_ (m1'.trans m1.symm) hfi' elo ehi, hfi', m1'.trans m1.symm⟩
  refine ⟨fun j hj => ?_, fun j hj hj2 => ?_, fun i k hi hk => ?_, fun i hi => ?_⟩
  · by_cases c7 : j = 7
    · subst c7
      rw [tk_6_7, tk_6_7, x7, x7']
    · rw [tk_6_ne (by omega), tk_6_ne (by omega)]
      exact hs j hj
  · by_cases c3 : j ≤ 28
    · exact h3' j (by omega)
    · rw [tk_6_ne (by omega), tk_6_ne (by omega)]
      exact hu j hj hj2
  · have ci : i = 0 ∨ i = 1 ∨ i = 2 ∨ i = 3 ∨ i = 4 := by omega
    rcases lw_k3 hk with e | e | e <;> subst e
    · rw [th0]
      rcases ci with e | e | e | e | e <;> subst e
      · exact (tk_6_5 (Or.inl (by decide))).trans (y10'.trans (y8.symm.trans (tk_6_5 (Or.inl (by decide))).symm))
      · exact (tk_6_5 (Or.inl (by decide))).trans (y13'.trans (y11.symm.trans (tk_6_5 (Or.inl (by decide))).symm))
      · exact (tk_6_5 (Or.inl (by decide))).trans (y16'.trans (y14.symm.trans (tk_6_5 (Or.inl (by decide))).symm))
      · exact (tk_6_5 (Or.inl (by decide))).trans (y19'.trans (y17.symm.trans (tk_6_5 (Or.inl (by decide))).symm))
      · exact (tk_6_5 (Or.inl (by decide))).trans (y22'.trans (y20.symm.trans (tk_6_5 (Or.inl (by decide))).symm))
    · rw [th1]
      rcases ci with e | e | e | e | e <;> subst e
      · exact (tk_6_5 (Or.inl (by decide))).trans (y9'.trans (y9.symm.trans (tk_6_5 (Or.inl (by decide))).symm))
      · exact (tk_6_5 (Or.inl (by decide))).trans (y12'.trans (y12.symm.trans (tk_6_5 (Or.inl (by decide))).symm))
      · exact (tk_6_5 (Or.inl (by decide))).trans (y15'.trans (y15.symm.trans (tk_6_5 (Or.inl (by decide))).symm))
      · exact (tk_6_5 (Or.inl (by decide))).trans (y18'.trans (y18.symm.trans (tk_6_5 (Or.inl (by decide))).symm))
      · exact (tk_6_5 (Or.inl (by decide))).trans (y21'.trans (y21.symm.trans (tk_6_5 (Or.inl (by decide))).symm))
    · rw [th2]
      rcases ci with e | e | e | e | e <;> subst e
      · exact (tk_6_5 (Or.inl (by decide))).trans (y8'.trans (y10.symm.trans (tk_6_5 (Or.inl (by decide))).symm))
      · exact (tk_6_5 (Or.inl (by decide))).trans (y11'.trans (y13.symm.trans (tk_6_5 (Or.inl (by decide))).symm))
      · exact (tk_6_5 (Or.inl (by decide))).trans (y14'.trans (y16.symm.trans (tk_6_5 (Or.inl (by decide))).symm))
      · exact (tk_6_5 (Or.inl (by decide))).trans (y17'.trans (y19.symm.trans (tk_6_5 (Or.inl (by decide))).symm))
      · exact (tk_6_5 (Or.inl (by decide))).trans (y20'.trans (y22.symm.trans (tk_6_5 (Or.inl (by decide))).symm))
  · refine (hr i hi).of (fun j hj => ?_) (fun j hj => ?_)
    · rw [tk_6_ne (by omega)]
    · rw [tk_6_ne (by omega)]
theorem lw_sum_4 {x0 x1 x2 : Int32} (h : pj_b3 x0 x1 x2) : x0 + x2 + x1 = x0 + x1 + x2 := by
  obtain ⟨h0, h1, h2⟩ := h
  rcases h0 with rfl | rfl <;> rcases h1 with rfl | rfl <;> rcases h2 with rfl | rfl <;> decide
theorem lw_tick_4 {f f' : Nat → Int32} {t t' : Nat} {x0 x1 x2 c : Int32} (hR : pj_Ro f t) (hR' : pj_Ro f' t') (hg : ∀ k, k < 3 → -500 ≤ pj_a3 x0 x1 x2 k ∧ pj_a3 x0 x1 x2 k ≤ 500) (h : lw_R 4 f f') : lw_R 4 (sp_tick f (pj_a3 x0 x1 x2) c) (sp_tick f' (pj_a3 x0 x2 x1) c) ∧ tk_fi f' (pj_a3 x0 x2 x1) c = tk_fi f (pj_a3 x0 x1 x2) c ∧ tk_m f' (pj_a3 x0 x2 x1) = tk_m f (pj_a3 x0 x1 x2) := by
  obtain ⟨hs, hu, hq, hr⟩ := h
  obtain ⟨i0, i1, i2⟩ := pj_pk_in hg
  have hg' : ∀ k, k < 3 → -500 ≤ pj_a3 x0 x2 x1 k ∧ pj_a3 x0 x2 x1 k ≤ 500 := pj_in_pk i0 i2 i1
  have th0 : lw_th 4 0 = 0 := by decide
  have th1 : lw_th 4 1 = 2 := by decide
  have th2 : lw_th 4 2 = 1 := by decide
  have e8 : f' 8 = f 8 := by
    have q := hq 0 0 (by decide) (by decide)
    rw [th0] at q
    exact q
  have e10 : f' 10 = f 9 := by
    have q := hq 0 1 (by decide) (by decide)
    rw [th1] at q
    exact q
  have e9 : f' 9 = f 10 := by
    have q := hq 0 2 (by decide) (by decide)
    rw [th2] at q
    exact q
  have e11 : f' 11 = f 11 := by
    have q := hq 1 0 (by decide) (by decide)
    rw [th0] at q
    exact q
  have e13 : f' 13 = f 12 := by
    have q := hq 1 1 (by decide) (by decide)
    rw [th1] at q
    exact q
  have e12 : f' 12 = f 13 := by
    have q := hq 1 2 (by decide) (by decide)
    rw [th2] at q
    exact q
  have e14 : f' 14 = f 14 := by
    have q := hq 2 0 (by decide) (by decide)
    rw [th0] at q
    exact q
  have e16 : f' 16 = f 15 := by
    have q := hq 2 1 (by decide) (by decide)
    rw [th1] at q
    exact q
  have e15 : f' 15 = f 16 := by
    have q := hq 2 2 (by decide) (by decide)
    rw [th2] at q
    exact q
  have e17 : f' 17 = f 17 := by
    have q := hq 3 0 (by decide) (by decide)
    rw [th0] at q
    exact q
  have e19 : f' 19 = f 18 := by
    have q := hq 3 1 (by decide) (by decide)
    rw [th1] at q
    exact q
  have e18 : f' 18 = f 19 := by
    have q := hq 3 2 (by decide) (by decide)
    rw [th2] at q
    exact q
  have e20 : f' 20 = f 20 := by
    have q := hq 4 0 (by decide) (by decide)
    rw [th0] at q
    exact q
  have e22 : f' 22 = f 21 := by
    have q := hq 4 1 (by decide) (by decide)
    rw [th1] at q
    exact q
  have e21 : f' 21 = f 22 := by
    have q := hq 4 2 (by decide) (by decide)
    rw [th2] at q
    exact q
  have hRR := hR
  obtain ⟨-, ⟨n, hn, h30⟩, -, rv, -⟩ := hRR
  have hb : pj_b3 (f 14) (f 15) (f 16) := ⟨rv 0 (by decide), rv 1 (by decide), rv 2 (by decide)⟩
  obtain ⟨v0, hv0⟩ := lw_nm (ck_v f (pj_a3 x0 x1 x2) 0)
  obtain ⟨v1, hv1⟩ := lw_nm (ck_v f (pj_a3 x0 x1 x2) 1)
  obtain ⟨v2, hv2⟩ := lw_nm (ck_v f (pj_a3 x0 x1 x2) 2)
  obtain ⟨s0, hs0⟩ := lw_nm (ck_s f (pj_a3 x0 x1 x2) 0)
  obtain ⟨s1, hs1⟩ := lw_nm (ck_s f (pj_a3 x0 x1 x2) 1)
  obtain ⟨s2, hs2⟩ := lw_nm (ck_s f (pj_a3 x0 x1 x2) 2)
  obtain ⟨a0, ha0⟩ := lw_nm (x0 - f 8)
  obtain ⟨a1, ha1⟩ := lw_nm (x1 - f 9)
  obtain ⟨a2, ha2⟩ := lw_nm (x2 - f 10)
  obtain ⟨md, hmd⟩ := lw_nm (ck_mid v0 v1 v2 a0 a1 a2)
  obtain ⟨w0, hw0⟩ := lw_nm (ck_f v0 v1 v2 v0 (a0 - md) (f 4))
  obtain ⟨w1, hw1⟩ := lw_nm (ck_f v0 v1 v2 v1 (a1 - md) (f 4))
  obtain ⟨w2, hw2⟩ := lw_nm (ck_f v0 v1 v2 v2 (a2 - md) (f 4))
  obtain ⟨o0, ho0⟩ := lw_nm (ck_o (ck_q md c) w0 (f 8) x0)
  obtain ⟨o1, ho1⟩ := lw_nm (ck_o (ck_q md c) w1 (f 9) x1)
  obtain ⟨o2, ho2⟩ := lw_nm (ck_o (ck_q md c) w2 (f 10) x2)
  obtain ⟨p0, hp0⟩ := lw_nm (ck_sp (f 11) a0)
  obtain ⟨p1, hp1⟩ := lw_nm (ck_sp (f 12) a1)
  obtain ⟨p2, hp2⟩ := lw_nm (ck_sp (f 13) a2)
  obtain ⟨ar, har⟩ := lw_nm (if c = 0 then pj_mx (f 7 - 1) 0 else f 2)
  obtain ⟨l0, hl0⟩ := lw_nm (ck_w w0 p0 (f 0))
  obtain ⟨l1, hl1⟩ := lw_nm (ck_w w1 p1 (f 0))
  obtain ⟨l2, hl2⟩ := lw_nm (ck_w w2 p2 (f 0))
  obtain ⟨h0, hh0⟩ := lw_nm (ck_w w0 p0 (f 1))
  obtain ⟨h1, hh1⟩ := lw_nm (ck_w w1 p1 (f 1))
  obtain ⟨h2, hh2⟩ := lw_nm (ck_w w2 p2 (f 1))
  have kv : pj_b3 v0 v1 v2 := ⟨hv0 ▸ ck_v_01 hb.1, hv1 ▸ ck_v_01 hb.2.1, hv2 ▸ ck_v_01 hb.2.2⟩
  have kl : pj_b3 l0 l1 l2 := ⟨hl0 ▸ ck_w_01, hl1 ▸ ck_w_01, hl2 ▸ ck_w_01⟩
  have kh : pj_b3 h0 h1 h2 := ⟨hh0 ▸ ck_w_01, hh1 ▸ ck_w_01, hh2 ▸ ck_w_01⟩
  obtain ⟨m1, x7, ⟨y8, y9, y10⟩, ⟨y11, y12, y13⟩, ⟨y14, y15, y16⟩, ⟨y17, y18, y19⟩, ⟨y20, y21, y22⟩, z1, z2⟩ := tk_all (c := c) hR hg hv0 hv1 hv2 hs0 hs1 hs2 ha0 ha1 ha2 hmd hw0 hw1 hw2 ho0 ho1 ho2 hp0 hp1 hp2 har hl0 hl1 hl2 hh0 hh1 hh2
  obtain ⟨m1', x7', ⟨y8', y9', y10'⟩, ⟨y11', y12', y13'⟩, ⟨y14', y15', y16'⟩, ⟨y17', y18', y19'⟩, ⟨y20', y21', y22'⟩, z1', z2'⟩ := tk_all (f := f') (c := c) (v0 := v0) (v1 := v2) (v2 := v1) (s0 := s0) (s1 := s2) (s2 := s1) (a0 := a0) (a1 := a2) (a2 := a1) (w0 := w0) (w1 := w2) (w2 := w1) (o0 := o0) (o1 := o2) (o2 := o1) (p0 := p0) (p1 := p2) (p2 := p1) (l0 := l0) (l1 := l2) (l2 := l1) (h0 := h0) (h1 := h2) (h2 := h1) (md := md) (ar := ar) hR' hg' (by
    rw [← hv0]
    show (if sp_same (f' 17) (f' 20) x0 < f' 3 then f' 14 else 0) = (if sp_same (f 17) (f 20) x0 < f 3 then f 14 else 0)
    rw [e17, e20, e14, hs 3 (by decide)]) (by
    rw [← hv2]
    show (if sp_same (f' 18) (f' 21) x2 < f' 3 then f' 15 else 0) = (if sp_same (f 19) (f 22) x2 < f 3 then f 16 else 0)
    rw [e18, e21, e15, hs 3 (by decide)]) (by
    rw [← hv1]
    show (if sp_same (f' 19) (f' 22) x1 < f' 3 then f' 16 else 0) = (if sp_same (f 18) (f 21) x1 < f 3 then f 15 else 0)
    rw [e19, e22, e16, hs 3 (by decide)]) (by
    rw [← hs0]
    show sp_same (f' 17) (f' 20) x0 = sp_same (f 17) (f 20) x0
    rw [e17, e20]) (by
    rw [← hs2]
    show sp_same (f' 18) (f' 21) x2 = sp_same (f 19) (f 22) x2
    rw [e18, e21]) (by
    rw [← hs1]
    show sp_same (f' 19) (f' 22) x1 = sp_same (f 18) (f 21) x1
    rw [e19, e22]) (by rw [e8]; exact ha0) (by rw [e9]; exact ha2) (by rw [e10]; exact ha1) ((ck_mid_p4 kv).trans hmd) (by rw [hs 4 (by decide)]; exact ck_f_p4.trans hw0) (by rw [hs 4 (by decide)]; exact ck_f_p4.trans hw2) (by rw [hs 4 (by decide)]; exact ck_f_p4.trans hw1) (by rw [e8]; exact ho0) (by rw [e9]; exact ho2) (by rw [e10]; exact ho1) (by rw [e11]; exact hp0) (by rw [e12]; exact hp2) (by rw [e13]; exact hp1) (by rw [hs 7 (by decide), hs 2 (by decide)]; exact har) (by rw [hs 0 (by decide)]; exact hl0) (by rw [hs 0 (by decide)]; exact hl2) (by rw [hs 0 (by decide)]; exact hl1) (by rw [hs 1 (by decide)]; exact hh0) (by rw [hs 1 (by decide)]; exact hh2) (by rw [hs 1 (by decide)]; exact hh1)
  have hA : lw_A (tk_5 f (pj_a3 x0 x1 x2) c) (tk_5 f' (pj_a3 x0 x2 x1) c) := by
    intro j hj
    by_cases c7 : j = 7
    · subst c7
      rw [x7, x7']
    · rw [tk_5_ne (by omega), tk_5_ne (by omega)]
      by_cases c8 : j < 8
      · exact hs j c8
      · exact hu j (by omega) (by omega)
  have bl : sp_bits (tk_lo f' (pj_a3 x0 x2 x1) c) = sp_bits (tk_lo f (pj_a3 x0 x1 x2) c) := by
    rw [z1, z1', sp_bits_pk kl, sp_bits_pk ⟨kl.1, kl.2.2, kl.2.1⟩, lw_sum_4 kl]
  have bh : sp_bits (tk_hi f' (pj_a3 x0 x2 x1) c) = sp_bits (tk_hi f (pj_a3 x0 x1 x2) c) := by
    rw [z2, z2', sp_bits_pk kh, sp_bits_pk ⟨kh.1, kh.2.2, kh.2.1⟩, lw_sum_4 kh]
  have elo : tk_lo f' (pj_a3 x0 x2 x1) c = lw_set 4 (tk_lo f (pj_a3 x0 x1 x2) c) := by
    rw [z1, z1', lw_set_pk_4 kl]
  have ehi : tk_hi f' (pj_a3 x0 x2 x1) c = lw_set 4 (tk_hi f (pj_a3 x0 x1 x2) c) := by
    rw [z2, z2', lw_set_pk_4 kh]
  obtain ⟨h3, hfi⟩ := hA.f3 bl bh
  have hfi' : tk_fi f' (pj_a3 x0 x2 x1) c = tk_fi f (pj_a3 x0 x1 x2) c := hfi
  have h3' : lw_A (tk_6 f (pj_a3 x0 x1 x2) c) (tk_6 f' (pj_a3 x0 x2 x1) c) := h3
  refine ⟨lw_R.last hn h30 ?_ (m1'.trans m1.symm) hfi' elo ehi, hfi', m1'.trans m1.symm⟩
  refine ⟨fun j hj => ?_, fun j hj hj2 => ?_, fun i k hi hk => ?_, fun i hi => ?_⟩
  · by_cases c7 : j = 7
    · subst c7
      rw [tk_6_7, tk_6_7, x7, x7']
    · rw [tk_6_ne (by omega), tk_6_ne (by omega)]
      exact hs j hj
  · by_cases c3 : j ≤ 28
    · exact h3' j (by omega)
    · rw [tk_6_ne (by omega), tk_6_ne (by omega)]
      exact hu j hj hj2
  · have ci : i = 0 ∨ i = 1 ∨ i = 2 ∨ i = 3 ∨ i = 4 := by omega
    rcases lw_k3 hk with e | e | e <;> subst e
    · rw [th0]
      rcases ci with e | e | e | e | e <;> subst e
      · exact (tk_6_5 (Or.inl (by decide))).trans (y8'.trans (y8.symm.trans (tk_6_5 (Or.inl (by decide))).symm))
      · exact (tk_6_5 (Or.inl (by decide))).trans (y11'.trans (y11.symm.trans (tk_6_5 (Or.inl (by decide))).symm))
      · exact (tk_6_5 (Or.inl (by decide))).trans (y14'.trans (y14.symm.trans (tk_6_5 (Or.inl (by decide))).symm))
      · exact (tk_6_5 (Or.inl (by decide))).trans (y17'.trans (y17.symm.trans (tk_6_5 (Or.inl (by decide))).symm))
      · exact (tk_6_5 (Or.inl (by decide))).trans (y20'.trans (y20.symm.trans (tk_6_5 (Or.inl (by decide))).symm))
    · rw [th1]
      rcases ci with e | e | e | e | e <;> subst e
      · exact (tk_6_5 (Or.inl (by decide))).trans (y10'.trans (y9.symm.trans (tk_6_5 (Or.inl (by decide))).symm))
      · exact (tk_6_5 (Or.inl (by decide))).trans (y13'.trans (y12.symm.trans (tk_6_5 (Or.inl (by decide))).symm))
      · exact (tk_6_5 (Or.inl (by decide))).trans (y16'.trans (y15.symm.trans (tk_6_5 (Or.inl (by decide))).symm))
      · exact (tk_6_5 (Or.inl (by decide))).trans (y19'.trans (y18.symm.trans (tk_6_5 (Or.inl (by decide))).symm))
      · exact (tk_6_5 (Or.inl (by decide))).trans (y22'.trans (y21.symm.trans (tk_6_5 (Or.inl (by decide))).symm))
    · rw [th2]
      rcases ci with e | e | e | e | e <;> subst e
      · exact (tk_6_5 (Or.inl (by decide))).trans (y9'.trans (y10.symm.trans (tk_6_5 (Or.inl (by decide))).symm))
      · exact (tk_6_5 (Or.inl (by decide))).trans (y12'.trans (y13.symm.trans (tk_6_5 (Or.inl (by decide))).symm))
      · exact (tk_6_5 (Or.inl (by decide))).trans (y15'.trans (y16.symm.trans (tk_6_5 (Or.inl (by decide))).symm))
      · exact (tk_6_5 (Or.inl (by decide))).trans (y18'.trans (y19.symm.trans (tk_6_5 (Or.inl (by decide))).symm))
      · exact (tk_6_5 (Or.inl (by decide))).trans (y21'.trans (y22.symm.trans (tk_6_5 (Or.inl (by decide))).symm))
  · refine (hr i hi).of (fun j hj => ?_) (fun j hj => ?_)
    · rw [tk_6_ne (by omega)]
    · rw [tk_6_ne (by omega)]
theorem lw_sum_5 {x0 x1 x2 : Int32} (h : pj_b3 x0 x1 x2) : x1 + x0 + x2 = x0 + x1 + x2 := by
  obtain ⟨h0, h1, h2⟩ := h
  rcases h0 with rfl | rfl <;> rcases h1 with rfl | rfl <;> rcases h2 with rfl | rfl <;> decide
theorem lw_tick_5 {f f' : Nat → Int32} {t t' : Nat} {x0 x1 x2 c : Int32} (hR : pj_Ro f t) (hR' : pj_Ro f' t') (hg : ∀ k, k < 3 → -500 ≤ pj_a3 x0 x1 x2 k ∧ pj_a3 x0 x1 x2 k ≤ 500) (h : lw_R 5 f f') : lw_R 5 (sp_tick f (pj_a3 x0 x1 x2) c) (sp_tick f' (pj_a3 x1 x0 x2) c) ∧ tk_fi f' (pj_a3 x1 x0 x2) c = tk_fi f (pj_a3 x0 x1 x2) c ∧ tk_m f' (pj_a3 x1 x0 x2) = tk_m f (pj_a3 x0 x1 x2) := by
  obtain ⟨hs, hu, hq, hr⟩ := h
  obtain ⟨i0, i1, i2⟩ := pj_pk_in hg
  have hg' : ∀ k, k < 3 → -500 ≤ pj_a3 x1 x0 x2 k ∧ pj_a3 x1 x0 x2 k ≤ 500 := pj_in_pk i1 i0 i2
  have th0 : lw_th 5 0 = 1 := by decide
  have th1 : lw_th 5 1 = 0 := by decide
  have th2 : lw_th 5 2 = 2 := by decide
  have e9 : f' 9 = f 8 := by
    have q := hq 0 0 (by decide) (by decide)
    rw [th0] at q
    exact q
  have e8 : f' 8 = f 9 := by
    have q := hq 0 1 (by decide) (by decide)
    rw [th1] at q
    exact q
  have e10 : f' 10 = f 10 := by
    have q := hq 0 2 (by decide) (by decide)
    rw [th2] at q
    exact q
  have e12 : f' 12 = f 11 := by
    have q := hq 1 0 (by decide) (by decide)
    rw [th0] at q
    exact q
  have e11 : f' 11 = f 12 := by
    have q := hq 1 1 (by decide) (by decide)
    rw [th1] at q
    exact q
  have e13 : f' 13 = f 13 := by
    have q := hq 1 2 (by decide) (by decide)
    rw [th2] at q
    exact q
  have e15 : f' 15 = f 14 := by
    have q := hq 2 0 (by decide) (by decide)
    rw [th0] at q
    exact q
  have e14 : f' 14 = f 15 := by
    have q := hq 2 1 (by decide) (by decide)
    rw [th1] at q
    exact q
  have e16 : f' 16 = f 16 := by
    have q := hq 2 2 (by decide) (by decide)
    rw [th2] at q
    exact q
  have e18 : f' 18 = f 17 := by
    have q := hq 3 0 (by decide) (by decide)
    rw [th0] at q
    exact q
  have e17 : f' 17 = f 18 := by
    have q := hq 3 1 (by decide) (by decide)
    rw [th1] at q
    exact q
  have e19 : f' 19 = f 19 := by
    have q := hq 3 2 (by decide) (by decide)
    rw [th2] at q
    exact q
  have e21 : f' 21 = f 20 := by
    have q := hq 4 0 (by decide) (by decide)
    rw [th0] at q
    exact q
  have e20 : f' 20 = f 21 := by
    have q := hq 4 1 (by decide) (by decide)
    rw [th1] at q
    exact q
  have e22 : f' 22 = f 22 := by
    have q := hq 4 2 (by decide) (by decide)
    rw [th2] at q
    exact q
  have hRR := hR
  obtain ⟨-, ⟨n, hn, h30⟩, -, rv, -⟩ := hRR
  have hb : pj_b3 (f 14) (f 15) (f 16) := ⟨rv 0 (by decide), rv 1 (by decide), rv 2 (by decide)⟩
  obtain ⟨v0, hv0⟩ := lw_nm (ck_v f (pj_a3 x0 x1 x2) 0)
  obtain ⟨v1, hv1⟩ := lw_nm (ck_v f (pj_a3 x0 x1 x2) 1)
  obtain ⟨v2, hv2⟩ := lw_nm (ck_v f (pj_a3 x0 x1 x2) 2)
  obtain ⟨s0, hs0⟩ := lw_nm (ck_s f (pj_a3 x0 x1 x2) 0)
  obtain ⟨s1, hs1⟩ := lw_nm (ck_s f (pj_a3 x0 x1 x2) 1)
  obtain ⟨s2, hs2⟩ := lw_nm (ck_s f (pj_a3 x0 x1 x2) 2)
  obtain ⟨a0, ha0⟩ := lw_nm (x0 - f 8)
  obtain ⟨a1, ha1⟩ := lw_nm (x1 - f 9)
  obtain ⟨a2, ha2⟩ := lw_nm (x2 - f 10)
  obtain ⟨md, hmd⟩ := lw_nm (ck_mid v0 v1 v2 a0 a1 a2)
  obtain ⟨w0, hw0⟩ := lw_nm (ck_f v0 v1 v2 v0 (a0 - md) (f 4))
  obtain ⟨w1, hw1⟩ := lw_nm (ck_f v0 v1 v2 v1 (a1 - md) (f 4))
  obtain ⟨w2, hw2⟩ := lw_nm (ck_f v0 v1 v2 v2 (a2 - md) (f 4))
  obtain ⟨o0, ho0⟩ := lw_nm (ck_o (ck_q md c) w0 (f 8) x0)
  obtain ⟨o1, ho1⟩ := lw_nm (ck_o (ck_q md c) w1 (f 9) x1)
  obtain ⟨o2, ho2⟩ := lw_nm (ck_o (ck_q md c) w2 (f 10) x2)
  obtain ⟨p0, hp0⟩ := lw_nm (ck_sp (f 11) a0)
  obtain ⟨p1, hp1⟩ := lw_nm (ck_sp (f 12) a1)
  obtain ⟨p2, hp2⟩ := lw_nm (ck_sp (f 13) a2)
  obtain ⟨ar, har⟩ := lw_nm (if c = 0 then pj_mx (f 7 - 1) 0 else f 2)
  obtain ⟨l0, hl0⟩ := lw_nm (ck_w w0 p0 (f 0))
  obtain ⟨l1, hl1⟩ := lw_nm (ck_w w1 p1 (f 0))
  obtain ⟨l2, hl2⟩ := lw_nm (ck_w w2 p2 (f 0))
  obtain ⟨h0, hh0⟩ := lw_nm (ck_w w0 p0 (f 1))
  obtain ⟨h1, hh1⟩ := lw_nm (ck_w w1 p1 (f 1))
  obtain ⟨h2, hh2⟩ := lw_nm (ck_w w2 p2 (f 1))
  have kv : pj_b3 v0 v1 v2 := ⟨hv0 ▸ ck_v_01 hb.1, hv1 ▸ ck_v_01 hb.2.1, hv2 ▸ ck_v_01 hb.2.2⟩
  have kl : pj_b3 l0 l1 l2 := ⟨hl0 ▸ ck_w_01, hl1 ▸ ck_w_01, hl2 ▸ ck_w_01⟩
  have kh : pj_b3 h0 h1 h2 := ⟨hh0 ▸ ck_w_01, hh1 ▸ ck_w_01, hh2 ▸ ck_w_01⟩
  obtain ⟨m1, x7, ⟨y8, y9, y10⟩, ⟨y11, y12, y13⟩, ⟨y14, y15, y16⟩, ⟨y17, y18, y19⟩, ⟨y20, y21, y22⟩, z1, z2⟩ := tk_all (c := c) hR hg hv0 hv1 hv2 hs0 hs1 hs2 ha0 ha1 ha2 hmd hw0 hw1 hw2 ho0 ho1 ho2 hp0 hp1 hp2 har hl0 hl1 hl2 hh0 hh1 hh2
  obtain ⟨m1', x7', ⟨y8', y9', y10'⟩, ⟨y11', y12', y13'⟩, ⟨y14', y15', y16'⟩, ⟨y17', y18', y19'⟩, ⟨y20', y21', y22'⟩, z1', z2'⟩ := tk_all (f := f') (c := c) (v0 := v1) (v1 := v0) (v2 := v2) (s0 := s1) (s1 := s0) (s2 := s2) (a0 := a1) (a1 := a0) (a2 := a2) (w0 := w1) (w1 := w0) (w2 := w2) (o0 := o1) (o1 := o0) (o2 := o2) (p0 := p1) (p1 := p0) (p2 := p2) (l0 := l1) (l1 := l0) (l2 := l2) (h0 := h1) (h1 := h0) (h2 := h2) (md := md) (ar := ar) hR' hg' (by
    rw [← hv1]
    show (if sp_same (f' 17) (f' 20) x1 < f' 3 then f' 14 else 0) = (if sp_same (f 18) (f 21) x1 < f 3 then f 15 else 0)
    rw [e17, e20, e14, hs 3 (by decide)]) (by
    rw [← hv0]
    show (if sp_same (f' 18) (f' 21) x0 < f' 3 then f' 15 else 0) = (if sp_same (f 17) (f 20) x0 < f 3 then f 14 else 0)
    rw [e18, e21, e15, hs 3 (by decide)]) (by
    rw [← hv2]
    show (if sp_same (f' 19) (f' 22) x2 < f' 3 then f' 16 else 0) = (if sp_same (f 19) (f 22) x2 < f 3 then f 16 else 0)
    rw [e19, e22, e16, hs 3 (by decide)]) (by
    rw [← hs1]
    show sp_same (f' 17) (f' 20) x1 = sp_same (f 18) (f 21) x1
    rw [e17, e20]) (by
    rw [← hs0]
    show sp_same (f' 18) (f' 21) x0 = sp_same (f 17) (f 20) x0
    rw [e18, e21]) (by
    rw [← hs2]
    show sp_same (f' 19) (f' 22) x2 = sp_same (f 19) (f 22) x2
    rw [e19, e22]) (by rw [e8]; exact ha1) (by rw [e9]; exact ha0) (by rw [e10]; exact ha2) ((ck_mid_p5 kv).trans hmd) (by rw [hs 4 (by decide)]; exact ck_f_p5.trans hw1) (by rw [hs 4 (by decide)]; exact ck_f_p5.trans hw0) (by rw [hs 4 (by decide)]; exact ck_f_p5.trans hw2) (by rw [e8]; exact ho1) (by rw [e9]; exact ho0) (by rw [e10]; exact ho2) (by rw [e11]; exact hp1) (by rw [e12]; exact hp0) (by rw [e13]; exact hp2) (by rw [hs 7 (by decide), hs 2 (by decide)]; exact har) (by rw [hs 0 (by decide)]; exact hl1) (by rw [hs 0 (by decide)]; exact hl0) (by rw [hs 0 (by decide)]; exact hl2) (by rw [hs 1 (by decide)]; exact hh1) (by rw [hs 1 (by decide)]; exact hh0) (by rw [hs 1 (by decide)]; exact hh2)
  have hA : lw_A (tk_5 f (pj_a3 x0 x1 x2) c) (tk_5 f' (pj_a3 x1 x0 x2) c) := by
    intro j hj
    by_cases c7 : j = 7
    · subst c7
      rw [x7, x7']
    · rw [tk_5_ne (by omega), tk_5_ne (by omega)]
      by_cases c8 : j < 8
      · exact hs j c8
      · exact hu j (by omega) (by omega)
  have bl : sp_bits (tk_lo f' (pj_a3 x1 x0 x2) c) = sp_bits (tk_lo f (pj_a3 x0 x1 x2) c) := by
    rw [z1, z1', sp_bits_pk kl, sp_bits_pk ⟨kl.2.1, kl.1, kl.2.2⟩, lw_sum_5 kl]
  have bh : sp_bits (tk_hi f' (pj_a3 x1 x0 x2) c) = sp_bits (tk_hi f (pj_a3 x0 x1 x2) c) := by
    rw [z2, z2', sp_bits_pk kh, sp_bits_pk ⟨kh.2.1, kh.1, kh.2.2⟩, lw_sum_5 kh]
  have elo : tk_lo f' (pj_a3 x1 x0 x2) c = lw_set 5 (tk_lo f (pj_a3 x0 x1 x2) c) := by
    rw [z1, z1', lw_set_pk_5 kl]
  have ehi : tk_hi f' (pj_a3 x1 x0 x2) c = lw_set 5 (tk_hi f (pj_a3 x0 x1 x2) c) := by
    rw [z2, z2', lw_set_pk_5 kh]
  obtain ⟨h3, hfi⟩ := hA.f3 bl bh
  have hfi' : tk_fi f' (pj_a3 x1 x0 x2) c = tk_fi f (pj_a3 x0 x1 x2) c := hfi
  have h3' : lw_A (tk_6 f (pj_a3 x0 x1 x2) c) (tk_6 f' (pj_a3 x1 x0 x2) c) := h3
  refine ⟨lw_R.last hn h30 ?_ (m1'.trans m1.symm) hfi' elo ehi, hfi', m1'.trans m1.symm⟩
  refine ⟨fun j hj => ?_, fun j hj hj2 => ?_, fun i k hi hk => ?_, fun i hi => ?_⟩
  · by_cases c7 : j = 7
    · subst c7
      rw [tk_6_7, tk_6_7, x7, x7']
    · rw [tk_6_ne (by omega), tk_6_ne (by omega)]
      exact hs j hj
  · by_cases c3 : j ≤ 28
    · exact h3' j (by omega)
    · rw [tk_6_ne (by omega), tk_6_ne (by omega)]
      exact hu j hj hj2
  · have ci : i = 0 ∨ i = 1 ∨ i = 2 ∨ i = 3 ∨ i = 4 := by omega
    rcases lw_k3 hk with e | e | e <;> subst e
    · rw [th0]
      rcases ci with e | e | e | e | e <;> subst e
      · exact (tk_6_5 (Or.inl (by decide))).trans (y9'.trans (y8.symm.trans (tk_6_5 (Or.inl (by decide))).symm))
      · exact (tk_6_5 (Or.inl (by decide))).trans (y12'.trans (y11.symm.trans (tk_6_5 (Or.inl (by decide))).symm))
      · exact (tk_6_5 (Or.inl (by decide))).trans (y15'.trans (y14.symm.trans (tk_6_5 (Or.inl (by decide))).symm))
      · exact (tk_6_5 (Or.inl (by decide))).trans (y18'.trans (y17.symm.trans (tk_6_5 (Or.inl (by decide))).symm))
      · exact (tk_6_5 (Or.inl (by decide))).trans (y21'.trans (y20.symm.trans (tk_6_5 (Or.inl (by decide))).symm))
    · rw [th1]
      rcases ci with e | e | e | e | e <;> subst e
      · exact (tk_6_5 (Or.inl (by decide))).trans (y8'.trans (y9.symm.trans (tk_6_5 (Or.inl (by decide))).symm))
      · exact (tk_6_5 (Or.inl (by decide))).trans (y11'.trans (y12.symm.trans (tk_6_5 (Or.inl (by decide))).symm))
      · exact (tk_6_5 (Or.inl (by decide))).trans (y14'.trans (y15.symm.trans (tk_6_5 (Or.inl (by decide))).symm))
      · exact (tk_6_5 (Or.inl (by decide))).trans (y17'.trans (y18.symm.trans (tk_6_5 (Or.inl (by decide))).symm))
      · exact (tk_6_5 (Or.inl (by decide))).trans (y20'.trans (y21.symm.trans (tk_6_5 (Or.inl (by decide))).symm))
    · rw [th2]
      rcases ci with e | e | e | e | e <;> subst e
      · exact (tk_6_5 (Or.inl (by decide))).trans (y10'.trans (y10.symm.trans (tk_6_5 (Or.inl (by decide))).symm))
      · exact (tk_6_5 (Or.inl (by decide))).trans (y13'.trans (y13.symm.trans (tk_6_5 (Or.inl (by decide))).symm))
      · exact (tk_6_5 (Or.inl (by decide))).trans (y16'.trans (y16.symm.trans (tk_6_5 (Or.inl (by decide))).symm))
      · exact (tk_6_5 (Or.inl (by decide))).trans (y19'.trans (y19.symm.trans (tk_6_5 (Or.inl (by decide))).symm))
      · exact (tk_6_5 (Or.inl (by decide))).trans (y22'.trans (y22.symm.trans (tk_6_5 (Or.inl (by decide))).symm))
  · refine (hr i hi).of (fun j hj => ?_) (fun j hj => ?_)
    · rw [tk_6_ne (by omega)]
    · rw [tk_6_ne (by omega)]
