/-! A TICK PASSES IN THE CLASS -/
def pj_vc (n : Nat) : pj_Cell := .inl (5, [.ref 5, .ref 14, .ref 23, .ref 30, .ref 34, .int (nI n), .ref 89, .ref 108])
/-- the class's tick, whatever it holds -/
def pj_Tk (H : pj_Heap) : Prop := ∃ (ic nm vo md ar lo hi fi e0 e1 e2 a0 a1 a2 o0 o1 o2 p0 p1 p2 s0 s1 s2 t0 t1 t2 : Int32), H 23 = pj_tc ic nm vo md ar lo hi fi ∧ H 24 = .inr (0, 3, .inl (pj_a3 e0 e1 e2)) ∧ H 25 = .inr (0, 3, .inl (pj_a3 a0 a1 a2)) ∧ H 26 = .inr (0, 3, .inl (pj_a3 o0 o1 o2)) ∧ H 27 = .inr (0, 3, .inl (pj_a3 p0 p1 p2)) ∧ H 28 = .inr (0, 3, .inl (pj_a3 s0 s1 s2)) ∧ H 29 = .inr (0, 3, .inl (pj_a3 t0 t1 t2))
theorem pj_Tk.frame {H H' : pj_Heap} (h : pj_Tk H) (hF : ∀ i, i < 7 → H' (23 + i) = H (23 + i)) : pj_Tk H' := by
  obtain ⟨ic, nm, vo, md, ar, lo, hi, fi, e0, e1, e2, a0, a1, a2, o0, o1, o2, p0, p1, p2, s0, s1, s2, t0, t1, t2, h0, h1, h2, h3, h4, h5, h6⟩ := h
  exact ⟨ic, nm, vo, md, ar, lo, hi, fi, e0, e1, e2, a0, a1, a2, o0, o1, o2, p0, p1, p2, s0, s1, s2, t0, t1, t2, (hF 0 (by decide)).trans h0, (hF 1 (by decide)).trans h1, (hF 2 (by decide)).trans h2, (hF 3 (by decide)).trans h3, (hF 4 (by decide)).trans h4, (hF 5 (by decide)).trans h5, (hF 6 (by decide)).trans h6⟩
/-- the class's tick, worked out for a row -/
def pj_TkR (H : pj_Heap) (f g : Nat → Int32) (c : Int32) : Prop := H 23 = pj_tc c (f 6) (sp_vot (tk_6 f g c)) (tk_m f g) (tk_6 f g c 7) (tk_lo f g c) (tk_hi f g c) (tk_fi f g c) ∧ H 24 = .inr (0, 3, .inl (pj_a3 (g 0) (g 1) (g 2))) ∧ (∃ a0 a1 a2, H 25 = .inr (0, 3, .inl (pj_a3 a0 a1 a2))) ∧ H 26 = .inr (0, 3, .inl (pj_a3 (tk_6 f g c 8) (tk_6 f g c 9) (tk_6 f g c 10))) ∧ H 27 = .inr (0, 3, .inl (pj_a3 (tk_6 f g c 11) (tk_6 f g c 12) (tk_6 f g c 13))) ∧ H 28 = .inr (0, 3, .inl (pj_a3 (tk_6 f g c 17) (tk_6 f g c 18) (tk_6 f g c 19))) ∧ H 29 = .inr (0, 3, .inl (pj_a3 (tk_6 f g c 23) (tk_6 f g c 24) (tk_6 f g c 25)))
theorem pj_TkR.tk {H : pj_Heap} {f g : Nat → Int32} {c : Int32} (h : pj_TkR H f g c) : pj_Tk H := by
  obtain ⟨h0, h1, ⟨a0, a1, a2, h2⟩, h3, h4, h5, h6⟩ := h
  exact ⟨_, _, _, _, _, _, _, _, _, _, _, _, _, _, _, _, _, _, _, _, _, _, _, _, _, _, h0, h1, h2, h3, h4, h5, h6⟩
theorem tk_6_5 {f g : Nat → Int32} {c : Int32} {k : Nat} (h : k < 23 ∨ 25 < k) : tk_6 f g c k = tk_5 f g c k := by
  unfold tk_6
  exact sp_f3_ne h
theorem ck_yy_congr {F f : Nat → Int32} {nm L Hh : Int32} {k : Nat} (h : ∀ j, j = 5 ∨ 22 < j → F j = f j) : ck_yy F nm L Hh k = ck_yy f nm L Hh k := by
  unfold ck_yy
  rw [h 5 (by decide), h 23 (by decide), h 24 (by decide), h 25 (by decide), h 26 (by decide), h 27 (by decide), h 28 (by decide)]
theorem ck_ar_0 {x y c : Int32} (hy : 0 ≤ y) : 0 ≤ (if c = 0 then pj_mx x 0 else y) := by
  split
  · unfold pj_mx
    split
    · decide
    · rename_i h
      exact Int32.not_lt.mp h
  · exact hy
theorem i32_pos0 {x : Int32} (h : 0 ≤ x) (h2 : ¬ 0 < x) : x = 0 := by
  have e0 : (0 : Int32).toInt = 0 := rfl
  rw [Int32.le_iff_toInt_le, e0] at h
  rw [Int32.lt_iff_toInt_lt, e0] at h2
  apply Int32.toInt_inj.mp
  rw [e0]
  omega
theorem pj_Ro.pos {f : Nat → Int32} {t : Nat} (h : pj_Ro f t) (ht : t ≤ 200000) : 0 ≤ f 17 ∧ 0 ≤ f 18 ∧ 0 ≤ f 19 := by
  obtain ⟨-, -, -, -, -, -, -, h8, -, -⟩ := h
  obtain ⟨a0, l0, e0⟩ := h8 0 (by decide)
  obtain ⟨a1, l1, e1⟩ := h8 1 (by decide)
  obtain ⟨a2, l2, e2⟩ := h8 2 (by decide)
  refine ⟨?_, ?_, ?_⟩
  · exact (show f 17 = nI a0 from e0) ▸ nI_pos' (by omega)
  · exact (show f 18 = nI a1 from e1) ▸ nI_pos' (by omega)
  · exact (show f 19 = nI a2 from e2) ▸ nI_pos' (by omega)
section T15
variable {N S : Nat} {H : pj_Heap} {f : Nat → Int32} {b0 b1 b2 c : Int32}
theorem c_wk_5 {t : Nat} (hR : pj_Ro f t) (ht : t ≤ 200000) (hc : c = 0 ∨ c = 1) (hg : ∀ k, k < 3 → -500 ≤ pj_a3 b0 b1 b2 k ∧ pj_a3 b0 b1 b2 k ≤ 500) (hT : pj_Tk H) (hU : pj_U H 5 f) :
    ∃ H', pj_TkR H' f (pj_a3 b0 b1 b2) c ∧ (∀ j, j < 23 ∨ 29 < j → H' j = H j) ∧ pj_Ends 15 (0, [some (.ref 23), some (.ref 5), some (.int b0), some (.int b1), some (.int b2), some (.int c)], [], (N, S, H)) (none, (N, S, H')) := by
  have hR2 := hR
  obtain ⟨-, -, r6, rv, rb, r7, r2, -, -, -⟩ := hR2
  have bv : pj_b3 (f 14) (f 15) (f 16) := ⟨rv 0 (by decide), rv 1 (by decide), rv 2 (by decide)⟩
  have bb : pj_b3 (f 26) (f 27) (f 28) := ⟨rb 0 (by decide), rb 1 (by decide), rb 2 (by decide)⟩
  obtain ⟨z0, z1, z2⟩ := hR.pos ht
  obtain ⟨ic, nm, vo, md0, ar0, lo, hi, fi, e0, e1, e2, a0', a1', a2', o0', o1', o2', p0', p1', p2', s0', s1', s2', t0', t1', t2', k0, k1, k2, k3, k4, k5, k6⟩ := hT
  obtain ⟨v0, hv0⟩ : ∃ v, ck_v f (pj_a3 b0 b1 b2) 0 = v := ⟨_, rfl⟩
  obtain ⟨v1, hv1⟩ : ∃ v, ck_v f (pj_a3 b0 b1 b2) 1 = v := ⟨_, rfl⟩
  obtain ⟨v2, hv2⟩ : ∃ v, ck_v f (pj_a3 b0 b1 b2) 2 = v := ⟨_, rfl⟩
  obtain ⟨s0, hs0⟩ : ∃ v, ck_s f (pj_a3 b0 b1 b2) 0 = v := ⟨_, rfl⟩
  obtain ⟨s1, hs1⟩ : ∃ v, ck_s f (pj_a3 b0 b1 b2) 1 = v := ⟨_, rfl⟩
  obtain ⟨s2, hs2⟩ : ∃ v, ck_s f (pj_a3 b0 b1 b2) 2 = v := ⟨_, rfl⟩
  obtain ⟨a0, ha0⟩ : ∃ v, b0 - f 8 = v := ⟨_, rfl⟩
  obtain ⟨a1, ha1⟩ : ∃ v, b1 - f 9 = v := ⟨_, rfl⟩
  obtain ⟨a2, ha2⟩ : ∃ v, b2 - f 10 = v := ⟨_, rfl⟩
  obtain ⟨md, hmd⟩ : ∃ v, ck_mid v0 v1 v2 a0 a1 a2 = v := ⟨_, rfl⟩
  obtain ⟨w0, hw0⟩ : ∃ v, ck_f v0 v1 v2 v0 (a0 - md) (f 4) = v := ⟨_, rfl⟩
  obtain ⟨w1, hw1⟩ : ∃ v, ck_f v0 v1 v2 v1 (a1 - md) (f 4) = v := ⟨_, rfl⟩
  obtain ⟨w2, hw2⟩ : ∃ v, ck_f v0 v1 v2 v2 (a2 - md) (f 4) = v := ⟨_, rfl⟩
  obtain ⟨o0, ho0⟩ : ∃ v, ck_o (ck_q md c) w0 (f 8) b0 = v := ⟨_, rfl⟩
  obtain ⟨o1, ho1⟩ : ∃ v, ck_o (ck_q md c) w1 (f 9) b1 = v := ⟨_, rfl⟩
  obtain ⟨o2, ho2⟩ : ∃ v, ck_o (ck_q md c) w2 (f 10) b2 = v := ⟨_, rfl⟩
  obtain ⟨p0, hp0⟩ : ∃ v, ck_sp (f 11) a0 = v := ⟨_, rfl⟩
  obtain ⟨p1, hp1⟩ : ∃ v, ck_sp (f 12) a1 = v := ⟨_, rfl⟩
  obtain ⟨p2, hp2⟩ : ∃ v, ck_sp (f 13) a2 = v := ⟨_, rfl⟩
  obtain ⟨ar, har⟩ : ∃ v, (if c = 0 then pj_mx (f 7 - 1) 0 else f 2) = v := ⟨_, rfl⟩
  obtain ⟨l0, hl0⟩ : ∃ v, ck_w w0 p0 (f 0) = v := ⟨_, rfl⟩
  obtain ⟨l1, hl1⟩ : ∃ v, ck_w w1 p1 (f 0) = v := ⟨_, rfl⟩
  obtain ⟨l2, hl2⟩ : ∃ v, ck_w w2 p2 (f 0) = v := ⟨_, rfl⟩
  obtain ⟨h0, hh0⟩ : ∃ v, ck_w w0 p0 (f 1) = v := ⟨_, rfl⟩
  obtain ⟨h1, hh1⟩ : ∃ v, ck_w w1 p1 (f 1) = v := ⟨_, rfl⟩
  obtain ⟨h2, hh2⟩ : ∃ v, ck_w w2 p2 (f 1) = v := ⟨_, rfl⟩
  have W := c_workOut_5 (N := N) (S := S) (H := H) hc z0 z1 z2 bv bb hv0 hv1 hv2 hs0 hs1 hs2 ha0 ha1 ha2 hmd hw0 hw1 hw2 ho0 ho1 ho2 hp0 hp1 hp2 har hl0 hl1 hl2 hh0 hh1 hh2 k0 k1 k2 k3 k4 k5 k6 hU
  obtain ⟨em, x7, ⟨xo0, xo1, xo2⟩, ⟨xp0, xp1, xp2⟩, ⟨xw0, xw1, xw2⟩, ⟨xs0, xs1, xs2⟩, -, elo, ehi⟩ := tk_all (c := c) hR hg hv0 hv1 hv2 hs0 hs1 hs2 ha0 ha1 ha2 hmd hw0 hw1 hw2 ho0 ho1 ho2 hp0 hp1 hp2 har hl0 hl1 hl2 hh0 hh1 hh2
  have kl : pj_b3 l0 l1 l2 := ⟨hl0 ▸ ck_w_01, hl1 ▸ ck_w_01, hl2 ▸ ck_w_01⟩
  have kh : pj_b3 h0 h1 h2 := ⟨hh0 ▸ ck_w_01, hh1 ▸ ck_w_01, hh2 ▸ ck_w_01⟩
  have evo : sp_vot (tk_6 f (pj_a3 b0 b1 b2) c) = pj_pk w0 w1 w2 := by
    unfold sp_vot
    rw [tk_6_5 (by decide), tk_6_5 (by decide), tk_6_5 (by decide), xw0, xw1, xw2]
    rfl
  have ear : 0 ≤ ar := har ▸ ck_ar_0 r2
  by_cases c0 : 0 < ar
  · rw [if_pos c0] at W
    have h7 : ¬ tk_5 f (pj_a3 b0 b1 b2) c 7 = 0 := by
      rw [x7]
      intro qq
      rw [qq] at c0
      exact absurd c0 (by decide)
    have F := sp_f3_ck (F := tk_5 f (pj_a3 b0 b1 b2) c) h7 (by rw [tk_5_ne (by decide), tk_5_ne (by decide), tk_5_ne (by decide)]; exact bb) kl kh
    rw [tk_5_ne (k := 6) (by decide), tk_5_ne (k := 23) (by decide), tk_5_ne (k := 24) (by decide), tk_5_ne (k := 25) (by decide), ck_yy_congr (f := f) (fun j hj => tk_5_ne (by omega)), ck_yy_congr (f := f) (fun j hj => tk_5_ne (by omega)), ck_yy_congr (f := f) (fun j hj => tk_5_ne (by omega)), ← elo, ← ehi] at F
    obtain ⟨F0, F1, F2, Fi⟩ := F
    refine ⟨_, ⟨?_, ?_, ⟨a0, a1, a2, ?_⟩, ?_, ?_, ?_, ?_⟩, ?_, W⟩
    · rw [evo, em, tk_6_5 (by decide), x7, show tk_fi f (pj_a3 b0 b1 b2) c = _ from Fi, elo, ehi]
      exact (by (try simp (disch := decide) only [simprocAttr, pj_up_ap, if_true, if_false, pj_mo, k0]) <;> rfl)
    · exact (by (try simp (disch := decide) only [simprocAttr, pj_up_ap, if_true, if_false, pj_mo, k0]) <;> rfl)
    · exact (by (try simp (disch := decide) only [simprocAttr, pj_up_ap, if_true, if_false, pj_mo, k0]) <;> rfl)
    · rw [tk_6_5 (by decide), tk_6_5 (by decide), tk_6_5 (by decide), xo0, xo1, xo2]
      exact (by (try simp (disch := decide) only [simprocAttr, pj_up_ap, if_true, if_false, pj_mo, k0]) <;> rfl)
    · rw [tk_6_5 (by decide), tk_6_5 (by decide), tk_6_5 (by decide), xp0, xp1, xp2]
      exact (by (try simp (disch := decide) only [simprocAttr, pj_up_ap, if_true, if_false, pj_mo, k0]) <;> rfl)
    · rw [tk_6_5 (by decide), tk_6_5 (by decide), tk_6_5 (by decide), xs0, xs1, xs2]
      exact (by (try simp (disch := decide) only [simprocAttr, pj_up_ap, if_true, if_false, pj_mo, k0]) <;> rfl)
    · rw [show tk_6 f (pj_a3 b0 b1 b2) c 23 = _ from F0, show tk_6 f (pj_a3 b0 b1 b2) c 24 = _ from F1, show tk_6 f (pj_a3 b0 b1 b2) c 25 = _ from F2]
      exact (by (try simp (disch := decide) only [simprocAttr, pj_up_ap, if_true, if_false, pj_mo, k0]) <;> rfl)
    · intro j hj
      simp only [pj_up_ap]
      repeat rw [if_neg (by omega)]
  · rw [if_neg c0] at W
    have h7 : tk_5 f (pj_a3 b0 b1 b2) c 7 = 0 := x7.trans (i32_pos0 ear c0)
    obtain ⟨F0, Fi⟩ := sp_f3_no (F := tk_5 f (pj_a3 b0 b1 b2) c) (lo := tk_lo f (pj_a3 b0 b1 b2) c) (hi := tk_hi f (pj_a3 b0 b1 b2) c) h7
    have e6 : tk_6 f (pj_a3 b0 b1 b2) c = tk_5 f (pj_a3 b0 b1 b2) c := F0
    refine ⟨_, ⟨?_, ?_, ⟨a0, a1, a2, ?_⟩, ?_, ?_, ?_, ?_⟩, ?_, W⟩
    · rw [evo, em, tk_6_5 (by decide), x7, show tk_fi f (pj_a3 b0 b1 b2) c = _ from Fi, elo, ehi]
      exact (by (try simp (disch := decide) only [simprocAttr, pj_up_ap, if_true, if_false, pj_mo, k0]) <;> rfl)
    · exact (by (try simp (disch := decide) only [simprocAttr, pj_up_ap, if_true, if_false, pj_mo, k0]) <;> rfl)
    · exact (by (try simp (disch := decide) only [simprocAttr, pj_up_ap, if_true, if_false, pj_mo, k0]) <;> rfl)
    · rw [tk_6_5 (by decide), tk_6_5 (by decide), tk_6_5 (by decide), xo0, xo1, xo2]
      exact (by (try simp (disch := decide) only [simprocAttr, pj_up_ap, if_true, if_false, pj_mo, k0]) <;> rfl)
    · rw [tk_6_5 (by decide), tk_6_5 (by decide), tk_6_5 (by decide), xp0, xp1, xp2]
      exact (by (try simp (disch := decide) only [simprocAttr, pj_up_ap, if_true, if_false, pj_mo, k0]) <;> rfl)
    · rw [tk_6_5 (by decide), tk_6_5 (by decide), tk_6_5 (by decide), xs0, xs1, xs2]
      exact (by (try simp (disch := decide) only [simprocAttr, pj_up_ap, if_true, if_false, pj_mo, k0]) <;> rfl)
    · rw [e6, tk_5_ne (by decide), tk_5_ne (by decide), tk_5_ne (by decide)]
      exact (by (try simp (disch := decide) only [simprocAttr, pj_up_ap, if_true, if_false, pj_mo, k0]) <;> rfl)
    · intro j hj
      simp only [pj_up_ap]
      repeat rw [if_neg (by omega)]
theorem c_wk_14 {t : Nat} (hR : pj_Ro f t) (ht : t ≤ 200000) (hc : c = 0 ∨ c = 1) (hg : ∀ k, k < 3 → -500 ≤ pj_a3 b0 b1 b2 k ∧ pj_a3 b0 b1 b2 k ≤ 500) (hT : pj_Tk H) (hU : pj_U H 14 f) :
    ∃ H', pj_TkR H' f (pj_a3 b0 b1 b2) c ∧ (∀ j, j < 23 ∨ 29 < j → H' j = H j) ∧ pj_Ends 15 (0, [some (.ref 23), some (.ref 14), some (.int b0), some (.int b1), some (.int b2), some (.int c)], [], (N, S, H)) (none, (N, S, H')) := by
  have hR2 := hR
  obtain ⟨-, -, r6, rv, rb, r7, r2, -, -, -⟩ := hR2
  have bv : pj_b3 (f 14) (f 15) (f 16) := ⟨rv 0 (by decide), rv 1 (by decide), rv 2 (by decide)⟩
  have bb : pj_b3 (f 26) (f 27) (f 28) := ⟨rb 0 (by decide), rb 1 (by decide), rb 2 (by decide)⟩
  obtain ⟨z0, z1, z2⟩ := hR.pos ht
  obtain ⟨ic, nm, vo, md0, ar0, lo, hi, fi, e0, e1, e2, a0', a1', a2', o0', o1', o2', p0', p1', p2', s0', s1', s2', t0', t1', t2', k0, k1, k2, k3, k4, k5, k6⟩ := hT
  obtain ⟨v0, hv0⟩ : ∃ v, ck_v f (pj_a3 b0 b1 b2) 0 = v := ⟨_, rfl⟩
  obtain ⟨v1, hv1⟩ : ∃ v, ck_v f (pj_a3 b0 b1 b2) 1 = v := ⟨_, rfl⟩
  obtain ⟨v2, hv2⟩ : ∃ v, ck_v f (pj_a3 b0 b1 b2) 2 = v := ⟨_, rfl⟩
  obtain ⟨s0, hs0⟩ : ∃ v, ck_s f (pj_a3 b0 b1 b2) 0 = v := ⟨_, rfl⟩
  obtain ⟨s1, hs1⟩ : ∃ v, ck_s f (pj_a3 b0 b1 b2) 1 = v := ⟨_, rfl⟩
  obtain ⟨s2, hs2⟩ : ∃ v, ck_s f (pj_a3 b0 b1 b2) 2 = v := ⟨_, rfl⟩
  obtain ⟨a0, ha0⟩ : ∃ v, b0 - f 8 = v := ⟨_, rfl⟩
  obtain ⟨a1, ha1⟩ : ∃ v, b1 - f 9 = v := ⟨_, rfl⟩
  obtain ⟨a2, ha2⟩ : ∃ v, b2 - f 10 = v := ⟨_, rfl⟩
  obtain ⟨md, hmd⟩ : ∃ v, ck_mid v0 v1 v2 a0 a1 a2 = v := ⟨_, rfl⟩
  obtain ⟨w0, hw0⟩ : ∃ v, ck_f v0 v1 v2 v0 (a0 - md) (f 4) = v := ⟨_, rfl⟩
  obtain ⟨w1, hw1⟩ : ∃ v, ck_f v0 v1 v2 v1 (a1 - md) (f 4) = v := ⟨_, rfl⟩
  obtain ⟨w2, hw2⟩ : ∃ v, ck_f v0 v1 v2 v2 (a2 - md) (f 4) = v := ⟨_, rfl⟩
  obtain ⟨o0, ho0⟩ : ∃ v, ck_o (ck_q md c) w0 (f 8) b0 = v := ⟨_, rfl⟩
  obtain ⟨o1, ho1⟩ : ∃ v, ck_o (ck_q md c) w1 (f 9) b1 = v := ⟨_, rfl⟩
  obtain ⟨o2, ho2⟩ : ∃ v, ck_o (ck_q md c) w2 (f 10) b2 = v := ⟨_, rfl⟩
  obtain ⟨p0, hp0⟩ : ∃ v, ck_sp (f 11) a0 = v := ⟨_, rfl⟩
  obtain ⟨p1, hp1⟩ : ∃ v, ck_sp (f 12) a1 = v := ⟨_, rfl⟩
  obtain ⟨p2, hp2⟩ : ∃ v, ck_sp (f 13) a2 = v := ⟨_, rfl⟩
  obtain ⟨ar, har⟩ : ∃ v, (if c = 0 then pj_mx (f 7 - 1) 0 else f 2) = v := ⟨_, rfl⟩
  obtain ⟨l0, hl0⟩ : ∃ v, ck_w w0 p0 (f 0) = v := ⟨_, rfl⟩
  obtain ⟨l1, hl1⟩ : ∃ v, ck_w w1 p1 (f 0) = v := ⟨_, rfl⟩
  obtain ⟨l2, hl2⟩ : ∃ v, ck_w w2 p2 (f 0) = v := ⟨_, rfl⟩
  obtain ⟨h0, hh0⟩ : ∃ v, ck_w w0 p0 (f 1) = v := ⟨_, rfl⟩
  obtain ⟨h1, hh1⟩ : ∃ v, ck_w w1 p1 (f 1) = v := ⟨_, rfl⟩
  obtain ⟨h2, hh2⟩ : ∃ v, ck_w w2 p2 (f 1) = v := ⟨_, rfl⟩
  have W := c_workOut_14 (N := N) (S := S) (H := H) hc z0 z1 z2 bv bb hv0 hv1 hv2 hs0 hs1 hs2 ha0 ha1 ha2 hmd hw0 hw1 hw2 ho0 ho1 ho2 hp0 hp1 hp2 har hl0 hl1 hl2 hh0 hh1 hh2 k0 k1 k2 k3 k4 k5 k6 hU
  obtain ⟨em, x7, ⟨xo0, xo1, xo2⟩, ⟨xp0, xp1, xp2⟩, ⟨xw0, xw1, xw2⟩, ⟨xs0, xs1, xs2⟩, -, elo, ehi⟩ := tk_all (c := c) hR hg hv0 hv1 hv2 hs0 hs1 hs2 ha0 ha1 ha2 hmd hw0 hw1 hw2 ho0 ho1 ho2 hp0 hp1 hp2 har hl0 hl1 hl2 hh0 hh1 hh2
  have kl : pj_b3 l0 l1 l2 := ⟨hl0 ▸ ck_w_01, hl1 ▸ ck_w_01, hl2 ▸ ck_w_01⟩
  have kh : pj_b3 h0 h1 h2 := ⟨hh0 ▸ ck_w_01, hh1 ▸ ck_w_01, hh2 ▸ ck_w_01⟩
  have evo : sp_vot (tk_6 f (pj_a3 b0 b1 b2) c) = pj_pk w0 w1 w2 := by
    unfold sp_vot
    rw [tk_6_5 (by decide), tk_6_5 (by decide), tk_6_5 (by decide), xw0, xw1, xw2]
    rfl
  have ear : 0 ≤ ar := har ▸ ck_ar_0 r2
  by_cases c0 : 0 < ar
  · rw [if_pos c0] at W
    have h7 : ¬ tk_5 f (pj_a3 b0 b1 b2) c 7 = 0 := by
      rw [x7]
      intro qq
      rw [qq] at c0
      exact absurd c0 (by decide)
    have F := sp_f3_ck (F := tk_5 f (pj_a3 b0 b1 b2) c) h7 (by rw [tk_5_ne (by decide), tk_5_ne (by decide), tk_5_ne (by decide)]; exact bb) kl kh
    rw [tk_5_ne (k := 6) (by decide), tk_5_ne (k := 23) (by decide), tk_5_ne (k := 24) (by decide), tk_5_ne (k := 25) (by decide), ck_yy_congr (f := f) (fun j hj => tk_5_ne (by omega)), ck_yy_congr (f := f) (fun j hj => tk_5_ne (by omega)), ck_yy_congr (f := f) (fun j hj => tk_5_ne (by omega)), ← elo, ← ehi] at F
    obtain ⟨F0, F1, F2, Fi⟩ := F
    refine ⟨_, ⟨?_, ?_, ⟨a0, a1, a2, ?_⟩, ?_, ?_, ?_, ?_⟩, ?_, W⟩
    · rw [evo, em, tk_6_5 (by decide), x7, show tk_fi f (pj_a3 b0 b1 b2) c = _ from Fi, elo, ehi]
      exact (by (try simp (disch := decide) only [simprocAttr, pj_up_ap, if_true, if_false, pj_mo, k0]) <;> rfl)
    · exact (by (try simp (disch := decide) only [simprocAttr, pj_up_ap, if_true, if_false, pj_mo, k0]) <;> rfl)
    · exact (by (try simp (disch := decide) only [simprocAttr, pj_up_ap, if_true, if_false, pj_mo, k0]) <;> rfl)
    · rw [tk_6_5 (by decide), tk_6_5 (by decide), tk_6_5 (by decide), xo0, xo1, xo2]
      exact (by (try simp (disch := decide) only [simprocAttr, pj_up_ap, if_true, if_false, pj_mo, k0]) <;> rfl)
    · rw [tk_6_5 (by decide), tk_6_5 (by decide), tk_6_5 (by decide), xp0, xp1, xp2]
      exact (by (try simp (disch := decide) only [simprocAttr, pj_up_ap, if_true, if_false, pj_mo, k0]) <;> rfl)
    · rw [tk_6_5 (by decide), tk_6_5 (by decide), tk_6_5 (by decide), xs0, xs1, xs2]
      exact (by (try simp (disch := decide) only [simprocAttr, pj_up_ap, if_true, if_false, pj_mo, k0]) <;> rfl)
    · rw [show tk_6 f (pj_a3 b0 b1 b2) c 23 = _ from F0, show tk_6 f (pj_a3 b0 b1 b2) c 24 = _ from F1, show tk_6 f (pj_a3 b0 b1 b2) c 25 = _ from F2]
      exact (by (try simp (disch := decide) only [simprocAttr, pj_up_ap, if_true, if_false, pj_mo, k0]) <;> rfl)
    · intro j hj
      simp only [pj_up_ap]
      repeat rw [if_neg (by omega)]
  · rw [if_neg c0] at W
    have h7 : tk_5 f (pj_a3 b0 b1 b2) c 7 = 0 := x7.trans (i32_pos0 ear c0)
    obtain ⟨F0, Fi⟩ := sp_f3_no (F := tk_5 f (pj_a3 b0 b1 b2) c) (lo := tk_lo f (pj_a3 b0 b1 b2) c) (hi := tk_hi f (pj_a3 b0 b1 b2) c) h7
    have e6 : tk_6 f (pj_a3 b0 b1 b2) c = tk_5 f (pj_a3 b0 b1 b2) c := F0
    refine ⟨_, ⟨?_, ?_, ⟨a0, a1, a2, ?_⟩, ?_, ?_, ?_, ?_⟩, ?_, W⟩
    · rw [evo, em, tk_6_5 (by decide), x7, show tk_fi f (pj_a3 b0 b1 b2) c = _ from Fi, elo, ehi]
      exact (by (try simp (disch := decide) only [simprocAttr, pj_up_ap, if_true, if_false, pj_mo, k0]) <;> rfl)
    · exact (by (try simp (disch := decide) only [simprocAttr, pj_up_ap, if_true, if_false, pj_mo, k0]) <;> rfl)
    · exact (by (try simp (disch := decide) only [simprocAttr, pj_up_ap, if_true, if_false, pj_mo, k0]) <;> rfl)
    · rw [tk_6_5 (by decide), tk_6_5 (by decide), tk_6_5 (by decide), xo0, xo1, xo2]
      exact (by (try simp (disch := decide) only [simprocAttr, pj_up_ap, if_true, if_false, pj_mo, k0]) <;> rfl)
    · rw [tk_6_5 (by decide), tk_6_5 (by decide), tk_6_5 (by decide), xp0, xp1, xp2]
      exact (by (try simp (disch := decide) only [simprocAttr, pj_up_ap, if_true, if_false, pj_mo, k0]) <;> rfl)
    · rw [tk_6_5 (by decide), tk_6_5 (by decide), tk_6_5 (by decide), xs0, xs1, xs2]
      exact (by (try simp (disch := decide) only [simprocAttr, pj_up_ap, if_true, if_false, pj_mo, k0]) <;> rfl)
    · rw [e6, tk_5_ne (by decide), tk_5_ne (by decide), tk_5_ne (by decide)]
      exact (by (try simp (disch := decide) only [simprocAttr, pj_up_ap, if_true, if_false, pj_mo, k0]) <;> rfl)
    · intro j hj
      simp only [pj_up_ap]
      repeat rw [if_neg (by omega)]
end T15
