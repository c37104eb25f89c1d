/-! THE CLASS'S fault -/
section T50
variable {N S : Nat} {p : Nat → Int32} {l : Nat}
theorem rd_run_ok : ∀ (n s : Nat) (q q' : rd_S), rd_ok q → rd_run p n s q = some q' → rd_ok q'
  | 0, s, q, q', h, e => by
    have e1 : q = q' := Option.some.inj e
    exact e1 ▸ h
  | n + 1, s, q, q', h, e => by
    unfold rd_run at e
    cases c : rd_acc q (p s) with
    | none =>
      rw [c] at e
      cases e
    | some q1 =>
      rw [c] at e
      exact rd_run_ok n (s + 1) q1 q' (rd_acc_ok h c) e
theorem c_ff_1 {H : pj_Heap} {i : Nat} {q q' : rd_S} (hl : l ≤ 80) (hi : i < l) (h0 : H 30 = pj_pc l) (h1 : H 31 = .inr (1, 80, .inl p)) (hq : rd_ok q) (h : pj_RS H q) (e : rd_acc q (p i) = some q') :
    ∃ H1, pj_RS H1 q' ∧ (∀ j, j ≠ 32 → j ≠ 33 → H1 j = H j) ∧ ∀ o, pj_Ends 57 (9, [some (.ref 30), some (.int (nI (i + 1)))], [], (N, S, H1)) o → pj_Ends 57 (9, [some (.ref 30), some (.int (nI i))], [], (N, S, H)) o := by
  obtain ⟨H1, g1, g2, g3⟩ := (c_accept (N := N) (S := S) (ch := p i) hq h).1 q' e
  refine ⟨H1, g1, g2, fun o K => ?_⟩
  have c1 : nI i < nI l := (nI_ltI (by omega) (by omega)).mpr hi
  have c1' : ¬ nI l ≤ nI i := Int32.not_le.mpr c1
  have e5 : (nI i).toNatClampNeg = i := nI_clamp (by omega)
  have e6 : pj_in (nI i) 80 = true := pj_in_nI (by omega) (by decide)
  rw [x57_9]
  simp (disch := first | assumption | exact pj_long_i | exact pj_long_r | exact pj_long_n | decide) only [x57_10, x57_11, x57_14, x57_17, x57_18, x57_21, x57_22, x57_25, x57_26, simprocAttr, pj_then_s, pj_pv_s, pj_pi_s, pj_set_s, if_true, if_false, not_true_eq_false, not_false_eq_true, pj_up_up, pj_so110_109, pj_so111_109, pj_so112_109, pj_so113_109, pj_so114_109, pj_so115_109, pj_so116_109, pj_so117_109, pj_so111_110, pj_so112_110, pj_so113_110, pj_so114_110, pj_so115_110, pj_so116_110, pj_so117_110, pj_so112_111, pj_so113_111, pj_so114_111, pj_so115_111, pj_so116_111, pj_so117_111, pj_so113_112, pj_so114_112, pj_so115_112, pj_so116_112, pj_so117_112, pj_so114_113, pj_so115_113, pj_so116_113, pj_so117_113, pj_so115_114, pj_so116_114, pj_so117_114, pj_so116_115, pj_so117_115, pj_so117_116, pj_up_ap, pj_upd_ap, pj_a3_0, pj_a3_1, pj_a3_2, pj_a3_u0, pj_a3_u1, pj_a3_u2, pj_f0_2, pj_f0_1, pj_f0_0, pj_arl_i, h0, pj_pc, h1, c1, c1', e5, e6]
  refine e57_27 rfl (by rw [h.1]; rfl) g3 ?_
  simp (disch := first | assumption | exact pj_long_i | exact pj_long_r | exact pj_long_n | decide) only [x57_30, x57_33, x57_35, x57_38, simprocAttr, pj_then_s, pj_pv_s, pj_pi_s, pj_set_s, if_true, if_false, not_true_eq_false, not_false_eq_true, pj_up_up, pj_so110_109, pj_so111_109, pj_so112_109, pj_so113_109, pj_so114_109, pj_so115_109, pj_so116_109, pj_so117_109, pj_so111_110, pj_so112_110, pj_so113_110, pj_so114_110, pj_so115_110, pj_so116_110, pj_so117_110, pj_so112_111, pj_so113_111, pj_so114_111, pj_so115_111, pj_so116_111, pj_so117_111, pj_so113_112, pj_so114_112, pj_so115_112, pj_so116_112, pj_so117_112, pj_so114_113, pj_so115_113, pj_so116_113, pj_so117_113, pj_so115_114, pj_so116_114, pj_so117_114, pj_so116_115, pj_so117_115, pj_so117_116, pj_up_ap, pj_upd_ap, pj_a3_0, pj_a3_1, pj_a3_2, pj_a3_u0, pj_a3_u1, pj_a3_u2, pj_long_i, pj_long_r, pj_long_n, nI_1]
  exact K
theorem c_ff_seg : ∀ (n s : Nat) (q q' : rd_S) (H : pj_Heap), l ≤ 80 → s + n ≤ l → H 30 = pj_pc l → H 31 = .inr (1, 80, .inl p) → rd_ok q → pj_RS H q → rd_run p n s q = some q' →
    ∃ H1, pj_RS H1 q' ∧ (∀ j, j ≠ 32 → j ≠ 33 → H1 j = H j) ∧ ∀ o, pj_Ends 57 (9, [some (.ref 30), some (.int (nI (s + n)))], [], (N, S, H1)) o → pj_Ends 57 (9, [some (.ref 30), some (.int (nI s))], [], (N, S, H)) o
  | 0, s, q, q', H, hl, hs, h0, h1, hq, h, e => by
    have e1 : q = q' := Option.some.inj e
    exact ⟨H, e1 ▸ h, fun _ _ _ => rfl, fun o K => K⟩
  | n + 1, s, q, q', H, hl, hs, h0, h1, hq, h, e => by
    unfold rd_run at e
    cases c : rd_acc q (p s) with
    | none =>
      rw [c] at e
      cases e
    | some q1 =>
      rw [c] at e
      obtain ⟨H1, a1, a2, a3⟩ := c_ff_1 (N := N) (S := S) hl (by omega) h0 h1 hq h c
      obtain ⟨H2, b1, b2, b3⟩ := c_ff_seg n (s + 1) q1 q' H1 hl (by omega) ((a2 30 (by decide) (by decide)).trans h0) ((a2 31 (by decide) (by decide)).trans h1) (rd_acc_ok hq c) a1 e
      refine ⟨H2, b1, fun j x y => (b2 j x y).trans (a2 j x y), fun o K => a3 o (b3 o ?_)⟩
      rw [show s + 1 + n = s + (n + 1) from by omega]
      exact K
/-- the end of the text -/
theorem c_ff_end {H : pj_Heap} {q : rd_S} (hl : l ≤ 80) (h0 : H 30 = pj_pc l) (hq : rd_ok q) (h : pj_RS H q) : pj_Ends 57 (9, [some (.ref 30), some (.int (nI l))], [], (N, S, H)) (some (.int (if rd_en q = 0 then nI l else -6)), (N, S, H)) := by
  have c1 : ¬ nI l < nI l := Int32.lt_irrefl
  have c2 : nI l ≤ nI l := Int32.le_refl _
  by_cases c : rd_en q = 0
  · rw [if_pos c]
    simp (disch := first | assumption | exact pj_long_i | exact pj_long_r | exact pj_long_n | decide) only [x57_9, x57_10, x57_11, x57_14, x57_17, x57_18, x57_21, x57_22, x57_25, x57_26, x57_30, x57_33, x57_35, x57_38, x57_41, x57_42, simprocAttr, pj_then_s, pj_pv_s, pj_pi_s, pj_set_s, if_true, if_false, not_true_eq_false, not_false_eq_true, pj_up_up, pj_so110_109, pj_so111_109, pj_so112_109, pj_so113_109, pj_so114_109, pj_so115_109, pj_so116_109, pj_so117_109, pj_so111_110, pj_so112_110, pj_so113_110, pj_so114_110, pj_so115_110, pj_so116_110, pj_so117_110, pj_so112_111, pj_so113_111, pj_so114_111, pj_so115_111, pj_so116_111, pj_so117_111, pj_so113_112, pj_so114_112, pj_so115_112, pj_so116_112, pj_so117_112, pj_so114_113, pj_so115_113, pj_so116_113, pj_so117_113, pj_so115_114, pj_so116_114, pj_so117_114, pj_so116_115, pj_so117_115, pj_so117_116, pj_up_ap, pj_upd_ap, pj_a3_0, pj_a3_1, pj_a3_2, pj_a3_u0, pj_a3_u1, pj_a3_u2, pj_f0_2, pj_f0_1, pj_f0_0, pj_arl_i, pj_long_i, pj_long_r, pj_long_n, h0, pj_pc, c1, c2]
    refine e57_45 rfl (by rw [h.1]; rfl) (c_isAtTickEnd hq h) ?_
    simp (disch := first | assumption | exact pj_long_i | exact pj_long_r | exact pj_long_n | decide) only [x57_48, x57_51, x57_53, x57_56, x57_57, simprocAttr, pj_then_s, pj_pv_s, pj_pi_s, pj_set_s, if_true, if_false, not_true_eq_false, not_false_eq_true, pj_up_up, pj_so110_109, pj_so111_109, pj_so112_109, pj_so113_109, pj_so114_109, pj_so115_109, pj_so116_109, pj_so117_109, pj_so111_110, pj_so112_110, pj_so113_110, pj_so114_110, pj_so115_110, pj_so116_110, pj_so117_110, pj_so112_111, pj_so113_111, pj_so114_111, pj_so115_111, pj_so116_111, pj_so117_111, pj_so113_112, pj_so114_112, pj_so115_112, pj_so116_112, pj_so117_112, pj_so114_113, pj_so115_113, pj_so116_113, pj_so117_113, pj_so115_114, pj_so116_114, pj_so117_114, pj_so116_115, pj_so117_115, pj_so117_116, pj_up_ap, pj_upd_ap, pj_a3_0, pj_a3_1, pj_a3_2, pj_a3_u0, pj_a3_u1, pj_a3_u2, pj_f0_2, h0, pj_pc, c]
    exact t57_60
  · rw [if_neg c]
    simp (disch := first | assumption | exact pj_long_i | exact pj_long_r | exact pj_long_n | decide) only [x57_9, x57_10, x57_11, x57_14, x57_17, x57_18, x57_21, x57_22, x57_25, x57_26, x57_30, x57_33, x57_35, x57_38, x57_41, x57_42, simprocAttr, pj_then_s, pj_pv_s, pj_pi_s, pj_set_s, if_true, if_false, not_true_eq_false, not_false_eq_true, pj_up_up, pj_so110_109, pj_so111_109, pj_so112_109, pj_so113_109, pj_so114_109, pj_so115_109, pj_so116_109, pj_so117_109, pj_so111_110, pj_so112_110, pj_so113_110, pj_so114_110, pj_so115_110, pj_so116_110, pj_so117_110, pj_so112_111, pj_so113_111, pj_so114_111, pj_so115_111, pj_so116_111, pj_so117_111, pj_so113_112, pj_so114_112, pj_so115_112, pj_so116_112, pj_so117_112, pj_so114_113, pj_so115_113, pj_so116_113, pj_so117_113, pj_so115_114, pj_so116_114, pj_so117_114, pj_so116_115, pj_so117_115, pj_so117_116, pj_up_ap, pj_upd_ap, pj_a3_0, pj_a3_1, pj_a3_2, pj_a3_u0, pj_a3_u1, pj_a3_u2, pj_f0_2, pj_f0_1, pj_f0_0, pj_arl_i, pj_long_i, pj_long_r, pj_long_n, h0, pj_pc, c1, c2]
    refine e57_45 rfl (by rw [h.1]; rfl) (c_isAtTickEnd hq h) ?_
    simp (disch := first | assumption | exact pj_long_i | exact pj_long_r | exact pj_long_n | decide) only [x57_48, x57_51, x57_53, x57_56, x57_57, simprocAttr, pj_then_s, pj_pv_s, pj_pi_s, pj_set_s, if_true, if_false, not_true_eq_false, not_false_eq_true, pj_up_up, pj_so110_109, pj_so111_109, pj_so112_109, pj_so113_109, pj_so114_109, pj_so115_109, pj_so116_109, pj_so117_109, pj_so111_110, pj_so112_110, pj_so113_110, pj_so114_110, pj_so115_110, pj_so116_110, pj_so117_110, pj_so112_111, pj_so113_111, pj_so114_111, pj_so115_111, pj_so116_111, pj_so117_111, pj_so113_112, pj_so114_112, pj_so115_112, pj_so116_112, pj_so117_112, pj_so114_113, pj_so115_113, pj_so116_113, pj_so117_113, pj_so115_114, pj_so116_114, pj_so117_114, pj_so116_115, pj_so117_115, pj_so117_116, pj_up_ap, pj_upd_ap, pj_a3_0, pj_a3_1, pj_a3_2, pj_a3_u0, pj_a3_u1, pj_a3_u2, pj_f0_2, h0, pj_pc, c]
    exact t57_60
theorem c_ff_no {H : pj_Heap} {i : Nat} {q : rd_S} (hl : l ≤ 80) (hi : i < l) (h0 : H 30 = pj_pc l) (h1 : H 31 = .inr (1, 80, .inl p)) (hq : rd_ok q) (h : pj_RS H q) (e : rd_acc q (p i) = none) : pj_Ends 57 (9, [some (.ref 30), some (.int (nI i))], [], (N, S, H)) (some (.int (nI i)), (N, S, H)) := by
  have g := (c_accept (N := N) (S := S) (ch := p i) hq h).2 e
  have c1 : nI i < nI l := (nI_ltI (by omega) (by omega)).mpr hi
  have c1' : ¬ nI l ≤ nI i := Int32.not_le.mpr c1
  have e5 : (nI i).toNatClampNeg = i := nI_clamp (by omega)
  have e6 : pj_in (nI i) 80 = true := pj_in_nI (by omega) (by decide)
  simp (disch := first | assumption | exact pj_long_i | exact pj_long_r | exact pj_long_n | decide) only [x57_9, x57_10, x57_11, x57_14, x57_17, x57_18, x57_21, x57_22, x57_25, x57_26, simprocAttr, pj_then_s, pj_pv_s, pj_pi_s, pj_set_s, if_true, if_false, not_true_eq_false, not_false_eq_true, pj_up_up, pj_so110_109, pj_so111_109, pj_so112_109, pj_so113_109, pj_so114_109, pj_so115_109, pj_so116_109, pj_so117_109, pj_so111_110, pj_so112_110, pj_so113_110, pj_so114_110, pj_so115_110, pj_so116_110, pj_so117_110, pj_so112_111, pj_so113_111, pj_so114_111, pj_so115_111, pj_so116_111, pj_so117_111, pj_so113_112, pj_so114_112, pj_so115_112, pj_so116_112, pj_so117_112, pj_so114_113, pj_so115_113, pj_so116_113, pj_so117_113, pj_so115_114, pj_so116_114, pj_so117_114, pj_so116_115, pj_so117_115, pj_so117_116, pj_up_ap, pj_upd_ap, pj_a3_0, pj_a3_1, pj_a3_2, pj_a3_u0, pj_a3_u1, pj_a3_u2, pj_f0_2, pj_f0_1, pj_f0_0, pj_arl_i, h0, pj_pc, h1, c1, c1', e5, e6]
  refine e57_27 rfl (by rw [h.1]; rfl) g ?_
  simp (disch := first | assumption | exact pj_long_i | exact pj_long_r | exact pj_long_n | decide) only [x57_30, x57_33, simprocAttr, pj_then_s, pj_pv_s, pj_pi_s, pj_set_s, if_true, if_false, not_true_eq_false, not_false_eq_true, pj_up_up, pj_so110_109, pj_so111_109, pj_so112_109, pj_so113_109, pj_so114_109, pj_so115_109, pj_so116_109, pj_so117_109, pj_so111_110, pj_so112_110, pj_so113_110, pj_so114_110, pj_so115_110, pj_so116_110, pj_so117_110, pj_so112_111, pj_so113_111, pj_so114_111, pj_so115_111, pj_so116_111, pj_so117_111, pj_so113_112, pj_so114_112, pj_so115_112, pj_so116_112, pj_so117_112, pj_so114_113, pj_so115_113, pj_so116_113, pj_so117_113, pj_so115_114, pj_so116_114, pj_so117_114, pj_so116_115, pj_so117_115, pj_so117_116, pj_up_ap, pj_upd_ap, pj_a3_0, pj_a3_1, pj_a3_2, pj_a3_u0, pj_a3_u1, pj_a3_u2]
  exact t57_34
/-- where the reader refuses -/
theorem c_ff_F {H : pj_Heap} {tk : Int32} {s pos : Nat} {q : rd_S} (hl : l ≤ 80) (h0 : H 30 = pj_pc l) (h1 : H 31 = .inr (1, 80, .inl p)) (hq : rd_ok q) (h : pj_RS H q) (hF : rd_FA p l tk s q pos) : ∃ H1 q1, pj_RS H1 q1 ∧ rd_ok q1 ∧ (∀ j, j ≠ 32 → j ≠ 33 → H1 j = H j) ∧ pj_Ends 57 (9, [some (.ref 30), some (.int (nI s))], [], (N, S, H)) (some (.int (nI pos)), (N, S, H1)) := by
  obtain ⟨hp, q', ⟨n, rfl, er, -⟩, -, en, hno⟩ := hF
  obtain ⟨H1, a1, a2, a3⟩ := c_ff_seg (N := N) (S := S) n s q q' H hl hp h0 h1 hq h er
  have hq' := rd_run_ok n s q q' hq er
  refine ⟨H1, q', a1, hq', a2, a3 _ ?_⟩
  have h0' := (a2 30 (by decide) (by decide)).trans h0
  have h1' := (a2 31 (by decide) (by decide)).trans h1
  by_cases c : s + n = l
  · have E := c_ff_end (N := N) (S := S) hl h0' hq' a1
    rw [if_pos en] at E
    rw [c]
    exact E
  · exact c_ff_no hl (by omega) h0' h1' hq' a1 (hno (by omega))
theorem nI_nm6 {d : Nat} (h : d ≤ 500) : ¬ nI d = -6 := by
  intro w
  have : (nI d).toInt = (-6 : Int32).toInt := congrArg _ w
  rw [nI_toInt (by omega)] at this
  have e6 : (-6 : Int32).toInt = -6 := rfl
  omega
theorem c_ff : ∀ (M s t : Nat) (R : Nat → Int32) (H : pj_Heap), l ≤ 80 → s ≤ l → l - s < M → H 30 = pj_pc l → H 31 = .inr (1, 80, .inl p) → (∃ r0 r1 r2, R = pj_a3 r0 r1 r2) → pj_RS H (0, nI (t + 1), 0, 0, -1, R) →
    ∃ H1 q1, pj_RS H1 q1 ∧ rd_ok q1 ∧ (∀ j, j ≠ 32 → j ≠ 33 → H1 j = H j) ∧ ((ps_ft p l M s t).1 = -6 → q1.2.1 = nI (ps_ft p l M s t).2) ∧ pj_Ends 57 (9, [some (.ref 30), some (.int (nI s))], [], (N, S, H)) (some (.int (ps_ft p l M s t).1), (N, S, H1))
  | 0, s, t, R, H, hl, hs, hM, h0, h1, hR, h => by omega
  | M + 1, s, t, R, H, hl, hs, hM, h0, h1, hR, h => by
    have hq : rd_ok (0, nI (t + 1), 0, 0, -1, R) := ⟨Nat.zero_le _, hR, Or.inl rfl⟩
    rcases rd_tick (p := p) (l := l) (tk := nI (t + 1)) hs hR with ⟨a, hF⟩ | ⟨a, -, hT⟩
    · have e : ps_ft p l (M + 1) s t = (nI (ps_tick p l s).2.1, t) := by
        rw [ps_ft, if_pos a]
      rw [e]
      obtain ⟨H1, q1, g1, g2, g3, g4⟩ := c_ff_F (N := N) (S := S) hl h0 h1 hq h hF
      exact ⟨H1, q1, g1, g2, g3, fun w => absurd w (nI_nm6 (by have := hF.1; omega)), g4⟩
    · have a0 : ¬ (ps_tick p l s).1 = 0 := by
        rw [a]
        decide
      obtain ⟨hp, hcl, ng, d', hd, hSG, hno⟩ := hT
      obtain ⟨n, en, er, -⟩ := hSG
      obtain ⟨H1, a1, a2, a3⟩ := c_ff_seg (N := N) (S := S) n s _ _ H hl (by omega) h0 h1 hq h er
      rw [← en] at a3
      have hq' := rd_run_ok n s _ _ hq er
      have h0' := (a2 30 (by decide) (by decide)).trans h0
      have h1' := (a2 31 (by decide) (by decide)).trans h1
      by_cases c59 : ps_t p l (ps_tick p l s).2.1 59 = 0
      · by_cases cl : (ps_tick p l s).2.1 = l
        · have e : ps_ft p l (M + 1) s t = (-6, t + 1) := by
            rw [ps_ft, if_neg a0, if_pos c59, if_pos cl]
          rw [e]
          refine ⟨H1, _, a1, hq', a2, fun _ => rfl, a3 _ ?_⟩
          have E := c_ff_end (N := N) (S := S) hl h0' hq' a1
          rw [if_neg (by unfold rd_en; simp only [if_true]; rw [if_neg (nI_nm1 hd)]; decide)] at E
          rw [cl]
          exact E
        · have e : ps_ft p l (M + 1) s t = (nI (ps_tick p l s).2.1, t + 1) := by
            rw [ps_ft, if_neg a0, if_pos c59, if_neg cl]
          rw [e]
          refine ⟨H1, _, a1, hq', a2, fun w => absurd w (nI_nm6 (by omega)), a3 _ ?_⟩
          have hlt : (ps_tick p l s).2.1 < l := by omega
          refine c_ff_no hl hlt h0' h1' hq' a1 (hno hlt ?_)
          have := ps_h_no c59 hlt
          intro w
          rw [w] at this
          exact absurd ⟨by decide, by decide⟩ this
      · obtain ⟨hlt, b, b2⟩ := ps_h_yes c59
        have hc : p (ps_tick p l s).2.1 = 59 := Int32.le_antisymm b2 b
        have e : ps_ft p l (M + 1) s t = ps_ft p l M ((ps_tick p l s).2.1 + 1) (t + 1) := by
          rw [ps_ft, if_neg a0, if_neg c59]
        rw [e]
        have ea : rd_acc ((ps_tick p l s).2.2.2, nI (t + 1), 2, ng, nI d', pj_a3 (ps_tick p l s).2.2.1.1 (ps_tick p l s).2.2.1.2.1 (ps_tick p l s).2.2.1.2.2) (p (ps_tick p l s).2.1) = some (0, nI (t + 1) + 1, 0, 0, -1, pj_a3 (ps_tick p l s).2.2.1.1 (ps_tick p l s).2.2.1.2.1 (ps_tick p l s).2.2.1.2.2) := by
          rw [hc, rd_acc_eq, if_neg (by decide), if_neg (by decide), if_neg (by decide), if_pos rfl, if_pos rfl, if_neg (nI_nm1 hd)]
        rw [nI_1] at ea
        obtain ⟨H2, b1, b2, b3⟩ := c_ff_1 (N := N) (S := S) hl hlt h0' h1' hq' a1 ea
        obtain ⟨H3, q3, d1, d2, d3, d4, d5⟩ := c_ff M ((ps_tick p l s).2.1 + 1) (t + 1) _ H2 hl (by omega) (by omega) ((b2 30 (by decide) (by decide)).trans h0') ((b2 31 (by decide) (by decide)).trans h1') ⟨_, _, _, rfl⟩ b1
        exact ⟨H3, q3, d1, d2, fun j x y => (d3 j x y).trans ((b2 j x y).trans (a2 j x y)), d4, a3 _ (b3 _ d5)⟩
theorem c_findFault {H : pj_Heap} (hl : l ≤ 80) (hP : pj_CP H l p) : ∃ H1 q1, pj_RS H1 q1 ∧ rd_ok q1 ∧ (∀ j, j ≠ 32 → j ≠ 33 → H1 j = H j) ∧ ((ps_ft p l 81 0 0).1 = -6 → q1.2.1 = nI (ps_ft p l 81 0 0).2) ∧ pj_Ends 57 (0, [some (.ref 30), none], [], (N, S, H)) (some (.int (ps_ft p l 81 0 0).1), (N, S, H1)) := by
  obtain ⟨h0, h1, ⟨ic, tk, pc, ng, dg, h2⟩, ⟨r0, r1, r2, h3⟩⟩ := hP
  have B := c_begin (N := N) (S := S) h2
  obtain ⟨H1, q1, g1, g2, g3, g4, g5⟩ := c_ff (N := N) (S := S) (p := p) (l := l) 81 0 0 (pj_a3 r0 r1 r2) (pj_up H 32 (pj_rc 0 1 0 0 (-1))) hl (by omega) (by omega) (by rw [pj_up_ap, if_neg (by decide)]; exact h0) (by rw [pj_up_ap, if_neg (by decide)]; exact h1) ⟨r0, r1, r2, rfl⟩ ⟨by rw [pj_up_ap, if_pos rfl]; rfl, by rw [pj_up_ap, if_neg (by decide)]; exact h3⟩
  refine ⟨H1, q1, g1, g2, fun j x y => (g3 j x y).trans (by rw [pj_up_ap, if_neg x]), g4, ?_⟩
  have z : nI 0 = 0 := rfl
  rw [z] at g5
  simp (disch := first | assumption | exact pj_long_i | exact pj_long_r | exact pj_long_n | decide) only [x57_0, x57_1, simprocAttr, pj_then_s, pj_pv_s, pj_pi_s, pj_set_s, if_true, if_false, not_true_eq_false, not_false_eq_true, pj_up_up, pj_so110_109, pj_so111_109, pj_so112_109, pj_so113_109, pj_so114_109, pj_so115_109, pj_so116_109, pj_so117_109, pj_so111_110, pj_so112_110, pj_so113_110, pj_so114_110, pj_so115_110, pj_so116_110, pj_so117_110, pj_so112_111, pj_so113_111, pj_so114_111, pj_so115_111, pj_so116_111, pj_so117_111, pj_so113_112, pj_so114_112, pj_so115_112, pj_so116_112, pj_so117_112, pj_so114_113, pj_so115_113, pj_so116_113, pj_so117_113, pj_so115_114, pj_so116_114, pj_so117_114, pj_so116_115, pj_so117_115, pj_so117_116, pj_up_ap, pj_upd_ap, pj_a3_0, pj_a3_1, pj_a3_2, pj_a3_u0, pj_a3_u1, pj_a3_u2, pj_f0_1, h0, pj_pc]
  refine e57_4 rfl (by rw [h2]; rfl) B ?_
  simp (disch := first | assumption | exact pj_long_i | exact pj_long_r | exact pj_long_n | decide) only [x57_7, x57_8, simprocAttr, pj_then_s, pj_pv_s, pj_pi_s, pj_set_s, if_true, if_false, not_true_eq_false, not_false_eq_true, pj_up_up, pj_so110_109, pj_so111_109, pj_so112_109, pj_so113_109, pj_so114_109, pj_so115_109, pj_so116_109, pj_so117_109, pj_so111_110, pj_so112_110, pj_so113_110, pj_so114_110, pj_so115_110, pj_so116_110, pj_so117_110, pj_so112_111, pj_so113_111, pj_so114_111, pj_so115_111, pj_so116_111, pj_so117_111, pj_so113_112, pj_so114_112, pj_so115_112, pj_so116_112, pj_so117_112, pj_so114_113, pj_so115_113, pj_so116_113, pj_so117_113, pj_so115_114, pj_so116_114, pj_so117_114, pj_so116_115, pj_so117_115, pj_so117_116, pj_up_ap, pj_upd_ap, pj_a3_0, pj_a3_1, pj_a3_2, pj_a3_u0, pj_a3_u1, pj_a3_u2, pj_long_i, pj_long_r, pj_long_n]
  exact g5
theorem pj_RS.cp {H H1 : pj_Heap} {q : rd_S} (hP : pj_CP H l p) (h : pj_RS H1 q) (hq : rd_ok q) (hF : ∀ j, j ≠ 32 → j ≠ 33 → H1 j = H j) : pj_CP H1 l p := by
  obtain ⟨h0, h1, -, -⟩ := hP
  obtain ⟨-, ⟨r0, r1, r2, e⟩, -⟩ := hq
  exact ⟨(hF 30 (by decide) (by decide)).trans h0, (hF 31 (by decide) (by decide)).trans h1, ⟨_, _, _, _, _, h.1⟩, ⟨r0, r1, r2, by rw [← e]; exact h.2⟩⟩
theorem C_faultT {x : pj_Sg} {H : pj_Heap} (hx : pj_In x) (hC : pj_C H x) : ∃ H1 q1, pj_RS H1 q1 ∧ rd_ok q1 ∧ pj_C H1 x ∧ (∀ j, j ≠ 32 → j ≠ 33 → H1 j = H j) ∧ (op_fault x = -6 → q1.2.1 = nI (op_told x)) ∧ pj_Ends 57 (0, [some (.ref 30), none], [], (N, S, H)) (some (.int (op_fault x)), (N, S, H1)) := by
  obtain ⟨H1, q1, g1, g2, g3, g4, g5⟩ := c_findFault (N := N) (S := S) hx.2.2.1 hC.2.2.2.2.1
  exact ⟨H1, q1, g1, g2, hC.text (pj_RS.cp hC.2.2.2.2.1 g1 g2 g3) (fun j hj => g3 j (by omega) (by omega)), g3, g4, g5⟩
theorem C_fault {x : pj_Sg} {H : pj_Heap} (hx : pj_In x) (hC : pj_C H x) : pj_Co N S H 56 [some (.ref 4)] (x, op_fault x) := by
  obtain ⟨H1, q1, g1, g2, g3, g4, g5, g6⟩ := C_faultT (N := N) (S := S) hx hC
  refine ⟨H1, g3, fun j hj => g4 j (by omega) (by omega), ?_⟩
  have hV := hC.2.1
  simp (disch := first | assumption | exact pj_long_i | exact pj_long_r | exact pj_long_n | decide) only [x56_0, x56_1, simprocAttr, pj_then_s, pj_pv_s, pj_pi_s, pj_set_s, if_true, if_false, not_true_eq_false, not_false_eq_true, pj_up_up, pj_so110_109, pj_so111_109, pj_so112_109, pj_so113_109, pj_so114_109, pj_so115_109, pj_so116_109, pj_so117_109, pj_so111_110, pj_so112_110, pj_so113_110, pj_so114_110, pj_so115_110, pj_so116_110, pj_so117_110, pj_so112_111, pj_so113_111, pj_so114_111, pj_so115_111, pj_so116_111, pj_so117_111, pj_so113_112, pj_so114_112, pj_so115_112, pj_so116_112, pj_so117_112, pj_so114_113, pj_so115_113, pj_so116_113, pj_so117_113, pj_so115_114, pj_so116_114, pj_so117_114, pj_so116_115, pj_so117_115, pj_so117_116, pj_up_ap, pj_upd_ap, pj_a3_0, pj_a3_1, pj_a3_2, pj_a3_u0, pj_a3_u1, pj_a3_u2, pj_f5_3, hV, pj_vc]
  refine e56_4 rfl (by rw [hC.2.2.2.2.1.1]; rfl) g6 ?_
  exact t56_7
end T50
