/-! THE CLASS'S run -/
section T51
variable {N S : Nat} {p : Nat → Int32} {l : Nat}
/-- a character that ends no tick -/
theorem c_pp_1 {H : pj_Heap} {i n : Nat} {q q' : rd_S} {w : Int32} (hl : l ≤ 80) (hi : i < l) (hV : H 4 = pj_vc n) (h0 : H 30 = pj_pc l) (h1 : H 31 = .inr (1, 80, .inl p)) (hq : rd_ok q) (h : pj_RS H q) (e : rd_acc q (p i) = some q') (h59 : ¬ p i = 59) :
    ∃ H1, pj_RS H1 q' ∧ (∀ j, j ≠ 32 → j ≠ 33 → H1 j = H j) ∧ ∀ o, pj_Ends 68 (61, [some (.ref 4), some (.ref 32), some (.int w), some (.int (nI (i + 1)))], [], (N, S, H1)) o → pj_Ends 68 (61, [some (.ref 4), some (.ref 32), some (.int w), some (.int (nI i))], [], (N, S, H)) o := by
  obtain ⟨H1, g1, g2, g3⟩ := (c_accept (N := N) (S := S) (ch := p i) hq h).1 q' e
  refine ⟨H1, g1, g2, fun o K => ?_⟩
  have c1 : nI i < nI l := (nI_ltI (by omega) (by omega)).mpr hi
  have c1' : ¬ nI l ≤ nI i := Int32.not_le.mpr c1
  have e5 : (nI i).toNatClampNeg = i := nI_clamp (by omega)
  have e6 : pj_in (nI i) 80 = true := pj_in_nI (by omega) (by decide)
  rw [x68_61]
  simp (disch := first | assumption | exact pj_long_i | exact pj_long_r | exact pj_long_n | decide) only [x68_62, x68_63, x68_66, x68_69, x68_72, x68_73, x68_76, x68_79, x68_80, x68_81, x68_83, x68_86, x68_87, x68_88, x68_92, x68_93, x68_94, x68_95, x68_96, x68_99, x68_102, x68_103, simprocAttr, pj_then_s, pj_pv_s, pj_pi_s, pj_set_s, if_true, if_false, not_true_eq_false, not_false_eq_true, pj_up_up, pj_so110_109, pj_so111_109, pj_so112_109, pj_so113_109, pj_so114_109, pj_so115_109, pj_so116_109, pj_so117_109, pj_so111_110, pj_so112_110, pj_so113_110, pj_so114_110, pj_so115_110, pj_so116_110, pj_so117_110, pj_so112_111, pj_so113_111, pj_so114_111, pj_so115_111, pj_so116_111, pj_so117_111, pj_so113_112, pj_so114_112, pj_so115_112, pj_so116_112, pj_so117_112, pj_so114_113, pj_so115_113, pj_so116_113, pj_so117_113, pj_so115_114, pj_so116_114, pj_so117_114, pj_so116_115, pj_so117_115, pj_so117_116, pj_up_ap, pj_upd_ap, pj_a3_0, pj_a3_1, pj_a3_2, pj_a3_u0, pj_a3_u1, pj_a3_u2, pj_f5_3, pj_f0_2, pj_f0_0, pj_arl_i, pj_long_i, pj_long_r, pj_long_n, hV, pj_vc, h0, pj_pc, h1, c1, c1', e5, e6, h59]
  refine e68_104 rfl (by rw [h.1]; rfl) g3 ?_
  simp (disch := first | assumption | exact pj_long_i | exact pj_long_r | exact pj_long_n | decide) only [x68_107, x68_107i, x68_108, x68_111, simprocAttr, pj_then_s, pj_pv_s, pj_pi_s, pj_set_s, if_true, if_false, not_true_eq_false, not_false_eq_true, pj_up_up, pj_so110_109, pj_so111_109, pj_so112_109, pj_so113_109, pj_so114_109, pj_so115_109, pj_so116_109, pj_so117_109, pj_so111_110, pj_so112_110, pj_so113_110, pj_so114_110, pj_so115_110, pj_so116_110, pj_so117_110, pj_so112_111, pj_so113_111, pj_so114_111, pj_so115_111, pj_so116_111, pj_so117_111, pj_so113_112, pj_so114_112, pj_so115_112, pj_so116_112, pj_so117_112, pj_so114_113, pj_so115_113, pj_so116_113, pj_so117_113, pj_so115_114, pj_so116_114, pj_so117_114, pj_so116_115, pj_so117_115, pj_so117_116, pj_up_ap, pj_upd_ap, pj_a3_0, pj_a3_1, pj_a3_2, pj_a3_u0, pj_a3_u1, pj_a3_u2, pj_long_i, pj_long_r, pj_long_n, nI_1]
  exact K
theorem c_pp_seg {w : Int32} {nn : Nat} : ∀ (n s : Nat) (q q' : rd_S) (H : pj_Heap), l ≤ 80 → s + n ≤ l → H 4 = pj_vc nn → H 30 = pj_pc l → H 31 = .inr (1, 80, .inl p) → rd_ok q → pj_RS H q → rd_run p n s q = some q' → (∀ j, s ≤ j → j < s + n → ¬ p j = 59) →
    ∃ H1, pj_RS H1 q' ∧ (∀ j, j ≠ 32 → j ≠ 33 → H1 j = H j) ∧ ∀ o, pj_Ends 68 (61, [some (.ref 4), some (.ref 32), some (.int w), some (.int (nI (s + n)))], [], (N, S, H1)) o → pj_Ends 68 (61, [some (.ref 4), some (.ref 32), some (.int w), some (.int (nI s))], [], (N, S, H)) o
  | 0, s, q, q', H, hl, hs, hV, h0, h1, hq, h, e, h59 => by
    have e1 : q = q' := Option.some.inj e
    exact ⟨H, e1 ▸ h, fun _ _ _ => rfl, fun o K => K⟩
  | n + 1, s, q, q', H, hl, hs, hV, h0, h1, hq, h, e, h59 => by
    unfold rd_run at e
    cases c : rd_acc q (p s) with
    | none =>
      rw [c] at e
      cases e
    | some q1 =>
      rw [c] at e
      obtain ⟨H1, a1, a2, a3⟩ := c_pp_1 (N := N) (S := S) (w := w) hl (by omega) hV h0 h1 hq h c (h59 s (by omega) (by omega))
      obtain ⟨H2, b1, b2, b3⟩ := c_pp_seg (w := w) n (s + 1) q1 q' H1 hl (by omega) ((a2 4 (by decide) (by decide)).trans hV) ((a2 30 (by decide) (by decide)).trans h0) ((a2 31 (by decide) (by decide)).trans h1) (rd_acc_ok hq c) a1 e (fun j x y => h59 j (by omega) (by omega))
      refine ⟨H2, b1, fun j x y => (b2 j x y).trans (a2 j x y), fun o K => a3 o (b3 o ?_)⟩
      rw [show s + 1 + n = s + (n + 1) from by omega]
      exact K
/-- the tick that was read passes -/
theorem c_passRead {H : pj_Heap} {x : pj_Sg} {q : rd_S} {b0 b1 b2 : Int32} {t : Nat} (hC : pj_C H x) (hR : pj_Ro x.1 t) (ht : t ≤ 200000) (h : pj_RS H q) (hc : q.1 = 0 ∨ q.1 = 1) (e : q.2.2.2.2.2 = pj_a3 b0 b1 b2) (hg : ∀ k, k < 3 → -500 ≤ pj_a3 b0 b1 b2 k ∧ pj_a3 b0 b1 b2 k ≤ 500) :
    ∃ H1, pj_C H1 (sp_tick x.1 (pj_a3 b0 b1 b2) q.1, x.2) ∧ pj_RS H1 q ∧ (∀ j, j < 5 ∨ 29 < j → H1 j = H j) ∧ pj_Ends 69 (0, [some (.ref 4), some (.ref 32)], [], (N, S, H)) (some (.int (tk_fi x.1 (pj_a3 b0 b1 b2) q.1)), (N, S, H1)) := by
  obtain ⟨H1, g1, g2, g3, g4⟩ := c_pass_5 (N := N) (S := S) (H := H) (f := x.1) (b0 := b0) (b1 := b1) (b2 := b2) hC.2.1 hR ht hc hg hC.2.2.2.1.2 hC.2.2.1
  obtain ⟨w, hw⟩ := hC.2.2.2.1.1
  have hF : ∀ j, j < 5 ∨ 29 < j → H1 j = H j := fun j hj => g3 j (by omega) (by omega)
  refine ⟨H1, hC.now g1 ⟨⟨w, hw.frame (fun i hi => g3 _ (by omega) (by omega))⟩, g2⟩ hF, ⟨(hF 32 (by decide)).trans h.1, (hF 33 (by decide)).trans h.2⟩, hF, ?_⟩
  have hV := hC.2.1
  have h32 := h.1
  have h33 := h.2
  rw [e] at h33
  simp (disch := first | assumption | exact pj_long_i | exact pj_long_r | exact pj_long_n | decide) only [x69_0, x69_1, x69_2, x69_5, x69_6, x69_9, x69_10, x69_11, x69_12, x69_15, x69_16, x69_17, x69_18, x69_21, x69_22, x69_23, x69_24, simprocAttr, pj_then_s, pj_pv_s, pj_pi_s, pj_set_s, if_true, if_false, not_true_eq_false, not_false_eq_true, pj_up_up, pj_so110_109, pj_so111_109, pj_so112_109, pj_so113_109, pj_so114_109, pj_so115_109, pj_so116_109, pj_so117_109, pj_so111_110, pj_so112_110, pj_so113_110, pj_so114_110, pj_so115_110, pj_so116_110, pj_so117_110, pj_so112_111, pj_so113_111, pj_so114_111, pj_so115_111, pj_so116_111, pj_so117_111, pj_so113_112, pj_so114_112, pj_so115_112, pj_so116_112, pj_so117_112, pj_so114_113, pj_so115_113, pj_so116_113, pj_so117_113, pj_so115_114, pj_so116_114, pj_so117_114, pj_so116_115, pj_so117_115, pj_so117_116, pj_up_ap, pj_upd_ap, pj_a3_0, pj_a3_1, pj_a3_2, pj_a3_u0, pj_a3_u1, pj_a3_u2, pj_f5_0, pj_f1_0, pj_arl_i, pj_f1_1, hV, pj_vc, h32, pj_rc, h33]
  refine e69_27 rfl (by rw [hV]; rfl) g4 ?_
  exact t69_30
theorem c_pp : ∀ (M s t tr : Nat) (f R : Nat → Int32) (w : Int32) (H : pj_Heap) (n : Nat) (y : (Nat → Nat → Int32) × (Nat → Nat → Int32) × (Nat → Int32)), l ≤ 80 → s ≤ l → l - s < M → pj_C H (f, n, y.1, y.2.1, y.2.2, l, p) → (∃ r0 r1 r2, R = pj_a3 r0 r1 r2) → pj_RS H (0, nI (t + 1), 0, 0, -1, R) → pj_Ro f tr → tr ≤ 100000 + s → (ps_ft p l M s t).1 = -6 →
    ∃ H1, pj_C H1 ((ps_run p l M s f w).1, n, y.1, y.2.1, y.2.2, l, p) ∧ (∀ j, j < 4 ∨ 108 < j → H1 j = H j) ∧ pj_Ends 68 (61, [some (.ref 4), some (.ref 32), some (.int w), some (.int (nI s))], [], (N, S, H)) (some (.int (ps_run p l M s f w).2), (N, S, pj_up H1 30 (.inl (0, [.ref 31, .ref 32, .int 0]))))
  | 0, s, t, tr, f, R, w, H, n, y, hl, hs, hM, hC, hR, h, hRo, htr, h6 => by omega
  | M + 1, s, t, tr, f, R, w, H, n, y, hl, hs, hM, hC, hR, h, hRo, htr, h6 => by
    have hq : rd_ok (0, nI (t + 1), 0, 0, -1, R) := ⟨Nat.zero_le _, hR, Or.inl rfl⟩
    have hV : H 4 = pj_vc n := hC.2.1
    have h0 : H 30 = pj_pc l := hC.2.2.2.2.1.1
    have h1 : H 31 = .inr (1, 80, .inl p) := hC.2.2.2.2.1.2.1
    rcases rd_tick (p := p) (l := l) (tk := nI (t + 1)) hs hR with ⟨a, hF⟩ | ⟨a, hrg, hT⟩
    · have e : ps_ft p l (M + 1) s t = (nI (ps_tick p l s).2.1, t) := by
        rw [ps_ft, if_pos a]
      rw [e] at h6
      exact absurd h6 (nI_nm6 (by have := hF.1; omega))
    · have a0 : ¬ (ps_tick p l s).1 = 0 := by
        rw [a]
        decide
      obtain ⟨hp, hcl, ng, d', hd, hSG, hno⟩ := hT
      obtain ⟨m, en, er, e59⟩ := hSG
      rw [en] at e59
      obtain ⟨H1, a1, a2, a3⟩ := c_pp_seg (N := N) (S := S) (w := w) m s _ _ H hl (by omega) hV h0 h1 hq h er e59
      rw [← en] at a3
      have hq' := rd_run_ok m s _ _ hq er
      have hC1 : pj_C H1 (f, n, y.1, y.2.1, y.2.2, l, p) := hC.text (pj_RS.cp hC.2.2.2.2.1 a1 hq' a2) (fun j hj => a2 j (by omega) (by omega))
      have hV' : H1 4 = pj_vc n := hC1.2.1
      have h0' : H1 30 = pj_pc l := hC1.2.2.2.2.1.1
      have h1' : H1 31 = .inr (1, 80, .inl p) := hC1.2.2.2.2.1.2.1
      obtain ⟨H2, b1, b2, b3, b4⟩ := c_passRead (N := N) (S := S) hC1 hRo (by omega) a1 hcl rfl hrg
      simp only at b1 b4
      by_cases c59 : ps_t p l (ps_tick p l s).2.1 59 = 0
      · by_cases cl : (ps_tick p l s).2.1 = l
        · have e : ps_run p l (M + 1) s f w = (sp_tick f (pj_a3 (ps_tick p l s).2.2.1.1 (ps_tick p l s).2.2.1.2.1 (ps_tick p l s).2.2.1.2.2) (ps_tick p l s).2.2.2, w ||| tk_fi f (pj_a3 (ps_tick p l s).2.2.1.1 (ps_tick p l s).2.2.1.2.1 (ps_tick p l s).2.2.1.2.2) (ps_tick p l s).2.2.2) := by
            rw [ps_run, if_neg a0, if_pos c59]
          rw [e]
          refine ⟨H2, b1, fun j hj => (b3 j (by omega)).trans (a2 j (by omega) (by omega)), a3 _ ?_⟩
          rw [cl]
          have d1 : ¬ nI l < nI l := Int32.lt_irrefl
          have d2 : nI l ≤ nI l := Int32.le_refl _
          simp (disch := first | assumption | exact pj_long_i | exact pj_long_r | exact pj_long_n | decide) only [x68_61, x68_62, x68_63, x68_66, x68_69, x68_72, x68_73, x68_76, x68_79, x68_80, x68_81, x68_83, x68_86, x68_87, x68_88, x68_92, x68_93, x68_94, x68_95, x68_96, x68_99, x68_102, x68_103, x68_107, x68_107i, x68_108, x68_111, x68_114, x68_115, x68_116, simprocAttr, pj_then_s, pj_pv_s, pj_pi_s, pj_set_s, if_true, if_false, not_true_eq_false, not_false_eq_true, pj_up_up, pj_so110_109, pj_so111_109, pj_so112_109, pj_so113_109, pj_so114_109, pj_so115_109, pj_so116_109, pj_so117_109, pj_so111_110, pj_so112_110, pj_so113_110, pj_so114_110, pj_so115_110, pj_so116_110, pj_so117_110, pj_so112_111, pj_so113_111, pj_so114_111, pj_so115_111, pj_so116_111, pj_so117_111, pj_so113_112, pj_so114_112, pj_so115_112, pj_so116_112, pj_so117_112, pj_so114_113, pj_so115_113, pj_so116_113, pj_so117_113, pj_so115_114, pj_so116_114, pj_so117_114, pj_so116_115, pj_so117_115, pj_so117_116, pj_up_ap, pj_upd_ap, pj_a3_0, pj_a3_1, pj_a3_2, pj_a3_u0, pj_a3_u1, pj_a3_u2, pj_f5_3, pj_f0_2, pj_f0_0, pj_arl_i, pj_long_i, pj_long_r, pj_long_n, hV', pj_vc, h0', pj_pc, d1, d2]
          refine e68_117 rfl (by rw [hV']; rfl) b4 ?_
          have hV2 : H2 4 = pj_vc n := b1.2.1
          have h02 : H2 30 = pj_pc l := b1.2.2.2.2.1.1
          simp (disch := first | assumption | exact pj_long_i | exact pj_long_r | exact pj_long_n | decide) only [x68_120, x68_121, x68_122, x68_123, x68_126, x68_127, x68_130, simprocAttr, pj_then_s, pj_pv_s, pj_pi_s, pj_set_s, if_true, if_false, not_true_eq_false, not_false_eq_true, pj_up_up, pj_so110_109, pj_so111_109, pj_so112_109, pj_so113_109, pj_so114_109, pj_so115_109, pj_so116_109, pj_so117_109, pj_so111_110, pj_so112_110, pj_so113_110, pj_so114_110, pj_so115_110, pj_so116_110, pj_so117_110, pj_so112_111, pj_so113_111, pj_so114_111, pj_so115_111, pj_so116_111, pj_so117_111, pj_so113_112, pj_so114_112, pj_so115_112, pj_so116_112, pj_so117_112, pj_so114_113, pj_so115_113, pj_so116_113, pj_so117_113, pj_so115_114, pj_so116_114, pj_so117_114, pj_so116_115, pj_so117_115, pj_so117_116, pj_up_ap, pj_upd_ap, pj_a3_0, pj_a3_1, pj_a3_2, pj_a3_u0, pj_a3_u1, pj_a3_u2, pj_long_i, pj_long_r, pj_long_n, pj_f5_3, pj_s0_2, hV2, pj_vc, h02, pj_pc]
          exact t68_131
        · have e : ps_ft p l (M + 1) s t = (nI (ps_tick p l s).2.1, t + 1) := by
            rw [ps_ft, if_neg a0, if_pos c59, if_neg cl]
          rw [e] at h6
          exact absurd h6 (nI_nm6 (by omega))
      · obtain ⟨hlt, b, b5⟩ := ps_h_yes c59
        have hc : p (ps_tick p l s).2.1 = 59 := Int32.le_antisymm b5 b
        have e : ps_ft p l (M + 1) s t = ps_ft p l M ((ps_tick p l s).2.1 + 1) (t + 1) := by
          rw [ps_ft, if_neg a0, if_neg c59]
        rw [e] at h6
        have e' : ps_run p l (M + 1) s f w = ps_run p l M ((ps_tick p l s).2.1 + 1) (sp_tick f (pj_a3 (ps_tick p l s).2.2.1.1 (ps_tick p l s).2.2.1.2.1 (ps_tick p l s).2.2.1.2.2) (ps_tick p l s).2.2.2) (w ||| tk_fi f (pj_a3 (ps_tick p l s).2.2.1.1 (ps_tick p l s).2.2.1.2.1 (ps_tick p l s).2.2.1.2.2) (ps_tick p l s).2.2.2) := by
          rw [ps_run, if_neg a0, if_neg c59]
        rw [e']
        have ea : rd_acc ((ps_tick p l s).2.2.2, nI (t + 1), 2, ng, nI d', pj_a3 (ps_tick p l s).2.2.1.1 (ps_tick p l s).2.2.1.2.1 (ps_tick p l s).2.2.1.2.2) (p (ps_tick p l s).2.1) = some (0, nI (t + 1) + 1, 0, 0, -1, pj_a3 (ps_tick p l s).2.2.1.1 (ps_tick p l s).2.2.1.2.1 (ps_tick p l s).2.2.1.2.2) := by
          rw [hc, rd_acc_eq, if_neg (by decide), if_neg (by decide), if_neg (by decide), if_pos rfl, if_pos rfl, if_neg (nI_nm1 hd)]
        rw [nI_1] at ea
        obtain ⟨H3, g1, g2, g3⟩ := (c_accept (N := N) (S := S) (ch := p (ps_tick p l s).2.1) hq' b2).1 _ ea
        have hq3 := rd_acc_ok hq' ea
        have hC3 : pj_C H3 (sp_tick f (pj_a3 (ps_tick p l s).2.2.1.1 (ps_tick p l s).2.2.1.2.1 (ps_tick p l s).2.2.1.2.2) (ps_tick p l s).2.2.2, n, y.1, y.2.1, y.2.2, l, p) := b1.text (pj_RS.cp b1.2.2.2.2.1 g1 hq3 g2) (fun j hj => g2 j (by omega) (by omega))
        have hle : s ≤ (ps_tick p l s).2.1 := by omega
        obtain ⟨H4, d1, d2, d3⟩ := c_pp M ((ps_tick p l s).2.1 + 1) (t + 1) (tr + 1) _ _ (w ||| tk_fi f (pj_a3 (ps_tick p l s).2.2.1.1 (ps_tick p l s).2.2.1.2.1 (ps_tick p l s).2.2.1.2.2) (ps_tick p l s).2.2.2) H3 n y hl (by omega) (by omega) hC3 ⟨_, _, _, rfl⟩ g1 (hRo.tick hrg) (by omega) h6
        refine ⟨H4, d1, fun j hj => (d2 j hj).trans ((g2 j (by omega) (by omega)).trans ((b3 j (by omega)).trans (a2 j (by omega) (by omega)))), a3 _ ?_⟩
        have hV2 : H2 4 = pj_vc n := b1.2.1
        have h02 : H2 30 = pj_pc l := b1.2.2.2.2.1.1
        have h12 : H2 31 = .inr (1, 80, .inl p) := b1.2.2.2.2.1.2.1
        have c1 : nI (ps_tick p l s).2.1 < nI l := (nI_ltI (by omega) (by omega)).mpr hlt
        have c1' : ¬ nI l ≤ nI (ps_tick p l s).2.1 := Int32.not_le.mpr c1
        have e5 : (nI (ps_tick p l s).2.1).toNatClampNeg = (ps_tick p l s).2.1 := nI_clamp (by omega)
        have e6 : pj_in (nI (ps_tick p l s).2.1) 80 = true := pj_in_nI (by omega) (by decide)
        have h32 := b2.1
        generalize tk_fi f (pj_a3 (ps_tick p l s).2.2.1.1 (ps_tick p l s).2.2.1.2.1 (ps_tick p l s).2.2.1.2.2) (ps_tick p l s).2.2.2 = fi at b4 d3 ⊢
        generalize (ps_run p l M ((ps_tick p l s).2.1 + 1) (sp_tick f (pj_a3 (ps_tick p l s).2.2.1.1 (ps_tick p l s).2.2.1.2.1 (ps_tick p l s).2.2.1.2.2) (ps_tick p l s).2.2.2) (w ||| fi)).2 = out at d3 ⊢
        generalize (ps_tick p l s).2.1 = pos at c1 c1' e5 e6 hc g3 d3 ⊢
        rw [x68_61]
        simp (disch := first | assumption | exact pj_long_i | exact pj_long_r | exact pj_long_n | decide) only [x68_62, x68_63, x68_66, x68_69, x68_72, x68_73, x68_76, x68_79, x68_80, x68_81, x68_83, x68_86, x68_87, x68_88, simprocAttr, pj_then_s, pj_pv_s, pj_pi_s, pj_set_s, if_true, if_false, not_true_eq_false, not_false_eq_true, pj_up_up, pj_so110_109, pj_so111_109, pj_so112_109, pj_so113_109, pj_so114_109, pj_so115_109, pj_so116_109, pj_so117_109, pj_so111_110, pj_so112_110, pj_so113_110, pj_so114_110, pj_so115_110, pj_so116_110, pj_so117_110, pj_so112_111, pj_so113_111, pj_so114_111, pj_so115_111, pj_so116_111, pj_so117_111, pj_so113_112, pj_so114_112, pj_so115_112, pj_so116_112, pj_so117_112, pj_so114_113, pj_so115_113, pj_so116_113, pj_so117_113, pj_so115_114, pj_so116_114, pj_so117_114, pj_so116_115, pj_so117_115, pj_so117_116, pj_up_ap, pj_upd_ap, pj_a3_0, pj_a3_1, pj_a3_2, pj_a3_u0, pj_a3_u1, pj_a3_u2, pj_f5_3, pj_f0_2, pj_f0_0, pj_arl_i, hV', pj_vc, h0', pj_pc, h1', c1, c1', e5, e6, hc]
        refine e68_89 rfl (by rw [hV']; rfl) b4 ?_
        rw [hc] at g3
        simp (disch := first | assumption | exact pj_long_i | exact pj_long_r | exact pj_long_n | decide) only [x68_92, x68_93, x68_94, x68_95, x68_96, x68_99, x68_102, x68_103, simprocAttr, pj_then_s, pj_pv_s, pj_pi_s, pj_set_s, if_true, if_false, not_true_eq_false, not_false_eq_true, pj_up_up, pj_so110_109, pj_so111_109, pj_so112_109, pj_so113_109, pj_so114_109, pj_so115_109, pj_so116_109, pj_so117_109, pj_so111_110, pj_so112_110, pj_so113_110, pj_so114_110, pj_so115_110, pj_so116_110, pj_so117_110, pj_so112_111, pj_so113_111, pj_so114_111, pj_so115_111, pj_so116_111, pj_so117_111, pj_so113_112, pj_so114_112, pj_so115_112, pj_so116_112, pj_so117_112, pj_so114_113, pj_so115_113, pj_so116_113, pj_so117_113, pj_so115_114, pj_so116_114, pj_so117_114, pj_so116_115, pj_so117_115, pj_so117_116, pj_up_ap, pj_upd_ap, pj_a3_0, pj_a3_1, pj_a3_2, pj_a3_u0, pj_a3_u1, pj_a3_u2, pj_long_i, pj_long_r, pj_long_n, pj_f5_3, pj_f0_0, pj_arl_i, hV2, pj_vc, h02, pj_pc, h12, e5, e6, hc]
        refine e68_104 rfl (by rw [h32]; rfl) g3 ?_
        simp (disch := first | assumption | exact pj_long_i | exact pj_long_r | exact pj_long_n | decide) only [x68_107, x68_107i, x68_108, x68_111, simprocAttr, pj_then_s, pj_pv_s, pj_pi_s, pj_set_s, if_true, if_false, not_true_eq_false, not_false_eq_true, pj_up_up, pj_so110_109, pj_so111_109, pj_so112_109, pj_so113_109, pj_so114_109, pj_so115_109, pj_so116_109, pj_so117_109, pj_so111_110, pj_so112_110, pj_so113_110, pj_so114_110, pj_so115_110, pj_so116_110, pj_so117_110, pj_so112_111, pj_so113_111, pj_so114_111, pj_so115_111, pj_so116_111, pj_so117_111, pj_so113_112, pj_so114_112, pj_so115_112, pj_so116_112, pj_so117_112, pj_so114_113, pj_so115_113, pj_so116_113, pj_so117_113, pj_so115_114, pj_so116_114, pj_so117_114, pj_so116_115, pj_so117_115, pj_so117_116, pj_up_ap, pj_upd_ap, pj_a3_0, pj_a3_1, pj_a3_2, pj_a3_u0, pj_a3_u1, pj_a3_u2, pj_long_i, pj_long_r, pj_long_n, nI_1]
        exact d3
theorem C_run {x : pj_Sg} {H : pj_Heap} (hx : pj_In x) (hC : pj_C H x) : pj_Co N S H 68 [some (.ref 4), none, none, none] (op_run x) := by
  obtain ⟨H1, q1, g1, g2, hC1, g4, g5, g6⟩ := C_faultT (N := N) (S := S) hx hC
  have hV := hC.2.1
  have hV1 := hC1.2.1
  have hP1 := hC1.2.2.2.2.1.1
  have hP := hC.2.2.2.2.1.1
  unfold op_run
  by_cases c1 : op_fault x = -6
  · rw [if_pos c1]
    have e1 := g5 c1
    have hu := hC1.2.2.1.1
    have hx5 : pj_uc 5 x.1 = .inl (4, [.ref 6, .ref 7, .ref 8, .ref 9, .ref 10, .ref 11, .ref 12, .int (sp_vot x.1), .int (sp_bar x.1), .int (x.1 7), .int (x.1 6)]) := rfl
    have h32 := g1.1
    rw [e1] at h32
    rw [c1] at g6
    by_cases c2 : 100000 < x.1 6 + nI (op_told x)
    · rw [if_pos c2]
      have c3 : ¬ x.1 6 + nI (op_told x) ≤ 100000 := Int32.not_le.mpr c2
      refine ⟨H1, hC1, fun j hj => g4 j (by omega) (by omega), ?_⟩
      simp (disch := first | assumption | exact pj_long_i | exact pj_long_r | exact pj_long_n | decide) only [x68_0, x68_1, simprocAttr, pj_then_s, pj_pv_s, pj_pi_s, pj_set_s, if_true, if_false, not_true_eq_false, not_false_eq_true, pj_up_up, pj_so110_109, pj_so111_109, pj_so112_109, pj_so113_109, pj_so114_109, pj_so115_109, pj_so116_109, pj_so117_109, pj_so111_110, pj_so112_110, pj_so113_110, pj_so114_110, pj_so115_110, pj_so116_110, pj_so117_110, pj_so112_111, pj_so113_111, pj_so114_111, pj_so115_111, pj_so116_111, pj_so117_111, pj_so113_112, pj_so114_112, pj_so115_112, pj_so116_112, pj_so117_112, pj_so114_113, pj_so115_113, pj_so116_113, pj_so117_113, pj_so115_114, pj_so116_114, pj_so117_114, pj_so116_115, pj_so117_115, pj_so117_116, pj_up_ap, pj_upd_ap, pj_a3_0, pj_a3_1, pj_a3_2, pj_a3_u0, pj_a3_u1, pj_a3_u2, pj_f5_3, hV, pj_vc]
      refine e68_4 rfl (by rw [hP]; rfl) g6 ?_
      simp (disch := first | assumption | exact pj_long_i | exact pj_long_r | exact pj_long_n | decide) only [x68_7, x68_9, x68_12, x68_15, x68_16, x68_19, x68_22, x68_23, x68_26, x68_29, x68_32, x68_33, x68_35, x68_38, simprocAttr, pj_then_s, pj_pv_s, pj_pi_s, pj_set_s, if_true, if_false, not_true_eq_false, not_false_eq_true, pj_up_up, pj_so110_109, pj_so111_109, pj_so112_109, pj_so113_109, pj_so114_109, pj_so115_109, pj_so116_109, pj_so117_109, pj_so111_110, pj_so112_110, pj_so113_110, pj_so114_110, pj_so115_110, pj_so116_110, pj_so117_110, pj_so112_111, pj_so113_111, pj_so114_111, pj_so115_111, pj_so116_111, pj_so117_111, pj_so113_112, pj_so114_112, pj_so115_112, pj_so116_112, pj_so117_112, pj_so114_113, pj_so115_113, pj_so116_113, pj_so117_113, pj_so115_114, pj_so116_114, pj_so117_114, pj_so116_115, pj_so117_115, pj_so117_116, pj_up_ap, pj_upd_ap, pj_a3_0, pj_a3_1, pj_a3_2, pj_a3_u0, pj_a3_u1, pj_a3_u2, pj_f5_0, pj_f4_10, pj_f5_3, pj_f0_1, pj_f1_2, hV1, pj_vc, hu, hx5, hP1, pj_pc, h32, pj_rc, c2, c3]
      exact t68_40
    · rw [if_neg c2]
      have c3 : x.1 6 + nI (op_told x) ≤ 100000 := Int32.not_lt.mp c2
      obtain ⟨H2, hC2, hF2, hE⟩ := c_remember (N := N) (S := S) hx.2.1 hC1
      have hV2 := hC2.2.1
      obtain ⟨p0, p1, ⟨ic, tk, pc, ng, dg, p2⟩, ⟨r0, r1, r2, p3⟩⟩ := hC2.2.2.2.2.1
      have B := c_begin (N := N) (S := S) p2
      obtain ⟨t, ht, hR⟩ := hx.1
      have hC3 : pj_C (pj_up H2 32 (pj_rc 0 1 0 0 (-1))) (sp_push x x.1) := hC2.text (l := x.2.2.2.2.2.1) (pd := x.2.2.2.2.2.2) ⟨by rw [pj_up_ap, if_neg (by decide)]; exact p0, by rw [pj_up_ap, if_neg (by decide)]; exact p1, ⟨_, _, _, _, _, by rw [pj_up_ap, if_pos rfl]⟩, ⟨r0, r1, r2, by rw [pj_up_ap, if_neg (by decide)]; exact p3⟩⟩ (fun j hj => by rw [pj_up_ap, if_neg (by omega)])
      obtain ⟨H4, d1, d2, d3⟩ := c_pp (N := N) (S := S) (p := x.2.2.2.2.2.2) (l := x.2.2.2.2.2.1) 81 0 0 t x.1 (pj_a3 r0 r1 r2) 0 (pj_up H2 32 (pj_rc 0 1 0 0 (-1))) (sp_hn x.2.1 + 1) (sp_ph x.1 x.2.1 x.2.2.1, x.2.2.2.1, x.2.2.2.2.1) hx.2.2.1 (by omega) (by have : x.2.2.2.2.2.1 ≤ 80 := hx.2.2.1; omega) hC3 ⟨r0, r1, r2, rfl⟩ ⟨by rw [pj_up_ap, if_pos rfl]; rfl, by rw [pj_up_ap, if_neg (by decide)]; exact p3⟩ hR (by omega) c1
      have hV4 : H4 4 = pj_vc (sp_hn x.2.1 + 1) := d1.2.1
      obtain ⟨k0, k1, ⟨ic', tk', pc', ng', dg', k2⟩, ⟨s0, s1, s2, k3⟩⟩ := d1.2.2.2.2.1
      refine ⟨pj_up H4 30 (pj_pc 0), d1.text (l := 0) (pd := x.2.2.2.2.2.2) ⟨by rw [pj_up_ap, if_pos rfl], by rw [pj_up_ap, if_neg (by decide)]; exact k1, ⟨_, _, _, _, _, by rw [pj_up_ap, if_neg (by decide)]; exact k2⟩, ⟨s0, s1, s2, by rw [pj_up_ap, if_neg (by decide)]; exact k3⟩⟩ (fun j hj => by rw [pj_up_ap, if_neg (by omega)]), fun j hj => ?_, ?_⟩
      · rw [pj_up_ap, if_neg (by omega), d2 j hj, pj_up_ap, if_neg (by omega), hF2 j (by omega), g4 j (by omega) (by omega)]
      · have z : nI 0 = 0 := rfl
        have z0 : pj_pc 0 = .inl (0, [.ref 31, .ref 32, .int 0]) := rfl
        rw [z] at d3
        rw [z0]
        generalize (ps_run x.2.2.2.2.2.2 x.2.2.2.2.2.1 81 0 x.1 0).2 = out at d3 ⊢
        simp (disch := first | assumption | exact pj_long_i | exact pj_long_r | exact pj_long_n | decide) only [x68_0, x68_1, simprocAttr, pj_then_s, pj_pv_s, pj_pi_s, pj_set_s, if_true, if_false, not_true_eq_false, not_false_eq_true, pj_up_up, pj_so110_109, pj_so111_109, pj_so112_109, pj_so113_109, pj_so114_109, pj_so115_109, pj_so116_109, pj_so117_109, pj_so111_110, pj_so112_110, pj_so113_110, pj_so114_110, pj_so115_110, pj_so116_110, pj_so117_110, pj_so112_111, pj_so113_111, pj_so114_111, pj_so115_111, pj_so116_111, pj_so117_111, pj_so113_112, pj_so114_112, pj_so115_112, pj_so116_112, pj_so117_112, pj_so114_113, pj_so115_113, pj_so116_113, pj_so117_113, pj_so115_114, pj_so116_114, pj_so117_114, pj_so116_115, pj_so117_115, pj_so117_116, pj_up_ap, pj_upd_ap, pj_a3_0, pj_a3_1, pj_a3_2, pj_a3_u0, pj_a3_u1, pj_a3_u2, pj_f5_3, hV, pj_vc]
        refine e68_4 rfl (by rw [hP]; rfl) g6 ?_
        simp (disch := first | assumption | exact pj_long_i | exact pj_long_r | exact pj_long_n | decide) only [x68_7, x68_9, x68_12, x68_15, x68_16, x68_19, x68_22, x68_23, x68_26, x68_29, x68_32, x68_33, x68_35, x68_38, x68_41, simprocAttr, pj_then_s, pj_pv_s, pj_pi_s, pj_set_s, if_true, if_false, not_true_eq_false, not_false_eq_true, pj_up_up, pj_so110_109, pj_so111_109, pj_so112_109, pj_so113_109, pj_so114_109, pj_so115_109, pj_so116_109, pj_so117_109, pj_so111_110, pj_so112_110, pj_so113_110, pj_so114_110, pj_so115_110, pj_so116_110, pj_so117_110, pj_so112_111, pj_so113_111, pj_so114_111, pj_so115_111, pj_so116_111, pj_so117_111, pj_so113_112, pj_so114_112, pj_so115_112, pj_so116_112, pj_so117_112, pj_so114_113, pj_so115_113, pj_so116_113, pj_so117_113, pj_so115_114, pj_so116_114, pj_so117_114, pj_so116_115, pj_so117_115, pj_so117_116, pj_up_ap, pj_upd_ap, pj_a3_0, pj_a3_1, pj_a3_2, pj_a3_u0, pj_a3_u1, pj_a3_u2, pj_f5_0, pj_f4_10, pj_f5_3, pj_f0_1, pj_f1_2, hV1, pj_vc, hu, hx5, hP1, pj_pc, h32, pj_rc, c2, c3]
        refine e68_42 rfl (by rw [hV1]; rfl) hE ?_
        simp (disch := first | assumption | exact pj_long_i | exact pj_long_r | exact pj_long_n | decide) only [x68_45, x68_46, x68_49, x68_52, x68_53, x68_54, x68_55, simprocAttr, pj_then_s, pj_pv_s, pj_pi_s, pj_set_s, if_true, if_false, not_true_eq_false, not_false_eq_true, pj_up_up, pj_so110_109, pj_so111_109, pj_so112_109, pj_so113_109, pj_so114_109, pj_so115_109, pj_so116_109, pj_so117_109, pj_so111_110, pj_so112_110, pj_so113_110, pj_so114_110, pj_so115_110, pj_so116_110, pj_so117_110, pj_so112_111, pj_so113_111, pj_so114_111, pj_so115_111, pj_so116_111, pj_so117_111, pj_so113_112, pj_so114_112, pj_so115_112, pj_so116_112, pj_so117_112, pj_so114_113, pj_so115_113, pj_so116_113, pj_so117_113, pj_so115_114, pj_so116_114, pj_so117_114, pj_so116_115, pj_so117_115, pj_so117_116, pj_up_ap, pj_upd_ap, pj_a3_0, pj_a3_1, pj_a3_2, pj_a3_u0, pj_a3_u1, pj_a3_u2, pj_f5_3, pj_f0_1, pj_long_i, pj_long_r, pj_long_n, hV2, pj_vc, p0, pj_pc]
        refine e68_56 rfl (by rw [p2]; rfl) B ?_
        simp (disch := first | assumption | exact pj_long_i | exact pj_long_r | exact pj_long_n | decide) only [x68_59, x68_60, simprocAttr, pj_then_s, pj_pv_s, pj_pi_s, pj_set_s, if_true, if_false, not_true_eq_false, not_false_eq_true, pj_up_up, pj_so110_109, pj_so111_109, pj_so112_109, pj_so113_109, pj_so114_109, pj_so115_109, pj_so116_109, pj_so117_109, pj_so111_110, pj_so112_110, pj_so113_110, pj_so114_110, pj_so115_110, pj_so116_110, pj_so117_110, pj_so112_111, pj_so113_111, pj_so114_111, pj_so115_111, pj_so116_111, pj_so117_111, pj_so113_112, pj_so114_112, pj_so115_112, pj_so116_112, pj_so117_112, pj_so114_113, pj_so115_113, pj_so116_113, pj_so117_113, pj_so115_114, pj_so116_114, pj_so117_114, pj_so116_115, pj_so117_115, pj_so117_116, pj_up_ap, pj_upd_ap, pj_a3_0, pj_a3_1, pj_a3_2, pj_a3_u0, pj_a3_u1, pj_a3_u2, pj_long_i, pj_long_r, pj_long_n]
        exact d3
  · rw [if_neg c1]
    refine ⟨H1, hC1, fun j hj => g4 j (by omega) (by omega), ?_⟩
    simp (disch := first | assumption | exact pj_long_i | exact pj_long_r | exact pj_long_n | decide) only [x68_0, x68_1, simprocAttr, pj_then_s, pj_pv_s, pj_pi_s, pj_set_s, if_true, if_false, not_true_eq_false, not_false_eq_true, pj_up_up, pj_so110_109, pj_so111_109, pj_so112_109, pj_so113_109, pj_so114_109, pj_so115_109, pj_so116_109, pj_so117_109, pj_so111_110, pj_so112_110, pj_so113_110, pj_so114_110, pj_so115_110, pj_so116_110, pj_so117_110, pj_so112_111, pj_so113_111, pj_so114_111, pj_so115_111, pj_so116_111, pj_so117_111, pj_so113_112, pj_so114_112, pj_so115_112, pj_so116_112, pj_so117_112, pj_so114_113, pj_so115_113, pj_so116_113, pj_so117_113, pj_so115_114, pj_so116_114, pj_so117_114, pj_so116_115, pj_so117_115, pj_so117_116, pj_up_ap, pj_upd_ap, pj_a3_0, pj_a3_1, pj_a3_2, pj_a3_u0, pj_a3_u1, pj_a3_u2, pj_f5_3, hV, pj_vc]
    refine e68_4 rfl (by rw [hP]; rfl) g6 ?_
    simp (disch := first | assumption | exact pj_long_i | exact pj_long_r | exact pj_long_n | decide) only [x68_7, x68_9, x68_12, simprocAttr, pj_then_s, pj_pv_s, pj_pi_s, pj_set_s, if_true, if_false, not_true_eq_false, not_false_eq_true, pj_up_up, pj_so110_109, pj_so111_109, pj_so112_109, pj_so113_109, pj_so114_109, pj_so115_109, pj_so116_109, pj_so117_109, pj_so111_110, pj_so112_110, pj_so113_110, pj_so114_110, pj_so115_110, pj_so116_110, pj_so117_110, pj_so112_111, pj_so113_111, pj_so114_111, pj_so115_111, pj_so116_111, pj_so117_111, pj_so113_112, pj_so114_112, pj_so115_112, pj_so116_112, pj_so117_112, pj_so114_113, pj_so115_113, pj_so116_113, pj_so117_113, pj_so115_114, pj_so116_114, pj_so117_114, pj_so116_115, pj_so117_115, pj_so117_116, pj_up_ap, pj_upd_ap, pj_a3_0, pj_a3_1, pj_a3_2, pj_a3_u0, pj_a3_u1, pj_a3_u2, c1]
    exact t68_14
end T51
