/-! THE CLASS'S READER ACCEPTS, OR NOT -/
section T41
variable {N S : Nat} {H : pj_Heap}
/-- what a call of the reader does: it goes on, or it refuses and nothing changes -/
def pj_Ac (N S : Nat) (H : pj_Heap) (k : Nat) (L : pj_Loc) (r : Option rd_S) : Prop := (∀ q', r = some q' → ∃ H', pj_RS H' q' ∧ (∀ j, j ≠ 32 → j ≠ 33 → H' j = H j) ∧ pj_Ends k (0, L, [], (N, S, H)) (some (.int 1), (N, S, H'))) ∧ (r = none → pj_Ends k (0, L, [], (N, S, H)) (some (.int 0), (N, S, H)))
theorem pj_Ac_no {k : Nat} {L : pj_Loc} (h : pj_Ends k (0, L, [], (N, S, H)) (some (.int 0), (N, S, H))) : pj_Ac N S H k L none := ⟨fun q e => (by cases e), fun _ => h⟩
theorem pj_Ac_yes {k : Nat} {L : pj_Loc} {q : rd_S} {H' : pj_Heap} (h1 : pj_RS H' q) (h2 : ∀ j, j ≠ 32 → j ≠ 33 → H' j = H j) (h : pj_Ends k (0, L, [], (N, S, H)) (some (.int 1), (N, S, H'))) : pj_Ac N S H k L (some q) := ⟨fun q' e => (by cases e; exact ⟨H', h1, h2, h⟩), fun e => (by cases e)⟩
theorem c_acceptDigit {q : rd_S} {d : Int32} (hq : rd_ok q) (h : pj_RS H q) : pj_Ac N S H 62 [some (.ref 32), some (.int d), none] (rd_dig q d) := by
  obtain ⟨ic, tk, k, ng, dg, R⟩ := q
  obtain ⟨h, h33⟩ := h
  have hk : k ≤ 2 := hq.1
  simp only at h h33
  unfold rd_dig
  simp only
  have e5 : (nI k).toNatClampNeg = k := nI_clamp (by omega)
  have e6 : pj_in (nI k) 3 = true := pj_in_nI (by omega) (by decide)
  have e7 : ¬ nI k < 0 := nI_pos (by omega)
  have e8 : nI k < 3 := (nI_ltI (b := 3) (by omega) (by decide)).mpr (by omega)
  by_cases c1 : ic = 0
  · rw [if_neg (fun w => w c1)]
    by_cases c2 : dg = 0
    · rw [if_pos c2]
      refine pj_Ac_no ?_
      simp (disch := first | assumption | exact pj_long_i | exact pj_long_r | exact pj_long_n | decide) only [x62_0, x62_1, x62_4, x62_7, x62_8, x62_11, x62_14, simprocAttr, pj_then_s, pj_pv_s, pj_pi_s, pj_set_s, if_true, if_false, not_true_eq_false, not_false_eq_true, pj_up_up, pj_so110_109, pj_so111_109, pj_so112_109, pj_so113_109, pj_so114_109, pj_so115_109, pj_so116_109, pj_so117_109, pj_so111_110, pj_so112_110, pj_so113_110, pj_so114_110, pj_so115_110, pj_so116_110, pj_so117_110, pj_so112_111, pj_so113_111, pj_so114_111, pj_so115_111, pj_so116_111, pj_so117_111, pj_so113_112, pj_so114_112, pj_so115_112, pj_so116_112, pj_so117_112, pj_so114_113, pj_so115_113, pj_so116_113, pj_so117_113, pj_so115_114, pj_so116_114, pj_so117_114, pj_so116_115, pj_so117_115, pj_so117_116, pj_up_ap, pj_upd_ap, pj_a3_0, pj_a3_1, pj_a3_2, pj_a3_u0, pj_a3_u1, pj_a3_u2, pj_f1_1, pj_f1_5, h, pj_rc, c1, c2]
      exact t62_15 (Or.inl rfl)
    rw [if_neg c2]
    have A : ∀ o L, (if dg = -1 then d else dg * 10 + d) = L → pj_Ends 62 (38, [some (.ref 32), some (.int d), some (.int L)], [], (N, S, H)) o → pj_Ends 62 (0, [some (.ref 32), some (.int d), none], [], (N, S, H)) o := by
      intro o L hL K
      by_cases c3 : dg = -1
      · rw [if_pos c3] at hL
        subst hL
        simp (disch := first | assumption | exact pj_long_i | exact pj_long_r | exact pj_long_n | decide) only [x62_0, x62_1, x62_4, x62_7, x62_8, x62_11, x62_14, x62_16, x62_17, x62_20, x62_21, x62_24, x62_25, x62_28, x62_29, x62_32, x62_34, x62_35, x62_36, x62_37, simprocAttr, pj_then_s, pj_pv_s, pj_pi_s, pj_set_s, if_true, if_false, not_true_eq_false, not_false_eq_true, pj_up_up, pj_so110_109, pj_so111_109, pj_so112_109, pj_so113_109, pj_so114_109, pj_so115_109, pj_so116_109, pj_so117_109, pj_so111_110, pj_so112_110, pj_so113_110, pj_so114_110, pj_so115_110, pj_so116_110, pj_so117_110, pj_so112_111, pj_so113_111, pj_so114_111, pj_so115_111, pj_so116_111, pj_so117_111, pj_so113_112, pj_so114_112, pj_so115_112, pj_so116_112, pj_so117_112, pj_so114_113, pj_so115_113, pj_so116_113, pj_so117_113, pj_so115_114, pj_so116_114, pj_so117_114, pj_so116_115, pj_so117_115, pj_so117_116, pj_up_ap, pj_upd_ap, pj_a3_0, pj_a3_1, pj_a3_2, pj_a3_u0, pj_a3_u1, pj_a3_u2, pj_f1_1, pj_f1_5, pj_long_i, pj_long_r, pj_long_n, h, pj_rc, c1, c2, c3]
        exact K
      · rw [if_neg c3] at hL
        subst hL
        simp (disch := first | assumption | exact pj_long_i | exact pj_long_r | exact pj_long_n | decide) only [x62_0, x62_1, x62_4, x62_7, x62_8, x62_11, x62_14, x62_16, x62_17, x62_20, x62_21, x62_24, x62_25, x62_28, x62_29, x62_32, x62_34, x62_35, x62_36, x62_37, simprocAttr, pj_then_s, pj_pv_s, pj_pi_s, pj_set_s, if_true, if_false, not_true_eq_false, not_false_eq_true, pj_up_up, pj_so110_109, pj_so111_109, pj_so112_109, pj_so113_109, pj_so114_109, pj_so115_109, pj_so116_109, pj_so117_109, pj_so111_110, pj_so112_110, pj_so113_110, pj_so114_110, pj_so115_110, pj_so116_110, pj_so117_110, pj_so112_111, pj_so113_111, pj_so114_111, pj_so115_111, pj_so116_111, pj_so117_111, pj_so113_112, pj_so114_112, pj_so115_112, pj_so116_112, pj_so117_112, pj_so114_113, pj_so115_113, pj_so116_113, pj_so117_113, pj_so115_114, pj_so116_114, pj_so117_114, pj_so116_115, pj_so117_115, pj_so117_116, pj_up_ap, pj_upd_ap, pj_a3_0, pj_a3_1, pj_a3_2, pj_a3_u0, pj_a3_u1, pj_a3_u2, pj_f1_1, pj_f1_5, pj_long_i, pj_long_r, pj_long_n, h, pj_rc, c1, c2, c3]
        exact K
    generalize hL : (if dg = -1 then d else dg * 10 + d) = L at A ⊢
    by_cases c4 : 500 < L
    · rw [if_pos c4]
      have c5 : ¬ L ≤ 500 := Int32.not_le.mpr c4
      refine pj_Ac_no (A _ _ rfl ?_)
      simp (disch := first | assumption | exact pj_long_i | exact pj_long_r | exact pj_long_n | decide) only [x62_38, x62_39, x62_42, x62_45, x62_46, x62_49, x62_52, x62_53, x62_56, x62_57, x62_60, simprocAttr, pj_then_s, pj_pv_s, pj_pi_s, pj_set_s, if_true, if_false, not_true_eq_false, not_false_eq_true, pj_up_up, pj_so110_109, pj_so111_109, pj_so112_109, pj_so113_109, pj_so114_109, pj_so115_109, pj_so116_109, pj_so117_109, pj_so111_110, pj_so112_110, pj_so113_110, pj_so114_110, pj_so115_110, pj_so116_110, pj_so117_110, pj_so112_111, pj_so113_111, pj_so114_111, pj_so115_111, pj_so116_111, pj_so117_111, pj_so113_112, pj_so114_112, pj_so115_112, pj_so116_112, pj_so117_112, pj_so114_113, pj_so115_113, pj_so116_113, pj_so117_113, pj_so115_114, pj_so116_114, pj_so117_114, pj_so116_115, pj_so117_115, pj_so117_116, pj_up_ap, pj_upd_ap, pj_a3_0, pj_a3_1, pj_a3_2, pj_a3_u0, pj_a3_u1, pj_a3_u2, pj_f1_3, c4, c5]
      exact t62_61 (Or.inl rfl)
    · rw [if_neg c4]
      have c5 : L ≤ 500 := Int32.not_lt.mp c4
      by_cases c6 : ng = 0
      · rw [if_pos c6]
        refine pj_Ac_yes (H' := pj_up (pj_up H 32 (pj_rc ic tk (nI k) ng L)) 33 (.inr (0, 3, .inl (upd R k L)))) ⟨by rw [pj_up_ap, if_neg (by decide), pj_up_ap, if_pos rfl], by rw [pj_up_ap, if_pos rfl]⟩ (fun j a b => by rw [pj_up_ap, if_neg b, pj_up_ap, if_neg a]) (A _ _ rfl ?_)
        simp (disch := first | assumption | exact pj_long_i | exact pj_long_r | exact pj_long_n | decide) only [x62_38, x62_39, x62_42, x62_45, x62_46, x62_49, x62_52, x62_53, x62_56, x62_57, x62_60, x62_62, x62_63, x62_64, x62_67, x62_68, x62_71, x62_72, x62_75, x62_76, x62_79, x62_82, x62_83, x62_86, x62_87, x62_90, x62_91, x62_94, x62_95, simprocAttr, pj_then_s, pj_pv_s, pj_pi_s, pj_set_s, if_true, if_false, not_true_eq_false, not_false_eq_true, pj_up_up, pj_so110_109, pj_so111_109, pj_so112_109, pj_so113_109, pj_so114_109, pj_so115_109, pj_so116_109, pj_so117_109, pj_so111_110, pj_so112_110, pj_so113_110, pj_so114_110, pj_so115_110, pj_so116_110, pj_so117_110, pj_so112_111, pj_so113_111, pj_so114_111, pj_so115_111, pj_so116_111, pj_so117_111, pj_so113_112, pj_so114_112, pj_so115_112, pj_so116_112, pj_so117_112, pj_so114_113, pj_so115_113, pj_so116_113, pj_so117_113, pj_so115_114, pj_so116_114, pj_so117_114, pj_so116_115, pj_so117_115, pj_so117_116, pj_up_ap, pj_upd_ap, pj_a3_0, pj_a3_1, pj_a3_2, pj_a3_u0, pj_a3_u1, pj_a3_u2, pj_f1_3, pj_s1_5, pj_f1_0, pj_f1_4, pj_f1_5, pj_ars_i, h, h33, pj_rc, c4, c5, c6, e5, e6, e7, e8]
        exact t62_96 (Or.inr rfl)
      · rw [if_neg c6]
        refine pj_Ac_yes (H' := pj_up (pj_up H 32 (pj_rc ic tk (nI k) ng L)) 33 (.inr (0, 3, .inl (upd R k (-L))))) ⟨by rw [pj_up_ap, if_neg (by decide), pj_up_ap, if_pos rfl], by rw [pj_up_ap, if_pos rfl]⟩ (fun j a b => by rw [pj_up_ap, if_neg b, pj_up_ap, if_neg a]) (A _ _ rfl ?_)
        simp (disch := first | assumption | exact pj_long_i | exact pj_long_r | exact pj_long_n | decide) only [x62_38, x62_39, x62_42, x62_45, x62_46, x62_49, x62_52, x62_53, x62_56, x62_57, x62_60, x62_62, x62_63, x62_64, x62_67, x62_68, x62_71, x62_72, x62_75, x62_76, x62_79, x62_82, x62_83, x62_86, x62_87, x62_90, x62_91, x62_94, x62_95, simprocAttr, pj_then_s, pj_pv_s, pj_pi_s, pj_set_s, if_true, if_false, not_true_eq_false, not_false_eq_true, pj_up_up, pj_so110_109, pj_so111_109, pj_so112_109, pj_so113_109, pj_so114_109, pj_so115_109, pj_so116_109, pj_so117_109, pj_so111_110, pj_so112_110, pj_so113_110, pj_so114_110, pj_so115_110, pj_so116_110, pj_so117_110, pj_so112_111, pj_so113_111, pj_so114_111, pj_so115_111, pj_so116_111, pj_so117_111, pj_so113_112, pj_so114_112, pj_so115_112, pj_so116_112, pj_so117_112, pj_so114_113, pj_so115_113, pj_so116_113, pj_so117_113, pj_so115_114, pj_so116_114, pj_so117_114, pj_so116_115, pj_so117_115, pj_so117_116, pj_up_ap, pj_upd_ap, pj_a3_0, pj_a3_1, pj_a3_2, pj_a3_u0, pj_a3_u1, pj_a3_u2, pj_f1_3, pj_s1_5, pj_f1_0, pj_f1_4, pj_f1_5, pj_ars_i, h, h33, pj_rc, c4, c5, c6, e5, e6, e7, e8]
        exact t62_96 (Or.inr rfl)
  · rw [if_pos c1]
    refine pj_Ac_no ?_
    simp (disch := first | assumption | exact pj_long_i | exact pj_long_r | exact pj_long_n | decide) only [x62_0, x62_1, x62_4, x62_7, x62_8, x62_11, x62_14, simprocAttr, pj_then_s, pj_pv_s, pj_pi_s, pj_set_s, if_true, if_false, not_true_eq_false, not_false_eq_true, pj_up_up, pj_so110_109, pj_so111_109, pj_so112_109, pj_so113_109, pj_so114_109, pj_so115_109, pj_so116_109, pj_so117_109, pj_so111_110, pj_so112_110, pj_so113_110, pj_so114_110, pj_so115_110, pj_so116_110, pj_so117_110, pj_so112_111, pj_so113_111, pj_so114_111, pj_so115_111, pj_so116_111, pj_so117_111, pj_so113_112, pj_so114_112, pj_so115_112, pj_so116_112, pj_so117_112, pj_so114_113, pj_so115_113, pj_so116_113, pj_so117_113, pj_so115_114, pj_so116_114, pj_so117_114, pj_so116_115, pj_so117_115, pj_so117_116, pj_up_ap, pj_upd_ap, pj_a3_0, pj_a3_1, pj_a3_2, pj_a3_u0, pj_a3_u1, pj_a3_u2, pj_f1_1, pj_f1_5, h, pj_rc, c1]
    exact t62_15 (Or.inl rfl)
theorem c_acceptMinus {q : rd_S} (h : pj_RS H q) : pj_Ac N S H 63 [some (.ref 32)] (if q.2.2.2.1 = 0 then (if q.2.2.2.2.1 = -1 then some (q.1, q.2.1, q.2.2.1, 1, q.2.2.2.2.1, q.2.2.2.2.2) else none) else none) := by
  obtain ⟨ic, tk, k, ng, dg, R⟩ := q
  obtain ⟨h, h33⟩ := h
  simp only at h h33 ⊢
  by_cases c1 : ng = 0
  · rw [if_pos c1]
    by_cases c2 : dg = -1
    · rw [if_pos c2]
      refine pj_Ac_yes (H' := pj_up H 32 (pj_rc ic tk (nI k) 1 dg)) ⟨by rw [pj_up_ap, if_pos rfl], by rw [pj_up_ap, if_neg (by decide)]; exact h33⟩ (fun j a b => by rw [pj_up_ap, if_neg a]) ?_
      simp (disch := first | assumption | exact pj_long_i | exact pj_long_r | exact pj_long_n | decide) only [x63_0, x63_1, x63_4, x63_7, x63_8, x63_11, x63_12, x63_15, x63_17, x63_18, x63_19, x63_22, simprocAttr, pj_then_s, pj_pv_s, pj_pi_s, pj_set_s, if_true, if_false, not_true_eq_false, not_false_eq_true, pj_up_up, pj_so110_109, pj_so111_109, pj_so112_109, pj_so113_109, pj_so114_109, pj_so115_109, pj_so116_109, pj_so117_109, pj_so111_110, pj_so112_110, pj_so113_110, pj_so114_110, pj_so115_110, pj_so116_110, pj_so117_110, pj_so112_111, pj_so113_111, pj_so114_111, pj_so115_111, pj_so116_111, pj_so117_111, pj_so113_112, pj_so114_112, pj_so115_112, pj_so116_112, pj_so117_112, pj_so114_113, pj_so115_113, pj_so116_113, pj_so117_113, pj_so115_114, pj_so116_114, pj_so117_114, pj_so116_115, pj_so117_115, pj_so117_116, pj_up_ap, pj_upd_ap, pj_a3_0, pj_a3_1, pj_a3_2, pj_a3_u0, pj_a3_u1, pj_a3_u2, pj_f1_4, pj_f1_5, pj_s1_4, h, pj_rc, c1, c2]
      exact t63_23 (Or.inr rfl)
    · rw [if_neg c2]
      refine pj_Ac_no ?_
      simp (disch := first | assumption | exact pj_long_i | exact pj_long_r | exact pj_long_n | decide) only [x63_0, x63_1, x63_4, x63_7, x63_8, x63_11, x63_12, x63_15, simprocAttr, pj_then_s, pj_pv_s, pj_pi_s, pj_set_s, if_true, if_false, not_true_eq_false, not_false_eq_true, pj_up_up, pj_so110_109, pj_so111_109, pj_so112_109, pj_so113_109, pj_so114_109, pj_so115_109, pj_so116_109, pj_so117_109, pj_so111_110, pj_so112_110, pj_so113_110, pj_so114_110, pj_so115_110, pj_so116_110, pj_so117_110, pj_so112_111, pj_so113_111, pj_so114_111, pj_so115_111, pj_so116_111, pj_so117_111, pj_so113_112, pj_so114_112, pj_so115_112, pj_so116_112, pj_so117_112, pj_so114_113, pj_so115_113, pj_so116_113, pj_so117_113, pj_so115_114, pj_so116_114, pj_so117_114, pj_so116_115, pj_so117_115, pj_so117_116, pj_up_ap, pj_upd_ap, pj_a3_0, pj_a3_1, pj_a3_2, pj_a3_u0, pj_a3_u1, pj_a3_u2, pj_f1_4, pj_f1_5, h, pj_rc, c1, c2]
      exact t63_16 (Or.inl rfl)
  · rw [if_neg c1]
    refine pj_Ac_no ?_
    simp (disch := first | assumption | exact pj_long_i | exact pj_long_r | exact pj_long_n | decide) only [x63_0, x63_1, x63_4, x63_7, x63_8, x63_11, x63_12, x63_15, simprocAttr, pj_then_s, pj_pv_s, pj_pi_s, pj_set_s, if_true, if_false, not_true_eq_false, not_false_eq_true, pj_up_up, pj_so110_109, pj_so111_109, pj_so112_109, pj_so113_109, pj_so114_109, pj_so115_109, pj_so116_109, pj_so117_109, pj_so111_110, pj_so112_110, pj_so113_110, pj_so114_110, pj_so115_110, pj_so116_110, pj_so117_110, pj_so112_111, pj_so113_111, pj_so114_111, pj_so115_111, pj_so116_111, pj_so117_111, pj_so113_112, pj_so114_112, pj_so115_112, pj_so116_112, pj_so117_112, pj_so114_113, pj_so115_113, pj_so116_113, pj_so117_113, pj_so115_114, pj_so116_114, pj_so117_114, pj_so116_115, pj_so117_115, pj_so117_116, pj_up_ap, pj_upd_ap, pj_a3_0, pj_a3_1, pj_a3_2, pj_a3_u0, pj_a3_u1, pj_a3_u2, pj_f1_4, pj_f1_5, h, pj_rc, c1]
    exact t63_16 (Or.inl rfl)
theorem c_acceptComma {q : rd_S} (hq : rd_ok q) (h : pj_RS H q) : pj_Ac N S H 64 [some (.ref 32)] (if q.2.2.2.2.1 = -1 then none else if q.2.2.1 = 2 then none else some (q.1, q.2.1, q.2.2.1 + 1, 0, -1, q.2.2.2.2.2)) := by
  obtain ⟨ic, tk, k, ng, dg, R⟩ := q
  obtain ⟨h, h33⟩ := h
  have hk : k ≤ 2 := hq.1
  simp only at h h33 ⊢
  by_cases c1 : dg = -1
  · rw [if_pos c1]
    refine pj_Ac_no ?_
    simp (disch := first | assumption | exact pj_long_i | exact pj_long_r | exact pj_long_n | decide) only [x64_0, x64_1, x64_4, x64_5, x64_8, x64_9, x64_12, x64_13, x64_16, simprocAttr, pj_then_s, pj_pv_s, pj_pi_s, pj_set_s, if_true, if_false, not_true_eq_false, not_false_eq_true, pj_up_up, pj_so110_109, pj_so111_109, pj_so112_109, pj_so113_109, pj_so114_109, pj_so115_109, pj_so116_109, pj_so117_109, pj_so111_110, pj_so112_110, pj_so113_110, pj_so114_110, pj_so115_110, pj_so116_110, pj_so117_110, pj_so112_111, pj_so113_111, pj_so114_111, pj_so115_111, pj_so116_111, pj_so117_111, pj_so113_112, pj_so114_112, pj_so115_112, pj_so116_112, pj_so117_112, pj_so114_113, pj_so115_113, pj_so116_113, pj_so117_113, pj_so115_114, pj_so116_114, pj_so117_114, pj_so116_115, pj_so117_115, pj_so117_116, pj_up_ap, pj_upd_ap, pj_a3_0, pj_a3_1, pj_a3_2, pj_a3_u0, pj_a3_u1, pj_a3_u2, pj_f1_5, pj_f1_3, h, pj_rc, c1]
    exact t64_17 (Or.inl rfl)
  rw [if_neg c1]
  by_cases c2 : k = 2
  · subst c2
    rw [if_pos rfl]
    have e : nI 2 = 2 := rfl
    rw [e] at h
    refine pj_Ac_no ?_
    simp (disch := first | assumption | exact pj_long_i | exact pj_long_r | exact pj_long_n | decide) only [x64_0, x64_1, x64_4, x64_5, x64_8, x64_9, x64_12, x64_13, x64_16, simprocAttr, pj_then_s, pj_pv_s, pj_pi_s, pj_set_s, if_true, if_false, not_true_eq_false, not_false_eq_true, pj_up_up, pj_so110_109, pj_so111_109, pj_so112_109, pj_so113_109, pj_so114_109, pj_so115_109, pj_so116_109, pj_so117_109, pj_so111_110, pj_so112_110, pj_so113_110, pj_so114_110, pj_so115_110, pj_so116_110, pj_so117_110, pj_so112_111, pj_so113_111, pj_so114_111, pj_so115_111, pj_so116_111, pj_so117_111, pj_so113_112, pj_so114_112, pj_so115_112, pj_so116_112, pj_so117_112, pj_so114_113, pj_so115_113, pj_so116_113, pj_so117_113, pj_so115_114, pj_so116_114, pj_so117_114, pj_so116_115, pj_so117_115, pj_so117_116, pj_up_ap, pj_upd_ap, pj_a3_0, pj_a3_1, pj_a3_2, pj_a3_u0, pj_a3_u1, pj_a3_u2, pj_f1_5, pj_f1_3, h, pj_rc, c1]
    exact t64_17 (Or.inl rfl)
  · rw [if_neg c2]
    have c3 : nI k < 2 := (nI_ltI (b := 2) (by omega) (by decide)).mpr (by omega)
    have c4 : ¬ 2 ≤ nI k := Int32.not_le.mpr c3
    refine pj_Ac_yes (H' := pj_up H 32 (pj_rc ic tk (nI (k + 1)) 0 (-1))) ⟨by rw [pj_up_ap, if_pos rfl], by rw [pj_up_ap, if_neg (by decide)]; exact h33⟩ (fun j a b => by rw [pj_up_ap, if_neg a]) ?_
    have K := c_beginNumber (N := N) (S := S) (H := pj_up H 32 (pj_rc ic tk (nI (k + 1)) ng dg)) (ic := ic) (tk := tk) (pc := nI (k + 1)) (ng := ng) (dg := dg) (by rw [pj_up_ap, if_pos rfl])
    rw [pj_up_up] at K
    unfold pj_rc at K
    unfold pj_rc
    simp (disch := first | assumption | exact pj_long_i | exact pj_long_r | exact pj_long_n | decide) only [x64_0, x64_1, x64_4, x64_5, x64_8, x64_9, x64_12, x64_13, x64_16, x64_18, x64_19, x64_19i, x64_20, x64_23, x64_24, x64_25, x64_28, simprocAttr, pj_then_s, pj_pv_s, pj_pi_s, pj_set_s, if_true, if_false, not_true_eq_false, not_false_eq_true, pj_up_up, pj_so110_109, pj_so111_109, pj_so112_109, pj_so113_109, pj_so114_109, pj_so115_109, pj_so116_109, pj_so117_109, pj_so111_110, pj_so112_110, pj_so113_110, pj_so114_110, pj_so115_110, pj_so116_110, pj_so117_110, pj_so112_111, pj_so113_111, pj_so114_111, pj_so115_111, pj_so116_111, pj_so117_111, pj_so113_112, pj_so114_112, pj_so115_112, pj_so116_112, pj_so117_112, pj_so114_113, pj_so115_113, pj_so116_113, pj_so117_113, pj_so115_114, pj_so116_114, pj_so117_114, pj_so116_115, pj_so117_115, pj_so117_116, pj_up_ap, pj_upd_ap, pj_a3_0, pj_a3_1, pj_a3_2, pj_a3_u0, pj_a3_u1, pj_a3_u2, pj_f1_5, pj_f1_3, pj_s1_3, h, pj_rc, c1, c3, c4, nI_1]
    refine e64_29 rfl (by rw [pj_up_ap, if_pos rfl]; rfl) K ?_
    simp (disch := first | assumption | exact pj_long_i | exact pj_long_r | exact pj_long_n | decide) only [x64_32, simprocAttr, pj_then_s, pj_pv_s, pj_pi_s, pj_set_s, if_true, if_false, not_true_eq_false, not_false_eq_true, pj_up_up, pj_so110_109, pj_so111_109, pj_so112_109, pj_so113_109, pj_so114_109, pj_so115_109, pj_so116_109, pj_so117_109, pj_so111_110, pj_so112_110, pj_so113_110, pj_so114_110, pj_so115_110, pj_so116_110, pj_so117_110, pj_so112_111, pj_so113_111, pj_so114_111, pj_so115_111, pj_so116_111, pj_so117_111, pj_so113_112, pj_so114_112, pj_so115_112, pj_so116_112, pj_so117_112, pj_so114_113, pj_so115_113, pj_so116_113, pj_so117_113, pj_so115_114, pj_so116_114, pj_so117_114, pj_so116_115, pj_so117_115, pj_so117_116, pj_up_ap, pj_upd_ap, pj_a3_0, pj_a3_1, pj_a3_2, pj_a3_u0, pj_a3_u1, pj_a3_u2]
    exact t64_33 (Or.inr rfl)
theorem c_acceptClosed {q : rd_S} (hq : rd_ok q) (h : pj_RS H q) : pj_Ac N S H 65 [some (.ref 32)] (if q.2.2.1 = 2 then (if q.2.2.2.2.1 = -1 then none else if q.1 = 0 then some (1, q.2.1, q.2.2.1, q.2.2.2.1, q.2.2.2.2.1, q.2.2.2.2.2) else none) else none) := by
  have E := c_isAtTickEnd (N := N) (S := S) hq h
  obtain ⟨ic, tk, k, ng, dg, R⟩ := q
  obtain ⟨h, h33⟩ := h
  simp only at h h33 ⊢
  unfold rd_en at E
  simp only at E
  by_cases c1 : k = 2
  · rw [if_pos c1] at E ⊢
    by_cases c2 : dg = -1
    · rw [if_pos c2] at E ⊢
      refine pj_Ac_no ?_
      simp (disch := first | assumption | exact pj_long_i | exact pj_long_r | exact pj_long_n | decide) only [x65_0, simprocAttr, pj_then_s, pj_pv_s, pj_pi_s, pj_set_s, if_true, if_false, not_true_eq_false, not_false_eq_true, pj_up_up, pj_so110_109, pj_so111_109, pj_so112_109, pj_so113_109, pj_so114_109, pj_so115_109, pj_so116_109, pj_so117_109, pj_so111_110, pj_so112_110, pj_so113_110, pj_so114_110, pj_so115_110, pj_so116_110, pj_so117_110, pj_so112_111, pj_so113_111, pj_so114_111, pj_so115_111, pj_so116_111, pj_so117_111, pj_so113_112, pj_so114_112, pj_so115_112, pj_so116_112, pj_so117_112, pj_so114_113, pj_so115_113, pj_so116_113, pj_so117_113, pj_so115_114, pj_so116_114, pj_so117_114, pj_so116_115, pj_so117_115, pj_so117_116, pj_up_ap, pj_upd_ap, pj_a3_0, pj_a3_1, pj_a3_2, pj_a3_u0, pj_a3_u1, pj_a3_u2]
      refine e65_1 rfl (by rw [h]; rfl) E ?_
      simp (disch := first | assumption | exact pj_long_i | exact pj_long_r | exact pj_long_n | decide) only [x65_4, x65_7, x65_8, x65_11, x65_14, simprocAttr, pj_then_s, pj_pv_s, pj_pi_s, pj_set_s, if_true, if_false, not_true_eq_false, not_false_eq_true, pj_up_up, pj_so110_109, pj_so111_109, pj_so112_109, pj_so113_109, pj_so114_109, pj_so115_109, pj_so116_109, pj_so117_109, pj_so111_110, pj_so112_110, pj_so113_110, pj_so114_110, pj_so115_110, pj_so116_110, pj_so117_110, pj_so112_111, pj_so113_111, pj_so114_111, pj_so115_111, pj_so116_111, pj_so117_111, pj_so113_112, pj_so114_112, pj_so115_112, pj_so116_112, pj_so117_112, pj_so114_113, pj_so115_113, pj_so116_113, pj_so117_113, pj_so115_114, pj_so116_114, pj_so117_114, pj_so116_115, pj_so117_115, pj_so117_116, pj_up_ap, pj_upd_ap, pj_a3_0, pj_a3_1, pj_a3_2, pj_a3_u0, pj_a3_u1, pj_a3_u2, pj_f1_1]
      exact t65_15 (Or.inl rfl)
    · rw [if_neg c2] at E ⊢
      by_cases c3 : ic = 0
      · rw [if_pos c3]
        refine pj_Ac_yes (H' := pj_up H 32 (pj_rc 1 tk (nI k) ng dg)) ⟨by rw [pj_up_ap, if_pos rfl], by rw [pj_up_ap, if_neg (by decide)]; exact h33⟩ (fun j a b => by rw [pj_up_ap, if_neg a]) ?_
        simp (disch := first | assumption | exact pj_long_i | exact pj_long_r | exact pj_long_n | decide) only [x65_0, simprocAttr, pj_then_s, pj_pv_s, pj_pi_s, pj_set_s, if_true, if_false, not_true_eq_false, not_false_eq_true, pj_up_up, pj_so110_109, pj_so111_109, pj_so112_109, pj_so113_109, pj_so114_109, pj_so115_109, pj_so116_109, pj_so117_109, pj_so111_110, pj_so112_110, pj_so113_110, pj_so114_110, pj_so115_110, pj_so116_110, pj_so117_110, pj_so112_111, pj_so113_111, pj_so114_111, pj_so115_111, pj_so116_111, pj_so117_111, pj_so113_112, pj_so114_112, pj_so115_112, pj_so116_112, pj_so117_112, pj_so114_113, pj_so115_113, pj_so116_113, pj_so117_113, pj_so115_114, pj_so116_114, pj_so117_114, pj_so116_115, pj_so117_115, pj_so117_116, pj_up_ap, pj_upd_ap, pj_a3_0, pj_a3_1, pj_a3_2, pj_a3_u0, pj_a3_u1, pj_a3_u2]
        refine e65_1 rfl (by rw [h]; rfl) E ?_
        simp (disch := first | assumption | exact pj_long_i | exact pj_long_r | exact pj_long_n | decide) only [x65_4, x65_7, x65_8, x65_11, x65_14, x65_16, x65_17, x65_18, x65_21, simprocAttr, pj_then_s, pj_pv_s, pj_pi_s, pj_set_s, if_true, if_false, not_true_eq_false, not_false_eq_true, pj_up_up, pj_so110_109, pj_so111_109, pj_so112_109, pj_so113_109, pj_so114_109, pj_so115_109, pj_so116_109, pj_so117_109, pj_so111_110, pj_so112_110, pj_so113_110, pj_so114_110, pj_so115_110, pj_so116_110, pj_so117_110, pj_so112_111, pj_so113_111, pj_so114_111, pj_so115_111, pj_so116_111, pj_so117_111, pj_so113_112, pj_so114_112, pj_so115_112, pj_so116_112, pj_so117_112, pj_so114_113, pj_so115_113, pj_so116_113, pj_so117_113, pj_so115_114, pj_so116_114, pj_so117_114, pj_so116_115, pj_so117_115, pj_so117_116, pj_up_ap, pj_upd_ap, pj_a3_0, pj_a3_1, pj_a3_2, pj_a3_u0, pj_a3_u1, pj_a3_u2, pj_f1_1, pj_s1_1, h, pj_rc, c3]
        exact t65_22 (Or.inr rfl)
      · rw [if_neg c3]
        refine pj_Ac_no ?_
        simp (disch := first | assumption | exact pj_long_i | exact pj_long_r | exact pj_long_n | decide) only [x65_0, simprocAttr, pj_then_s, pj_pv_s, pj_pi_s, pj_set_s, if_true, if_false, not_true_eq_false, not_false_eq_true, pj_up_up, pj_so110_109, pj_so111_109, pj_so112_109, pj_so113_109, pj_so114_109, pj_so115_109, pj_so116_109, pj_so117_109, pj_so111_110, pj_so112_110, pj_so113_110, pj_so114_110, pj_so115_110, pj_so116_110, pj_so117_110, pj_so112_111, pj_so113_111, pj_so114_111, pj_so115_111, pj_so116_111, pj_so117_111, pj_so113_112, pj_so114_112, pj_so115_112, pj_so116_112, pj_so117_112, pj_so114_113, pj_so115_113, pj_so116_113, pj_so117_113, pj_so115_114, pj_so116_114, pj_so117_114, pj_so116_115, pj_so117_115, pj_so117_116, pj_up_ap, pj_upd_ap, pj_a3_0, pj_a3_1, pj_a3_2, pj_a3_u0, pj_a3_u1, pj_a3_u2]
        refine e65_1 rfl (by rw [h]; rfl) E ?_
        simp (disch := first | assumption | exact pj_long_i | exact pj_long_r | exact pj_long_n | decide) only [x65_4, x65_7, x65_8, x65_11, x65_14, simprocAttr, pj_then_s, pj_pv_s, pj_pi_s, pj_set_s, if_true, if_false, not_true_eq_false, not_false_eq_true, pj_up_up, pj_so110_109, pj_so111_109, pj_so112_109, pj_so113_109, pj_so114_109, pj_so115_109, pj_so116_109, pj_so117_109, pj_so111_110, pj_so112_110, pj_so113_110, pj_so114_110, pj_so115_110, pj_so116_110, pj_so117_110, pj_so112_111, pj_so113_111, pj_so114_111, pj_so115_111, pj_so116_111, pj_so117_111, pj_so113_112, pj_so114_112, pj_so115_112, pj_so116_112, pj_so117_112, pj_so114_113, pj_so115_113, pj_so116_113, pj_so117_113, pj_so115_114, pj_so116_114, pj_so117_114, pj_so116_115, pj_so117_115, pj_so117_116, pj_up_ap, pj_upd_ap, pj_a3_0, pj_a3_1, pj_a3_2, pj_a3_u0, pj_a3_u1, pj_a3_u2, pj_f1_1, h, pj_rc, c3]
        exact t65_15 (Or.inl rfl)
  · rw [if_neg c1] at E ⊢
    refine pj_Ac_no ?_
    simp (disch := first | assumption | exact pj_long_i | exact pj_long_r | exact pj_long_n | decide) only [x65_0, simprocAttr, pj_then_s, pj_pv_s, pj_pi_s, pj_set_s, if_true, if_false, not_true_eq_false, not_false_eq_true, pj_up_up, pj_so110_109, pj_so111_109, pj_so112_109, pj_so113_109, pj_so114_109, pj_so115_109, pj_so116_109, pj_so117_109, pj_so111_110, pj_so112_110, pj_so113_110, pj_so114_110, pj_so115_110, pj_so116_110, pj_so117_110, pj_so112_111, pj_so113_111, pj_so114_111, pj_so115_111, pj_so116_111, pj_so117_111, pj_so113_112, pj_so114_112, pj_so115_112, pj_so116_112, pj_so117_112, pj_so114_113, pj_so115_113, pj_so116_113, pj_so117_113, pj_so115_114, pj_so116_114, pj_so117_114, pj_so116_115, pj_so117_115, pj_so117_116, pj_up_ap, pj_upd_ap, pj_a3_0, pj_a3_1, pj_a3_2, pj_a3_u0, pj_a3_u1, pj_a3_u2]
    refine e65_1 rfl (by rw [h]; rfl) E ?_
    simp (disch := first | assumption | exact pj_long_i | exact pj_long_r | exact pj_long_n | decide) only [x65_4, x65_7, x65_8, x65_11, x65_14, simprocAttr, pj_then_s, pj_pv_s, pj_pi_s, pj_set_s, if_true, if_false, not_true_eq_false, not_false_eq_true, pj_up_up, pj_so110_109, pj_so111_109, pj_so112_109, pj_so113_109, pj_so114_109, pj_so115_109, pj_so116_109, pj_so117_109, pj_so111_110, pj_so112_110, pj_so113_110, pj_so114_110, pj_so115_110, pj_so116_110, pj_so117_110, pj_so112_111, pj_so113_111, pj_so114_111, pj_so115_111, pj_so116_111, pj_so117_111, pj_so113_112, pj_so114_112, pj_so115_112, pj_so116_112, pj_so117_112, pj_so114_113, pj_so115_113, pj_so116_113, pj_so117_113, pj_so115_114, pj_so116_114, pj_so117_114, pj_so116_115, pj_so117_115, pj_so117_116, pj_up_ap, pj_upd_ap, pj_a3_0, pj_a3_1, pj_a3_2, pj_a3_u0, pj_a3_u1, pj_a3_u2, pj_f1_1]
    exact t65_15 (Or.inl rfl)
theorem c_acceptSemicolon {q : rd_S} (hq : rd_ok q) (h : pj_RS H q) : pj_Ac N S H 67 [some (.ref 32)] (if q.2.2.1 = 2 then (if q.2.2.2.2.1 = -1 then none else some (0, q.2.1 + 1, 0, 0, -1, q.2.2.2.2.2)) else none) := by
  have E := c_isAtTickEnd (N := N) (S := S) hq h
  obtain ⟨ic, tk, k, ng, dg, R⟩ := q
  obtain ⟨h, h33⟩ := h
  simp only at h h33 ⊢
  unfold rd_en at E
  simp only at E
  by_cases c1 : k = 2
  · rw [if_pos c1] at E ⊢
    by_cases c2 : dg = -1
    · rw [if_pos c2] at E ⊢
      refine pj_Ac_no ?_
      simp (disch := first | assumption | exact pj_long_i | exact pj_long_r | exact pj_long_n | decide) only [x67_0, simprocAttr, pj_then_s, pj_pv_s, pj_pi_s, pj_set_s, if_true, if_false, not_true_eq_false, not_false_eq_true, pj_up_up, pj_so110_109, pj_so111_109, pj_so112_109, pj_so113_109, pj_so114_109, pj_so115_109, pj_so116_109, pj_so117_109, pj_so111_110, pj_so112_110, pj_so113_110, pj_so114_110, pj_so115_110, pj_so116_110, pj_so117_110, pj_so112_111, pj_so113_111, pj_so114_111, pj_so115_111, pj_so116_111, pj_so117_111, pj_so113_112, pj_so114_112, pj_so115_112, pj_so116_112, pj_so117_112, pj_so114_113, pj_so115_113, pj_so116_113, pj_so117_113, pj_so115_114, pj_so116_114, pj_so117_114, pj_so116_115, pj_so117_115, pj_so117_116, pj_up_ap, pj_upd_ap, pj_a3_0, pj_a3_1, pj_a3_2, pj_a3_u0, pj_a3_u1, pj_a3_u2]
      refine e67_1 rfl (by rw [h]; rfl) E ?_
      simp (disch := first | assumption | exact pj_long_i | exact pj_long_r | exact pj_long_n | decide) only [x67_4, x67_7, simprocAttr, pj_then_s, pj_pv_s, pj_pi_s, pj_set_s, if_true, if_false, not_true_eq_false, not_false_eq_true, pj_up_up, pj_so110_109, pj_so111_109, pj_so112_109, pj_so113_109, pj_so114_109, pj_so115_109, pj_so116_109, pj_so117_109, pj_so111_110, pj_so112_110, pj_so113_110, pj_so114_110, pj_so115_110, pj_so116_110, pj_so117_110, pj_so112_111, pj_so113_111, pj_so114_111, pj_so115_111, pj_so116_111, pj_so117_111, pj_so113_112, pj_so114_112, pj_so115_112, pj_so116_112, pj_so117_112, pj_so114_113, pj_so115_113, pj_so116_113, pj_so117_113, pj_so115_114, pj_so116_114, pj_so117_114, pj_so116_115, pj_so117_115, pj_so117_116, pj_up_ap, pj_upd_ap, pj_a3_0, pj_a3_1, pj_a3_2, pj_a3_u0, pj_a3_u1, pj_a3_u2]
      exact t67_8 (Or.inl rfl)
    · rw [if_neg c2] at E ⊢
      refine pj_Ac_yes (H' := pj_up H 32 (pj_rc 0 (tk + 1) 0 0 (-1))) ⟨by rw [pj_up_ap, if_pos rfl]; rfl, by rw [pj_up_ap, if_neg (by decide)]; exact h33⟩ (fun j a b => by rw [pj_up_ap, if_neg a]) ?_
      simp (disch := first | assumption | exact pj_long_i | exact pj_long_r | exact pj_long_n | decide) only [x67_0, simprocAttr, pj_then_s, pj_pv_s, pj_pi_s, pj_set_s, if_true, if_false, not_true_eq_false, not_false_eq_true, pj_up_up, pj_so110_109, pj_so111_109, pj_so112_109, pj_so113_109, pj_so114_109, pj_so115_109, pj_so116_109, pj_so117_109, pj_so111_110, pj_so112_110, pj_so113_110, pj_so114_110, pj_so115_110, pj_so116_110, pj_so117_110, pj_so112_111, pj_so113_111, pj_so114_111, pj_so115_111, pj_so116_111, pj_so117_111, pj_so113_112, pj_so114_112, pj_so115_112, pj_so116_112, pj_so117_112, pj_so114_113, pj_so115_113, pj_so116_113, pj_so117_113, pj_so115_114, pj_so116_114, pj_so117_114, pj_so116_115, pj_so117_115, pj_so117_116, pj_up_ap, pj_upd_ap, pj_a3_0, pj_a3_1, pj_a3_2, pj_a3_u0, pj_a3_u1, pj_a3_u2]
      refine e67_1 rfl (by rw [h]; rfl) E ?_
      simp (disch := first | assumption | exact pj_long_i | exact pj_long_r | exact pj_long_n | decide) only [x67_4, x67_7, x67_9, simprocAttr, pj_then_s, pj_pv_s, pj_pi_s, pj_set_s, if_true, if_false, not_true_eq_false, not_false_eq_true, pj_up_up, pj_so110_109, pj_so111_109, pj_so112_109, pj_so113_109, pj_so114_109, pj_so115_109, pj_so116_109, pj_so117_109, pj_so111_110, pj_so112_110, pj_so113_110, pj_so114_110, pj_so115_110, pj_so116_110, pj_so117_110, pj_so112_111, pj_so113_111, pj_so114_111, pj_so115_111, pj_so116_111, pj_so117_111, pj_so113_112, pj_so114_112, pj_so115_112, pj_so116_112, pj_so117_112, pj_so114_113, pj_so115_113, pj_so116_113, pj_so117_113, pj_so115_114, pj_so116_114, pj_so117_114, pj_so116_115, pj_so117_115, pj_so117_116, pj_up_ap, pj_upd_ap, pj_a3_0, pj_a3_1, pj_a3_2, pj_a3_u0, pj_a3_u1, pj_a3_u2]
      refine e67_10 rfl (by rw [h]; rfl) (c_beginTick h) ?_
      simp (disch := first | assumption | exact pj_long_i | exact pj_long_r | exact pj_long_n | decide) only [x67_13, simprocAttr, pj_then_s, pj_pv_s, pj_pi_s, pj_set_s, if_true, if_false, not_true_eq_false, not_false_eq_true, pj_up_up, pj_so110_109, pj_so111_109, pj_so112_109, pj_so113_109, pj_so114_109, pj_so115_109, pj_so116_109, pj_so117_109, pj_so111_110, pj_so112_110, pj_so113_110, pj_so114_110, pj_so115_110, pj_so116_110, pj_so117_110, pj_so112_111, pj_so113_111, pj_so114_111, pj_so115_111, pj_so116_111, pj_so117_111, pj_so113_112, pj_so114_112, pj_so115_112, pj_so116_112, pj_so117_112, pj_so114_113, pj_so115_113, pj_so116_113, pj_so117_113, pj_so115_114, pj_so116_114, pj_so117_114, pj_so116_115, pj_so117_115, pj_so117_116, pj_up_ap, pj_upd_ap, pj_a3_0, pj_a3_1, pj_a3_2, pj_a3_u0, pj_a3_u1, pj_a3_u2]
      exact t67_14 (Or.inr rfl)
  · rw [if_neg c1] at E ⊢
    refine pj_Ac_no ?_
    simp (disch := first | assumption | exact pj_long_i | exact pj_long_r | exact pj_long_n | decide) only [x67_0, simprocAttr, pj_then_s, pj_pv_s, pj_pi_s, pj_set_s, if_true, if_false, not_true_eq_false, not_false_eq_true, pj_up_up, pj_so110_109, pj_so111_109, pj_so112_109, pj_so113_109, pj_so114_109, pj_so115_109, pj_so116_109, pj_so117_109, pj_so111_110, pj_so112_110, pj_so113_110, pj_so114_110, pj_so115_110, pj_so116_110, pj_so117_110, pj_so112_111, pj_so113_111, pj_so114_111, pj_so115_111, pj_so116_111, pj_so117_111, pj_so113_112, pj_so114_112, pj_so115_112, pj_so116_112, pj_so117_112, pj_so114_113, pj_so115_113, pj_so116_113, pj_so117_113, pj_so115_114, pj_so116_114, pj_so117_114, pj_so116_115, pj_so117_115, pj_so117_116, pj_up_ap, pj_upd_ap, pj_a3_0, pj_a3_1, pj_a3_2, pj_a3_u0, pj_a3_u1, pj_a3_u2]
    refine e67_1 rfl (by rw [h]; rfl) E ?_
    simp (disch := first | assumption | exact pj_long_i | exact pj_long_r | exact pj_long_n | decide) only [x67_4, x67_7, simprocAttr, pj_then_s, pj_pv_s, pj_pi_s, pj_set_s, if_true, if_false, not_true_eq_false, not_false_eq_true, pj_up_up, pj_so110_109, pj_so111_109, pj_so112_109, pj_so113_109, pj_so114_109, pj_so115_109, pj_so116_109, pj_so117_109, pj_so111_110, pj_so112_110, pj_so113_110, pj_so114_110, pj_so115_110, pj_so116_110, pj_so117_110, pj_so112_111, pj_so113_111, pj_so114_111, pj_so115_111, pj_so116_111, pj_so117_111, pj_so113_112, pj_so114_112, pj_so115_112, pj_so116_112, pj_so117_112, pj_so114_113, pj_so115_113, pj_so116_113, pj_so117_113, pj_so115_114, pj_so116_114, pj_so117_114, pj_so116_115, pj_so117_115, pj_so117_116, pj_up_ap, pj_upd_ap, pj_a3_0, pj_a3_1, pj_a3_2, pj_a3_u0, pj_a3_u1, pj_a3_u2]
    exact t67_8 (Or.inl rfl)
/-- a call that only passes on -/
theorem pj_Ac.via {k k' : Nat} {L L' : pj_Loc} {r : Option rd_S} (h : pj_Ac N S H k' L' r) (K : ∀ v M, (v = 0 ∨ v = 1) → pj_Ends k' (0, L', [], (N, S, H)) (some (.int v), M) → pj_Ends k (0, L, [], (N, S, H)) (some (.int v), M)) : pj_Ac N S H k L r := by
  refine ⟨fun q' e => ?_, fun e => K _ _ (Or.inl rfl) (h.2 e)⟩
  obtain ⟨H', h1, h2, h3⟩ := h.1 q' e
  exact ⟨H', h1, h2, K _ _ (Or.inr rfl) h3⟩
theorem c_accept {q : rd_S} {ch : Int32} (hq : rd_ok q) (h : pj_RS H q) : pj_Ac N S H 61 [some (.ref 32), some (.int ch)] (rd_acc q ch) := by
  unfold rd_acc
  by_cases c0 : 48 ≤ ch ∧ ch ≤ 57
  · rw [if_pos c0]
    obtain ⟨c1, c2⟩ := c0
    have d1 : ¬ ch < 48 := Int32.not_lt.mpr c1
    refine (c_acceptDigit hq h).via (fun v M hv K => ?_)
    have d2 : ¬ 57 < ch := Int32.not_lt.mpr c2
    simp (disch := first | assumption | exact pj_long_i | exact pj_long_r | exact pj_long_n | decide) only [x61_0, x61_1, x61_3, x61_6, x61_7, x61_9, x61_12, x61_13, x61_14, x61_16, simprocAttr, pj_then_s, pj_pv_s, pj_pi_s, pj_set_s, if_true, if_false, not_true_eq_false, not_false_eq_true, pj_up_up, pj_so110_109, pj_so111_109, pj_so112_109, pj_so113_109, pj_so114_109, pj_so115_109, pj_so116_109, pj_so117_109, pj_so111_110, pj_so112_110, pj_so113_110, pj_so114_110, pj_so115_110, pj_so116_110, pj_so117_110, pj_so112_111, pj_so113_111, pj_so114_111, pj_so115_111, pj_so116_111, pj_so117_111, pj_so113_112, pj_so114_112, pj_so115_112, pj_so116_112, pj_so117_112, pj_so114_113, pj_so115_113, pj_so116_113, pj_so117_113, pj_so115_114, pj_so116_114, pj_so117_114, pj_so116_115, pj_so117_115, pj_so117_116, pj_up_ap, pj_upd_ap, pj_a3_0, pj_a3_1, pj_a3_2, pj_a3_u0, pj_a3_u1, pj_a3_u2, d1, d2, c2]
    refine e61_17 rfl (by rw [h.1]; rfl) K ?_
    exact t61_20 hv
  rw [if_neg c0]
  have A : ∀ o, pj_Ends 61 (21, [some (.ref 32), some (.int ch)], [], (N, S, H)) o → pj_Ends 61 (0, [some (.ref 32), some (.int ch)], [], (N, S, H)) o := by
    intro o K
    by_cases c1 : ch < 48
    · simp (disch := first | assumption | exact pj_long_i | exact pj_long_r | exact pj_long_n | decide) only [x61_0, x61_1, x61_3, x61_6, x61_7, x61_9, simprocAttr, pj_then_s, pj_pv_s, pj_pi_s, pj_set_s, if_true, if_false, not_true_eq_false, not_false_eq_true, pj_up_up, pj_so110_109, pj_so111_109, pj_so112_109, pj_so113_109, pj_so114_109, pj_so115_109, pj_so116_109, pj_so117_109, pj_so111_110, pj_so112_110, pj_so113_110, pj_so114_110, pj_so115_110, pj_so116_110, pj_so117_110, pj_so112_111, pj_so113_111, pj_so114_111, pj_so115_111, pj_so116_111, pj_so117_111, pj_so113_112, pj_so114_112, pj_so115_112, pj_so116_112, pj_so117_112, pj_so114_113, pj_so115_113, pj_so116_113, pj_so117_113, pj_so115_114, pj_so116_114, pj_so117_114, pj_so116_115, pj_so117_115, pj_so117_116, pj_up_ap, pj_upd_ap, pj_a3_0, pj_a3_1, pj_a3_2, pj_a3_u0, pj_a3_u1, pj_a3_u2, c1]
      exact K
    · have c2 : ¬ ch ≤ 57 := fun w => c0 ⟨Int32.not_lt.mp c1, w⟩
      have c3 : 57 < ch := Int32.not_le.mp c2
      simp (disch := first | assumption | exact pj_long_i | exact pj_long_r | exact pj_long_n | decide) only [x61_0, x61_1, x61_3, x61_6, x61_7, x61_9, simprocAttr, pj_then_s, pj_pv_s, pj_pi_s, pj_set_s, if_true, if_false, not_true_eq_false, not_false_eq_true, pj_up_up, pj_so110_109, pj_so111_109, pj_so112_109, pj_so113_109, pj_so114_109, pj_so115_109, pj_so116_109, pj_so117_109, pj_so111_110, pj_so112_110, pj_so113_110, pj_so114_110, pj_so115_110, pj_so116_110, pj_so117_110, pj_so112_111, pj_so113_111, pj_so114_111, pj_so115_111, pj_so116_111, pj_so117_111, pj_so113_112, pj_so114_112, pj_so115_112, pj_so116_112, pj_so117_112, pj_so114_113, pj_so115_113, pj_so116_113, pj_so117_113, pj_so115_114, pj_so116_114, pj_so117_114, pj_so116_115, pj_so117_115, pj_so117_116, pj_up_ap, pj_upd_ap, pj_a3_0, pj_a3_1, pj_a3_2, pj_a3_u0, pj_a3_u1, pj_a3_u2, c1, c2, c3]
      exact K
  by_cases c1 : ch = 44
  · subst c1
    rw [if_pos rfl]
    refine (c_acceptComma hq h).via (fun v M hv K => A _ ?_)
    simp (disch := first | assumption | exact pj_long_i | exact pj_long_r | exact pj_long_n | decide) only [x61_21, x61_22, x61_64, x61_69, simprocAttr, pj_then_s, pj_pv_s, pj_pi_s, pj_set_s, if_true, if_false, not_true_eq_false, not_false_eq_true, pj_up_up, pj_so110_109, pj_so111_109, pj_so112_109, pj_so113_109, pj_so114_109, pj_so115_109, pj_so116_109, pj_so117_109, pj_so111_110, pj_so112_110, pj_so113_110, pj_so114_110, pj_so115_110, pj_so116_110, pj_so117_110, pj_so112_111, pj_so113_111, pj_so114_111, pj_so115_111, pj_so116_111, pj_so117_111, pj_so113_112, pj_so114_112, pj_so115_112, pj_so116_112, pj_so117_112, pj_so114_113, pj_so115_113, pj_so116_113, pj_so117_113, pj_so115_114, pj_so116_114, pj_so117_114, pj_so116_115, pj_so117_115, pj_so117_116, pj_up_ap, pj_upd_ap, pj_a3_0, pj_a3_1, pj_a3_2, pj_a3_u0, pj_a3_u1, pj_a3_u2]
    refine e61_70 rfl (by rw [h.1]; rfl) K ?_
    exact t61_73 hv
  rw [if_neg c1]
  by_cases c2 : ch = 45
  · subst c2
    rw [if_pos rfl]
    refine (c_acceptMinus h).via (fun v M hv K => A _ ?_)
    simp (disch := first | assumption | exact pj_long_i | exact pj_long_r | exact pj_long_n | decide) only [x61_21, x61_22, x61_64, simprocAttr, pj_then_s, pj_pv_s, pj_pi_s, pj_set_s, if_true, if_false, not_true_eq_false, not_false_eq_true, pj_up_up, pj_so110_109, pj_so111_109, pj_so112_109, pj_so113_109, pj_so114_109, pj_so115_109, pj_so116_109, pj_so117_109, pj_so111_110, pj_so112_110, pj_so113_110, pj_so114_110, pj_so115_110, pj_so116_110, pj_so117_110, pj_so112_111, pj_so113_111, pj_so114_111, pj_so115_111, pj_so116_111, pj_so117_111, pj_so113_112, pj_so114_112, pj_so115_112, pj_so116_112, pj_so117_112, pj_so114_113, pj_so115_113, pj_so116_113, pj_so117_113, pj_so115_114, pj_so116_114, pj_so117_114, pj_so116_115, pj_so117_115, pj_so117_116, pj_up_ap, pj_upd_ap, pj_a3_0, pj_a3_1, pj_a3_2, pj_a3_u0, pj_a3_u1, pj_a3_u2]
    refine e61_65 rfl (by rw [h.1]; rfl) K ?_
    exact t61_68 hv
  rw [if_neg c2]
  by_cases c3 : ch = 59
  · subst c3
    rw [if_pos rfl]
    refine (c_acceptSemicolon hq h).via (fun v M hv K => A _ ?_)
    simp (disch := first | assumption | exact pj_long_i | exact pj_long_r | exact pj_long_n | decide) only [x61_21, x61_22, x61_64, x61_69, x61_74, x61_79, simprocAttr, pj_then_s, pj_pv_s, pj_pi_s, pj_set_s, if_true, if_false, not_true_eq_false, not_false_eq_true, pj_up_up, pj_so110_109, pj_so111_109, pj_so112_109, pj_so113_109, pj_so114_109, pj_so115_109, pj_so116_109, pj_so117_109, pj_so111_110, pj_so112_110, pj_so113_110, pj_so114_110, pj_so115_110, pj_so116_110, pj_so117_110, pj_so112_111, pj_so113_111, pj_so114_111, pj_so115_111, pj_so116_111, pj_so117_111, pj_so113_112, pj_so114_112, pj_so115_112, pj_so116_112, pj_so117_112, pj_so114_113, pj_so115_113, pj_so116_113, pj_so117_113, pj_so115_114, pj_so116_114, pj_so117_114, pj_so116_115, pj_so117_115, pj_so117_116, pj_up_ap, pj_upd_ap, pj_a3_0, pj_a3_1, pj_a3_2, pj_a3_u0, pj_a3_u1, pj_a3_u2]
    refine e61_80 rfl (by rw [h.1]; rfl) K ?_
    exact t61_83 hv
  rw [if_neg c3]
  by_cases c4 : ch = 99
  · subst c4
    rw [if_pos rfl]
    refine (c_acceptClosed hq h).via (fun v M hv K => A _ ?_)
    simp (disch := first | assumption | exact pj_long_i | exact pj_long_r | exact pj_long_n | decide) only [x61_21, x61_22, x61_64, x61_69, x61_74, simprocAttr, pj_then_s, pj_pv_s, pj_pi_s, pj_set_s, if_true, if_false, not_true_eq_false, not_false_eq_true, pj_up_up, pj_so110_109, pj_so111_109, pj_so112_109, pj_so113_109, pj_so114_109, pj_so115_109, pj_so116_109, pj_so117_109, pj_so111_110, pj_so112_110, pj_so113_110, pj_so114_110, pj_so115_110, pj_so116_110, pj_so117_110, pj_so112_111, pj_so113_111, pj_so114_111, pj_so115_111, pj_so116_111, pj_so117_111, pj_so113_112, pj_so114_112, pj_so115_112, pj_so116_112, pj_so117_112, pj_so114_113, pj_so115_113, pj_so116_113, pj_so117_113, pj_so115_114, pj_so116_114, pj_so117_114, pj_so116_115, pj_so117_115, pj_so117_116, pj_up_ap, pj_upd_ap, pj_a3_0, pj_a3_1, pj_a3_2, pj_a3_u0, pj_a3_u1, pj_a3_u2]
    refine e61_75 rfl (by rw [h.1]; rfl) K ?_
    exact t61_78 hv
  rw [if_neg c4]
  refine pj_Ac_no (A _ ?_)
  simp (disch := first | assumption | exact pj_long_i | exact pj_long_r | exact pj_long_n | decide) only [x61_21, x61_22, x61_64, x61_69, x61_74, x61_79, x61_84, simprocAttr, pj_then_s, pj_pv_s, pj_pi_s, pj_set_s, if_true, if_false, not_true_eq_false, not_false_eq_true, pj_up_up, pj_so110_109, pj_so111_109, pj_so112_109, pj_so113_109, pj_so114_109, pj_so115_109, pj_so116_109, pj_so117_109, pj_so111_110, pj_so112_110, pj_so113_110, pj_so114_110, pj_so115_110, pj_so116_110, pj_so117_110, pj_so112_111, pj_so113_111, pj_so114_111, pj_so115_111, pj_so116_111, pj_so117_111, pj_so113_112, pj_so114_112, pj_so115_112, pj_so116_112, pj_so117_112, pj_so114_113, pj_so115_113, pj_so116_113, pj_so117_113, pj_so115_114, pj_so116_114, pj_so117_114, pj_so116_115, pj_so117_115, pj_so117_116, pj_up_ap, pj_upd_ap, pj_a3_0, pj_a3_1, pj_a3_2, pj_a3_u0, pj_a3_u1, pj_a3_u2, c1, c2, c3, c4]
  exact t61_85 (Or.inl rfl)
end T41
