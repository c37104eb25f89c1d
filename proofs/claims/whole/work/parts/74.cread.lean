/-! THE CLASS'S READER, a character at a time -/
/-- closed, ticks begun, place, negative, digits, readings -/
abbrev rd_S : Type := Int32 × Int32 × Nat × Int32 × Int32 × (Nat → Int32)
def rd_dig (q : rd_S) (d : Int32) : Option rd_S := if ¬ q.1 = 0 then none else if q.2.2.2.2.1 = 0 then none else if 500 < (if q.2.2.2.2.1 = -1 then d else q.2.2.2.2.1 * 10 + d) then none else some (q.1, q.2.1, q.2.2.1, q.2.2.2.1, (if q.2.2.2.2.1 = -1 then d else q.2.2.2.2.1 * 10 + d), upd q.2.2.2.2.2 q.2.2.1 (if q.2.2.2.1 = 0 then (if q.2.2.2.2.1 = -1 then d else q.2.2.2.2.1 * 10 + d) else -(if q.2.2.2.2.1 = -1 then d else q.2.2.2.2.1 * 10 + d)))
def rd_acc (q : rd_S) (ch : Int32) : Option rd_S :=
  if 48 ≤ ch ∧ ch ≤ 57 then rd_dig q (ch - 48)
  else if ch = 44 then (if q.2.2.2.2.1 = -1 then none else if q.2.2.1 = 2 then none else some (q.1, q.2.1, q.2.2.1 + 1, 0, -1, q.2.2.2.2.2))
  else if ch = 45 then (if q.2.2.2.1 = 0 then (if q.2.2.2.2.1 = -1 then some (q.1, q.2.1, q.2.2.1, 1, q.2.2.2.2.1, q.2.2.2.2.2) else none) else none)
  else if ch = 59 then (if q.2.2.1 = 2 then (if q.2.2.2.2.1 = -1 then none else some (0, q.2.1 + 1, 0, 0, -1, q.2.2.2.2.2)) else none)
  else if ch = 99 then (if q.2.2.1 = 2 then (if q.2.2.2.2.1 = -1 then none else if q.1 = 0 then some (1, q.2.1, q.2.2.1, q.2.2.2.1, q.2.2.2.2.1, q.2.2.2.2.2) else none) else none)
  else none
def rd_en (q : rd_S) : Int32 := if q.2.2.1 = 2 then (if q.2.2.2.2.1 = -1 then 0 else 1) else 0
theorem rd_en_01 {q : rd_S} : rd_en q = 0 ∨ rd_en q = 1 := by
  unfold rd_en
  split
  · split
    · exact Or.inl rfl
    · exact Or.inr rfl
  · exact Or.inl rfl
/-- the reader's memory -/
def pj_RS (H : pj_Heap) (q : rd_S) : Prop := H 32 = pj_rc q.1 q.2.1 (nI q.2.2.1) q.2.2.2.1 q.2.2.2.2.1 ∧ H 33 = .inr (0, 3, .inl q.2.2.2.2.2)
/-- what stays of a reader -/
def rd_ok (q : rd_S) : Prop := q.2.2.1 ≤ 2 ∧ (∃ r0 r1 r2, q.2.2.2.2.2 = pj_a3 r0 r1 r2) ∧ (q.1 = 0 ∨ q.1 = 1)
theorem rd_upd {k : Nat} {R : Nat → Int32} {v : Int32} (hk : k ≤ 2) (h : ∃ r0 r1 r2, R = pj_a3 r0 r1 r2) : ∃ r0 r1 r2, upd R k v = pj_a3 r0 r1 r2 := by
  obtain ⟨r0, r1, r2, rfl⟩ := h
  have : k = 0 ∨ k = 1 ∨ k = 2 := by omega
  rcases this with e | e | e <;> subst e
  · exact ⟨v, r1, r2, pj_a3_u0⟩
  · exact ⟨r0, v, r2, pj_a3_u1⟩
  · exact ⟨r0, r1, v, pj_a3_u2⟩
theorem rd_acc_ok {q q' : rd_S} {ch : Int32} (h : rd_ok q) (e : rd_acc q ch = some q') : rd_ok q' := by
  obtain ⟨ic, tk, k, ng, dg, R⟩ := q
  obtain ⟨h1, h2, h3⟩ := h
  simp only at h1 h2 h3
  unfold rd_acc rd_dig at e
  simp only at e
  by_cases c0 : 48 ≤ ch ∧ ch ≤ 57
  · rw [if_pos c0] at e
    by_cases c1 : ¬ ic = 0
    · rw [if_pos c1] at e
      cases e
    rw [if_neg c1] at e
    by_cases c2 : dg = 0
    · rw [if_pos c2] at e
      cases e
    rw [if_neg c2] at e
    generalize (if dg = -1 then ch - 48 else dg * 10 + (ch - 48)) = L at e
    by_cases c3 : 500 < L
    · rw [if_pos c3] at e
      cases e
    rw [if_neg c3] at e
    cases e
    exact ⟨h1, rd_upd h1 h2, h3⟩
  rw [if_neg c0] at e
  by_cases c1 : ch = 44
  · rw [if_pos c1] at e
    by_cases c2 : dg = -1
    · rw [if_pos c2] at e
      cases e
    rw [if_neg c2] at e
    by_cases c3 : k = 2
    · rw [if_pos c3] at e
      cases e
    rw [if_neg c3] at e
    cases e
    exact ⟨by show k + 1 ≤ 2; omega, h2, h3⟩
  rw [if_neg c1] at e
  by_cases c2 : ch = 45
  · rw [if_pos c2] at e
    by_cases c3 : ng = 0
    · rw [if_pos c3] at e
      by_cases c4 : dg = -1
      · rw [if_pos c4] at e
        cases e
        exact ⟨h1, h2, h3⟩
      · rw [if_neg c4] at e
        cases e
    · rw [if_neg c3] at e
      cases e
  rw [if_neg c2] at e
  by_cases c3 : ch = 59
  · rw [if_pos c3] at e
    by_cases c4 : k = 2
    · rw [if_pos c4] at e
      by_cases c5 : dg = -1
      · rw [if_pos c5] at e
        cases e
      · rw [if_neg c5] at e
        cases e
        exact ⟨Nat.zero_le _, h2, Or.inl rfl⟩
    · rw [if_neg c4] at e
      cases e
  rw [if_neg c3] at e
  by_cases c4 : ch = 99
  · rw [if_pos c4] at e
    by_cases c5 : k = 2
    · rw [if_pos c5] at e
      by_cases c6 : dg = -1
      · rw [if_pos c6] at e
        cases e
      · rw [if_neg c6] at e
        by_cases c7 : ic = 0
        · rw [if_pos c7] at e
          cases e
          exact ⟨h1, h2, Or.inr rfl⟩
        · rw [if_neg c7] at e
          cases e
    · rw [if_neg c5] at e
      cases e
  rw [if_neg c4] at e
  cases e
section T40
variable {N S : Nat} {H : pj_Heap} {ic tk pc ng dg : Int32} {R : Nat → Int32}
theorem c_beginNumber (h : H 32 = pj_rc ic tk pc ng dg) : pj_Ends 60 (0, [some (.ref 32)], [], (N, S, H)) (none, (N, S, pj_up H 32 (pj_rc ic tk pc 0 (-1)))) := by
  simp (disch := first | assumption | exact pj_long_i | exact pj_long_r | exact pj_long_n | decide) only [x60_0, x60_1, x60_2, x60_5, x60_6, x60_7, simprocAttr, pj_then_s, pj_pv_s, pj_pi_s, pj_set_s, if_true, if_false, not_true_eq_false, not_false_eq_true, pj_up_up, pj_so110_109, pj_so111_109, pj_so112_109, pj_so113_109, pj_so114_109, pj_so115_109, pj_so116_109, pj_so117_109, pj_so111_110, pj_so112_110, pj_so113_110, pj_so114_110, pj_so115_110, pj_so116_110, pj_so117_110, pj_so112_111, pj_so113_111, pj_so114_111, pj_so115_111, pj_so116_111, pj_so117_111, pj_so113_112, pj_so114_112, pj_so115_112, pj_so116_112, pj_so117_112, pj_so114_113, pj_so115_113, pj_so116_113, pj_so117_113, pj_so115_114, pj_so116_114, pj_so117_114, pj_so116_115, pj_so117_115, pj_so117_116, pj_up_ap, pj_upd_ap, pj_a3_0, pj_a3_1, pj_a3_2, pj_a3_u0, pj_a3_u1, pj_a3_u2, pj_s1_4, pj_s1_5, h, pj_rc]
  exact t60_10
theorem c_beginTick (h : H 32 = pj_rc ic tk pc ng dg) : pj_Ends 59 (0, [some (.ref 32)], [], (N, S, H)) (none, (N, S, pj_up H 32 (pj_rc 0 (tk + 1) 0 0 (-1)))) := by
  have K := c_beginNumber (N := N) (S := S) (H := pj_up H 32 (pj_rc 0 (tk + 1) 0 ng dg)) (ic := 0) (tk := tk + 1) (pc := 0) (ng := ng) (dg := dg) (by rw [pj_up_ap, if_pos rfl])
  rw [pj_up_up] at K
  unfold pj_rc at K
  simp (disch := first | assumption | exact pj_long_i | exact pj_long_r | exact pj_long_n | decide) only [x59_0, x59_1, x59_1i, x59_2, x59_5, x59_6, x59_7, x59_10, x59_11, x59_12, x59_15, x59_16, x59_17, x59_20, simprocAttr, pj_then_s, pj_pv_s, pj_pi_s, pj_set_s, if_true, if_false, not_true_eq_false, not_false_eq_true, pj_up_up, pj_so110_109, pj_so111_109, pj_so112_109, pj_so113_109, pj_so114_109, pj_so115_109, pj_so116_109, pj_so117_109, pj_so111_110, pj_so112_110, pj_so113_110, pj_so114_110, pj_so115_110, pj_so116_110, pj_so117_110, pj_so112_111, pj_so113_111, pj_so114_111, pj_so115_111, pj_so116_111, pj_so117_111, pj_so113_112, pj_so114_112, pj_so115_112, pj_so116_112, pj_so117_112, pj_so114_113, pj_so115_113, pj_so116_113, pj_so117_113, pj_so115_114, pj_so116_114, pj_so117_114, pj_so116_115, pj_so117_115, pj_so117_116, pj_up_ap, pj_upd_ap, pj_a3_0, pj_a3_1, pj_a3_2, pj_a3_u0, pj_a3_u1, pj_a3_u2, pj_f1_2, pj_s1_2, pj_s1_1, pj_s1_3, h, pj_rc]
  refine e59_21 rfl (by rw [pj_up_ap, if_pos rfl]; rfl) K ?_
  exact t59_24
theorem c_begin (h : H 32 = pj_rc ic tk pc ng dg) : pj_Ends 58 (0, [some (.ref 32)], [], (N, S, H)) (none, (N, S, pj_up H 32 (pj_rc 0 1 0 0 (-1)))) := by
  have K := c_beginTick (N := N) (S := S) (H := pj_up H 32 (pj_rc ic 0 pc ng dg)) (ic := ic) (tk := 0) (pc := pc) (ng := ng) (dg := dg) (by rw [pj_up_ap, if_pos rfl])
  rw [pj_up_up] at K
  have z : (0 : Int32) + 1 = 1 := rfl
  rw [z] at K
  unfold pj_rc at K
  unfold pj_rc
  simp (disch := first | assumption | exact pj_long_i | exact pj_long_r | exact pj_long_n | decide) only [x58_0, x58_1, x58_2, x58_5, simprocAttr, pj_then_s, pj_pv_s, pj_pi_s, pj_set_s, if_true, if_false, not_true_eq_false, not_false_eq_true, pj_up_up, pj_so110_109, pj_so111_109, pj_so112_109, pj_so113_109, pj_so114_109, pj_so115_109, pj_so116_109, pj_so117_109, pj_so111_110, pj_so112_110, pj_so113_110, pj_so114_110, pj_so115_110, pj_so116_110, pj_so117_110, pj_so112_111, pj_so113_111, pj_so114_111, pj_so115_111, pj_so116_111, pj_so117_111, pj_so113_112, pj_so114_112, pj_so115_112, pj_so116_112, pj_so117_112, pj_so114_113, pj_so115_113, pj_so116_113, pj_so117_113, pj_so115_114, pj_so116_114, pj_so117_114, pj_so116_115, pj_so117_115, pj_so117_116, pj_up_ap, pj_upd_ap, pj_a3_0, pj_a3_1, pj_a3_2, pj_a3_u0, pj_a3_u1, pj_a3_u2, pj_s1_2, h, pj_rc]
  refine e58_6 rfl (by rw [pj_up_ap, if_pos rfl]; rfl) K ?_
  exact t58_9
theorem c_isAtTickEnd {q : rd_S} (hq : rd_ok q) (h : pj_RS H q) : pj_Ends 66 (0, [some (.ref 32)], [], (N, S, H)) (some (.int (rd_en q)), (N, S, H)) := by
  obtain ⟨ic, tk, k, ng, dg, R⟩ := q
  obtain ⟨h, -⟩ := h
  have hk : k ≤ 2 := hq.1
  simp only at h
  unfold rd_en
  simp only
  by_cases c : k = 2
  · subst c
    have e : nI 2 = 2 := rfl
    rw [e] at h
    rw [if_pos rfl]
    by_cases c2 : dg = -1
    · rw [if_pos c2]
      simp (disch := first | assumption | exact pj_long_i | exact pj_long_r | exact pj_long_n | decide) only [x66_0, x66_1, x66_4, x66_5, x66_8, x66_9, x66_12, x66_13, x66_16, x66_17, x66_20, simprocAttr, pj_then_s, pj_pv_s, pj_pi_s, pj_set_s, if_true, if_false, not_true_eq_false, not_false_eq_true, pj_up_up, pj_so110_109, pj_so111_109, pj_so112_109, pj_so113_109, pj_so114_109, pj_so115_109, pj_so116_109, pj_so117_109, pj_so111_110, pj_so112_110, pj_so113_110, pj_so114_110, pj_so115_110, pj_so116_110, pj_so117_110, pj_so112_111, pj_so113_111, pj_so114_111, pj_so115_111, pj_so116_111, pj_so117_111, pj_so113_112, pj_so114_112, pj_so115_112, pj_so116_112, pj_so117_112, pj_so114_113, pj_so115_113, pj_so116_113, pj_so117_113, pj_so115_114, pj_so116_114, pj_so117_114, pj_so116_115, pj_so117_115, pj_so117_116, pj_up_ap, pj_upd_ap, pj_a3_0, pj_a3_1, pj_a3_2, pj_a3_u0, pj_a3_u1, pj_a3_u2, pj_f1_3, pj_f1_5, h, pj_rc, c2]
      exact t66_21 (Or.inl rfl)
    · rw [if_neg c2]
      simp (disch := first | assumption | exact pj_long_i | exact pj_long_r | exact pj_long_n | decide) only [x66_0, x66_1, x66_4, x66_5, x66_8, x66_9, x66_12, x66_13, x66_16, x66_17, x66_20, simprocAttr, pj_then_s, pj_pv_s, pj_pi_s, pj_set_s, if_true, if_false, not_true_eq_false, not_false_eq_true, pj_up_up, pj_so110_109, pj_so111_109, pj_so112_109, pj_so113_109, pj_so114_109, pj_so115_109, pj_so116_109, pj_so117_109, pj_so111_110, pj_so112_110, pj_so113_110, pj_so114_110, pj_so115_110, pj_so116_110, pj_so117_110, pj_so112_111, pj_so113_111, pj_so114_111, pj_so115_111, pj_so116_111, pj_so117_111, pj_so113_112, pj_so114_112, pj_so115_112, pj_so116_112, pj_so117_112, pj_so114_113, pj_so115_113, pj_so116_113, pj_so117_113, pj_so115_114, pj_so116_114, pj_so117_114, pj_so116_115, pj_so117_115, pj_so117_116, pj_up_ap, pj_upd_ap, pj_a3_0, pj_a3_1, pj_a3_2, pj_a3_u0, pj_a3_u1, pj_a3_u2, pj_f1_3, pj_f1_5, h, pj_rc, c2]
      exact t66_21 (Or.inr rfl)
  · rw [if_neg c]
    have e : ¬ nI k = 2 := fun w => c ((nI_eq (b := 2) (by omega) (by decide)).mp w)
    simp (disch := first | assumption | exact pj_long_i | exact pj_long_r | exact pj_long_n | decide) only [x66_0, x66_1, x66_4, x66_5, x66_8, x66_9, x66_12, x66_13, x66_16, x66_17, x66_20, simprocAttr, pj_then_s, pj_pv_s, pj_pi_s, pj_set_s, if_true, if_false, not_true_eq_false, not_false_eq_true, pj_up_up, pj_so110_109, pj_so111_109, pj_so112_109, pj_so113_109, pj_so114_109, pj_so115_109, pj_so116_109, pj_so117_109, pj_so111_110, pj_so112_110, pj_so113_110, pj_so114_110, pj_so115_110, pj_so116_110, pj_so117_110, pj_so112_111, pj_so113_111, pj_so114_111, pj_so115_111, pj_so116_111, pj_so117_111, pj_so113_112, pj_so114_112, pj_so115_112, pj_so116_112, pj_so117_112, pj_so114_113, pj_so115_113, pj_so116_113, pj_so117_113, pj_so115_114, pj_so116_114, pj_so117_114, pj_so116_115, pj_so117_115, pj_so117_116, pj_up_ap, pj_upd_ap, pj_a3_0, pj_a3_1, pj_a3_2, pj_a3_u0, pj_a3_u1, pj_a3_u2, pj_f1_3, pj_f1_5, h, pj_rc, e]
    exact t66_21 (Or.inl rfl)
end T40
