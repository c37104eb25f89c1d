/-! THE CLASS'S MEMORY FOR A STATE -/
def pj_pc (l : Nat) : pj_Cell := .inl (0, [.ref 31, .ref 32, .int (nI l)])
def pj_rc (ic tk pc ng dg : Int32) : pj_Cell := .inl (1, [.ref 33, .int ic, .int tk, .int pc, .int ng, .int dg])
/-- the history: the rows in use, and the units beside -/
def pj_Hi (H : pj_Heap) (n : Nat) (h : Nat → Nat → Int32) : Prop := ∃ (q : Nat → Option Nat) (p : Nat → Nat), H 34 = .inr (3, 6, .inr q) ∧ (∀ i, i < 6 → q i = some (p i)) ∧ (∀ i, i < 6 → 35 ≤ p i ∧ p i + 9 ≤ 89) ∧ (∀ i j, i < 6 → j < 6 → i ≠ j → p i + 9 ≤ p j ∨ p j + 9 ≤ p i) ∧ ∀ i, i < 6 → ∃ w, pj_U H (p i) w ∧ (i < n → w = h i)
theorem pj_Hi.frame {H H' : pj_Heap} {n : Nat} {h : Nat → Nat → Int32} (hh : pj_Hi H n h) (hF : ∀ j, 34 ≤ j → j < 89 → H' j = H j) : pj_Hi H' n h := by
  obtain ⟨q, p, h1, h2, h3, h4, h5⟩ := hh
  refine ⟨q, p, (hF 34 (by decide) (by decide)).trans h1, h2, h3, h4, fun i hi => ?_⟩
  obtain ⟨w, hw, he⟩ := h5 i hi
  have := h3 i hi
  exact ⟨w, hw.frame (fun k hk => hF _ (by omega) (by omega)), he⟩
/-- what the changes of a unit leave: the texts, the slots, the static arrays -/
def pj_CS (H : pj_Heap) (s : Nat → Nat → Int32) (sv : Nat → Int32) : Prop := (∃ q, H 89 = .inr (3, 2, .inr q) ∧ q 0 = some 90 ∧ q 1 = some 99) ∧ (∃ w, pj_U H 90 w ∧ (sv 0 = 1 → w = s 0)) ∧ (∃ w, pj_U H 99 w ∧ (sv 1 = 1 → w = s 1)) ∧ H 108 = .inr (2, 2, .inl sv)
theorem pj_CS.frame {H H' : pj_Heap} {s : Nat → Nat → Int32} {sv : Nat → Int32} (h : pj_CS H s sv) (hF : ∀ j, 89 ≤ j → j < 109 → H' j = H j) : pj_CS H' s sv := by
  obtain ⟨⟨q, h1, h2, h3⟩, ⟨w, hw, he⟩, ⟨w', hw', he'⟩, h8⟩ := h
  exact ⟨⟨q, (hF 89 (by decide) (by decide)).trans h1, h2, h3⟩, ⟨w, hw.frame (fun k hk => hF _ (by omega) (by omega)), he⟩, ⟨w', hw'.frame (fun k hk => hF _ (by omega) (by omega)), he'⟩, (hF 108 (by decide) (by decide)).trans h8⟩
def pj_CP (H : pj_Heap) (pl : Nat) (pd : Nat → Int32) : Prop := H 30 = pj_pc pl ∧ H 31 = .inr (1, 80, .inl pd) ∧ (∃ ic tk pc ng dg, H 32 = pj_rc ic tk pc ng dg) ∧ (∃ r0 r1 r2, H 33 = .inr (0, 3, .inl (pj_a3 r0 r1 r2)))
theorem pj_CP.frame {H H' : pj_Heap} {pl : Nat} {pd : Nat → Int32} (h : pj_CP H pl pd) (hF : ∀ j, 30 ≤ j → j < 34 → H' j = H j) : pj_CP H' pl pd := by
  obtain ⟨h0, h1, ⟨ic, tk, pc, ng, dg, h2⟩, ⟨r0, r1, r2, h3⟩⟩ := h
  exact ⟨(hF 30 (by decide) (by decide)).trans h0, (hF 31 (by decide) (by decide)).trans h1, ⟨ic, tk, pc, ng, dg, (hF 32 (by decide) (by decide)).trans h2⟩, ⟨r0, r1, r2, (hF 33 (by decide) (by decide)).trans h3⟩⟩
def pj_C0 (H : pj_Heap) : Prop := H 2 = .inr (4, 6, .inl (pj_v6 1 1 1 2 1 0)) ∧ H 3 = .inr (4, 6, .inl (pj_v6 2000 2000 50 50 500 20))
def pj_C (H : pj_Heap) (x : pj_Sg) : Prop := pj_C0 H ∧ H 4 = pj_vc x.2.1 ∧ pj_U H 5 x.1 ∧ ((∃ w, pj_U H 14 w) ∧ pj_Tk H) ∧ pj_CP H x.2.2.2.2.2.1 x.2.2.2.2.2.2 ∧ pj_Hi H x.2.1 x.2.2.1 ∧ pj_CS H x.2.2.2.1 x.2.2.2.2.1
/-- a change of the unit now, and of what is tried -/
theorem pj_C.now {H H' : pj_Heap} {x : pj_Sg} {f : Nat → Int32} (h : pj_C H x) (hU : pj_U H' 5 f) (hW : (∃ w, pj_U H' 14 w) ∧ pj_Tk H') (hF : ∀ j, j < 5 ∨ 29 < j → H' j = H j) : pj_C H' (f, x.2) := by
  obtain ⟨h0, h1, h2, h3, h4, h5, h6⟩ := h
  exact ⟨⟨(hF 2 (by decide)).trans h0.1, (hF 3 (by decide)).trans h0.2⟩, (hF 4 (by decide)).trans h1, hU, hW, h4.frame (fun j a b => hF j (by omega)), h5.frame (fun j a b => hF j (by omega)), h6.frame (fun j a b => hF j (by omega))⟩
theorem pj_C.try {H H' : pj_Heap} {x : pj_Sg} (h : pj_C H x) (hW : (∃ w, pj_U H' 14 w) ∧ pj_Tk H') (hF : ∀ j, j < 14 ∨ 29 < j → H' j = H j) : pj_C H' x := by
  have := h.now (f := x.1) (h.2.2.1.frame (fun i hi => hF _ (by omega))) hW (fun j hj => hF j (by omega))
  exact this
/-- a call of the class: what it answers, and the state behind it -/
def pj_Co (N S : Nat) (H : pj_Heap) (k : Nat) (L : pj_Loc) (q : pj_Sg × Int32) : Prop := ∃ H', pj_C H' q.1 ∧ (∀ j, j < 4 ∨ 108 < j → H' j = H j) ∧ pj_Ends k (0, L, [], (N, S, H)) (some (.int q.2), (N, S, H'))
theorem pj_Co_same {N S : Nat} {H : pj_Heap} {k : Nat} {L : pj_Loc} {x : pj_Sg} {r : Int32} (hC : pj_C H x) (h : pj_Ends k (0, L, [], (N, S, H)) (some (.int r), (N, S, H))) : pj_Co N S H k L (x, r) := ⟨H, hC, fun _ _ => rfl, h⟩
/-! THE CLASS REMEMBERS -/
section T20
variable {N S : Nat} {H : pj_Heap} {x1 x2 : Option Value} {f : Nat → Int32} {h : Nat → Nat → Int32} {n : Nat}
theorem va_rf_some {a : Nat} : va_rf (some a) = .ref a := rfl
theorem c_rem_tail (hn : n < 6) (hV : H 4 = pj_vc n) (hH : pj_Hi H n h) (hU : pj_U H 5 f) :
    ∃ H', H' 4 = pj_vc (n + 1) ∧ pj_Hi H' (n + 1) (fun i => if i = n then f else h i) ∧ (∀ j, j < 4 ∨ (4 < j ∧ j < 34) ∨ 88 < j → H' j = H j) ∧ pj_Ends 43 (56, [some (.ref 4), x1, x2], [], (N, S, H)) (none, (N, S, H')) := by
  obtain ⟨q, p, h1, h2, h3, h4, h5⟩ := hH
  obtain ⟨w, hw, -⟩ := h5 n hn
  have hp := h3 n hn
  obtain ⟨H1, g1, g2, g3⟩ := c_become (N := N) (S := S) hw hU (Or.inr (by omega))
  have e1 : q (nI n).toNatClampNeg = some (p n) := by rw [nI_clamp (by omega)]; exact h2 n hn
  have e2 : pj_in (nI n) 6 = true := pj_in_nI hn (by decide)
  have V1 : H1 4 = pj_vc n := (g2 4 (by omega)).trans hV
  refine ⟨pj_up H1 4 (pj_vc (n + 1)), by rw [pj_up_ap, if_pos rfl], ⟨q, p, ?_, h2, h3, h4, fun i hi => ?_⟩, fun j hj => ?_, ?_⟩
  · rw [pj_up_ap, if_neg (by decide), g2 34 (by omega)]
    exact h1
  · have hpi := h3 i hi
    by_cases c : i = n
    · subst c
      refine ⟨f, g1.frame (fun k hk => ?_), fun _ => ?_⟩
      · rw [pj_up_ap, if_neg (by omega)]
      · exact (if_pos rfl).symm
    · obtain ⟨w', hw', he⟩ := h5 i hi
      refine ⟨w', hw'.frame (fun k hk => ?_), fun hin => ?_⟩
      · have := h4 i n hi hn c
        rw [pj_up_ap, if_neg (by omega), g2 _ (by omega)]
      · simp only [if_neg c]
        exact he (by omega)
  · rw [pj_up_ap, if_neg (by omega), g2 j (by omega)]
  · simp (disch := first | assumption | exact pj_long_i | exact pj_long_r | exact pj_long_n | decide) only [x43_56, x43_57, x43_60, x43_61, x43_64, x43_65, x43_66, simprocAttr, pj_then_s, pj_pv_s, pj_pi_s, pj_set_s, if_true, if_false, not_true_eq_false, not_false_eq_true, pj_up_up, pj_so110_109, pj_so111_109, pj_so112_109, pj_so113_109, pj_so114_109, pj_so115_109, pj_so116_109, pj_so117_109, pj_so111_110, pj_so112_110, pj_so113_110, pj_so114_110, pj_so115_110, pj_so116_110, pj_so117_110, pj_so112_111, pj_so113_111, pj_so114_111, pj_so115_111, pj_so116_111, pj_so117_111, pj_so113_112, pj_so114_112, pj_so115_112, pj_so116_112, pj_so117_112, pj_so114_113, pj_so115_113, pj_so116_113, pj_so117_113, pj_so115_114, pj_so116_114, pj_so117_114, pj_so116_115, pj_so117_115, pj_so117_116, pj_up_ap, pj_upd_ap, pj_a3_0, pj_a3_1, pj_a3_2, pj_a3_u0, pj_a3_u1, pj_a3_u2, pj_f5_4, pj_f5_5, pj_qrl_i, pj_f5_0, hV, pj_vc, h1, e1, e2, va_rf_some]
    refine e43_69 rfl (by rw [hw.1]; rfl) g3 ?_
    simp (disch := first | assumption | exact pj_long_i | exact pj_long_r | exact pj_long_n | decide) only [x43_72, x43_73, x43_73i, x43_74, x43_77, x43_78, x43_79, simprocAttr, pj_then_s, pj_pv_s, pj_pi_s, pj_set_s, if_true, if_false, not_true_eq_false, not_false_eq_true, pj_up_up, pj_so110_109, pj_so111_109, pj_so112_109, pj_so113_109, pj_so114_109, pj_so115_109, pj_so116_109, pj_so117_109, pj_so111_110, pj_so112_110, pj_so113_110, pj_so114_110, pj_so115_110, pj_so116_110, pj_so117_110, pj_so112_111, pj_so113_111, pj_so114_111, pj_so115_111, pj_so116_111, pj_so117_111, pj_so113_112, pj_so114_112, pj_so115_112, pj_so116_112, pj_so117_112, pj_so114_113, pj_so115_113, pj_so116_113, pj_so117_113, pj_so115_114, pj_so116_114, pj_so117_114, pj_so116_115, pj_so117_115, pj_so117_116, pj_up_ap, pj_upd_ap, pj_a3_0, pj_a3_1, pj_a3_2, pj_a3_u0, pj_a3_u1, pj_a3_u2, pj_f5_5, pj_s5_5, V1, pj_vc, nI_1]
    exact t43_82
theorem c_remember {x : pj_Sg} (hn : x.2.1 ≤ 6) (hC : pj_C H x) :
    ∃ H', pj_C H' (sp_push x x.1) ∧ (∀ j, j < 4 ∨ (4 < j ∧ j < 34) ∨ 88 < j → H' j = H j) ∧ pj_Ends 43 (0, [some (.ref 4), none, none], [], (N, S, H)) (none, (N, S, H')) := by
  obtain ⟨f, n, h, s, sv, pl, pd⟩ := x
  obtain ⟨h0, hV, hU, hW, hP, hH, hS⟩ := hC
  have fin : ∀ H' : pj_Heap, H' 4 = pj_vc (sp_hn n + 1) → pj_Hi H' (sp_hn n + 1) (sp_ph f n h) → (∀ j, j < 4 ∨ (4 < j ∧ j < 34) ∨ 88 < j → H' j = H j) → pj_C H' (sp_push (f, n, h, s, sv, pl, pd) f) := by
    intro H' a b c
    exact ⟨⟨(c 2 (by decide)).trans h0.1, (c 3 (by decide)).trans h0.2⟩, a, hU.frame (fun i hi => c _ (by omega)), ⟨⟨hW.1.choose, hW.1.choose_spec.frame (fun i hi => c _ (by omega))⟩, hW.2.frame (fun i hi => c _ (by omega))⟩, hP.frame (fun j a b => c j (by omega)), b, hS.frame (fun j a b => c j (by omega))⟩
  by_cases c6 : n = 6
  · subst c6
    obtain ⟨q, p, h1, h2, h3, h4, h5⟩ := hH
    have q0 : q 0 = some (p 0) := h2 0 (by decide)
    have i0 : pj_isU 4 (H (p 0)) = true := by
      obtain ⟨w, hw, -⟩ := h5 0 (by decide)
      rw [hw.1]
      rfl
    have d0 : (p 0 = 34) = False := eq_false (by have := h3 0 (by decide); omega)
    have q1 : q 1 = some (p 1) := h2 1 (by decide)
    have i1 : pj_isU 4 (H (p 1)) = true := by
      obtain ⟨w, hw, -⟩ := h5 1 (by decide)
      rw [hw.1]
      rfl
    have d1 : (p 1 = 34) = False := eq_false (by have := h3 1 (by decide); omega)
    have q2 : q 2 = some (p 2) := h2 2 (by decide)
    have i2 : pj_isU 4 (H (p 2)) = true := by
      obtain ⟨w, hw, -⟩ := h5 2 (by decide)
      rw [hw.1]
      rfl
    have d2 : (p 2 = 34) = False := eq_false (by have := h3 2 (by decide); omega)
    have q3 : q 3 = some (p 3) := h2 3 (by decide)
    have i3 : pj_isU 4 (H (p 3)) = true := by
      obtain ⟨w, hw, -⟩ := h5 3 (by decide)
      rw [hw.1]
      rfl
    have d3 : (p 3 = 34) = False := eq_false (by have := h3 3 (by decide); omega)
    have q4 : q 4 = some (p 4) := h2 4 (by decide)
    have i4 : pj_isU 4 (H (p 4)) = true := by
      obtain ⟨w, hw, -⟩ := h5 4 (by decide)
      rw [hw.1]
      rfl
    have d4 : (p 4 = 34) = False := eq_false (by have := h3 4 (by decide); omega)
    have q5 : q 5 = some (p 5) := h2 5 (by decide)
    have i5 : pj_isU 4 (H (p 5)) = true := by
      obtain ⟨w, hw, -⟩ := h5 5 (by decide)
      rw [hw.1]
      rfl
    have d5 : (p 5 = 34) = False := eq_false (by have := h3 5 (by decide); omega)
    have e6 : nI 6 = 6 := rfl
    have tl := c_rem_tail (N := N) (S := S) (n := 5) (f := f) (h := fun i => h (i + 1)) (H := pj_up (pj_up H 34 (.inr (3, 6, .inr (va_up (va_up (va_up (va_up (va_up (va_up q 0 (some (p 1))) 1 (some (p 2))) 2 (some (p 3))) 3 (some (p 4))) 4 (some (p 5))) 5 (some (p 0)))))) 4 (pj_vc 5)) (x1 := some (.ref (p 0))) (x2 := some (.int 6)) (by decide) (by rw [pj_up_ap, if_pos rfl]) ?hh (hU.frame (fun i hi => by rw [pj_up_ap, if_neg (by omega), pj_up_ap, if_neg (by omega)]))
    case hh =>
      refine ⟨_, fun i => if i = 5 then p 0 else p (i + 1), by rw [pj_up_ap, if_neg (by decide), pj_up_ap, if_pos rfl], ?_, ?_, ?_, ?_⟩
      · intro i hi
        have : i = 0 ∨ i = 1 ∨ i = 2 ∨ i = 3 ∨ i = 4 ∨ i = 5 := by omega
        rcases this with e | e | e | e | e | e <;> subst e <;> rfl
      · intro i hi
        by_cases c : i = 5
        · simp only [if_pos c]
          exact h3 0 (by decide)
        · simp only [if_neg c]
          exact h3 (i + 1) (by omega)
      · intro i j hi hj hij
        by_cases c : i = 5
        · by_cases c' : j = 5
          · omega
          · simp only [if_pos c, if_neg c']
            exact h4 0 (j + 1) (by decide) (by omega) (by omega)
        · by_cases c' : j = 5
          · simp only [if_neg c, if_pos c']
            exact h4 (i + 1) 0 (by omega) (by decide) (by omega)
          · simp only [if_neg c, if_neg c']
            exact h4 (i + 1) (j + 1) (by omega) (by omega) (by omega)
      · intro i hi
        by_cases c : i = 5
        · simp only [if_pos c]
          obtain ⟨w, hw, -⟩ := h5 0 (by decide)
          have := h3 0 (by decide)
          exact ⟨w, hw.frame (fun k hk => by rw [pj_up_ap, if_neg (by omega), pj_up_ap, if_neg (by omega)]), fun hlt => by omega⟩
        · simp only [if_neg c]
          obtain ⟨w, hw, he⟩ := h5 (i + 1) (by omega)
          have := h3 (i + 1) (by omega)
          exact ⟨w, hw.frame (fun k hk => by rw [pj_up_ap, if_neg (by omega), pj_up_ap, if_neg (by omega)]), fun hlt => he (show i + 1 < 6 by omega)⟩
    obtain ⟨H', a, b, c, d⟩ := tl
    have ph : (fun i => if i = 5 then f else h (i + 1)) = sp_ph f 6 h := by
      funext i
      unfold sp_ph
      rw [if_pos rfl]
    rw [ph] at b
    refine ⟨H', fin H' a b ?_, ?_, ?_⟩
    · intro j hj
      rw [c j hj, pj_up_ap, if_neg (by omega), pj_up_ap, if_neg (by omega)]
    · intro j hj
      rw [c j hj, pj_up_ap, if_neg (by omega), pj_up_ap, if_neg (by omega)]
    · have v0 : pj_vc 5 = .inl (5, [.ref 5, .ref 14, .ref 23, .ref 30, .ref 34, .int 5, .ref 89, .ref 108]) := rfl
      rw [v0] at d
      have V0 : H 4 = .inl (5, [.ref 5, .ref 14, .ref 23, .ref 30, .ref 34, .int 6, .ref 89, .ref 108]) := hV
      simp (disch := first | assumption | exact pj_long_i | exact pj_long_r | exact pj_long_n | decide) only [x43_0, x43_1, x43_4, x43_6, x43_9, x43_10, x43_13, x43_14, x43_15, x43_16, x43_17, x43_18, x43_19, x43_21, x43_24, x43_25, x43_28, x43_29, x43_30, x43_31, x43_32, x43_35, x43_36, x43_38, x43_41, x43_44, x43_45, x43_48, x43_49, simprocAttr, pj_then_s, pj_pv_s, pj_pi_s, pj_set_s, if_true, if_false, not_true_eq_false, not_false_eq_true, pj_up_up, pj_so110_109, pj_so111_109, pj_so112_109, pj_so113_109, pj_so114_109, pj_so115_109, pj_so116_109, pj_so117_109, pj_so111_110, pj_so112_110, pj_so113_110, pj_so114_110, pj_so115_110, pj_so116_110, pj_so117_110, pj_so112_111, pj_so113_111, pj_so114_111, pj_so115_111, pj_so116_111, pj_so117_111, pj_so113_112, pj_so114_112, pj_so115_112, pj_so116_112, pj_so117_112, pj_so114_113, pj_so115_113, pj_so116_113, pj_so117_113, pj_so115_114, pj_so116_114, pj_so117_114, pj_so116_115, pj_so117_115, pj_so117_116, pj_up_ap, pj_upd_ap, pj_a3_0, pj_a3_1, pj_a3_2, pj_a3_u0, pj_a3_u1, pj_a3_u2, pj_f5_5, pj_f5_4, pj_qrl_i, pj_long_i, pj_long_r, pj_long_n, V0, h1, q0, q1, q2, q3, q4, q5, d0, d1, d2, d3, d4, d5, va_rf_some, pj_qrl_i, pj_qrs_i, va_up]
      rw [x43_37 (by first | exact i1 | (simp only [pj_up_ap, d1, if_false]; exact i1))]
      simp (disch := first | assumption | exact pj_long_i | exact pj_long_r | exact pj_long_n | decide) only [x43_18, x43_19, x43_21, x43_24, x43_25, x43_28, x43_29, x43_30, x43_31, x43_32, x43_35, x43_36, x43_38, x43_41, x43_44, x43_45, x43_48, x43_49, simprocAttr, pj_then_s, pj_pv_s, pj_pi_s, pj_set_s, if_true, if_false, not_true_eq_false, not_false_eq_true, pj_up_up, pj_so110_109, pj_so111_109, pj_so112_109, pj_so113_109, pj_so114_109, pj_so115_109, pj_so116_109, pj_so117_109, pj_so111_110, pj_so112_110, pj_so113_110, pj_so114_110, pj_so115_110, pj_so116_110, pj_so117_110, pj_so112_111, pj_so113_111, pj_so114_111, pj_so115_111, pj_so116_111, pj_so117_111, pj_so113_112, pj_so114_112, pj_so115_112, pj_so116_112, pj_so117_112, pj_so114_113, pj_so115_113, pj_so116_113, pj_so117_113, pj_so115_114, pj_so116_114, pj_so117_114, pj_so116_115, pj_so117_115, pj_so117_116, pj_up_ap, pj_upd_ap, pj_a3_0, pj_a3_1, pj_a3_2, pj_a3_u0, pj_a3_u1, pj_a3_u2, pj_f5_4, pj_qrl_i, pj_long_i, pj_long_r, pj_long_n, V0, h1, q0, q1, q2, q3, q4, q5, d0, d1, d2, d3, d4, d5, va_rf_some, pj_qrl_i, pj_qrs_i, va_up]
      rw [x43_37 (by first | exact i2 | (simp only [pj_up_ap, d2, if_false]; exact i2))]
      simp (disch := first | assumption | exact pj_long_i | exact pj_long_r | exact pj_long_n | decide) only [x43_18, x43_19, x43_21, x43_24, x43_25, x43_28, x43_29, x43_30, x43_31, x43_32, x43_35, x43_36, x43_38, x43_41, x43_44, x43_45, x43_48, x43_49, simprocAttr, pj_then_s, pj_pv_s, pj_pi_s, pj_set_s, if_true, if_false, not_true_eq_false, not_false_eq_true, pj_up_up, pj_so110_109, pj_so111_109, pj_so112_109, pj_so113_109, pj_so114_109, pj_so115_109, pj_so116_109, pj_so117_109, pj_so111_110, pj_so112_110, pj_so113_110, pj_so114_110, pj_so115_110, pj_so116_110, pj_so117_110, pj_so112_111, pj_so113_111, pj_so114_111, pj_so115_111, pj_so116_111, pj_so117_111, pj_so113_112, pj_so114_112, pj_so115_112, pj_so116_112, pj_so117_112, pj_so114_113, pj_so115_113, pj_so116_113, pj_so117_113, pj_so115_114, pj_so116_114, pj_so117_114, pj_so116_115, pj_so117_115, pj_so117_116, pj_up_ap, pj_upd_ap, pj_a3_0, pj_a3_1, pj_a3_2, pj_a3_u0, pj_a3_u1, pj_a3_u2, pj_f5_4, pj_qrl_i, pj_long_i, pj_long_r, pj_long_n, V0, h1, q0, q1, q2, q3, q4, q5, d0, d1, d2, d3, d4, d5, va_rf_some, pj_qrl_i, pj_qrs_i, va_up]
      rw [x43_37 (by first | exact i3 | (simp only [pj_up_ap, d3, if_false]; exact i3))]
      simp (disch := first | assumption | exact pj_long_i | exact pj_long_r | exact pj_long_n | decide) only [x43_18, x43_19, x43_21, x43_24, x43_25, x43_28, x43_29, x43_30, x43_31, x43_32, x43_35, x43_36, x43_38, x43_41, x43_44, x43_45, x43_48, x43_49, simprocAttr, pj_then_s, pj_pv_s, pj_pi_s, pj_set_s, if_true, if_false, not_true_eq_false, not_false_eq_true, pj_up_up, pj_so110_109, pj_so111_109, pj_so112_109, pj_so113_109, pj_so114_109, pj_so115_109, pj_so116_109, pj_so117_109, pj_so111_110, pj_so112_110, pj_so113_110, pj_so114_110, pj_so115_110, pj_so116_110, pj_so117_110, pj_so112_111, pj_so113_111, pj_so114_111, pj_so115_111, pj_so116_111, pj_so117_111, pj_so113_112, pj_so114_112, pj_so115_112, pj_so116_112, pj_so117_112, pj_so114_113, pj_so115_113, pj_so116_113, pj_so117_113, pj_so115_114, pj_so116_114, pj_so117_114, pj_so116_115, pj_so117_115, pj_so117_116, pj_up_ap, pj_upd_ap, pj_a3_0, pj_a3_1, pj_a3_2, pj_a3_u0, pj_a3_u1, pj_a3_u2, pj_f5_4, pj_qrl_i, pj_long_i, pj_long_r, pj_long_n, V0, h1, q0, q1, q2, q3, q4, q5, d0, d1, d2, d3, d4, d5, va_rf_some, pj_qrl_i, pj_qrs_i, va_up]
      rw [x43_37 (by first | exact i4 | (simp only [pj_up_ap, d4, if_false]; exact i4))]
      simp (disch := first | assumption | exact pj_long_i | exact pj_long_r | exact pj_long_n | decide) only [x43_18, x43_19, x43_21, x43_24, x43_25, x43_28, x43_29, x43_30, x43_31, x43_32, x43_35, x43_36, x43_38, x43_41, x43_44, x43_45, x43_48, x43_49, simprocAttr, pj_then_s, pj_pv_s, pj_pi_s, pj_set_s, if_true, if_false, not_true_eq_false, not_false_eq_true, pj_up_up, pj_so110_109, pj_so111_109, pj_so112_109, pj_so113_109, pj_so114_109, pj_so115_109, pj_so116_109, pj_so117_109, pj_so111_110, pj_so112_110, pj_so113_110, pj_so114_110, pj_so115_110, pj_so116_110, pj_so117_110, pj_so112_111, pj_so113_111, pj_so114_111, pj_so115_111, pj_so116_111, pj_so117_111, pj_so113_112, pj_so114_112, pj_so115_112, pj_so116_112, pj_so117_112, pj_so114_113, pj_so115_113, pj_so116_113, pj_so117_113, pj_so115_114, pj_so116_114, pj_so117_114, pj_so116_115, pj_so117_115, pj_so117_116, pj_up_ap, pj_upd_ap, pj_a3_0, pj_a3_1, pj_a3_2, pj_a3_u0, pj_a3_u1, pj_a3_u2, pj_f5_4, pj_qrl_i, pj_long_i, pj_long_r, pj_long_n, V0, h1, q0, q1, q2, q3, q4, q5, d0, d1, d2, d3, d4, d5, va_rf_some, pj_qrl_i, pj_qrs_i, va_up]
      rw [x43_37 (by first | exact i5 | (simp only [pj_up_ap, d5, if_false]; exact i5))]
      simp (disch := first | assumption | exact pj_long_i | exact pj_long_r | exact pj_long_n | decide) only [x43_18, x43_19, x43_21, x43_24, x43_25, x43_28, x43_29, x43_30, x43_31, x43_32, x43_35, x43_36, x43_38, x43_41, x43_44, x43_45, x43_48, x43_49, simprocAttr, pj_then_s, pj_pv_s, pj_pi_s, pj_set_s, if_true, if_false, not_true_eq_false, not_false_eq_true, pj_up_up, pj_so110_109, pj_so111_109, pj_so112_109, pj_so113_109, pj_so114_109, pj_so115_109, pj_so116_109, pj_so117_109, pj_so111_110, pj_so112_110, pj_so113_110, pj_so114_110, pj_so115_110, pj_so116_110, pj_so117_110, pj_so112_111, pj_so113_111, pj_so114_111, pj_so115_111, pj_so116_111, pj_so117_111, pj_so113_112, pj_so114_112, pj_so115_112, pj_so116_112, pj_so117_112, pj_so114_113, pj_so115_113, pj_so116_113, pj_so117_113, pj_so115_114, pj_so116_114, pj_so117_114, pj_so116_115, pj_so117_115, pj_so117_116, pj_up_ap, pj_upd_ap, pj_a3_0, pj_a3_1, pj_a3_2, pj_a3_u0, pj_a3_u1, pj_a3_u2, pj_f5_4, pj_qrl_i, pj_long_i, pj_long_r, pj_long_n, V0, h1, q0, q1, q2, q3, q4, q5, d0, d1, d2, d3, d4, d5, va_rf_some, pj_qrl_i, pj_qrs_i, va_up]
      rw [x43_50 (by first | exact i0 | (simp only [pj_up_ap, d0, if_false]; exact i0))]
      simp (disch := first | assumption | exact pj_long_i | exact pj_long_r | exact pj_long_n | decide) only [x43_51, x43_52, x43_53, simprocAttr, pj_then_s, pj_pv_s, pj_pi_s, pj_set_s, if_true, if_false, not_true_eq_false, not_false_eq_true, pj_up_up, pj_so110_109, pj_so111_109, pj_so112_109, pj_so113_109, pj_so114_109, pj_so115_109, pj_so116_109, pj_so117_109, pj_so111_110, pj_so112_110, pj_so113_110, pj_so114_110, pj_so115_110, pj_so116_110, pj_so117_110, pj_so112_111, pj_so113_111, pj_so114_111, pj_so115_111, pj_so116_111, pj_so117_111, pj_so113_112, pj_so114_112, pj_so115_112, pj_so116_112, pj_so117_112, pj_so114_113, pj_so115_113, pj_so116_113, pj_so117_113, pj_so115_114, pj_so116_114, pj_so117_114, pj_so116_115, pj_so117_115, pj_so117_116, pj_up_ap, pj_upd_ap, pj_a3_0, pj_a3_1, pj_a3_2, pj_a3_u0, pj_a3_u1, pj_a3_u2, pj_s5_5, V0, h1, q0, q1, q2, q3, q4, q5, d0, d1, d2, d3, d4, d5, va_rf_some, pj_qrl_i, pj_qrs_i, va_up]
      exact d
  · have hlt : n < 6 := by
      have : n ≤ 6 := hn
      omega
    have e1 : sp_hn n = n := if_neg c6
    obtain ⟨H', a, b, c, d⟩ := c_rem_tail (N := N) (S := S) (x1 := none) (x2 := none) hlt hV hH hU
    have ph : (fun i => if i = n then f else h i) = sp_ph f n h := by
      funext i
      unfold sp_ph
      rw [if_neg c6]
    rw [ph] at b
    have k1 : nI n < 6 := (nI_ltI (by omega) (by decide)).mpr hlt
    refine ⟨H', fin H' (by rw [e1]; exact a) (by rw [e1]; exact b) c, c, ?_⟩
    simp (disch := first | assumption | exact pj_long_i | exact pj_long_r | exact pj_long_n | decide) only [x43_0, x43_1, x43_4, x43_6, simprocAttr, pj_then_s, pj_pv_s, pj_pi_s, pj_set_s, if_true, if_false, not_true_eq_false, not_false_eq_true, pj_up_up, pj_so110_109, pj_so111_109, pj_so112_109, pj_so113_109, pj_so114_109, pj_so115_109, pj_so116_109, pj_so117_109, pj_so111_110, pj_so112_110, pj_so113_110, pj_so114_110, pj_so115_110, pj_so116_110, pj_so117_110, pj_so112_111, pj_so113_111, pj_so114_111, pj_so115_111, pj_so116_111, pj_so117_111, pj_so113_112, pj_so114_112, pj_so115_112, pj_so116_112, pj_so117_112, pj_so114_113, pj_so115_113, pj_so116_113, pj_so117_113, pj_so115_114, pj_so116_114, pj_so117_114, pj_so116_115, pj_so117_115, pj_so117_116, pj_up_ap, pj_upd_ap, pj_a3_0, pj_a3_1, pj_a3_2, pj_a3_u0, pj_a3_u1, pj_a3_u2, pj_f5_5, hV, pj_vc, k1]
    exact d
end T20
