/-! THE CLASS'S UNITS -/
def pj_a6 (a b c d e f : Int32) : Nat → Int32 := fun i => if i = 0 then a else if i = 1 then b else if i = 2 then c else if i = 3 then d else if i = 4 then e else if i = 5 then f else 0
def pj_n120 (f : Nat → Int32) : Nat → Int32 := fun j => if j < 120 then f (31 + j) else 0
theorem pj_a6_cpy {a b c d e f a' b' c' d' e' f' : Int32} : va_cpy (pj_a6 a b c d e f) (pj_a6 a' b' c' d' e' f') 0 0 6 = pj_a6 a b c d e f := by
  funext k
  unfold va_cpy
  by_cases h : k < 6
  · rw [if_pos ⟨by omega, by omega⟩, Nat.zero_add, Nat.sub_zero]
  · rw [if_neg (by omega)]
    unfold pj_a6
    repeat rw [if_neg (by omega)]
theorem pj_a3_cpy {a b c a' b' c' : Int32} : va_cpy (pj_a3 a b c) (pj_a3 a' b' c') 0 0 3 = pj_a3 a b c := by
  funext k
  unfold va_cpy
  by_cases h : k < 3
  · rw [if_pos ⟨by omega, by omega⟩, Nat.zero_add, Nat.sub_zero]
  · rw [if_neg (by omega)]
    unfold pj_a3
    repeat rw [if_neg (by omega)]
theorem pj_n120_cpy {f g : Nat → Int32} : va_cpy (pj_n120 f) (pj_n120 g) 0 0 120 = pj_n120 f := by
  funext k
  unfold va_cpy
  by_cases h : k < 120
  · rw [if_pos ⟨by omega, by omega⟩, Nat.zero_add, Nat.sub_zero]
  · rw [if_neg (by omega)]
    unfold pj_n120
    repeat rw [if_neg (by omega)]
theorem pj_cas_3 {f g : Nat → Int32} : pj_cas (.inr (0, 3, .inl f)) (.inr (0, 3, .inl g)) 0 0 3 = some (.inr (0, 3, .inl (va_cpy f g 0 0 3))) := by
  unfold pj_cas
  simp only
  rw [if_pos (by decide)]
  rfl
theorem pj_cas_6 {f g : Nat → Int32} : pj_cas (.inr (0, 6, .inl f)) (.inr (0, 6, .inl g)) 0 0 6 = some (.inr (0, 6, .inl (va_cpy f g 0 0 6))) := by
  unfold pj_cas
  simp only
  rw [if_pos (by decide)]
  rfl
theorem pj_cas_120 {f g : Nat → Int32} : pj_cas (.inr (0, 120, .inl f)) (.inr (0, 120, .inl g)) 0 0 120 = some (.inr (0, 120, .inl (va_cpy f g 0 0 120))) := by
  unfold pj_cas
  simp only
  rw [if_pos (by decide)]
  rfl
/-- a unit's own cell for a row, and its block -/
def pj_uc (u : Nat) (f : Nat → Int32) : pj_Cell := .inl (4, [.ref (u + 1), .ref (u + 2), .ref (u + 3), .ref (u + 4), .ref (u + 5), .ref (u + 6), .ref (u + 7), .int (sp_vot f), .int (sp_bar f), .int (f 7), .int (f 6)])
def pj_U (H : pj_Heap) (u : Nat) (f : Nat → Int32) : Prop :=
  H u = pj_uc u f ∧ H (u + 1) = .inr (0, 6, .inl (pj_a6 (f 0) (f 1) (f 2) (f 3) (f 4) (f 5))) ∧ H (u + 2) = .inr (0, 3, .inl (pj_a3 (f 8) (f 9) (f 10))) ∧ H (u + 3) = .inr (0, 3, .inl (pj_a3 (f 11) (f 12) (f 13))) ∧ H (u + 4) = .inr (0, 3, .inl (pj_a3 (f 17) (f 18) (f 19))) ∧ H (u + 5) = .inr (0, 3, .inl (pj_a3 (f 20) (f 21) (f 22))) ∧ H (u + 6) = .inr (0, 3, .inl (pj_a3 (f 23) (f 24) (f 25))) ∧ H (u + 7) = .inl (2, [.ref (u + 8), .int (f 30), .int (f 29)]) ∧ H (u + 8) = .inr (0, 120, .inl (pj_n120 f))
theorem pj_U.frame {H H' : pj_Heap} {u : Nat} {f : Nat → Int32} (h : pj_U H u f) (hF : ∀ i, i < 9 → H' (u + i) = H (u + i)) : pj_U H' u f := by
  obtain ⟨h0, h1, h2, h3, h4, h5, h6, h7, h8⟩ := h
  exact ⟨(hF 0 (by decide)).trans h0, (hF 1 (by decide)).trans h1, (hF 2 (by decide)).trans h2, (hF 3 (by decide)).trans h3, (hF 4 (by decide)).trans h4, (hF 5 (by decide)).trans h5, (hF 6 (by decide)).trans h6, (hF 7 (by decide)).trans h7, (hF 8 (by decide)).trans h8⟩
theorem c_cbecome {N S : Nat} {H : pj_Heap} {r a s b : Nat} {n e n' e' : Int32} {g g' : Nat → Int32} (h1 : H r = .inl (2, [.ref a, .int n, .int e])) (h2 : H a = .inr (0, 120, .inl (pj_n120 g))) (h3 : H s = .inl (2, [.ref b, .int n', .int e'])) (h4 : H b = .inr (0, 120, .inl (pj_n120 g'))) (n1 : (s = a) = False) (n2 : (r = a) = False) (n3 : (s = r) = False) :
    pj_Ends 33 (0, [some (.ref r), some (.ref s)], [], (N, S, H)) (none, (N, S, pj_up (pj_up H a (.inr (0, 120, .inl (pj_n120 g')))) r (.inl (2, [.ref a, .int n', .int e'])))) := by
  simp (disch := first | assumption | exact pj_long_i | exact pj_long_r | exact pj_long_n | decide) only [x33_0, x33_1, x33_4, x33_5, x33_6, x33_9, x33_10, x33_12, x33_15, x33_16, x33_17, x33_20, x33_23, x33_24, x33_25, x33_28, simprocAttr, pj_then_s, pj_pv_s, pj_pi_s, pj_set_s, if_true, if_false, not_true_eq_false, not_false_eq_true, pj_up_up, pj_so110_109, pj_so111_109, pj_so112_109, pj_so113_109, pj_so114_109, pj_so115_109, pj_so116_109, pj_so117_109, pj_so111_110, pj_so112_110, pj_so113_110, pj_so114_110, pj_so115_110, pj_so116_110, pj_so117_110, pj_so112_111, pj_so113_111, pj_so114_111, pj_so115_111, pj_so116_111, pj_so117_111, pj_so113_112, pj_so114_112, pj_so115_112, pj_so116_112, pj_so117_112, pj_so114_113, pj_so115_113, pj_so116_113, pj_so117_113, pj_so115_114, pj_so116_114, pj_so117_114, pj_so116_115, pj_so117_115, pj_so117_116, pj_up_ap, pj_upd_ap, pj_a3_0, pj_a3_1, pj_a3_2, pj_a3_u0, pj_a3_u1, pj_a3_u2, pj_f2_0, pj_g4_0, pj_g4_1, pj_g4_2, pj_g4_3, pj_g4_4, pj_f2_1, pj_s2_1, pj_f2_2, pj_s2_2, h1, h2, h3, h4, n1, n2, n3, pj_cas_120, pj_n120_cpy]
  exact t33_31
theorem c_become {N S : Nat} {H : pj_Heap} {u v : Nat} {f g : Nat → Int32} (hu : pj_U H u g) (hv : pj_U H v f) (hd : u + 9 ≤ v ∨ v + 9 ≤ u) :
    ∃ H', pj_U H' u f ∧ (∀ j, j < u ∨ u + 9 ≤ j → H' j = H j) ∧ pj_Ends 32 (0, [some (.ref u), some (.ref v)], [], (N, S, H)) (none, (N, S, H')) := by
  obtain ⟨hu0, hu1, hu2, hu3, hu4, hu5, hu6, hu7, hu8⟩ := hu
  obtain ⟨hv0, hv1, hv2, hv3, hv4, hv5, hv6, hv7, hv8⟩ := hv
  unfold pj_uc at hu0 hv0
  have z1 : (u = u + 1) = False := eq_false (by omega)
  have zz1 : (u + 1 = u) = False := eq_false (by omega)
  have w1 : (v = u + 1) = False := eq_false (by omega)
  have x1 : (v + 1 = u) = False := eq_false (by omega)
  have z2 : (u = u + 2) = False := eq_false (by omega)
  have zz2 : (u + 2 = u) = False := eq_false (by omega)
  have w2 : (v = u + 2) = False := eq_false (by omega)
  have x2 : (v + 2 = u) = False := eq_false (by omega)
  have z3 : (u = u + 3) = False := eq_false (by omega)
  have zz3 : (u + 3 = u) = False := eq_false (by omega)
  have w3 : (v = u + 3) = False := eq_false (by omega)
  have x3 : (v + 3 = u) = False := eq_false (by omega)
  have z4 : (u = u + 4) = False := eq_false (by omega)
  have zz4 : (u + 4 = u) = False := eq_false (by omega)
  have w4 : (v = u + 4) = False := eq_false (by omega)
  have x4 : (v + 4 = u) = False := eq_false (by omega)
  have z5 : (u = u + 5) = False := eq_false (by omega)
  have zz5 : (u + 5 = u) = False := eq_false (by omega)
  have w5 : (v = u + 5) = False := eq_false (by omega)
  have x5 : (v + 5 = u) = False := eq_false (by omega)
  have z6 : (u = u + 6) = False := eq_false (by omega)
  have zz6 : (u + 6 = u) = False := eq_false (by omega)
  have w6 : (v = u + 6) = False := eq_false (by omega)
  have x6 : (v + 6 = u) = False := eq_false (by omega)
  have z7 : (u = u + 7) = False := eq_false (by omega)
  have zz7 : (u + 7 = u) = False := eq_false (by omega)
  have w7 : (v = u + 7) = False := eq_false (by omega)
  have x7 : (v + 7 = u) = False := eq_false (by omega)
  have z8 : (u = u + 8) = False := eq_false (by omega)
  have zz8 : (u + 8 = u) = False := eq_false (by omega)
  have w8 : (v = u + 8) = False := eq_false (by omega)
  have x8 : (v + 8 = u) = False := eq_false (by omega)
  have y1_1 : (v + 1 = u + 1) = False := eq_false (by omega)
  have y1_2 : (v + 1 = u + 2) = False := eq_false (by omega)
  have y1_3 : (v + 1 = u + 3) = False := eq_false (by omega)
  have y1_4 : (v + 1 = u + 4) = False := eq_false (by omega)
  have y1_5 : (v + 1 = u + 5) = False := eq_false (by omega)
  have y1_6 : (v + 1 = u + 6) = False := eq_false (by omega)
  have y1_7 : (v + 1 = u + 7) = False := eq_false (by omega)
  have y1_8 : (v + 1 = u + 8) = False := eq_false (by omega)
  have y2_1 : (v + 2 = u + 1) = False := eq_false (by omega)
  have y2_2 : (v + 2 = u + 2) = False := eq_false (by omega)
  have y2_3 : (v + 2 = u + 3) = False := eq_false (by omega)
  have y2_4 : (v + 2 = u + 4) = False := eq_false (by omega)
  have y2_5 : (v + 2 = u + 5) = False := eq_false (by omega)
  have y2_6 : (v + 2 = u + 6) = False := eq_false (by omega)
  have y2_7 : (v + 2 = u + 7) = False := eq_false (by omega)
  have y2_8 : (v + 2 = u + 8) = False := eq_false (by omega)
  have y3_1 : (v + 3 = u + 1) = False := eq_false (by omega)
  have y3_2 : (v + 3 = u + 2) = False := eq_false (by omega)
  have y3_3 : (v + 3 = u + 3) = False := eq_false (by omega)
  have y3_4 : (v + 3 = u + 4) = False := eq_false (by omega)
  have y3_5 : (v + 3 = u + 5) = False := eq_false (by omega)
  have y3_6 : (v + 3 = u + 6) = False := eq_false (by omega)
  have y3_7 : (v + 3 = u + 7) = False := eq_false (by omega)
  have y3_8 : (v + 3 = u + 8) = False := eq_false (by omega)
  have y4_1 : (v + 4 = u + 1) = False := eq_false (by omega)
  have y4_2 : (v + 4 = u + 2) = False := eq_false (by omega)
  have y4_3 : (v + 4 = u + 3) = False := eq_false (by omega)
  have y4_4 : (v + 4 = u + 4) = False := eq_false (by omega)
  have y4_5 : (v + 4 = u + 5) = False := eq_false (by omega)
  have y4_6 : (v + 4 = u + 6) = False := eq_false (by omega)
  have y4_7 : (v + 4 = u + 7) = False := eq_false (by omega)
  have y4_8 : (v + 4 = u + 8) = False := eq_false (by omega)
  have y5_1 : (v + 5 = u + 1) = False := eq_false (by omega)
  have y5_2 : (v + 5 = u + 2) = False := eq_false (by omega)
  have y5_3 : (v + 5 = u + 3) = False := eq_false (by omega)
  have y5_4 : (v + 5 = u + 4) = False := eq_false (by omega)
  have y5_5 : (v + 5 = u + 5) = False := eq_false (by omega)
  have y5_6 : (v + 5 = u + 6) = False := eq_false (by omega)
  have y5_7 : (v + 5 = u + 7) = False := eq_false (by omega)
  have y5_8 : (v + 5 = u + 8) = False := eq_false (by omega)
  have y6_1 : (v + 6 = u + 1) = False := eq_false (by omega)
  have y6_2 : (v + 6 = u + 2) = False := eq_false (by omega)
  have y6_3 : (v + 6 = u + 3) = False := eq_false (by omega)
  have y6_4 : (v + 6 = u + 4) = False := eq_false (by omega)
  have y6_5 : (v + 6 = u + 5) = False := eq_false (by omega)
  have y6_6 : (v + 6 = u + 6) = False := eq_false (by omega)
  have y6_7 : (v + 6 = u + 7) = False := eq_false (by omega)
  have y6_8 : (v + 6 = u + 8) = False := eq_false (by omega)
  have y7_1 : (v + 7 = u + 1) = False := eq_false (by omega)
  have y7_2 : (v + 7 = u + 2) = False := eq_false (by omega)
  have y7_3 : (v + 7 = u + 3) = False := eq_false (by omega)
  have y7_4 : (v + 7 = u + 4) = False := eq_false (by omega)
  have y7_5 : (v + 7 = u + 5) = False := eq_false (by omega)
  have y7_6 : (v + 7 = u + 6) = False := eq_false (by omega)
  have y7_7 : (v + 7 = u + 7) = False := eq_false (by omega)
  have y7_8 : (v + 7 = u + 8) = False := eq_false (by omega)
  have y8_1 : (v + 8 = u + 1) = False := eq_false (by omega)
  have y8_2 : (v + 8 = u + 2) = False := eq_false (by omega)
  have y8_3 : (v + 8 = u + 3) = False := eq_false (by omega)
  have y8_4 : (v + 8 = u + 4) = False := eq_false (by omega)
  have y8_5 : (v + 8 = u + 5) = False := eq_false (by omega)
  have y8_6 : (v + 8 = u + 6) = False := eq_false (by omega)
  have y8_7 : (v + 8 = u + 7) = False := eq_false (by omega)
  have y8_8 : (v + 8 = u + 8) = False := eq_false (by omega)
  have k1_2 : (u + 1 = u + 2) = False := eq_false (by omega)
  have k1_3 : (u + 1 = u + 3) = False := eq_false (by omega)
  have k1_4 : (u + 1 = u + 4) = False := eq_false (by omega)
  have k1_5 : (u + 1 = u + 5) = False := eq_false (by omega)
  have k1_6 : (u + 1 = u + 6) = False := eq_false (by omega)
  have k1_7 : (u + 1 = u + 7) = False := eq_false (by omega)
  have k1_8 : (u + 1 = u + 8) = False := eq_false (by omega)
  have k2_1 : (u + 2 = u + 1) = False := eq_false (by omega)
  have k2_3 : (u + 2 = u + 3) = False := eq_false (by omega)
  have k2_4 : (u + 2 = u + 4) = False := eq_false (by omega)
  have k2_5 : (u + 2 = u + 5) = False := eq_false (by omega)
  have k2_6 : (u + 2 = u + 6) = False := eq_false (by omega)
  have k2_7 : (u + 2 = u + 7) = False := eq_false (by omega)
  have k2_8 : (u + 2 = u + 8) = False := eq_false (by omega)
  have k3_1 : (u + 3 = u + 1) = False := eq_false (by omega)
  have k3_2 : (u + 3 = u + 2) = False := eq_false (by omega)
  have k3_4 : (u + 3 = u + 4) = False := eq_false (by omega)
  have k3_5 : (u + 3 = u + 5) = False := eq_false (by omega)
  have k3_6 : (u + 3 = u + 6) = False := eq_false (by omega)
  have k3_7 : (u + 3 = u + 7) = False := eq_false (by omega)
  have k3_8 : (u + 3 = u + 8) = False := eq_false (by omega)
  have k4_1 : (u + 4 = u + 1) = False := eq_false (by omega)
  have k4_2 : (u + 4 = u + 2) = False := eq_false (by omega)
  have k4_3 : (u + 4 = u + 3) = False := eq_false (by omega)
  have k4_5 : (u + 4 = u + 5) = False := eq_false (by omega)
  have k4_6 : (u + 4 = u + 6) = False := eq_false (by omega)
  have k4_7 : (u + 4 = u + 7) = False := eq_false (by omega)
  have k4_8 : (u + 4 = u + 8) = False := eq_false (by omega)
  have k5_1 : (u + 5 = u + 1) = False := eq_false (by omega)
  have k5_2 : (u + 5 = u + 2) = False := eq_false (by omega)
  have k5_3 : (u + 5 = u + 3) = False := eq_false (by omega)
  have k5_4 : (u + 5 = u + 4) = False := eq_false (by omega)
  have k5_6 : (u + 5 = u + 6) = False := eq_false (by omega)
  have k5_7 : (u + 5 = u + 7) = False := eq_false (by omega)
  have k5_8 : (u + 5 = u + 8) = False := eq_false (by omega)
  have k6_1 : (u + 6 = u + 1) = False := eq_false (by omega)
  have k6_2 : (u + 6 = u + 2) = False := eq_false (by omega)
  have k6_3 : (u + 6 = u + 3) = False := eq_false (by omega)
  have k6_4 : (u + 6 = u + 4) = False := eq_false (by omega)
  have k6_5 : (u + 6 = u + 5) = False := eq_false (by omega)
  have k6_7 : (u + 6 = u + 7) = False := eq_false (by omega)
  have k6_8 : (u + 6 = u + 8) = False := eq_false (by omega)
  have k7_1 : (u + 7 = u + 1) = False := eq_false (by omega)
  have k7_2 : (u + 7 = u + 2) = False := eq_false (by omega)
  have k7_3 : (u + 7 = u + 3) = False := eq_false (by omega)
  have k7_4 : (u + 7 = u + 4) = False := eq_false (by omega)
  have k7_5 : (u + 7 = u + 5) = False := eq_false (by omega)
  have k7_6 : (u + 7 = u + 6) = False := eq_false (by omega)
  have k7_8 : (u + 7 = u + 8) = False := eq_false (by omega)
  have k8_1 : (u + 8 = u + 1) = False := eq_false (by omega)
  have k8_2 : (u + 8 = u + 2) = False := eq_false (by omega)
  have k8_3 : (u + 8 = u + 3) = False := eq_false (by omega)
  have k8_4 : (u + 8 = u + 4) = False := eq_false (by omega)
  have k8_5 : (u + 8 = u + 5) = False := eq_false (by omega)
  have k8_6 : (u + 8 = u + 6) = False := eq_false (by omega)
  have k8_7 : (u + 8 = u + 7) = False := eq_false (by omega)
  have w0 : (v = u) = False := eq_false (by omega)
  refine ⟨pj_up (pj_up (pj_up (pj_up (pj_up (pj_up (pj_up (pj_up (pj_up H (u + 1) (.inr (0, 6, .inl (pj_a6 (f 0) (f 1) (f 2) (f 3) (f 4) (f 5))))) (u + 2) (.inr (0, 3, .inl (pj_a3 (f 8) (f 9) (f 10))))) (u + 3) (.inr (0, 3, .inl (pj_a3 (f 11) (f 12) (f 13))))) (u + 4) (.inr (0, 3, .inl (pj_a3 (f 17) (f 18) (f 19))))) (u + 5) (.inr (0, 3, .inl (pj_a3 (f 20) (f 21) (f 22))))) (u + 6) (.inr (0, 3, .inl (pj_a3 (f 23) (f 24) (f 25))))) (u + 8) (.inr (0, 120, .inl (pj_n120 f)))) (u + 7) (.inl (2, [.ref (u + 8), .int (f 30), .int (f 29)]))) u (pj_uc u f), ⟨?_, ?_, ?_, ?_, ?_, ?_, ?_, ?_, ?_⟩, ?_, ?_⟩
  · simp only [pj_up_ap, if_true]
  · simp only [pj_up_ap, if_true, if_false, zz1, zz2, zz3, zz4, zz5, zz6, zz7, zz8, z1, z2, z3, z4, z5, z6, z7, z8, k1_2, k1_3, k1_4, k1_5, k1_6, k1_7, k1_8, k2_1, k2_3, k2_4, k2_5, k2_6, k2_7, k2_8, k3_1, k3_2, k3_4, k3_5, k3_6, k3_7, k3_8, k4_1, k4_2, k4_3, k4_5, k4_6, k4_7, k4_8, k5_1, k5_2, k5_3, k5_4, k5_6, k5_7, k5_8, k6_1, k6_2, k6_3, k6_4, k6_5, k6_7, k6_8, k7_1, k7_2, k7_3, k7_4, k7_5, k7_6, k7_8, k8_1, k8_2, k8_3, k8_4, k8_5, k8_6, k8_7]
  · simp only [pj_up_ap, if_true, if_false, zz1, zz2, zz3, zz4, zz5, zz6, zz7, zz8, z1, z2, z3, z4, z5, z6, z7, z8, k1_2, k1_3, k1_4, k1_5, k1_6, k1_7, k1_8, k2_1, k2_3, k2_4, k2_5, k2_6, k2_7, k2_8, k3_1, k3_2, k3_4, k3_5, k3_6, k3_7, k3_8, k4_1, k4_2, k4_3, k4_5, k4_6, k4_7, k4_8, k5_1, k5_2, k5_3, k5_4, k5_6, k5_7, k5_8, k6_1, k6_2, k6_3, k6_4, k6_5, k6_7, k6_8, k7_1, k7_2, k7_3, k7_4, k7_5, k7_6, k7_8, k8_1, k8_2, k8_3, k8_4, k8_5, k8_6, k8_7]
  · simp only [pj_up_ap, if_true, if_false, zz1, zz2, zz3, zz4, zz5, zz6, zz7, zz8, z1, z2, z3, z4, z5, z6, z7, z8, k1_2, k1_3, k1_4, k1_5, k1_6, k1_7, k1_8, k2_1, k2_3, k2_4, k2_5, k2_6, k2_7, k2_8, k3_1, k3_2, k3_4, k3_5, k3_6, k3_7, k3_8, k4_1, k4_2, k4_3, k4_5, k4_6, k4_7, k4_8, k5_1, k5_2, k5_3, k5_4, k5_6, k5_7, k5_8, k6_1, k6_2, k6_3, k6_4, k6_5, k6_7, k6_8, k7_1, k7_2, k7_3, k7_4, k7_5, k7_6, k7_8, k8_1, k8_2, k8_3, k8_4, k8_5, k8_6, k8_7]
  · simp only [pj_up_ap, if_true, if_false, zz1, zz2, zz3, zz4, zz5, zz6, zz7, zz8, z1, z2, z3, z4, z5, z6, z7, z8, k1_2, k1_3, k1_4, k1_5, k1_6, k1_7, k1_8, k2_1, k2_3, k2_4, k2_5, k2_6, k2_7, k2_8, k3_1, k3_2, k3_4, k3_5, k3_6, k3_7, k3_8, k4_1, k4_2, k4_3, k4_5, k4_6, k4_7, k4_8, k5_1, k5_2, k5_3, k5_4, k5_6, k5_7, k5_8, k6_1, k6_2, k6_3, k6_4, k6_5, k6_7, k6_8, k7_1, k7_2, k7_3, k7_4, k7_5, k7_6, k7_8, k8_1, k8_2, k8_3, k8_4, k8_5, k8_6, k8_7]
  · simp only [pj_up_ap, if_true, if_false, zz1, zz2, zz3, zz4, zz5, zz6, zz7, zz8, z1, z2, z3, z4, z5, z6, z7, z8, k1_2, k1_3, k1_4, k1_5, k1_6, k1_7, k1_8, k2_1, k2_3, k2_4, k2_5, k2_6, k2_7, k2_8, k3_1, k3_2, k3_4, k3_5, k3_6, k3_7, k3_8, k4_1, k4_2, k4_3, k4_5, k4_6, k4_7, k4_8, k5_1, k5_2, k5_3, k5_4, k5_6, k5_7, k5_8, k6_1, k6_2, k6_3, k6_4, k6_5, k6_7, k6_8, k7_1, k7_2, k7_3, k7_4, k7_5, k7_6, k7_8, k8_1, k8_2, k8_3, k8_4, k8_5, k8_6, k8_7]
  · simp only [pj_up_ap, if_true, if_false, zz1, zz2, zz3, zz4, zz5, zz6, zz7, zz8, z1, z2, z3, z4, z5, z6, z7, z8, k1_2, k1_3, k1_4, k1_5, k1_6, k1_7, k1_8, k2_1, k2_3, k2_4, k2_5, k2_6, k2_7, k2_8, k3_1, k3_2, k3_4, k3_5, k3_6, k3_7, k3_8, k4_1, k4_2, k4_3, k4_5, k4_6, k4_7, k4_8, k5_1, k5_2, k5_3, k5_4, k5_6, k5_7, k5_8, k6_1, k6_2, k6_3, k6_4, k6_5, k6_7, k6_8, k7_1, k7_2, k7_3, k7_4, k7_5, k7_6, k7_8, k8_1, k8_2, k8_3, k8_4, k8_5, k8_6, k8_7]
  · simp only [pj_up_ap, if_true, if_false, zz1, zz2, zz3, zz4, zz5, zz6, zz7, zz8, z1, z2, z3, z4, z5, z6, z7, z8, k1_2, k1_3, k1_4, k1_5, k1_6, k1_7, k1_8, k2_1, k2_3, k2_4, k2_5, k2_6, k2_7, k2_8, k3_1, k3_2, k3_4, k3_5, k3_6, k3_7, k3_8, k4_1, k4_2, k4_3, k4_5, k4_6, k4_7, k4_8, k5_1, k5_2, k5_3, k5_4, k5_6, k5_7, k5_8, k6_1, k6_2, k6_3, k6_4, k6_5, k6_7, k6_8, k7_1, k7_2, k7_3, k7_4, k7_5, k7_6, k7_8, k8_1, k8_2, k8_3, k8_4, k8_5, k8_6, k8_7]
  · simp only [pj_up_ap, if_true, if_false, zz1, zz2, zz3, zz4, zz5, zz6, zz7, zz8, z1, z2, z3, z4, z5, z6, z7, z8, k1_2, k1_3, k1_4, k1_5, k1_6, k1_7, k1_8, k2_1, k2_3, k2_4, k2_5, k2_6, k2_7, k2_8, k3_1, k3_2, k3_4, k3_5, k3_6, k3_7, k3_8, k4_1, k4_2, k4_3, k4_5, k4_6, k4_7, k4_8, k5_1, k5_2, k5_3, k5_4, k5_6, k5_7, k5_8, k6_1, k6_2, k6_3, k6_4, k6_5, k6_7, k6_8, k7_1, k7_2, k7_3, k7_4, k7_5, k7_6, k7_8, k8_1, k8_2, k8_3, k8_4, k8_5, k8_6, k8_7]
  · intro j hj
    simp only [pj_up_ap]
    repeat rw [if_neg (by omega)]
  · simp (disch := first | assumption | exact pj_long_i | exact pj_long_r | exact pj_long_n | decide) only [x32_0, x32_1, x32_4, x32_5, x32_6, x32_9, x32_10, x32_12, x32_15, x32_16, x32_19, x32_20, x32_21, x32_24, x32_25, x32_26, x32_29, x32_30, x32_33, x32_34, x32_35, x32_38, x32_39, x32_40, x32_43, x32_44, x32_47, x32_48, x32_49, x32_52, x32_53, x32_54, x32_57, x32_58, x32_61, x32_62, x32_63, x32_66, x32_67, x32_68, x32_71, x32_72, x32_75, x32_76, x32_77, x32_80, x32_81, x32_82, x32_85, x32_86, x32_89, x32_90, simprocAttr, pj_then_s, pj_pv_s, pj_pi_s, pj_set_s, if_true, if_false, not_true_eq_false, not_false_eq_true, pj_up_up, pj_so110_109, pj_so111_109, pj_so112_109, pj_so113_109, pj_so114_109, pj_so115_109, pj_so116_109, pj_so117_109, pj_so111_110, pj_so112_110, pj_so113_110, pj_so114_110, pj_so115_110, pj_so116_110, pj_so117_110, pj_so112_111, pj_so113_111, pj_so114_111, pj_so115_111, pj_so116_111, pj_so117_111, pj_so113_112, pj_so114_112, pj_so115_112, pj_so116_112, pj_so117_112, pj_so114_113, pj_so115_113, pj_so116_113, pj_so117_113, pj_so115_114, pj_so116_114, pj_so117_114, pj_so116_115, pj_so117_115, pj_so117_116, pj_up_ap, pj_upd_ap, pj_a3_0, pj_a3_1, pj_a3_2, pj_a3_u0, pj_a3_u1, pj_a3_u2, pj_f4_0, pj_g4_0, pj_g4_1, pj_g4_2, pj_g4_3, pj_g4_4, pj_f4_1, pj_f4_2, pj_f4_3, pj_f4_4, pj_f4_5, pj_f4_6, hu0, hu1, hu2, hu3, hu4, hu5, hu6, hu7, hu8, hv0, hv1, hv2, hv3, hv4, hv5, hv6, hv7, hv8, zz1, zz2, zz3, zz4, zz5, zz6, zz7, zz8, z1, z2, z3, z4, z5, z6, z7, z8, k1_2, k1_3, k1_4, k1_5, k1_6, k1_7, k1_8, k2_1, k2_3, k2_4, k2_5, k2_6, k2_7, k2_8, k3_1, k3_2, k3_4, k3_5, k3_6, k3_7, k3_8, k4_1, k4_2, k4_3, k4_5, k4_6, k4_7, k4_8, k5_1, k5_2, k5_3, k5_4, k5_6, k5_7, k5_8, k6_1, k6_2, k6_3, k6_4, k6_5, k6_7, k6_8, k7_1, k7_2, k7_3, k7_4, k7_5, k7_6, k7_8, k8_1, k8_2, k8_3, k8_4, k8_5, k8_6, k8_7, w0, w1, w2, w3, w4, w5, w6, w7, w8, x1, x2, x3, x4, x5, x6, x7, x8, y1_1, y1_2, y1_3, y1_4, y1_5, y1_6, y1_7, y1_8, y2_1, y2_2, y2_3, y2_4, y2_5, y2_6, y2_7, y2_8, y3_1, y3_2, y3_3, y3_4, y3_5, y3_6, y3_7, y3_8, y4_1, y4_2, y4_3, y4_4, y4_5, y4_6, y4_7, y4_8, y5_1, y5_2, y5_3, y5_4, y5_5, y5_6, y5_7, y5_8, y6_1, y6_2, y6_3, y6_4, y6_5, y6_6, y6_7, y6_8, y7_1, y7_2, y7_3, y7_4, y7_5, y7_6, y7_7, y7_8, y8_1, y8_2, y8_3, y8_4, y8_5, y8_6, y8_7, y8_8, pj_cas_3, pj_cas_6, pj_a3_cpy, pj_a6_cpy]
    refine e32_93 rfl (by simp only [pj_up_ap, if_true, if_false, hu7, zz1, zz2, zz3, zz4, zz5, zz6, zz7, zz8, z1, z2, z3, z4, z5, z6, z7, z8, k1_2, k1_3, k1_4, k1_5, k1_6, k1_7, k1_8, k2_1, k2_3, k2_4, k2_5, k2_6, k2_7, k2_8, k3_1, k3_2, k3_4, k3_5, k3_6, k3_7, k3_8, k4_1, k4_2, k4_3, k4_5, k4_6, k4_7, k4_8, k5_1, k5_2, k5_3, k5_4, k5_6, k5_7, k5_8, k6_1, k6_2, k6_3, k6_4, k6_5, k6_7, k6_8, k7_1, k7_2, k7_3, k7_4, k7_5, k7_6, k7_8, k8_1, k8_2, k8_3, k8_4, k8_5, k8_6, k8_7]; rfl) (c_cbecome (r := u + 7) (a := u + 8) (s := v + 7) (b := v + 8) (n := g 30) (e := g 29) (n' := f 30) (e' := f 29) (g := g) (g' := f) (by simp only [pj_up_ap, if_true, if_false, hu7, zz1, zz2, zz3, zz4, zz5, zz6, zz7, zz8, z1, z2, z3, z4, z5, z6, z7, z8, k1_2, k1_3, k1_4, k1_5, k1_6, k1_7, k1_8, k2_1, k2_3, k2_4, k2_5, k2_6, k2_7, k2_8, k3_1, k3_2, k3_4, k3_5, k3_6, k3_7, k3_8, k4_1, k4_2, k4_3, k4_5, k4_6, k4_7, k4_8, k5_1, k5_2, k5_3, k5_4, k5_6, k5_7, k5_8, k6_1, k6_2, k6_3, k6_4, k6_5, k6_7, k6_8, k7_1, k7_2, k7_3, k7_4, k7_5, k7_6, k7_8, k8_1, k8_2, k8_3, k8_4, k8_5, k8_6, k8_7]) (by simp only [pj_up_ap, if_true, if_false, hu8, zz1, zz2, zz3, zz4, zz5, zz6, zz7, zz8, z1, z2, z3, z4, z5, z6, z7, z8, k1_2, k1_3, k1_4, k1_5, k1_6, k1_7, k1_8, k2_1, k2_3, k2_4, k2_5, k2_6, k2_7, k2_8, k3_1, k3_2, k3_4, k3_5, k3_6, k3_7, k3_8, k4_1, k4_2, k4_3, k4_5, k4_6, k4_7, k4_8, k5_1, k5_2, k5_3, k5_4, k5_6, k5_7, k5_8, k6_1, k6_2, k6_3, k6_4, k6_5, k6_7, k6_8, k7_1, k7_2, k7_3, k7_4, k7_5, k7_6, k7_8, k8_1, k8_2, k8_3, k8_4, k8_5, k8_6, k8_7]) (by simp only [pj_up_ap, if_true, if_false, hv7, zz1, zz2, zz3, zz4, zz5, zz6, zz7, zz8, z1, z2, z3, z4, z5, z6, z7, z8, k1_2, k1_3, k1_4, k1_5, k1_6, k1_7, k1_8, k2_1, k2_3, k2_4, k2_5, k2_6, k2_7, k2_8, k3_1, k3_2, k3_4, k3_5, k3_6, k3_7, k3_8, k4_1, k4_2, k4_3, k4_5, k4_6, k4_7, k4_8, k5_1, k5_2, k5_3, k5_4, k5_6, k5_7, k5_8, k6_1, k6_2, k6_3, k6_4, k6_5, k6_7, k6_8, k7_1, k7_2, k7_3, k7_4, k7_5, k7_6, k7_8, k8_1, k8_2, k8_3, k8_4, k8_5, k8_6, k8_7, w0, w1, w2, w3, w4, w5, w6, w7, w8, x1, x2, x3, x4, x5, x6, x7, x8, y1_1, y1_2, y1_3, y1_4, y1_5, y1_6, y1_7, y1_8, y2_1, y2_2, y2_3, y2_4, y2_5, y2_6, y2_7, y2_8, y3_1, y3_2, y3_3, y3_4, y3_5, y3_6, y3_7, y3_8, y4_1, y4_2, y4_3, y4_4, y4_5, y4_6, y4_7, y4_8, y5_1, y5_2, y5_3, y5_4, y5_5, y5_6, y5_7, y5_8, y6_1, y6_2, y6_3, y6_4, y6_5, y6_6, y6_7, y6_8, y7_1, y7_2, y7_3, y7_4, y7_5, y7_6, y7_7, y7_8, y8_1, y8_2, y8_3, y8_4, y8_5, y8_6, y8_7, y8_8]) (by simp only [pj_up_ap, if_true, if_false, hv8, zz1, zz2, zz3, zz4, zz5, zz6, zz7, zz8, z1, z2, z3, z4, z5, z6, z7, z8, k1_2, k1_3, k1_4, k1_5, k1_6, k1_7, k1_8, k2_1, k2_3, k2_4, k2_5, k2_6, k2_7, k2_8, k3_1, k3_2, k3_4, k3_5, k3_6, k3_7, k3_8, k4_1, k4_2, k4_3, k4_5, k4_6, k4_7, k4_8, k5_1, k5_2, k5_3, k5_4, k5_6, k5_7, k5_8, k6_1, k6_2, k6_3, k6_4, k6_5, k6_7, k6_8, k7_1, k7_2, k7_3, k7_4, k7_5, k7_6, k7_8, k8_1, k8_2, k8_3, k8_4, k8_5, k8_6, k8_7, w0, w1, w2, w3, w4, w5, w6, w7, w8, x1, x2, x3, x4, x5, x6, x7, x8, y1_1, y1_2, y1_3, y1_4, y1_5, y1_6, y1_7, y1_8, y2_1, y2_2, y2_3, y2_4, y2_5, y2_6, y2_7, y2_8, y3_1, y3_2, y3_3, y3_4, y3_5, y3_6, y3_7, y3_8, y4_1, y4_2, y4_3, y4_4, y4_5, y4_6, y4_7, y4_8, y5_1, y5_2, y5_3, y5_4, y5_5, y5_6, y5_7, y5_8, y6_1, y6_2, y6_3, y6_4, y6_5, y6_6, y6_7, y6_8, y7_1, y7_2, y7_3, y7_4, y7_5, y7_6, y7_7, y7_8, y8_1, y8_2, y8_3, y8_4, y8_5, y8_6, y8_7, y8_8]) y7_8 (eq_false (by omega)) y7_7) ?_
    simp (disch := first | assumption | exact pj_long_i | exact pj_long_r | exact pj_long_n | decide) only [x32_96, x32_97, x32_98, x32_101, x32_104, x32_105, x32_106, x32_109, x32_112, x32_113, x32_114, x32_117, x32_120, x32_121, x32_122, x32_125, simprocAttr, pj_then_s, pj_pv_s, pj_pi_s, pj_set_s, if_true, if_false, not_true_eq_false, not_false_eq_true, pj_up_up, pj_so110_109, pj_so111_109, pj_so112_109, pj_so113_109, pj_so114_109, pj_so115_109, pj_so116_109, pj_so117_109, pj_so111_110, pj_so112_110, pj_so113_110, pj_so114_110, pj_so115_110, pj_so116_110, pj_so117_110, pj_so112_111, pj_so113_111, pj_so114_111, pj_so115_111, pj_so116_111, pj_so117_111, pj_so113_112, pj_so114_112, pj_so115_112, pj_so116_112, pj_so117_112, pj_so114_113, pj_so115_113, pj_so116_113, pj_so117_113, pj_so115_114, pj_so116_114, pj_so117_114, pj_so116_115, pj_so117_115, pj_so117_116, pj_up_ap, pj_upd_ap, pj_a3_0, pj_a3_1, pj_a3_2, pj_a3_u0, pj_a3_u1, pj_a3_u2, pj_f4_7, pj_s4_7, pj_f4_8, pj_s4_8, pj_f4_9, pj_s4_9, pj_f4_10, pj_s4_10, hu0, hv0, zz1, zz2, zz3, zz4, zz5, zz6, zz7, zz8, z1, z2, z3, z4, z5, z6, z7, z8, k1_2, k1_3, k1_4, k1_5, k1_6, k1_7, k1_8, k2_1, k2_3, k2_4, k2_5, k2_6, k2_7, k2_8, k3_1, k3_2, k3_4, k3_5, k3_6, k3_7, k3_8, k4_1, k4_2, k4_3, k4_5, k4_6, k4_7, k4_8, k5_1, k5_2, k5_3, k5_4, k5_6, k5_7, k5_8, k6_1, k6_2, k6_3, k6_4, k6_5, k6_7, k6_8, k7_1, k7_2, k7_3, k7_4, k7_5, k7_6, k7_8, k8_1, k8_2, k8_3, k8_4, k8_5, k8_6, k8_7, w0, w1, w2, w3, w4, w5, w6, w7, w8, x1, x2, x3, x4, x5, x6, x7, x8, y1_1, y1_2, y1_3, y1_4, y1_5, y1_6, y1_7, y1_8, y2_1, y2_2, y2_3, y2_4, y2_5, y2_6, y2_7, y2_8, y3_1, y3_2, y3_3, y3_4, y3_5, y3_6, y3_7, y3_8, y4_1, y4_2, y4_3, y4_4, y4_5, y4_6, y4_7, y4_8, y5_1, y5_2, y5_3, y5_4, y5_5, y5_6, y5_7, y5_8, y6_1, y6_2, y6_3, y6_4, y6_5, y6_6, y6_7, y6_8, y7_1, y7_2, y7_3, y7_4, y7_5, y7_6, y7_7, y7_8, y8_1, y8_2, y8_3, y8_4, y8_5, y8_6, y8_7, y8_8, pj_uc]
    exact t32_128

