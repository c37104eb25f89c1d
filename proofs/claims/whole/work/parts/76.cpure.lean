/-! THE CLASS'S READER IS THE REFERENCE'S: numbers -/
def rd_run (p : Nat → Int32) : Nat → Nat → rd_S → Option rd_S
  | 0, _, q => some q
  | n + 1, i, q => (rd_acc q (p i)).bind (rd_run p n (i + 1))
theorem rd_run_add (p : Nat → Int32) : ∀ (n m i : Nat) (q q1 q2 : rd_S), rd_run p n i q = some q1 → rd_run p m (i + n) q1 = some q2 → rd_run p (n + m) i q = some q2
  | 0, m, i, q, q1, q2, h1, h2 => by
    have e : q = q1 := Option.some.inj h1
    subst e
    rw [Nat.zero_add]
    exact h2
  | n + 1, m, i, q, q1, q2, h1, h2 => by
    have e : n + 1 + m = (n + m) + 1 := by omega
    rw [e]
    unfold rd_run at h1 ⊢
    cases h : rd_acc q (p i) with
    | none =>
      rw [h] at h1
      cases h1
    | some q' =>
      rw [h] at h1
      exact rd_run_add p n m (i + 1) q' q1 q2 h1 (by rw [show i + 1 + n = i + (n + 1) from by omega]; exact h2)
theorem rd_run_1 {p : Nat → Int32} {i : Nat} {q q1 : rd_S} (h : rd_acc q (p i) = some q1) : rd_run p 1 i q = some q1 := by
  unfold rd_run
  rw [h]
  rfl
def rd_sg (ng x : Int32) : Int32 := if ng = 0 then x else -x
theorem rd_ch {c : Int32} (h : 48 ≤ c ∧ c ≤ 57) : ∃ j, j ≤ 9 ∧ c - 48 = nI j := by
  have e0 : (48 : Int32).toInt = 48 := rfl
  have e1 : (57 : Int32).toInt = 57 := rfl
  rw [Int32.le_iff_toInt_le, Int32.le_iff_toInt_le, e0, e1] at h
  have es : (c - 48).toInt = c.toInt - 48 := by
    rw [Int32.toInt_sub, e0]
    apply Int.bmod_eq_of_le <;> omega
  refine ⟨(c.toInt - 48).toNat, by omega, ?_⟩
  apply Int32.toInt_inj.mp
  rw [es, nI_toInt (by omega)]
  omega
theorem rd_dig_L {d j : Nat} {c : Int32} (h : c - 48 = nI j) : 10 * nI d + c - 48 = nI (10 * d + j) ∧ nI d * 10 + (c - 48) = nI (10 * d + j) := by
  have e1 : (10 : Int32) * nI d = nI (10 * d) := pk_mul 10 d
  have e2 : nI d * (10 : Int32) = nI (10 * d) := (pk_mul d 10).trans (by rw [Nat.mul_comm])
  refine ⟨?_, ?_⟩
  · rw [e1, Int32.sub_eq_add_neg, Int32.add_assoc, ← Int32.sub_eq_add_neg, h, nI_add]
  · rw [e2, h, nI_add]
theorem rd_dig_eq {ic tk ng dg d : Int32} {k : Nat} {R : Nat → Int32} : rd_dig (ic, tk, k, ng, dg, R) d = (if ¬ ic = 0 then none else if dg = 0 then none else if 500 < (if dg = -1 then d else dg * 10 + d) then none else some (ic, tk, k, ng, (if dg = -1 then d else dg * 10 + d), upd R k (if ng = 0 then (if dg = -1 then d else dg * 10 + d) else -(if dg = -1 then d else dg * 10 + d)))) := rfl
theorem rd_acc_eq {ic tk ng dg ch : Int32} {k : Nat} {R : Nat → Int32} : rd_acc (ic, tk, k, ng, dg, R) ch = (if 48 ≤ ch ∧ ch ≤ 57 then rd_dig (ic, tk, k, ng, dg, R) (ch - 48) else if ch = 44 then (if dg = -1 then none else if k = 2 then none else some (ic, tk, k + 1, 0, -1, R)) else if ch = 45 then (if ng = 0 then (if dg = -1 then some (ic, tk, k, 1, dg, R) else none) else none) else if ch = 59 then (if k = 2 then (if dg = -1 then none else some (0, tk + 1, 0, 0, -1, R)) else none) else if ch = 99 then (if k = 2 then (if dg = -1 then none else if ic = 0 then some (1, tk, k, ng, dg, R) else none) else none) else none) := rfl
theorem rd_dig_0 {tk ng d : Int32} {k : Nat} {R : Nat → Int32} : rd_dig (0, tk, k, ng, 0, R) d = none := by
  rw [rd_dig_eq, if_neg (fun w => w rfl), if_pos rfl]
section PR
variable {p : Nat → Int32} {l : Nat} {tk : Int32} {k : Nat} {R : Nat → Int32}
theorem ps_h_no {s : Nat} {a b : Int32} (h : ps_h p l s a b = 0) (hs : s < l) : ¬ (a ≤ p s ∧ p s ≤ b) := by
  unfold ps_h at h
  rw [if_pos hs] at h
  intro q
  rw [if_pos q] at h
  exact absurd h (by decide)
theorem ps_h_yes {s : Nat} {a b : Int32} (h : ¬ ps_h p l s a b = 0) : s < l ∧ a ≤ p s ∧ p s ≤ b := by
  have h1 := ps_h_lt h
  refine ⟨h1, ?_⟩
  unfold ps_h at h
  rw [if_pos h1] at h
  by_cases q : a ≤ p s ∧ p s ≤ b
  · exact q
  · rw [if_neg q] at h
    exact absurd rfl h
theorem i32_eq_of {a b : Int32} (h1 : a ≤ b) (h2 : b ≤ a) : a = b := Int32.le_antisymm h1 h2
theorem nI_nm1 {d : Nat} (h : d ≤ 500) : ¬ nI d = -1 := by
  intro w
  have : (nI d).toInt = (-1 : Int32).toInt := congrArg _ w
  rw [nI_toInt (by omega)] at this
  have e6 : (-1 : Int32).toInt = -1 := rfl
  omega
/-- a digit behind a number -/
theorem rd_dig_n {ng : Int32} {d j : Nat} {c : Int32} {R' : Nat → Int32} (hd : d ≤ 500) (hd0 : ¬ d = 0) (hj : j ≤ 9) (h : c - 48 = nI j) : rd_dig (0, tk, k, ng, nI d, R') (c - 48) = if 500 < 10 * d + j then none else some (0, tk, k, ng, nI (10 * d + j), upd R' k (rd_sg ng (nI (10 * d + j)))) := by
  unfold rd_sg
  have n1 := nI_nm1 hd
  have n0 : ¬ nI d = 0 := nI_ne0 (by omega) (by omega)
  have eL := (rd_dig_L (d := d) h).2
  rw [rd_dig_eq, if_neg (fun w => w rfl), if_neg n0, if_neg n1, eL]
  by_cases c5 : 500 < 10 * d + j
  · rw [if_pos c5, if_pos (show (500 : Int32) < nI (10 * d + j) from (nI_ltI (a := 500) (by decide) (by omega)).mpr c5)]
  · rw [if_neg c5, if_neg (show ¬ (500 : Int32) < nI (10 * d + j) from fun w => c5 ((nI_ltI (a := 500) (by decide) (by omega)).mp w))]
theorem rd_digits {ng : Int32} : ∀ (m d s : Nat), d ≤ 500 → (d = 0 ∨ 500 < d * 10 ^ m) → s ≤ l → ∃ n d', d' ≤ 500 ∧ ps_d p l m (nI d) s = (nI d', s + n) ∧ s + n ≤ l ∧ rd_run p n s (0, tk, k, ng, nI d, upd R k (rd_sg ng (nI d))) = some (0, tk, k, ng, nI d', upd R k (rd_sg ng (nI d'))) ∧ (∀ j, s ≤ j → j < s + n → ¬ p j = 59) ∧ (s + n < l → 48 ≤ p (s + n) ∧ p (s + n) ≤ 57 → ∀ R', rd_dig (0, tk, k, ng, nI d', R') (p (s + n) - 48) = none)
  | 0, d, s, hd, hm, hs => by
    have hd0 : d = 0 := by
      rcases hm with q | q
      · exact q
      · rw [Nat.pow_zero, Nat.mul_one] at q
        omega
    subst hd0
    refine ⟨0, 0, hd, rfl, hs, rfl, fun j h1 h2 => by omega, fun _ _ R' => ?_⟩
    exact rd_dig_0
  | m + 1, d, s, hd, hm, hs => by
    unfold ps_d
    by_cases c1 : nI d ≤ 0
    · have hd0 : d = 0 := by
        by_cases q : d = 0
        · exact q
        · exact absurd c1 (nI_nle (by omega) (by omega))
      rw [if_pos c1]
      subst hd0
      refine ⟨0, 0, hd, rfl, hs, rfl, fun j h1 h2 => by omega, fun _ _ R' => ?_⟩
      exact rd_dig_0
    · rw [if_neg c1]
      have hd0 : ¬ d = 0 := fun q => c1 (by rw [q]; decide)
      by_cases c2 : ps_h p l s 48 57 = 0
      · rw [if_pos c2]
        refine ⟨0, d, hd, rfl, hs, rfl, fun j h1 h2 => by omega, fun h1 h2 => absurd h2 (ps_h_no c2 h1)⟩
      · rw [if_neg c2]
        obtain ⟨hsl, hch⟩ := ps_h_yes c2
        obtain ⟨j, hj, ej⟩ := rd_ch hch
        rw [(rd_dig_L (d := d) ej).1]
        by_cases c3 : nI (10 * d + j) ≤ 500
        · rw [if_pos c3]
          have c4 : 10 * d + j ≤ 500 := (nI_leI (b := 500) (by omega) (by decide)).mp c3
          have hm1 : 10 * d + j = 0 ∨ 500 < (10 * d + j) * 10 ^ m := by
            refine Or.inr ?_
            rcases hm with q | q
            · exact absurd q hd0
            · have e : d * 10 ^ (m + 1) = 10 * d * 10 ^ m := by
                rw [Nat.pow_succ, Nat.mul_comm (10 ^ m) 10, ← Nat.mul_assoc, Nat.mul_comm d 10]
              rw [e] at q
              exact Nat.lt_of_lt_of_le q (Nat.mul_le_mul_right _ (by omega))
          obtain ⟨n, d', g1, g2, g3, g4, g5, g6⟩ := rd_digits m (10 * d + j) (s + 1) c4 hm1 (by omega)
          have ea : s + 1 + n = s + (n + 1) := by omega
          rw [ea] at g2 g3 g5 g6
          refine ⟨n + 1, d', g1, g2, g3, ?_, ?_, g6⟩
          · unfold rd_run
            have er : rd_acc (0, tk, k, ng, nI d, upd R k (rd_sg ng (nI d))) (p s) = some (0, tk, k, ng, nI (10 * d + j), upd R k (rd_sg ng (nI (10 * d + j)))) := by
              rw [rd_acc_eq, if_pos hch, rd_dig_n hd hd0 hj ej, if_neg (by omega), pj_upd_upd]
            rw [er]
            exact g4
          · intro i h1 h2
            by_cases q : i = s
            · rw [q]
              intro w
              rw [w] at hch
              exact absurd hch (by decide)
            · exact g5 i (by omega) h2
        · rw [if_neg c3]
          refine ⟨0, d, hd, rfl, hs, rfl, fun j h1 h2 => by omega, fun h1 h2 R' => ?_⟩
          rw [Nat.add_zero, rd_dig_n hd hd0 hj ej, if_pos]
          exact Nat.lt_of_not_le (fun w => c3 ((nI_leI (a := 10 * d + j) (b := 500) (by omega) (by decide)).mpr w))
/-- a state with no digit yet refuses all but a digit and the first minus -/
theorem rd_acc_A {ng c : Int32} (h1 : ¬ (48 ≤ c ∧ c ≤ 57)) (h2 : ng = 0 → ¬ c = 45) : rd_acc (0, tk, k, ng, -1, R) c = none := by
  rw [rd_acc_eq]
  rw [if_neg h1]
  by_cases c1 : c = 44
  · rw [if_pos c1, if_pos rfl]
  rw [if_neg c1]
  by_cases c2 : c = 45
  · rw [if_pos c2]
    by_cases c3 : ng = 0
    · exact absurd c2 (h2 c3)
    · rw [if_neg c3]
  rw [if_neg c2, if_pos rfl, if_pos rfl]
  simp only [ite_self]
/-- a state with a digit refuses all but a digit and what may stand behind a number -/
theorem rd_acc_D {ic ng dg c : Int32} (hdg : ¬ dg = -1) (h1 : 48 ≤ c ∧ c ≤ 57 → rd_dig (ic, tk, k, ng, dg, R) (c - 48) = none) (h2 : c = 44 → k = 2) (h3 : c = 59 → ¬ k = 2) (h4 : c = 99 → ¬ k = 2 ∨ ¬ ic = 0) : rd_acc (ic, tk, k, ng, dg, R) c = none := by
  rw [rd_acc_eq]
  by_cases c0 : 48 ≤ c ∧ c ≤ 57
  · rw [if_pos c0]
    exact h1 c0
  rw [if_neg c0]
  by_cases c1 : c = 44
  · rw [if_pos c1, if_neg hdg, if_pos (h2 c1)]
  rw [if_neg c1]
  by_cases c2 : c = 45
  · rw [if_pos c2, if_neg hdg, ite_self]
  rw [if_neg c2]
  by_cases c3 : c = 59
  · rw [if_pos c3, if_neg (h3 c3)]
  rw [if_neg c3]
  by_cases c4 : c = 99
  · rw [if_pos c4]
    by_cases c5 : k = 2
    · rw [if_pos c5, if_neg hdg]
      rcases h4 c4 with q | q
      · exact absurd c5 q
      · rw [if_neg q]
    · rw [if_neg c5]
  rw [if_neg c4]
end PR
