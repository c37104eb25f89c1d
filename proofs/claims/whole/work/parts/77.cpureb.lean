/-! THE CLASS'S READER IS THE REFERENCE'S: a tick -/
section PS
variable {p : Nat → Int32} {l : Nat} {tk : Int32} {k : Nat} {R : Nat → Int32}
/-- from where a digit may stand: it stands there -/
theorem rd_num2 {ng : Int32} {s : Nat} (h : ¬ ps_h p l s 48 57 = 0) : ∃ n d', d' ≤ 500 ∧ ps_d p l 80 (p s - 48) (s + 1) = (nI d', s + n) ∧ s + n ≤ l ∧ rd_run p n s (0, tk, k, ng, -1, R) = some (0, tk, k, ng, nI d', upd R k (rd_sg ng (nI d'))) ∧ (∀ j, s ≤ j → j < s + n → ¬ p j = 59) ∧ (s + n < l → 48 ≤ p (s + n) ∧ p (s + n) ≤ 57 → ∀ R', rd_dig (0, tk, k, ng, nI d', R') (p (s + n) - 48) = none) := by
  obtain ⟨hsl, hch⟩ := ps_h_yes h
  obtain ⟨j, hj, ej⟩ := rd_ch hch
  have hm : j = 0 ∨ 500 < j * 10 ^ 80 := by
    by_cases q : j = 0
    · exact Or.inl q
    · exact Or.inr (Nat.lt_of_lt_of_le (by decide : 500 < 10 ^ 80) (Nat.le_mul_of_pos_left _ (by omega)))
  obtain ⟨n, d', g1, g2, g3, g4, g5, g6⟩ := rd_digits (p := p) (l := l) (tk := tk) (k := k) (R := R) (ng := ng) 80 j (s + 1) (by omega) hm (by omega)
  have ea : s + 1 + n = s + (n + 1) := by omega
  rw [ea] at g2 g3 g5 g6
  refine ⟨n + 1, d', g1, by rw [ej]; exact g2, g3, ?_, ?_, g6⟩
  · unfold rd_run
    have er : rd_acc (0, tk, k, ng, -1, R) (p s) = some (0, tk, k, ng, nI j, upd R k (rd_sg ng (nI j))) := by
      rw [rd_acc_eq, if_pos hch, rd_dig_eq, if_neg (fun w => w rfl), if_neg (by decide), if_pos rfl, ej, if_neg]
      · rfl
      · intro w
        have := (nI_ltI (a := 500) (by decide) (by omega)).mp w
        omega
    rw [er]
    exact g4
  · intro i h1 h2
    by_cases q : i = s
    · rw [q]
      intro w
      rw [w] at hch
      exact absurd hch (by decide)
    · exact g5 i (by omega) h2
/-- a number from its start -/
def rd_NUM (p : Nat → Int32) (l : Nat) (tk : Int32) (k : Nat) (R : Nat → Int32) (s : Nat) (r : Int32 × Nat × Int32) : Prop :=
  ∃ n, r.2.1 = s + n ∧ s + n ≤ l ∧ (∀ j, s ≤ j → j < s + n → ¬ p j = 59) ∧
    ((r.1 = 0 ∧ ∃ ng, rd_run p n s (0, tk, k, 0, -1, R) = some (0, tk, k, ng, -1, R) ∧ (s + n < l → rd_acc (0, tk, k, ng, -1, R) (p (s + n)) = none)) ∨
     (r.1 = 1 ∧ ∃ ng d', d' ≤ 500 ∧ r.2.2 = rd_sg ng (nI d') ∧ rd_run p n s (0, tk, k, 0, -1, R) = some (0, tk, k, ng, nI d', upd R k r.2.2) ∧ (s + n < l → 48 ≤ p (s + n) ∧ p (s + n) ≤ 57 → ∀ R', rd_dig (0, tk, k, ng, nI d', R') (p (s + n) - 48) = none)))
theorem rd_num {s : Nat} (hs : s ≤ l) : rd_NUM p l tk k R s (ps_num p l s) := by
  by_cases c1 : ps_t p l s 45 = 0
  · by_cases c2 : ps_h p l s 48 57 = 0
    · have e : ps_num p l s = (0, s, 0) := by
        unfold ps_num ps_n
        simp only [if_pos c1, if_pos c2]
      rw [e]
      refine ⟨0, rfl, hs, fun j h1 h2 => by omega, Or.inl ⟨rfl, 0, rfl, fun h => rd_acc_A (ps_h_no c2 h) (fun _ w => ?_)⟩⟩
      have := ps_h_no c1 h
      rw [Nat.add_zero] at w
      rw [w] at this
      exact this ⟨by decide, by decide⟩
    · obtain ⟨n, d', g1, g2, g3, g4, g5, g6⟩ := rd_num2 (p := p) (l := l) (tk := tk) (k := k) (R := R) (ng := 0) c2
      have e : ps_num p l s = (1, s + n, nI d') := by
        unfold ps_num ps_n
        simp only [if_pos c1, if_neg c2]
        rw [g2]
      rw [e]
      exact ⟨n, rfl, g3, g5, Or.inr ⟨rfl, 0, d', g1, rfl, g4, g6⟩⟩
  · obtain ⟨hsl, hc1, hc2⟩ := ps_h_yes c1
    have hc : p s = 45 := Int32.le_antisymm hc2 hc1
    have er : rd_run p 1 s (0, tk, k, 0, -1, R) = some (0, tk, k, 1, -1, R) := by
      apply rd_run_1
      rw [hc, rd_acc_eq, if_neg (by decide), if_neg (by decide), if_pos rfl, if_pos rfl, if_pos rfl]
    by_cases c2 : ps_h p l (s + 1) 48 57 = 0
    · have e : ps_num p l s = (0, s + 1, 0) := by
        unfold ps_num ps_n
        simp only [if_neg c1, if_pos c2]
      rw [e]
      refine ⟨1, rfl, by omega, fun j h1 h2 => ?_, Or.inl ⟨rfl, 1, er, fun h => rd_acc_A (ps_h_no c2 h) (fun w => absurd w (by decide))⟩⟩
      have : j = s := by omega
      rw [this, hc]
      decide
    · obtain ⟨n, d', g1, g2, g3, g4, g5, g6⟩ := rd_num2 (p := p) (l := l) (tk := tk) (k := k) (R := R) (ng := 1) c2
      have e : ps_num p l s = (1, s + 1 + n, -(nI d')) := by
        unfold ps_num ps_n
        simp only [if_neg c1, if_neg c2]
        rw [g2]
      rw [e]
      have ea : s + 1 + n = s + (1 + n) := by omega
      rw [ea] at g3 g5 g6
      refine ⟨1 + n, ea, g3, fun j h1 h2 => ?_, Or.inr ⟨rfl, 1, d', g1, rfl, rd_run_add p 1 n s _ _ _ er g4, g6⟩⟩
      by_cases q : j = s
      · rw [q, hc]
        decide
      · exact g5 j (by omega) h2
end PS
