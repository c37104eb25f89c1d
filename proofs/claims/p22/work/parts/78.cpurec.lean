/-! THE CLASS'S READER IS THE REFERENCE'S: a whole tick -/
/-- a way of the reader, on which no tick ends -/
def rd_SG (p : Nat → Int32) (s : Nat) (q : rd_S) (s' : Nat) (q' : rd_S) : Prop := ∃ n, s' = s + n ∧ rd_run p n s q = some q' ∧ ∀ j, s ≤ j → j < s' → ¬ p j = 59
theorem rd_SG.trans {p : Nat → Int32} {s s1 s2 : Nat} {q q1 q2 : rd_S} (h1 : rd_SG p s q s1 q1) (h2 : rd_SG p s1 q1 s2 q2) : rd_SG p s q s2 q2 := by
  obtain ⟨n, rfl, a1, b1⟩ := h1
  obtain ⟨m, rfl, a2, b2⟩ := h2
  refine ⟨n + m, by omega, rd_run_add p n m s q q1 q2 a1 a2, fun j h1 h2 => ?_⟩
  by_cases c : j < s + n
  · exact b1 j h1 c
  · exact b2 j (by omega) h2
section PT
variable {p : Nat → Int32} {l : Nat} {tk : Int32}
end PT
