/-! THE REFERENCE'S COPIES -/
theorem pj_in_nI {j n : Nat} (h : j < n) (hn : n < 2 ^ 31) : pj_in (nI j) n = true := by
  have h1 := vp_in_nI h hn
  unfold vp_in at h1
  unfold pj_in
  simp only [Bool.not_eq_true', Bool.or_eq_false_iff, decide_eq_false_iff_not]
  exact ⟨fun q => h1 (Or.inl q), fun q => h1 (Or.inr q)⟩
theorem pj_up_id {H : pj_Heap} {a : Nat} {c : pj_Cell} (h : H a = c) : pj_up H a c = H := by
  funext j
  unfold pj_up
  split
  · rename_i e; rw [e, h]
  · rfl
section MC
variable {N S : Nat} {o : Option Value × pj_Mem} {hl mid lo hi fi pl sp nu ic td : Int32} {f g : Nat → Int32}
end MC
