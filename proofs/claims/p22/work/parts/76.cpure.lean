/-! THE CLASS'S READER IS THE REFERENCE'S: numbers -/
def rd_run (p : Nat → Int32) : Nat → Nat → rd_S → Option rd_S
  | 0, _, q => some q
  | n + 1, i, q => (rd_acc q (p i)).bind (rd_run p n (i + 1))
theorem rd_run_add (p : Nat → Int32) : ∀ (n m i : Nat) (q q1 q2 : rd_S), rd_run p n i q = some q1 → rd_run p m (i + n) q1 = some q2 → rd_run p (n + m) i q = some q2
  | 0, m, i, q, q1, q2, h1, h2 => by
    have e : q = q1 := Option.some.inj h1
    subst e
    rw [Nat.zero_add]
    exact h2
  | n + 1, m, i, q, q1, q2, h1, h2 => by
    have e : n + 1 + m = (n + m) + 1 := by omega
    rw [e]
    unfold rd_run at h1 ⊢
    cases h : rd_acc q (p i) with
    | none =>
      rw [h] at h1
      cases h1
    | some q' =>
      rw [h] at h1
      exact rd_run_add p n m (i + 1) q' q1 q2 h1 (by rw [show i + 1 + n = i + (n + 1) from by omega]; exact h2)
section PR
variable {p : Nat → Int32} {l : Nat} {tk : Int32} {k : Nat} {R : Nat → Int32}
end PR
