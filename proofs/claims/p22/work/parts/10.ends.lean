/-! THE PURE MACHINE'S RUNS: they end, and how; from here on nothing speaks of the machine. -/
theorem pj_exec_mono : ∀ (n k : Nat) (g : pj_Cfg) (o : Option Value × pj_Mem), pj_exec n k g = some o → ∀ m, n ≤ m → pj_exec m k g = some o
  | 0, _, _, _, h, _, _ => by cases h
  | n + 1, k, (pc, L, st, M), o, h, m, hm => by
    obtain ⟨m', rfl⟩ : ∃ m', m = m' + 1 := ⟨m - 1, by omega⟩
    have hm' : n ≤ m' := by omega
    unfold pj_exec at h ⊢
    split at h
    · cases h
    · rename_i r hr
      try rw [hr]
      try simp only
      split at h
      · rename_i v hv
        try rw [hv]
        exact h
      · rename_i hv
        try rw [hv]
        try simp only
        split at h
        · rename_i k' as rest hc
          try rw [hc]
          try simp only
          split at h
          · cases h
          · rename_i L0 hL
            try rw [hL]
            try simp only
            split at h
            · cases h
            · rename_i v1 M1 he
              rw [pj_exec_mono n _ _ _ he m' hm']
              exact pj_exec_mono n _ _ _ h m' hm'
        · rename_i hc
          try rw [hc]
          try simp only
          split at h
          · cases h
          · rename_i g hg
            try rw [hg]
            exact pj_exec_mono n _ _ _ h m' hm'
def pj_Ends (k : Nat) (g : pj_Cfg) (o : Option Value × pj_Mem) : Prop := ∃ n, pj_exec n k g = some o
/-- one row, that is neither a call nor a return -/
def pj_stp (k : Nat) (r : pj_Row) (pc : Nat) (L : pj_Loc) (st : List Value) (M : pj_Mem) : Option pj_Cfg := match pj_rtn k r.1 st with
  | some _ => none
  | none => match pj_cl r st M.2.2 with
    | some _ => none
    | none => pj_op r pc L st M
def pj_step (k : Nat) (g : pj_Cfg) : Option pj_Cfg := match pj_row k g.1 with
  | none => none
  | some r => pj_stp k r g.1 g.2.1 g.2.2.1 g.2.2.2
theorem pj_step_of {k pc : Nat} {r : pj_Row} (h : pj_row k pc = some r) (L : pj_Loc) (st : List Value) (M : pj_Mem) : pj_step k (pc, L, st, M) = pj_stp k r pc L st M := by
  unfold pj_step
  simp only [h]
theorem pj_Ends.step {k : Nat} {g g' : pj_Cfg} {o : Option Value × pj_Mem} (hs : pj_step k g = some g') (h : pj_Ends k g' o) : pj_Ends k g o := by
  obtain ⟨n, hn⟩ := h
  obtain ⟨pc, L, st, M⟩ := g
  refine ⟨n + 1, ?_⟩
  unfold pj_step at hs
  unfold pj_exec
  split at hs
  · cases hs
  · rename_i r hr
    simp only at hr
    rw [hr]
    simp only
    unfold pj_stp at hs
    split at hs
    · cases hs
    · rename_i hv
      simp only at hv
      rw [hv]
      simp only
      split at hs
      · cases hs
      · rename_i hc
        simp only at hc
        rw [hc]
        simp only
        simp only at hs
        rw [hs]
        exact hn
/-- so many steps -/
def pj_steps : Nat → Nat → pj_Cfg → Option pj_Cfg
  | 0, _, g => some g
  | n + 1, k, g => match pj_step k g with
    | none => none
    | some g' => pj_steps n k g'
theorem pj_steps_some {n k : Nat} {g g' : pj_Cfg} (h : pj_step k g = some g') : pj_steps (n + 1) k g = pj_steps n k g' := by
  show (match pj_step k g with | none => none | some g' => pj_steps n k g') = _
  rw [h]
def pj_then (k : Nat) (o : Option Value × pj_Mem) : Option pj_Cfg → Prop
  | none => False
  | some g => pj_Ends k g o
theorem pj_gos (n : Nat) {k : Nat} {g : pj_Cfg} {o : Option Value × pj_Mem} (h : pj_then k o (pj_steps n k g)) : pj_Ends k g o := by
  induction n generalizing g with
  | zero => exact h
  | succ n ih =>
    unfold pj_steps at h
    split at h
    · exact h.elim
    · rename_i g' hg
      exact pj_Ends.step hg (ih h)
theorem pj_Ends.ret {k pc : Nat} {r : pj_Row} {L : pj_Loc} {st : List Value} {M : pj_Mem} {v : Option Value} (hr : pj_row k pc = some r) (h : pj_rtn k r.1 st = some v) : pj_Ends k (pc, L, st, M) (v, M) := by
  refine ⟨1, ?_⟩
  unfold pj_exec
  rw [hr]
  simp only
  rw [h]
theorem pj_Ends.call {k pc k' : Nat} {r : pj_Row} {L L0 : pj_Loc} {st as rest : List Value} {M M' : pj_Mem} {v : Option Value} {o : Option Value × pj_Mem} (hr : pj_row k pc = some r) (hv : pj_rtn k r.1 st = none) (hc : pj_cl r st M.2.2 = some (k', as, rest)) (he : pj_ent k' as = some L0) (h1 : pj_Ends k' (0, L0, [], M) (v, M')) (h2 : pj_Ends k (pc + r.2.1, L, v.toList ++ rest, M') o) : pj_Ends k (pc, L, st, M) o := by
  obtain ⟨n1, h1⟩ := h1
  obtain ⟨n2, h2⟩ := h2
  refine ⟨(n1 + n2) + 1, ?_⟩
  unfold pj_exec
  rw [hr]
  simp only
  rw [hv]
  simp only
  rw [hc]
  simp only
  rw [he]
  simp only
  rw [pj_exec_mono _ _ _ _ h1 (n1 + n2) (by omega)]
  exact pj_exec_mono _ _ _ _ h2 (n1 + n2) (by omega)
/-- the memory that is given, and the one that comes: a method's contract, its arguments laid -/
theorem pj_Ends.to {k : Nat} {g g' : pj_Cfg} {o : Option Value × pj_Mem} (h : pj_Ends k g' o) (e : g = g') : pj_Ends k g o := e ▸ h
theorem pj_Ends.res {k : Nat} {g : pj_Cfg} {o o' : Option Value × pj_Mem} (h : pj_Ends k g o) (e : o = o') : pj_Ends k g o' := e ▸ h
