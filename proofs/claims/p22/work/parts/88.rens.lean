/-! TWO OBJECTS: the steps, the runs -/
abbrev rn_Fn : Type := pj_Loc → pj_Mem → List Value → Option pj_Cfg
def rn_Q (d : Nat) (F : rn_Fn) : Prop := ∀ (L : pj_Loc) (M M2 : pj_Mem) (st : List Value) (g : pj_Cfg), rn_M d M M2 → F L M st = some g → ∃ M2', rn_M d g.2.2.2 M2' ∧ rn_F M2.2.2 M2'.2.2 ∧ F (L.map rn_o) M2 (st.map rn_v) = some (rn_g g M2')
/-- a step that has no eye for the memory -/
def rn_P (F : rn_Fn) : Prop := ∀ (L : pj_Loc) (M M2 : pj_Mem) (st : List Value) (g : pj_Cfg), F L M st = some g → g.2.2.2 = M ∧ F (L.map rn_o) M2 (st.map rn_v) = some (rn_g g M2)
theorem rn_PQ {d : Nat} {F : rn_Fn} (h : rn_P F) : rn_Q d F := fun L M M2 st g hM hF => ⟨M2, (h L M M2 st g hF).1 ▸ hM, rn_F_rf, (h L M M2 st g hF).2⟩
theorem rn_bin (f : Int32 → Int32 → Int32) (pc : Nat) : rn_P (fun L M st => pj_bin f pc L M st) := by
  intro L M M2 st g h
  dsimp only at h
  unfold pj_bin at h
  split at h
  · cases h
    exact ⟨rfl, rfl⟩
  · cases h
theorem rn_binl (f : Int64 → Int64 → Int64) (pc : Nat) : rn_P (fun L M st => pj_binl f pc L M st) := by
  intro L M M2 st g h
  dsimp only at h
  unfold pj_binl at h
  split at h
  · cases h
    exact ⟨rfl, rfl⟩
  · cases h
theorem rn_un (f : Int32 → Value) (hf : ∀ x, rn_v (f x) = f x) (pc : Nat) : rn_P (fun L M st => pj_un f pc L M st) := by
  intro L M M2 st g h
  dsimp only at h
  unfold pj_un at h
  split at h
  · rename_i x st'
    cases h
    refine ⟨rfl, ?_⟩
    show some (pc, L.map rn_o, f x :: st'.map rn_v, M2) = some (pc, L.map rn_o, rn_v (f x) :: st'.map rn_v, M2)
    rw [hf]
  · cases h
theorem rn_iload (k pc : Nat) : rn_P (fun L M st => pj_iload k pc L M st) := by
  intro L M M2 st g h
  dsimp only at h ⊢
  unfold pj_iload at h ⊢
  split at h
  · rename_i x hx
    cases h
    refine ⟨rfl, ?_⟩
    rw [rn_ld, hx]
    rfl
  · cases h
theorem rn_lload (k pc : Nat) : rn_P (fun L M st => pj_lload k pc L M st) := by
  intro L M M2 st g h
  dsimp only at h ⊢
  unfold pj_lload at h ⊢
  split at h
  · rename_i x hx
    cases h
    refine ⟨rfl, ?_⟩
    rw [rn_ld, hx]
    rfl
  · cases h
theorem rn_aload (k pc : Nat) : rn_P (fun L M st => pj_aload k pc L M st) := by
  intro L M M2 st g h
  dsimp only at h ⊢
  unfold pj_aload at h ⊢
  split at h
  · rename_i x hx
    cases h
    refine ⟨rfl, ?_⟩
    rw [rn_ld, hx]
    rfl
  · cases h
theorem rn_istore (k pc : Nat) : rn_P (fun L M st => pj_istore k pc L M st) := by
  intro L M M2 st g h
  dsimp only at h
  unfold pj_istore at h
  split at h
  · rename_i x st'
    cases hs : pj_st L k (.int x) with
    | none =>
      rw [hs] at h
      cases h
    | some L' =>
      rw [hs] at h
      cases h
      refine ⟨rfl, ?_⟩
      show pj_to pc (st'.map rn_v) M2 (pj_st (L.map rn_o) k (rn_v (.int x))) = _
      rw [rn_st, hs]
      rfl
  · cases h
theorem rn_astore (k pc : Nat) : rn_P (fun L M st => pj_astore k pc L M st) := by
  intro L M M2 st g h
  dsimp only at h
  unfold pj_astore at h
  split at h
  · rename_i x st'
    cases hs : pj_st L k (.ref x) with
    | none =>
      rw [hs] at h
      cases h
    | some L' =>
      rw [hs] at h
      cases h
      refine ⟨rfl, ?_⟩
      show pj_to pc (st'.map rn_v) M2 (pj_st (L.map rn_o) k (rn_v (.ref x))) = _
      rw [rn_st, hs]
      rfl
  · cases h
theorem rn_lstore (k pc : Nat) : rn_P (fun L M st => pj_lstore k pc L M st) := by
  intro L M M2 st g h
  dsimp only at h
  unfold pj_lstore at h
  split at h
  · rename_i x st'
    cases hs : pj_stl L k (.long x) with
    | none =>
      rw [hs] at h
      cases h
    | some L' =>
      rw [hs] at h
      cases h
      refine ⟨rfl, ?_⟩
      show pj_to pc (st'.map rn_v) M2 (pj_stl (L.map rn_o) k (rn_v (.long x))) = _
      rw [rn_stl, hs]
      rfl
  · cases h
theorem rn_jmp {pc : Nat} {off : Int} {L : pj_Loc} {M M2 : pj_Mem} {st : List Value} {g : pj_Cfg} (h : pj_jmp pc L M st off = some g) : g.2.2.2 = M ∧ pj_jmp pc (L.map rn_o) M2 (st.map rn_v) off = some (rn_g g M2) := by
  unfold pj_jmp at h ⊢
  cases e : pj_tgt pc off with
  | none =>
    rw [e] at h
    cases h
  | some t =>
    rw [e] at h
    cases h
    exact ⟨rfl, rfl⟩
theorem rn_tsw (pc : Nat) (dd lo hi : Int) (offs : Array Int) : rn_P (fun L M st => pj_tsw pc L M dd lo hi offs st) := by
  intro L M M2 st g h
  dsimp only at h
  unfold pj_tsw at h
  split at h
  · rename_i x st'
    show _ ∧ (if x.toInt < lo ∨ hi < x.toInt then pj_jmp pc (L.map rn_o) M2 (st'.map rn_v) dd else (match offs[(x.toInt - lo).toNat]? with
      | some off => pj_jmp pc (L.map rn_o) M2 (st'.map rn_v) off
      | none => none)) = _
    by_cases c : x.toInt < lo ∨ hi < x.toInt
    · rw [if_pos c] at h ⊢
      exact rn_jmp h
    · rw [if_neg c] at h ⊢
      cases e : offs[(x.toInt - lo).toNat]? with
      | none =>
        rw [e] at h
        cases h
      | some off =>
        rw [e] at h
        exact rn_jmp h
  · cases h
theorem rn_lsw (pc : Nat) (dd : Int) (ps : Array (Int × Int)) : rn_P (fun L M st => pj_lsw pc L M dd ps st) := by
  intro L M M2 st g h
  dsimp only at h
  unfold pj_lsw at h
  split at h
  · exact rn_jmp h
  · cases h
theorem rn_l2i (pc : Nat) : rn_P (fun L M st => pj_l2i pc L M st) := by
  intro L M M2 st g h
  dsimp only at h
  unfold pj_l2i at h
  split at h
  · cases h
    exact ⟨rfl, rfl⟩
  · cases h
theorem rn_lsh (f : Int64 → Int32 → Int64) (pc : Nat) : rn_P (fun L M st => pj_lsh f pc L M st) := by
  intro L M M2 st g h
  dsimp only at h
  unfold pj_lsh at h
  split at h
  · cases h
    exact ⟨rfl, rfl⟩
  · cases h
theorem rn_lcmp (pc : Nat) : rn_P (fun L M st => pj_lcmp pc L M st) := by
  intro L M M2 st g h
  dsimp only at h
  unfold pj_lcmp at h
  split at h
  · cases h
    exact ⟨rfl, rfl⟩
  · cases h
theorem rn_br (c : ClassFile.Cond) (t f : Nat) : rn_P (fun L M st => pj_br c t f L M st) := by
  intro L M M2 st g h
  dsimp only at h
  unfold pj_br at h
  split at h
  · cases h
    exact ⟨rfl, rfl⟩
  · cases h
theorem rn_br0 (c : ClassFile.Cond) (t f : Nat) : rn_P (fun L M st => pj_br0 c t f L M st) := by
  intro L M M2 st g h
  dsimp only at h
  unfold pj_br0 at h
  split at h
  · cases h
    exact ⟨rfl, rfl⟩
  · cases h
theorem rn_dup (pc : Nat) : rn_P (fun L M st => pj_dup pc L M st) := by
  intro L M M2 st g h
  dsimp only at h
  unfold pj_dup at h
  split at h
  · rename_i v st'
    split at h
    · rename_i c
      cases h
      refine ⟨rfl, ?_⟩
      show (if pj_one1 (rn_v v) = true then some (pc, L.map rn_o, rn_v v :: rn_v v :: st'.map rn_v, M2) else none) = _
      rw [rn_one1, if_pos c]
      rfl
    · cases h
  · cases h
theorem rn_pop (pc : Nat) : rn_P (fun L M st => pj_pop pc L M st) := by
  intro L M M2 st g h
  dsimp only at h
  unfold pj_pop at h
  split at h
  · rename_i v st'
    split at h
    · rename_i c
      cases h
      refine ⟨rfl, ?_⟩
      show (if pj_one1 (rn_v v) = true then some (pc, L.map rn_o, st'.map rn_v, M2) else none) = _
      rw [rn_one1, if_pos c]
      rfl
    · cases h
  · cases h
theorem rn_dup2 (pc : Nat) : rn_P (fun L M st => pj_dup2 pc L M st) := by
  intro L M M2 st g h
  dsimp only at h
  unfold pj_dup2 at h
  split at h
  · rename_i v w st'
    split at h
    · rename_i c
      cases h
      refine ⟨rfl, ?_⟩
      show (if pj_one1 (rn_v v) = true ∧ pj_one1 (rn_v w) = true then some (pc, L.map rn_o, rn_v v :: rn_v w :: rn_v v :: rn_v w :: st'.map rn_v, M2) else none) = _
      rw [rn_one1, rn_one1, if_pos c]
      rfl
    · cases h
  · cases h
theorem rn_set {d pc a : Nat} {L : pj_Loc} {st : List Value} {M M2 : pj_Mem} {x : Option pj_Cell} {g : pj_Cfg} (hM : rn_M d M M2) (h : pj_set pc L st M a x = some g) : ∃ M2', rn_M d g.2.2.2 M2' ∧ rn_F M2.2.2 M2'.2.2 ∧ pj_set pc (L.map rn_o) (st.map rn_v) M2 (rn_s a) (x.map rn_c) = some (rn_g g M2') := by
  cases x with
  | none => cases h
  | some c =>
    cases h
    exact ⟨(M2.1, M2.2.1, pj_up M2.2.2 (rn_s a) (rn_c c)), ⟨hM.1, hM.2.1, rn_H_up hM.2.2.1, hM.2.2.2⟩, rn_F_up, rfl⟩
theorem rn_getf {d : Nat} (a b pc : Nat) : rn_Q d (fun L M st => pj_getf a b pc L M st) := by
  intro L M M2 st g hM h
  dsimp only at h
  unfold pj_getf at h
  split at h
  · rename_i o st'
    cases e : pj_fld (M.2.2 o) a b with
    | none =>
      rw [e] at h
      cases h
    | some v =>
      rw [e] at h
      cases h
      refine ⟨M2, hM, rn_F_rf, ?_⟩
      show (match pj_fld (M2.2.2 (rn_s o)) a b with
        | some v => some (pc, L.map rn_o, v :: st'.map rn_v, M2)
        | none => none) = _
      rw [hM.2.2.1 o, rn_fld, e]
      rfl
  · cases h
theorem rn_putf {d : Nat} (a b pc : Nat) : rn_Q d (fun L M st => pj_putf a b pc L M st) := by
  intro L M M2 st g hM h
  dsimp only at h
  unfold pj_putf at h
  split at h
  · rename_i v o st'
    have := rn_set hM h
    rw [← rn_fset, ← hM.2.2.1 o] at this
    exact this
  · cases h
theorem rn_xald {d : Nat} (u pc : Nat) : rn_Q d (fun L M st => pj_xald u pc L M st) := by
  intro L M M2 st g hM h
  dsimp only at h
  unfold pj_xald at h
  split at h
  · rename_i i o st'
    cases e : pj_arl (M.2.2 o) u i with
    | none =>
      rw [e] at h
      cases h
    | some v =>
      rw [e] at h
      cases h
      refine ⟨M2, hM, rn_F_rf, ?_⟩
      show (match pj_arl (M2.2.2 (rn_s o)) u i with
        | some v => some (pc, L.map rn_o, Value.int v :: st'.map rn_v, M2)
        | none => none) = _
      rw [hM.2.2.1 o, rn_arl, e]
      rfl
  · cases h
theorem rn_xast {d : Nat} (u : Nat) (f : Int32 → Int32) (pc : Nat) : rn_Q d (fun L M st => pj_xast u f pc L M st) := by
  intro L M M2 st g hM h
  dsimp only at h
  unfold pj_xast at h
  split at h
  · rename_i x i o st'
    have := rn_set hM h
    rw [← rn_ars, ← hM.2.2.1 o] at this
    exact this
  · cases h
theorem rn_aald {d : Nat} (pc : Nat) : rn_Q d (fun L M st => pj_aald pc L M st) := by
  intro L M M2 st g hM h
  dsimp only at h
  unfold pj_aald at h
  split at h
  · rename_i i o st'
    cases e : pj_qrl (M.2.2 o) i with
    | none =>
      rw [e] at h
      cases h
    | some v =>
      rw [e] at h
      cases h
      refine ⟨M2, hM, rn_F_rf, ?_⟩
      show (match pj_qrl (M2.2.2 (rn_s o)) i with
        | some v => some (pc, L.map rn_o, v :: st'.map rn_v, M2)
        | none => none) = _
      rw [hM.2.2.1 o, rn_qrl, e]
      rfl
  · cases h
theorem rn_aast {d : Nat} (pc : Nat) : rn_Q d (fun L M st => pj_aast pc L M st) := by
  intro L M M2 st g hM h
  dsimp only at h
  unfold pj_aast at h
  split at h
  · rename_i x i o st'
    by_cases c : pj_isU 4 (M.2.2 x) = true
    · rw [if_pos c] at h
      have := rn_set hM h
      rw [← rn_qrs, ← hM.2.2.1 o] at this
      obtain ⟨M2', h1, h2, h3⟩ := this
      refine ⟨M2', h1, h2, ?_⟩
      show (if pj_isU 4 (M2.2.2 (rn_s x)) = true then pj_set pc (L.map rn_o) (st'.map rn_v) M2 (rn_s o) (pj_qrs (M2.2.2 (rn_s o)) i (rn_s x)) else none) = _
      rw [hM.2.2.1 x, rn_isU, if_pos c]
      exact h3
    · rw [if_neg c] at h
      cases h
  · cases h
theorem rn_alen {d : Nat} (pc : Nat) : rn_Q d (fun L M st => pj_alen pc L M st) := by
  intro L M M2 st g hM h
  dsimp only at h
  unfold pj_alen at h
  split at h
  · rename_i o st'
    cases e : pj_len (M.2.2 o) with
    | none =>
      rw [e] at h
      cases h
    | some v =>
      rw [e] at h
      cases h
      refine ⟨M2, hM, rn_F_rf, ?_⟩
      show (match pj_len (M2.2.2 (rn_s o)) with
        | some v => some (pc, L.map rn_o, Value.int v :: st'.map rn_v, M2)
        | none => none) = _
      rw [hM.2.2.1 o, rn_len, e]
      rfl
  · cases h
/-- a cell that is made -/
theorem rn_made {d n : Nat} {M M2 : pj_Mem} {c : pj_Cell} (hM : rn_M d M M2) (hc : rn_c c = c) : rn_M d (M.1 + 1, M.2.1 + n, pj_up M.2.2 M.1 c) (M2.1 + 1, M2.2.1 + n, pj_up M2.2.2 M2.1 c) ∧ rn_F M2.2.2 (pj_up M2.2.2 M2.1 c) ∧ M2.1 = rn_s M.1 := by
  obtain ⟨h1, h2, h3, h4⟩ := hM
  have e : M2.1 = rn_s M.1 := by rw [rn_s_hi h4]; exact h1
  refine ⟨⟨?_, ?_, ?_, ?_⟩, ?_, e⟩
  · show M2.1 + 1 = M.1 + 1 + 105
    omega
  · show M2.2.1 + n = M.2.1 + n + d
    omega
  · have := rn_H_up (a := M.1) (c := c) h3
    rw [hc, ← e] at this
    exact this
  · show 4 ≤ M.1 + 1
    omega
  · rw [e]
    exact rn_F_up
theorem rn_newa {d : Nat} (t pc : Nat) : rn_Q d (fun L M st => pj_newa t pc L M st) := by
  intro L M M2 st g hM h
  dsimp only at h
  unfold pj_newa at h
  split at h
  · rename_i n st'
    by_cases c : ¬ n < 0 ∧ n.toNatClampNeg ≤ 100000
    · rw [if_pos c] at h
      cases h
      have hc : rn_c (.inr (t, n.toNatClampNeg, if t = 3 then .inr (fun _ => none) else .inl (fun _ => 0))) = .inr (t, n.toNatClampNeg, if t = 3 then .inr (fun _ => none) else .inl (fun _ => 0)) := by
        by_cases q : t = 3
        · rw [if_pos q]
          rfl
        · rw [if_neg q]
          rfl
      obtain ⟨h1, h2, h3⟩ := rn_made (n := n.toNatClampNeg) hM hc
      refine ⟨_, h1, h2, ?_⟩
      show (if ¬ n < 0 ∧ n.toNatClampNeg ≤ 100000 then some (pc, L.map rn_o, .ref M2.1 :: st'.map rn_v, (M2.1 + 1, M2.2.1 + n.toNatClampNeg, pj_up M2.2.2 M2.1 (.inr (t, n.toNatClampNeg, if t = 3 then .inr (fun _ => none) else .inl (fun _ => 0))))) else none) = some (pc, L.map rn_o, .ref (rn_s M.1) :: st'.map rn_v, _)
      rw [if_pos c, ← h3]
    · rw [if_neg c] at h
      cases h
  · cases h
theorem rn_one {d : Nat} (z : Int) (pc : Nat) : rn_Q d (fun L M st => pj_one z pc L M st) := by
  intro L M M2 st g hM h
  dsimp only at h ⊢
  unfold pj_one at h ⊢
  by_cases z2 : z = 2
  · rw [if_pos z2] at h ⊢
    split at h
    · rename_i o r
      split at h
      · rename_i c
        cases h
        refine ⟨M2, hM, rn_F_rf, ?_⟩
        show (if pj_le4 (r.map rn_v) = true then some (pc, L.map rn_o, r.map rn_v, M2) else none) = _
        rw [rn_le4, if_pos c]
        rfl
      · cases h
    · cases h
  rw [if_neg z2] at h ⊢
  by_cases z3 : z = 3
  · rw [if_pos z3] at h ⊢
    split at h
    · rename_i n dp dd sp o r
      split at h
      · rename_i c
        have := rn_set hM h
        rw [← rn_cas, ← hM.2.2.1 o, ← hM.2.2.1 dd] at this
        obtain ⟨M2', h1, h2, h3⟩ := this
        refine ⟨M2', h1, h2, ?_⟩
        show (if pj_le4 (r.map rn_v) = true then pj_set pc (L.map rn_o) (r.map rn_v) M2 (rn_s dd) (pj_cas (M2.2.2 (rn_s o)) (M2.2.2 (rn_s dd)) sp dp n) else none) = _
        rw [rn_le4, if_pos c]
        exact h3
      · cases h
    · cases h
  rw [if_neg z3] at h ⊢
  by_cases z4 : z = 4
  · rw [if_pos z4] at h ⊢
    split at h
    · rename_i y x r
      split at h
      · rename_i c
        cases h
        refine ⟨M2, hM, rn_F_rf, ?_⟩
        show (if pj_le4 (r.map rn_v) = true then some (pc, L.map rn_o, .int (if x < y then y else x) :: r.map rn_v, M2) else none) = _
        rw [rn_le4, if_pos c]
        rfl
      · cases h
    · cases h
  rw [if_neg z4] at h ⊢
  by_cases z5 : z = 5
  · rw [if_pos z5] at h ⊢
    split at h
    · rename_i y x r
      split at h
      · rename_i c
        cases h
        refine ⟨M2, hM, rn_F_rf, ?_⟩
        show (if pj_le4 (r.map rn_v) = true then some (pc, L.map rn_o, .int (if y < x then y else x) :: r.map rn_v, M2) else none) = _
        rw [rn_le4, if_pos c]
        rfl
      · cases h
    · cases h
  rw [if_neg z5] at h ⊢
  by_cases z6 : z = 6
  · rw [if_pos z6] at h ⊢
    split at h
    · rename_i x r
      split at h
      · rename_i c
        cases h
        refine ⟨M2, hM, rn_F_rf, ?_⟩
        show (if pj_le4 (r.map rn_v) = true then some (pc, L.map rn_o, .int (if 0 ≤ x then x else 0 - x) :: r.map rn_v, M2) else none) = _
        rw [rn_le4, if_pos c]
        rfl
      · cases h
    · cases h
  · rw [if_neg z6] at h
    cases h
