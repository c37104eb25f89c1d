/-! THE PURE MACHINE'S CELLS IN THE HEAP. G: where the law began to make cells, the four cells that are only read, the classes. -/
abbrev pj_G : Type := Nat × (Nat → Nat) × (Nat → Nat × (Nat → Int32)) × va_G × (Nat → ClassId)
def pj_ad (G : pj_G) (k : Nat) : Nat := if k < 4 then G.2.1 k else G.1 + (k - 4)
def pj_e (G : pj_G) : Value → Value
  | .ref a => .ref (pj_ad G a)
  | .int x => .int x
  | .long x => .long x
  | .float x => .float x
  | .double x => .double x
  | .null => .null
  | .retAddr x => .retAddr x
def pj_ec (G : pj_G) : pj_Cell → va_E
  | .inl (ci, fs) => .inr (ci, fs.map (pj_e G))
  | .inr (t, n, .inl f) => .inl (G.2.2.2.2 t, n, .inl f)
  | .inr (t, n, .inr f) => .inl (G.2.2.2.2 t, n, .inr (.inr (.inr (.inr (fun i => (f i).map (pj_ad G))))))
def pj_ws (G : pj_G) (N : Nat) (H : pj_Heap) : va_W := (List.range (N - 4)).map (fun i => (G.1 + i, pj_ec G (H (i + 4))))
def pj_A (G : pj_G) : Nat → Prop := fun q => G.1 ≤ q
def pj_tys (G : pj_G) : List (ClassId × FieldType) := [(G.2.2.2.2 0, .int), (G.2.2.2.2 1, .char), (G.2.2.2.2 2, .boolean), (G.2.2.2.2 3, .object "VotedCharge$Unit")]
def pj_F (G : pj_G) (U : State) (H : Heap) : Prop := va_K G.2.2.2.1 vwCl (pj_tys G) U ∧ (∀ w ∈ pj_nst, va_Nw w U) ∧ va_AO "VotedCharge$Unit" U ∧ (∀ j, 1 ≤ j → j ≤ 3 → va_Z "VotedCharge" (pj_sn j) "[I" (.ref (G.2.1 j)) (pj_A G) U H) ∧ (∀ j, j < 4 → va_T .int (G.2.1 j) (G.2.2.1 j).1 (fun i => .int ((G.2.2.1 j).2 i)) (pj_A G) U H) ∧ G.1 ≤ H.size
def pj_W (G : pj_G) (M : pj_Mem) (H : Heap) : Prop := va_P G.2.2.2.1 vwCl (pj_ws G M.1 M.2.2) H ∧ H.size = G.1 + (M.1 - 4) ∧ 4 ≤ M.1 ∧ (∀ j, j < 4 → M.2.2 j = .inr (4, (G.2.2.1 j).1, .inl (G.2.2.1 j).2)) ∧ (∀ j, M.1 ≤ j → M.2.2 j = .inl (99, [])) ∧ ∀ j, 4 ≤ j → ∀ t n x, M.2.2 j = .inr (t, n, x) → t < 4
theorem pj_ad_hi {G : pj_G} {k : Nat} (h : 4 ≤ k) : pj_ad G k = G.1 + (k - 4) := if_neg (by omega)
theorem pj_ad_lo {G : pj_G} {k : Nat} (h : k < 4) : pj_ad G k = G.2.1 k := if_pos h
theorem pj_ws_get {G : pj_G} {N k : Nat} {H : pj_Heap} (h : 4 ≤ k) (hk : k < N) : (pj_ws G N H)[k - 4]? = some (pj_ad G k, pj_ec G (H k)) := by
  unfold pj_ws
  rw [List.getElem?_map, List.getElem?_range (by omega), pj_ad_hi h]
  simp only [Option.map_some]
  rw [show k - 4 + 4 = k by omega]
theorem pj_ws_at {G : pj_G} {N : Nat} {H : pj_Heap} {i : Nat} {q : Nat × va_E} (h : (pj_ws G N H)[i]? = some q) : i < N - 4 ∧ q = (G.1 + i, pj_ec G (H (i + 4))) := by
  unfold pj_ws at h
  rw [List.getElem?_map] at h
  by_cases hi : i < N - 4
  · rw [List.getElem?_range hi] at h
    exact ⟨hi, (Option.some.inj h).symm⟩
  · rw [List.getElem?_eq_none (by rw [List.length_range]; omega)] at h
    cases h
theorem pj_ws_set {G : pj_G} {N k : Nat} {H : pj_Heap} {c : pj_Cell} (h : 4 ≤ k) (_hk : k < N) : (pj_ws G N H).set (k - 4) (pj_ad G k, pj_ec G c) = pj_ws G N (pj_up H k c) := by
  apply List.ext_getElem?
  intro i
  have hlen : (pj_ws G N H).length = N - 4 := by simp [pj_ws]
  by_cases hi : i < N - 4
  · have e2 := pj_ws_get (G := G) (N := N) (k := i + 4) (H := pj_up H k c) (by omega) (by omega)
    rw [show i + 4 - 4 = i by omega] at e2
    rw [e2]
    by_cases hik : i = k - 4
    · subst hik
      rw [List.getElem?_set_self (by rw [hlen]; omega), show k - 4 + 4 = k by omega]
      simp [pj_up]
    · rw [List.getElem?_set_ne (Ne.symm hik)]
      have e1 := pj_ws_get (G := G) (N := N) (k := i + 4) (H := H) (by omega) (by omega)
      rw [show i + 4 - 4 = i by omega] at e1
      rw [e1]
      have hne : ¬ (i + 4 = k) := by omega
      simp [pj_up, hne]
  · rw [List.getElem?_eq_none (by rw [List.length_set, hlen]; omega), List.getElem?_eq_none (by simp [pj_ws]; omega)]
theorem pj_ws_push {G : pj_G} {N : Nat} {H : pj_Heap} {c : pj_Cell} (h : 4 ≤ N) : pj_ws G (N + 1) (pj_up H N c) = pj_ws G N H ++ [(G.1 + (N - 4), pj_ec G c)] := by
  unfold pj_ws
  rw [show N + 1 - 4 = (N - 4) + 1 by omega, List.range_succ, List.map_append]
  congr 1
  · apply List.map_congr_left
    intro i hi
    have hi' := List.mem_range.mp hi
    have hne : ¬ (i + 4 = N) := by omega
    simp [pj_up, hne]
  · simp [pj_up, show N - 4 + 4 = N by omega]
theorem pj_ws_D (G : pj_G) (N : Nat) (H : pj_Heap) : va_D (pj_A G) (pj_ws G N H) := by
  refine ⟨fun i j p q hi hj hpq => ?_, fun k q hk => ?_⟩
  · have h1 := (pj_ws_at hi).2
    have h2 := (pj_ws_at hj).2
    rw [h1, h2] at hpq
    simp only at hpq
    omega
  · have h1 := (pj_ws_at hk).2
    rw [h1]
    show G.1 ≤ G.1 + k
    omega
/-- the frame of a method that is walked -/
def pj_tbl : List Jvm.Cond := lw_tbl.filter goodWord
theorem pj_good {p : Nat} {w : Jvm.Cond} (h : pj_is p w = true) (hg : goodWord w = true) : w ∈ pj_tbl := List.mem_filter.mpr ⟨pj_is_mem h, hg⟩
def pj_X (G : pj_G) (k : Nat) (p : Program) (s : State) (m : MethodId) (args : Array Value) (meth : Method) (c : Code) : Prop :=
  p.tables.exec = Jvm.exec ∧ c.code = pj_by k ∧ c.maxLocals = pj_ml k ∧ meth.sig.returnType = pj_rt k ∧ s.vm.findClass (pj_on (pj_cn k)) = some m.cls ∧ (∀ w ∈ pj_tbl, w.before args s = true) ∧ meth.locks = false ∧ ((pj_yy k).name = "<init>" → meth.name = "<init>") ∧ pj_F G s s.heap
theorem pj_lookup : ∀ {l : List (Nat × pj_Row)} {pc : Nat} {r : pj_Row}, l.lookup pc = some r → (pc, r) ∈ l
  | [], _, _, h => by cases h
  | (a, b) :: l, pc, r, h => by
    rw [List.lookup_cons] at h
    by_cases e : pc = a
    · subst e
      simp at h
      subst h
      exact List.mem_cons_self
    · rw [show (pc == a) = false from beq_false_of_ne e] at h
      exact List.mem_cons_of_mem _ (pj_lookup h)
theorem pj_row_ok {k pc : Nat} {r : pj_Row} (hk : k < 62) (h : pj_row k pc = some r) : decode (pj_by k) pc = .ok (r.1, r.2.1) ∧ pj_rk k pc r = true := pj_rows_ok k hk (pc, r) (pj_lookup h)
/-- the locals -/
def pj_has (G : pj_G) (ls : Array Slot) (n : Nat) (L : pj_Loc) : Prop := ls.size = n ∧ L.length = n ∧ lv_wf ls ∧ ∀ (i : Nat) (v : Value), pj_ld L i = some v → ls[i]? = some (.val (pj_e G v))
theorem pj_e_cat (G : pj_G) (v : Value) : (pj_e G v).category = v.category := by cases v <;> rfl
def pj_lst (G : pj_G) (L : pj_Loc) : List (Nat × Value) := (List.range L.length).filterMap (fun i => (pj_ld L i).map (fun v => (i, pj_e G v)))
theorem pj_ld_lt : ∀ {L : pj_Loc} {i : Nat} {v : Value}, pj_ld L i = some v → i < L.length
  | [], _, _, h => by cases h
  | _ :: _, 0, _, _ => by simp
  | _ :: l, n + 1, v, h => by
    have := pj_ld_lt (L := l) (i := n) (v := v) h
    simp; omega
theorem pj_lst_mem {G : pj_G} {L : pj_Loc} {q : Nat × Value} : q ∈ pj_lst G L ↔ ∃ v, pj_ld L q.1 = some v ∧ q.2 = pj_e G v := by
  unfold pj_lst
  rw [List.mem_filterMap]
  constructor
  · rintro ⟨i, -, h⟩
    cases hv : pj_ld L i with
    | none => rw [hv] at h; cases h
    | some v => rw [hv] at h; cases h; exact ⟨v, hv, rfl⟩
  · rintro ⟨v, h1, h2⟩
    refine ⟨q.1, List.mem_range.mpr (pj_ld_lt h1), ?_⟩
    obtain ⟨a, b⟩ := q
    simp only at h1 h2
    rw [h2]
    show (pj_ld L a).map _ = _
    rw [h1]
    rfl
theorem pj_has_lv {G : pj_G} {ls : Array Slot} {n : Nat} {L : pj_Loc} (h : pj_has G ls n L) : lv_has ls n (pj_lst G L) := ⟨h.1, h.2.2.1, fun q hq => by
  obtain ⟨v, h1, h2⟩ := pj_lst_mem.mp hq
  rw [h2]
  exact h.2.2.2 q.1 v h1⟩
theorem pj_st_ld : ∀ {L L' : pj_Loc} {i : Nat} {v : Value}, pj_st L i v = some L' → ∀ (j : Nat) (w : Value), pj_ld L' j = some w → (j = i ∧ w = v) ∨ (j ≠ i ∧ pj_ld L j = some w ∧ ¬ (j + 1 = i ∧ pj_long (some w) = true))
  | [], _, _, _, h, _, _, _ => by cases h
  | _ :: l, L', 0, v, h, j, w, hw => by
    cases h
    cases j with
    | zero => exact Or.inl ⟨rfl, (Option.some.inj hw).symm⟩
    | succ j => exact Or.inr ⟨by omega, hw, fun q => by omega⟩
  | a :: l, L', n + 1, v, h, j, w, hw => by
    unfold pj_st at h
    split at h
    · cases h
    · rename_i hna
      cases hl : pj_st l n v with
      | none => rw [hl] at h; cases h
      | some l' =>
        rw [hl] at h
        cases h
        cases j with
        | zero =>
          refine Or.inr ⟨by omega, hw, fun q => hna ⟨by omega, ?_⟩⟩
          have ha : a = some w := hw
          rw [ha]; exact q.2
        | succ j =>
          rcases pj_st_ld hl j w hw with ⟨e1, e2⟩ | ⟨e1, e2, e3⟩
          · exact Or.inl ⟨by omega, e2⟩
          · exact Or.inr ⟨by omega, e2, fun q => e3 ⟨by omega, q.2⟩⟩
theorem pj_stn_lt : ∀ {L L' : pj_Loc} {i : Nat} {v : Value}, pj_st L i v = some L' → i < L.length ∧ L'.length = L.length
  | [], _, _, _, h => by cases h
  | _ :: _, _, 0, _, h => by cases h; simp
  | a :: l, _, n + 1, v, h => by
    unfold pj_st at h
    split at h
    · cases h
    · cases hl : pj_st l n v with
      | none => rw [hl] at h; cases h
      | some l' =>
        rw [hl] at h
        cases h
        have := pj_stn_lt hl
        simp; omega
theorem pj_stl_ld : ∀ {L L' : pj_Loc} {i : Nat} {v : Value}, pj_stl L i v = some L' → ∀ (j : Nat) (w : Value), pj_ld L' j = some w → (j = i ∧ w = v) ∨ (j ≠ i ∧ j ≠ i + 1 ∧ pj_ld L j = some w ∧ ¬ (j + 1 = i ∧ pj_long (some w) = true))
  | [], _, _, _, h, _, _, _ => by cases h
  | [_], _, 0, _, h, _, _, _ => by cases h
  | _ :: _ :: l, L', 0, v, h, j, w, hw => by
    cases h
    cases j with
    | zero => exact Or.inl ⟨rfl, (Option.some.inj hw).symm⟩
    | succ j =>
      cases j with
      | zero => cases hw
      | succ j => exact Or.inr ⟨by omega, by omega, hw, fun q => by omega⟩
  | a :: l, L', n + 1, v, h, j, w, hw => by
    unfold pj_stl at h
    split at h
    · cases h
    · rename_i hna
      cases hl : pj_stl l n v with
      | none => rw [hl] at h; cases h
      | some l' =>
        rw [hl] at h
        cases h
        cases j with
        | zero =>
          refine Or.inr ⟨by omega, by omega, hw, fun q => hna ⟨by omega, ?_⟩⟩
          have ha : a = some w := hw
          rw [ha]; exact q.2
        | succ j =>
          rcases pj_stl_ld hl j w hw with ⟨e1, e2⟩ | ⟨e1, e2, e3, e4⟩
          · exact Or.inl ⟨by omega, e2⟩
          · exact Or.inr ⟨by omega, by omega, e3, fun q => e4 ⟨by omega, q.2⟩⟩
theorem pj_stl_lt : ∀ {L L' : pj_Loc} {i : Nat} {v : Value}, pj_stl L i v = some L' → i + 1 < L.length ∧ L'.length = L.length
  | [], _, _, _, h => by cases h
  | [_], _, 0, _, h => by cases h
  | _ :: _ :: _, _, 0, _, h => by cases h; simp
  | a :: l, _, n + 1, v, h => by
    unfold pj_stl at h
    split at h
    · cases h
    · cases hl : pj_stl l n v with
      | none => rw [hl] at h; cases h
      | some l' =>
        rw [hl] at h
        cases h
        have := pj_stl_lt hl
        simp; omega
theorem pj_cat2 {G : pj_G} {w : Value} (h : ¬ pj_long (some w) = true) : ((pj_e G w).category == 2) = false := by
  cases w <;> first | rfl | exact absurd rfl h
theorem pj_has_st {G : pj_G} {ls ls' : Array Slot} {n i : Nat} {L L' : pj_Loc} {v : Value} (h : pj_has G ls n L) (hs : pj_st L i v = some L') (hl : lv_has ls' n ((i, pj_e G v) :: (pj_lst G L).filter (fun q => !(q.1 == i) && !(q.1 + 1 == i && q.2.category == 2)))) : pj_has G ls' n L' := by
  refine ⟨hl.1, by rw [(pj_stn_lt hs).2]; exact h.2.1, hl.2.1, fun j w hw => ?_⟩
  rcases pj_st_ld hs j w hw with ⟨rfl, rfl⟩ | ⟨h1, h2, h3⟩
  · exact hl.2.2 (j, pj_e G w) List.mem_cons_self
  · refine hl.2.2 (j, pj_e G w) (List.mem_cons_of_mem _ (List.mem_filter.mpr ⟨pj_lst_mem.mpr ⟨w, h2, rfl⟩, ?_⟩))
    simp only [Bool.and_eq_true, Bool.not_eq_true']
    refine ⟨beq_false_of_ne h1, ?_⟩
    by_cases e : j + 1 = i
    · rw [pj_cat2 (fun q => h3 ⟨e, q⟩), Bool.and_false]
    · rw [show (j + 1 == i) = false from beq_false_of_ne e, Bool.false_and]
theorem pj_has_stl {G : pj_G} {ls ls' : Array Slot} {n i : Nat} {L L' : pj_Loc} {v : Value} (h : pj_has G ls n L) (hs : pj_stl L i v = some L') (hl : lv_has ls' n ((i, pj_e G v) :: (pj_lst G L).filter (fun q => !(q.1 == i) && (!(q.1 == i + 1) && !(q.1 + 1 == i && q.2.category == 2))))) : pj_has G ls' n L' := by
  refine ⟨hl.1, by rw [(pj_stl_lt hs).2]; exact h.2.1, hl.2.1, fun j w hw => ?_⟩
  rcases pj_stl_ld hs j w hw with ⟨rfl, rfl⟩ | ⟨h1, h0, h2, h3⟩
  · exact hl.2.2 (j, pj_e G w) List.mem_cons_self
  · refine hl.2.2 (j, pj_e G w) (List.mem_cons_of_mem _ (List.mem_filter.mpr ⟨pj_lst_mem.mpr ⟨w, h2, rfl⟩, ?_⟩))
    simp only [Bool.and_eq_true, Bool.not_eq_true']
    refine ⟨beq_false_of_ne h1, beq_false_of_ne h0, ?_⟩
    by_cases e : j + 1 = i
    · rw [pj_cat2 (fun q => h3 ⟨e, q⟩), Bool.and_false]
    · rw [show (j + 1 == i) = false from beq_false_of_ne e, Bool.false_and]
/-- entry -/
theorem pj_sl_ld (G : pj_G) : ∀ (as : List Value) (i : Nat), ∀ (j : Nat) (v : Value), pj_ld (pj_sl as) j = some v → (i + j, pj_e G v) ∈ lv_args i (as.map (pj_e G))
  | [], _, _, _, h => by cases h
  | a :: l, i, j, v, h => by
    have hc : (pj_e G a).category = a.category := pj_e_cat G a
    have one : pj_sl (a :: l) = some a :: pj_sl l → a.category = 1 → (i + j, pj_e G v) ∈ lv_args i ((a :: l).map (pj_e G)) := by
      intro e c
      rw [e] at h
      show _ ∈ (i, pj_e G a) :: lv_args (if (pj_e G a).category = 2 then i + 2 else i + 1) (l.map (pj_e G))
      rw [hc, c, if_neg (by decide)]
      cases j with
      | zero => rw [show v = a from (Option.some.inj h).symm]; exact List.mem_cons_self
      | succ j =>
        have := pj_sl_ld G l (i + 1) j v h
        rw [show i + (j + 1) = i + 1 + j by omega]
        exact List.mem_cons_of_mem _ this
    have two : pj_sl (a :: l) = some a :: none :: pj_sl l → a.category = 2 → (i + j, pj_e G v) ∈ lv_args i ((a :: l).map (pj_e G)) := by
      intro e c
      rw [e] at h
      show _ ∈ (i, pj_e G a) :: lv_args (if (pj_e G a).category = 2 then i + 2 else i + 1) (l.map (pj_e G))
      rw [hc, c, if_pos rfl]
      cases j with
      | zero => rw [show v = a from (Option.some.inj h).symm]; exact List.mem_cons_self
      | succ j =>
        cases j with
        | zero => cases h
        | succ j =>
          have := pj_sl_ld G l (i + 2) j v h
          rw [show i + (j + 1 + 1) = i + 2 + j by omega]
          exact List.mem_cons_of_mem _ this
    cases a with
    | long x => exact two rfl rfl
    | double x => exact two rfl rfl
    | _ => exact one rfl rfl
theorem pj_sl_len (G : pj_G) : ∀ (as : List Value), (lg_sl (as.map (pj_e G))).length = (pj_sl as).length
  | [] => rfl
  | a :: l => by
    have ih := pj_sl_len G l
    have hc : (pj_e G a).category = a.category := pj_e_cat G a
    unfold lg_sl at ih ⊢
    rw [List.map_cons, List.flatMap_cons, List.length_append, ih, hc]
    cases a <;> simp [pj_sl, Value.category] <;> omega
theorem pj_ld_app : ∀ (L : pj_Loc) (n j : Nat) (v : Value), pj_ld (L ++ List.replicate n none) j = some v → pj_ld L j = some v
  | [], n, j, v, h => by
    exfalso
    rw [List.nil_append] at h
    induction n generalizing j with
    | zero => cases h
    | succ n ih =>
      rw [List.replicate_succ] at h
      cases j with
      | zero => cases h
      | succ j => exact ih j h
  | a :: l, n, j, v, h => by
    cases j with
    | zero => exact h
    | succ j => exact pj_ld_app l n j v h
theorem pj_has_entry {G : pj_G} {n : Nat} {as : List Value} (h : (pj_sl as).length ≤ n) : pj_has G ((lg_sl (as.map (pj_e G)) ++ List.replicate (n - (lg_sl (as.map (pj_e G))).length) Slot.unset).toArray) n (pj_sl as ++ List.replicate (n - (pj_sl as).length) none) := by
  have hl := lv_entry (as.map (pj_e G)) (n := n) (by rw [pj_sl_len]; exact h)
  refine ⟨hl.1, by rw [List.length_append, List.length_replicate]; omega, hl.2.1, fun j v hv => ?_⟩
  have h1 := pj_sl_ld G as 0 j v (pj_ld_app _ _ _ _ hv)
  rw [Nat.zero_add] at h1
  exact hl.2.2 _ h1
