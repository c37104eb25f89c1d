/-! TWO OBJECTS: what runs over some cells runs over the same cells moved (the first object's cells 4.. to 109.., the script and the static arrays where they are) -/
def rn_s (a : Nat) : Nat := if a < 4 then a else a + 105
theorem rn_s_lo {a : Nat} (h : a < 4) : rn_s a = a := if_pos h
theorem rn_s_hi {a : Nat} (h : 4 ≤ a) : rn_s a = a + 105 := if_neg (by omega)
theorem rn_s_inj {a b : Nat} (h : rn_s a = rn_s b) : a = b := by
  unfold rn_s at h
  split at h <;> split at h <;> omega
theorem rn_s_out (a : Nat) : rn_s a < 4 ∨ 109 ≤ rn_s a := by
  unfold rn_s
  split <;> omega
def rn_v : Value → Value
  | .ref a => .ref (rn_s a)
  | v => v
def rn_o : Option Value → Option Value
  | none => none
  | some v => some (rn_v v)
def rn_c : pj_Cell → pj_Cell
  | .inl (ci, fs) => .inl (ci, fs.map rn_v)
  | .inr (t, n, .inl f) => .inr (t, n, .inl f)
  | .inr (t, n, .inr f) => .inr (t, n, .inr (fun i => (f i).map rn_s))
def rn_H (H K : pj_Heap) : Prop := ∀ a, K (rn_s a) = rn_c (H a)
def rn_F (K K' : pj_Heap) : Prop := ∀ j, 4 ≤ j → j < 109 → K' j = K j
def rn_M (d : Nat) (M M2 : pj_Mem) : Prop := M2.1 = M.1 + 105 ∧ M2.2.1 = M.2.1 + d ∧ rn_H M.2.2 M2.2.2 ∧ 4 ≤ M.1
def rn_g (g : pj_Cfg) (M2 : pj_Mem) : pj_Cfg := (g.1, g.2.1.map rn_o, g.2.2.1.map rn_v, M2)
theorem rn_H_up {H K : pj_Heap} {a : Nat} {c : pj_Cell} (h : rn_H H K) : rn_H (pj_up H a c) (pj_up K (rn_s a) (rn_c c)) := by
  intro j
  rw [pj_up_ap, pj_up_ap]
  by_cases e : j = a
  · subst e
    rw [if_pos rfl, if_pos rfl]
  · rw [if_neg e, if_neg (fun q => e (rn_s_inj q))]
    exact h j
theorem rn_F_up {K : pj_Heap} {a : Nat} {c : pj_Cell} : rn_F K (pj_up K (rn_s a) c) := by
  intro j h1 h2
  have := rn_s_out a
  rw [pj_up_ap, if_neg (by omega)]
theorem rn_F_rf {K : pj_Heap} : rn_F K K := fun _ _ _ => rfl
theorem rn_one1 (v : Value) : pj_one1 (rn_v v) = pj_one1 v := by cases v <;> rfl
theorem rn_long (a : Option Value) : pj_long (rn_o a) = pj_long a := by
  cases a with
  | none => rfl
  | some v => cases v <;> rfl
theorem rn_le4 (st : List Value) : pj_le4 (st.map rn_v) = pj_le4 st :=
  match st with
  | [] => rfl
  | [_] => rfl
  | [_, _] => rfl
  | [_, _, _] => rfl
  | [_, _, _, _] => rfl
  | _ :: _ :: _ :: _ :: _ :: _ => rfl
theorem rn_ld : ∀ (L : pj_Loc) (i : Nat), pj_ld (L.map rn_o) i = rn_o (pj_ld L i)
  | [], _ => rfl
  | _ :: _, 0 => rfl
  | _ :: l, n + 1 => rn_ld l n
theorem rn_st : ∀ (L : pj_Loc) (i : Nat) (v : Value), pj_st (L.map rn_o) i (rn_v v) = (pj_st L i v).map (List.map rn_o)
  | [], _, _ => rfl
  | _ :: _, 0, _ => rfl
  | a :: l, n + 1, v => by
    have ih := rn_st l n v
    simp only [List.map_cons, pj_st, rn_long, ih]
    by_cases c : n = 0 ∧ pj_long a = true
    · rw [if_pos c, if_pos c]
      rfl
    · rw [if_neg c, if_neg c]
      cases pj_st l n v <;> rfl
theorem rn_stl : ∀ (L : pj_Loc) (i : Nat) (v : Value), pj_stl (L.map rn_o) i (rn_v v) = (pj_stl L i v).map (List.map rn_o)
  | [], _, _ => rfl
  | [_], 0, _ => rfl
  | _ :: _ :: _, 0, _ => rfl
  | a :: l, n + 1, v => by
    have ih := rn_stl l n v
    simp only [List.map_cons, pj_stl, rn_long, ih]
    by_cases c : n = 0 ∧ pj_long a = true
    · rw [if_pos c, if_pos c]
      rfl
    · rw [if_neg c, if_neg c]
      cases pj_stl l n v <;> rfl
theorem rn_nth : ∀ (l : List Value) (n : Nat), pj_nth (l.map rn_v) n = (pj_nth l n).map rn_v
  | [], _ => rfl
  | _ :: _, 0 => rfl
  | _ :: l, n + 1 => rn_nth l n
theorem rn_pu : ∀ (l : List Value) (n : Nat) (v : Value), pj_pu (l.map rn_v) n (rn_v v) = (pj_pu l n v).map rn_v
  | [], _, _ => rfl
  | _ :: _, 0, _ => rfl
  | a :: l, n + 1, v => congrArg (fun z => rn_v a :: z) (rn_pu l n v)
theorem rn_fit {ty : FieldType} {v : Value} : pj_fit ty (rn_v v) = pj_fit ty v := by
  cases v with
  | ref a =>
    have h : ∀ b : Nat, pj_fit ty (.ref b) = fits ty (.ref b) := by
      intro b
      unfold pj_fit
      have e : narrow ty (.ref b) = .ref b := by cases ty <;> rfl
      rw [e, decide_eq_true rfl, Bool.true_and]
    show pj_fit ty (.ref (rn_s a)) = _
    rw [h, h]
    cases ty <;> rfl
  | _ => rfl
theorem rn_fld (c : pj_Cell) (a b : Nat) : pj_fld (rn_c c) a b = (pj_fld c a b).map rn_v :=
  match c with
  | .inl (ci, fs) => by
    show (if ci = a then pj_nth (fs.map rn_v) b else none) = (if ci = a then pj_nth fs b else none).map rn_v
    by_cases q : ci = a
    · rw [if_pos q, if_pos q]
      exact rn_nth fs b
    · rw [if_neg q, if_neg q]
      rfl
  | .inr (_, _, .inl _) => rfl
  | .inr (_, _, .inr _) => rfl
theorem rn_fset (c : pj_Cell) (a b : Nat) (v : Value) : pj_fset (rn_c c) a b (rn_v v) = (pj_fset c a b v).map rn_c :=
  match c with
  | .inl (ci, fs) => by
    show (if ci = a ∧ b < (fs.map rn_v).length ∧ pj_fit (pj_fty a b) (rn_v v) = true then some (.inl (ci, pj_pu (fs.map rn_v) b (rn_v v))) else none) = (if ci = a ∧ b < fs.length ∧ pj_fit (pj_fty a b) v = true then some (.inl (ci, pj_pu fs b v)) else none : Option pj_Cell).map rn_c
    rw [List.length_map, rn_fit, rn_pu]
    by_cases q : ci = a ∧ b < fs.length ∧ pj_fit (pj_fty a b) v = true
    · rw [if_pos q, if_pos q]
      rfl
    · rw [if_neg q, if_neg q]
      rfl
  | .inr (_, _, .inl _) => rfl
  | .inr (_, _, .inr _) => rfl
theorem rn_arl (c : pj_Cell) (u : Nat) (i : Int32) : pj_arl (rn_c c) u i = pj_arl c u i :=
  match c with
  | .inl (_, _) => rfl
  | .inr (_, _, .inl _) => rfl
  | .inr (_, _, .inr _) => rfl
theorem rn_ars (c : pj_Cell) (u : Nat) (i x : Int32) : pj_ars (rn_c c) u i x = (pj_ars c u i x).map rn_c :=
  match c with
  | .inl (_, _) => rfl
  | .inr (t, n, .inl f) => by
    show (if t = u ∧ pj_in i n = true then some (.inr (t, n, .inl (upd f i.toNatClampNeg x))) else none : Option pj_Cell) = (if t = u ∧ pj_in i n = true then some (.inr (t, n, .inl (upd f i.toNatClampNeg x))) else none : Option pj_Cell).map rn_c
    by_cases q : t = u ∧ pj_in i n = true
    · rw [if_pos q]
      rfl
    · rw [if_neg q]
      rfl
  | .inr (_, _, .inr _) => rfl
theorem rn_qrl (c : pj_Cell) (i : Int32) : pj_qrl (rn_c c) i = (pj_qrl c i).map rn_v :=
  match c with
  | .inl (_, _) => rfl
  | .inr (_, _, .inl _) => rfl
  | .inr (t, n, .inr f) => by
    show (if t = 3 ∧ pj_in i n = true then some (va_rf ((f i.toNatClampNeg).map rn_s)) else none) = (if t = 3 ∧ pj_in i n = true then some (va_rf (f i.toNatClampNeg)) else none).map rn_v
    by_cases q : t = 3 ∧ pj_in i n = true
    · rw [if_pos q, if_pos q]
      cases f i.toNatClampNeg <;> rfl
    · rw [if_neg q, if_neg q]
      rfl
theorem rn_vup {f : Nat → Option Nat} {k x : Nat} : va_up (fun i => (f i).map rn_s) k (some (rn_s x)) = fun i => (va_up f k (some x) i).map rn_s := by
  funext j
  unfold va_up
  by_cases h : j = k
  · rw [if_pos h, if_pos h]
    rfl
  · rw [if_neg h, if_neg h]
theorem rn_qrs (c : pj_Cell) (i : Int32) (x : Nat) : pj_qrs (rn_c c) i (rn_s x) = (pj_qrs c i x).map rn_c :=
  match c with
  | .inl (_, _) => rfl
  | .inr (_, _, .inl _) => rfl
  | .inr (t, n, .inr f) => by
    show (if t = 3 ∧ pj_in i n = true then some (.inr (t, n, .inr (va_up (fun i => (f i).map rn_s) i.toNatClampNeg (some (rn_s x))))) else none : Option pj_Cell) = (if t = 3 ∧ pj_in i n = true then some (.inr (t, n, .inr (va_up f i.toNatClampNeg (some x)))) else none : Option pj_Cell).map rn_c
    by_cases q : t = 3 ∧ pj_in i n = true
    · rw [if_pos q, if_pos q, rn_vup]
      rfl
    · rw [if_neg q, if_neg q]
      rfl
theorem rn_isU (U : Nat) (c : pj_Cell) : pj_isU U (rn_c c) = pj_isU U c :=
  match c with
  | .inl (_, _) => rfl
  | .inr (_, _, .inl _) => rfl
  | .inr (_, _, .inr _) => rfl
theorem rn_len (c : pj_Cell) : pj_len (rn_c c) = pj_len c :=
  match c with
  | .inl (_, _) => rfl
  | .inr (_, _, .inl _) => rfl
  | .inr (_, _, .inr _) => rfl
theorem rn_cas (c e : pj_Cell) (sp dp n : Int32) : pj_cas (rn_c c) (rn_c e) sp dp n = (pj_cas c e sp dp n).map rn_c :=
  match c, e with
  | .inl (_, _), .inl (_, _) => rfl
  | .inl (_, _), .inr (_, _, .inl _) => rfl
  | .inl (_, _), .inr (_, _, .inr _) => rfl
  | .inr (_, _, .inr _), .inl (_, _) => rfl
  | .inr (_, _, .inr _), .inr (_, _, .inl _) => rfl
  | .inr (_, _, .inr _), .inr (_, _, .inr _) => rfl
  | .inr (_, _, .inl _), .inl (_, _) => rfl
  | .inr (_, _, .inl _), .inr (_, _, .inr _) => rfl
  | .inr (t, n0, .inl f), .inr (u, n1, .inl g) => by
    show (if t = 0 ∧ u = 0 ∧ ¬ sp < 0 ∧ ¬ dp < 0 ∧ ¬ n < 0 ∧ sp.toNatClampNeg + n.toNatClampNeg ≤ n0 ∧ dp.toNatClampNeg + n.toNatClampNeg ≤ n1 then some (.inr (u, n1, .inl (va_cpy f g sp.toNatClampNeg dp.toNatClampNeg n.toNatClampNeg))) else none : Option pj_Cell) = (if t = 0 ∧ u = 0 ∧ ¬ sp < 0 ∧ ¬ dp < 0 ∧ ¬ n < 0 ∧ sp.toNatClampNeg + n.toNatClampNeg ≤ n0 ∧ dp.toNatClampNeg + n.toNatClampNeg ≤ n1 then some (.inr (u, n1, .inl (va_cpy f g sp.toNatClampNeg dp.toNatClampNeg n.toNatClampNeg))) else none : Option pj_Cell).map rn_c
    by_cases q : t = 0 ∧ u = 0 ∧ ¬ sp < 0 ∧ ¬ dp < 0 ∧ ¬ n < 0 ∧ sp.toNatClampNeg + n.toNatClampNeg ≤ n0 ∧ dp.toNatClampNeg + n.toNatClampNeg ≤ n1
    · rw [if_pos q]
      rfl
    · rw [if_neg q]
      rfl
theorem rn_dfl (a : Nat) : (pj_dfl a).map rn_v = pj_dfl a := by
  unfold pj_dfl
  cases vwCl[a]? with
  | none => rfl
  | some q =>
    simp only [List.map_map]
    apply List.map_congr_left
    intro k _
    show rn_v (defaultValue (pj_fty a k)) = _
    cases pj_fty a k <;> rfl
