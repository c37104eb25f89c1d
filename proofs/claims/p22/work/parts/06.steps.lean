/-! THE PURE MACHINE IS SOUND, 1: the steps that are no call of a method of the claim and no return -/
set_option maxRecDepth 100000 in
theorem pj_cls_all : vwCl.all (fun q => (u_ws q.1 q.2.1 q.2.2).all (fun w => decide (w ∈ lw_tbl) && goodWord w)) = true := by decide +kernel
theorem pj_cls_in {a : Nat} {q : vw_C} (h : vwCl[a]? = some q) : ∀ w ∈ u_ws q.1 q.2.1 q.2.2, w ∈ pj_tbl := by
  intro w hw
  have h1 := List.all_eq_true.mp (List.all_eq_true.mp pj_cls_all q (List.mem_of_getElem? h)) w hw
  rw [Bool.and_eq_true, decide_eq_true_eq] at h1
  exact List.mem_filter.mpr h1
theorem pj_cls_ty {a : Nat} {q : vw_C} (h : vwCl[a]? = some q) : (∀ k, k < q.2.2 → parseFieldDescriptor (q.2.1 k).2.2.1 = some (pj_fty a k)) ∧ (∀ x, x < q.2.2 → ∀ y, y < q.2.2 → x ≠ y → (q.2.1 x).2.1 ≠ (q.2.1 y).2.1) := by
  match a, h with
  | 0, h => cases h; exact ⟨tyX0_ok, nmX0⟩
  | 1, h => cases h; exact ⟨tyX1_ok, nmX1⟩
  | 2, h => cases h; exact ⟨tyX2_ok, nmX2⟩
  | 3, h => cases h; exact ⟨tyX3_ok, nmX3⟩
  | 4, h => cases h; exact ⟨tyX4_ok, nmX4⟩
  | 5, h => cases h; exact ⟨tyX5_ok, nmX5⟩
  | _ + 6, h => cases h
theorem pj_cls_lt {a : Nat} {q : vw_C} (h : vwCl[a]? = some q) : a < 6 := (List.getElem?_eq_some_iff.mp h).1
theorem pj_cls_w {a : Nat} {q : vw_C} (h : vwCl[a]? = some q) : Jvm.Cond.instantiable q.1 q.2.2 ∈ pj_tbl ∧ Jvm.Cond.initialized q.1 ∈ pj_tbl := by
  have h1 := List.all_eq_true.mp pj_cp_ok a (List.mem_range.mpr (pj_cls_lt h))
  unfold pj_cpB at h1
  rw [h] at h1
  rw [Bool.and_eq_true] at h1
  exact ⟨pj_good h1.1 rfl, pj_good h1.2 rfl⟩
theorem pj_fl_of {o i a b : Nat} (h : pj_flt.any (fun e => e.1 == o && e.2.1 == i && e.2.2.1 == a && e.2.2.2.1 == b) = true) : ∃ q, vwCl[a]? = some q ∧ b < q.2.2 ∧ Jvm.Cond.fieldLink (pj_on o) i (q.2.1 b).1 (q.2.1 b).2.1 (q.2.1 b).2.2.1 ∈ pj_tbl := by
  obtain ⟨e, he, h1⟩ := List.any_eq_true.mp h
  simp only [Bool.and_eq_true, beq_iff_eq] at h1
  obtain ⟨⟨⟨rfl, rfl⟩, rfl⟩, rfl⟩ := h1
  have h2 := List.all_eq_true.mp pj_fl_ok e he
  unfold pj_flB at h2
  cases hq : vwCl[e.2.2.1]? with
  | none => rw [hq] at h2; cases h2
  | some q =>
    rw [hq] at h2
    simp only [Bool.and_eq_true, decide_eq_true_eq] at h2
    exact ⟨q, rfl, h2.1, pj_good h2.2 rfl⟩
theorem pj_nth_eq : ∀ (l : List Value) (n : Nat), pj_nth l n = l[n]?
  | [], n => by simp [pj_nth]
  | _ :: _, 0 => rfl
  | _ :: l, n + 1 => by rw [List.getElem?_cons_succ]; exact pj_nth_eq l n
theorem pj_pu_eq : ∀ (l : List Value) (n : Nat) (v : Value), pj_pu l n v = l.set n v
  | [], n, v => by simp [pj_pu]
  | _ :: _, 0, _ => rfl
  | a :: l, n + 1, v => by rw [List.set_cons_succ]; show a :: pj_pu l n v = _; rw [pj_pu_eq l n v]
theorem pj_fit_e {G : pj_G} {ty : FieldType} {v : Value} (h : pj_fit ty v = true) : narrow ty (pj_e G v) = pj_e G v ∧ fits ty (pj_e G v) = true := by
  unfold pj_fit at h
  rw [Bool.and_eq_true, decide_eq_true_eq] at h
  cases v with
  | ref a => cases ty <;> first | exact ⟨rfl, rfl⟩ | exact (Bool.false_ne_true h.2).elim
  | _ => exact h
theorem pj_made_obj {G : pj_G} {M : pj_Mem} {H : Heap} {o ci : Nat} {fs : List Value} (hW : pj_W G M H) (h : M.2.2 o = .inl (ci, fs)) (hc : ci < 99) : 4 ≤ o ∧ o < M.1 := by
  obtain ⟨-, -, -, h4, h5, -⟩ := hW
  refine ⟨?_, ?_⟩
  · rcases Nat.lt_or_ge o 4 with q | q
    · have := h4 o q
      rw [h] at this
      cases this
    · exact q
  · rcases Nat.lt_or_ge o M.1 with q | q
    · exact q
    · have := h5 o q
      rw [h] at this
      have e : ci = 99 := congrArg Prod.fst (Sum.inl.inj this)
      omega
theorem pj_made_arr {G : pj_G} {M : pj_Mem} {H : Heap} {o t n : Nat} {x : pj_Arr} (hW : pj_W G M H) (h : M.2.2 o = .inr (t, n, x)) (hc : t < 4) : 4 ≤ o ∧ o < M.1 := by
  obtain ⟨-, -, -, h4, h5, -⟩ := hW
  refine ⟨?_, ?_⟩
  · rcases Nat.lt_or_ge o 4 with q | q
    · have := h4 o q
      rw [h] at this
      have e : t = 4 := congrArg Prod.fst (Sum.inr.inj this)
      omega
    · exact q
  · rcases Nat.lt_or_ge o M.1 with q | q
    · exact q
    · have := h5 o q
      rw [h] at this
      cases this
theorem pj_ro_arr {G : pj_G} {M : pj_Mem} {H : Heap} {o n : Nat} {x : pj_Arr} (hW : pj_W G M H) (h : M.2.2 o = .inr (4, n, x)) : o < 4 ∧ n = (G.2.2.1 o).1 ∧ x = .inl (G.2.2.1 o).2 := by
  obtain ⟨-, -, -, h4, -, h6⟩ := hW
  rcases Nat.lt_or_ge o 4 with q | q
  · have := h4 o q
    rw [h] at this
    have e := Sum.inr.inj this
    exact ⟨q, congrArg (fun z => z.2.1) e, congrArg (fun z => z.2.2) e⟩
  · exact absurd (h6 o q _ _ _ h) (by decide)
theorem pj_W_set {G : pj_G} {M : pj_Mem} {H H1 : Heap} {a : Nat} {c0 : pj_Cell} (hW : pj_W G M H) (ha : 4 ≤ a) (hn : a < M.1) (he : va_at G.2.2.2.1 vwCl (pj_ad G a, pj_ec G c0) H1) (hz : H1.size = H.size) (ho : ∀ q : Nat, q ≠ pj_ad G a → H1[q]? = H[q]?) (hk : ∀ t n x, c0 = .inr (t, n, x) → t < 4) : pj_W G (M.1, M.2.1, pj_up M.2.2 a c0) H1 := by
  obtain ⟨h1, h2, h3, h4, h5, h6⟩ := hW
  refine ⟨?_, by rw [hz]; exact h2, h3, fun j hj => ?_, fun j hj => ?_, fun j hj t n x h => ?_⟩
  · show va_P _ _ (pj_ws G M.1 (pj_up M.2.2 a c0)) H1
    rw [← pj_ws_set ha hn]
    exact h1.set (pj_ws_D G M.1 M.2.2) (pj_ws_get ha hn) he ho
  · show pj_up M.2.2 a c0 j = _
    rw [pj_up, if_neg (by omega)]
    exact h4 j hj
  · show pj_up M.2.2 a c0 j = _
    rw [pj_up, if_neg (by show ¬ j = a; have : M.1 ≤ j := hj; omega)]
    exact h5 j hj
  · have h' : pj_up M.2.2 a c0 j = .inr (t, n, x) := h
    by_cases e : j = a
    · rw [pj_up, if_pos e] at h'
      exact hk t n x h'
    · rw [pj_up, if_neg e] at h'
      exact h6 j hj t n x h'
theorem pj_S_set {G : pj_G} {H0 H H1 : Heap} {locs : List Loc} {a i : Nat} (hS : va_S (pj_A G) H0 H locs) (ha : 4 ≤ a) (hz : H1.size = H.size) (ho : ∀ q : Nat, q ≠ pj_ad G a → H1[q]? = H[q]?) : va_S (pj_A G) H0 H1 (locs ++ [⟨pj_ad G a, i⟩]) :=
  hS.put hz ho (by rw [pj_ad_hi ha]; show G.1 ≤ _; omega)
theorem pj_W_push {G : pj_G} {M : pj_Mem} {H H1 : Heap} {c0 : pj_Cell} {n : Nat} (hW : pj_W G M H) (he : va_at G.2.2.2.1 vwCl (H.size, pj_ec G c0) H1) (hz : H1.size = H.size + 1) (ho : ∀ q : Nat, q < H.size → H1[q]? = H[q]?) (hk : ∀ t n x, c0 = .inr (t, n, x) → t < 4) : pj_W G (M.1 + 1, n, pj_up M.2.2 M.1 c0) H1 := by
  obtain ⟨h1, h2, h3, h4, h5, h6⟩ := hW
  refine ⟨?_, by show H1.size = G.1 + (M.1 + 1 - 4); rw [hz]; omega, by show 4 ≤ M.1 + 1; omega, fun j hj => ?_, fun j hj => ?_, fun j hj t n x h => ?_⟩
  · show va_P _ _ (pj_ws G (M.1 + 1) (pj_up M.2.2 M.1 c0)) H1
    rw [pj_ws_push h3]
    refine (h1.kept (fun k q hq => ho q.1 ((h1 k q hq).lt))).app (fun k q hq => ?_)
    have hz : k < 1 := (List.getElem?_eq_some_iff.mp hq).1
    rw [show k = 0 by omega] at hq
    cases hq
    rw [← h2]
    exact he
  · show pj_up M.2.2 M.1 c0 j = _
    rw [pj_up, if_neg (by omega)]
    exact h4 j hj
  · show pj_up M.2.2 M.1 c0 j = _
    have hj' : M.1 + 1 ≤ j := hj
    rw [pj_up, if_neg (by omega)]
    exact h5 j (by omega)
  · have h' : pj_up M.2.2 M.1 c0 j = .inr (t, n, x) := h
    by_cases e : j = M.1
    · rw [pj_up, if_pos e] at h'
      exact hk t n x h'
    · rw [pj_up, if_neg e] at h'
      exact h6 j hj t n x h'
theorem pj_S_push {G : pj_G} {H0 H H1 : Heap} {locs : List Loc} (hS : va_S (pj_A G) H0 H locs) (hz : H1.size = H.size + 1) (ho : ∀ q : Nat, q < H.size → H1[q]? = H[q]?) : va_S (pj_A G) H0 H1 locs :=
  ⟨Nat.le_trans hS.1 (by omega), fun x h1 h2 => (ho x (Nat.lt_of_lt_of_le h1 hS.1)).trans (hS.2.1 x h1 h2), hS.2.2⟩
theorem pj_in_vp {i : Int32} {n : Nat} (h : pj_in i n = true) : vp_in i n := by
  unfold pj_in at h
  intro q
  rcases q with q | q
  · rw [decide_eq_true q] at h; cases h
  · rw [decide_eq_true q, Bool.or_true] at h; cases h
theorem pj_le4_sum (G : pj_G) : ∀ {st : List Value}, pj_le4 st = true → ((st.map (pj_e G)).map fun v => v.category).sum ≤ 8 := by
  have hc : ∀ v : Value, (pj_e G v).category ≤ 2 := fun v => by rcases lv_cat (pj_e G v) with h | h <;> rw [h] <;> decide
  intro st h
  match st, h with
  | [], _ => exact Nat.zero_le _
  | [a], _ => have := hc a; simp; omega
  | [a, b], _ => have := hc a; have := hc b; simp; omega
  | [a, b, c], _ => have := hc a; have := hc b; have := hc c; simp; omega
  | [a, b, c, d], _ => have := hc a; have := hc b; have := hc c; have := hc d; simp; omega
theorem pj_tgt_eq {pc : Nat} {off : Int} {t : Nat} (h : pj_tgt pc off = some t) : (pc : Int) + off = (t : Int) := by
  unfold pj_tgt at h
  split at h
  · rename_i hp
    have e : ((pc : Int) + off).toNat = t := Option.some.inj h
    rw [← e]
    omega
  · cases h
theorem pj_one1_cat {G : pj_G} {v : Value} (h : pj_one1 v = true) : (pj_e G v).category = 1 := by
  cases v <;> first | rfl | exact (Bool.false_ne_true h).elim
section PJS
variable {G : pj_G} {k : Nat} {p : Program} {l : Launch} {e : Env} {R : Room} {s : State} {m : MethodId} {args : Array Value} {below : List Frame} {meth : Method} {c : Code} {H : Heap} {locs : List Loc} {Q : State → Prop} {pc : Nat} {ls : Array Slot} {N0 S0 : Nat} {L : pj_Loc} {M : pj_Mem}
/-- what goes on behind a step -/
def pj_K (G : pj_G) (k : Nat) (p : Program) (l : Launch) (e : Env) (R : Room) (s : State) (m : MethodId) (args : Array Value) (below : List Frame) (meth : Method) (c : Code) (Q : State → Prop) (N0 S0 : Nat) (g : pj_Cfg) : Prop :=
  ∀ (ls' : Array Slot) (H' : Heap) (locs' : List Loc), pj_has G ls' (pj_ml k) g.2.1 → pj_W G g.2.2.2 H' → va_S (pj_A G) s.heap H' locs' → W p l e R s m args below meth c H' locs' (g.2.2.2.1 - N0) (g.2.2.2.2.1 - S0) Q (F0 m g.1 ls' (g.2.2.1.map (pj_e G)))

theorem pj_o_iadd {st : List Value} {g : pj_Cfg} (hX : pj_X G k p s m args meth c) (hL : pj_has G ls (pj_ml k) L) (hW : pj_W G M H) (hS : va_S (pj_A G) s.heap H locs) (hd : decode (pj_by k) pc = .ok (.iadd, 1)) (h : pj_bin (fun x y => x + y) (pc + 1) L M st = some g) (K : pj_K G k p l e R s m args below meth c Q N0 S0 g) : W p l e R s m args below meth c H locs (M.1 - N0) (M.2.1 - S0) Q (F0 m pc ls (st.map (pj_e G))) := by
  match st, h with
  | .int y :: .int x :: st, h => cases h; exact lv_iadd hX.1 hX.2.1 hd (K ls H locs hL hW hS)
theorem pj_o_isub {st : List Value} {g : pj_Cfg} (hX : pj_X G k p s m args meth c) (hL : pj_has G ls (pj_ml k) L) (hW : pj_W G M H) (hS : va_S (pj_A G) s.heap H locs) (hd : decode (pj_by k) pc = .ok (.isub, 1)) (h : pj_bin (fun x y => x - y) (pc + 1) L M st = some g) (K : pj_K G k p l e R s m args below meth c Q N0 S0 g) : W p l e R s m args below meth c H locs (M.1 - N0) (M.2.1 - S0) Q (F0 m pc ls (st.map (pj_e G))) := by
  match st, h with
  | .int y :: .int x :: st, h => cases h; exact lv_isub hX.1 hX.2.1 hd (K ls H locs hL hW hS)
theorem pj_o_imul {st : List Value} {g : pj_Cfg} (hX : pj_X G k p s m args meth c) (hL : pj_has G ls (pj_ml k) L) (hW : pj_W G M H) (hS : va_S (pj_A G) s.heap H locs) (hd : decode (pj_by k) pc = .ok (.imul, 1)) (h : pj_bin (fun x y => x * y) (pc + 1) L M st = some g) (K : pj_K G k p l e R s m args below meth c Q N0 S0 g) : W p l e R s m args below meth c H locs (M.1 - N0) (M.2.1 - S0) Q (F0 m pc ls (st.map (pj_e G))) := by
  match st, h with
  | .int y :: .int x :: st, h => cases h; exact lv_imul hX.1 hX.2.1 hd (K ls H locs hL hW hS)
theorem pj_o_iand {st : List Value} {g : pj_Cfg} (hX : pj_X G k p s m args meth c) (hL : pj_has G ls (pj_ml k) L) (hW : pj_W G M H) (hS : va_S (pj_A G) s.heap H locs) (hd : decode (pj_by k) pc = .ok (.iand, 1)) (h : pj_bin (fun x y => x &&& y) (pc + 1) L M st = some g) (K : pj_K G k p l e R s m args below meth c Q N0 S0 g) : W p l e R s m args below meth c H locs (M.1 - N0) (M.2.1 - S0) Q (F0 m pc ls (st.map (pj_e G))) := by
  match st, h with
  | .int y :: .int x :: st, h => cases h; exact lv_iand hX.1 hX.2.1 hd (K ls H locs hL hW hS)
theorem pj_o_ior {st : List Value} {g : pj_Cfg} (hX : pj_X G k p s m args meth c) (hL : pj_has G ls (pj_ml k) L) (hW : pj_W G M H) (hS : va_S (pj_A G) s.heap H locs) (hd : decode (pj_by k) pc = .ok (.ior, 1)) (h : pj_bin (fun x y => x ||| y) (pc + 1) L M st = some g) (K : pj_K G k p l e R s m args below meth c Q N0 S0 g) : W p l e R s m args below meth c H locs (M.1 - N0) (M.2.1 - S0) Q (F0 m pc ls (st.map (pj_e G))) := by
  match st, h with
  | .int y :: .int x :: st, h => cases h; exact lv_ior hX.1 hX.2.1 hd (K ls H locs hL hW hS)
theorem pj_o_ixor {st : List Value} {g : pj_Cfg} (hX : pj_X G k p s m args meth c) (hL : pj_has G ls (pj_ml k) L) (hW : pj_W G M H) (hS : va_S (pj_A G) s.heap H locs) (hd : decode (pj_by k) pc = .ok (.ixor, 1)) (h : pj_bin (fun x y => x ^^^ y) (pc + 1) L M st = some g) (K : pj_K G k p l e R s m args below meth c Q N0 S0 g) : W p l e R s m args below meth c H locs (M.1 - N0) (M.2.1 - S0) Q (F0 m pc ls (st.map (pj_e G))) := by
  match st, h with
  | .int y :: .int x :: st, h => cases h; exact lv_ixor hX.1 hX.2.1 hd (K ls H locs hL hW hS)
theorem pj_o_ishl {st : List Value} {g : pj_Cfg} (hX : pj_X G k p s m args meth c) (hL : pj_has G ls (pj_ml k) L) (hW : pj_W G M H) (hS : va_S (pj_A G) s.heap H locs) (hd : decode (pj_by k) pc = .ok (.ishl, 1)) (h : pj_bin (fun x y => x <<< (y &&& 31)) (pc + 1) L M st = some g) (K : pj_K G k p l e R s m args below meth c Q N0 S0 g) : W p l e R s m args below meth c H locs (M.1 - N0) (M.2.1 - S0) Q (F0 m pc ls (st.map (pj_e G))) := by
  match st, h with
  | .int y :: .int x :: st, h => cases h; exact lv_ishl hX.1 hX.2.1 hd (K ls H locs hL hW hS)
theorem pj_o_ishr {st : List Value} {g : pj_Cfg} (hX : pj_X G k p s m args meth c) (hL : pj_has G ls (pj_ml k) L) (hW : pj_W G M H) (hS : va_S (pj_A G) s.heap H locs) (hd : decode (pj_by k) pc = .ok (.ishr, 1)) (h : pj_bin (fun x y => x >>> (y &&& 31)) (pc + 1) L M st = some g) (K : pj_K G k p l e R s m args below meth c Q N0 S0 g) : W p l e R s m args below meth c H locs (M.1 - N0) (M.2.1 - S0) Q (F0 m pc ls (st.map (pj_e G))) := by
  match st, h with
  | .int y :: .int x :: st, h => cases h; exact lv_ishr hX.1 hX.2.1 hd (K ls H locs hL hW hS)
theorem pj_o_iushr {st : List Value} {g : pj_Cfg} (hX : pj_X G k p s m args meth c) (hL : pj_has G ls (pj_ml k) L) (hW : pj_W G M H) (hS : va_S (pj_A G) s.heap H locs) (hd : decode (pj_by k) pc = .ok (.iushr, 1)) (h : pj_bin (fun x y => (x.toUInt32 >>> (y.toUInt32 &&& Int32.toUInt32 31)).toInt32) (pc + 1) L M st = some g) (K : pj_K G k p l e R s m args below meth c Q N0 S0 g) : W p l e R s m args below meth c H locs (M.1 - N0) (M.2.1 - S0) Q (F0 m pc ls (st.map (pj_e G))) := by
  match st, h with
  | .int y :: .int x :: st, h => cases h; exact lv_iushr hX.1 hX.2.1 hd rfl (K ls H locs hL hW hS)
theorem pj_o_land {st : List Value} {g : pj_Cfg} (hX : pj_X G k p s m args meth c) (hL : pj_has G ls (pj_ml k) L) (hW : pj_W G M H) (hS : va_S (pj_A G) s.heap H locs) (hd : decode (pj_by k) pc = .ok (.land, 1)) (h : pj_binl (fun x y => x &&& y) (pc + 1) L M st = some g) (K : pj_K G k p l e R s m args below meth c Q N0 S0 g) : W p l e R s m args below meth c H locs (M.1 - N0) (M.2.1 - S0) Q (F0 m pc ls (st.map (pj_e G))) := by
  match st, h with
  | .long y :: .long x :: st, h => cases h; exact lv_land hX.1 hX.2.1 hd (K ls H locs hL hW hS)
theorem pj_o_lor {st : List Value} {g : pj_Cfg} (hX : pj_X G k p s m args meth c) (hL : pj_has G ls (pj_ml k) L) (hW : pj_W G M H) (hS : va_S (pj_A G) s.heap H locs) (hd : decode (pj_by k) pc = .ok (.lor, 1)) (h : pj_binl (fun x y => x ||| y) (pc + 1) L M st = some g) (K : pj_K G k p l e R s m args below meth c Q N0 S0 g) : W p l e R s m args below meth c H locs (M.1 - N0) (M.2.1 - S0) Q (F0 m pc ls (st.map (pj_e G))) := by
  match st, h with
  | .long y :: .long x :: st, h => cases h; exact lv_lor hX.1 hX.2.1 hd (K ls H locs hL hW hS)
theorem pj_o_lsub {st : List Value} {g : pj_Cfg} (hX : pj_X G k p s m args meth c) (hL : pj_has G ls (pj_ml k) L) (hW : pj_W G M H) (hS : va_S (pj_A G) s.heap H locs) (hd : decode (pj_by k) pc = .ok (.lsub, 1)) (h : pj_binl (fun x y => x - y) (pc + 1) L M st = some g) (K : pj_K G k p l e R s m args below meth c Q N0 S0 g) : W p l e R s m args below meth c H locs (M.1 - N0) (M.2.1 - S0) Q (F0 m pc ls (st.map (pj_e G))) := by
  match st, h with
  | .long y :: .long x :: st, h => cases h; exact lv_lsub hX.1 hX.2.1 hd (K ls H locs hL hW hS)
theorem pj_o_lushr {st : List Value} {g : pj_Cfg} (hX : pj_X G k p s m args meth c) (hL : pj_has G ls (pj_ml k) L) (hW : pj_W G M H) (hS : va_S (pj_A G) s.heap H locs) (hd : decode (pj_by k) pc = .ok (.lushr, 1)) (h : pj_lsh (fun x y => (x.toUInt64 >>> (y.toInt64.toUInt64 &&& Int64.toUInt64 63)).toInt64) (pc + 1) L M st = some g) (K : pj_K G k p l e R s m args below meth c Q N0 S0 g) : W p l e R s m args below meth c H locs (M.1 - N0) (M.2.1 - S0) Q (F0 m pc ls (st.map (pj_e G))) := by
  match st, h with
  | .int y :: .long x :: st, h => cases h; exact lv_lushr hX.1 hX.2.1 hd rfl (K ls H locs hL hW hS)
theorem pj_o_lshl {st : List Value} {g : pj_Cfg} (hX : pj_X G k p s m args meth c) (hL : pj_has G ls (pj_ml k) L) (hW : pj_W G M H) (hS : va_S (pj_A G) s.heap H locs) (hd : decode (pj_by k) pc = .ok (.lshl, 1)) (h : pj_lsh (fun x y => x <<< (y.toInt64 &&& 63)) (pc + 1) L M st = some g) (K : pj_K G k p l e R s m args below meth c Q N0 S0 g) : W p l e R s m args below meth c H locs (M.1 - N0) (M.2.1 - S0) Q (F0 m pc ls (st.map (pj_e G))) := by
  match st, h with
  | .int y :: .long x :: st, h => cases h; exact lv_lshl hX.1 hX.2.1 hd rfl (K ls H locs hL hW hS)
theorem pj_o_lcmp {st : List Value} {g : pj_Cfg} (hX : pj_X G k p s m args meth c) (hL : pj_has G ls (pj_ml k) L) (hW : pj_W G M H) (hS : va_S (pj_A G) s.heap H locs) (hd : decode (pj_by k) pc = .ok (.lcmp, 1)) (h : pj_lcmp (pc + 1) L M st = some g) (K : pj_K G k p l e R s m args below meth c Q N0 S0 g) : W p l e R s m args below meth c H locs (M.1 - N0) (M.2.1 - S0) Q (F0 m pc ls (st.map (pj_e G))) := by
  match st, h with
  | .long y :: .long x :: st, h => cases h; exact W.lcmp hX.1 hX.2.1 hd (K ls H locs hL hW hS)
theorem pj_o_idiv {st : List Value} {g : pj_Cfg} (hX : pj_X G k p s m args meth c) (hL : pj_has G ls (pj_ml k) L) (hW : pj_W G M H) (hS : va_S (pj_A G) s.heap H locs) (hd : decode (pj_by k) pc = .ok (.idiv, 1)) {x y : Int32} (hy : ¬ y = 0) (hg : g = (pc + 1, L, .int (x / y) :: st, M)) (K : pj_K G k p l e R s m args below meth c Q N0 S0 g) : W p l e R s m args below meth c H locs (M.1 - N0) (M.2.1 - S0) Q (F0 m pc ls ((Value.int y :: .int x :: st).map (pj_e G))) := by
  subst hg
  exact lv_idiv hX.1 hX.2.1 hd hy (K ls H locs hL hW hS)
theorem pj_o_irem {st : List Value} {g : pj_Cfg} (hX : pj_X G k p s m args meth c) (hL : pj_has G ls (pj_ml k) L) (hW : pj_W G M H) (hS : va_S (pj_A G) s.heap H locs) (hd : decode (pj_by k) pc = .ok (.irem, 1)) {x y : Int32} (hy : ¬ y = 0) (hg : g = (pc + 1, L, .int (x - x / y * y) :: st, M)) (K : pj_K G k p l e R s m args below meth c Q N0 S0 g) : W p l e R s m args below meth c H locs (M.1 - N0) (M.2.1 - S0) Q (F0 m pc ls ((Value.int y :: .int x :: st).map (pj_e G))) := by
  subst hg
  exact lv_irem hX.1 hX.2.1 hd hy (K ls H locs hL hW hS)
theorem pj_o_ineg {st : List Value} {g : pj_Cfg} (hX : pj_X G k p s m args meth c) (hL : pj_has G ls (pj_ml k) L) (hW : pj_W G M H) (hS : va_S (pj_A G) s.heap H locs) (hd : decode (pj_by k) pc = .ok (.ineg, 1)) (h : pj_un (fun x => .int (-x)) (pc + 1) L M st = some g) (K : pj_K G k p l e R s m args below meth c Q N0 S0 g) : W p l e R s m args below meth c H locs (M.1 - N0) (M.2.1 - S0) Q (F0 m pc ls (st.map (pj_e G))) := by
  match st, h with
  | .int x :: st, h => cases h; exact lv_ineg hX.1 hX.2.1 hd (K ls H locs hL hW hS)
theorem pj_o_i2l {st : List Value} {g : pj_Cfg} (hX : pj_X G k p s m args meth c) (hL : pj_has G ls (pj_ml k) L) (hW : pj_W G M H) (hS : va_S (pj_A G) s.heap H locs) (hd : decode (pj_by k) pc = .ok (.i2l, 1)) (h : pj_un (fun x => .long x.toInt64) (pc + 1) L M st = some g) (K : pj_K G k p l e R s m args below meth c Q N0 S0 g) : W p l e R s m args below meth c H locs (M.1 - N0) (M.2.1 - S0) Q (F0 m pc ls (st.map (pj_e G))) := by
  match st, h with
  | .int x :: st, h => cases h; exact lv_i2l hX.1 hX.2.1 hd rfl (K ls H locs hL hW hS)
theorem pj_o_i2c {st : List Value} {g : pj_Cfg} (hX : pj_X G k p s m args meth c) (hL : pj_has G ls (pj_ml k) L) (hW : pj_W G M H) (hS : va_S (pj_A G) s.heap H locs) (hd : decode (pj_by k) pc = .ok (.i2c, 1)) (h : pj_un (fun x => .int (x.toUInt32 % 65536).toInt32) (pc + 1) L M st = some g) (K : pj_K G k p l e R s m args below meth c Q N0 S0 g) : W p l e R s m args below meth c H locs (M.1 - N0) (M.2.1 - S0) Q (F0 m pc ls (st.map (pj_e G))) := by
  match st, h with
  | .int x :: st, h => cases h; exact lv_i2c hX.1 hX.2.1 hd rfl (K ls H locs hL hW hS)
theorem pj_o_l2i {st : List Value} {g : pj_Cfg} (hX : pj_X G k p s m args meth c) (hL : pj_has G ls (pj_ml k) L) (hW : pj_W G M H) (hS : va_S (pj_A G) s.heap H locs) (hd : decode (pj_by k) pc = .ok (.l2i, 1)) (h : pj_l2i (pc + 1) L M st = some g) (K : pj_K G k p l e R s m args below meth c Q N0 S0 g) : W p l e R s m args below meth c H locs (M.1 - N0) (M.2.1 - S0) Q (F0 m pc ls (st.map (pj_e G))) := by
  match st, h with
  | .long x :: st, h => cases h; exact lv_l2i hX.1 hX.2.1 hd rfl (K ls H locs hL hW hS)
theorem pj_o_iload {st : List Value} {g : pj_Cfg} (hX : pj_X G k p s m args meth c) (hL : pj_has G ls (pj_ml k) L) (hW : pj_W G M H) (hS : va_S (pj_A G) s.heap H locs) {i : Nat} (hd : decode (pj_by k) pc = .ok (.iload i, 2)) (h : pj_iload i (pc + 2) L M st = some g) (K : pj_K G k p l e R s m args below meth c Q N0 S0 g) : W p l e R s m args below meth c H locs (M.1 - N0) (M.2.1 - S0) Q (F0 m pc ls (st.map (pj_e G))) := by
  unfold pj_iload at h
  split at h
  · rename_i x hx
    cases h
    exact lv_iload hX.1 hX.2.1 hd (hL.2.2.2 _ _ hx) (K ls H locs hL hW hS)
  · cases h
theorem pj_o_iload_n {st : List Value} {g : pj_Cfg} (hX : pj_X G k p s m args meth c) (hL : pj_has G ls (pj_ml k) L) (hW : pj_W G M H) (hS : va_S (pj_A G) s.heap H locs) {i : Fin 4} (hd : decode (pj_by k) pc = .ok (.iload_n i, 1)) (h : pj_iload i (pc + 1) L M st = some g) (K : pj_K G k p l e R s m args below meth c Q N0 S0 g) : W p l e R s m args below meth c H locs (M.1 - N0) (M.2.1 - S0) Q (F0 m pc ls (st.map (pj_e G))) := by
  unfold pj_iload at h
  split at h
  · rename_i x hx
    cases h
    exact lv_iload_n hX.1 hX.2.1 hd rfl (hL.2.2.2 _ _ hx) (K ls H locs hL hW hS)
  · cases h
theorem pj_o_lload {st : List Value} {g : pj_Cfg} (hX : pj_X G k p s m args meth c) (hL : pj_has G ls (pj_ml k) L) (hW : pj_W G M H) (hS : va_S (pj_A G) s.heap H locs) {i : Nat} (hd : decode (pj_by k) pc = .ok (.lload i, 2)) (h : pj_lload i (pc + 2) L M st = some g) (K : pj_K G k p l e R s m args below meth c Q N0 S0 g) : W p l e R s m args below meth c H locs (M.1 - N0) (M.2.1 - S0) Q (F0 m pc ls (st.map (pj_e G))) := by
  unfold pj_lload at h
  split at h
  · rename_i x hx
    cases h
    exact lv_lload hX.1 hX.2.1 hd (hL.2.2.2 _ _ hx) (K ls H locs hL hW hS)
  · cases h
theorem pj_o_lload_n {st : List Value} {g : pj_Cfg} (hX : pj_X G k p s m args meth c) (hL : pj_has G ls (pj_ml k) L) (hW : pj_W G M H) (hS : va_S (pj_A G) s.heap H locs) {i : Fin 4} (hd : decode (pj_by k) pc = .ok (.lload_n i, 1)) (h : pj_lload i (pc + 1) L M st = some g) (K : pj_K G k p l e R s m args below meth c Q N0 S0 g) : W p l e R s m args below meth c H locs (M.1 - N0) (M.2.1 - S0) Q (F0 m pc ls (st.map (pj_e G))) := by
  unfold pj_lload at h
  split at h
  · rename_i x hx
    cases h
    exact lv_lload_n hX.1 hX.2.1 hd rfl (hL.2.2.2 _ _ hx) (K ls H locs hL hW hS)
  · cases h
theorem pj_o_aload {st : List Value} {g : pj_Cfg} (hX : pj_X G k p s m args meth c) (hL : pj_has G ls (pj_ml k) L) (hW : pj_W G M H) (hS : va_S (pj_A G) s.heap H locs) {i : Nat} (hd : decode (pj_by k) pc = .ok (.aload i, 2)) (h : pj_aload i (pc + 2) L M st = some g) (K : pj_K G k p l e R s m args below meth c Q N0 S0 g) : W p l e R s m args below meth c H locs (M.1 - N0) (M.2.1 - S0) Q (F0 m pc ls (st.map (pj_e G))) := by
  unfold pj_aload at h
  split at h
  · rename_i x hx
    cases h
    exact lv_aload hX.1 hX.2.1 hd (hL.2.2.2 _ _ hx) (K ls H locs hL hW hS)
  · cases h
theorem pj_o_aload_n {st : List Value} {g : pj_Cfg} (hX : pj_X G k p s m args meth c) (hL : pj_has G ls (pj_ml k) L) (hW : pj_W G M H) (hS : va_S (pj_A G) s.heap H locs) {i : Fin 4} (hd : decode (pj_by k) pc = .ok (.aload_n i, 1)) (h : pj_aload i (pc + 1) L M st = some g) (K : pj_K G k p l e R s m args below meth c Q N0 S0 g) : W p l e R s m args below meth c H locs (M.1 - N0) (M.2.1 - S0) Q (F0 m pc ls (st.map (pj_e G))) := by
  unfold pj_aload at h
  split at h
  · rename_i x hx
    cases h
    exact lv_aload_n hX.1 hX.2.1 hd rfl (hL.2.2.2 _ _ hx) (K ls H locs hL hW hS)
  · cases h
theorem pj_o_istore {st : List Value} {g : pj_Cfg} (hX : pj_X G k p s m args meth c) (hL : pj_has G ls (pj_ml k) L) (hW : pj_W G M H) (hS : va_S (pj_A G) s.heap H locs) {i : Nat} (hd : decode (pj_by k) pc = .ok (.istore i, 2)) (h : pj_istore i (pc + 2) L M st = some g) (K : pj_K G k p l e R s m args below meth c Q N0 S0 g) : W p l e R s m args below meth c H locs (M.1 - N0) (M.2.1 - S0) Q (F0 m pc ls (st.map (pj_e G))) := by
  match st, h with
  | .int x :: st, h =>
    have h' : pj_to (pc + 2) st M (pj_st L i (.int x)) = some g := h
    cases hs : pj_st L i (.int x) with
    | none => rw [hs] at h'; cases h'
    | some L' =>
      rw [hs] at h'
      cases h'
      have hi := (pj_stn_lt hs).1
      rw [hL.2.1] at hi
      exact lv_istore hX.1 hX.2.1 hd (pj_has_lv hL) hi rfl (fun ls' hl' => K ls' H locs (pj_has_st hL hs hl') hW hS)
theorem pj_o_istore_n {st : List Value} {g : pj_Cfg} (hX : pj_X G k p s m args meth c) (hL : pj_has G ls (pj_ml k) L) (hW : pj_W G M H) (hS : va_S (pj_A G) s.heap H locs) {i : Fin 4} (hd : decode (pj_by k) pc = .ok (.istore_n i, 1)) (h : pj_istore i (pc + 1) L M st = some g) (K : pj_K G k p l e R s m args below meth c Q N0 S0 g) : W p l e R s m args below meth c H locs (M.1 - N0) (M.2.1 - S0) Q (F0 m pc ls (st.map (pj_e G))) := by
  match st, h with
  | .int x :: st, h =>
    have h' : pj_to (pc + 1) st M (pj_st L i (.int x)) = some g := h
    cases hs : pj_st L i (.int x) with
    | none => rw [hs] at h'; cases h'
    | some L' =>
      rw [hs] at h'
      cases h'
      have hi := (pj_stn_lt hs).1
      rw [hL.2.1] at hi
      exact lv_istore_n hX.1 hX.2.1 hd rfl (pj_has_lv hL) hi rfl (fun ls' hl' => K ls' H locs (pj_has_st hL hs hl') hW hS)
theorem pj_o_astore {st : List Value} {g : pj_Cfg} (hX : pj_X G k p s m args meth c) (hL : pj_has G ls (pj_ml k) L) (hW : pj_W G M H) (hS : va_S (pj_A G) s.heap H locs) {i : Nat} (hd : decode (pj_by k) pc = .ok (.astore i, 2)) (h : pj_astore i (pc + 2) L M st = some g) (K : pj_K G k p l e R s m args below meth c Q N0 S0 g) : W p l e R s m args below meth c H locs (M.1 - N0) (M.2.1 - S0) Q (F0 m pc ls (st.map (pj_e G))) := by
  match st, h with
  | .ref x :: st, h =>
    have h' : pj_to (pc + 2) st M (pj_st L i (.ref x)) = some g := h
    cases hs : pj_st L i (.ref x) with
    | none => rw [hs] at h'; cases h'
    | some L' =>
      rw [hs] at h'
      cases h'
      have hi := (pj_stn_lt hs).1
      rw [hL.2.1] at hi
      exact lv_astore hX.1 hX.2.1 hd (pj_has_lv hL) hi rfl (fun ls' hl' => K ls' H locs (pj_has_st hL hs hl') hW hS)
theorem pj_o_astore_n {st : List Value} {g : pj_Cfg} (hX : pj_X G k p s m args meth c) (hL : pj_has G ls (pj_ml k) L) (hW : pj_W G M H) (hS : va_S (pj_A G) s.heap H locs) {i : Fin 4} (hd : decode (pj_by k) pc = .ok (.astore_n i, 1)) (h : pj_astore i (pc + 1) L M st = some g) (K : pj_K G k p l e R s m args below meth c Q N0 S0 g) : W p l e R s m args below meth c H locs (M.1 - N0) (M.2.1 - S0) Q (F0 m pc ls (st.map (pj_e G))) := by
  match st, h with
  | .ref x :: st, h =>
    have h' : pj_to (pc + 1) st M (pj_st L i (.ref x)) = some g := h
    cases hs : pj_st L i (.ref x) with
    | none => rw [hs] at h'; cases h'
    | some L' =>
      rw [hs] at h'
      cases h'
      have hi := (pj_stn_lt hs).1
      rw [hL.2.1] at hi
      exact lv_astore_n hX.1 hX.2.1 hd rfl (pj_has_lv hL) hi rfl (fun ls' hl' => K ls' H locs (pj_has_st hL hs hl') hW hS)
theorem pj_o_lstore {st : List Value} {g : pj_Cfg} (hX : pj_X G k p s m args meth c) (hL : pj_has G ls (pj_ml k) L) (hW : pj_W G M H) (hS : va_S (pj_A G) s.heap H locs) {i : Nat} (hd : decode (pj_by k) pc = .ok (.lstore i, 2)) (h : pj_lstore i (pc + 2) L M st = some g) (K : pj_K G k p l e R s m args below meth c Q N0 S0 g) : W p l e R s m args below meth c H locs (M.1 - N0) (M.2.1 - S0) Q (F0 m pc ls (st.map (pj_e G))) := by
  match st, h with
  | .long x :: st, h =>
    have h' : pj_to (pc + 2) st M (pj_stl L i (.long x)) = some g := h
    cases hs : pj_stl L i (.long x) with
    | none => rw [hs] at h'; cases h'
    | some L' =>
      rw [hs] at h'
      cases h'
      have hi := (pj_stl_lt hs).1
      rw [hL.2.1] at hi
      exact lv_lstore hX.1 hX.2.1 hd (pj_has_lv hL) hi rfl (fun ls' hl' => K ls' H locs (pj_has_stl hL hs hl') hW hS)
theorem pj_o_lstore_n {st : List Value} {g : pj_Cfg} (hX : pj_X G k p s m args meth c) (hL : pj_has G ls (pj_ml k) L) (hW : pj_W G M H) (hS : va_S (pj_A G) s.heap H locs) {i : Fin 4} (hd : decode (pj_by k) pc = .ok (.lstore_n i, 1)) (h : pj_lstore i (pc + 1) L M st = some g) (K : pj_K G k p l e R s m args below meth c Q N0 S0 g) : W p l e R s m args below meth c H locs (M.1 - N0) (M.2.1 - S0) Q (F0 m pc ls (st.map (pj_e G))) := by
  match st, h with
  | .long x :: st, h =>
    have h' : pj_to (pc + 1) st M (pj_stl L i (.long x)) = some g := h
    cases hs : pj_stl L i (.long x) with
    | none => rw [hs] at h'; cases h'
    | some L' =>
      rw [hs] at h'
      cases h'
      have hi := (pj_stl_lt hs).1
      rw [hL.2.1] at hi
      exact lv_lstore_n hX.1 hX.2.1 hd rfl (pj_has_lv hL) hi rfl (fun ls' hl' => K ls' H locs (pj_has_stl hL hs hl') hW hS)
theorem pj_o_iinc {st : List Value} {g : pj_Cfg} (hX : pj_X G k p s m args meth c) (hL : pj_has G ls (pj_ml k) L) (hW : pj_W G M H) (hS : va_S (pj_A G) s.heap H locs) {i : Nat} {d : Int} {x : Int32} (hd : decode (pj_by k) pc = .ok (.iinc i d, 3)) (hx : pj_ld L i = some (.int x)) (h : pj_to (pc + 3) st M (pj_st L i (.int (x + Int32.ofInt d))) = some g) (K : pj_K G k p l e R s m args below meth c Q N0 S0 g) : W p l e R s m args below meth c H locs (M.1 - N0) (M.2.1 - S0) Q (F0 m pc ls (st.map (pj_e G))) := by
  cases hs : pj_st L i (.int (x + Int32.ofInt d)) with
  | none => rw [hs] at h; cases h
  | some L' =>
    rw [hs] at h
    cases h
    have hi := (pj_stn_lt hs).1
    rw [hL.2.1] at hi
    obtain ⟨kk, hk1⟩ := List.getElem?_of_mem (pj_lst_mem.mpr ⟨.int x, hx, rfl⟩ : (i, pj_e G (.int x)) ∈ pj_lst G L)
    exact lv_iinc hX.1 hX.2.1 hd (pj_has_lv hL) hk1 rfl hi rfl (fun ls' hl' => K ls' H locs (pj_has_st hL hs hl') hW hS)
theorem pj_o_iconst {st : List Value} {g : pj_Cfg} (hX : pj_X G k p s m args meth c) (hL : pj_has G ls (pj_ml k) L) (hW : pj_W G M H) (hS : va_S (pj_A G) s.heap H locs) {i : Int} (hd : decode (pj_by k) pc = .ok (.iconst i, 1)) (hg : g = (pc + 1, L, .int (Int32.ofInt i) :: st, M)) (K : pj_K G k p l e R s m args below meth c Q N0 S0 g) : W p l e R s m args below meth c H locs (M.1 - N0) (M.2.1 - S0) Q (F0 m pc ls (st.map (pj_e G))) := by
  subst hg
  exact lv_iconst hX.1 hX.2.1 hd rfl (K ls H locs hL hW hS)
theorem pj_o_bipush {st : List Value} {g : pj_Cfg} (hX : pj_X G k p s m args meth c) (hL : pj_has G ls (pj_ml k) L) (hW : pj_W G M H) (hS : va_S (pj_A G) s.heap H locs) {i : Int} (hd : decode (pj_by k) pc = .ok (.bipush i, 2)) (hg : g = (pc + 2, L, .int (Int8.ofInt i).toInt32 :: st, M)) (K : pj_K G k p l e R s m args below meth c Q N0 S0 g) : W p l e R s m args below meth c H locs (M.1 - N0) (M.2.1 - S0) Q (F0 m pc ls (st.map (pj_e G))) := by
  subst hg
  exact lv_bipush hX.1 hX.2.1 hd rfl (K ls H locs hL hW hS)
theorem pj_o_sipush {st : List Value} {g : pj_Cfg} (hX : pj_X G k p s m args meth c) (hL : pj_has G ls (pj_ml k) L) (hW : pj_W G M H) (hS : va_S (pj_A G) s.heap H locs) {i : Int} (hd : decode (pj_by k) pc = .ok (.sipush i, 3)) (hg : g = (pc + 3, L, .int (Int16.ofInt i).toInt32 :: st, M)) (K : pj_K G k p l e R s m args below meth c Q N0 S0 g) : W p l e R s m args below meth c H locs (M.1 - N0) (M.2.1 - S0) Q (F0 m pc ls (st.map (pj_e G))) := by
  subst hg
  exact lv_sipush hX.1 hX.2.1 hd rfl (K ls H locs hL hW hS)
theorem pj_o_lconst {st : List Value} {g : pj_Cfg} (hX : pj_X G k p s m args meth c) (hL : pj_has G ls (pj_ml k) L) (hW : pj_W G M H) (hS : va_S (pj_A G) s.heap H locs) {i : Fin 2} (hd : decode (pj_by k) pc = .ok (.lconst i, 1)) (hg : g = (pc + 1, L, .long (Int64.ofNat (i : Nat)) :: st, M)) (K : pj_K G k p l e R s m args below meth c Q N0 S0 g) : W p l e R s m args below meth c H locs (M.1 - N0) (M.2.1 - S0) Q (F0 m pc ls (st.map (pj_e G))) := by
  subst hg
  exact lv_lconst hX.1 hX.2.1 hd rfl (K ls H locs hL hW hS)
theorem pj_o_ldc {st : List Value} {g : pj_Cfg} (hX : pj_X G k p s m args meth c) (hL : pj_has G ls (pj_ml k) L) (hW : pj_W G M H) (hS : va_S (pj_A G) s.heap H locs) {i : Nat} {z : Int} (hd : decode (pj_by k) pc = .ok (.ldc i, 2)) (hr : pj_ict.any (fun e => e.1 == pj_cn k && e.2.1 == i && e.2.2.1 == z) = true) (hg : g = (pc + 2, L, .int (Int32.ofInt z) :: st, M)) (K : pj_K G k p l e R s m args below meth c Q N0 S0 g) : W p l e R s m args below meth c H locs (M.1 - N0) (M.2.1 - S0) Q (F0 m pc ls (st.map (pj_e G))) := by
  subst hg
  obtain ⟨q, hq, h1⟩ := List.any_eq_true.mp hr
  simp only [Bool.and_eq_true, beq_iff_eq] at h1
  obtain ⟨⟨e1, e2⟩, e3⟩ := h1
  have h2 := List.all_eq_true.mp pj_ic_ok q hq
  rw [e1, e2, e3] at h2
  exact lv_ldc hX.1 hX.2.1 hX.2.2.2.2.1 (hX.2.2.2.2.2.1 _ (pj_good h2 rfl)) hd (K ls H locs hL hW hS)
theorem pj_o_ldcw {st : List Value} {g : pj_Cfg} (hX : pj_X G k p s m args meth c) (hL : pj_has G ls (pj_ml k) L) (hW : pj_W G M H) (hS : va_S (pj_A G) s.heap H locs) {i : Nat} {z : Int} (hd : decode (pj_by k) pc = .ok (.ldc_w i, 3)) (hr : pj_ict.any (fun e => e.1 == pj_cn k && e.2.1 == i && e.2.2.1 == z) = true) (hg : g = (pc + 3, L, .int (Int32.ofInt z) :: st, M)) (K : pj_K G k p l e R s m args below meth c Q N0 S0 g) : W p l e R s m args below meth c H locs (M.1 - N0) (M.2.1 - S0) Q (F0 m pc ls (st.map (pj_e G))) := by
  subst hg
  obtain ⟨q, hq, h1⟩ := List.any_eq_true.mp hr
  simp only [Bool.and_eq_true, beq_iff_eq] at h1
  obtain ⟨⟨e1, e2⟩, e3⟩ := h1
  have h2 := List.all_eq_true.mp pj_ic_ok q hq
  rw [e1, e2, e3] at h2
  exact lv_ldcw hX.1 hX.2.1 hX.2.2.2.2.1 (hX.2.2.2.2.2.1 _ (pj_good h2 rfl)) hd (K ls H locs hL hW hS)
theorem pj_o_ldc2 {st : List Value} {g : pj_Cfg} (hX : pj_X G k p s m args meth c) (hL : pj_has G ls (pj_ml k) L) (hW : pj_W G M H) (hS : va_S (pj_A G) s.heap H locs) {i : Nat} {z : Int} (hd : decode (pj_by k) pc = .ok (.ldc2_w i, 3)) (hr : pj_lct.any (fun e => e.1 == pj_cn k && e.2.1 == i && e.2.2.1 == z) = true) (hg : g = (pc + 3, L, .long (Int64.ofInt z) :: st, M)) (K : pj_K G k p l e R s m args below meth c Q N0 S0 g) : W p l e R s m args below meth c H locs (M.1 - N0) (M.2.1 - S0) Q (F0 m pc ls (st.map (pj_e G))) := by
  subst hg
  obtain ⟨q, hq, h1⟩ := List.any_eq_true.mp hr
  simp only [Bool.and_eq_true, beq_iff_eq] at h1
  obtain ⟨⟨e1, e2⟩, e3⟩ := h1
  have h2 := List.all_eq_true.mp pj_lc_ok q hq
  rw [e1, e2, e3] at h2
  exact lv_ldc2 hX.1 hX.2.1 hX.2.2.2.2.1 (hX.2.2.2.2.2.1 _ (pj_good h2 rfl)) hd (K ls H locs hL hW hS)
theorem pj_o_dup {st : List Value} {g : pj_Cfg} (hX : pj_X G k p s m args meth c) (hL : pj_has G ls (pj_ml k) L) (hW : pj_W G M H) (hS : va_S (pj_A G) s.heap H locs) (hd : decode (pj_by k) pc = .ok (.dup, 1)) (h : pj_dup (pc + 1) L M st = some g) (K : pj_K G k p l e R s m args below meth c Q N0 S0 g) : W p l e R s m args below meth c H locs (M.1 - N0) (M.2.1 - S0) Q (F0 m pc ls (st.map (pj_e G))) := by
  match st, h with
  | v :: st, h =>
    simp only [pj_dup] at h
    split at h
    · rename_i hv
      cases Option.some.inj h
      exact lv_dup hX.1 hX.2.1 hd (pj_one1_cat hv) (K ls H locs hL hW hS)
    · cases h
theorem pj_o_pop {st : List Value} {g : pj_Cfg} (hX : pj_X G k p s m args meth c) (hL : pj_has G ls (pj_ml k) L) (hW : pj_W G M H) (hS : va_S (pj_A G) s.heap H locs) (hd : decode (pj_by k) pc = .ok (.pop, 1)) (h : pj_pop (pc + 1) L M st = some g) (K : pj_K G k p l e R s m args below meth c Q N0 S0 g) : W p l e R s m args below meth c H locs (M.1 - N0) (M.2.1 - S0) Q (F0 m pc ls (st.map (pj_e G))) := by
  match st, h with
  | v :: st, h =>
    simp only [pj_pop] at h
    split at h
    · rename_i hv
      cases Option.some.inj h
      exact lv_pop hX.1 hX.2.1 hd (pj_one1_cat hv) (K ls H locs hL hW hS)
    · cases h
theorem pj_o_dup2 {st : List Value} {g : pj_Cfg} (hX : pj_X G k p s m args meth c) (hL : pj_has G ls (pj_ml k) L) (hW : pj_W G M H) (hS : va_S (pj_A G) s.heap H locs) (hd : decode (pj_by k) pc = .ok (.dup2, 1)) (h : pj_dup2 (pc + 1) L M st = some g) (K : pj_K G k p l e R s m args below meth c Q N0 S0 g) : W p l e R s m args below meth c H locs (M.1 - N0) (M.2.1 - S0) Q (F0 m pc ls (st.map (pj_e G))) := by
  match st, h with
  | v :: u :: st, h =>
    simp only [pj_dup2] at h
    split at h
    · rename_i hv
      cases Option.some.inj h
      exact lv_dup2_11 hX.1 hX.2.1 hd (pj_one1_cat hv.1) (pj_one1_cat hv.2) (K ls H locs hL hW hS)
    · cases h
theorem pj_o_goto {st : List Value} {g : pj_Cfg} (hX : pj_X G k p s m args meth c) (hL : pj_has G ls (pj_ml k) L) (hW : pj_W G M H) (hS : va_S (pj_A G) s.heap H locs) {off : Int} {a : Nat} (hd : decode (pj_by k) pc = .ok (.goto off, 3)) (ht : (pc : Int) + off = (a : Int)) (hg : g = (a, L, st, M)) (K : pj_K G k p l e R s m args below meth c Q N0 S0 g) : W p l e R s m args below meth c H locs (M.1 - N0) (M.2.1 - S0) Q (F0 m pc ls (st.map (pj_e G))) := by
  subst hg
  exact lv_goto hX.1 hX.2.1 hd ht (K ls H locs hL hW hS)
theorem pj_o_br {st : List Value} {g : pj_Cfg} (hX : pj_X G k p s m args meth c) (hL : pj_has G ls (pj_ml k) L) (hW : pj_W G M H) (hS : va_S (pj_A G) s.heap H locs) {cc : ClassFile.Cond} {off : Int} {a : Nat} (hd : decode (pj_by k) pc = .ok (.if_icmp cc off, 3)) (ht : (pc : Int) + off = (a : Int)) (h : pj_br cc a (pc + 3) L M st = some g) (K : pj_K G k p l e R s m args below meth c Q N0 S0 g) : W p l e R s m args below meth c H locs (M.1 - N0) (M.2.1 - S0) Q (F0 m pc ls (st.map (pj_e G))) := by
  match st, h with
  | .int y :: .int x :: st, h =>
    cases h
    have K1 := K ls H locs hL hW hS
    cases cc with
    | eq =>
      refine lv_icmp_eq hX.1 hX.2.1 hd ht (fun q => ?_) (fun q => ?_)
      · have e1 : pj_cmp .eq x y = true := by simp [pj_cmp, q]
        rw [e1] at K1; exact K1
      · have e1 : pj_cmp .eq x y = false := by simp [pj_cmp, q]
        rw [e1] at K1; exact K1
    | ne =>
      refine lv_icmp_ne hX.1 hX.2.1 hd ht (fun q => ?_) (fun q => ?_)
      · have e1 : pj_cmp .ne x y = true := by simp [pj_cmp, q]
        rw [e1] at K1; exact K1
      · have e1 : pj_cmp .ne x y = false := by simp [pj_cmp, q]
        rw [e1] at K1; exact K1
    | lt =>
      refine lv_icmp_lt hX.1 hX.2.1 hd ht (fun q => ?_) (fun q => ?_)
      · have e1 : pj_cmp .lt x y = true := by simp [pj_cmp, q]
        rw [e1] at K1; exact K1
      · have e1 : pj_cmp .lt x y = false := by simp [pj_cmp, q]
        rw [e1] at K1; exact K1
    | ge =>
      refine lv_icmp_ge hX.1 hX.2.1 hd ht (fun q => ?_) (fun q => ?_)
      · have e1 : pj_cmp .ge x y = true := by simp [pj_cmp, q]
        rw [e1] at K1; exact K1
      · have e1 : pj_cmp .ge x y = false := by simp [pj_cmp, q]
        rw [e1] at K1; exact K1
    | gt =>
      refine lv_icmp_gt hX.1 hX.2.1 hd ht (fun q => ?_) (fun q => ?_)
      · have e1 : pj_cmp .gt x y = true := by simp [pj_cmp, q]
        rw [e1] at K1; exact K1
      · have e1 : pj_cmp .gt x y = false := by simp [pj_cmp, q]
        rw [e1] at K1; exact K1
    | le =>
      refine lv_icmp_le hX.1 hX.2.1 hd ht (fun q => ?_) (fun q => ?_)
      · have e1 : pj_cmp .le x y = true := by simp [pj_cmp, q]
        rw [e1] at K1; exact K1
      · have e1 : pj_cmp .le x y = false := by simp [pj_cmp, q]
        rw [e1] at K1; exact K1
theorem pj_o_br0 {st : List Value} {g : pj_Cfg} (hX : pj_X G k p s m args meth c) (hL : pj_has G ls (pj_ml k) L) (hW : pj_W G M H) (hS : va_S (pj_A G) s.heap H locs) {cc : ClassFile.Cond} {off : Int} {a : Nat} (hd : decode (pj_by k) pc = .ok (.ifCond cc off, 3)) (ht : (pc : Int) + off = (a : Int)) (h : pj_br0 cc a (pc + 3) L M st = some g) (K : pj_K G k p l e R s m args below meth c Q N0 S0 g) : W p l e R s m args below meth c H locs (M.1 - N0) (M.2.1 - S0) Q (F0 m pc ls (st.map (pj_e G))) := by
  match st, h with
  | .int x :: st, h =>
    cases h
    have K1 := K ls H locs hL hW hS
    cases cc with
    | eq =>
      refine lv_if_eq hX.1 hX.2.1 hd ht (fun q => ?_) (fun q => ?_)
      · have e1 : pj_cmp .eq x 0 = true := by simp [pj_cmp, q]
        rw [e1] at K1; exact K1
      · have e1 : pj_cmp .eq x 0 = false := by simp [pj_cmp, q]
        rw [e1] at K1; exact K1
    | ne =>
      refine lv_if_ne hX.1 hX.2.1 hd ht (fun q => ?_) (fun q => ?_)
      · have e1 : pj_cmp .ne x 0 = true := by simp [pj_cmp, q]
        rw [e1] at K1; exact K1
      · have e1 : pj_cmp .ne x 0 = false := by simp [pj_cmp, q]
        rw [e1] at K1; exact K1
    | lt =>
      refine lv_if_lt hX.1 hX.2.1 hd ht (fun q => ?_) (fun q => ?_)
      · have e1 : pj_cmp .lt x 0 = true := by simp [pj_cmp, q]
        rw [e1] at K1; exact K1
      · have e1 : pj_cmp .lt x 0 = false := by simp [pj_cmp, q]
        rw [e1] at K1; exact K1
    | ge =>
      refine lv_if_ge hX.1 hX.2.1 hd ht (fun q => ?_) (fun q => ?_)
      · have e1 : pj_cmp .ge x 0 = true := by simp [pj_cmp, q]
        rw [e1] at K1; exact K1
      · have e1 : pj_cmp .ge x 0 = false := by simp [pj_cmp, q]
        rw [e1] at K1; exact K1
    | gt =>
      refine lv_if_gt hX.1 hX.2.1 hd ht (fun q => ?_) (fun q => ?_)
      · have e1 : pj_cmp .gt x 0 = true := by simp [pj_cmp, q]
        rw [e1] at K1; exact K1
      · have e1 : pj_cmp .gt x 0 = false := by simp [pj_cmp, q]
        rw [e1] at K1; exact K1
    | le =>
      refine lv_if_le hX.1 hX.2.1 hd ht (fun q => ?_) (fun q => ?_)
      · have e1 : pj_cmp .le x 0 = true := by simp [pj_cmp, q]
        rw [e1] at K1; exact K1
      · have e1 : pj_cmp .le x 0 = false := by simp [pj_cmp, q]
        rw [e1] at K1; exact K1
theorem pj_o_tsw {st : List Value} {g : pj_Cfg} (hX : pj_X G k p s m args meth c) (hL : pj_has G ls (pj_ml k) L) (hW : pj_W G M H) (hS : va_S (pj_A G) s.heap H locs) {d lo hi : Int} {offs : Array Int} {len : Nat} (hd : decode (pj_by k) pc = .ok (.tableswitch d lo hi offs, len)) (h : pj_tsw pc L M d lo hi offs st = some g) (K : pj_K G k p l e R s m args below meth c Q N0 S0 g) : W p l e R s m args below meth c H locs (M.1 - N0) (M.2.1 - S0) Q (F0 m pc ls (st.map (pj_e G))) := by
  match st, h with
  | .int x :: st, h =>
    unfold pj_tsw at h
    simp only at h
    split at h
    · rename_i hx
      unfold pj_jmp at h
      cases ht : pj_tgt pc d with
      | none => rw [ht] at h; cases h
      | some t =>
        rw [ht] at h
        cases h
        exact lv_tableOut hX.1 hX.2.1 hd hx (pj_tgt_eq ht) (K ls H locs hL hW hS)
    · rename_i hx
      cases ho : offs[(x.toInt - lo).toNat]? with
      | none => rw [ho] at h; cases h
      | some off =>
        rw [ho] at h
        simp only [pj_jmp] at h
        cases ht : pj_tgt pc off with
        | none => rw [ht] at h; cases h
        | some t =>
          rw [ht] at h
          cases h
          exact lv_tableIn hX.1 hX.2.1 hd (fun q => hx (Or.inl q)) (fun q => hx (Or.inr q)) ho (pj_tgt_eq ht) (K ls H locs hL hW hS)
theorem pj_o_lsw {st : List Value} {g : pj_Cfg} (hX : pj_X G k p s m args meth c) (hL : pj_has G ls (pj_ml k) L) (hW : pj_W G M H) (hS : va_S (pj_A G) s.heap H locs) {d : Int} {ps : Array (Int × Int)} {len : Nat} (hd : decode (pj_by k) pc = .ok (.lookupswitch d ps, len)) (hp : (ps.toList.zip (ps.toList.drop 1)).all (fun (a, next) => a.1 < next.1) = true) (h : pj_lsw pc L M d ps st = some g) (K : pj_K G k p l e R s m args below meth c Q N0 S0 g) : W p l e R s m args below meth c H locs (M.1 - N0) (M.2.1 - S0) Q (F0 m pc ls (st.map (pj_e G))) := by
  match st, h with
  | .int x :: st, h =>
    simp only [pj_lsw, pj_jmp] at h
    cases ht : pj_tgt pc (Op.lookupswitch.offset ps.toList d x.toInt) with
    | none => rw [ht] at h; cases h
    | some t =>
      rw [ht] at h
      cases h
      exact lv_lookup hX.1 hX.2.1 hd hp rfl (pj_tgt_eq ht) (K ls H locs hL hW hS)
theorem pj_o_getf {st : List Value} {g : pj_Cfg} (hX : pj_X G k p s m args meth c) (hL : pj_has G ls (pj_ml k) L) (hW : pj_W G M H) (hS : va_S (pj_A G) s.heap H locs) {i a b : Nat} (hd : decode (pj_by k) pc = .ok (.getfield i, 3)) (hr : pj_flt.any (fun e => e.1 == pj_cn k && e.2.1 == i && e.2.2.1 == a && e.2.2.2.1 == b) = true) (h : pj_getf a b (pc + 3) L M st = some g) (K : pj_K G k p l e R s m args below meth c Q N0 S0 g) : W p l e R s m args below meth c H locs (M.1 - N0) (M.2.1 - S0) Q (F0 m pc ls (st.map (pj_e G))) := by
  match st, h with
  | .ref o :: st, h9 =>
    simp only [pj_getf] at h9
    obtain ⟨⟨C, T, N⟩, hq, hb, hlk⟩ := pj_fl_of hr
    cases ho : M.2.2 o with
    | inr x => rw [ho] at h9; cases h9
    | inl x =>
      obtain ⟨ci, fs⟩ := x
      rw [ho] at h9
      simp only [pj_fld] at h9
      split at h9
      · rename_i v hv
        split at hv
        · rename_i e1
          subst e1
          cases h9
          obtain ⟨m1, m2⟩ := pj_made_obj hW ho (by have := pj_cls_lt hq; omega)
          have hg1 := pj_ws_get (G := G) (H := M.2.2) m1 m2
          rw [ho] at hg1
          rw [pj_nth_eq] at hv
          have hv' : (fs.map (pj_e G))[b]? = some (pj_e G v) := by rw [List.getElem?_map, hv]; rfl
          exact va_get (Ts := pj_tbl) hX.1 hX.2.1 hX.2.2.2.2.2.1 (pj_cls_in hq) hX.2.2.2.2.1 hX.2.2.2.2.2.2.2.2.1 hW.1 _ hg1 hq b hb (hX.2.2.2.2.2.1 _ hlk) (fun _ z => z) hv' hd (K ls H locs hL hW hS)
        · cases hv
      · cases h9
theorem pj_o_putf {st : List Value} {g : pj_Cfg} (hX : pj_X G k p s m args meth c) (hL : pj_has G ls (pj_ml k) L) (hW : pj_W G M H) (hS : va_S (pj_A G) s.heap H locs) {i a b : Nat} (hd : decode (pj_by k) pc = .ok (.putfield i, 3)) (hr : pj_flt.any (fun e => e.1 == pj_cn k && e.2.1 == i && e.2.2.1 == a && e.2.2.2.1 == b) = true) (hf : (match vwCl[a]? with | some q => !(q.2.1 b).2.2.2 || (decide ((pj_yy k).name = "<init>") && decide ((q.2.1 b).1 = pj_on (pj_cn k))) | none => false) = true) (h : pj_putf a b (pc + 3) L M st = some g) (K : pj_K G k p l e R s m args below meth c Q N0 S0 g) : W p l e R s m args below meth c H locs (M.1 - N0) (M.2.1 - S0) Q (F0 m pc ls (st.map (pj_e G))) := by
  match st, h with
  | v :: .ref o :: st, h9 =>
    simp only [pj_putf] at h9
    obtain ⟨⟨C, T, N⟩, hq, hb, hlk⟩ := pj_fl_of hr
    rw [hq] at hf
    simp only at hf
    cases ho : M.2.2 o with
    | inr x => rw [ho] at h9; cases h9
    | inl x =>
      obtain ⟨ci, fs⟩ := x
      rw [ho] at h9
      simp only [pj_fset] at h9
      split at h9
      · rename_i hc
        obtain ⟨rfl, hlen, hfit⟩ := hc
        cases h9
        obtain ⟨f1, f2⟩ := pj_fit_e (G := G) hfit
        obtain ⟨m1, m2⟩ := pj_made_obj hW ho (by have := pj_cls_lt hq; omega)
        have hg1 := pj_ws_get (G := G) (H := M.2.2) m1 m2
        rw [ho] at hg1
        obtain ⟨hx, hcb, -, -, hown, hts, -, hnm, hF⟩ := hX
        have hK := hF.1
        have hin := pj_cls_in hq
        obtain ⟨hty, hnn⟩ := pj_cls_ty hq
        have hap := va_apart (own := C) hts hin _ hty hnn hK hq
        obtain ⟨r, h1, cell, q1, q2, q3, q4⟩ := hW.1 _ _ hg1
        have hr' : r = (C, T, N) := Option.some.inj (h1.symm.trans hq)
        subst hr'
        obtain ⟨hSl, hfc, kC, hkC, hkind⟩ := hK.1 ci _ hq
        obtain ⟨cf, kf, fi, fd, hi, hsl⟩ := hSl b hb
        have hst := (u_facts hfc hkC (u_lays hts hin hb) hi).1
        have h6 := u_fits hfc hkC hkind (u_lays hts hin hb) hi (hty b hb) f1 f2
        have hll := hts _ (hin _ (u_in_lay hb))
        have fin : ∀ (H' : Heap), H'[pj_ad G o]? = some (cell.setSlot fd.slot (pj_e G v)) → H'.size = H.size → (∀ q : Nat, q ≠ pj_ad G o → H'[q]? = H[q]?) → W p l e R s m args below meth c H' (locs ++ [⟨pj_ad G o, fd.slot⟩]) (M.1 - N0) (M.2.1 - S0) Q (F0 m (pc + 3) ls (st.map (pj_e G))) := by
          intro H' e1 e2 e3
          refine K ls H' _ hL (pj_W_set hW m1 m2 ?_ e2 e3 (fun _ _ _ z => by cases z)) (pj_S_set hS m1 e2 e3)
          refine ⟨_, hq, t_OB.to (V := updV (vp_V (fs.map (pj_e G))) b (pj_e G v)) ⟨_, e1, q2, q3, ?_⟩ (fun j _ => ?_)⟩
          · rw [hsl]
            exact t_set q4 hap hb (pj_e G v)
          · rw [vp_updV_set (by rw [List.length_map]; exact hlen), pj_pu_eq]
            show vp_V ((fs.map (pj_e G)).set b (pj_e G v)) j = vp_V ((fs.set b v).map (pj_e G)) j
            rw [List.map_set]
        by_cases hfin : (T b).2.2.2 = true
        · rw [hfin] at hf
          simp only [Bool.not_true, Bool.false_or, Bool.and_eq_true, decide_eq_true_eq] at hf
          unfold u_lay at hll
          rw [if_pos hfin] at hll
          have hcf : m.cls = cf := by
            obtain ⟨_, _, c', _, _, _, -, -, hf', -, -, -, hown2, -⟩ := Cond.laysFinal_spec hll
            have e1 : c' = cf := by have := hi.symm.trans hf'; simp at this; exact this.1.symm
            rw [hf.2] at hown2
            rw [← e1]; exact Option.some.inj (hown.symm.trans hown2)
          exact W.putFinK hx hcb hown (hts _ hlk) hi hst hcf (hnm hf.1) (by rw [q2]; exact h6) q1 q3 (by rw [hsl]; exact k2_hasslot (q4 b hb)) rfl rfl hd fin
        · have hfin' : (T b).2.2.2 = false := by simpa using hfin
          unfold u_lay at hll
          rw [if_neg hfin] at hll
          have h7 := u_store hfc hkC hkind hll hi (hty b hb) f1 f2
          exact W.putK hx hcb (f := fd) ⟨hown, hts _ hlk, ⟨_, _, _, hi⟩, hst⟩ (by rw [q2]; exact h7) q1 q3 (by rw [hsl]; exact k2_hasslot (q4 b hb)) rfl rfl hd fin
      · cases h9
theorem pj_ty_at {G : pj_G} {t : Nat} {ty : FieldType} (h : (match t with | 0 => some FieldType.int | 1 => some .char | 2 => some .boolean | 3 => some (.object "VotedCharge$Unit") | _ => none) = some ty) : (pj_tys G)[t]? = some (G.2.2.2.2 t, ty) := by
  match t, h with
  | 0, h => cases h; rfl
  | 1, h => cases h; rfl
  | 2, h => cases h; rfl
  | 3, h => cases h; rfl
theorem pj_o_iald {st : List Value} {g : pj_Cfg} (hX : pj_X G k p s m args meth c) (hL : pj_has G ls (pj_ml k) L) (hW : pj_W G M H) (hS : va_S (pj_A G) s.heap H locs) (hd : decode (pj_by k) pc = .ok (.iaload, 1)) (h : pj_xald 0 (pc + 1) L M st = some g) (K : pj_K G k p l e R s m args below meth c Q N0 S0 g) : W p l e R s m args below meth c H locs (M.1 - N0) (M.2.1 - S0) Q (F0 m pc ls (st.map (pj_e G))) := by
  match st, h with
  | .int i :: .ref o :: st, h =>
    simp only [pj_xald] at h
    cases ho : M.2.2 o with
    | inl x => rw [ho] at h; cases h
    | inr x =>
      obtain ⟨t, n, x⟩ := x
      cases x with
      | inr f => rw [ho] at h; cases h
      | inl f =>
        rw [ho] at h
        simp only [pj_arl] at h
        split at h
        · rename_i v hv
          split at hv
          · rename_i hc
            cases hv
            cases h
            obtain ⟨hc, hin⟩ := hc
            rcases hc with rfl | ⟨rfl, hu⟩
            · obtain ⟨m1, m2⟩ := pj_made_arr hW ho (by decide)
              have hg1 := pj_ws_get (G := G) (H := M.2.2) m1 m2
              rw [ho] at hg1
              exact va_iald hX.1 hX.2.1 hX.2.2.2.2.2.2.2.2.1 hW.1 _ 0 hg1 rfl (pj_in_vp hin) hd (K ls H locs hL hW hS)
            · obtain ⟨r1, r2, r3⟩ := pj_ro_arr hW ho
              subst r2
              have r4 := Sum.inl.inj r3
              subst r4
              obtain ⟨cell, t1, t2, t3, t4, -, t6, t7⟩ := hX.2.2.2.2.2.2.2.2.2.2.2.2.1 o r1
              have hlt : i.toNatClampNeg < (G.2.2.1 o).1 := Nat.not_le.mp fun q => pj_in_vp hin (Or.inr q)
              have h0 : ¬ i < 0 := fun q => pj_in_vp hin (Or.inl q)
              have hlt0 : G.2.1 o < s.heap.size := (Array.getElem?_eq_some_iff.mp t1).1
              exact W.iald (v := .int ((G.2.2.1 o).2 i.toNatClampNeg)) hX.1 hX.2.1 (by rw [pj_ad_lo r1, hS.2.1 _ hlt0 t7]; exact t1) t2 t3 (fun q => q.elim h0 (fun z => by omega)) (t6 _ hlt) rfl rfl hd (K ls H locs hL hW hS)
          · cases hv
        · cases h
theorem pj_o_cald {st : List Value} {g : pj_Cfg} (hX : pj_X G k p s m args meth c) (hL : pj_has G ls (pj_ml k) L) (hW : pj_W G M H) (hS : va_S (pj_A G) s.heap H locs) (hd : decode (pj_by k) pc = .ok (.caload, 1)) (h : pj_xald 1 (pc + 1) L M st = some g) (K : pj_K G k p l e R s m args below meth c Q N0 S0 g) : W p l e R s m args below meth c H locs (M.1 - N0) (M.2.1 - S0) Q (F0 m pc ls (st.map (pj_e G))) := by
  match st, h with
  | .int i :: .ref o :: st, h =>
    simp only [pj_xald] at h
    cases ho : M.2.2 o with
    | inl x => rw [ho] at h; cases h
    | inr x =>
      obtain ⟨t, n, x⟩ := x
      cases x with
      | inr f => rw [ho] at h; cases h
      | inl f =>
        rw [ho] at h
        simp only [pj_arl] at h
        split at h
        · rename_i v hv
          split at hv
          · rename_i hc
            cases hv
            cases h
            obtain ⟨hc, hin⟩ := hc
            rcases hc with rfl | ⟨rfl, hu⟩
            · obtain ⟨m1, m2⟩ := pj_made_arr hW ho (by decide)
              have hg1 := pj_ws_get (G := G) (H := M.2.2) m1 m2
              rw [ho] at hg1
              exact va_cald hX.1 hX.2.1 hX.2.2.2.2.2.2.2.2.1 hW.1 _ 1 hg1 rfl (pj_in_vp hin) hd (K ls H locs hL hW hS)
            · cases hu
          · cases hv
        · cases h
theorem pj_o_zald {st : List Value} {g : pj_Cfg} (hX : pj_X G k p s m args meth c) (hL : pj_has G ls (pj_ml k) L) (hW : pj_W G M H) (hS : va_S (pj_A G) s.heap H locs) (hd : decode (pj_by k) pc = .ok (.baload, 1)) (h : pj_xald 2 (pc + 1) L M st = some g) (K : pj_K G k p l e R s m args below meth c Q N0 S0 g) : W p l e R s m args below meth c H locs (M.1 - N0) (M.2.1 - S0) Q (F0 m pc ls (st.map (pj_e G))) := by
  match st, h with
  | .int i :: .ref o :: st, h =>
    simp only [pj_xald] at h
    cases ho : M.2.2 o with
    | inl x => rw [ho] at h; cases h
    | inr x =>
      obtain ⟨t, n, x⟩ := x
      cases x with
      | inr f => rw [ho] at h; cases h
      | inl f =>
        rw [ho] at h
        simp only [pj_arl] at h
        split at h
        · rename_i v hv
          split at hv
          · rename_i hc
            cases hv
            cases h
            obtain ⟨hc, hin⟩ := hc
            rcases hc with rfl | ⟨rfl, hu⟩
            · obtain ⟨m1, m2⟩ := pj_made_arr hW ho (by decide)
              have hg1 := pj_ws_get (G := G) (H := M.2.2) m1 m2
              rw [ho] at hg1
              exact va_zald hX.1 hX.2.1 hX.2.2.2.2.2.2.2.2.1 hW.1 _ 2 hg1 rfl (pj_in_vp hin) hd (K ls H locs hL hW hS)
            · cases hu
          · cases hv
        · cases h
theorem pj_o_iast {st : List Value} {g : pj_Cfg} (hX : pj_X G k p s m args meth c) (hL : pj_has G ls (pj_ml k) L) (hW : pj_W G M H) (hS : va_S (pj_A G) s.heap H locs) (hd : decode (pj_by k) pc = .ok (.iastore, 1)) (h : pj_xast 0 (fun x => x) (pc + 1) L M st = some g) (K : pj_K G k p l e R s m args below meth c Q N0 S0 g) : W p l e R s m args below meth c H locs (M.1 - N0) (M.2.1 - S0) Q (F0 m pc ls (st.map (pj_e G))) := by
  match st, h with
  | .int x :: .int i :: .ref o :: st, h =>
    simp only [pj_xast] at h
    cases ho : M.2.2 o with
    | inl y => rw [ho] at h; cases h
    | inr y =>
      obtain ⟨t, n, y⟩ := y
      cases y with
      | inr f => rw [ho] at h; cases h
      | inl f =>
        rw [ho] at h
        simp only [pj_ars] at h
        split at h
        · rename_i hc
          obtain ⟨rfl, hin⟩ := hc
          cases h
          obtain ⟨m1, m2⟩ := pj_made_arr hW ho (by decide)
          have hg1 := pj_ws_get (G := G) (H := M.2.2) m1 m2
          rw [ho] at hg1
          refine W.iast hX.1 hX.2.1 (hW.1 _ _ hg1) ((hX.2.2.2.2.2.2.2.2.1.2 0 _ rfl).1 n (fun j => .int (f j))) (fun q => by cases q) (by show ¬ (i < 0 ∨ (arrV _ _ _).slots.size ≤ _); rw [arrV_size]; exact pj_in_vp hin) rfl rfl hd fun H' e1 e2 e3 => ?_
          refine K ls H' _ hL (pj_W_set hW m1 m2 ?_ e2 e3 (fun _ _ _ z => by cases z; decide)) (pj_S_set hS m1 e2 e3)
          show H'[pj_ad G o]? = some (vp_cell (G.2.2.2.2 0) (n, .inl _))
          rw [e1, vp_cell_i]
          refine congrArg some ((arrV_store (G.2.2.2.2 0) n i.toNatClampNeg (fun j => Value.int (f j)) _).trans ?_)
          refine (congrArg (arrV (G.2.2.2.2 0) n) ?_).trans (vp_cell_i _ _ _).symm
          funext q
          by_cases hq : q = i.toNatClampNeg
          · subst hq
            simp [updV, upd, vp_nar, narrow]
          · simp [updV, upd, hq]
        · cases h
theorem pj_o_cast {st : List Value} {g : pj_Cfg} (hX : pj_X G k p s m args meth c) (hL : pj_has G ls (pj_ml k) L) (hW : pj_W G M H) (hS : va_S (pj_A G) s.heap H locs) (hd : decode (pj_by k) pc = .ok (.castore, 1)) (h : pj_xast 1 (fun x => vp_nar .char x) (pc + 1) L M st = some g) (K : pj_K G k p l e R s m args below meth c Q N0 S0 g) : W p l e R s m args below meth c H locs (M.1 - N0) (M.2.1 - S0) Q (F0 m pc ls (st.map (pj_e G))) := by
  match st, h with
  | .int x :: .int i :: .ref o :: st, h =>
    simp only [pj_xast] at h
    cases ho : M.2.2 o with
    | inl y => rw [ho] at h; cases h
    | inr y =>
      obtain ⟨t, n, y⟩ := y
      cases y with
      | inr f => rw [ho] at h; cases h
      | inl f =>
        rw [ho] at h
        simp only [pj_ars] at h
        split at h
        · rename_i hc
          obtain ⟨rfl, hin⟩ := hc
          cases h
          obtain ⟨m1, m2⟩ := pj_made_arr hW ho (by decide)
          have hg1 := pj_ws_get (G := G) (H := M.2.2) m1 m2
          rw [ho] at hg1
          refine W.cast hX.1 hX.2.1 (hW.1 _ _ hg1) ((hX.2.2.2.2.2.2.2.2.1.2 1 _ rfl).1 n (fun j => .int (f j))) (fun q => by cases q) (by show ¬ (i < 0 ∨ (arrV _ _ _).slots.size ≤ _); rw [arrV_size]; exact pj_in_vp hin) rfl rfl hd fun H' e1 e2 e3 => ?_
          refine K ls H' _ hL (pj_W_set hW m1 m2 ?_ e2 e3 (fun _ _ _ z => by cases z; decide)) (pj_S_set hS m1 e2 e3)
          show H'[pj_ad G o]? = some (vp_cell (G.2.2.2.2 1) (n, .inl _))
          rw [e1, vp_cell_i]
          refine congrArg some ((arrV_store (G.2.2.2.2 1) n i.toNatClampNeg (fun j => Value.int (f j)) _).trans ?_)
          refine (congrArg (arrV (G.2.2.2.2 1) n) ?_).trans (vp_cell_i _ _ _).symm
          funext q
          by_cases hq : q = i.toNatClampNeg
          · subst hq
            simp [updV, upd, vp_nar, narrow]
          · simp [updV, upd, hq]
        · cases h
theorem pj_o_zast {st : List Value} {g : pj_Cfg} (hX : pj_X G k p s m args meth c) (hL : pj_has G ls (pj_ml k) L) (hW : pj_W G M H) (hS : va_S (pj_A G) s.heap H locs) (hd : decode (pj_by k) pc = .ok (.bastore, 1)) (h : pj_xast 2 (fun x => vp_nar .boolean x) (pc + 1) L M st = some g) (K : pj_K G k p l e R s m args below meth c Q N0 S0 g) : W p l e R s m args below meth c H locs (M.1 - N0) (M.2.1 - S0) Q (F0 m pc ls (st.map (pj_e G))) := by
  match st, h with
  | .int x :: .int i :: .ref o :: st, h =>
    simp only [pj_xast] at h
    cases ho : M.2.2 o with
    | inl y => rw [ho] at h; cases h
    | inr y =>
      obtain ⟨t, n, y⟩ := y
      cases y with
      | inr f => rw [ho] at h; cases h
      | inl f =>
        rw [ho] at h
        simp only [pj_ars] at h
        split at h
        · rename_i hc
          obtain ⟨rfl, hin⟩ := hc
          cases h
          obtain ⟨m1, m2⟩ := pj_made_arr hW ho (by decide)
          have hg1 := pj_ws_get (G := G) (H := M.2.2) m1 m2
          rw [ho] at hg1
          refine W.zast hX.1 hX.2.1 (hW.1 _ _ hg1) ((hX.2.2.2.2.2.2.2.2.1.2 2 _ rfl).1 n (fun j => .int (f j))) (fun q => by cases q) (by show ¬ (i < 0 ∨ (arrV _ _ _).slots.size ≤ _); rw [arrV_size]; exact pj_in_vp hin) rfl rfl hd fun H' e1 e2 e3 => ?_
          refine K ls H' _ hL (pj_W_set hW m1 m2 ?_ e2 e3 (fun _ _ _ z => by cases z; decide)) (pj_S_set hS m1 e2 e3)
          show H'[pj_ad G o]? = some (vp_cell (G.2.2.2.2 2) (n, .inl _))
          rw [e1, vp_cell_i]
          refine congrArg some ((arrV_store (G.2.2.2.2 2) n i.toNatClampNeg (fun j => Value.int (f j)) _).trans ?_)
          refine (congrArg (arrV (G.2.2.2.2 2) n) ?_).trans (vp_cell_i _ _ _).symm
          funext q
          by_cases hq : q = i.toNatClampNeg
          · subst hq
            simp [updV, upd, vp_nar, narrow]
          · simp [updV, upd, hq]
        · cases h
theorem pj_o_aald {st : List Value} {g : pj_Cfg} (hX : pj_X G k p s m args meth c) (hL : pj_has G ls (pj_ml k) L) (hW : pj_W G M H) (hS : va_S (pj_A G) s.heap H locs) (hd : decode (pj_by k) pc = .ok (.aaload, 1)) (h : pj_aald (pc + 1) L M st = some g) (K : pj_K G k p l e R s m args below meth c Q N0 S0 g) : W p l e R s m args below meth c H locs (M.1 - N0) (M.2.1 - S0) Q (F0 m pc ls (st.map (pj_e G))) := by
  match st, h with
  | .int i :: .ref o :: st, h =>
    simp only [pj_aald] at h
    cases ho : M.2.2 o with
    | inl x => rw [ho] at h; cases h
    | inr x =>
      obtain ⟨t, n, x⟩ := x
      cases x with
      | inl f => rw [ho] at h; cases h
      | inr f =>
        rw [ho] at h
        simp only [pj_qrl] at h
        split at h
        · rename_i v hv
          split at hv
          · rename_i hc
            cases hv
            cases h
            obtain ⟨rfl, hin⟩ := hc
            obtain ⟨m1, m2⟩ := pj_made_arr hW ho (by decide)
            have hg1 := pj_ws_get (G := G) (H := M.2.2) m1 m2
            rw [ho] at hg1
            have K1 := K ls H locs hL hW hS
            have ev : pj_e G (va_rf (f i.toNatClampNeg)) = va_rf ((f i.toNatClampNeg).map (pj_ad G)) := by cases f i.toNatClampNeg <;> rfl
            refine va_aldq hX.1 hX.2.1 hX.2.2.2.2.2.2.2.2.1 hW.1 _ 3 hg1 rfl (pj_in_vp hin) hd ?_
            rw [← ev]
            exact K1
          · cases hv
        · cases h
theorem pj_o_aast {st : List Value} {g : pj_Cfg} (hX : pj_X G k p s m args meth c) (hL : pj_has G ls (pj_ml k) L) (hW : pj_W G M H) (hS : va_S (pj_A G) s.heap H locs) (hd : decode (pj_by k) pc = .ok (.aastore, 1)) (h : pj_aast (pc + 1) L M st = some g) (K : pj_K G k p l e R s m args below meth c Q N0 S0 g) : W p l e R s m args below meth c H locs (M.1 - N0) (M.2.1 - S0) Q (F0 m pc ls (st.map (pj_e G))) := by
  match st, h with
  | .ref x :: .int i :: .ref o :: st, h =>
    simp only [pj_aast] at h
    split at h
    · rename_i hu
      cases ho : M.2.2 o with
      | inl y => rw [ho] at h; cases h
      | inr y =>
        obtain ⟨t, n, y⟩ := y
        cases y with
        | inl f => rw [ho] at h; cases h
        | inr f =>
          rw [ho] at h
          simp only [pj_qrs] at h
          split at h
          · rename_i hc
            obtain ⟨rfl, hin⟩ := hc
            cases h
            cases hx : M.2.2 x with
            | inr y => rw [hx] at hu; cases hu
            | inl y =>
              obtain ⟨ci, vs⟩ := y
              rw [hx] at hu
              have hci : ci = 4 := by simpa [pj_isU] using hu
              subst hci
              obtain ⟨m1, m2⟩ := pj_made_arr hW ho (by decide)
              obtain ⟨v1, v2⟩ := pj_made_obj hW hx (by decide)
              have hg1 := pj_ws_get (G := G) (H := M.2.2) m1 m2
              have hg2 := pj_ws_get (G := G) (H := M.2.2) v1 v2
              rw [ho] at hg1
              rw [hx] at hg2
              have hK := hX.2.2.2.2.2.2.2.2.1
              obtain ⟨r', hr', cellV, g1, g2, g3, -⟩ := hW.1 _ _ hg2
              have hcls := (hK.1 4 _ rfl).2
              obtain ⟨kA, comp, k1, k2, k3, -⟩ := (hK.2 3 _ rfl).2
              have hcomp : comp = G.2.2.2.1.1 4 := Option.some.inj (k3.symm.trans hcls.1)
              subst hcomp
              obtain ⟨kC, hkC, -⟩ := hcls.2
              have hvi := pj_in_vp hin
              refine W.aast hX.1 hX.2.1 (hW.1 _ _ hg1) (fun q h => by cases h) (fun h => by cases h) k1 k2 rfl hkC ⟨fun q => hvi (Or.inl q), by show _ < (arrV _ _ _).slots.size; rw [arrV_size]; exact Nat.not_le.mp fun q => hvi (Or.inr q)⟩ g1 (fun q h => by rw [g3] at h; cases h) (by rw [g2]; exact hkC) (by rw [g2]; exact va_assign hcls) rfl rfl hd fun H' e1 e2 e3 => ?_
              refine K ls H' _ hL (pj_W_set hW m1 m2 ?_ e2 e3 (fun _ _ _ z => by cases z; decide)) (pj_S_set hS m1 e2 e3)
              show H'[pj_ad G o]? = some (vp_cell (G.2.2.2.2 3) (n, .inr (.inr (.inr (.inr _)))))
              rw [e1, vp_cell_q]
              refine congrArg some ((arrV_store (G.2.2.2.2 3) n i.toNatClampNeg (fun j => va_rf ((f j).map (pj_ad G))) _).trans ?_)
              refine (congrArg (arrV (G.2.2.2.2 3) n) ?_).trans (vp_cell_q _ _ _).symm
              funext q
              by_cases hq : q = i.toNatClampNeg
              · subst hq
                simp [updV, va_up, va_rf]
              · simp [updV, va_up, hq]
          · cases h
    · cases h
theorem pj_o_alen {st : List Value} {g : pj_Cfg} (hX : pj_X G k p s m args meth c) (hL : pj_has G ls (pj_ml k) L) (hW : pj_W G M H) (hS : va_S (pj_A G) s.heap H locs) (hd : decode (pj_by k) pc = .ok (.arraylength, 1)) (h : pj_alen (pc + 1) L M st = some g) (K : pj_K G k p l e R s m args below meth c Q N0 S0 g) : W p l e R s m args below meth c H locs (M.1 - N0) (M.2.1 - S0) Q (F0 m pc ls (st.map (pj_e G))) := by
  match st, h with
  | .ref o :: st, h =>
    simp only [pj_alen] at h
    cases ho : M.2.2 o with
    | inl x => rw [ho] at h; cases h
    | inr x =>
      obtain ⟨t, n, x⟩ := x
      rw [ho] at h
      cases h
      have K1 := K ls H locs hL hW hS
      by_cases h4 : t < 4
      · obtain ⟨m1, m2⟩ := pj_made_arr hW ho h4
        have hg1 := pj_ws_get (G := G) (H := M.2.2) m1 m2
        rw [ho] at hg1
        have hty : ∃ ty, (pj_tys G)[t]? = some (G.2.2.2.2 t, ty) := by
          rcases (show t = 0 ∨ t = 1 ∨ t = 2 ∨ t = 3 by omega) with rfl | rfl | rfl | rfl <;> exact ⟨_, rfl⟩
        obtain ⟨ty, hty⟩ := hty
        cases x with
        | inl f => exact va_alen hX.1 hX.2.1 hX.2.2.2.2.2.2.2.2.1 hW.1 _ t hg1 hty rfl hd K1
        | inr f => exact va_alen hX.1 hX.2.1 hX.2.2.2.2.2.2.2.2.1 hW.1 _ t hg1 hty rfl hd K1
      · rcases Nat.lt_or_ge o 4 with q | q
        · have e4 := hW.2.2.2.1 o q
          rw [ho] at e4
          have e5 : n = (G.2.2.1 o).1 := congrArg (fun z => z.2.1) (Sum.inr.inj e4)
          subst e5
          obtain ⟨cell, t1, t2, t3, t4, t5, t6, t7⟩ := hX.2.2.2.2.2.2.2.2.2.2.2.2.1 o q
          have hlt0 : G.2.1 o < s.heap.size := (Array.getElem?_eq_some_iff.mp t1).1
          exact W.alen hX.1 hX.2.1 (by rw [pj_ad_lo q, hS.2.1 _ hlt0 t7]; exact t1) t2 t5 rfl rfl hd K1
        · exact absurd (hW.2.2.2.2.2 o q _ _ _ ho) h4
theorem pj_o_newa {st : List Value} {g : pj_Cfg} (hX : pj_X G k p s m args meth c) (hL : pj_has G ls (pj_ml k) L) (hW : pj_W G M H) (hS : va_S (pj_A G) s.heap H locs) {t : ArrayType} {a : Nat} (hd : decode (pj_by k) pc = .ok (.newarray t, 2)) (hr : (match (generalizing := false) t with | .int => a == 0 | .char => a == 1 | .boolean => a == 2 | _ => false) = true) (hN : N0 ≤ M.1) (hS0 : S0 ≤ M.2.1) (h : pj_newa a (pc + 2) L M st = some g) (hc : g.2.2.2.1 - N0 ≤ R.cells) (hs : g.2.2.2.2.1 - S0 ≤ R.slots) (K : pj_K G k p l e R s m args below meth c Q N0 S0 g) : W p l e R s m args below meth c H locs (M.1 - N0) (M.2.1 - S0) Q (F0 m pc ls (st.map (pj_e G))) := by
  match st, h with
  | .int n :: st, h =>
    simp only [pj_newa] at h
    split at h
    · rename_i hn
      cases h
      have hK := hX.2.2.2.2.2.2.2.2.1
      simp only at hc hs
      have key : ∀ (ty : FieldType), newarray.typeOf t = ty → (Cond.arrayClass ty).before args s = true → a ≠ 3 → defaultValue ty = .int 0 → componentBytes ty ≤ 4 → (∀ cA, s.vm.findClass ("[" ++ ty.toString) = some cA → cA = G.2.2.2.2 a) → a < 4 → W p l e R s m args below meth c H locs (M.1 - N0) (M.2.1 - S0) Q (F0 m pc ls ((Value.int n :: st).map (pj_e G))) := by
        intro ty e1 hw ha3 hdv hcb hcls ha4
        refine va_newaK hX.1 hX.2.1 (atype := t) (by rw [e1]; exact hw) rfl hd rfl hn.1 rfl (by rw [e1]; exact Nat.le_trans (Nat.mul_le_mul hn.2 hcb) (by decide)) (by omega) (by omega) rfl fun H' cA f1 f2 f3 _ f5 => ?_
        rw [e1] at f1 f5
        have ecA := hcls cA f5
        have ead : pj_ad G M.1 = H.size := by rw [pj_ad_hi hW.2.2.1, hW.2.1]
        have K1 := K ls H' locs hL (pj_W_push hW (n := M.2.1 + n.toNatClampNeg) (c0 := .inr (a, n.toNatClampNeg, .inl (fun _ => 0))) (by
          show H'[H.size]? = some (vp_cell (G.2.2.2.2 a) (n.toNatClampNeg, .inl (fun _ => 0)))
          rw [f1, vp_cell_i, hdv, ecA]) f2 f3 (fun _ _ _ z => by cases z; exact ha4) |> fun z => by rw [if_neg ha3]; exact z) (pj_S_push hS f2 f3)
        simp only [List.map_cons, pj_e, ead] at K1
        rw [show M.1 + 1 - N0 = M.1 - N0 + 1 by omega, show M.2.1 + n.toNatClampNeg - S0 = M.2.1 - S0 + n.toNatClampNeg by omega] at K1
        exact K1
      cases t with
      | int =>
        have ea : a = 0 := by simpa using hr
        subst ea
        exact key .int rfl (hX.2.2.2.2.2.1 _ (List.mem_filter.mpr ⟨List.mem_of_getElem? (i := 58) (by decide +kernel), rfl⟩)) (by decide) rfl (by decide) (fun cA z => by
          have h9 := (hK.2 0 _ rfl).2
          exact Option.some.inj (z.symm.trans h9)) (by decide)
      | char =>
        have ea : a = 1 := by simpa using hr
        subst ea
        exact key .char rfl (hX.2.2.2.2.2.1 _ (List.mem_filter.mpr ⟨List.mem_of_getElem? (i := 212) (by decide +kernel), rfl⟩)) (by decide) rfl (by decide) (fun cA z => by
          have h9 := (hK.2 1 _ rfl).2
          exact Option.some.inj (z.symm.trans h9)) (by decide)
      | boolean =>
        have ea : a = 2 := by simpa using hr
        subst ea
        exact key .boolean rfl (hX.2.2.2.2.2.1 _ (List.mem_filter.mpr ⟨List.mem_of_getElem? (i := 252) (by decide +kernel), rfl⟩)) (by decide) rfl (by decide) (fun cA z => by
          have h9 := (hK.2 2 _ rfl).2
          exact Option.some.inj (z.symm.trans h9)) (by decide)
      | _ => cases hr
    · cases h
theorem pj_o_anew {st : List Value} {g : pj_Cfg} (hX : pj_X G k p s m args meth c) (hL : pj_has G ls (pj_ml k) L) (hW : pj_W G M H) (hS : va_S (pj_A G) s.heap H locs) {i a : Nat} (hd : decode (pj_by k) pc = .ok (.anewarray i, 3)) (hr : (a == 3 && pj_is 33 (.classLink (pj_on (pj_cn k)) i "VotedCharge$Unit")) = true) (hN : N0 ≤ M.1) (hS0 : S0 ≤ M.2.1) (h : pj_newa a (pc + 3) L M st = some g) (hc : g.2.2.2.1 - N0 ≤ R.cells) (hs : g.2.2.2.2.1 - S0 ≤ R.slots) (K : pj_K G k p l e R s m args below meth c Q N0 S0 g) : W p l e R s m args below meth c H locs (M.1 - N0) (M.2.1 - S0) Q (F0 m pc ls (st.map (pj_e G))) := by
  match st, h with
  | .int n :: st, h =>
    simp only [pj_newa] at h
    rw [Bool.and_eq_true, beq_iff_eq] at hr
    obtain ⟨rfl, hr⟩ := hr
    split at h
    · rename_i hn
      cases h
      simp only at hc hs
      have hK := hX.2.2.2.2.2.2.2.2.1
      refine W.anew hX.1 hX.2.1 hX.2.2.2.2.1 (hX.2.2.2.2.2.1 _ (pj_good hr rfl)) (va_AO.use hX.2.2.2.2.2.2.2.2.2.2.1) rfl hd rfl hn.1 (Nat.le_trans (Nat.mul_le_mul_right 4 hn.2) (by decide)) (by omega) (by omega) fun cA kA comp f1 f2 f3 f4 => ?_
      generalize hH1 : H.push ({ cls := cA, slots := Array.replicate n.toNatClampNeg .null, vm := .none } : Cell) = H'
      have z1 : H'.size = H.size + 1 := by rw [← hH1, Array.size_push]
      have e1 : H'[H.size]? = some (arrV cA n.toNatClampNeg (fun _ => .null)) := by rw [← hH1, Array.getElem?_push_size, ← arrV_new]
      have o1 : ∀ q : Nat, q < H.size → H'[q]? = H[q]? := fun q hq => by rw [← hH1, Array.getElem?_push, if_neg (Nat.ne_of_lt hq)]
      obtain ⟨kA2, comp2, -, -, -, hname⟩ := (hK.2 3 _ rfl).2
      have ecA : cA = G.2.2.2.2 3 := Option.some.inj (f1.symm.trans hname)
      have ead : pj_ad G M.1 = H.size := by rw [pj_ad_hi hW.2.2.1, hW.2.1]
      have K1 := K ls H' locs hL (pj_W_push hW (n := M.2.1 + n.toNatClampNeg) (c0 := .inr (3, n.toNatClampNeg, .inr (fun _ => none))) (by
          show H'[H.size]? = some (vp_cell (G.2.2.2.2 3) (n.toNatClampNeg, .inr (.inr (.inr (.inr _)))))
          rw [e1, vp_cell_q, ecA]
          rfl) z1 o1 (fun _ _ _ z => by cases z; decide)) (pj_S_push hS z1 o1)
      simp only [List.map_cons, pj_e, ead] at K1
      rw [show M.1 + 1 - N0 = M.1 - N0 + 1 by omega, show M.2.1 + n.toNatClampNeg - S0 = M.2.1 - S0 + n.toNatClampNeg by omega] at K1
      exact K1
    · cases h
theorem pj_o_new {st : List Value} {g : pj_Cfg} (hX : pj_X G k p s m args meth c) (hL : pj_has G ls (pj_ml k) L) (hW : pj_W G M H) (hS : va_S (pj_A G) s.heap H locs) {i a : Nat} (hd : decode (pj_by k) pc = .ok (.new i, 3)) (hr : pj_nwt.any (fun e => e.1 == pj_cn k && e.2.1 == i && e.2.2.1 == a) = true) (hN : N0 ≤ M.1) (hS0 : S0 ≤ M.2.1) (hg : g = (pc + 3, L, .ref M.1 :: st, (M.1 + 1, M.2.1 + (pj_dfl a).length, pj_up M.2.2 M.1 (.inl (a, pj_dfl a))))) (hc : g.2.2.2.1 - N0 ≤ R.cells) (hs : g.2.2.2.2.1 - S0 ≤ R.slots) (K : pj_K G k p l e R s m args below meth c Q N0 S0 g) : W p l e R s m args below meth c H locs (M.1 - N0) (M.2.1 - S0) Q (F0 m pc ls (st.map (pj_e G))) := by
  subst hg
  simp only at hc hs
  obtain ⟨en, hen, h1⟩ := List.any_eq_true.mp hr
  simp only [Bool.and_eq_true, beq_iff_eq] at h1
  obtain ⟨⟨e1, e2⟩, e3⟩ := h1
  have h2 := List.all_eq_true.mp pj_nw_ok en hen
  unfold pj_nwB at h2
  rw [e3, e1, e2] at h2
  cases hq : vwCl[a]? with
  | none => rw [hq] at h2; cases h2
  | some q =>
    rw [hq] at h2
    obtain ⟨C, T, N⟩ := q
    have hin := pj_cls_in hq
    obtain ⟨hty, hnn⟩ := pj_cls_ty hq
    have hw := pj_cls_w hq
    have hts := hX.2.2.2.2.2.1
    have hK := hX.2.2.2.2.2.2.2.2.1
    have hKn := hK.1 a _ hq
    have hlen : (pj_dfl a).length = N := by simp [pj_dfl, hq]
    rw [hlen] at hs
    have hs' : M.2.1 + N - S0 ≤ R.slots := hs
    refine W.newcK (C := C) (n := N) hX.1 hX.2.1 hX.2.2.2.2.1 (hts _ (pj_good h2 rfl)) (hts _ hw.1) (hts _ hw.2) rfl hd (by omega) (by omega) hKn.2.1 rfl fun H' kC hkC f1 f2 f3 => ?_
    have ead : pj_ad G M.1 = H.size := by rw [pj_ad_hi hW.2.2.1, hW.2.1]
    have K1 := K ls H' locs hL (pj_W_push hW (n := M.2.1 + (pj_dfl a).length) (c0 := .inl (a, pj_dfl a)) (by
      refine ⟨_, hq, (u_born _ hts hin hKn hkC f1 hty).to (fun j hj => ?_)⟩
      have hj' : j < N := hj
      have hd0 : ∀ ty : FieldType, pj_e G (defaultValue ty) = defaultValue ty := fun ty => by cases ty <;> rfl
      have e0 : (pj_dfl a).map (pj_e G) = pj_dfl a := by
        simp only [pj_dfl, hq, List.map_map]
        apply List.map_congr_left
        intro x _
        exact hd0 _
      show defaultValue (pj_fty a j) = vp_V ((pj_dfl a).map (pj_e G)) j
      rw [e0]
      simp [vp_V, pj_dfl, hq, hj']) f2 f3 (fun _ _ _ z => by cases z)) (pj_S_push hS f2 f3)
    rw [hlen] at K1
    simp only [List.map_cons, pj_e, ead] at K1
    rw [show M.1 + 1 - N0 = M.1 - N0 + 1 by omega, show M.2.1 + N - S0 = M.2.1 - S0 + N by omega] at K1
    exact K1
theorem pj_o_gets {st : List Value} {g : pj_Cfg} (hX : pj_X G k p s m args meth c) (hL : pj_has G ls (pj_ml k) L) (hW : pj_W G M H) (hS : va_S (pj_A G) s.heap H locs) {i a : Nat} {z : Int} (hd : decode (pj_by k) pc = .ok (.getstatic i, 3)) (hr : pj_stt.any (fun e => e.1 == pj_cn k && e.2.1 == i && e.2.2.1 == a && e.2.2.2.1 == z) = true) (hg : g = (pc + 3, L, .ref a :: st, M)) (K : pj_K G k p l e R s m args below meth c Q N0 S0 g) : W p l e R s m args below meth c H locs (M.1 - N0) (M.2.1 - S0) Q (F0 m pc ls (st.map (pj_e G))) := by
  subst hg
  obtain ⟨en, hen, h1⟩ := List.any_eq_true.mp hr
  simp only [Bool.and_eq_true, beq_iff_eq] at h1
  obtain ⟨⟨⟨e1, e2⟩, e3⟩, e4⟩ := h1
  have h2 := List.all_eq_true.mp pj_st_ok en hen
  have h3 := List.all_eq_true.mp pj_st_lt en hen
  rw [Bool.and_eq_true, decide_eq_true_eq, decide_eq_true_eq, e3] at h3
  have hz := hX.2.2.2.2.2.2.2.2.2.2.2.1 a h3.1 h3.2
  have K1 := K ls H locs hL hW hS
  simp only [List.map_cons, pj_e, pj_ad_lo (show a < 4 by omega)] at K1
  unfold pj_stB at h2
  split at h2
  · rw [e1, e2, e3] at h2
    exact va_gets hX.1 hX.2.1 hz hS hX.2.2.2.2.1 (hX.2.2.2.2.2.1 _ (pj_good h2 rfl)) (fun _ q => q) hd K1
  · rw [e1, e2, e3] at h2
    split at h2
    · rename_i cc ii rr nn dd hh hw
      simp only [Bool.and_eq_true, decide_eq_true_eq, beq_iff_eq] at h2
      obtain ⟨⟨⟨⟨rfl, rfl⟩, rfl⟩, rfl⟩, rfl⟩ := h2
      have hnw := hX.2.2.2.2.2.2.2.2.2.1 _ (List.mem_of_getElem? hw)
      exact va_getsN hX.1 hX.2.1 hz hS hX.2.2.2.2.1 (va_Nw.use rfl hnw) (fun _ q => q) hd K1
    · cases h2
end PJS
