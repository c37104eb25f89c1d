/-! THE CLAIM OUT OF ONE WALK OF THE LAW'S BODY. Your part is whole_start (and what it stands on); all else here is the same for every law, but numbers. -/
def R_law : String := "VotedChargeLaw"
def lw_P (b : Addr) (xs : List Int32) (args : Array Value) (s : State) : Prop := args = #[.ref b] ∧ s.IntsAt b xs ∧ xs.length ≤ 260 ∧ (Jvm.Cond.and given_1 narrow_1).before args s = true
def lw_Q (_ : Array Value) (s : State) (o : Outcome) (t : State) : Prop := o = .returned (some (.int 1)) ∧ Framed s o t [] 600000 7302250
def lw_Z (below : List Frame) (a : Array Value) (s : State) : State → Prop := fun t => ∃ o, t.status = .running ∧ Ended t below o ∧ lw_Q a s o t
/-- the law's own end, with 1 on the stack, nothing written that was there before, its room as the claim has it -/
theorem lw_ret {p : Program} {l : Launch} {e : Env} {s : State} {m : MethodId} {below : List Frame} {meth : Method} {c : Code} {b : Nat} (hx : p.tables.exec = Jvm.exec) (hb : c.code = code) (hr : meth.sig.returnType = ret) (hlocks : meth.locks = false) {pc : Nat} {H : Heap} {ls : Array Slot} (hdg : decode code pc = .ok (.ireturn, 1)) : W p l e room_1 s m #[Value.ref b] below meth c H [] 600000 7302250 (lw_Z below #[Value.ref b] s) (F0 m pc ls [.int 1]) := by
  intro T hT X
  obtain ⟨fs, hret, hrun, hended, hW, hframe⟩ := X.leave (v := some (.int 1)) (hlocks := hlocks) (fun h => by rw [hr] at h; cases h)
  have hmeth' : T.vm.method? m = some meth := X.method'
  refine ⟨T.setFrames fs, ?_, .returned (some (.int 1)), hrun, hended, rfl, ⟨_, rfl⟩, hW, hframe⟩
  jvm_step X.here [X.here.top, hx, hb, hdg, hmeth', hr, ret, narrow_b1]
  (try refine ⟨rfl, ?_⟩); (try refine ⟨rfl, ?_⟩)
  first | (intro acts; rw [hret _ acts rfl rfl rfl]) | rw [hret _ _ rfl rfl rfl]
  exact Steps.refl _
/-- what holds at the law's entry: the machine, the code, the tables' words (any of lw_tbl by 'hts w (by decide +kernel)'), the script of L ints xs at the cell b, what the Statement gives of the start (any of its parts by flat_of_before) -/
def lw_At (p : Program) (s : State) (m : MethodId) (meth : Method) (c : Code) (b L : Nat) (xs : Nat → Int32) : Prop :=
  p.tables.exec = Jvm.exec ∧ c.code = code ∧ meth.sig.returnType = ret ∧ c.maxLocals = 7 ∧ s.vm.findClass R_law = some m.cls ∧ (∀ w ∈ lw_tbl, w.before #[Value.ref b] s = true) ∧ va_X b L xs s s.heap ∧ b < s.heap.size ∧ meth.locks = false ∧ (Jvm.Cond.and given_1 narrow_1).before #[Value.ref b] s = true

def pj_v6 (a b c d e f : Int32) : Nat → Int32 := fun i => if i = 0 then a else if i = 1 then b else if i = 2 then c else if i = 3 then d else if i = 4 then e else f
def pj_ro (L : Nat) (xs : Nat → Int32) : Nat → Nat × (Nat → Int32) := fun j => match j with
  | 0 => (L, xs)
  | 1 => (6, pj_v6 60 150 5 8 40 2)
  | 2 => (6, pj_v6 1 1 1 2 1 0)
  | _ => (6, pj_v6 2000 2000 50 50 500 20)
def pj_H0 (L : Nat) (xs : Nat → Int32) : pj_Heap := fun j => if j < 4 then .inr (4, (pj_ro L xs j).1, .inl (pj_ro L xs j).2) else .inl (99, [])
/-- the law, run by the pure machine -/
def pj_LawOK (L : Nat) (xs : Nat → Int32) : Prop := ∃ (n : Nat) (M' : pj_Mem), pj_exec n 61 (0, [some (.ref 0), none, none, none, none, none, none], [], (4, 0, pj_H0 L xs)) = some (some (.int 1), M') ∧ M'.1 ≤ 600004 ∧ M'.2.1 ≤ 7302250
theorem pj_static {s : State} {b : Nat} {nm : String} {f : Nat → Int32} (hf : flatC (Jvm.Cond.and given_1 narrow_1) = flatC (Jvm.Cond.and given_1 narrow_1)) (hs : ∀ w ∈ flatC (Jvm.Cond.and given_1 narrow_1), w.before #[Value.ref b] s = true)
    (h1 : Jvm.Cond.arrayOf (.static "VotedCharge" nm "[I") .int ∈ flatC (Jvm.Cond.and given_1 narrow_1)) (h2 : Jvm.Cond.eq (.length (.static "VotedCharge" nm "[I")) (.int 6) ∈ flatC (Jvm.Cond.and given_1 narrow_1))
    (h3 : ∀ j, j < 6 → Jvm.Cond.eq (.elem (.static "VotedCharge" nm "[I") (.int (Int32.ofNat j))) (.int (f j)) ∈ flatC (Jvm.Cond.and given_1 narrow_1))
    (h4 : (Jvm.Cond.laysStatic "VotedCharge" nm "[I").before #[Value.ref b] s = true) (h5 : (Jvm.Cond.initialized "VotedCharge").before #[Value.ref b] s = true) {A : Nat → Prop} (hA : ∀ a : Nat, a < s.heap.size → ¬ A a) :
    ∃ t : Nat, va_Z "VotedCharge" nm "[I" (.ref t) A s s.heap ∧ va_T .int t 6 (fun i => .int (f i)) A s s.heap := by
  obtain ⟨t, e1, e2⟩ := va_Tof (tm := .static "VotedCharge" nm "[I") (ty := .int) (N := 6) (f := fun i => .int (f i)) (A := A) (by decide) (hs _ h1) (va_eqt (hs _ h2)) (fun j hj => va_eqt (hs _ (h3 j hj))) hA
  exact ⟨t, va_Zof h4 h5 e1 hA, e2⟩
theorem pj_flat_all : (["FIRST_VALUE", "LEAST_VALUE", "MOST_VALUE"].all fun nm => decide (Jvm.Cond.arrayOf (.static "VotedCharge" nm "[I") .int ∈ flatC (Jvm.Cond.and given_1 narrow_1)) && decide (Jvm.Cond.eq (.length (.static "VotedCharge" nm "[I")) (.int 6) ∈ flatC (Jvm.Cond.and given_1 narrow_1))) = true := by decide +kernel
theorem pj_flat_1 : ∀ j, j < 6 → Jvm.Cond.eq (.elem (.static "VotedCharge" "FIRST_VALUE" "[I") (.int (Int32.ofNat j))) (.int (pj_v6 60 150 5 8 40 2 j)) ∈ flatC (Jvm.Cond.and given_1 narrow_1) := by decide +kernel
theorem pj_flat_2 : ∀ j, j < 6 → Jvm.Cond.eq (.elem (.static "VotedCharge" "LEAST_VALUE" "[I") (.int (Int32.ofNat j))) (.int (pj_v6 1 1 1 2 1 0 j)) ∈ flatC (Jvm.Cond.and given_1 narrow_1) := by decide +kernel
theorem pj_flat_3 : ∀ j, j < 6 → Jvm.Cond.eq (.elem (.static "VotedCharge" "MOST_VALUE" "[I") (.int (Int32.ofNat j))) (.int (pj_v6 2000 2000 50 50 500 20 j)) ∈ flatC (Jvm.Cond.and given_1 narrow_1) := by decide +kernel
set_option maxHeartbeats 4000000 in
theorem pj_start {p : Program} {e : Env} {s : State} {m : MethodId} {below : List Frame} {meth : Method} {c : Code} (l : Launch) {b L : Nat} {xs : Nat → Int32} (hok : pj_LawOK L xs) (C0 : lw_At p s m meth c b L xs) : W p l e room_1 s m #[Value.ref b] below meth c s.heap [] 0 0 (lw_Z below #[Value.ref b] s) (entryFrame m ([Value.ref b] : List Value).toArray 7) := by
  obtain ⟨hx, hb, hr, hml, hown, hts, hX, hbl, hlocks, hgv⟩ := id C0
  have hs := flat_of_before _ hgv
  have htg : ∀ w ∈ pj_tbl, w.before #[Value.ref b] s = true := fun w hw => hts w (List.mem_filter.mp hw).1
  have hkn : ∀ k : Nat, ∃ (cc : ClassId) (ii : Nat → Nat), ∀ q : vw_C, vwCl[k]? = some q → u_Kn s q.1 q.2.1 q.2.2 cc ii := by
    intro k
    cases hq : vwCl[k]? with
    | none => exact ⟨0, fun _ => 0, fun q h => by cases h⟩
    | some q =>
      obtain ⟨cc, ii, h⟩ := u_known (C := q.1) (T := q.2.1) (N := q.2.2) (n := q.2.2) htg (pj_cls_in hq) (htg _ (pj_cls_w hq).1)
      exact ⟨cc, ii, fun q' h' => by cases h'; exact h⟩
  obtain ⟨dC, dI, hKc⟩ : ∃ (dC : Nat → ClassId) (dI : Nat → Nat → Nat), ∀ (k : Nat) (q : vw_C), vwCl[k]? = some q → u_Kn s q.1 q.2.1 q.2.2 (dC k) (dI k) :=
    ⟨fun k => Classical.choose (hkn k), fun k => Classical.choose (Classical.choose_spec (hkn k)), fun k q hq => Classical.choose_spec (Classical.choose_spec (hkn k)) q hq⟩
  obtain ⟨cI, kI, coI, aI1, aI2, aI3⟩ := Cond.arrayClass_spec (hts (.arrayClass .int) (List.mem_of_getElem? (i := 58) (by decide +kernel)))
  obtain ⟨cC, kC, coC, aC1, aC2, aC3⟩ := Cond.arrayClass_spec (hts (.arrayClass .char) (List.mem_of_getElem? (i := 212) (by decide +kernel)))
  obtain ⟨cZ, kZ, coZ, aZ1, aZ2, aZ3⟩ := Cond.arrayClass_spec (hts (.arrayClass .boolean) (List.mem_of_getElem? (i := 252) (by decide +kernel)))
  have hover := hts (.arrayOver (.object "VotedCharge$Unit")) (List.mem_of_getElem? (i := 226) (by decide +kernel))
  obtain ⟨coU, cU, kU, aU1, -, aU2, aU3, aU4⟩ := Cond.arrayOver_spec hover
  have hA : ∀ a : Nat, a < s.heap.size → ¬ (fun q : Nat => s.heap.size ≤ q) a := fun a h => Nat.not_le.mpr h
  have hini := hts (.initialized "VotedCharge") (List.mem_of_getElem? (i := 16) (by decide +kernel))
  have hfa := List.all_eq_true.mp pj_flat_all
  simp only [Bool.and_eq_true, decide_eq_true_eq] at hfa
  obtain ⟨t1, z1, y1⟩ := pj_static (f := pj_v6 60 150 5 8 40 2) (A := fun q : Nat => s.heap.size ≤ q) rfl hs (hfa "FIRST_VALUE" (by decide)).1 (hfa "FIRST_VALUE" (by decide)).2 pj_flat_1 (hts _ (List.mem_of_getElem? (i := 60) (by decide +kernel))) hini hA
  obtain ⟨t2, z2, y2⟩ := pj_static (f := pj_v6 1 1 1 2 1 0) (A := fun q : Nat => s.heap.size ≤ q) rfl hs (hfa "LEAST_VALUE" (by decide)).1 (hfa "LEAST_VALUE" (by decide)).2 pj_flat_2 (hts _ (List.mem_of_getElem? (i := 413) (by decide +kernel))) hini hA
  obtain ⟨t3, z3, y3⟩ := pj_static (f := pj_v6 2000 2000 50 50 500 20) (A := fun q : Nat => s.heap.size ≤ q) rfl hs (hfa "MOST_VALUE" (by decide)).1 (hfa "MOST_VALUE" (by decide)).2 pj_flat_3 (hts _ (List.mem_of_getElem? (i := 415) (by decide +kernel))) hini hA
  obtain ⟨scr, hX1, hX2, hX3, hX4, hX5⟩ := hX
  have y0 : va_T .int b L (fun i => .int (xs i)) (fun q : Nat => s.heap.size ≤ q) s s.heap := ⟨scr, hX1, hX2, hX3, by rw [hX4]; exact Nat.le_refl _, by rw [hX4] <;> rfl, hX5, hA b hbl⟩
  generalize hG : ((s.heap.size, (fun j => match j with | 0 => b | 1 => t1 | 2 => t2 | _ => t3), pj_ro L xs, (dC, dI), (fun t => match t with | 0 => cI | 1 => cC | 2 => cZ | _ => cU)) : pj_G) = G
  have hF : pj_F G s s.heap := by
    subst hG
    refine ⟨⟨hKc, fun k q hq => ?_⟩, fun w hw => ?_, va_AO.of hover, fun j h1 h3 => ?_, fun j h4 => ?_, Nat.le_refl _⟩
    · match k, hq with
      | 0, hq => cases hq; exact ⟨fun n z => ⟨fun k h => (by cases h), kI, aI2, coI, aI3⟩, aI1⟩
      | 1, hq => cases hq; exact ⟨fun n z => ⟨fun k h => (by cases h), kC, aC2, coC, aC3⟩, aC1⟩
      | 2, hq => cases hq; exact ⟨fun n z => ⟨fun k h => (by cases h), kZ, aZ2, coZ, aZ3⟩, aZ1⟩
      | 3, hq => cases hq; exact ⟨fun n z => ⟨fun k h => (by cases h), kU, aU2, coU, aU3⟩, kU, coU, aU2, aU3, aU1, aU4⟩
      | k + 4, hq => simp [pj_tys] at hq
    · obtain ⟨j, hj⟩ := List.getElem?_of_mem hw
      have hlt := (List.getElem?_eq_some_iff.mp hj).1
      have h1 := List.all_eq_true.mp pj_ns_ok j (List.mem_range.mpr hlt)
      try simp only at h1
      rw [hj] at h1
      have h2 := List.all_eq_true.mp pj_nst_all w hw
      have h3 := hts w (pj_is_mem h1)
      cases w with
      | methodLinkNest a i x h => exact va_Nw.of rfl h3
      | fieldLinkNest a i b n d h => exact va_Nw.of rfl h3
      | _ => cases h2
    · rcases (show j = 1 ∨ j = 2 ∨ j = 3 by omega) with rfl | rfl | rfl
      · exact z1
      · exact z2
      · exact z3
    · rcases (show j = 0 ∨ j = 1 ∨ j = 2 ∨ j = 3 by omega) with rfl | rfl | rfl | rfl
      · exact y0
      · exact y1
      · exact y2
      · exact y3
  have hG1 : G.1 = s.heap.size := by subst hG; rfl
  have hG2 : G.2.1 0 = b := by subst hG; rfl
  have hG3 : G.2.2.1 = pj_ro L xs := by subst hG; rfl
  have hW0 : pj_W G (4, 0, pj_H0 L xs) s.heap := by
    refine ⟨fun k q h => by simp [pj_ws] at h, by rw [hG1]; rfl, Nat.le_refl _, fun j hj => ?_, fun j hj => ?_, fun j hj t n x h => ?_⟩
    · rw [hG3]
      show pj_H0 L xs j = _
      rw [pj_H0, if_pos hj]
    · show pj_H0 L xs j = _
      rw [pj_H0, if_neg (by show ¬ j < 4; have : 4 ≤ j := hj; omega)]
    · have h' : pj_H0 L xs j = .inr (t, n, x) := h
      rw [pj_H0, if_neg (by omega)] at h'
      cases h'
  obtain ⟨n, M', hex, hm1, hm2⟩ := hok
  have hX9 : pj_X G 61 p s m #[Value.ref b] meth c := ⟨hx, hb, hml, hr, hown, htg, hlocks, fun h => absurd h (by decide), hF⟩
  rw [lg_entry_eq]
  have hl := lv_entry ([.ref b]) (n := 7) (Nat.le_of_ble_eq_true rfl)
  generalize (lg_sl ([.ref b]) ++ List.replicate (7 - (lg_sl ([.ref b])).length) Slot.unset).toArray = ls at hl ⊢
  have hL : pj_has G ls (pj_ml 61) [some (.ref 0), none, none, none, none, none, none] := by
    refine ⟨hl.1, rfl, hl.2.1, fun i v hv => ?_⟩
    match i, hv with
    | 0, hv =>
      cases hv
      have e1 : pj_e G (.ref 0) = .ref b := by show Value.ref (pj_ad G 0) = _; rw [pj_ad_lo (by decide), hG2]
      rw [e1]
      exact hl.2.2 (0, .ref b) List.mem_cons_self
    | 1, hv => cases hv
    | 2, hv => cases hv
    | 3, hv => cases hv
    | 4, hv => cases hv
    | 5, hv => cases hv
    | 6, hv => cases hv
    | _ + 7, hv => cases hv
  have hgo := pj_walk G l n 61 0 [some (.ref 0), none, none, none, none, none, none] [] (4, 0, pj_H0 L xs) (some (.int 1)) M' hex (by decide) (R := room_1) (N0 := 4) (S0 := 0) (Q := lw_Z below #[Value.ref b] s) (p := p) (e := e) (below := below) hX9 hL hW0 va_S.rf (Nat.le_refl _) (Nat.le_refl _) (by show M'.1 - 4 ≤ 600000; omega) (by show M'.2.1 - 0 ≤ 7302250; omega) (by decide) (by decide) (by
    intro H' locs' ls' pc' i st' hret hdc hW' hS'
    cases i with
    | ireturn =>
      match st', hret with
      | [.int y], hret =>
        unfold pj_rtn at hret
        have hrt : pj_rt 61 = some .boolean := rfl
        simp only [hrt] at hret
        split at hret
        · cases hret
          refine va_forget (fun q hq => by have := hS'.2.2 q hq; rw [← hG1]; exact this) (W.widen (by show M'.1 - 4 ≤ 600000; omega) (by show M'.2.1 - 0 ≤ 7302250; omega) ?_)
          exact lw_ret hx hb hr hlocks hdc
        · cases hret
    | return_ =>
      match st', hret with
      | [], hret =>
        have hrt : pj_rt 61 = some .boolean := rfl
        simp [pj_rtn, hrt] at hret
    | areturn =>
      match st', hret with
      | [.ref y], hret =>
        have hrt : pj_rt 61 = some .boolean := rfl
        simp [pj_rtn, hrt] at hret
    | _ => cases hret)
  exact hgo
