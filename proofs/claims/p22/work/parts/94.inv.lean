/-! WHAT A UNIT KEEPS: the event and the recorder's rows -/
def lw_K (f : Nat → Int32) (t : Nat) : Prop := ∃ m r, m ≤ 12 ∧ f 30 = nI m ∧ (∀ i, i < m → f (31 + 10 * i) = nI (r + i)) ∧ r + m ≤ t ∧ (¬ sp_rec f = 0 → 0 < m → r + m = t) ∧ ∀ e, e ≤ t → f 29 = nI e → r + m ≤ e + 7
def lw_I (f : Nat → Int32) (t : Nat) : Prop := pj_Ro f t ∧ (f 29 = -6 ↔ f 23 = -6 ∧ f 24 = -6 ∧ f 25 = -6) ∧ lw_K f t
theorem lw_I.keep {f F : Nat → Int32} {t : Nat} (h : lw_I f t) (hR : pj_Ro F t) (e : ∀ j, (23 ≤ j ∧ j ≤ 25) ∨ 29 ≤ j ∨ j = 6 → F j = f j) : lw_I F t := by
  obtain ⟨-, h2, m, r, k1, k2, k3, k4, k5, k6⟩ := h
  have er : sp_rec F = sp_rec f := by
    unfold sp_rec
    rw [e 29 (by omega), e 6 (by omega)]
  refine ⟨hR, ?_, m, r, k1, ?_, fun i hi => ?_, k4, ?_, ?_⟩
  · rw [e 29 (by omega), e 23 (by omega), e 24 (by omega), e 25 (by omega)]
    exact h2
  · rw [e 30 (by omega)]
    exact k2
  · rw [e _ (by omega)]
    exact k3 i hi
  · rw [er]
    exact k5
  · rw [e 29 (by omega)]
    exact k6
theorem nI_n6 {n : Nat} (h : n < 2 ^ 31) : ¬ nI n = -6 := by
  intro q
  have : (nI n).toInt = (-6 : Int32).toInt := congrArg _ q
  rw [nI_toInt h] at this
  have e6 : (-6 : Int32).toInt = -6 := rfl
  omega
theorem sp_rec_e {f : Nat → Int32} {e t : Nat} (he : e < 200000) (ht : t < 200000) (h29 : f 29 = nI e) (h6 : f 6 = nI t) : sp_rec f = 0 ↔ e + 6 < t := by
  unfold sp_rec
  have e1 : nI e + 6 = nI (e + 6) := nI_add e 6
  rw [h29, if_neg (nI_n6 (by omega)), e1, h6]
  by_cases c : e + 6 < t
  · rw [if_pos ((nI_ltI (by omega) (by omega)).mpr c)]
    exact ⟨fun _ => c, fun _ => rfl⟩
  · rw [if_neg (fun w => c ((nI_ltI (by omega) (by omega)).mp w))]
    exact ⟨fun w => absurd w (by decide), fun w => absurd w c⟩
theorem sp_rec_n {f : Nat → Int32} (h : f 29 = -6) : ¬ sp_rec f = 0 := by
  unfold sp_rec
  rw [if_pos h]
  decide
section T94
variable {f g : Nat → Int32} {x0 x1 x2 c : Int32}
theorem lw_K.tick {t : Nat} (ht : t ≤ 1000) (hR : pj_Ro f t) (h : lw_K f t) : lw_K (sp_tick f g c) (t + 1) := by
  obtain ⟨-, ⟨n, hn, r30⟩, r6, -, -, -, -, -, -, r29⟩ := hR
  obtain ⟨m, r, k1, k2, k3, k4, k5, k6⟩ := h
  have enm : n = m := (nI_eq (by omega) (by omega)).mp (r30.symm.trans k2)
  subst enm
  have f6 : ∀ k, k < 7 ∨ 25 < k → tk_6 f g c k = f k := fun k hk => tk_6_ne hk
  have e30 : tk_6 f g c 30 = nI n := (f6 30 (by decide)).trans r30
  have er : sp_rec (tk_6 f g c) = sp_rec f := by
    unfold sp_rec
    rw [f6 29 (by decide), f6 6 (by decide)]
  have F6 : sp_tick f g c 6 = nI (t + 1) := by
    rw [sp_tick_6 hn r30, r6]
    exact nI_1 t
  have F7 : ∀ k, k ≠ 6 → k ≠ 29 → sp_tick f g c k = tk_7 f g c k := by
    intro k a b
    unfold sp_tick tk_8
    rw [pj_upd_ap, if_neg a, pj_upd_ap, if_neg b]
  have F729 : tk_7 f g c 29 = f 29 := (tk_7_hi hn r30 (by omega)).trans (f6 29 (by decide))
  have F76 : tk_7 f g c 6 = nI t := (tk_7_hi hn r30 (by omega)).trans ((f6 6 (by decide)).trans r6)
  have F29 : sp_tick f g c 29 = (if tk_fi f g c = 0 then f 29 else if f 29 = -6 then nI t else f 29) := by
    unfold sp_tick
    rw [pj_upd_ap, if_neg (by decide)]
    unfold tk_8
    rw [pj_upd_ap, if_pos rfl, F729, F76]
  by_cases c0 : sp_rec f = 0
  · have G7 : tk_7 f g c = tk_6 f g c := by
      unfold tk_7
      rw [er, if_pos c0]
    have n29 : ¬ f 29 = -6 := fun q => sp_rec_n q c0
    obtain ⟨e, he, q29⟩ := r29.resolve_left n29
    have G29 : sp_tick f g c 29 = nI e := by
      rw [F29, if_neg n29, q29, ite_self]
    have c1 : e + 6 < t := (sp_rec_e (by omega) (by omega) q29 r6).mp c0
    have c2 : sp_rec (sp_tick f g c) = 0 := (sp_rec_e (by omega) (by omega) G29 F6).mpr (by omega)
    refine ⟨n, r, hn, ?_, fun i hi => ?_, by omega, fun w => absurd c2 w, fun e' he' q => ?_⟩
    · rw [F7 30 (by decide) (by decide), G7]
      exact e30
    · rw [F7 _ (by omega) (by omega), G7, f6 _ (by omega)]
      exact k3 i hi
    · rw [G29] at q
      have : e = e' := (nI_eq (by omega) (by omega)).mp q
      subst this
      exact k6 e he q29
  · have G7 : tk_7 f g c = sp_put (sp_sh (tk_6 f g c)) g (tk_m f g) (tk_lo f g c) (tk_hi f g c) (tk_fi f g c) c (sp_at (tk_6 f g c)) := by
      unfold tk_7
      rw [er, if_neg c0]
    obtain ⟨q, hq, eq, eq30⟩ := sp_at_ok hn e30
    rw [eq] at G7
    have qn : q = n ∨ (n = 12 ∧ q = 11) := by
      by_cases c12 : n = 12
      · have a2 : sp_sh (tk_6 f g c) 30 = nI 11 := by
          unfold sp_sh
          rw [if_pos (e30.trans (by rw [c12]; rfl)), pj_upd_ap, if_pos rfl, e30, c12]
          rfl
        exact Or.inr ⟨c12, (nI_eq (by omega) (by omega)).mp (eq30.symm.trans a2)⟩
      · obtain ⟨q', a1, a2, a3⟩ := sp_sh_30 hn e30
        have e2 : q = q' := (nI_eq (by omega) (by omega)).mp (eq30.symm.trans a2)
        omega
    have G30 : sp_tick f g c 30 = nI (q + 1) := by
      rw [F7 30 (by decide) (by decide), G7, sp_put_30, eq30]
      exact nI_1 q
    have lastE : ∀ e, e ≤ t + 1 → sp_tick f g c 29 = nI e → t + 1 ≤ e + 7 := by
      intro e he q29
      rw [F29] at q29
      rcases r29 with a | ⟨e', he', a⟩
      · by_cases c1 : tk_fi f g c = 0
        · rw [if_pos c1, a] at q29
          exact absurd q29.symm (nI_n6 (by omega))
        · rw [if_neg c1, if_pos a] at q29
          have : t = e := (nI_eq (by omega) (by omega)).mp q29
          omega
      · have n29 : ¬ f 29 = -6 := by
          rw [a]
          exact nI_n6 (by omega)
        rw [if_neg n29, ite_self, a] at q29
        have h1 : e' = e := (nI_eq (by omega) (by omega)).mp q29
        have h2 : ¬ e' + 6 < t := fun w => c0 ((sp_rec_e (by omega) (by omega) a r6).mpr w)
        omega
    have own : sp_tick f g c (31 + 10 * q) = nI t := by
      rw [F7 _ (by omega) (by omega), G7]
      refine (sp_put_0 (a := 31 + 10 * q) (by omega)).trans ?_
      rw [sp_sh_lo (by decide), f6 6 (by decide)]
      exact r6
    have old : ∀ i, i < q → sp_tick f g c (31 + 10 * i) = f (31 + 10 * (if n = 12 ∧ i < 11 then i + 1 else i)) := by
      intro i hi
      rw [F7 _ (by omega) (by omega), G7, sp_put_ne (by omega) (by omega)]
      refine (sp_sh_at (j := 0) hn e30 (by omega) (by omega)).trans ?_
      exact f6 _ (by omega)
    rcases qn with a | ⟨a, b⟩
    · subst a
      by_cases z : q = 0
      · subst z
        refine ⟨1, t, by decide, G30, fun i hi => ?_, by omega, fun _ _ => rfl, fun e he q29 => ?_⟩
        · have : i = 0 := by omega
          subst this
          exact own
        · have := lastE e he q29
          omega
      · have kt := k5 c0 (by omega)
        refine ⟨q + 1, r, by omega, G30, fun i hi => ?_, by omega, fun _ _ => by omega, fun e he q29 => ?_⟩
        · by_cases d : i = q
          · subst d
            rw [own, kt]
          · rw [old i (by omega), if_neg (by omega)]
            exact k3 i (by omega)
        · have := lastE e he q29
          omega
    · subst a
      subst b
      have kt := k5 c0 (by omega)
      refine ⟨12, r + 1, by decide, G30, fun i hi => ?_, by omega, fun _ _ => by omega, fun e he q29 => ?_⟩
      · by_cases d : i = 11
        · subst d
          rw [own]
          exact congrArg nI (by omega)
        · rw [old i (by omega), if_pos ⟨rfl, by omega⟩, k3 (i + 1) (by omega)]
          exact congrArg nI (by omega)
      · have := lastE e he q29
        omega
theorem lw_I.tick {t : Nat} (ht : t ≤ 1000) (hg : ∀ k, k < 3 → -500 ≤ pj_a3 x0 x1 x2 k ∧ pj_a3 x0 x1 x2 k ≤ 500) (h : lw_I f t) : lw_I (sp_tick f (pj_a3 x0 x1 x2) c) (t + 1) := by
  obtain ⟨hR, h2, hK⟩ := h
  refine ⟨hR.tick hg, ?_, hK.tick ht hR⟩
  obtain ⟨-, ⟨n, hn, r30⟩, r6, -, -, -, -, -, -, r29⟩ := hR
  obtain ⟨y0, y1, y2, e, e0, e1, e2, k0, k1, k2⟩ := lw_tick_y (g := pj_a3 x0 x1 x2) (c := c) hn r30
  have F729 : tk_7 f (pj_a3 x0 x1 x2) c 29 = f 29 := (tk_7_hi hn r30 (by omega)).trans (tk_6_ne (by decide))
  have F76 : tk_7 f (pj_a3 x0 x1 x2) c 6 = nI t := (tk_7_hi hn r30 (by omega)).trans ((tk_6_ne (by decide)).trans r6)
  have F29 : sp_tick f (pj_a3 x0 x1 x2) c 29 = (if tk_fi f (pj_a3 x0 x1 x2) c = 0 then f 29 else if f 29 = -6 then nI t else f 29) := by
    unfold sp_tick
    rw [pj_upd_ap, if_neg (by decide)]
    unfold tk_8
    rw [pj_upd_ap, if_pos rfl, F729, F76]
  have nt : ¬ nI t = -6 := nI_n6 (by omega)
  rw [r6] at e0 e1 e2
  by_cases c0 : tk_fi f (pj_a3 x0 x1 x2) c = 0
  · rw [e] at c0
    obtain ⟨a0, a1, a2⟩ := lw_fi0.mp c0
    subst a0 a1 a2
    rw [ck_n_0] at e0 e1 e2
    rw [F29, e, if_pos c0, e0, e1, e2]
    exact h2
  · rw [F29, if_neg c0]
    have n29 : ¬ (if f 29 = -6 then nI t else f 29) = -6 := by
      by_cases d : f 29 = -6
      · rw [if_pos d]
        exact nt
      · rw [if_neg d]
        exact d
    refine ⟨fun w => absurd w n29, fun w => absurd ?_ c0⟩
    rw [e]
    refine lw_fi0.mpr ⟨?_, ?_, ?_⟩
    · by_cases d : y0 = 0
      · exact d
      · rw [e0, ck_n_1 d] at w
        exact absurd w.1 nt
    · by_cases d : y1 = 0
      · exact d
      · rw [e1, ck_n_1 d] at w
        exact absurd w.2.1 nt
    · by_cases d : y2 = 0
      · exact d
      · rw [e2, ck_n_1 d] at w
        exact absurd w.2.2 nt
theorem lw_I.srv {t : Nat} (hR : pj_Ro (sp_srv f) t) : lw_I (sp_srv f) t := by
  refine ⟨hR, ⟨fun _ => ⟨rfl, rfl, rfl⟩, fun _ => rfl⟩, 0, 0, by decide, rfl, fun i hi => absurd hi (Nat.not_lt_zero _), by omega, fun _ w => absurd w (Nat.lt_irrefl _), fun e he q => by omega⟩
end T94
/-! WHAT IS LOOKED AT AHEAD: the least reading, the ticks to a stage -/
theorem lw_rd {r : Int32} (h : -500 ≤ r ∧ r ≤ 500) : ∀ k, k < 3 → -500 ≤ pj_a3 r r r k ∧ pj_a3 r r r k ≤ 500 := pj_in_pk h h h
theorem lw_tick_r {b : Nat} {f f' : Nat → Int32} {t t' : Nat} {r c : Int32} (hb : b < 6) (hR : pj_Ro f t) (hR' : pj_Ro f' t') (hr : -500 ≤ r ∧ r ≤ 500) (h : lw_R b f f') : lw_R b (sp_tick f (pj_a3 r r r) c) (sp_tick f' (pj_a3 r r r) c) ∧ tk_fi f' (pj_a3 r r r) c = tk_fi f (pj_a3 r r r) c := by
  rcases lw_b6 hb with e | e | e | e | e | e <;> subst e
  · have q := lw_tick_0 (c := c) hR hR' (lw_rd hr) h
    exact ⟨q.1, q.2.1⟩
  · have q := lw_tick_1 (c := c) hR hR' (lw_rd hr) h
    exact ⟨q.1, q.2.1⟩
  · have q := lw_tick_2 (c := c) hR hR' (lw_rd hr) h
    exact ⟨q.1, q.2.1⟩
  · have q := lw_tick_3 (c := c) hR hR' (lw_rd hr) h
    exact ⟨q.1, q.2.1⟩
  · have q := lw_tick_4 (c := c) hR hR' (lw_rd hr) h
    exact ⟨q.1, q.2.1⟩
  · have q := lw_tick_5 (c := c) hR hR' (lw_rd hr) h
    exact ⟨q.1, q.2.1⟩
theorem pj_rv_in {i : Nat} (h : i < 1001) : -500 ≤ nI i - 500 ∧ nI i - 500 ≤ 500 := sp_rd_ok (by rw [pj_rv_rd h]; decide)
theorem lw_lr {b : Nat} {f f' : Nat → Int32} {t t' : Nat} {a c : Int32} (hb : b < 6) (hR : pj_Ro f t) (hR' : pj_Ro f' t') (h : lw_R b f f') : ∀ n i, i + n = 1001 → op_lr f' a c n i = op_lr f a c n i
  | 0, i, _ => by
    unfold op_lr
    rfl
  | n + 1, i, hi => by
    unfold op_lr
    rw [(lw_tick_r hb hR hR' (pj_rv_in (by omega)) h).2, lw_lr hb hR hR' h n (i + 1) (by omega)]
theorem lw_tt {b : Nat} {r : Int32} {s : Nat} (hb : b < 6) (hr : -500 ≤ r ∧ r ≤ 500) (hs : s < 3) : ∀ (m n : Nat) (f f' : Nat → Int32) (t t' : Nat), pj_Ro f t → pj_Ro f' t' → lw_R b f f' → op_tt (pj_a3 r r r) s m n f' = op_tt (pj_a3 r r r) s m n f
  | 0, n, f, f', t, t', hR, hR', h => by
    unfold op_tt
    rw [h.2.1 (23 + s) (by omega) (by omega)]
  | m + 1, n, f, f', t, t', hR, hR', h => by
    unfold op_tt
    rw [h.2.1 (23 + s) (by omega) (by omega), lw_tt hb hr hs m (n + 1) _ _ (t + 1) (t' + 1) (hR.tick (lw_rd hr)) (hR'.tick (lw_rd hr)) (lw_tick_r hb hR hR' hr h).1]
theorem lw_tt_ge {g : Nat → Int32} {s : Nat} : ∀ (m n : Nat) (f : Nat → Int32), op_tt g s m n f = -6 ∨ ∃ k, n ≤ k ∧ k ≤ n + m ∧ op_tt g s m n f = nI k
  | 0, n, f => by
    unfold op_tt
    by_cases c : f (23 + s) = -6
    · rw [if_pos c]
      exact Or.inl rfl
    · rw [if_neg c]
      exact Or.inr ⟨n, by omega, by omega, rfl⟩
  | m + 1, n, f => by
    unfold op_tt
    by_cases c : f (23 + s) = -6
    · rw [if_pos c]
      rcases lw_tt_ge (g := g) (s := s) m (n + 1) (sp_tick f g 1) with q | ⟨k, q1, q2, q3⟩
      · exact Or.inl q
      · exact Or.inr ⟨k, by omega, by omega, q3⟩
    · rw [if_neg c]
      exact Or.inr ⟨n, by omega, by omega, rfl⟩
/-- it is 0 just if the stage is fired -/
theorem lw_tt_0 {g f : Nat → Int32} {s : Nat} : op_tt g s 50 0 f = 0 ↔ ¬ f (23 + s) = -6 := by
  constructor
  · intro h w
    unfold op_tt at h
    rw [if_pos w] at h
    rcases lw_tt_ge (g := g) (s := s) 49 1 (sp_tick f g 1) with q | ⟨k, q1, q2, q3⟩
    · rw [q] at h
      exact absurd h (by decide)
    · rw [q3] at h
      exact nI_ne0 (by omega) (by omega) h
  · intro h
    exact op_tt_no h 50
/-- a barred stage doesn't fire -/
theorem lw_nofire {f g : Nat → Int32} {c : Int32} {n s : Nat} (hn : n ≤ 12) (hr : f 30 = nI n) (hs : s < 3) (h : f (26 + s) = 1) : tk_fi f g c >>> (nI s &&& 31) &&& 1 = 0 ∧ sp_tick f g c (23 + s) = f (23 + s) := by
  obtain ⟨y0, y1, y2, e, e0, e1, e2, k0, k1, k2⟩ := lw_tick_y (g := g) (c := c) hn hr
  have n01 : ∀ {y : Int32}, ck_n y 0 1 = 0 ∨ ck_n y 0 1 = 1 := fun {y} => ck_n_01 (Or.inl rfl)
  rw [e]
  rcases lw_k3 hs with q | q | q <;> subst q
  · have y : y0 = 0 := Classical.byContradiction (fun w => (k0 w).2.1 h)
    subst y
    rw [ck_n_0] at e0
    refine ⟨?_, e0⟩
    rw [ck_n_0]
    rcases n01 (y := y1) with a | a <;> rcases n01 (y := y2) with b | b <;> rw [a, b] <;> decide
  · have y : y1 = 0 := Classical.byContradiction (fun w => (k1 w).2.1 h)
    subst y
    rw [ck_n_0] at e1
    refine ⟨?_, e1⟩
    rw [ck_n_0]
    rcases n01 (y := y0) with a | a <;> rcases n01 (y := y2) with b | b <;> rw [a, b] <;> decide
  · have y : y2 = 0 := Classical.byContradiction (fun w => (k2 w).2.1 h)
    subst y
    rw [ck_n_0] at e2
    refine ⟨?_, e2⟩
    rw [ck_n_0]
    rcases n01 (y := y0) with a | a <;> rcases n01 (y := y1) with b | b <;> rw [a, b] <;> decide
theorem lw_lr_no {f : Nat → Int32} {c : Int32} {n s : Nat} (hn : n ≤ 12) (hr : f 30 = nI n) (hs : s < 3) (h : f (26 + s) = 1) : ∀ m i, op_lr f (nI s) c m i = -6
  | 0, i => by
    unfold op_lr
    rfl
  | m + 1, i => by
    unfold op_lr
    rw [(lw_nofire hn hr hs h).1, if_neg (by decide)]
    exact lw_lr_no hn hr hs h m (i + 1)
theorem lw_tt_no1 {f g : Nat → Int32} {n s : Nat} (hn : n ≤ 12) (hr : f 30 = nI n) (hs : s < 3) (h : f (26 + s) = 1) : ¬ op_tt g s 50 0 f = 1 := by
  intro w
  by_cases c : f (23 + s) = -6
  · unfold op_tt at w
    rw [if_pos c] at w
    unfold op_tt at w
    rw [(lw_nofire hn hr hs h).2, if_pos c] at w
    rcases lw_tt_ge (g := g) (s := s) 48 2 (sp_tick (sp_tick f g 1) g 1) with q | ⟨k, q1, q2, q3⟩
    · have w' : op_tt g s 48 2 (sp_tick (sp_tick f g 1) g 1) = 1 := w
      rw [q] at w'
      exact absurd w' (by decide)
    · have w' : op_tt g s 48 2 (sp_tick (sp_tick f g 1) g 1) = nI 1 := w
      rw [q3] at w'
      have := (nI_eq (by omega) (by decide)).mp w'
      omega
  · rw [op_tt_no c 50] at w
    exact absurd w (by decide)
