/-! THE CLASS'S READER IS THE REFERENCE'S: a whole tick -/
/-- a way of the reader, on which no tick ends -/
def rd_SG (p : Nat → Int32) (s : Nat) (q : rd_S) (s' : Nat) (q' : rd_S) : Prop := ∃ n, s' = s + n ∧ rd_run p n s q = some q' ∧ ∀ j, s ≤ j → j < s' → ¬ p j = 59
theorem rd_SG.trans {p : Nat → Int32} {s s1 s2 : Nat} {q q1 q2 : rd_S} (h1 : rd_SG p s q s1 q1) (h2 : rd_SG p s1 q1 s2 q2) : rd_SG p s q s2 q2 := by
  obtain ⟨n, rfl, a1, b1⟩ := h1
  obtain ⟨m, rfl, a2, b2⟩ := h2
  refine ⟨n + m, by omega, rd_run_add p n m s q q1 q2 a1 a2, fun j h1 h2 => ?_⟩
  by_cases c : j < s + n
  · exact b1 j h1 c
  · exact b2 j (by omega) h2
theorem rd_SG.one {p : Nat → Int32} {s : Nat} {q q1 : rd_S} (h : rd_acc q (p s) = some q1) (h59 : ¬ p s = 59) : rd_SG p s q (s + 1) q1 := ⟨1, rfl, rd_run_1 h, fun j h1 h2 => by rw [show j = s by omega]; exact h59⟩
theorem rd_SG.le {p : Nat → Int32} {s s1 : Nat} {q q1 : rd_S} (h : rd_SG p s q s1 q1) : s ≤ s1 := by
  obtain ⟨n, rfl, -⟩ := h
  omega
/-- the reader refuses there -/
def rd_FA (p : Nat → Int32) (l : Nat) (tk : Int32) (s : Nat) (q : rd_S) (pos : Nat) : Prop := pos ≤ l ∧ ∃ q', rd_SG p s q pos q' ∧ q'.2.1 = tk ∧ rd_en q' = 0 ∧ (pos < l → rd_acc q' (p pos) = none)
theorem rd_FA.pre {p : Nat → Int32} {l s s1 pos : Nat} {tk : Int32} {q q1 : rd_S} (h1 : rd_SG p s q s1 q1) (h2 : rd_FA p l tk s1 q1 pos) : rd_FA p l tk s q pos := by
  obtain ⟨a, q', b, c⟩ := h2
  exact ⟨a, q', h1.trans b, c⟩
theorem rd_sg_in {ng : Int32} {d : Nat} (h : d ≤ 500) : -500 ≤ rd_sg ng (nI d) ∧ rd_sg ng (nI d) ≤ 500 := by
  have e5 : (500 : Int32).toInt = 500 := rfl
  have e6 : (-500 : Int32).toInt = -500 := rfl
  have e : (nI d).toInt = d := nI_toInt (by omega)
  have en : (-(nI d)).toInt = -(d : Int) := by
    rw [Int32.toInt_neg, e]
    apply Int.bmod_eq_of_le <;> omega
  unfold rd_sg
  split <;> rw [Int32.le_iff_toInt_le, Int32.le_iff_toInt_le, e5, e6]
  · rw [e]
    omega
  · rw [en]
    omega
section PT
variable {p : Nat → Int32} {l : Nat} {tk : Int32}
/-- a number, and what it leaves -/
theorem rd_numF {k s : Nat} {R : Nat → Int32} (hs : s ≤ l) (h : (ps_num p l s).1 = 0) : rd_FA p l tk s (0, tk, k, 0, -1, R) (ps_num p l s).2.1 := by
  obtain ⟨n, e1, e2, e3, e4⟩ := rd_num (p := p) (l := l) (tk := tk) (k := k) (R := R) hs
  rcases e4 with ⟨-, ng, a, b⟩ | ⟨a, -⟩
  · rw [e1]
    refine ⟨e2, _, ⟨n, rfl, a, e3⟩, rfl, ?_, b⟩
    unfold rd_en
    simp only [if_true, ite_self]
  · rw [h] at a
    exact absurd a (by decide)
theorem rd_numT {k s : Nat} {R : Nat → Int32} (hs : s ≤ l) (h : ¬ (ps_num p l s).1 = 0) : (ps_num p l s).2.1 ≤ l ∧ (-500 ≤ (ps_num p l s).2.2 ∧ (ps_num p l s).2.2 ≤ 500) ∧ ∃ ng d', d' ≤ 500 ∧ rd_SG p s (0, tk, k, 0, -1, R) (ps_num p l s).2.1 (0, tk, k, ng, nI d', upd R k (ps_num p l s).2.2) ∧ ((ps_num p l s).2.1 < l → 48 ≤ p (ps_num p l s).2.1 ∧ p (ps_num p l s).2.1 ≤ 57 → ∀ R', rd_dig (0, tk, k, ng, nI d', R') (p (ps_num p l s).2.1 - 48) = none) := by
  obtain ⟨n, e1, e2, e3, e4⟩ := rd_num (p := p) (l := l) (tk := tk) (k := k) (R := R) hs
  rcases e4 with ⟨a, -⟩ | ⟨-, ng, d', a, b, c, d⟩
  · exact absurd a h
  · rw [e1]
    refine ⟨e2, by rw [b]; exact rd_sg_in a, ng, d', a, ⟨n, rfl, c, e3⟩, d⟩
/-- a number that is not the last one, and no comma behind it -/
theorem rd_comF {k s : Nat} {R : Nat → Int32} (hk : k < 2) (hs : s ≤ l) (h : ¬ (ps_num p l s).1 = 0) (h2 : ps_t p l (ps_num p l s).2.1 44 = 0) : rd_FA p l tk s (0, tk, k, 0, -1, R) (ps_num p l s).2.1 := by
  obtain ⟨e1, -, ng, d', e2, e3, e4⟩ := rd_numT (tk := tk) (k := k) (R := R) hs h
  refine ⟨e1, _, e3, rfl, ?_, fun hl => ?_⟩
  · unfold rd_en
    simp only
    rw [if_neg (by omega)]
  · refine rd_acc_D (nI_nm1 e2) (fun w => e4 hl w _) (fun w => ?_) (fun _ => by omega) (fun _ => Or.inl (by omega))
    have := ps_h_no h2 hl
    rw [w] at this
    exact absurd ⟨by decide, by decide⟩ this
theorem rd_comT {k s : Nat} {R : Nat → Int32} (hk : k < 2) (hs : s ≤ l) (h : ¬ (ps_num p l s).1 = 0) (h2 : ¬ ps_t p l (ps_num p l s).2.1 44 = 0) : (ps_num p l s).2.1 + 1 ≤ l ∧ rd_SG p s (0, tk, k, 0, -1, R) ((ps_num p l s).2.1 + 1) (0, tk, k + 1, 0, -1, upd R k (ps_num p l s).2.2) := by
  obtain ⟨e1, -, ng, d', e2, e3, e4⟩ := rd_numT (tk := tk) (k := k) (R := R) hs h
  obtain ⟨a, b, c⟩ := ps_h_yes h2
  have hc : p (ps_num p l s).2.1 = 44 := Int32.le_antisymm c b
  refine ⟨a, e3.trans (rd_SG.one ?_ ?_)⟩
  · rw [hc, rd_acc_eq, if_neg (by decide), if_pos rfl, if_neg (nI_nm1 e2), if_neg (by omega)]
  · rw [hc]
    decide
/-- the tick is read -/
def rd_TK (p : Nat → Int32) (l : Nat) (tk : Int32) (s : Nat) (q : rd_S) (pos : Nat) (cl : Int32) (R' : Nat → Int32) : Prop := pos ≤ l ∧ (cl = 0 ∨ cl = 1) ∧ ∃ ng d', d' ≤ 500 ∧ rd_SG p s q pos (cl, tk, 2, ng, nI d', R') ∧ (pos < l → ¬ p pos = 59 → rd_acc (cl, tk, 2, ng, nI d', R') (p pos) = none)
theorem rd_TK.pre {s s1 pos : Nat} {q q1 : rd_S} {cl : Int32} {R' : Nat → Int32} (h1 : rd_SG p s q s1 q1) (h2 : rd_TK p l tk s1 q1 pos cl R') : rd_TK p l tk s q pos cl R' := by
  obtain ⟨a, b, ng, d', c, d, e⟩ := h2
  exact ⟨a, b, ng, d', c, h1.trans d, e⟩
theorem rd_last {s : Nat} {R : Nat → Int32} (hs : s ≤ l) (h : ¬ (ps_num p l s).1 = 0) : rd_TK p l tk s (0, tk, 2, 0, -1, R) (ps_n p l (ps_num p l s).2.1 99) (ps_t p l (ps_num p l s).2.1 99) (upd R 2 (ps_num p l s).2.2) := by
  obtain ⟨e1, -, ng, d', e2, e3, e4⟩ := rd_numT (tk := tk) (k := 2) (R := R) hs h
  unfold ps_n
  by_cases c : ps_t p l (ps_num p l s).2.1 99 = 0
  · rw [if_pos c]
    rw [show ps_t p l (ps_num p l s).2.1 99 = 0 from c]
    refine ⟨e1, Or.inl rfl, ng, d', e2, e3, fun hl h59 => ?_⟩
    refine rd_acc_D (nI_nm1 e2) (fun w => e4 hl w _) (fun _ => rfl) (fun w => absurd w h59) (fun w => ?_)
    have := ps_h_no c hl
    rw [w] at this
    exact absurd ⟨by decide, by decide⟩ this
  · have c1 : ps_t p l (ps_num p l s).2.1 99 = 1 := by
      rcases ps_t_01 (p := p) (l := l) (s := (ps_num p l s).2.1) (a := 99) with q | q
      · exact absurd q c
      · exact q
    obtain ⟨a, b, b2⟩ := ps_h_yes c
    have hc : p (ps_num p l s).2.1 = 99 := Int32.le_antisymm b2 b
    rw [if_neg c, c1]
    refine ⟨a, Or.inr rfl, ng, d', e2, e3.trans (rd_SG.one ?_ ?_), fun hl h59 => ?_⟩
    · rw [hc, rd_acc_eq, if_neg (by decide), if_neg (by decide), if_neg (by decide), if_neg (by decide), if_pos rfl, if_pos rfl, if_neg (nI_nm1 e2), if_pos rfl]
    · rw [hc]
      decide
    · refine rd_acc_D (nI_nm1 e2) (fun w => ?_) (fun _ => rfl) (fun w => absurd w h59) (fun _ => Or.inr (by decide))
      rw [rd_dig_eq, if_pos (by decide)]
/-- the reference's tick and the class's -/
theorem rd_tick {s : Nat} {R : Nat → Int32} (hs : s ≤ l) (hR : ∃ r0 r1 r2, R = pj_a3 r0 r1 r2) :
    ((ps_tick p l s).1 = 0 ∧ rd_FA p l tk s (0, tk, 0, 0, -1, R) (ps_tick p l s).2.1) ∨ ((ps_tick p l s).1 = 1 ∧ (∀ k, k < 3 → -500 ≤ pj_a3 (ps_tick p l s).2.2.1.1 (ps_tick p l s).2.2.1.2.1 (ps_tick p l s).2.2.1.2.2 k ∧ pj_a3 (ps_tick p l s).2.2.1.1 (ps_tick p l s).2.2.1.2.1 (ps_tick p l s).2.2.1.2.2 k ≤ 500) ∧ rd_TK p l tk s (0, tk, 0, 0, -1, R) (ps_tick p l s).2.1 (ps_tick p l s).2.2.2 (pj_a3 (ps_tick p l s).2.2.1.1 (ps_tick p l s).2.2.1.2.1 (ps_tick p l s).2.2.1.2.2)) := by
  obtain ⟨r0, r1, r2, rfl⟩ := hR
  by_cases a1 : (ps_num p l s).1 = 0
  · have e : ps_tick p l s = (0, (ps_num p l s).2.1, (0, 0, 0), 0) := by
      unfold ps_tick
      rw [if_pos a1]
    rw [e]
    exact Or.inl ⟨rfl, rd_numF hs a1⟩
  by_cases a2 : ps_t p l (ps_num p l s).2.1 44 = 0
  · have e : ps_tick p l s = (0, (ps_num p l s).2.1, (0, 0, 0), 0) := by
      unfold ps_tick
      rw [if_neg a1, if_pos a2]
    rw [e]
    exact Or.inl ⟨rfl, rd_comF (by decide) hs a1 a2⟩
  obtain ⟨hs1, g1⟩ := rd_comT (tk := tk) (k := 0) (R := pj_a3 r0 r1 r2) (by decide) hs a1 a2
  have v0 := (rd_numT (tk := tk) (k := 0) (R := pj_a3 r0 r1 r2) hs a1).2.1
  have e0 : ps_tick p l s = ps_tk1 p l (ps_num p l s).2.2 ((ps_num p l s).2.1 + 1) := by
    unfold ps_tick
    rw [if_neg a1, if_neg a2]
  rw [e0]
  generalize (ps_num p l s).2.2 = x0 at g1 v0 ⊢
  generalize (ps_num p l s).2.1 + 1 = s1 at hs1 g1 ⊢
  rw [pj_a3_u0] at g1
  by_cases b1 : (ps_num p l s1).1 = 0
  · have e : ps_tk1 p l x0 s1 = (0, (ps_num p l s1).2.1, (0, 0, 0), 0) := by
      unfold ps_tk1
      rw [if_pos b1]
    rw [e]
    exact Or.inl ⟨rfl, rd_FA.pre g1 (rd_numF hs1 b1)⟩
  by_cases b2 : ps_t p l (ps_num p l s1).2.1 44 = 0
  · have e : ps_tk1 p l x0 s1 = (0, (ps_num p l s1).2.1, (0, 0, 0), 0) := by
      unfold ps_tk1
      rw [if_neg b1, if_pos b2]
    rw [e]
    exact Or.inl ⟨rfl, rd_FA.pre g1 (rd_comF (by decide) hs1 b1 b2)⟩
  obtain ⟨hs2, g2⟩ := rd_comT (tk := tk) (k := 1) (R := pj_a3 x0 r1 r2) (by decide) hs1 b1 b2
  have v1 := (rd_numT (tk := tk) (k := 1) (R := pj_a3 x0 r1 r2) hs1 b1).2.1
  have e1 : ps_tk1 p l x0 s1 = ps_tk2 p l x0 (ps_num p l s1).2.2 ((ps_num p l s1).2.1 + 1) := by
    unfold ps_tk1
    rw [if_neg b1, if_neg b2]
  rw [e1]
  generalize (ps_num p l s1).2.2 = x1 at g2 v1 ⊢
  generalize (ps_num p l s1).2.1 + 1 = s2 at hs2 g2 ⊢
  rw [pj_a3_u1] at g2
  have g12 := g1.trans g2
  by_cases d1 : (ps_num p l s2).1 = 0
  · have e : ps_tk2 p l x0 x1 s2 = (0, (ps_num p l s2).2.1, (0, 0, 0), 0) := by
      unfold ps_tk2
      rw [if_pos d1]
    rw [e]
    exact Or.inl ⟨rfl, rd_FA.pre g12 (rd_numF hs2 d1)⟩
  · have e : ps_tk2 p l x0 x1 s2 = (1, ps_n p l (ps_num p l s2).2.1 99, (x0, x1, (ps_num p l s2).2.2), ps_t p l (ps_num p l s2).2.1 99) := by
      unfold ps_tk2
      rw [if_neg d1]
    rw [e]
    have v2 := (rd_numT (tk := tk) (k := 2) (R := pj_a3 x0 x1 r2) hs2 d1).2.1
    have g3 := rd_last (tk := tk) (R := pj_a3 x0 x1 r2) hs2 d1
    rw [pj_a3_u2] at g3
    refine Or.inr ⟨rfl, ?_, rd_TK.pre g12 g3⟩
    intro k hk
    have : k = 0 ∨ k = 1 ∨ k = 2 := by omega
    rcases this with q | q | q <;> subst q
    · exact v0
    · exact v1
    · exact v2
end PT
