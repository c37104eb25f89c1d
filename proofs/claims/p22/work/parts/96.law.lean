/-! THE LAW OF BOTH: the memory, the calls, its small methods -/
def lw_M (Ln : Nat) (xs : Nat → Int32) (K : pj_Heap) (x y : pj_Sg) : Prop := pj_C K x ∧ pj_D K y ∧ K 0 = .inr (4, Ln, .inl xs)
theorem lw_M.u4 {Ln : Nat} {xs : Nat → Int32} {K : pj_Heap} {x y : pj_Sg} (h : lw_M Ln xs K x y) : pj_isU 5 (K 4) = true := by
  rw [h.1.2.1]
  rfl
theorem lw_M.u109 {Ln : Nat} {xs : Nat → Int32} {K : pj_Heap} {x y : pj_Sg} (h : lw_M Ln xs K x y) : pj_isU 5 (K 109) = true := h.2.1.cl
theorem l_o {Ln N S k : Nat} {xs : Nat → Int32} {K : pj_Heap} {L : pj_Loc} {x y : pj_Sg} {q : pj_Sg × Int32} (hM : lw_M Ln xs K x y) (h : pj_Co N S K k L q) : ∃ K', lw_M Ln xs K' q.1 y ∧ pj_Ends k (0, L, [], (N, S, K)) (some (.int q.2), (N, S, K')) := by
  obtain ⟨K', a, b, e⟩ := h
  exact ⟨K', ⟨a, hM.2.1.frame b, (b 0 (by decide)).trans hM.2.2⟩, e⟩
theorem l_p {Ln N S k : Nat} {xs : Nat → Int32} {K : pj_Heap} {L : pj_Loc} {x y : pj_Sg} {q : pj_Sg × Int32} (hN : 109 ≤ N) (hM : lw_M Ln xs K x y) (h : ∀ (N S : Nat) (H : pj_Heap), pj_C H y → pj_Co N S H k L q) : ∃ K', lw_M Ln xs K' x q.1 ∧ pj_Ends k (0, L.map rn_o, [], (N, S, K)) (some (.int q.2), (N, S, K')) := by
  obtain ⟨K', a, b, e⟩ := pj_Co.moved hN hM.2.1 h
  exact ⟨K', ⟨hM.1.frame b, a, (b 0 (by decide)).trans hM.2.2⟩, e⟩
section T96
variable {Ln N S : Nat} {xs : Nat → Int32} {K : pj_Heap} {x y : pj_Sg} {a v w : Int32}
theorem o_count (hx : pj_In x) (hM : lw_M Ln xs K x y) : ∃ K', lw_M Ln xs K' x y ∧ pj_Ends 10 (0, [some (.ref 4), some (.int w)], [], (N, S, K)) (some (.int (op_count x w)), (N, S, K')) := l_o hM (C_count hx hM.1)
theorem p_count (hN : 109 ≤ N) (hy : pj_In y) (hM : lw_M Ln xs K x y) : ∃ K', lw_M Ln xs K' x y ∧ pj_Ends 10 (0, [some (.ref 109), some (.int w)], [], (N, S, K)) (some (.int (op_count y w)), (N, S, K')) := l_p hN hM (fun _ _ _ hC => C_count hy hC)
theorem o_sensor (hx : pj_In x) (hM : lw_M Ln xs K x y) : ∃ K', lw_M Ln xs K' x y ∧ pj_Ends 59 (0, [some (.ref 4), some (.int a), some (.int w)], [], (N, S, K)) (some (.int (op_sensor x.1 a w)), (N, S, K')) := l_o hM (C_sensor hx hM.1)
theorem p_sensor (hN : 109 ≤ N) (hy : pj_In y) (hM : lw_M Ln xs K x y) : ∃ K', lw_M Ln xs K' x y ∧ pj_Ends 59 (0, [some (.ref 109), some (.int a), some (.int w)], [], (N, S, K)) (some (.int (op_sensor y.1 a w)), (N, S, K')) := l_p hN hM (fun _ _ _ hC => C_sensor hy hC)
theorem o_stage (hx : pj_In x) (hM : lw_M Ln xs K x y) : ∃ K', lw_M Ln xs K' x y ∧ pj_Ends 7 (0, [some (.ref 4), some (.int a), some (.int w)], [], (N, S, K)) (some (.int (op_stage x.1 a w)), (N, S, K')) := l_o hM (C_stage hx hM.1)
theorem p_stage (hN : 109 ≤ N) (hy : pj_In y) (hM : lw_M Ln xs K x y) : ∃ K', lw_M Ln xs K' x y ∧ pj_Ends 7 (0, [some (.ref 109), some (.int a), some (.int w)], [], (N, S, K)) (some (.int (op_stage y.1 a w)), (N, S, K')) := l_p hN hM (fun _ _ _ hC => C_stage hy hC)
theorem o_record (hx : pj_In x) (hM : lw_M Ln xs K x y) : ∃ K', lw_M Ln xs K' x y ∧ pj_Ends 60 (0, [some (.ref 4), some (.int a), some (.int w)], [], (N, S, K)) (some (.int (op_record x.1 a w)), (N, S, K')) := l_o hM (C_record hx hM.1)
theorem p_record (hN : 109 ≤ N) (hy : pj_In y) (hM : lw_M Ln xs K x y) : ∃ K', lw_M Ln xs K' x y ∧ pj_Ends 60 (0, [some (.ref 109), some (.int a), some (.int w)], [], (N, S, K)) (some (.int (op_record y.1 a w)), (N, S, K')) := l_p hN hM (fun _ _ _ hC => C_record hy hC)
theorem o_least (hx : pj_In x) (hM : lw_M Ln xs K x y) : ∃ K', lw_M Ln xs K' x y ∧ pj_Ends 14 (0, [some (.ref 4), some (.int a), some (.int 1), none], [], (N, S, K)) (some (.int (op_leastReading x.1 a 1)), (N, S, K')) := l_o hM (C_leastReading (Or.inr rfl) hx hM.1)
theorem p_least (hN : 109 ≤ N) (hy : pj_In y) (hM : lw_M Ln xs K x y) : ∃ K', lw_M Ln xs K' x y ∧ pj_Ends 14 (0, [some (.ref 109), some (.int a), some (.int 1), none], [], (N, S, K)) (some (.int (op_leastReading y.1 a 1)), (N, S, K')) := l_p hN hM (fun _ _ _ hC => C_leastReading (Or.inr rfl) hy hC)
theorem o_ticksTo (hx : pj_In x) (hM : lw_M Ln xs K x y) : ∃ K', lw_M Ln xs K' x y ∧ pj_Ends 30 (0, [some (.ref 4), some (.int a), some (.int w), none], [], (N, S, K)) (some (.int (op_ticksTo x.1 a w)), (N, S, K')) := l_o hM (C_ticksTo hx hM.1)
theorem p_ticksTo (hN : 109 ≤ N) (hy : pj_In y) (hM : lw_M Ln xs K x y) : ∃ K', lw_M Ln xs K' x y ∧ pj_Ends 30 (0, [some (.ref 109), some (.int a), some (.int w), none], [], (N, S, K)) (some (.int (op_ticksTo y.1 a w)), (N, S, K')) := l_p hN hM (fun _ _ _ hC => C_ticksTo hy hC)
theorem o_set (hx : pj_In x) (hM : lw_M Ln xs K x y) : ∃ K', lw_M Ln xs K' (op_set x a w).1 y ∧ pj_Ends 42 (0, [some (.ref 4), some (.int a), some (.int w), none], [], (N, S, K)) (some (.int (op_set x a w).2), (N, S, K')) := l_o hM (C_set hx hM.1)
theorem p_set (hN : 109 ≤ N) (hy : pj_In y) (hM : lw_M Ln xs K x y) : ∃ K', lw_M Ln xs K' x (op_set y a w).1 ∧ pj_Ends 42 (0, [some (.ref 109), some (.int a), some (.int w), none], [], (N, S, K)) (some (.int (op_set y a w).2), (N, S, K')) := l_p hN hM (fun _ _ _ hC => C_set hy hC)
theorem o_bar (hw : w = 0 ∨ w = 1) (hx : pj_In x) (hM : lw_M Ln xs K x y) : ∃ K', lw_M Ln xs K' (op_bar x a w).1 y ∧ pj_Ends 44 (0, [some (.ref 4), some (.int a), some (.int w)], [], (N, S, K)) (some (.int (op_bar x a w).2), (N, S, K')) := l_o hM (C_bar hw hx hM.1)
theorem p_bar (hw : w = 0 ∨ w = 1) (hN : 109 ≤ N) (hy : pj_In y) (hM : lw_M Ln xs K x y) : ∃ K', lw_M Ln xs K' x (op_bar y a w).1 ∧ pj_Ends 44 (0, [some (.ref 109), some (.int a), some (.int w)], [], (N, S, K)) (some (.int (op_bar y a w).2), (N, S, K')) := l_p hN hM (fun _ _ _ hC => C_bar hw hy hC)
theorem o_test (hx : pj_In x) (hM : lw_M Ln xs K x y) : ∃ K', lw_M Ln xs K' (op_test x a).1 y ∧ pj_Ends 45 (0, [some (.ref 4), some (.int a), none], [], (N, S, K)) (some (.int (op_test x a).2), (N, S, K')) := l_o hM (C_test hx hM.1)
theorem p_test (hN : 109 ≤ N) (hy : pj_In y) (hM : lw_M Ln xs K x y) : ∃ K', lw_M Ln xs K' x (op_test y a).1 ∧ pj_Ends 45 (0, [some (.ref 109), some (.int a), none], [], (N, S, K)) (some (.int (op_test y a).2), (N, S, K')) := l_p hN hM (fun _ _ _ hC => C_test hy hC)
theorem o_service (hx : pj_In x) (hM : lw_M Ln xs K x y) : ∃ K', lw_M Ln xs K' (op_service x).1 y ∧ pj_Ends 47 (0, [some (.ref 4), none], [], (N, S, K)) (some (.int (op_service x).2), (N, S, K')) := l_o hM (C_service hx hM.1)
theorem p_service (hN : 109 ≤ N) (hy : pj_In y) (hM : lw_M Ln xs K x y) : ∃ K', lw_M Ln xs K' x (op_service y).1 ∧ pj_Ends 47 (0, [some (.ref 109), none], [], (N, S, K)) (some (.int (op_service y).2), (N, S, K')) := l_p hN hM (fun _ _ _ hC => C_service hy hC)
theorem o_undo (hx : pj_In x) (hM : lw_M Ln xs K x y) : ∃ K', lw_M Ln xs K' (op_undo x).1 y ∧ pj_Ends 50 (0, [some (.ref 4)], [], (N, S, K)) (some (.int (op_undo x).2), (N, S, K')) := l_o hM (C_undo hx hM.1)
theorem p_undo (hN : 109 ≤ N) (hy : pj_In y) (hM : lw_M Ln xs K x y) : ∃ K', lw_M Ln xs K' x (op_undo y).1 ∧ pj_Ends 50 (0, [some (.ref 109)], [], (N, S, K)) (some (.int (op_undo y).2), (N, S, K')) := l_p hN hM (fun _ _ _ hC => C_undo hy hC)
theorem o_ifTick {x0 x1 x2 c : Int32} (hc : c = 0 ∨ c = 1) (hx : pj_In x) (hM : lw_M Ln xs K x y) : ∃ K', lw_M Ln xs K' x y ∧ pj_Ends 52 (0, [some (.ref 4), some (.int x0), some (.int x1), some (.int x2), some (.int c), some (.int w)], [], (N, S, K)) (some (.int (op_ifTick x.1 x0 x1 x2 c w)), (N, S, K')) := l_o hM (C_ifTick hc hx hM.1)
theorem o_tick {x0 x1 x2 c : Int32} (hc : c = 0 ∨ c = 1) (hx : pj_In x) (hM : lw_M Ln xs K x y) : ∃ K', lw_M Ln xs K' (op_tick x x0 x1 x2 c).1 y ∧ pj_Ends 54 (0, [some (.ref 4), some (.int x0), some (.int x1), some (.int x2), some (.int c)], [], (N, S, K)) (some (.int (op_tick x x0 x1 x2 c).2), (N, S, K')) := l_o hM (C_tick hc hx hM.1)
theorem p_tick {x0 x1 x2 c : Int32} (hc : c = 0 ∨ c = 1) (hN : 109 ≤ N) (hy : pj_In y) (hM : lw_M Ln xs K x y) : ∃ K', lw_M Ln xs K' x (op_tick y x0 x1 x2 c).1 ∧ pj_Ends 54 (0, [some (.ref 109), some (.int x0), some (.int x1), some (.int x2), some (.int c)], [], (N, S, K)) (some (.int (op_tick y x0 x1 x2 c).2), (N, S, K')) := l_p hN hM (fun _ _ _ hC => C_tick hc hy hC)
end T96
/-- the law's own numbers -/
def lw_up (v : Int32) (d : Nat) : Nat := v.toBitVec.toNat % 2 ^ 31 % d
theorem lw_up_lt {v : Int32} {d : Nat} (h : 0 < d) : lw_up v d < d := Nat.mod_lt _ h
theorem lw_up_e (v : Int32) {d : Nat} (h0 : 0 < d) (hd : d < 2 ^ 31) : (v &&& 2147483647) - (v &&& 2147483647) / nI d * nI d = nI (lw_up v d) := by
  rw [pk_and v 31 rfl]
  exact pk_rem (Nat.mod_lt _ (by decide)) h0 hd
theorem c_up {v e : Int32} {d : Nat} {M : pj_Mem} (he : e = nI d) (h0 : 0 < d) (hd : d < 2 ^ 31) : pj_Ends 40 (0, [some (.int v), some (.int e)], [], M) (some (.int (nI (lw_up v d))), M) := by
  subst he
  have q : ¬ nI d = 0 := nI_ne0 h0 hd
  have w := lw_up_e v h0 hd
  generalize nI (lw_up v d) = u at w ⊢
  simp (disch := first | assumption | exact pj_long_i | exact pj_long_r | exact pj_long_n | decide) only [x40_0, x40_1, x40_3, x40_4, x40_5, simprocAttr, pj_then_s, pj_pv_s, pj_pi_s, pj_set_s, if_true, if_false, not_true_eq_false, not_false_eq_true, pj_up_up, pj_up_ap, pj_upd_ap, pj_a3_0, pj_a3_1, pj_a3_2, pj_a3_u0, pj_a3_u1, pj_a3_u2, w]
  exact t40_6
def lw_cell (L : Nat) (xs : Nat → Int32) (k : Nat) : Int32 := if k < L then xs k else 2146121005 * (nI k + 883)
theorem c_cell {e : Int32} {k Ln N S : Nat} {xs : Nat → Int32} {H : pj_Heap} (he : e = nI k) (hk : k < 2 ^ 30) (hL : Ln ≤ 260) (h : H 0 = .inr (4, Ln, .inl xs)) : pj_Ends 39 (0, [some (.ref 0), some (.int e)], [], (N, S, H)) (some (.int (lw_cell Ln xs k)), (N, S, H)) := by
  subst he
  unfold lw_cell
  by_cases c : k < Ln
  · have c1 : ¬ Int32.ofNat Ln ≤ nI k := fun w => absurd ((nI_leI (a := Ln) (by omega) (by omega)).mp w) (by omega)
    have t : (nI k).toNatClampNeg = k := nI_clamp (by omega)
    have p : pj_in (nI k) Ln = true := pj_in_nI c (by omega)
    rw [if_pos c]
    simp (disch := first | assumption | exact pj_long_i | exact pj_long_r | exact pj_long_n | decide) only [x39_0, x39_1, x39_2, x39_3, x39_6, x39_7, x39_8, x39_9, x39_12, x39_14, x39_15, x39_18, x39_19, simprocAttr, pj_then_s, pj_pv_s, pj_pi_s, pj_set_s, if_true, if_false, not_true_eq_false, not_false_eq_true, pj_up_up, pj_up_ap, pj_upd_ap, pj_a3_0, pj_a3_1, pj_a3_2, pj_a3_u0, pj_a3_u1, pj_a3_u2, pj_len_i, pj_arl_i, h, pj_len_i, c1, t, p, pj_arl_r]
    exact t39_20
  · have c1 : Int32.ofNat Ln ≤ nI k := (nI_leI (a := Ln) (by omega) (by omega)).mpr (by omega)
    rw [if_neg c]
    simp (disch := first | assumption | exact pj_long_i | exact pj_long_r | exact pj_long_n | decide) only [x39_0, x39_1, x39_2, x39_3, x39_6, x39_7, x39_8, x39_9, x39_12, x39_14, x39_15, x39_18, x39_19, simprocAttr, pj_then_s, pj_pv_s, pj_pi_s, pj_set_s, if_true, if_false, not_true_eq_false, not_false_eq_true, pj_up_up, pj_up_ap, pj_upd_ap, pj_a3_0, pj_a3_1, pj_a3_2, pj_a3_u0, pj_a3_u1, pj_a3_u2, pj_len_i, pj_arl_i, h, pj_len_i, c1]
    exact t39_20
theorem c_there {b k : Nat} {eb ek : Int32} {M : pj_Mem} (hb : eb = nI b) (hk : ek = nI k) (b6 : b < 6) (k3 : k < 3) : pj_Ends 46 (0, [some (.int eb), some (.int ek)], [], M) (some (.int (nI (lw_th b k))), M) := by
  subst hb hk
  unfold lw_th
  by_cases c : b < 3
  · rw [if_pos c]
    have c1 : ¬ 3 ≤ nI b := fun w => absurd ((nI_leI (a := 3) (by decide) (by omega)).mp w) (by omega)
    have a : nI k + nI b = nI (k + b) := nI_add k b
    have q : nI (k + b) - nI (k + b) / 3 * 3 = nI ((k + b) % 3) := pk_rem (d := 3) (by omega) (by decide) (by decide)
    simp (disch := first | assumption | exact pj_long_i | exact pj_long_r | exact pj_long_n | decide) only [x46_0, x46_1, x46_2, x46_5, x46_6, x46_7, x46_8, x46_9, x46_10, x46_13, x46_14, x46_15, x46_16, x46_17, x46_18, x46_19, simprocAttr, pj_then_s, pj_pv_s, pj_pi_s, pj_set_s, if_true, if_false, not_true_eq_false, not_false_eq_true, pj_up_up, pj_up_ap, pj_upd_ap, pj_a3_0, pj_a3_1, pj_a3_2, pj_a3_u0, pj_a3_u1, pj_a3_u2, c1, a, q]
    exact t46_20
  · rw [if_neg c]
    have c1 : 3 ≤ nI b := (nI_leI (a := 3) (by decide) (by omega)).mpr (by omega)
    have s : 5 - nI k = nI (5 - k) := pk_sub (a := 5) (by omega)
    have a : nI (5 - k) + nI b = nI (5 - k + b) := nI_add (5 - k) b
    have q : nI (5 - k + b) - nI (5 - k + b) / 3 * 3 = nI ((5 - k + b) % 3) := pk_rem (d := 3) (by omega) (by decide) (by decide)
    simp (disch := first | assumption | exact pj_long_i | exact pj_long_r | exact pj_long_n | decide) only [x46_0, x46_1, x46_2, x46_5, x46_6, x46_7, x46_8, x46_9, x46_10, x46_13, x46_14, x46_15, x46_16, x46_17, x46_18, x46_19, simprocAttr, pj_then_s, pj_pv_s, pj_pi_s, pj_set_s, if_true, if_false, not_true_eq_false, not_false_eq_true, pj_up_up, pj_up_ap, pj_upd_ap, pj_a3_0, pj_a3_1, pj_a3_2, pj_a3_u0, pj_a3_u1, pj_a3_u2, c1, s, a, q]
    exact t46_20
theorem c_lset {b : Nat} {eb v : Int32} {M : pj_Mem} (hb : eb = nI b) (b6 : b < 6) : pj_Ends 58 (0, [some (.int eb), some (.int v), none, none], [], M) (some (.int (lw_set b v)), M) := by
  unfold lw_set
  simp (disch := first | assumption | exact pj_long_i | exact pj_long_r | exact pj_long_n | decide) only [x58_0, x58_1, x58_2, x58_3, x58_4, x58_5, x58_6, x58_9, x58_10, x58_11, x58_12, x58_13, x58_14, x58_15, x58_16, x58_20, x58_21, x58_22, x58_23, x58_26, x58_29, simprocAttr, pj_then_s, pj_pv_s, pj_pi_s, pj_set_s, if_true, if_false, not_true_eq_false, not_false_eq_true, pj_up_up, pj_up_ap, pj_upd_ap, pj_a3_0, pj_a3_1, pj_a3_2, pj_a3_u0, pj_a3_u1, pj_a3_u2, pj_long_i, pj_long_r, pj_long_n]
  refine e58_17 rfl (c_there (k := 0) hb rfl b6 (by decide)) ?_
  simp (disch := first | assumption | exact pj_long_i | exact pj_long_r | exact pj_long_n | decide) only [x58_0, x58_1, x58_2, x58_3, x58_4, x58_5, x58_6, x58_9, x58_10, x58_11, x58_12, x58_13, x58_14, x58_15, x58_16, x58_20, x58_21, x58_22, x58_23, x58_26, x58_29, simprocAttr, pj_then_s, pj_pv_s, pj_pi_s, pj_set_s, if_true, if_false, not_true_eq_false, not_false_eq_true, pj_up_up, pj_up_ap, pj_upd_ap, pj_a3_0, pj_a3_1, pj_a3_2, pj_a3_u0, pj_a3_u1, pj_a3_u2, pj_long_i, pj_long_r, pj_long_n]
  refine e58_17 rfl (c_there (k := 1) hb rfl b6 (by decide)) ?_
  simp (disch := first | assumption | exact pj_long_i | exact pj_long_r | exact pj_long_n | decide) only [x58_0, x58_1, x58_2, x58_3, x58_4, x58_5, x58_6, x58_9, x58_10, x58_11, x58_12, x58_13, x58_14, x58_15, x58_16, x58_20, x58_21, x58_22, x58_23, x58_26, x58_29, simprocAttr, pj_then_s, pj_pv_s, pj_pi_s, pj_set_s, if_true, if_false, not_true_eq_false, not_false_eq_true, pj_up_up, pj_up_ap, pj_upd_ap, pj_a3_0, pj_a3_1, pj_a3_2, pj_a3_u0, pj_a3_u1, pj_a3_u2, pj_long_i, pj_long_r, pj_long_n]
  refine e58_17 rfl (c_there (k := 2) hb rfl b6 (by decide)) ?_
  simp (disch := first | assumption | exact pj_long_i | exact pj_long_r | exact pj_long_n | decide) only [x58_0, x58_1, x58_2, x58_3, x58_4, x58_5, x58_6, x58_9, x58_10, x58_11, x58_12, x58_13, x58_14, x58_15, x58_16, x58_20, x58_21, x58_22, x58_23, x58_26, x58_29, simprocAttr, pj_then_s, pj_pv_s, pj_pi_s, pj_set_s, if_true, if_false, not_true_eq_false, not_false_eq_true, pj_up_up, pj_up_ap, pj_upd_ap, pj_a3_0, pj_a3_1, pj_a3_2, pj_a3_u0, pj_a3_u1, pj_a3_u2, pj_long_i, pj_long_r, pj_long_n]
  exact t58_30
def lw_pick (b s : Nat) (x0 x1 x2 : Int32) : Int32 := if lw_th b 0 = s then x0 else if lw_th b 1 = s then x1 else x2
theorem c_pick {b s : Nat} {eb es x0 x1 x2 : Int32} {M : pj_Mem} (hb : eb = nI b) (hs : es = nI s) (b6 : b < 6) (s3 : s < 3) : pj_Ends 56 (0, [some (.int eb), some (.int es), some (.int x0), some (.int x1), some (.int x2)], [], M) (some (.int (lw_pick b s x0 x1 x2)), M) := by
  have t0 := lw_th_lt (b := b) (k := 0)
  have t1 := lw_th_lt (b := b) (k := 1)
  unfold lw_pick
  simp (disch := first | assumption | exact pj_long_i | exact pj_long_r | exact pj_long_n | decide) only [x56_0, x56_1, simprocAttr, pj_then_s, pj_pv_s, pj_pi_s, pj_set_s, if_true, if_false, not_true_eq_false, not_false_eq_true, pj_up_up, pj_up_ap, pj_upd_ap, pj_a3_0, pj_a3_1, pj_a3_2, pj_a3_u0, pj_a3_u1, pj_a3_u2]
  refine e56_2 rfl (c_there (k := 0) hb rfl b6 (by decide)) ?_
  by_cases c0 : lw_th b 0 = s
  · have e : nI (lw_th b 0) = es := by rw [c0, hs]
    rw [if_pos c0, e]
    simp (disch := first | assumption | exact pj_long_i | exact pj_long_r | exact pj_long_n | decide) only [x56_5, x56_6, x56_9, x56_10, x56_13, x56_14, x56_18, x56_19, x56_22, x56_23, x56_26, simprocAttr, pj_then_s, pj_pv_s, pj_pi_s, pj_set_s, if_true, if_false, not_true_eq_false, not_false_eq_true, pj_up_up, pj_up_ap, pj_upd_ap, pj_a3_0, pj_a3_1, pj_a3_2, pj_a3_u0, pj_a3_u1, pj_a3_u2]
    exact t56_28
  · have e : ¬ nI (lw_th b 0) = es := by
      rw [hs]
      exact fun w => c0 ((nI_eq (by omega) (by omega)).mp w)
    rw [if_neg c0]
    simp (disch := first | assumption | exact pj_long_i | exact pj_long_r | exact pj_long_n | decide) only [x56_5, x56_6, x56_9, x56_10, x56_13, x56_14, simprocAttr, pj_then_s, pj_pv_s, pj_pi_s, pj_set_s, if_true, if_false, not_true_eq_false, not_false_eq_true, pj_up_up, pj_up_ap, pj_upd_ap, pj_a3_0, pj_a3_1, pj_a3_2, pj_a3_u0, pj_a3_u1, pj_a3_u2, e]
    refine e56_15 rfl (c_there (k := 1) hb rfl b6 (by decide)) ?_
    by_cases c1 : lw_th b 1 = s
    · have e : nI (lw_th b 1) = es := by rw [c1, hs]
      rw [if_pos c1, e]
      simp (disch := first | assumption | exact pj_long_i | exact pj_long_r | exact pj_long_n | decide) only [x56_18, x56_19, x56_22, x56_23, x56_26, simprocAttr, pj_then_s, pj_pv_s, pj_pi_s, pj_set_s, if_true, if_false, not_true_eq_false, not_false_eq_true, pj_up_up, pj_up_ap, pj_upd_ap, pj_a3_0, pj_a3_1, pj_a3_2, pj_a3_u0, pj_a3_u1, pj_a3_u2]
      exact t56_28
    · have e : ¬ nI (lw_th b 1) = es := by
        rw [hs]
        exact fun w => c1 ((nI_eq (by omega) (by omega)).mp w)
      rw [if_neg c1]
      simp (disch := first | assumption | exact pj_long_i | exact pj_long_r | exact pj_long_n | decide) only [x56_18, x56_19, x56_22, x56_23, x56_26, simprocAttr, pj_then_s, pj_pv_s, pj_pi_s, pj_set_s, if_true, if_false, not_true_eq_false, not_false_eq_true, pj_up_up, pj_up_ap, pj_upd_ap, pj_a3_0, pj_a3_1, pj_a3_2, pj_a3_u0, pj_a3_u1, pj_a3_u2, e]
      exact t56_28
theorem c_ltick {Ln N S b : Nat} {xs : Nat → Int32} {K : pj_Heap} {x y : pj_Sg} {eb x0 x1 x2 c : Int32} (hb : eb = nI b) (b6 : b < 6) (hc : c = 0 ∨ c = 1) (hN : 109 ≤ N) (hy : pj_In y) (hM : lw_M Ln xs K x y) : ∃ K', lw_M Ln xs K' x (op_tick y (lw_pick b 0 x0 x1 x2) (lw_pick b 1 x0 x1 x2) (lw_pick b 2 x0 x1 x2) c).1 ∧ pj_Ends 55 (0, [some (.ref 109), some (.int eb), some (.int x0), some (.int x1), some (.int x2), some (.int c)], [], (N, S, K)) (some (.int (op_tick y (lw_pick b 0 x0 x1 x2) (lw_pick b 1 x0 x1 x2) (lw_pick b 2 x0 x1 x2) c).2), (N, S, K')) := by
  obtain ⟨K', m, e⟩ := p_tick (S := S) (x0 := lw_pick b 0 x0 x1 x2) (x1 := lw_pick b 1 x0 x1 x2) (x2 := lw_pick b 2 x0 x1 x2) (c := c) hc hN hy hM
  refine ⟨K', m, ?_⟩
  generalize (op_tick y (lw_pick b 0 x0 x1 x2) (lw_pick b 1 x0 x1 x2) (lw_pick b 2 x0 x1 x2) c).2 = r at e ⊢
  simp (disch := first | assumption | exact pj_long_i | exact pj_long_r | exact pj_long_n | decide) only [x55_0, x55_1, x55_2, x55_3, x55_4, x55_5, simprocAttr, pj_then_s, pj_pv_s, pj_pi_s, pj_set_s, if_true, if_false, not_true_eq_false, not_false_eq_true, pj_up_up, pj_up_ap, pj_upd_ap, pj_a3_0, pj_a3_1, pj_a3_2, pj_a3_u0, pj_a3_u1, pj_a3_u2]
  refine e55_7 rfl (c_pick (s := 0) hb rfl b6 (by decide)) ?_
  simp (disch := first | assumption | exact pj_long_i | exact pj_long_r | exact pj_long_n | decide) only [x55_10, x55_11, x55_12, x55_13, x55_14, simprocAttr, pj_then_s, pj_pv_s, pj_pi_s, pj_set_s, if_true, if_false, not_true_eq_false, not_false_eq_true, pj_up_up, pj_up_ap, pj_upd_ap, pj_a3_0, pj_a3_1, pj_a3_2, pj_a3_u0, pj_a3_u1, pj_a3_u2]
  refine e55_16 rfl (c_pick (s := 1) hb rfl b6 (by decide)) ?_
  simp (disch := first | assumption | exact pj_long_i | exact pj_long_r | exact pj_long_n | decide) only [x55_19, x55_20, x55_21, x55_22, x55_23, simprocAttr, pj_then_s, pj_pv_s, pj_pi_s, pj_set_s, if_true, if_false, not_true_eq_false, not_false_eq_true, pj_up_up, pj_up_ap, pj_upd_ap, pj_a3_0, pj_a3_1, pj_a3_2, pj_a3_u0, pj_a3_u1, pj_a3_u2]
  refine e55_25 rfl (c_pick (s := 2) hb rfl b6 (by decide)) ?_
  simp (disch := first | assumption | exact pj_long_i | exact pj_long_r | exact pj_long_n | decide) only [x55_28, simprocAttr, pj_then_s, pj_pv_s, pj_pi_s, pj_set_s, if_true, if_false, not_true_eq_false, not_false_eq_true, pj_up_up, pj_up_ap, pj_upd_ap, pj_a3_0, pj_a3_1, pj_a3_2, pj_a3_u0, pj_a3_u1, pj_a3_u2]
  refine e55_30 rfl hM.u109 e ?_
  exact t55_33
/-- a tick on both sides, the second one's readings as they are picked -/
theorem J_tick {b n : Nat} {x y : pj_Sg} {x0 x1 x2 c : Int32} (hb : b < 6) (hn : n ≤ 999) (i0 : -500 ≤ x0 ∧ x0 ≤ 500) (i1 : -500 ≤ x1 ∧ x1 ≤ 500) (i2 : -500 ≤ x2 ∧ x2 ≤ 500) (h : lw_J b n x y) : (op_tick y (lw_pick b 0 x0 x1 x2) (lw_pick b 1 x0 x1 x2) (lw_pick b 2 x0 x1 x2) c).2 = (op_tick x x0 x1 x2 c).2 ∧ lw_J b (n + 1) (op_tick x x0 x1 x2 c).1 (op_tick y (lw_pick b 0 x0 x1 x2) (lw_pick b 1 x0 x1 x2) (lw_pick b 2 x0 x1 x2) c).1 := by
  rcases lw_b6 hb with e | e | e | e | e | e <;> subst e
  · have p0 : lw_pick 0 0 x0 x1 x2 = x0 := by
      unfold lw_pick
      rw [if_pos (by decide)]
    have p1 : lw_pick 0 1 x0 x1 x2 = x1 := by
      unfold lw_pick
      rw [if_neg (by decide), if_pos (by decide)]
    have p2 : lw_pick 0 2 x0 x1 x2 = x2 := by
      unfold lw_pick
      rw [if_neg (by decide), if_neg (by decide)]
    rw [p0, p1, p2]
    exact J_tick_0 hn i0 i1 i2 h
  · have p0 : lw_pick 1 0 x0 x1 x2 = x2 := by
      unfold lw_pick
      rw [if_neg (by decide), if_neg (by decide)]
    have p1 : lw_pick 1 1 x0 x1 x2 = x0 := by
      unfold lw_pick
      rw [if_pos (by decide)]
    have p2 : lw_pick 1 2 x0 x1 x2 = x1 := by
      unfold lw_pick
      rw [if_neg (by decide), if_pos (by decide)]
    rw [p0, p1, p2]
    exact J_tick_1 hn i0 i1 i2 h
  · have p0 : lw_pick 2 0 x0 x1 x2 = x1 := by
      unfold lw_pick
      rw [if_neg (by decide), if_pos (by decide)]
    have p1 : lw_pick 2 1 x0 x1 x2 = x2 := by
      unfold lw_pick
      rw [if_neg (by decide), if_neg (by decide)]
    have p2 : lw_pick 2 2 x0 x1 x2 = x0 := by
      unfold lw_pick
      rw [if_pos (by decide)]
    rw [p0, p1, p2]
    exact J_tick_2 hn i0 i1 i2 h
  · have p0 : lw_pick 3 0 x0 x1 x2 = x2 := by
      unfold lw_pick
      rw [if_neg (by decide), if_neg (by decide)]
    have p1 : lw_pick 3 1 x0 x1 x2 = x1 := by
      unfold lw_pick
      rw [if_neg (by decide), if_pos (by decide)]
    have p2 : lw_pick 3 2 x0 x1 x2 = x0 := by
      unfold lw_pick
      rw [if_pos (by decide)]
    rw [p0, p1, p2]
    exact J_tick_3 hn i0 i1 i2 h
  · have p0 : lw_pick 4 0 x0 x1 x2 = x0 := by
      unfold lw_pick
      rw [if_pos (by decide)]
    have p1 : lw_pick 4 1 x0 x1 x2 = x2 := by
      unfold lw_pick
      rw [if_neg (by decide), if_neg (by decide)]
    have p2 : lw_pick 4 2 x0 x1 x2 = x1 := by
      unfold lw_pick
      rw [if_neg (by decide), if_pos (by decide)]
    rw [p0, p1, p2]
    exact J_tick_4 hn i0 i1 i2 h
  · have p0 : lw_pick 5 0 x0 x1 x2 = x1 := by
      unfold lw_pick
      rw [if_neg (by decide), if_pos (by decide)]
    have p1 : lw_pick 5 1 x0 x1 x2 = x0 := by
      unfold lw_pick
      rw [if_pos (by decide)]
    have p2 : lw_pick 5 2 x0 x1 x2 = x2 := by
      unfold lw_pick
      rw [if_neg (by decide), if_neg (by decide)]
    rw [p0, p1, p2]
    exact J_tick_5 hn i0 i1 i2 h
