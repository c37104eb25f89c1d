/-! THE REFERENCE'S CALLS THAT CHANGE -/
theorem pj_up_lo {H : pj_Heap} {a j : Nat} {c : pj_Cell} (hj : j < 109) (ha : 109 ≤ a) : pj_up H a c j = H j := by
  rw [pj_up_ap, if_neg (by omega)]
/-- a call of the reference: what it answers, and the state behind it -/
def pj_Mo (N S : Nat) (H : pj_Heap) (k : Nat) (L : pj_Loc) (q : pj_Sg × Int32) : Prop := ∃ H', pj_M H' q.1 ∧ (∀ j, j < 109 → H' j = H j) ∧ pj_Ends k (0, L, [], (N, S, H)) (some (.int q.2), (N, S, H'))
theorem pj_M_push {H : pj_Heap} {x : pj_Sg} {f' k hs sl : Nat → Int32} {r0 r1 r2 a0 a1 a2 mid lo hi fi sp nu ic td : Int32} (hn : x.2.1 ≤ 6) (hc : pj_MC H f' k hs sl x.2.2.2.2.1 x.2.2.2.2.2.2 x.2.1 x.2.2.2.2.2.1 r0 r1 r2 a0 a1 a2 mid lo hi fi sp nu ic td) (hr : pj_MR x.2.1 x.2.2.1 x.2.2.2.1 x.2.2.2.2.1 hs sl) (hk : ∀ j, j < 152 → k j = x.1 j) :
    pj_M (pj_up (pj_up H 109 (pj_mo (nI (sp_hn x.2.1 + 1)) mid lo hi fi (nI x.2.2.2.2.2.1) sp nu ic td)) 112 (.inr (0, 912, .inl (sp_hh k hs x.2.1)))) (sp_push x f') := by
  obtain ⟨hm, hf, hk', hh, hs', hv, hg, hA, hp⟩ := hc
  refine ⟨k, sp_hh k hs x.2.1, sl, r0, r1, r2, a0, a1, a2, mid, lo, hi, fi, sp, nu, ic, td, ⟨?_, ?_, ?_, ?_, ?_, ?_, ?_, ?_, ?_⟩, sp_hh_ok hn hr hk⟩
  · simp (disch := decide) only [simprocAttr, pj_up_ap, if_true, if_false, sp_push]
  · simp (disch := decide) only [simprocAttr, pj_up_ap, if_true, if_false, sp_push, hf]
  · simp (disch := decide) only [simprocAttr, pj_up_ap, if_true, if_false, sp_push, hk']
  · simp (disch := decide) only [simprocAttr, pj_up_ap, if_true, if_false, sp_push]
  · simp (disch := decide) only [simprocAttr, pj_up_ap, if_true, if_false, sp_push, hs']
  · simp (disch := decide) only [simprocAttr, pj_up_ap, if_true, if_false, sp_push, hv]
  · simp (disch := decide) only [simprocAttr, pj_up_ap, if_true, if_false, sp_push, hg]
  · simp (disch := decide) only [simprocAttr, pj_up_ap, if_true, if_false, sp_push, hA]
  · simp (disch := decide) only [simprocAttr, pj_up_ap, if_true, if_false, sp_push, hp]
theorem pj_Mo_same {N S : Nat} {H : pj_Heap} {k : Nat} {L : pj_Loc} {x : pj_Sg} {r : Int32} (hM : pj_M H x) (h : pj_Ends k (0, L, [], (N, S, H)) (some (.int r), (N, S, H))) : pj_Mo N S H k L (x, r) := ⟨H, hM, fun _ _ => rfl, h⟩
/-- a change of the row, and the way to it: from where the reference passes its result on -/
theorem m_chg {N S : Nat} {H H1 : pj_Heap} {x : pj_Sg} {kk pc : Nat} {L : pj_Loc} {c : Int32} {f' k hs sl : Nat → Int32} {r0 r1 r2 a0 a1 a2 mid lo hi fi sp nu ic td : Int32} (hx : pj_In x) (hc : pj_MC H1 f' k hs sl x.2.2.2.2.1 x.2.2.2.2.2.2 x.2.1 x.2.2.2.2.2.1 r0 r1 r2 a0 a1 a2 mid lo hi fi sp nu ic td) (hr : pj_MR x.2.1 x.2.2.1 x.2.2.2.1 x.2.2.2.2.1 hs sl) (hk : ∀ j, j < 152 → k j = x.1 j) (hF : ∀ j, j < 109 → H1 j = H j)
    (K : ∀ H2, pj_Ends 78 (0, [some (.ref 109), some (.int c), none], [], (N, S, H1)) (some (.int c), (N, S, H2)) → pj_Ends kk (pc, L, [], (N, S, H)) (some (.int c), (N, S, H2))) : ∃ H', pj_M H' (sp_push x f') ∧ (∀ j, j < 109 → H' j = H j) ∧ pj_Ends kk (pc, L, [], (N, S, H)) (some (.int c), (N, S, H')) := by
  refine ⟨_, pj_M_push hx.2.1 hc hr hk, ?_, K _ (m_changed hx.2.1 hc.1 hc.2.2.1 hc.2.2.2.1)⟩
  intro j hj
  rw [pj_up_lo hj (by decide), pj_up_lo hj (by decide), hF j hj]
def sp_rg (v a b : Int32) : Int32 := if a ≤ v ∧ v ≤ b then 1 else 0
theorem sp_rg_01 {v a b : Int32} : sp_rg v a b = 0 ∨ sp_rg v a b = 1 := by
  unfold sp_rg
  split
  · exact Or.inr rfl
  · exact Or.inl rfl
def sp_is (a v : Int32) : Int32 := if a = 0 then sp_rg v 1 2000 else if a = 1 then sp_rg v 1 2000 else if a = 2 then sp_rg v 1 50 else if a = 3 then sp_rg v 2 50 else if a = 4 then sp_rg v 1 500 else if a = 5 then sp_rg v 0 20 else 0
theorem sp_in_r {r : Int32} {a b : Int64} {a' b' : Int32} (ha : a = a'.toInt64) (hb : b = b'.toInt64) : sp_in r.toInt64 a b = sp_rg r a' b' := sp_in_i ha hb
theorem m_isSetting {a v : Int32} {N S : Nat} {H : pj_Heap} : pj_Ends 75 (0, [some (.int a), some (.int v)], [], (N, S, H)) (some (.int (sp_is a v)), (N, S, H)) := by
  unfold sp_is
  by_cases h0 : a = 0
  · subst h0
    simp (disch := first | assumption | exact pj_long_i | exact pj_long_r | exact pj_long_n | decide) only [x75_0, x75_1, x75_36, x75_37, x75_38, x75_39, x75_46, x75_47, x75_48, x75_49, x75_56, x75_57, x75_58, x75_61, x75_68, x75_69, x75_70, x75_71, x75_78, x75_79, x75_80, x75_83, x75_84, x75_85, x75_86, x75_92, x75_95, x75_96, x75_99, simprocAttr, pj_then_s, pj_pv_s, pj_pi_s, pj_set_s, if_true, if_false, not_true_eq_false, not_false_eq_true, pj_up_up, pj_up_sort, pj_up_ap, pj_upd_ap, pj_a3_0, pj_a3_1, pj_a3_2, pj_a3_u0, pj_a3_u1, pj_a3_u2]
    refine e75_42 rfl m_in ?_
    rw [sp_in_r (a' := 1) (b' := 2000) (by decide) (by decide)]
    exact t75_45 sp_rg_01
  · by_cases h1 : a = 1
    · subst h1
      simp (disch := first | assumption | exact pj_long_i | exact pj_long_r | exact pj_long_n | decide) only [x75_0, x75_1, x75_36, x75_37, x75_38, x75_39, x75_46, x75_47, x75_48, x75_49, x75_56, x75_57, x75_58, x75_61, x75_68, x75_69, x75_70, x75_71, x75_78, x75_79, x75_80, x75_83, x75_84, x75_85, x75_86, x75_92, x75_95, x75_96, x75_99, simprocAttr, pj_then_s, pj_pv_s, pj_pi_s, pj_set_s, if_true, if_false, not_true_eq_false, not_false_eq_true, pj_up_up, pj_up_sort, pj_up_ap, pj_upd_ap, pj_a3_0, pj_a3_1, pj_a3_2, pj_a3_u0, pj_a3_u1, pj_a3_u2]
      refine e75_42 rfl m_in ?_
      rw [sp_in_r (a' := 1) (b' := 2000) (by decide) (by decide)]
      exact t75_45 sp_rg_01
    · by_cases h2 : a = 2
      · subst h2
        simp (disch := first | assumption | exact pj_long_i | exact pj_long_r | exact pj_long_n | decide) only [x75_0, x75_1, x75_36, x75_37, x75_38, x75_39, x75_46, x75_47, x75_48, x75_49, x75_56, x75_57, x75_58, x75_61, x75_68, x75_69, x75_70, x75_71, x75_78, x75_79, x75_80, x75_83, x75_84, x75_85, x75_86, x75_92, x75_95, x75_96, x75_99, simprocAttr, pj_then_s, pj_pv_s, pj_pi_s, pj_set_s, if_true, if_false, not_true_eq_false, not_false_eq_true, pj_up_up, pj_up_sort, pj_up_ap, pj_upd_ap, pj_a3_0, pj_a3_1, pj_a3_2, pj_a3_u0, pj_a3_u1, pj_a3_u2]
        refine e75_52 rfl m_in ?_
        rw [sp_in_r (a' := 1) (b' := 50) (by decide) (by decide)]
        exact t75_55 sp_rg_01
      · by_cases h3 : a = 3
        · subst h3
          simp (disch := first | assumption | exact pj_long_i | exact pj_long_r | exact pj_long_n | decide) only [x75_0, x75_1, x75_36, x75_37, x75_38, x75_39, x75_46, x75_47, x75_48, x75_49, x75_56, x75_57, x75_58, x75_61, x75_68, x75_69, x75_70, x75_71, x75_78, x75_79, x75_80, x75_83, x75_84, x75_85, x75_86, x75_92, x75_95, x75_96, x75_99, simprocAttr, pj_then_s, pj_pv_s, pj_pi_s, pj_set_s, if_true, if_false, not_true_eq_false, not_false_eq_true, pj_up_up, pj_up_sort, pj_up_ap, pj_upd_ap, pj_a3_0, pj_a3_1, pj_a3_2, pj_a3_u0, pj_a3_u1, pj_a3_u2]
          refine e75_64 rfl m_in ?_
          rw [sp_in_r (a' := 2) (b' := 50) (by decide) (by decide)]
          exact t75_67 sp_rg_01
        · by_cases h4 : a = 4
          · subst h4
            simp (disch := first | assumption | exact pj_long_i | exact pj_long_r | exact pj_long_n | decide) only [x75_0, x75_1, x75_36, x75_37, x75_38, x75_39, x75_46, x75_47, x75_48, x75_49, x75_56, x75_57, x75_58, x75_61, x75_68, x75_69, x75_70, x75_71, x75_78, x75_79, x75_80, x75_83, x75_84, x75_85, x75_86, x75_92, x75_95, x75_96, x75_99, simprocAttr, pj_then_s, pj_pv_s, pj_pi_s, pj_set_s, if_true, if_false, not_true_eq_false, not_false_eq_true, pj_up_up, pj_up_sort, pj_up_ap, pj_upd_ap, pj_a3_0, pj_a3_1, pj_a3_2, pj_a3_u0, pj_a3_u1, pj_a3_u2]
            refine e75_74 rfl m_in ?_
            rw [sp_in_r (a' := 1) (b' := 500) (by decide) (by decide)]
            exact t75_77 sp_rg_01
          · by_cases h5 : a = 5
            · subst h5
              simp (disch := first | assumption | exact pj_long_i | exact pj_long_r | exact pj_long_n | decide) only [x75_0, x75_1, x75_36, x75_37, x75_38, x75_39, x75_46, x75_47, x75_48, x75_49, x75_56, x75_57, x75_58, x75_61, x75_68, x75_69, x75_70, x75_71, x75_78, x75_79, x75_80, x75_83, x75_84, x75_85, x75_86, x75_92, x75_95, x75_96, x75_99, simprocAttr, pj_then_s, pj_pv_s, pj_pi_s, pj_set_s, if_true, if_false, not_true_eq_false, not_false_eq_true, pj_up_up, pj_up_sort, pj_up_ap, pj_upd_ap, pj_a3_0, pj_a3_1, pj_a3_2, pj_a3_u0, pj_a3_u1, pj_a3_u2]
              refine e75_89 rfl m_in ?_
              rw [sp_in_r (a' := 0) (b' := 20) (by decide) (by decide)]
              rcases sp_rg_01 (v := v) (a := 0) (b := 20) with e | e
              · simp (disch := first | assumption | exact pj_long_i | exact pj_long_r | exact pj_long_n | decide) only [x75_0, x75_1, x75_36, x75_37, x75_38, x75_39, x75_46, x75_47, x75_48, x75_49, x75_56, x75_57, x75_58, x75_61, x75_68, x75_69, x75_70, x75_71, x75_78, x75_79, x75_80, x75_83, x75_84, x75_85, x75_86, x75_92, x75_95, x75_96, x75_99, simprocAttr, pj_then_s, pj_pv_s, pj_pi_s, pj_set_s, if_true, if_false, not_true_eq_false, not_false_eq_true, pj_up_up, pj_up_sort, pj_up_ap, pj_upd_ap, pj_a3_0, pj_a3_1, pj_a3_2, pj_a3_u0, pj_a3_u1, pj_a3_u2, e]
                exact t75_100 (Or.inl rfl)
              · simp (disch := first | assumption | exact pj_long_i | exact pj_long_r | exact pj_long_n | decide) only [x75_0, x75_1, x75_36, x75_37, x75_38, x75_39, x75_46, x75_47, x75_48, x75_49, x75_56, x75_57, x75_58, x75_61, x75_68, x75_69, x75_70, x75_71, x75_78, x75_79, x75_80, x75_83, x75_84, x75_85, x75_86, x75_92, x75_95, x75_96, x75_99, simprocAttr, pj_then_s, pj_pv_s, pj_pi_s, pj_set_s, if_true, if_false, not_true_eq_false, not_false_eq_true, pj_up_up, pj_up_sort, pj_up_ap, pj_upd_ap, pj_a3_0, pj_a3_1, pj_a3_2, pj_a3_u0, pj_a3_u1, pj_a3_u2, e]
                exact t75_100 (Or.inr rfl)
            · simp (disch := first | assumption | exact pj_long_i | exact pj_long_r | exact pj_long_n | decide) only [x75_0, x75_1, x75_36, x75_37, x75_38, x75_39, x75_46, x75_47, x75_48, x75_49, x75_56, x75_57, x75_58, x75_61, x75_68, x75_69, x75_70, x75_71, x75_78, x75_79, x75_80, x75_83, x75_84, x75_85, x75_86, x75_92, x75_95, x75_96, x75_99, simprocAttr, pj_then_s, pj_pv_s, pj_pi_s, pj_set_s, if_true, if_false, not_true_eq_false, not_false_eq_true, pj_up_up, pj_up_sort, pj_up_ap, pj_upd_ap, pj_a3_0, pj_a3_1, pj_a3_2, pj_a3_u0, pj_a3_u1, pj_a3_u2, h0, h1, h2, h3, h4, h5]
              exact t75_100 (Or.inl rfl)
theorem sp_is_lt {a v : Int32} (h : ¬ sp_is a v = 0) : a = 0 ∨ a = 1 ∨ a = 2 ∨ a = 3 ∨ a = 4 ∨ a = 5 := by
  unfold sp_is at h
  by_cases h0 : a = 0
  · exact Or.inl h0
  by_cases h1 : a = 1
  · exact Or.inr (Or.inl h1)
  by_cases h2 : a = 2
  · exact Or.inr (Or.inr (Or.inl h2))
  by_cases h3 : a = 3
  · exact Or.inr (Or.inr (Or.inr (Or.inl h3)))
  by_cases h4 : a = 4
  · exact Or.inr (Or.inr (Or.inr (Or.inr (Or.inl h4))))
  by_cases h5 : a = 5
  · exact Or.inr (Or.inr (Or.inr (Or.inr (Or.inr h5))))
  rw [if_neg h0, if_neg h1, if_neg h2, if_neg h3, if_neg h4, if_neg h5] at h
  exact absurd rfl h
def op_set (x : pj_Sg) (a v : Int32) : pj_Sg × Int32 := if sp_is a v = 0 then (x, -2) else (sp_push x (upd x.1 a.toNatClampNeg v), x.1 a.toNatClampNeg)
theorem M_set {N S : Nat} {H : pj_Heap} {x : pj_Sg} {a v : Int32} (hx : pj_In x) (hM : pj_M H x) : pj_Mo N S H 74 [some (.ref 109), some (.int a), some (.int v), none] (op_set x a v) := by
  have hM' := hM
  obtain ⟨k, hs0, sl0, r0, r1, r2, a0, a1, a2, mid, lo, hi, fi, sp, nu, ic, td, ⟨hm, hf, hk, hh, hs, hv, hg, hA, hp⟩, hr⟩ := hM
  unfold op_set
  by_cases c1 : sp_is a v = 0
  · rw [if_pos c1]
    refine pj_Mo_same hM' ?_
    simp (disch := first | assumption | exact pj_long_i | exact pj_long_r | exact pj_long_n | decide) only [x74_0, x74_1, simprocAttr, pj_then_s, pj_pv_s, pj_pi_s, pj_set_s, if_true, if_false, not_true_eq_false, not_false_eq_true, pj_up_up, pj_up_sort, pj_up_ap, pj_upd_ap, pj_a3_0, pj_a3_1, pj_a3_2, pj_a3_u0, pj_a3_u1, pj_a3_u2]
    refine e74_2 rfl m_isSetting ?_
    simp (disch := first | assumption | exact pj_long_i | exact pj_long_r | exact pj_long_n | decide) only [x74_5, x74_8, simprocAttr, pj_then_s, pj_pv_s, pj_pi_s, pj_set_s, if_true, if_false, not_true_eq_false, not_false_eq_true, pj_up_up, pj_up_sort, pj_up_ap, pj_upd_ap, pj_a3_0, pj_a3_1, pj_a3_2, pj_a3_u0, pj_a3_u1, pj_a3_u2, c1]
    exact t74_10
  · rw [if_neg c1]
    refine m_chg (H1 := pj_up (pj_up H 110 (.inr (0, 152, .inl (upd x.1 a.toNatClampNeg v)))) 111 (.inr (0, 152, .inl (va_cpy x.1 k 0 0 152)))) (r0 := r0) (r1 := r1) (r2 := r2) (a0 := a0) (a1 := a1) (a2 := a2) (mid := mid) (lo := lo) (hi := hi) (fi := fi) (sp := sp) (nu := nu) (ic := ic) (td := td) (hs := hs0) (sl := sl0) (k := va_cpy x.1 k 0 0 152) hx ⟨(by (try simp (disch := decide) only [simprocAttr, pj_up_ap, if_true, if_false, pj_mo, hm, hf, hk, hh, hs, hv, hg, hA, hp]) <;> rfl), (by (try simp (disch := decide) only [simprocAttr, pj_up_ap, if_true, if_false, pj_mo, hm, hf, hk, hh, hs, hv, hg, hA, hp]) <;> rfl), (by (try simp (disch := decide) only [simprocAttr, pj_up_ap, if_true, if_false, pj_mo, hm, hf, hk, hh, hs, hv, hg, hA, hp]) <;> rfl), (by (try simp (disch := decide) only [simprocAttr, pj_up_ap, if_true, if_false, pj_mo, hm, hf, hk, hh, hs, hv, hg, hA, hp]) <;> rfl), (by (try simp (disch := decide) only [simprocAttr, pj_up_ap, if_true, if_false, pj_mo, hm, hf, hk, hh, hs, hv, hg, hA, hp]) <;> rfl), (by (try simp (disch := decide) only [simprocAttr, pj_up_ap, if_true, if_false, pj_mo, hm, hf, hk, hh, hs, hv, hg, hA, hp]) <;> rfl), (by (try simp (disch := decide) only [simprocAttr, pj_up_ap, if_true, if_false, pj_mo, hm, hf, hk, hh, hs, hv, hg, hA, hp]) <;> rfl), (by (try simp (disch := decide) only [simprocAttr, pj_up_ap, if_true, if_false, pj_mo, hm, hf, hk, hh, hs, hv, hg, hA, hp]) <;> rfl), (by (try simp (disch := decide) only [simprocAttr, pj_up_ap, if_true, if_false, pj_mo, hm, hf, hk, hh, hs, hv, hg, hA, hp]) <;> rfl)⟩ hr (fun j hj => va_cpy_lt hj) (by intro j hj; repeat rw [pj_up_lo hj (by decide)]) (fun H2 h2 => ?_)
    have hin : pj_in a 152 = true := by
      rcases sp_is_lt c1 with e | e | e | e | e | e <;> (subst e; decide)
    simp (disch := first | assumption | exact pj_long_i | exact pj_long_r | exact pj_long_n | decide) only [x74_0, x74_1, simprocAttr, pj_then_s, pj_pv_s, pj_pi_s, pj_set_s, if_true, if_false, not_true_eq_false, not_false_eq_true, pj_up_up, pj_up_sort, pj_up_ap, pj_upd_ap, pj_a3_0, pj_a3_1, pj_a3_2, pj_a3_u0, pj_a3_u1, pj_a3_u2]
    refine e74_2 rfl m_isSetting ?_
    simp (disch := first | assumption | exact pj_long_i | exact pj_long_r | exact pj_long_n | decide) only [x74_5, x74_8, x74_11, simprocAttr, pj_then_s, pj_pv_s, pj_pi_s, pj_set_s, if_true, if_false, not_true_eq_false, not_false_eq_true, pj_up_up, pj_up_sort, pj_up_ap, pj_upd_ap, pj_a3_0, pj_a3_1, pj_a3_2, pj_a3_u0, pj_a3_u1, pj_a3_u2, c1]
    refine e74_12 rfl (by first | (rw [hm]; rfl) | (simp only [simprocAttr, pj_up_ap, if_true, if_false, hm, pj_mo]; rfl)) (m_keep hm hf hk) ?_
    simp (disch := first | assumption | exact pj_long_i | exact pj_long_r | exact pj_long_n | decide) only [x74_15, x74_16, x74_19, x74_20, x74_21, x74_22, x74_23, x74_26, x74_27, x74_28, x74_29, x74_30, simprocAttr, pj_then_s, pj_pv_s, pj_pi_s, pj_set_s, if_true, if_false, not_true_eq_false, not_false_eq_true, pj_up_up, pj_up_sort, pj_up_ap, pj_upd_ap, pj_a3_0, pj_a3_1, pj_a3_2, pj_a3_u0, pj_a3_u1, pj_a3_u2, pj_f6_0, pj_arl_i, pj_long_i, pj_long_r, pj_long_n, pj_ars_i, hm, hf, pj_mo]
    refine e74_31 rfl (by first | (rw [hm]; rfl) | (simp only [simprocAttr, pj_up_ap, if_true, if_false, hm, pj_mo]; rfl)) h2 ?_
    exact t74_34
theorem m_on_ex {f : Nat → Int32} {c b0 b1 b2 : Int32} {n : Nat} (hn : n ≤ 12) (hrec : f 30 = nI n) : ∃ x0 x1 x2 : Int32, ∀ (N S : Nat) (H : pj_Heap) (hl mid lo hi fi pl sp nu ic td a0 a1 a2 : Int32), H 109 = pj_mo hl mid lo hi fi pl sp nu ic td → H 110 = .inr (0, 152, .inl f) → H 115 = .inr (0, 3, .inl (pj_a3 b0 b1 b2)) → H 116 = .inr (0, 3, .inl (pj_a3 a0 a1 a2)) →
    pj_Ends 82 (0, [some (.ref 109), some (.int c)], [], (N, S, H)) (none, (N, S, pj_up (pj_up (pj_up H 109 (pj_mo hl (tk_m f (pj_a3 b0 b1 b2)) (tk_lo f (pj_a3 b0 b1 b2) c) (tk_hi f (pj_a3 b0 b1 b2) c) (tk_fi f (pj_a3 b0 b1 b2) c) pl sp nu ic td)) 110 (.inr (0, 152, .inl (sp_tick f (pj_a3 b0 b1 b2) c)))) 116 (.inr (0, 3, .inl (pj_a3 x0 x1 x2))))) :=
  ⟨b0 - sp_T1 f (pj_a3 b0 b1 b2) 8, b1 - sp_T1 f (pj_a3 b0 b1 b2) 9, b2 - sp_T1 f (pj_a3 b0 b1 b2) 10, fun _ _ _ _ _ _ _ _ _ _ _ _ _ _ _ _ hm hf hg hA => m_ticksOn hn hrec hm hf hg hA⟩
def op_tick (x : pj_Sg) (b0 b1 b2 c : Int32) : pj_Sg × Int32 := if sp_rd b0 = 0 then (x, -2) else if sp_rd b1 = 0 then (x, -2) else if sp_rd b2 = 0 then (x, -2) else if 100000 ≤ x.1 6 then (x, -4) else (sp_push x (sp_tick x.1 (pj_a3 b0 b1 b2) c), tk_fi x.1 (pj_a3 b0 b1 b2) c)
theorem M_tick {N S : Nat} {H : pj_Heap} {x : pj_Sg} {b0 b1 b2 c : Int32} (hx : pj_In x) (hM : pj_M H x) : pj_Mo N S H 79 [some (.ref 109), some (.int b0), some (.int b1), some (.int b2), some (.int c)] (op_tick x b0 b1 b2 c) := by
  have hM' := hM
  obtain ⟨k, hs0, sl0, r0, r1, r2, a0, a1, a2, mid, lo, hi, fi, sp, nu, ic, td, ⟨hm, hf, hk, hh, hs, hv, hg, hA, hp⟩, hr⟩ := hM
  obtain ⟨t, ht, h152, ⟨n, hn, hrec⟩, hRo⟩ := hx.1
  unfold op_tick
  by_cases c1 : sp_rd b0 = 0
  · rw [if_pos c1]
    refine pj_Mo_same hM' ?_
    simp (disch := first | assumption | exact pj_long_i | exact pj_long_r | exact pj_long_n | decide) only [x79_0, simprocAttr, pj_then_s, pj_pv_s, pj_pi_s, pj_set_s, if_true, if_false, not_true_eq_false, not_false_eq_true, pj_up_up, pj_up_sort, pj_up_ap, pj_upd_ap, pj_a3_0, pj_a3_1, pj_a3_2, pj_a3_u0, pj_a3_u1, pj_a3_u2]
    refine e79_1 rfl m_isReading ?_
    simp (disch := first | assumption | exact pj_long_i | exact pj_long_r | exact pj_long_n | decide) only [x79_4, x79_7, x79_11, x79_14, x79_18, x79_21, simprocAttr, pj_then_s, pj_pv_s, pj_pi_s, pj_set_s, if_true, if_false, not_true_eq_false, not_false_eq_true, pj_up_up, pj_up_sort, pj_up_ap, pj_upd_ap, pj_a3_0, pj_a3_1, pj_a3_2, pj_a3_u0, pj_a3_u1, pj_a3_u2, c1]
    exact t79_23
  rw [if_neg c1]
  by_cases c2 : sp_rd b1 = 0
  · rw [if_pos c2]
    refine pj_Mo_same hM' ?_
    simp (disch := first | assumption | exact pj_long_i | exact pj_long_r | exact pj_long_n | decide) only [x79_0, simprocAttr, pj_then_s, pj_pv_s, pj_pi_s, pj_set_s, if_true, if_false, not_true_eq_false, not_false_eq_true, pj_up_up, pj_up_sort, pj_up_ap, pj_upd_ap, pj_a3_0, pj_a3_1, pj_a3_2, pj_a3_u0, pj_a3_u1, pj_a3_u2]
    refine e79_1 rfl m_isReading ?_
    simp (disch := first | assumption | exact pj_long_i | exact pj_long_r | exact pj_long_n | decide) only [x79_4, x79_7, simprocAttr, pj_then_s, pj_pv_s, pj_pi_s, pj_set_s, if_true, if_false, not_true_eq_false, not_false_eq_true, pj_up_up, pj_up_sort, pj_up_ap, pj_upd_ap, pj_a3_0, pj_a3_1, pj_a3_2, pj_a3_u0, pj_a3_u1, pj_a3_u2, c1]
    refine e79_8 rfl m_isReading ?_
    simp (disch := first | assumption | exact pj_long_i | exact pj_long_r | exact pj_long_n | decide) only [x79_11, x79_14, x79_18, x79_21, simprocAttr, pj_then_s, pj_pv_s, pj_pi_s, pj_set_s, if_true, if_false, not_true_eq_false, not_false_eq_true, pj_up_up, pj_up_sort, pj_up_ap, pj_upd_ap, pj_a3_0, pj_a3_1, pj_a3_2, pj_a3_u0, pj_a3_u1, pj_a3_u2, c2]
    exact t79_23
  rw [if_neg c2]
  by_cases c3 : sp_rd b2 = 0
  · rw [if_pos c3]
    refine pj_Mo_same hM' ?_
    simp (disch := first | assumption | exact pj_long_i | exact pj_long_r | exact pj_long_n | decide) only [x79_0, simprocAttr, pj_then_s, pj_pv_s, pj_pi_s, pj_set_s, if_true, if_false, not_true_eq_false, not_false_eq_true, pj_up_up, pj_up_sort, pj_up_ap, pj_upd_ap, pj_a3_0, pj_a3_1, pj_a3_2, pj_a3_u0, pj_a3_u1, pj_a3_u2]
    refine e79_1 rfl m_isReading ?_
    simp (disch := first | assumption | exact pj_long_i | exact pj_long_r | exact pj_long_n | decide) only [x79_4, x79_7, simprocAttr, pj_then_s, pj_pv_s, pj_pi_s, pj_set_s, if_true, if_false, not_true_eq_false, not_false_eq_true, pj_up_up, pj_up_sort, pj_up_ap, pj_upd_ap, pj_a3_0, pj_a3_1, pj_a3_2, pj_a3_u0, pj_a3_u1, pj_a3_u2, c1]
    refine e79_8 rfl m_isReading ?_
    simp (disch := first | assumption | exact pj_long_i | exact pj_long_r | exact pj_long_n | decide) only [x79_11, x79_14, simprocAttr, pj_then_s, pj_pv_s, pj_pi_s, pj_set_s, if_true, if_false, not_true_eq_false, not_false_eq_true, pj_up_up, pj_up_sort, pj_up_ap, pj_upd_ap, pj_a3_0, pj_a3_1, pj_a3_2, pj_a3_u0, pj_a3_u1, pj_a3_u2, c2]
    refine e79_15 rfl m_isReading ?_
    simp (disch := first | assumption | exact pj_long_i | exact pj_long_r | exact pj_long_n | decide) only [x79_18, x79_21, simprocAttr, pj_then_s, pj_pv_s, pj_pi_s, pj_set_s, if_true, if_false, not_true_eq_false, not_false_eq_true, pj_up_up, pj_up_sort, pj_up_ap, pj_upd_ap, pj_a3_0, pj_a3_1, pj_a3_2, pj_a3_u0, pj_a3_u1, pj_a3_u2, c3]
    exact t79_23
  rw [if_neg c3]
  by_cases c4 : 100000 ≤ x.1 6
  · rw [if_pos c4]
    refine pj_Mo_same hM' ?_
    simp (disch := first | assumption | exact pj_long_i | exact pj_long_r | exact pj_long_n | decide) only [x79_0, simprocAttr, pj_then_s, pj_pv_s, pj_pi_s, pj_set_s, if_true, if_false, not_true_eq_false, not_false_eq_true, pj_up_up, pj_up_sort, pj_up_ap, pj_upd_ap, pj_a3_0, pj_a3_1, pj_a3_2, pj_a3_u0, pj_a3_u1, pj_a3_u2]
    refine e79_1 rfl m_isReading ?_
    simp (disch := first | assumption | exact pj_long_i | exact pj_long_r | exact pj_long_n | decide) only [x79_4, x79_7, simprocAttr, pj_then_s, pj_pv_s, pj_pi_s, pj_set_s, if_true, if_false, not_true_eq_false, not_false_eq_true, pj_up_up, pj_up_sort, pj_up_ap, pj_upd_ap, pj_a3_0, pj_a3_1, pj_a3_2, pj_a3_u0, pj_a3_u1, pj_a3_u2, c1]
    refine e79_8 rfl m_isReading ?_
    simp (disch := first | assumption | exact pj_long_i | exact pj_long_r | exact pj_long_n | decide) only [x79_11, x79_14, simprocAttr, pj_then_s, pj_pv_s, pj_pi_s, pj_set_s, if_true, if_false, not_true_eq_false, not_false_eq_true, pj_up_up, pj_up_sort, pj_up_ap, pj_upd_ap, pj_a3_0, pj_a3_1, pj_a3_2, pj_a3_u0, pj_a3_u1, pj_a3_u2, c2]
    refine e79_15 rfl m_isReading ?_
    have c5 : ¬ x.1 6 < 100000 := Int32.not_lt.mpr c4
    simp (disch := first | assumption | exact pj_long_i | exact pj_long_r | exact pj_long_n | decide) only [x79_18, x79_21, x79_24, x79_25, x79_28, x79_30, x79_31, x79_33, x79_36, simprocAttr, pj_then_s, pj_pv_s, pj_pi_s, pj_set_s, if_true, if_false, not_true_eq_false, not_false_eq_true, pj_up_up, pj_up_sort, pj_up_ap, pj_upd_ap, pj_a3_0, pj_a3_1, pj_a3_2, pj_a3_u0, pj_a3_u1, pj_a3_u2, pj_f6_0, pj_arl_i, c3, hm, hf, pj_mo, c5]
    exact t79_38
  rw [if_neg c4]
  obtain ⟨x0, x1, x2, hT⟩ := m_on_ex (f := x.1) (c := c) (b0 := b0) (b1 := b1) (b2 := b2) hn hrec
  generalize sp_tick x.1 (pj_a3 b0 b1 b2) c = F at hT ⊢
  generalize tk_fi x.1 (pj_a3 b0 b1 b2) c = w at hT ⊢
  generalize tk_lo x.1 (pj_a3 b0 b1 b2) c = y at hT
  generalize tk_hi x.1 (pj_a3 b0 b1 b2) c = z at hT
  generalize tk_m x.1 (pj_a3 b0 b1 b2) = m at hT
  refine m_chg (H1 := pj_up (pj_up (pj_up (pj_up (pj_up H 109 (pj_mo (nI x.2.1) m y z w (nI x.2.2.2.2.2.1) sp nu ic td)) 110 (.inr (0, 152, .inl F))) 111 (.inr (0, 152, .inl (va_cpy x.1 k 0 0 152)))) 115 (.inr (0, 3, .inl (pj_a3 b0 b1 b2)))) 116 (.inr (0, 3, .inl (pj_a3 x0 x1 x2)))) (mid := m) (lo := y) (hi := z) (fi := w) (sp := sp) (nu := nu) (ic := ic) (td := td) (hs := hs0) (sl := sl0) (k := va_cpy x.1 k 0 0 152) (r0 := b0) (r1 := b1) (r2 := b2) (a0 := x0) (a1 := x1) (a2 := x2) hx ⟨(by (try simp (disch := decide) only [simprocAttr, pj_up_ap, if_true, if_false, pj_mo, hm, hf, hk, hh, hs, hv, hg, hA, hp]) <;> rfl), (by (try simp (disch := decide) only [simprocAttr, pj_up_ap, if_true, if_false, pj_mo, hm, hf, hk, hh, hs, hv, hg, hA, hp]) <;> rfl), (by (try simp (disch := decide) only [simprocAttr, pj_up_ap, if_true, if_false, pj_mo, hm, hf, hk, hh, hs, hv, hg, hA, hp]) <;> rfl), (by (try simp (disch := decide) only [simprocAttr, pj_up_ap, if_true, if_false, pj_mo, hm, hf, hk, hh, hs, hv, hg, hA, hp]) <;> rfl), (by (try simp (disch := decide) only [simprocAttr, pj_up_ap, if_true, if_false, pj_mo, hm, hf, hk, hh, hs, hv, hg, hA, hp]) <;> rfl), (by (try simp (disch := decide) only [simprocAttr, pj_up_ap, if_true, if_false, pj_mo, hm, hf, hk, hh, hs, hv, hg, hA, hp]) <;> rfl), (by (try simp (disch := decide) only [simprocAttr, pj_up_ap, if_true, if_false, pj_mo, hm, hf, hk, hh, hs, hv, hg, hA, hp]) <;> rfl), (by (try simp (disch := decide) only [simprocAttr, pj_up_ap, if_true, if_false, pj_mo, hm, hf, hk, hh, hs, hv, hg, hA, hp]) <;> rfl), (by (try simp (disch := decide) only [simprocAttr, pj_up_ap, if_true, if_false, pj_mo, hm, hf, hk, hh, hs, hv, hg, hA, hp]) <;> rfl)⟩ hr (fun j hj => va_cpy_lt hj) (by intro j hj; repeat rw [pj_up_lo hj (by decide)]) (fun H2 h2 => ?_)
  simp (disch := first | assumption | exact pj_long_i | exact pj_long_r | exact pj_long_n | decide) only [x79_0, simprocAttr, pj_then_s, pj_pv_s, pj_pi_s, pj_set_s, if_true, if_false, not_true_eq_false, not_false_eq_true, pj_up_up, pj_up_sort, pj_up_ap, pj_upd_ap, pj_a3_0, pj_a3_1, pj_a3_2, pj_a3_u0, pj_a3_u1, pj_a3_u2]
  refine e79_1 rfl m_isReading ?_
  simp (disch := first | assumption | exact pj_long_i | exact pj_long_r | exact pj_long_n | decide) only [x79_4, x79_7, simprocAttr, pj_then_s, pj_pv_s, pj_pi_s, pj_set_s, if_true, if_false, not_true_eq_false, not_false_eq_true, pj_up_up, pj_up_sort, pj_up_ap, pj_upd_ap, pj_a3_0, pj_a3_1, pj_a3_2, pj_a3_u0, pj_a3_u1, pj_a3_u2, c1]
  refine e79_8 rfl m_isReading ?_
  simp (disch := first | assumption | exact pj_long_i | exact pj_long_r | exact pj_long_n | decide) only [x79_11, x79_14, simprocAttr, pj_then_s, pj_pv_s, pj_pi_s, pj_set_s, if_true, if_false, not_true_eq_false, not_false_eq_true, pj_up_up, pj_up_sort, pj_up_ap, pj_upd_ap, pj_a3_0, pj_a3_1, pj_a3_2, pj_a3_u0, pj_a3_u1, pj_a3_u2, c2]
  refine e79_15 rfl m_isReading ?_
  have c5 : x.1 6 < 100000 := Int32.not_le.mp c4
  simp (disch := first | assumption | exact pj_long_i | exact pj_long_r | exact pj_long_n | decide) only [x79_18, x79_21, x79_24, x79_25, x79_28, x79_30, x79_31, x79_33, x79_36, x79_39, simprocAttr, pj_then_s, pj_pv_s, pj_pi_s, pj_set_s, if_true, if_false, not_true_eq_false, not_false_eq_true, pj_up_up, pj_up_sort, pj_up_ap, pj_upd_ap, pj_a3_0, pj_a3_1, pj_a3_2, pj_a3_u0, pj_a3_u1, pj_a3_u2, pj_f6_0, pj_arl_i, c3, hm, hf, pj_mo, c5]
  refine e79_40 rfl (by first | (rw [hm]; rfl) | (simp only [simprocAttr, pj_up_ap, if_true, if_false, hm, pj_mo]; rfl)) (m_keep hm hf hk) ?_
  simp (disch := first | assumption | exact pj_long_i | exact pj_long_r | exact pj_long_n | decide) only [x79_43, x79_44, x79_45, x79_46, simprocAttr, pj_then_s, pj_pv_s, pj_pi_s, pj_set_s, if_true, if_false, not_true_eq_false, not_false_eq_true, pj_up_up, pj_up_sort, pj_up_ap, pj_upd_ap, pj_a3_0, pj_a3_1, pj_a3_2, pj_a3_u0, pj_a3_u1, pj_a3_u2]
  refine e79_47 rfl (by first | (rw [hm]; rfl) | (simp only [simprocAttr, pj_up_ap, if_true, if_false, hm, pj_mo]; rfl)) (m_lays (mid := mid) (lo := lo) (hi := hi) (fi := fi) (pl := nI x.2.2.2.2.2.1) (sp := sp) (nu := nu) (ic := ic) (td := td) (hl := nI x.2.1) (r0 := r0) (r1 := r1) (r2 := r2) (by (try simp (disch := decide) only [simprocAttr, pj_up_ap, if_true, if_false, pj_mo, hm, hg]) <;> rfl) (by (try simp (disch := decide) only [simprocAttr, pj_up_ap, if_true, if_false, pj_mo, hm, hg]) <;> rfl)) ?_
  simp (disch := first | assumption | exact pj_long_i | exact pj_long_r | exact pj_long_n | decide) only [x79_50, x79_51, simprocAttr, pj_then_s, pj_pv_s, pj_pi_s, pj_set_s, if_true, if_false, not_true_eq_false, not_false_eq_true, pj_up_up, pj_up_sort, pj_up_ap, pj_upd_ap, pj_a3_0, pj_a3_1, pj_a3_2, pj_a3_u0, pj_a3_u1, pj_a3_u2]
  refine e79_53 rfl (by first | (rw [hm]; rfl) | (simp only [simprocAttr, pj_up_ap, if_true, if_false, hm, pj_mo]; rfl)) (hT _ _ _ (nI x.2.1) mid lo hi fi (nI x.2.2.2.2.2.1) sp nu ic td a0 a1 a2 (by (try simp (disch := decide) only [simprocAttr, pj_up_ap, if_true, if_false, pj_mo, hm, hf]) <;> rfl) (by (try simp (disch := decide) only [simprocAttr, pj_up_ap, if_true, if_false, pj_mo, hm, hf]) <;> rfl) (by (try simp (disch := decide) only [simprocAttr, pj_up_ap, if_true, if_false, pj_mo, hm]) <;> rfl) (by (try simp (disch := decide) only [simprocAttr, pj_up_ap, if_true, if_false, pj_mo, hA]) <;> rfl)) ?_
  simp (disch := first | assumption | exact pj_long_i | exact pj_long_r | exact pj_long_n | decide) only [x79_56, x79_57, x79_58, simprocAttr, pj_then_s, pj_pv_s, pj_pi_s, pj_set_s, if_true, if_false, not_true_eq_false, not_false_eq_true, pj_up_up, pj_up_sort, pj_up_ap, pj_upd_ap, pj_a3_0, pj_a3_1, pj_a3_2, pj_a3_u0, pj_a3_u1, pj_a3_u2, pj_f6_11, pj_mo]
  refine e79_61 rfl (by first | (rw [hm]; rfl) | (simp only [simprocAttr, pj_up_ap, if_true, if_false, hm, pj_mo]; rfl)) h2 ?_
  exact t79_64
