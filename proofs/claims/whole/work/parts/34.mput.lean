/-! CHARACTERS IN A NUMBER, AND THE REFERENCE'S PUT -/
/-- the machine's shift to the right by so many places -/
def sp_sr (x : Int64) (y : Int32) : Int64 := (x.toUInt64 >>> (y.toInt64.toUInt64 &&& Int64.toUInt64 63)).toInt64
def sp_by (c : Int64) (k : Nat) : Nat := (c.toUInt64.toNat >>> (8 * k)) % 256
theorem sp_sr_n {x : Int64} {k : Nat} (hk : k < 8) : (sp_sr x (nI (8 * k))).toUInt64.toNat = x.toUInt64.toNat >>> (8 * k) := by
  unfold sp_sr
  rw [UInt64.toUInt64_toInt64, UInt64.toNat_shiftRight]
  have e : ((nI (8 * k)).toInt64.toUInt64 &&& Int64.toUInt64 63).toNat % 64 = 8 * k := by
    have : k = 0 ∨ k = 1 ∨ k = 2 ∨ k = 3 ∨ k = 4 ∨ k = 5 ∨ k = 6 ∨ k = 7 := by omega
    rcases this with q | q | q | q | q | q | q | q <;> (subst q; decide)
  rw [e]
theorem sp_sr_8 {x : Int64} : (sp_sr x 8).toUInt64.toNat = x.toUInt64.toNat >>> 8 := sp_sr_n (k := 1) (by decide)
theorem sp_u_inj {x y : Int64} (h : x.toUInt64.toNat = y.toUInt64.toNat) : x = y := by
  obtain ⟨u⟩ := x
  obtain ⟨v⟩ := y
  have e : u = v := UInt64.toNat_inj.mp h
  rw [e]
/-- what is left behind so many characters -/
def sp_rr (c : Int64) : Nat → Int64
  | 0 => c
  | k + 1 => sp_sr (sp_rr c k) 8
theorem sp_rr_n (c : Int64) : ∀ k, (sp_rr c k).toUInt64.toNat = c.toUInt64.toNat >>> (8 * k)
  | 0 => by rw [Nat.mul_zero, Nat.shiftRight_zero]; rfl
  | k + 1 => by
    unfold sp_rr
    rw [sp_sr_8, sp_rr_n c k, ← Nat.shiftRight_add]
    congr 1
theorem sp_rr_sr {c : Int64} {k : Nat} (hk : k < 8) : sp_rr c k = sp_sr c (nI (8 * k)) := sp_u_inj (by rw [sp_rr_n, sp_sr_n hk])
theorem sp_rr_8 {c : Int64} : sp_rr c 8 = 0 := sp_u_inj (by
  rw [sp_rr_n, Nat.shiftRight_eq_div_pow]
  have h := UInt64.toNat_lt c.toUInt64
  have e : (0 : Int64).toUInt64.toNat = 0 := rfl
  rw [e]
  exact Nat.div_eq_of_lt h)
theorem sp_and (x : Int64) : x &&& 255 = lN (x.toUInt64.toNat % 256) := sp_u_inj (by
  have e1 : (x &&& 255).toUInt64 = x.toUInt64 &&& 255 := rfl
  rw [e1, UInt64.toNat_and]
  have e2 : (255 : UInt64).toNat = 2 ^ 8 - 1 := rfl
  rw [e2, Nat.and_two_pow_sub_one_eq_mod]
  have e3 : ∀ b, b < 256 → (lN b).toUInt64.toNat = b := by
    intro b hb
    have : (lN b).toUInt64 = UInt64.ofNat b := rfl
    rw [this]
    show b % 2 ^ 64 = b
    exact Nat.mod_eq_of_lt (by omega)
  rw [e3 _ (by omega)])
theorem sp_rr_b (c : Int64) (k : Nat) : sp_rr c k &&& 255 = lN (sp_by c k) := by rw [sp_and, sp_rr_n]; rfl
theorem sp_sr_b (c : Int64) {k : Nat} (hk : k < 8) : sp_sr c (nI (8 * k)) &&& 255 = lN (sp_by c k) := by rw [← sp_rr_sr hk, sp_rr_b]
theorem sp_by_lt (c : Int64) (k : Nat) : sp_by c k < 256 := Nat.mod_lt _ (by decide)
theorem sp_lcmp0 {b : Nat} (hb : b < 256) : lg_cmp (lN b) 0 = 0 ↔ b = 0 := by
  unfold lg_cmp
  have e0 : (0 : Int64) = lN 0 := rfl
  by_cases h : b = 0
  · subst h; decide
  · have h1 : lN b > 0 := (lN_lt (a := 0) (b := b) (by decide) (by omega)).mpr (by omega)
    rw [if_pos h1]
    exact ⟨fun q => absurd q (by decide), fun q => absurd q h⟩
theorem lg_eq0 {x : Int64} : lg_cmp x 0 = 0 ↔ x = 0 := by
  unfold lg_cmp
  by_cases h : x > 0
  · rw [if_pos h]
    exact ⟨fun q => absurd q (by decide), fun q => absurd h (by rw [q]; exact Int64.lt_irrefl)⟩
  · rw [if_neg h]
    by_cases h2 : x = 0
    · rw [if_pos h2]
      exact ⟨fun _ => h2, fun _ => rfl⟩
    · rw [if_neg h2]
      exact ⟨fun q => absurd q (by decide), fun q => absurd q h2⟩
theorem sp_in_b {b : Nat} (hb : b < 256) : sp_in (lN b) 33 126 = if 33 ≤ b ∧ b ≤ 126 then 1 else 0 := by
  unfold sp_in
  have e1 : ((33 : Int64) ≤ lN b) ↔ 33 ≤ b := lN_le (a := 33) (b := b) (by decide) (by omega)
  have e2 : (lN b ≤ (126 : Int64)) ↔ b ≤ 126 := lN_le (a := b) (b := 126) (by omega) (by decide)
  simp only [e1, e2]
/-- how many characters there are, of so many that are left to look at -/
def sp_cn (c : Int64) : Nat → Nat → Nat
  | 0, k => k
  | m + 1, k => if sp_by c k = 0 then k else sp_cn c m (k + 1)
/-- and whether they are all good -/
def sp_gd (c : Int64) : Nat → Nat → Bool
  | 0, _ => true
  | m + 1, k => if sp_by c k = 0 then true else if 33 ≤ sp_by c k ∧ sp_by c k ≤ 126 then sp_gd c m (k + 1) else false
theorem sp_cn_le (c : Int64) : ∀ m k, k ≤ sp_cn c m k ∧ sp_cn c m k ≤ k + m
  | 0, k => ⟨Nat.le_refl _, Nat.le_refl _⟩
  | m + 1, k => by
    unfold sp_cn
    have := sp_cn_le c m (k + 1)
    split <;> omega
/-- the characters are put behind the pad's, the last one of the number last -/
def sp_wr (c : Int64) : Nat → (Nat → Int32) → Nat → (Nat → Int32)
  | 0, pd, _ => pd
  | m + 1, pd, pl => sp_wr c m (upd pd pl (nI (sp_by c m))) (pl + 1)
def op_put (x : pj_Sg) (c : Int64) : pj_Sg × Int32 :=
  if sp_cn c 8 0 = 0 ∨ ¬ sp_rr c (sp_cn c 8 0) = 0 ∨ sp_gd c 8 0 = false then (x, -2)
  else if 80 < x.2.2.2.2.2.1 + sp_cn c 8 0 then (x, -4)
  else ((x.1, x.2.1, x.2.2.1, x.2.2.2.1, x.2.2.2.2.1, x.2.2.2.2.2.1 + sp_cn c 8 0, sp_wr c (sp_cn c 8 0) x.2.2.2.2.2.2 x.2.2.2.2.2.1), nI (x.2.2.2.2.2.1 + sp_cn c 8 0))
def sp_gb (b : Bool) : Int32 := if b = true then 1 else 0
theorem sp_sr_f {x : Int64} {y : Int32} : (x.toUInt64 >>> (y.toInt64.toUInt64 &&& Int64.toUInt64 63)).toInt64 = sp_sr x y := rfl
theorem m_put_a {c : Int64} {x7 : Option Value} {N S : Nat} {H : pj_Heap} {o : Option Value × pj_Mem} : ∀ (m k : Nat) (g : Int32), k + m = 8 → (g = 0 ∨ g = 1) →
    pj_Ends 112 (68, [some (.ref 109), some (.long c), none, some (.int (nI (sp_cn c m k))), some (.int (if g = 0 then 0 else sp_gb (sp_gd c m k))), some (.long (sp_rr c (sp_cn c m k))), none, x7], [], (N, S, H)) o →
    pj_Ends 112 (8, [some (.ref 109), some (.long c), none, some (.int (nI k)), some (.int g), some (.long (sp_rr c k)), none, x7], [], (N, S, H)) o := by
  intro m
  induction m with
  | zero =>
    intro k g hk hg K
    obtain rfl : k = 8 := by omega
    have c1 : (8 : Int32) ≤ nI 8 := by decide
    have e : (if g = 0 then 0 else sp_gb (sp_gd c 0 8)) = g := by
      rcases hg with q | q
      · subst q; rfl
      · subst q; rfl
    rw [e] at K
    simp (disch := first | assumption | exact pj_long_i | exact pj_long_r | exact pj_long_n | decide) only [x112_8, x112_9, x112_11, simprocAttr, pj_then_s, pj_pv_s, pj_pi_s, pj_set_s, if_true, if_false, not_true_eq_false, not_false_eq_true, pj_up_up, pj_up_sort, pj_up_ap, pj_upd_ap, pj_a3_0, pj_a3_1, pj_a3_2, pj_a3_u0, pj_a3_u1, pj_a3_u2, c1]
    exact K
  | succ m ih =>
    intro k g hk hg K
    have c1 : ¬ (8 : Int32) ≤ nI k := nI_ge (b := 8) (by omega) (by decide)
    have e1 := sp_rr_b c k
    have hb := sp_by_lt c k
    by_cases c2 : sp_by c k = 0
    · have e2 : lg_cmp (lN (sp_by c k)) 0 = 0 := (sp_lcmp0 hb).mpr c2
      have e : (if g = 0 then 0 else sp_gb (sp_gd c (m + 1) k)) = g := by
        unfold sp_gd
        rw [if_pos c2]
        rcases hg with q | q
        · subst q; rfl
        · subst q; rfl
      have e3 : sp_cn c (m + 1) k = k := by
        unfold sp_cn
        rw [if_pos c2]
      rw [e, e3] at K
      simp (disch := first | assumption | exact pj_long_i | exact pj_long_r | exact pj_long_n | decide) only [x112_8, x112_9, x112_11, x112_14, x112_16, x112_19, x112_20, x112_21, x112_22, simprocAttr, pj_then_s, pj_pv_s, pj_pi_s, pj_set_s, if_true, if_false, not_true_eq_false, not_false_eq_true, pj_up_up, pj_up_sort, pj_up_ap, pj_upd_ap, pj_a3_0, pj_a3_1, pj_a3_2, pj_a3_u0, pj_a3_u1, pj_a3_u2, c1, e1, e2]
      exact K
    · have e2 : ¬ lg_cmp (lN (sp_by c k)) 0 = 0 := fun q => c2 ((sp_lcmp0 hb).mp q)
      have e3 : sp_cn c (m + 1) k = sp_cn c m (k + 1) := by
        rw [sp_cn]
        exact if_neg c2
      have e4 : sp_rr c (k + 1) = sp_sr (sp_rr c k) 8 := rfl
      have e5 : sp_gd c (m + 1) k = (if 33 ≤ sp_by c k ∧ sp_by c k ≤ 126 then sp_gd c m (k + 1) else false) := by
        rw [sp_gd]
        exact if_neg c2
      rw [e3, e5] at K
      rw [x112_8]
      rcases hg with q | q
      · subst q
        have K1 := ih (k + 1) 0 (by omega) (Or.inl rfl) (by rw [if_pos rfl] at K ⊢; exact K)
        rw [e4] at K1
        simp (disch := first | assumption | exact pj_long_i | exact pj_long_r | exact pj_long_n | decide) only [x112_9, x112_11, x112_14, x112_16, x112_19, x112_20, x112_21, x112_22, x112_25, x112_27, x112_30, x112_32, x112_35, x112_36, x112_39, x112_45, x112_48, x112_49, x112_52, x112_53, x112_55, x112_57, x112_59, x112_60, x112_62, x112_65, simprocAttr, pj_then_s, pj_pv_s, pj_pi_s, pj_set_s, if_true, if_false, not_true_eq_false, not_false_eq_true, pj_up_up, pj_up_sort, pj_up_ap, pj_upd_ap, pj_a3_0, pj_a3_1, pj_a3_2, pj_a3_u0, pj_a3_u1, pj_a3_u2, pj_long_i, pj_long_r, pj_long_n, c1, e1, e2, nI_1, sp_sr_f]
        exact K1
      · subst q
        simp (disch := first | assumption | exact pj_long_i | exact pj_long_r | exact pj_long_n | decide) only [x112_9, x112_11, x112_14, x112_16, x112_19, x112_20, x112_21, x112_22, x112_25, x112_27, x112_30, x112_32, x112_35, x112_36, x112_39, simprocAttr, pj_then_s, pj_pv_s, pj_pi_s, pj_set_s, if_true, if_false, not_true_eq_false, not_false_eq_true, pj_up_up, pj_up_sort, pj_up_ap, pj_upd_ap, pj_a3_0, pj_a3_1, pj_a3_2, pj_a3_u0, pj_a3_u1, pj_a3_u2, c1, e1, e2]
        refine e112_42 rfl m_in ?_
        rw [sp_in_b hb]
        by_cases c3 : 33 ≤ sp_by c k ∧ sp_by c k ≤ 126
        · rw [if_pos c3] at K ⊢
          have K1 := ih (k + 1) 1 (by omega) (Or.inr rfl) K
          rw [e4] at K1
          simp (disch := first | assumption | exact pj_long_i | exact pj_long_r | exact pj_long_n | decide) only [x112_45, x112_48, x112_49, x112_52, x112_53, x112_55, x112_57, x112_59, x112_60, x112_62, x112_65, simprocAttr, pj_then_s, pj_pv_s, pj_pi_s, pj_set_s, if_true, if_false, not_true_eq_false, not_false_eq_true, pj_up_up, pj_up_sort, pj_up_ap, pj_upd_ap, pj_a3_0, pj_a3_1, pj_a3_2, pj_a3_u0, pj_a3_u1, pj_a3_u2, pj_long_i, pj_long_r, pj_long_n, nI_1, sp_sr_f]
          exact K1
        · rw [if_neg c3] at K ⊢
          have K1 := ih (k + 1) 0 (by omega) (Or.inl rfl) K
          rw [e4] at K1
          simp (disch := first | assumption | exact pj_long_i | exact pj_long_r | exact pj_long_n | decide) only [x112_45, x112_48, x112_49, x112_52, x112_53, x112_55, x112_57, x112_59, x112_60, x112_62, x112_65, simprocAttr, pj_then_s, pj_pv_s, pj_pi_s, pj_set_s, if_true, if_false, not_true_eq_false, not_false_eq_true, pj_up_up, pj_up_sort, pj_up_ap, pj_upd_ap, pj_a3_0, pj_a3_1, pj_a3_2, pj_a3_u0, pj_a3_u1, pj_a3_u2, pj_long_i, pj_long_r, pj_long_n, nI_1, sp_sr_f]
          exact K1
section M9
variable {N S : Nat} {o : Option Value × pj_Mem} {hl mid lo hi fi sp nu ic td : Int32}
theorem m_put_w {c : Int64} {q3 q4 : Int32} {q5 : Int64} : ∀ (m : Nat) (pd : Nat → Int32) (pl : Nat) (H : pj_Heap), m ≤ 8 → pl + m ≤ 80 → H 109 = pj_mo hl mid lo hi fi (nI pl) sp nu ic td → H 117 = .inr (0, 80, .inl pd) →
    pj_Ends 112 (106, [some (.ref 109), some (.long c), none, some (.int q3), some (.int q4), some (.long q5), none, some (.int (nI m - 1))], [], (N, S, H)) (some (.int (nI (pl + m))), (N, S, pj_up (pj_up H 109 (pj_mo hl mid lo hi fi (nI (pl + m)) sp nu ic td)) 117 (.inr (0, 80, .inl (sp_wr c m pd pl))))) := by
  intro m
  induction m with
  | zero =>
    intro pd pl H hm8 hpl hm hp
    have c1 : nI 0 - 1 < 0 := by decide
    unfold sp_wr
    rw [Nat.add_zero, pj_up_id hm, pj_up_id hp]
    simp (disch := first | assumption | exact pj_long_i | exact pj_long_r | exact pj_long_n | decide) only [x112_106, x112_108, x112_111, x112_112, x112_115, x112_116, x112_119, x112_120, x112_122, x112_124, x112_125, x112_126, x112_129, x112_130, x112_131, x112_132, x112_133, x112_133i, x112_134, x112_137, x112_138, x112_139, x112_142, x112_145, x112_148, x112_149, simprocAttr, pj_then_s, pj_pv_s, pj_pi_s, pj_set_s, if_true, if_false, not_true_eq_false, not_false_eq_true, pj_up_up, pj_up_sort, pj_up_ap, pj_upd_ap, pj_a3_0, pj_a3_1, pj_a3_2, pj_a3_u0, pj_a3_u1, pj_a3_u2, pj_f6_12, pj_f6_13, pj_ars_i, pj_s6_13, pj_long_i, pj_long_r, pj_long_n, c1, hm, pj_mo]
    exact t112_152
  | succ m ih =>
    intro pd pl H hm8 hpl hm hp
    have e1 : nI (m + 1) - 1 = nI m := nI_pred m
    have c1 : ¬ nI m < 0 := nI_pos (by omega)
    have e2 : (8 : Int32) * nI m = nI (8 * m) := pk_mul 8 m
    have e3 := sp_sr_b c (k := m) (by omega)
    have e4 : nI m + (-1 : Int32) = nI m - 1 := by rw [Int32.sub_eq_add_neg]
    have e5 : (nI pl).toNatClampNeg = pl := nI_clamp (by omega)
    have e6 : pj_in (nI pl) 80 = true := pj_in_nI (by omega) (by decide)
    have e7 := lN_i (sp_by c m)
    rw [e1, x112_106]
    simp (disch := first | assumption | exact pj_long_i | exact pj_long_r | exact pj_long_n | decide) only [x112_108, x112_111, x112_112, x112_115, x112_116, x112_119, x112_120, x112_122, x112_124, x112_125, x112_126, x112_129, x112_130, x112_131, x112_132, x112_133, x112_133i, x112_134, x112_137, x112_138, x112_139, x112_142, x112_145, simprocAttr, pj_then_s, pj_pv_s, pj_pi_s, pj_set_s, if_true, if_false, not_true_eq_false, not_false_eq_true, pj_up_up, pj_up_sort, pj_up_ap, pj_upd_ap, pj_a3_0, pj_a3_1, pj_a3_2, pj_a3_u0, pj_a3_u1, pj_a3_u2, pj_f6_12, pj_f6_13, pj_ars_i, pj_s6_13, pj_long_i, pj_long_r, pj_long_n, c1, hm, hp, pj_mo, e2, sp_sr_f, e3, e4, e5, e7, nI_1]
    have K := ih (upd pd pl (nI (sp_by c m))) (pl + 1) (pj_up (pj_up H 109 (pj_mo hl mid lo hi fi (nI (pl + 1)) sp nu ic td)) 117 (.inr (0, 80, .inl (upd pd pl (nI (sp_by c m)))))) (by omega) (by omega) (by (try simp (disch := decide) only [simprocAttr, pj_up_ap, if_true, if_false, pj_mo, hm]) <;> rfl) (by (try simp (disch := decide) only [simprocAttr, pj_up_ap, if_true, if_false, pj_mo, hp]) <;> rfl)
    refine K.res ?_
    have e8 : pl + 1 + m = pl + (m + 1) := by omega
    rw [e8, pj_up_sort (a := 117) (b := 109) (by decide), pj_up_up, pj_up_up]
    rfl
end M9
theorem M_put {N S : Nat} {H : pj_Heap} {x : pj_Sg} {c : Int64} (hx : pj_In x) (hM : pj_M H x) : pj_Mo N S H 112 [some (.ref 109), some (.long c), none, none, none, none, none, none] (op_put x c) := by
  have hM' := hM
  obtain ⟨k, hs0, sl0, r0, r1, r2, a0, a1, a2, mid, lo, hi, fi, sp, nu, ic, td, ⟨hm, hf, hk, hh, hs, hv, hg, hA, hp⟩, hr⟩ := hM
  have hl80 : x.2.2.2.2.2.1 ≤ 80 := hx.2.2.1
  have hn8 := (sp_cn_le c 8 0).2
  unfold op_put
  generalize hn : sp_cn c 8 0 = n at hn8 ⊢
  generalize hg' : sp_gd c 8 0 = b
  have K0 : ∀ (H' : pj_Heap) (r : Int32), pj_Ends 112 (68, [some (.ref 109), some (.long c), none, some (.int (nI n)), some (.int (sp_gb b)), some (.long (sp_rr c n)), none, none], [], (N, S, H)) (some (.int r), (N, S, H')) → pj_Ends 112 (0, [some (.ref 109), some (.long c), none, none, none, none, none, none], [], (N, S, H)) (some (.int r), (N, S, H')) := by
    intro H' r K
    simp (disch := first | assumption | exact pj_long_i | exact pj_long_r | exact pj_long_n | decide) only [x112_0, x112_1, x112_2, x112_3, x112_5, x112_6, simprocAttr, pj_then_s, pj_pv_s, pj_pi_s, pj_set_s, if_true, if_false, not_true_eq_false, not_false_eq_true, pj_up_up, pj_up_sort, pj_up_ap, pj_upd_ap, pj_a3_0, pj_a3_1, pj_a3_2, pj_a3_u0, pj_a3_u1, pj_a3_u2, pj_long_i, pj_long_r, pj_long_n]
    refine m_put_a 8 0 1 rfl (Or.inr rfl) ?_
    rw [if_neg (by decide), hn, hg']
    exact K
  by_cases c1 : n = 0
  · rw [if_pos (Or.inl c1)]
    refine pj_Mo_same hM' (K0 _ _ ?_)
    subst c1
    simp (disch := first | assumption | exact pj_long_i | exact pj_long_r | exact pj_long_n | decide) only [x112_68, x112_69, x112_72, x112_74, x112_75, x112_76, x112_79, x112_81, x112_84, simprocAttr, pj_then_s, pj_pv_s, pj_pi_s, pj_set_s, if_true, if_false, not_true_eq_false, not_false_eq_true, pj_up_up, pj_up_sort, pj_up_ap, pj_upd_ap, pj_a3_0, pj_a3_1, pj_a3_2, pj_a3_u0, pj_a3_u1, pj_a3_u2, nI_0]
    exact t112_86
  have d1 : ¬ nI n = 0 := nI_ne0 (by omega) (by omega)
  by_cases c2 : sp_rr c n = 0
  · have d2 : lg_cmp (sp_rr c n) 0 = 0 := lg_eq0.mpr c2
    by_cases c3 : b = false
    · rw [if_pos (Or.inr (Or.inr c3))]
      refine pj_Mo_same hM' (K0 _ _ ?_)
      have d3 : sp_gb b = 0 := by rw [c3]; rfl
      simp (disch := first | assumption | exact pj_long_i | exact pj_long_r | exact pj_long_n | decide) only [x112_68, x112_69, x112_72, x112_74, x112_75, x112_76, x112_79, x112_81, x112_84, simprocAttr, pj_then_s, pj_pv_s, pj_pi_s, pj_set_s, if_true, if_false, not_true_eq_false, not_false_eq_true, pj_up_up, pj_up_sort, pj_up_ap, pj_upd_ap, pj_a3_0, pj_a3_1, pj_a3_2, pj_a3_u0, pj_a3_u1, pj_a3_u2, d1, d2, d3]
      exact t112_86
    · have d3 : ¬ sp_gb b = 0 := by
        rw [Bool.not_eq_false] at c3
        rw [c3]
        decide
      rw [if_neg (by
        intro q
        rcases q with q | q | q
        · exact c1 q
        · exact q c2
        · exact c3 q)]
      have e1 : nI x.2.2.2.2.2.1 + nI n = nI (x.2.2.2.2.2.1 + n) := nI_add _ _
      by_cases c4 : 80 < x.2.2.2.2.2.1 + n
      · rw [if_pos c4]
        have d4 : ¬ nI (x.2.2.2.2.2.1 + n) ≤ 80 := Int32.not_le.mpr (nI_lt (a := 80) c4 (by omega))
        refine pj_Mo_same hM' (K0 _ _ ?_)
        simp (disch := first | assumption | exact pj_long_i | exact pj_long_r | exact pj_long_n | decide) only [x112_68, x112_69, x112_72, x112_74, x112_75, x112_76, x112_79, x112_81, x112_84, x112_87, x112_88, x112_91, x112_92, x112_93, x112_95, x112_98, simprocAttr, pj_then_s, pj_pv_s, pj_pi_s, pj_set_s, if_true, if_false, not_true_eq_false, not_false_eq_true, pj_up_up, pj_up_sort, pj_up_ap, pj_upd_ap, pj_a3_0, pj_a3_1, pj_a3_2, pj_a3_u0, pj_a3_u1, pj_a3_u2, pj_f6_13, d1, d2, d3, hm, pj_mo, e1, d4]
        exact t112_100
      · rw [if_neg c4]
        have d4 : nI (x.2.2.2.2.2.1 + n) ≤ 80 := nI_le (b := 80) (by omega) (by decide)
        refine ⟨pj_up (pj_up H 109 (pj_mo (nI x.2.1) mid lo hi fi (nI (x.2.2.2.2.2.1 + n)) sp nu ic td)) 117 (.inr (0, 80, .inl (sp_wr c n x.2.2.2.2.2.2 x.2.2.2.2.2.1))), ⟨k, hs0, sl0, r0, r1, r2, a0, a1, a2, mid, lo, hi, fi, sp, nu, ic, td, ⟨(by (try simp (disch := decide) only [simprocAttr, pj_up_ap, if_true, if_false, pj_mo, hm, hf, hk, hh, hs, hv, hg, hA, hp]) <;> rfl), (by (try simp (disch := decide) only [simprocAttr, pj_up_ap, if_true, if_false, pj_mo, hm, hf, hk, hh, hs, hv, hg, hA, hp]) <;> rfl), (by (try simp (disch := decide) only [simprocAttr, pj_up_ap, if_true, if_false, pj_mo, hm, hf, hk, hh, hs, hv, hg, hA, hp]) <;> rfl), (by (try simp (disch := decide) only [simprocAttr, pj_up_ap, if_true, if_false, pj_mo, hm, hf, hk, hh, hs, hv, hg, hA, hp]) <;> rfl), (by (try simp (disch := decide) only [simprocAttr, pj_up_ap, if_true, if_false, pj_mo, hm, hf, hk, hh, hs, hv, hg, hA, hp]) <;> rfl), (by (try simp (disch := decide) only [simprocAttr, pj_up_ap, if_true, if_false, pj_mo, hm, hf, hk, hh, hs, hv, hg, hA, hp]) <;> rfl), (by (try simp (disch := decide) only [simprocAttr, pj_up_ap, if_true, if_false, pj_mo, hm, hf, hk, hh, hs, hv, hg, hA, hp]) <;> rfl), (by (try simp (disch := decide) only [simprocAttr, pj_up_ap, if_true, if_false, pj_mo, hm, hf, hk, hh, hs, hv, hg, hA, hp]) <;> rfl), (by (try simp (disch := decide) only [simprocAttr, pj_up_ap, if_true, if_false, pj_mo, hm, hf, hk, hh, hs, hv, hg, hA, hp]) <;> rfl)⟩, hr⟩, (by intro j hj; repeat rw [pj_up_lo hj (by decide)]), K0 _ _ ?_⟩
        simp (disch := first | assumption | exact pj_long_i | exact pj_long_r | exact pj_long_n | decide) only [x112_68, x112_69, x112_72, x112_74, x112_75, x112_76, x112_79, x112_81, x112_84, x112_87, x112_88, x112_91, x112_92, x112_93, x112_95, x112_98, x112_101, x112_102, x112_103, x112_104, simprocAttr, pj_then_s, pj_pv_s, pj_pi_s, pj_set_s, if_true, if_false, not_true_eq_false, not_false_eq_true, pj_up_up, pj_up_sort, pj_up_ap, pj_upd_ap, pj_a3_0, pj_a3_1, pj_a3_2, pj_a3_u0, pj_a3_u1, pj_a3_u2, pj_f6_13, pj_long_i, pj_long_r, pj_long_n, d1, d2, d3, hm, pj_mo, e1, d4]
        exact m_put_w n _ _ H hn8 (by omega) hm hp
  · rw [if_pos (Or.inr (Or.inl c2))]
    have d2 : ¬ lg_cmp (sp_rr c n) 0 = 0 := fun q => c2 (lg_eq0.mp q)
    refine pj_Mo_same hM' (K0 _ _ ?_)
    simp (disch := first | assumption | exact pj_long_i | exact pj_long_r | exact pj_long_n | decide) only [x112_68, x112_69, x112_72, x112_74, x112_75, x112_76, x112_79, x112_81, x112_84, simprocAttr, pj_then_s, pj_pv_s, pj_pi_s, pj_set_s, if_true, if_false, not_true_eq_false, not_false_eq_true, pj_up_up, pj_up_sort, pj_up_ap, pj_upd_ap, pj_a3_0, pj_a3_1, pj_a3_2, pj_a3_u0, pj_a3_u1, pj_a3_u2, d1, d2]
    exact t112_86
def op_wipe (x : pj_Sg) : pj_Sg × Int32 := ((x.1, x.2.1, x.2.2.1, x.2.2.2.1, x.2.2.2.2.1, 0, x.2.2.2.2.2.2), nI x.2.2.2.2.2.1)
theorem M_wipe {N S : Nat} {H : pj_Heap} {x : pj_Sg} (hM : pj_M H x) : pj_Mo N S H 113 [some (.ref 109), none] (op_wipe x) := by
  obtain ⟨k, hs0, sl0, r0, r1, r2, a0, a1, a2, mid, lo, hi, fi, sp, nu, ic, td, ⟨hm, hf, hk, hh, hs, hv, hg, hA, hp⟩, hr⟩ := hM
  refine ⟨pj_up H 109 (pj_mo (nI x.2.1) mid lo hi fi (nI 0) sp nu ic td), ⟨k, hs0, sl0, r0, r1, r2, a0, a1, a2, mid, lo, hi, fi, sp, nu, ic, td, ⟨(by (try simp (disch := decide) only [simprocAttr, pj_up_ap, if_true, if_false, pj_mo, hm, hf, hk, hh, hs, hv, hg, hA, hp]) <;> rfl), (by (try simp (disch := decide) only [simprocAttr, pj_up_ap, if_true, if_false, pj_mo, hm, hf, hk, hh, hs, hv, hg, hA, hp]) <;> rfl), (by (try simp (disch := decide) only [simprocAttr, pj_up_ap, if_true, if_false, pj_mo, hm, hf, hk, hh, hs, hv, hg, hA, hp]) <;> rfl), (by (try simp (disch := decide) only [simprocAttr, pj_up_ap, if_true, if_false, pj_mo, hm, hf, hk, hh, hs, hv, hg, hA, hp]) <;> rfl), (by (try simp (disch := decide) only [simprocAttr, pj_up_ap, if_true, if_false, pj_mo, hm, hf, hk, hh, hs, hv, hg, hA, hp]) <;> rfl), (by (try simp (disch := decide) only [simprocAttr, pj_up_ap, if_true, if_false, pj_mo, hm, hf, hk, hh, hs, hv, hg, hA, hp]) <;> rfl), (by (try simp (disch := decide) only [simprocAttr, pj_up_ap, if_true, if_false, pj_mo, hm, hf, hk, hh, hs, hv, hg, hA, hp]) <;> rfl), (by (try simp (disch := decide) only [simprocAttr, pj_up_ap, if_true, if_false, pj_mo, hm, hf, hk, hh, hs, hv, hg, hA, hp]) <;> rfl), (by (try simp (disch := decide) only [simprocAttr, pj_up_ap, if_true, if_false, pj_mo, hm, hf, hk, hh, hs, hv, hg, hA, hp]) <;> rfl)⟩, hr⟩, (by intro j hj; repeat rw [pj_up_lo hj (by decide)]), ?_⟩
  have e0 : nI 0 = 0 := rfl
  rw [e0]
  simp (disch := first | assumption | exact pj_long_i | exact pj_long_r | exact pj_long_n | decide) only [x113_0, x113_1, x113_4, x113_5, x113_6, x113_7, x113_10, simprocAttr, pj_then_s, pj_pv_s, pj_pi_s, pj_set_s, if_true, if_false, not_true_eq_false, not_false_eq_true, pj_up_up, pj_up_sort, pj_up_ap, pj_upd_ap, pj_a3_0, pj_a3_1, pj_a3_2, pj_a3_u0, pj_a3_u1, pj_a3_u2, pj_f6_13, pj_long_i, pj_long_r, pj_long_n, pj_s6_13, hm, pj_mo]
  exact t113_11
