/-! THE CLASS'S TEXTS: put, wipe -/
theorem i32_c16 {b : Nat} (h : b < 256) : ((nI b).toUInt32 % 65536).toInt32 = nI b := by
  have e1 : (nI b).toUInt32 = UInt32.ofNat b := rfl
  have e2 : UInt32.ofNat b % 65536 = UInt32.ofNat b := by
    apply UInt32.toNat_inj.mp
    rw [UInt32.toNat_mod]
    have e3 : (UInt32.ofNat b).toNat = b := by
      show b % 2 ^ 32 = b
      exact Nat.mod_eq_of_lt (by omega)
    have e4 : (65536 : UInt32).toNat = 65536 := rfl
    rw [e3, e4]
    exact Nat.mod_eq_of_lt (by omega)
  rw [e1, e2]
  rfl
theorem vp_c16 {b : Nat} (h : b < 256) : vp_nar .char (nI b) = nI b := by
  have e := pk_vc (nI b)
  rw [i32_c16 h] at e
  exact e
theorem sp_rr8_n (c : Int64) {n : Nat} (h : n = 8) : sp_rr c n = 0 := by
  rw [h]
  exact sp_rr_8
section T33
variable {N S : Nat} {H : pj_Heap} {c : Int64} {o : Option Value × pj_Mem}
theorem c_codeAt {k : Nat} (hk : k < 8) : pj_Ends 53 (0, [some (.long c), none, some (.int (nI k))], [], (N, S, H)) (some (.int (nI (sp_by c k))), (N, S, H)) := by
  have e2 : (8 : Int32) * nI k = nI (8 * k) := pk_mul 8 k
  have e3 := sp_sr_b c hk
  have e7 := lN_i (sp_by c k)
  simp (disch := first | assumption | exact pj_long_i | exact pj_long_r | exact pj_long_n | decide) only [x53_0, x53_1, x53_3, x53_4, x53_5, x53_6, x53_9, x53_10, simprocAttr, pj_then_s, pj_pv_s, pj_pi_s, pj_set_s, if_true, if_false, not_true_eq_false, not_false_eq_true, pj_up_up, pj_so110_109, pj_so111_109, pj_so112_109, pj_so113_109, pj_so114_109, pj_so115_109, pj_so116_109, pj_so117_109, pj_so111_110, pj_so112_110, pj_so113_110, pj_so114_110, pj_so115_110, pj_so116_110, pj_so117_110, pj_so112_111, pj_so113_111, pj_so114_111, pj_so115_111, pj_so116_111, pj_so117_111, pj_so113_112, pj_so114_112, pj_so115_112, pj_so116_112, pj_so117_112, pj_so114_113, pj_so115_113, pj_so116_113, pj_so117_113, pj_so115_114, pj_so116_114, pj_so117_114, pj_so116_115, pj_so117_115, pj_so117_116, pj_up_ap, pj_upd_ap, pj_a3_0, pj_a3_1, pj_a3_2, pj_a3_u0, pj_a3_u1, pj_a3_u2, e2, sp_sr_f, e3, e7]
  exact t53_11
def ck_ch (c : Int64) (m k : Nat) : Int32 := if sp_gd c m k = false then 0 else if ¬ sp_rr c (sp_cn c m k) = 0 then 0 else nI (sp_cn c m k)
theorem c_chin_e {n : Nat} {x3 : Option Value} (hn : n ≤ 8) : pj_Ends 52 (42, [some (.long c), none, some (.int (nI n)), x3], [], (N, S, H)) (some (.int (if ¬ sp_rr c n = 0 then 0 else nI n)), (N, S, H)) := by
  by_cases h8 : n = 8
  · subst h8
    rw [if_neg (fun q => q sp_rr_8)]
    have e : nI 8 = 8 := rfl
    rw [e]
    simp (disch := first | assumption | exact pj_long_i | exact pj_long_r | exact pj_long_n | decide) only [x52_42, x52_43, x52_45, x52_48, x52_49, x52_51, x52_52, x52_53, x52_54, x52_55, x52_56, x52_59, x52_60, x52_63, x52_64, x52_65, x52_66, x52_69, x52_70, x52_73, simprocAttr, pj_then_s, pj_pv_s, pj_pi_s, pj_set_s, if_true, if_false, not_true_eq_false, not_false_eq_true, pj_up_up, pj_so110_109, pj_so111_109, pj_so112_109, pj_so113_109, pj_so114_109, pj_so115_109, pj_so116_109, pj_so117_109, pj_so111_110, pj_so112_110, pj_so113_110, pj_so114_110, pj_so115_110, pj_so116_110, pj_so117_110, pj_so112_111, pj_so113_111, pj_so114_111, pj_so115_111, pj_so116_111, pj_so117_111, pj_so113_112, pj_so114_112, pj_so115_112, pj_so116_112, pj_so117_112, pj_so114_113, pj_so115_113, pj_so116_113, pj_so117_113, pj_so115_114, pj_so116_114, pj_so117_114, pj_so116_115, pj_so117_115, pj_so117_116, pj_up_ap, pj_upd_ap, pj_a3_0, pj_a3_1, pj_a3_2, pj_a3_u0, pj_a3_u1, pj_a3_u2, pj_long_i, pj_long_r, pj_long_n]
    exact t52_74
  · have c1 : nI n < 8 := (nI_ltI (b := 8) (by omega) (by decide)).mpr (by omega)
    have c1' : ¬ 8 ≤ nI n := Int32.not_le.mpr c1
    have e2 : (8 : Int32) * nI n = nI (8 * n) := pk_mul 8 n
    have e3 : sp_sr c (nI (8 * n)) = sp_rr c n := (sp_rr_sr (by omega)).symm
    by_cases c2 : sp_rr c n = 0
    · rw [if_neg (fun q => q c2)]
      have d2 : lg_cmp (sp_rr c n) 0 = 0 := lg_eq0.mpr c2
      simp (disch := first | assumption | exact pj_long_i | exact pj_long_r | exact pj_long_n | decide) only [x52_42, x52_43, x52_45, x52_48, x52_49, x52_51, x52_52, x52_53, x52_54, x52_55, x52_56, x52_59, x52_60, x52_63, x52_64, x52_65, x52_66, x52_69, x52_70, x52_73, simprocAttr, pj_then_s, pj_pv_s, pj_pi_s, pj_set_s, if_true, if_false, not_true_eq_false, not_false_eq_true, pj_up_up, pj_so110_109, pj_so111_109, pj_so112_109, pj_so113_109, pj_so114_109, pj_so115_109, pj_so116_109, pj_so117_109, pj_so111_110, pj_so112_110, pj_so113_110, pj_so114_110, pj_so115_110, pj_so116_110, pj_so117_110, pj_so112_111, pj_so113_111, pj_so114_111, pj_so115_111, pj_so116_111, pj_so117_111, pj_so113_112, pj_so114_112, pj_so115_112, pj_so116_112, pj_so117_112, pj_so114_113, pj_so115_113, pj_so116_113, pj_so117_113, pj_so115_114, pj_so116_114, pj_so117_114, pj_so116_115, pj_so117_115, pj_so117_116, pj_up_ap, pj_upd_ap, pj_a3_0, pj_a3_1, pj_a3_2, pj_a3_u0, pj_a3_u1, pj_a3_u2, pj_long_i, pj_long_r, pj_long_n, c1, c1', e2, sp_sr_f, e3, d2]
      exact t52_74
    · rw [if_pos c2]
      have d2 : ¬ lg_cmp (sp_rr c n) 0 = 0 := fun q => c2 (lg_eq0.mp q)
      simp (disch := first | assumption | exact pj_long_i | exact pj_long_r | exact pj_long_n | decide) only [x52_42, x52_43, x52_45, x52_48, x52_49, x52_51, x52_52, x52_53, x52_54, x52_55, x52_56, x52_59, x52_60, x52_63, x52_64, x52_65, x52_66, x52_69, x52_70, x52_73, simprocAttr, pj_then_s, pj_pv_s, pj_pi_s, pj_set_s, if_true, if_false, not_true_eq_false, not_false_eq_true, pj_up_up, pj_so110_109, pj_so111_109, pj_so112_109, pj_so113_109, pj_so114_109, pj_so115_109, pj_so116_109, pj_so117_109, pj_so111_110, pj_so112_110, pj_so113_110, pj_so114_110, pj_so115_110, pj_so116_110, pj_so117_110, pj_so112_111, pj_so113_111, pj_so114_111, pj_so115_111, pj_so116_111, pj_so117_111, pj_so113_112, pj_so114_112, pj_so115_112, pj_so116_112, pj_so117_112, pj_so114_113, pj_so115_113, pj_so116_113, pj_so117_113, pj_so115_114, pj_so116_114, pj_so117_114, pj_so116_115, pj_so117_115, pj_so117_116, pj_up_ap, pj_upd_ap, pj_a3_0, pj_a3_1, pj_a3_2, pj_a3_u0, pj_a3_u1, pj_a3_u2, pj_long_i, pj_long_r, pj_long_n, c1, c1', e2, sp_sr_f, e3, d2]
      exact t52_74
theorem c_chin_l : ∀ (m k : Nat) (x3 : Option Value), k + m = 8 → pj_Ends 52 (2, [some (.long c), none, some (.int (nI k)), x3], [], (N, S, H)) (some (.int (ck_ch c m k)), (N, S, H))
  | 0, k, x3, hk => by
    have ek : k = 8 := by omega
    subst ek
    unfold ck_ch sp_gd sp_cn
    rw [if_neg (by decide)]
    have c1 : ¬ nI 8 < 8 := by decide
    have c2 : 8 ≤ nI 8 := by decide
    have K := c_chin_e (N := N) (S := S) (H := H) (c := c) (n := 8) (x3 := x3) (by decide)
    simp (disch := first | assumption | exact pj_long_i | exact pj_long_r | exact pj_long_n | decide) only [x52_2, x52_3, x52_5, simprocAttr, pj_then_s, pj_pv_s, pj_pi_s, pj_set_s, if_true, if_false, not_true_eq_false, not_false_eq_true, pj_up_up, pj_so110_109, pj_so111_109, pj_so112_109, pj_so113_109, pj_so114_109, pj_so115_109, pj_so116_109, pj_so117_109, pj_so111_110, pj_so112_110, pj_so113_110, pj_so114_110, pj_so115_110, pj_so116_110, pj_so117_110, pj_so112_111, pj_so113_111, pj_so114_111, pj_so115_111, pj_so116_111, pj_so117_111, pj_so113_112, pj_so114_112, pj_so115_112, pj_so116_112, pj_so117_112, pj_so114_113, pj_so115_113, pj_so116_113, pj_so117_113, pj_so115_114, pj_so116_114, pj_so117_114, pj_so116_115, pj_so117_115, pj_so117_116, pj_up_ap, pj_upd_ap, pj_a3_0, pj_a3_1, pj_a3_2, pj_a3_u0, pj_a3_u1, pj_a3_u2, c1, c2]
    exact K
  | m + 1, k, x3, hk => by
    have c1 : nI k < 8 := (nI_ltI (b := 8) (by omega) (by decide)).mpr (by omega)
    have c1' : ¬ 8 ≤ nI k := Int32.not_le.mpr c1
    have hb := sp_by_lt c k
    by_cases c2 : sp_by c k = 0
    · have e1 : ck_ch c (m + 1) k = if ¬ sp_rr c k = 0 then 0 else nI k := by
        unfold ck_ch sp_gd sp_cn
        rw [if_pos c2, if_pos c2, if_neg (by decide)]
      have K := c_chin_e (N := N) (S := S) (H := H) (c := c) (n := k) (x3 := x3) (by omega)
      have z : nI 0 = 0 := rfl
      rw [e1]
      simp (disch := first | assumption | exact pj_long_i | exact pj_long_r | exact pj_long_n | decide) only [x52_2, x52_3, x52_5, x52_8, x52_9, simprocAttr, pj_then_s, pj_pv_s, pj_pi_s, pj_set_s, if_true, if_false, not_true_eq_false, not_false_eq_true, pj_up_up, pj_so110_109, pj_so111_109, pj_so112_109, pj_so113_109, pj_so114_109, pj_so115_109, pj_so116_109, pj_so117_109, pj_so111_110, pj_so112_110, pj_so113_110, pj_so114_110, pj_so115_110, pj_so116_110, pj_so117_110, pj_so112_111, pj_so113_111, pj_so114_111, pj_so115_111, pj_so116_111, pj_so117_111, pj_so113_112, pj_so114_112, pj_so115_112, pj_so116_112, pj_so117_112, pj_so114_113, pj_so115_113, pj_so116_113, pj_so117_113, pj_so115_114, pj_so116_114, pj_so117_114, pj_so116_115, pj_so117_115, pj_so117_116, pj_up_ap, pj_upd_ap, pj_a3_0, pj_a3_1, pj_a3_2, pj_a3_u0, pj_a3_u1, pj_a3_u2, c1, c1']
      refine e52_10 rfl (c_codeAt (by omega)) ?_
      rw [c2]
      simp (disch := first | assumption | exact pj_long_i | exact pj_long_r | exact pj_long_n | decide) only [x52_13, simprocAttr, pj_then_s, pj_pv_s, pj_pi_s, pj_set_s, if_true, if_false, not_true_eq_false, not_false_eq_true, pj_up_up, pj_so110_109, pj_so111_109, pj_so112_109, pj_so113_109, pj_so114_109, pj_so115_109, pj_so116_109, pj_so117_109, pj_so111_110, pj_so112_110, pj_so113_110, pj_so114_110, pj_so115_110, pj_so116_110, pj_so117_110, pj_so112_111, pj_so113_111, pj_so114_111, pj_so115_111, pj_so116_111, pj_so117_111, pj_so113_112, pj_so114_112, pj_so115_112, pj_so116_112, pj_so117_112, pj_so114_113, pj_so115_113, pj_so116_113, pj_so117_113, pj_so115_114, pj_so116_114, pj_so117_114, pj_so116_115, pj_so117_115, pj_so117_116, pj_up_ap, pj_upd_ap, pj_a3_0, pj_a3_1, pj_a3_2, pj_a3_u0, pj_a3_u1, pj_a3_u2, z]
      exact K
    · have c3 : ¬ nI (sp_by c k) = 0 := nI_ne0 (by omega) (by omega)
      have e3 : sp_cn c (m + 1) k = sp_cn c m (k + 1) := by
        rw [sp_cn]
        exact if_neg c2
      have e5 : sp_gd c (m + 1) k = (if 33 ≤ sp_by c k ∧ sp_by c k ≤ 126 then sp_gd c m (k + 1) else false) := by
        rw [sp_gd]
        exact if_neg c2
      unfold ck_ch
      rw [e3, e5, x52_2]
      simp (disch := first | assumption | exact pj_long_i | exact pj_long_r | exact pj_long_n | decide) only [x52_3, x52_5, x52_8, x52_9, simprocAttr, pj_then_s, pj_pv_s, pj_pi_s, pj_set_s, if_true, if_false, not_true_eq_false, not_false_eq_true, pj_up_up, pj_so110_109, pj_so111_109, pj_so112_109, pj_so113_109, pj_so114_109, pj_so115_109, pj_so116_109, pj_so117_109, pj_so111_110, pj_so112_110, pj_so113_110, pj_so114_110, pj_so115_110, pj_so116_110, pj_so117_110, pj_so112_111, pj_so113_111, pj_so114_111, pj_so115_111, pj_so116_111, pj_so117_111, pj_so113_112, pj_so114_112, pj_so115_112, pj_so116_112, pj_so117_112, pj_so114_113, pj_so115_113, pj_so116_113, pj_so117_113, pj_so115_114, pj_so116_114, pj_so117_114, pj_so116_115, pj_so117_115, pj_so117_116, pj_up_ap, pj_upd_ap, pj_a3_0, pj_a3_1, pj_a3_2, pj_a3_u0, pj_a3_u1, pj_a3_u2, c1, c1']
      refine e52_10 rfl (c_codeAt (by omega)) ?_
      simp (disch := first | assumption | exact pj_long_i | exact pj_long_r | exact pj_long_n | decide) only [x52_13, x52_16, x52_17, simprocAttr, pj_then_s, pj_pv_s, pj_pi_s, pj_set_s, if_true, if_false, not_true_eq_false, not_false_eq_true, pj_up_up, pj_so110_109, pj_so111_109, pj_so112_109, pj_so113_109, pj_so114_109, pj_so115_109, pj_so116_109, pj_so117_109, pj_so111_110, pj_so112_110, pj_so113_110, pj_so114_110, pj_so115_110, pj_so116_110, pj_so117_110, pj_so112_111, pj_so113_111, pj_so114_111, pj_so115_111, pj_so116_111, pj_so117_111, pj_so113_112, pj_so114_112, pj_so115_112, pj_so116_112, pj_so117_112, pj_so114_113, pj_so115_113, pj_so116_113, pj_so117_113, pj_so115_114, pj_so116_114, pj_so117_114, pj_so116_115, pj_so117_115, pj_so117_116, pj_up_ap, pj_upd_ap, pj_a3_0, pj_a3_1, pj_a3_2, pj_a3_u0, pj_a3_u1, pj_a3_u2, c3]
      refine e52_18 rfl (c_codeAt (by omega)) ?_
      by_cases c4 : 33 ≤ sp_by c k
      · have d4 : ¬ nI (sp_by c k) < 33 := fun w => by
          have := (nI_ltI (b := 33) (by omega) (by decide)).mp w
          omega
        by_cases c5 : sp_by c k ≤ 126
        · have d5 : nI (sp_by c k) ≤ 126 := (nI_leI (b := 126) (by omega) (by decide)).mpr c5
          have cc : 33 ≤ sp_by c k ∧ sp_by c k ≤ 126 := ⟨c4, c5⟩
          rw [if_pos cc]
          have K := c_chin_l m (k + 1) (some (.int (nI (sp_by c k)))) (by omega)
          unfold ck_ch at K
          simp (disch := first | assumption | exact pj_long_i | exact pj_long_r | exact pj_long_n | decide) only [x52_21, x52_22, x52_23, x52_25, x52_28, x52_29, x52_31, x52_34, x52_36, x52_39, simprocAttr, pj_then_s, pj_pv_s, pj_pi_s, pj_set_s, if_true, if_false, not_true_eq_false, not_false_eq_true, pj_up_up, pj_so110_109, pj_so111_109, pj_so112_109, pj_so113_109, pj_so114_109, pj_so115_109, pj_so116_109, pj_so117_109, pj_so111_110, pj_so112_110, pj_so113_110, pj_so114_110, pj_so115_110, pj_so116_110, pj_so117_110, pj_so112_111, pj_so113_111, pj_so114_111, pj_so115_111, pj_so116_111, pj_so117_111, pj_so113_112, pj_so114_112, pj_so115_112, pj_so116_112, pj_so117_112, pj_so114_113, pj_so115_113, pj_so116_113, pj_so117_113, pj_so115_114, pj_so116_114, pj_so117_114, pj_so116_115, pj_so117_115, pj_so117_116, pj_up_ap, pj_upd_ap, pj_a3_0, pj_a3_1, pj_a3_2, pj_a3_u0, pj_a3_u1, pj_a3_u2, pj_long_i, pj_long_r, pj_long_n, d4, d5, nI_1]
          exact K
        · have d5 : ¬ nI (sp_by c k) ≤ 126 := fun w => c5 ((nI_leI (b := 126) (by omega) (by decide)).mp w)
          have cc : ¬ (33 ≤ sp_by c k ∧ sp_by c k ≤ 126) := fun q => c5 q.2
          rw [if_neg cc, if_pos rfl]
          simp (disch := first | assumption | exact pj_long_i | exact pj_long_r | exact pj_long_n | decide) only [x52_21, x52_22, x52_23, x52_25, x52_28, x52_29, x52_31, x52_34, simprocAttr, pj_then_s, pj_pv_s, pj_pi_s, pj_set_s, if_true, if_false, not_true_eq_false, not_false_eq_true, pj_up_up, pj_so110_109, pj_so111_109, pj_so112_109, pj_so113_109, pj_so114_109, pj_so115_109, pj_so116_109, pj_so117_109, pj_so111_110, pj_so112_110, pj_so113_110, pj_so114_110, pj_so115_110, pj_so116_110, pj_so117_110, pj_so112_111, pj_so113_111, pj_so114_111, pj_so115_111, pj_so116_111, pj_so117_111, pj_so113_112, pj_so114_112, pj_so115_112, pj_so116_112, pj_so117_112, pj_so114_113, pj_so115_113, pj_so116_113, pj_so117_113, pj_so115_114, pj_so116_114, pj_so117_114, pj_so116_115, pj_so117_115, pj_so117_116, pj_up_ap, pj_upd_ap, pj_a3_0, pj_a3_1, pj_a3_2, pj_a3_u0, pj_a3_u1, pj_a3_u2, pj_long_i, pj_long_r, pj_long_n, d4, d5]
          exact t52_35
      · have d4 : nI (sp_by c k) < 33 := (nI_ltI (b := 33) (by omega) (by decide)).mpr (by omega)
        have cc : ¬ (33 ≤ sp_by c k ∧ sp_by c k ≤ 126) := fun q => c4 q.1
        rw [if_neg cc, if_pos rfl]
        simp (disch := first | assumption | exact pj_long_i | exact pj_long_r | exact pj_long_n | decide) only [x52_21, x52_22, x52_23, x52_25, x52_28, x52_29, x52_31, x52_34, simprocAttr, pj_then_s, pj_pv_s, pj_pi_s, pj_set_s, if_true, if_false, not_true_eq_false, not_false_eq_true, pj_up_up, pj_so110_109, pj_so111_109, pj_so112_109, pj_so113_109, pj_so114_109, pj_so115_109, pj_so116_109, pj_so117_109, pj_so111_110, pj_so112_110, pj_so113_110, pj_so114_110, pj_so115_110, pj_so116_110, pj_so117_110, pj_so112_111, pj_so113_111, pj_so114_111, pj_so115_111, pj_so116_111, pj_so117_111, pj_so113_112, pj_so114_112, pj_so115_112, pj_so116_112, pj_so117_112, pj_so114_113, pj_so115_113, pj_so116_113, pj_so117_113, pj_so115_114, pj_so116_114, pj_so117_114, pj_so116_115, pj_so117_115, pj_so117_116, pj_up_ap, pj_upd_ap, pj_a3_0, pj_a3_1, pj_a3_2, pj_a3_u0, pj_a3_u1, pj_a3_u2, pj_long_i, pj_long_r, pj_long_n, d4]
        exact t52_35
theorem c_charactersIn : pj_Ends 52 (0, [some (.long c), none, none, none], [], (N, S, H)) (some (.int (ck_ch c 8 0)), (N, S, H)) := by
  have K := c_chin_l (N := N) (S := S) (H := H) (c := c) 8 0 none (by decide)
  have z : nI 0 = 0 := rfl
  rw [z] at K
  simp (disch := first | assumption | exact pj_long_i | exact pj_long_r | exact pj_long_n | decide) only [x52_0, x52_1, simprocAttr, pj_then_s, pj_pv_s, pj_pi_s, pj_set_s, if_true, if_false, not_true_eq_false, not_false_eq_true, pj_up_up, pj_so110_109, pj_so111_109, pj_so112_109, pj_so113_109, pj_so114_109, pj_so115_109, pj_so116_109, pj_so117_109, pj_so111_110, pj_so112_110, pj_so113_110, pj_so114_110, pj_so115_110, pj_so116_110, pj_so117_110, pj_so112_111, pj_so113_111, pj_so114_111, pj_so115_111, pj_so116_111, pj_so117_111, pj_so113_112, pj_so114_112, pj_so115_112, pj_so116_112, pj_so117_112, pj_so114_113, pj_so115_113, pj_so116_113, pj_so117_113, pj_so115_114, pj_so116_114, pj_so117_114, pj_so116_115, pj_so117_115, pj_so117_116, pj_up_ap, pj_upd_ap, pj_a3_0, pj_a3_1, pj_a3_2, pj_a3_u0, pj_a3_u1, pj_a3_u2, pj_long_i, pj_long_r, pj_long_n]
  exact K
theorem c_append {pl b : Nat} {pd : Nat → Int32} (hb : b < 256) (hl : pl < 80) (h0 : H 30 = pj_pc pl) (h1 : H 31 = .inr (1, 80, .inl pd)) : pj_Ends 54 (0, [some (.ref 30), some (.int (nI b))], [], (N, S, H)) (none, (N, S, pj_up (pj_up H 31 (.inr (1, 80, .inl (upd pd pl (nI b))))) 30 (pj_pc (pl + 1)))) := by
  have c1 : nI pl < 80 := (nI_ltI (b := 80) (by omega) (by decide)).mpr hl
  have c1' : ¬ 80 ≤ nI pl := Int32.not_le.mpr c1
  have e5 : (nI pl).toNatClampNeg = pl := nI_clamp (by omega)
  have e6 : pj_in (nI pl) 80 = true := pj_in_nI hl (by decide)
  have e7 := vp_c16 hb
  simp (disch := first | assumption | exact pj_long_i | exact pj_long_r | exact pj_long_n | decide) only [x54_0, x54_1, x54_4, x54_6, x54_9, x54_10, x54_13, x54_14, x54_17, x54_18, x54_19, x54_20, x54_20i, x54_21, x54_24, x54_25, x54_26, simprocAttr, pj_then_s, pj_pv_s, pj_pi_s, pj_set_s, if_true, if_false, not_true_eq_false, not_false_eq_true, pj_up_up, pj_so110_109, pj_so111_109, pj_so112_109, pj_so113_109, pj_so114_109, pj_so115_109, pj_so116_109, pj_so117_109, pj_so111_110, pj_so112_110, pj_so113_110, pj_so114_110, pj_so115_110, pj_so116_110, pj_so117_110, pj_so112_111, pj_so113_111, pj_so114_111, pj_so115_111, pj_so116_111, pj_so117_111, pj_so113_112, pj_so114_112, pj_so115_112, pj_so116_112, pj_so117_112, pj_so114_113, pj_so115_113, pj_so116_113, pj_so117_113, pj_so115_114, pj_so116_114, pj_so117_114, pj_so116_115, pj_so117_115, pj_so117_116, pj_up_ap, pj_upd_ap, pj_a3_0, pj_a3_1, pj_a3_2, pj_a3_u0, pj_a3_u1, pj_a3_u2, pj_f0_2, pj_f0_0, pj_ars_i, pj_s0_2, h0, pj_pc, h1, c1, c1', e5, e6, e7, nI_1]
  exact t54_29
theorem c_put_w {n : Nat} {q3 : Int32} : ∀ (m : Nat) (pd : Nat → Int32) (pl : Nat) (H : pj_Heap), m ≤ 8 → pl + m ≤ 80 → H 4 = pj_vc n → H 30 = pj_pc pl → H 31 = .inr (1, 80, .inl pd) →
    ∃ H', H' 30 = pj_pc (pl + m) ∧ H' 31 = .inr (1, 80, .inl (sp_wr c m pd pl)) ∧ (∀ j, j ≠ 30 → j ≠ 31 → H' j = H j) ∧ pj_Ends 51 (34, [some (.ref 4), some (.long c), none, some (.int q3), some (.int (nI m - 1))], [], (N, S, H)) (some (.int (nI (pl + m))), (N, S, H'))
  | 0, pd, pl, H, hm, hpl, hV, h0, h1 => by
    refine ⟨H, h0, h1, fun _ _ _ => rfl, ?_⟩
    have e : nI 0 - 1 = -1 := by decide
    rw [e, Nat.add_zero]
    simp (disch := first | assumption | exact pj_long_i | exact pj_long_r | exact pj_long_n | decide) only [x51_34, x51_36, x51_39, x51_40, x51_43, x51_44, x51_49, x51_53, x51_56, x51_59, x51_60, x51_63, simprocAttr, pj_then_s, pj_pv_s, pj_pi_s, pj_set_s, if_true, if_false, not_true_eq_false, not_false_eq_true, pj_up_up, pj_so110_109, pj_so111_109, pj_so112_109, pj_so113_109, pj_so114_109, pj_so115_109, pj_so116_109, pj_so117_109, pj_so111_110, pj_so112_110, pj_so113_110, pj_so114_110, pj_so115_110, pj_so116_110, pj_so117_110, pj_so112_111, pj_so113_111, pj_so114_111, pj_so115_111, pj_so116_111, pj_so117_111, pj_so113_112, pj_so114_112, pj_so115_112, pj_so116_112, pj_so117_112, pj_so114_113, pj_so115_113, pj_so116_113, pj_so117_113, pj_so115_114, pj_so116_114, pj_so117_114, pj_so116_115, pj_so117_115, pj_so117_116, pj_up_ap, pj_upd_ap, pj_a3_0, pj_a3_1, pj_a3_2, pj_a3_u0, pj_a3_u1, pj_a3_u2, pj_f5_3, pj_long_i, pj_long_r, pj_long_n, pj_f0_2, hV, pj_vc, h0, pj_pc]
    exact t51_66
  | m + 1, pd, pl, H, hm, hpl, hV, h0, h1 => by
    have e1 : nI (m + 1) - 1 = nI m := nI_pred m
    have c1 : ¬ nI m < 0 := nI_pos (by omega)
    have e4 : nI m + (-1 : Int32) = nI m - 1 := by rw [Int32.sub_eq_add_neg]
    have hb := sp_by_lt c m
    have e16 := i32_c16 hb
    obtain ⟨H', g1, g2, g3, g4⟩ := c_put_w (n := n) (q3 := q3) m (upd pd pl (nI (sp_by c m))) (pl + 1) (pj_up (pj_up H 31 (.inr (1, 80, .inl (upd pd pl (nI (sp_by c m)))))) 30 (pj_pc (pl + 1))) (by omega) (by omega) (by rw [pj_up_ap, if_neg (by decide), pj_up_ap, if_neg (by decide)]; exact hV) (by rw [pj_up_ap, if_pos rfl]) (by rw [pj_up_ap, if_neg (by decide), pj_up_ap, if_pos rfl])
    have ep : pl + 1 + m = pl + (m + 1) := by omega
    rw [ep] at g1 g4
    refine ⟨H', g1, g2, fun j h30 h31 => by rw [g3 j h30 h31, pj_up_ap, if_neg h30, pj_up_ap, if_neg h31], ?_⟩
    rw [e1, x51_34]
    simp (disch := first | assumption | exact pj_long_i | exact pj_long_r | exact pj_long_n | decide) only [x51_36, x51_39, x51_40, x51_43, x51_44, simprocAttr, pj_then_s, pj_pv_s, pj_pi_s, pj_set_s, if_true, if_false, not_true_eq_false, not_false_eq_true, pj_up_up, pj_so110_109, pj_so111_109, pj_so112_109, pj_so113_109, pj_so114_109, pj_so115_109, pj_so116_109, pj_so117_109, pj_so111_110, pj_so112_110, pj_so113_110, pj_so114_110, pj_so115_110, pj_so116_110, pj_so117_110, pj_so112_111, pj_so113_111, pj_so114_111, pj_so115_111, pj_so116_111, pj_so117_111, pj_so113_112, pj_so114_112, pj_so115_112, pj_so116_112, pj_so117_112, pj_so114_113, pj_so115_113, pj_so116_113, pj_so117_113, pj_so115_114, pj_so116_114, pj_so117_114, pj_so116_115, pj_so117_115, pj_so117_116, pj_up_ap, pj_upd_ap, pj_a3_0, pj_a3_1, pj_a3_2, pj_a3_u0, pj_a3_u1, pj_a3_u2, pj_f5_3, c1, hV, pj_vc]
    refine e51_46 rfl (c_codeAt (by omega)) ?_
    simp (disch := first | assumption | exact pj_long_i | exact pj_long_r | exact pj_long_n | decide) only [x51_49, simprocAttr, pj_then_s, pj_pv_s, pj_pi_s, pj_set_s, if_true, if_false, not_true_eq_false, not_false_eq_true, pj_up_up, pj_so110_109, pj_so111_109, pj_so112_109, pj_so113_109, pj_so114_109, pj_so115_109, pj_so116_109, pj_so117_109, pj_so111_110, pj_so112_110, pj_so113_110, pj_so114_110, pj_so115_110, pj_so116_110, pj_so117_110, pj_so112_111, pj_so113_111, pj_so114_111, pj_so115_111, pj_so116_111, pj_so117_111, pj_so113_112, pj_so114_112, pj_so115_112, pj_so116_112, pj_so117_112, pj_so114_113, pj_so115_113, pj_so116_113, pj_so117_113, pj_so115_114, pj_so116_114, pj_so117_114, pj_so116_115, pj_so117_115, pj_so117_116, pj_up_ap, pj_upd_ap, pj_a3_0, pj_a3_1, pj_a3_2, pj_a3_u0, pj_a3_u1, pj_a3_u2, e16]
    refine e51_50 rfl (by rw [h0]; rfl) (c_append hb (by omega) h0 h1) ?_
    simp (disch := first | assumption | exact pj_long_i | exact pj_long_r | exact pj_long_n | decide) only [x51_53, x51_56, simprocAttr, pj_then_s, pj_pv_s, pj_pi_s, pj_set_s, if_true, if_false, not_true_eq_false, not_false_eq_true, pj_up_up, pj_so110_109, pj_so111_109, pj_so112_109, pj_so113_109, pj_so114_109, pj_so115_109, pj_so116_109, pj_so117_109, pj_so111_110, pj_so112_110, pj_so113_110, pj_so114_110, pj_so115_110, pj_so116_110, pj_so117_110, pj_so112_111, pj_so113_111, pj_so114_111, pj_so115_111, pj_so116_111, pj_so117_111, pj_so113_112, pj_so114_112, pj_so115_112, pj_so116_112, pj_so117_112, pj_so114_113, pj_so115_113, pj_so116_113, pj_so117_113, pj_so115_114, pj_so116_114, pj_so117_114, pj_so116_115, pj_so117_115, pj_so117_116, pj_up_ap, pj_upd_ap, pj_a3_0, pj_a3_1, pj_a3_2, pj_a3_u0, pj_a3_u1, pj_a3_u2, pj_long_i, pj_long_r, pj_long_n, e4]
    exact g4
theorem C_put {x : pj_Sg} (hx : pj_In x) (hC : pj_C H x) : pj_Co N S H 51 [some (.ref 4), some (.long c), none, none, none] (op_put x c) := by
  have hl80 : x.2.2.2.2.2.1 ≤ 80 := hx.2.2.1
  have hn8 := (sp_cn_le c 8 0).2
  obtain ⟨hP0, hP1, hP2, hP3⟩ := hC.2.2.2.2.1
  have hV := hC.2.1
  have K0 : ∀ o, pj_Ends 51 (4, [some (.ref 4), some (.long c), none, none, none], [.int (ck_ch c 8 0)], (N, S, H)) o → pj_Ends 51 (0, [some (.ref 4), some (.long c), none, none, none], [], (N, S, H)) o := by
    intro o K
    simp (disch := first | assumption | exact pj_long_i | exact pj_long_r | exact pj_long_n | decide) only [x51_0, simprocAttr, pj_then_s, pj_pv_s, pj_pi_s, pj_set_s, if_true, if_false, not_true_eq_false, not_false_eq_true, pj_up_up, pj_so110_109, pj_so111_109, pj_so112_109, pj_so113_109, pj_so114_109, pj_so115_109, pj_so116_109, pj_so117_109, pj_so111_110, pj_so112_110, pj_so113_110, pj_so114_110, pj_so115_110, pj_so116_110, pj_so117_110, pj_so112_111, pj_so113_111, pj_so114_111, pj_so115_111, pj_so116_111, pj_so117_111, pj_so113_112, pj_so114_112, pj_so115_112, pj_so116_112, pj_so117_112, pj_so114_113, pj_so115_113, pj_so116_113, pj_so117_113, pj_so115_114, pj_so116_114, pj_so117_114, pj_so116_115, pj_so117_115, pj_so117_116, pj_up_ap, pj_upd_ap, pj_a3_0, pj_a3_1, pj_a3_2, pj_a3_u0, pj_a3_u1, pj_a3_u2]
    refine e51_1 rfl c_charactersIn ?_
    exact K
  unfold op_put
  unfold ck_ch at K0
  generalize sp_cn c 8 0 = n at hn8 K0 ⊢
  generalize sp_gd c 8 0 = b at K0 ⊢
  by_cases bad : n = 0 ∨ ¬ sp_rr c n = 0 ∨ b = false
  · rw [if_pos bad]
    have e : (if b = false then 0 else if ¬ sp_rr c n = 0 then 0 else nI n) = 0 := by
      rcases bad with q | q | q
      · rw [q]
        split
        · rfl
        · split <;> rfl
      · rw [if_pos q, ite_self]
      · rw [if_pos q]
    rw [e] at K0
    refine pj_Co_same hC (K0 _ ?_)
    simp (disch := first | assumption | exact pj_long_i | exact pj_long_r | exact pj_long_n | decide) only [x51_4, x51_5, x51_6, x51_9, simprocAttr, pj_then_s, pj_pv_s, pj_pi_s, pj_set_s, if_true, if_false, not_true_eq_false, not_false_eq_true, pj_up_up, pj_so110_109, pj_so111_109, pj_so112_109, pj_so113_109, pj_so114_109, pj_so115_109, pj_so116_109, pj_so117_109, pj_so111_110, pj_so112_110, pj_so113_110, pj_so114_110, pj_so115_110, pj_so116_110, pj_so117_110, pj_so112_111, pj_so113_111, pj_so114_111, pj_so115_111, pj_so116_111, pj_so117_111, pj_so113_112, pj_so114_112, pj_so115_112, pj_so116_112, pj_so117_112, pj_so114_113, pj_so115_113, pj_so116_113, pj_so117_113, pj_so115_114, pj_so116_114, pj_so117_114, pj_so116_115, pj_so117_115, pj_so117_116, pj_up_ap, pj_upd_ap, pj_a3_0, pj_a3_1, pj_a3_2, pj_a3_u0, pj_a3_u1, pj_a3_u2, pj_long_i, pj_long_r, pj_long_n]
    exact t51_11
  · rw [if_neg bad]
    have n0 : ¬ n = 0 := fun q => bad (Or.inl q)
    have e : (if b = false then 0 else if ¬ sp_rr c n = 0 then 0 else nI n) = nI n := by
      rw [if_neg (fun q => bad (Or.inr (Or.inr q))), if_neg (fun q => bad (Or.inr (Or.inl q)))]
    rw [e] at K0
    have d1 : ¬ nI n = 0 := nI_ne0 (by omega) (by omega)
    have e1 : nI x.2.2.2.2.2.1 + nI n = nI (x.2.2.2.2.2.1 + n) := nI_add _ _
    by_cases c4 : 80 < x.2.2.2.2.2.1 + n
    · rw [if_pos c4]
      have d4 : ¬ nI (x.2.2.2.2.2.1 + n) ≤ 80 := Int32.not_le.mpr (nI_lt (a := 80) c4 (by omega))
      refine pj_Co_same hC (K0 _ ?_)
      simp (disch := first | assumption | exact pj_long_i | exact pj_long_r | exact pj_long_n | decide) only [x51_4, x51_5, x51_6, x51_9, x51_12, x51_13, x51_16, x51_19, x51_20, x51_21, x51_23, x51_26, simprocAttr, pj_then_s, pj_pv_s, pj_pi_s, pj_set_s, if_true, if_false, not_true_eq_false, not_false_eq_true, pj_up_up, pj_so110_109, pj_so111_109, pj_so112_109, pj_so113_109, pj_so114_109, pj_so115_109, pj_so116_109, pj_so117_109, pj_so111_110, pj_so112_110, pj_so113_110, pj_so114_110, pj_so115_110, pj_so116_110, pj_so117_110, pj_so112_111, pj_so113_111, pj_so114_111, pj_so115_111, pj_so116_111, pj_so117_111, pj_so113_112, pj_so114_112, pj_so115_112, pj_so116_112, pj_so117_112, pj_so114_113, pj_so115_113, pj_so116_113, pj_so117_113, pj_so115_114, pj_so116_114, pj_so117_114, pj_so116_115, pj_so117_115, pj_so117_116, pj_up_ap, pj_upd_ap, pj_a3_0, pj_a3_1, pj_a3_2, pj_a3_u0, pj_a3_u1, pj_a3_u2, pj_long_i, pj_long_r, pj_long_n, pj_f5_3, pj_f0_2, d1, d4, hV, pj_vc, hP0, pj_pc, e1]
      exact t51_28
    · rw [if_neg c4]
      have d4 : nI (x.2.2.2.2.2.1 + n) ≤ 80 := nI_le (b := 80) (by omega) (by decide)
      obtain ⟨H', g1, g2, g3, g4⟩ := c_put_w (N := N) (S := S) (c := c) (n := x.2.1) (q3 := nI n) n x.2.2.2.2.2.2 x.2.2.2.2.2.1 H hn8 (by omega) hV hP0 hP1
      obtain ⟨ic, tk, pc, ng, dg, hr⟩ := hP2
      obtain ⟨r0, r1, r2, hr3⟩ := hP3
      refine ⟨H', hC.text ⟨g1, g2, ⟨ic, tk, pc, ng, dg, (g3 32 (by decide) (by decide)).trans hr⟩, ⟨r0, r1, r2, (g3 33 (by decide) (by decide)).trans hr3⟩⟩ (fun j hj => g3 j (by omega) (by omega)), fun j hj => g3 j (by omega) (by omega), K0 _ ?_⟩
      simp (disch := first | assumption | exact pj_long_i | exact pj_long_r | exact pj_long_n | decide) only [x51_4, x51_5, x51_6, x51_9, x51_12, x51_13, x51_16, x51_19, x51_20, x51_21, x51_23, x51_26, x51_29, x51_30, x51_31, x51_32, simprocAttr, pj_then_s, pj_pv_s, pj_pi_s, pj_set_s, if_true, if_false, not_true_eq_false, not_false_eq_true, pj_up_up, pj_so110_109, pj_so111_109, pj_so112_109, pj_so113_109, pj_so114_109, pj_so115_109, pj_so116_109, pj_so117_109, pj_so111_110, pj_so112_110, pj_so113_110, pj_so114_110, pj_so115_110, pj_so116_110, pj_so117_110, pj_so112_111, pj_so113_111, pj_so114_111, pj_so115_111, pj_so116_111, pj_so117_111, pj_so113_112, pj_so114_112, pj_so115_112, pj_so116_112, pj_so117_112, pj_so114_113, pj_so115_113, pj_so116_113, pj_so117_113, pj_so115_114, pj_so116_114, pj_so117_114, pj_so116_115, pj_so117_115, pj_so117_116, pj_up_ap, pj_upd_ap, pj_a3_0, pj_a3_1, pj_a3_2, pj_a3_u0, pj_a3_u1, pj_a3_u2, pj_long_i, pj_long_r, pj_long_n, pj_f5_3, pj_f0_2, d1, d4, hV, pj_vc, hP0, pj_pc, e1]
      exact g4
theorem C_wipe {x : pj_Sg} (hC : pj_C H x) : pj_Co N S H 55 [some (.ref 4), none] (op_wipe x) := by
  obtain ⟨hP0, hP1, hP2, hP3⟩ := hC.2.2.2.2.1
  have hV := hC.2.1
  obtain ⟨ic, tk, pc, ng, dg, hr⟩ := hP2
  obtain ⟨r0, r1, r2, hr3⟩ := hP3
  refine ⟨pj_up H 30 (pj_pc 0), hC.text ⟨by rw [pj_up_ap, if_pos rfl], by rw [pj_up_ap, if_neg (by decide)]; exact hP1, ⟨ic, tk, pc, ng, dg, by rw [pj_up_ap, if_neg (by decide)]; exact hr⟩, ⟨r0, r1, r2, by rw [pj_up_ap, if_neg (by decide)]; exact hr3⟩⟩ (fun j hj => by rw [pj_up_ap, if_neg (by omega)]), fun j hj => by rw [pj_up_ap, if_neg (by omega)], ?_⟩
  have z : pj_pc 0 = .inl (0, [.ref 31, .ref 32, .int 0]) := rfl
  rw [z]
  simp (disch := first | assumption | exact pj_long_i | exact pj_long_r | exact pj_long_n | decide) only [x55_0, x55_1, x55_4, x55_7, x55_8, x55_9, x55_12, x55_13, x55_16, simprocAttr, pj_then_s, pj_pv_s, pj_pi_s, pj_set_s, if_true, if_false, not_true_eq_false, not_false_eq_true, pj_up_up, pj_so110_109, pj_so111_109, pj_so112_109, pj_so113_109, pj_so114_109, pj_so115_109, pj_so116_109, pj_so117_109, pj_so111_110, pj_so112_110, pj_so113_110, pj_so114_110, pj_so115_110, pj_so116_110, pj_so117_110, pj_so112_111, pj_so113_111, pj_so114_111, pj_so115_111, pj_so116_111, pj_so117_111, pj_so113_112, pj_so114_112, pj_so115_112, pj_so116_112, pj_so117_112, pj_so114_113, pj_so115_113, pj_so116_113, pj_so117_113, pj_so115_114, pj_so116_114, pj_so117_114, pj_so116_115, pj_so117_115, pj_so117_116, pj_up_ap, pj_upd_ap, pj_a3_0, pj_a3_1, pj_a3_2, pj_a3_u0, pj_a3_u1, pj_a3_u2, pj_f5_3, pj_f0_2, pj_long_i, pj_long_r, pj_long_n, pj_s0_2, hV, pj_vc, hP0, pj_pc]
  exact t55_17
end T33
