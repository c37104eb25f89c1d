/-! THE REFERENCE'S RECORDER AND WHOLE TICK -/
def sp_put (f g : Nat → Int32) (mid lo hi fi cl : Int32) (a : Nat) : Nat → Int32 :=
  upd (upd (upd (upd (upd (upd (upd (upd (upd (upd (upd f a (f 6)) (a + 1) (g 0 + 100000)) (a + 2) (g 1 + 100000)) (a + 3) (g 2 + 100000)) (a + 4) (if cl = 0 then 0 else 1)) (a + 5) (mid + 100000)) (a + 6) lo) (a + 7) hi) (a + 8) (if f 7 ≤ 0 then 0 else 1)) (a + 9) fi) 30 (f 30 + 1)
def sp_sh (f : Nat → Int32) : Nat → Int32 := if f 30 = 12 then upd (va_cpy f f 41 31 110) 30 (f 30 - 1) else f
section M5
variable {N S : Nat} {H : pj_Heap} {o : Option Value × pj_Mem} {hl mid lo hi fi pl sp nu ic td : Int32} {f g : Nat → Int32} {r0 r1 r2 a0 a1 a2 : Int32}
theorem m_put_t {cl : Int32} {x2 x3 : Option Value} {n : Nat} (h2 : pj_long x2 = false) (hn : n < 12) (hm : H 109 = pj_mo hl mid lo hi fi pl sp nu ic td) (hf : H 110 = .inr (0, 152, .inl f)) (hg : H 115 = .inr (0, 3, .inl g)) (hr : f 30 = nI n) :
    pj_Ends 97 (58, [some (.ref 109), some (.int cl), x2, x3], [], (N, S, H)) (none, (N, S, pj_up H 110 (.inr (0, 152, .inl (sp_put f g mid lo hi fi cl (31 + 10 * n)))))) := by
  have e0 : (10 : Int32) * nI n = nI (10 * n) := pk_mul 10 n
  have e1 : (31 : Int32) + nI (10 * n) = nI (31 + 10 * n) := nI_add 31 (10 * n)
  unfold sp_put
  generalize hA : 31 + 10 * n = a at e1 ⊢
  have hlo : 31 ≤ a := by omega
  have hhi : a + 9 < 152 := by omega
  have q0 : (nI a).toNatClampNeg = a := nI_clamp (by omega)
  have p0 : pj_in (nI a) 152 = true := pj_in_nI (by omega) (by decide)
  have s1 : nI a + (1 : Int32) = nI (a + 1) := nI_add a 1
  have q1 : (nI (a + 1)).toNatClampNeg = a + 1 := nI_clamp (by omega)
  have p1 : pj_in (nI (a + 1)) 152 = true := pj_in_nI (by omega) (by decide)
  have s2 : nI a + (2 : Int32) = nI (a + 2) := nI_add a 2
  have q2 : (nI (a + 2)).toNatClampNeg = a + 2 := nI_clamp (by omega)
  have p2 : pj_in (nI (a + 2)) 152 = true := pj_in_nI (by omega) (by decide)
  have s3 : nI a + (3 : Int32) = nI (a + 3) := nI_add a 3
  have q3 : (nI (a + 3)).toNatClampNeg = a + 3 := nI_clamp (by omega)
  have p3 : pj_in (nI (a + 3)) 152 = true := pj_in_nI (by omega) (by decide)
  have s4 : nI a + (4 : Int32) = nI (a + 4) := nI_add a 4
  have q4 : (nI (a + 4)).toNatClampNeg = a + 4 := nI_clamp (by omega)
  have p4 : pj_in (nI (a + 4)) 152 = true := pj_in_nI (by omega) (by decide)
  have s5 : nI a + (5 : Int32) = nI (a + 5) := nI_add a 5
  have q5 : (nI (a + 5)).toNatClampNeg = a + 5 := nI_clamp (by omega)
  have p5 : pj_in (nI (a + 5)) 152 = true := pj_in_nI (by omega) (by decide)
  have s6 : nI a + (6 : Int32) = nI (a + 6) := nI_add a 6
  have q6 : (nI (a + 6)).toNatClampNeg = a + 6 := nI_clamp (by omega)
  have p6 : pj_in (nI (a + 6)) 152 = true := pj_in_nI (by omega) (by decide)
  have s7 : nI a + (7 : Int32) = nI (a + 7) := nI_add a 7
  have q7 : (nI (a + 7)).toNatClampNeg = a + 7 := nI_clamp (by omega)
  have p7 : pj_in (nI (a + 7)) 152 = true := pj_in_nI (by omega) (by decide)
  have s8 : nI a + (8 : Int32) = nI (a + 8) := nI_add a 8
  have q8 : (nI (a + 8)).toNatClampNeg = a + 8 := nI_clamp (by omega)
  have p8 : pj_in (nI (a + 8)) 152 = true := pj_in_nI (by omega) (by decide)
  have s9 : nI a + (9 : Int32) = nI (a + 9) := nI_add a 9
  have q9 : (nI (a + 9)).toNatClampNeg = a + 9 := nI_clamp (by omega)
  have p9 : pj_in (nI (a + 9)) 152 = true := pj_in_nI (by omega) (by decide)
  have s10 : nI (a + 1) + (0 : Int32) = nI (a + 1) := nI_add (a + 1) 0
  have s11 : nI (a + 1) + (1 : Int32) = nI (a + 2) := nI_add (a + 1) 1
  have s12 : nI (a + 1) + (2 : Int32) = nI (a + 3) := nI_add (a + 1) 2
  have n60 : (6 = a + 0) = False := eq_false (by omega)
  have n70 : (7 = a + 0) = False := eq_false (by omega)
  have n30 : (30 = a + 0) = False := eq_false (by omega)
  have n61 : (6 = a + 1) = False := eq_false (by omega)
  have n71 : (7 = a + 1) = False := eq_false (by omega)
  have n31 : (30 = a + 1) = False := eq_false (by omega)
  have n62 : (6 = a + 2) = False := eq_false (by omega)
  have n72 : (7 = a + 2) = False := eq_false (by omega)
  have n32 : (30 = a + 2) = False := eq_false (by omega)
  have n63 : (6 = a + 3) = False := eq_false (by omega)
  have n73 : (7 = a + 3) = False := eq_false (by omega)
  have n33 : (30 = a + 3) = False := eq_false (by omega)
  have n64 : (6 = a + 4) = False := eq_false (by omega)
  have n74 : (7 = a + 4) = False := eq_false (by omega)
  have n34 : (30 = a + 4) = False := eq_false (by omega)
  have n65 : (6 = a + 5) = False := eq_false (by omega)
  have n75 : (7 = a + 5) = False := eq_false (by omega)
  have n35 : (30 = a + 5) = False := eq_false (by omega)
  have n66 : (6 = a + 6) = False := eq_false (by omega)
  have n76 : (7 = a + 6) = False := eq_false (by omega)
  have n36 : (30 = a + 6) = False := eq_false (by omega)
  have n67 : (6 = a + 7) = False := eq_false (by omega)
  have n77 : (7 = a + 7) = False := eq_false (by omega)
  have n37 : (30 = a + 7) = False := eq_false (by omega)
  have n68 : (6 = a + 8) = False := eq_false (by omega)
  have n78 : (7 = a + 8) = False := eq_false (by omega)
  have n38 : (30 = a + 8) = False := eq_false (by omega)
  have n69 : (6 = a + 9) = False := eq_false (by omega)
  have n79 : (7 = a + 9) = False := eq_false (by omega)
  have n39 : (30 = a + 9) = False := eq_false (by omega)
  rw [Nat.add_zero] at n60 n70 n30
  by_cases c1 : cl = 0
  · by_cases c2 : f 7 ≤ 0
    · simp (disch := first | assumption | exact pj_long_i | exact pj_long_r | exact pj_long_n | decide) only [x97_0, x97_1, x97_4, x97_6, x97_7, x97_9, x97_12, x97_13, x97_14, x97_15, x97_17, x97_20, x97_21, x97_24, x97_26, x97_27, x97_28, x97_29, x97_32, x97_34, x97_35, x97_36, x97_38, x97_39, x97_40, x97_41, x97_44, x97_47, x97_48, x97_51, x97_53, x97_54, x97_55, x97_56, x97_57, x97_58, x97_60, x97_62, x97_63, x97_66, x97_68, x97_69, x97_70, x97_71, x97_72, x97_73, x97_76, x97_77, x97_78, x97_81, x97_83, x97_84, x97_85, x97_86, x97_87, x97_88, x97_89, x97_92, x97_93, x97_96, x97_97, x97_98, x97_99, x97_100, x97_101, x97_102, x97_105, x97_106, x97_107, x97_109, x97_110, x97_111, x97_114, x97_117, x97_118, x97_121, x97_122, x97_123, x97_124, x97_125, x97_128, x97_129, x97_132, x97_133, x97_134, x97_135, x97_138, x97_139, x97_140, x97_141, x97_142, x97_145, x97_147, x97_148, x97_149, x97_150, x97_153, x97_154, x97_156, x97_157, x97_158, x97_161, x97_162, x97_163, x97_166, x97_167, x97_169, x97_170, x97_171, x97_174, x97_175, x97_176, x97_179, x97_180, x97_182, x97_183, x97_184, x97_187, x97_189, x97_190, x97_193, x97_194, x97_197, x97_198, x97_199, x97_200, x97_203, x97_204, x97_206, x97_207, x97_208, x97_211, x97_212, x97_213, x97_216, x97_218, x97_219, x97_220, x97_221, x97_222, simprocAttr, pj_then_s, pj_pv_s, pj_pi_s, pj_set_s, if_true, if_false, not_true_eq_false, not_false_eq_true, pj_up_up, pj_up_sort, pj_up_ap, pj_upd_ap, pj_a3_0, pj_a3_1, pj_a3_2, pj_a3_u0, pj_a3_u1, pj_a3_u2, pj_f6_0, pj_arl_i, pj_long_i, pj_long_r, pj_long_n, pj_ars_i, pj_f6_6, pj_f6_8, pj_f6_9, pj_f6_10, pj_f6_11, hm, hf, hg, hr, pj_mo, c1, c2, e0, e1, q0, q1, q2, q3, q4, q5, q6, q7, q8, q9, s1, s2, s3, s4, s5, s6, s7, s8, s9, s10, s11, s12, n60, n61, n62, n63, n64, n65, n66, n67, n68, n69, n70, n71, n72, n73, n74, n75, n76, n77, n78, n79, n30, n31, n32, n33, n34, n35, n36, n37, n38, n39]
      exact t97_223
    · simp (disch := first | assumption | exact pj_long_i | exact pj_long_r | exact pj_long_n | decide) only [x97_0, x97_1, x97_4, x97_6, x97_7, x97_9, x97_12, x97_13, x97_14, x97_15, x97_17, x97_20, x97_21, x97_24, x97_26, x97_27, x97_28, x97_29, x97_32, x97_34, x97_35, x97_36, x97_38, x97_39, x97_40, x97_41, x97_44, x97_47, x97_48, x97_51, x97_53, x97_54, x97_55, x97_56, x97_57, x97_58, x97_60, x97_62, x97_63, x97_66, x97_68, x97_69, x97_70, x97_71, x97_72, x97_73, x97_76, x97_77, x97_78, x97_81, x97_83, x97_84, x97_85, x97_86, x97_87, x97_88, x97_89, x97_92, x97_93, x97_96, x97_97, x97_98, x97_99, x97_100, x97_101, x97_102, x97_105, x97_106, x97_107, x97_109, x97_110, x97_111, x97_114, x97_117, x97_118, x97_121, x97_122, x97_123, x97_124, x97_125, x97_128, x97_129, x97_132, x97_133, x97_134, x97_135, x97_138, x97_139, x97_140, x97_141, x97_142, x97_145, x97_147, x97_148, x97_149, x97_150, x97_153, x97_154, x97_156, x97_157, x97_158, x97_161, x97_162, x97_163, x97_166, x97_167, x97_169, x97_170, x97_171, x97_174, x97_175, x97_176, x97_179, x97_180, x97_182, x97_183, x97_184, x97_187, x97_189, x97_190, x97_193, x97_194, x97_197, x97_198, x97_199, x97_200, x97_203, x97_204, x97_206, x97_207, x97_208, x97_211, x97_212, x97_213, x97_216, x97_218, x97_219, x97_220, x97_221, x97_222, simprocAttr, pj_then_s, pj_pv_s, pj_pi_s, pj_set_s, if_true, if_false, not_true_eq_false, not_false_eq_true, pj_up_up, pj_up_sort, pj_up_ap, pj_upd_ap, pj_a3_0, pj_a3_1, pj_a3_2, pj_a3_u0, pj_a3_u1, pj_a3_u2, pj_f6_0, pj_arl_i, pj_long_i, pj_long_r, pj_long_n, pj_ars_i, pj_f6_6, pj_f6_8, pj_f6_9, pj_f6_10, pj_f6_11, hm, hf, hg, hr, pj_mo, c1, c2, e0, e1, q0, q1, q2, q3, q4, q5, q6, q7, q8, q9, s1, s2, s3, s4, s5, s6, s7, s8, s9, s10, s11, s12, n60, n61, n62, n63, n64, n65, n66, n67, n68, n69, n70, n71, n72, n73, n74, n75, n76, n77, n78, n79, n30, n31, n32, n33, n34, n35, n36, n37, n38, n39]
      exact t97_223
  · by_cases c2 : f 7 ≤ 0
    · simp (disch := first | assumption | exact pj_long_i | exact pj_long_r | exact pj_long_n | decide) only [x97_0, x97_1, x97_4, x97_6, x97_7, x97_9, x97_12, x97_13, x97_14, x97_15, x97_17, x97_20, x97_21, x97_24, x97_26, x97_27, x97_28, x97_29, x97_32, x97_34, x97_35, x97_36, x97_38, x97_39, x97_40, x97_41, x97_44, x97_47, x97_48, x97_51, x97_53, x97_54, x97_55, x97_56, x97_57, x97_58, x97_60, x97_62, x97_63, x97_66, x97_68, x97_69, x97_70, x97_71, x97_72, x97_73, x97_76, x97_77, x97_78, x97_81, x97_83, x97_84, x97_85, x97_86, x97_87, x97_88, x97_89, x97_92, x97_93, x97_96, x97_97, x97_98, x97_99, x97_100, x97_101, x97_102, x97_105, x97_106, x97_107, x97_109, x97_110, x97_111, x97_114, x97_117, x97_118, x97_121, x97_122, x97_123, x97_124, x97_125, x97_128, x97_129, x97_132, x97_133, x97_134, x97_135, x97_138, x97_139, x97_140, x97_141, x97_142, x97_145, x97_147, x97_148, x97_149, x97_150, x97_153, x97_154, x97_156, x97_157, x97_158, x97_161, x97_162, x97_163, x97_166, x97_167, x97_169, x97_170, x97_171, x97_174, x97_175, x97_176, x97_179, x97_180, x97_182, x97_183, x97_184, x97_187, x97_189, x97_190, x97_193, x97_194, x97_197, x97_198, x97_199, x97_200, x97_203, x97_204, x97_206, x97_207, x97_208, x97_211, x97_212, x97_213, x97_216, x97_218, x97_219, x97_220, x97_221, x97_222, simprocAttr, pj_then_s, pj_pv_s, pj_pi_s, pj_set_s, if_true, if_false, not_true_eq_false, not_false_eq_true, pj_up_up, pj_up_sort, pj_up_ap, pj_upd_ap, pj_a3_0, pj_a3_1, pj_a3_2, pj_a3_u0, pj_a3_u1, pj_a3_u2, pj_f6_0, pj_arl_i, pj_long_i, pj_long_r, pj_long_n, pj_ars_i, pj_f6_6, pj_f6_8, pj_f6_9, pj_f6_10, pj_f6_11, hm, hf, hg, hr, pj_mo, c1, c2, e0, e1, q0, q1, q2, q3, q4, q5, q6, q7, q8, q9, s1, s2, s3, s4, s5, s6, s7, s8, s9, s10, s11, s12, n60, n61, n62, n63, n64, n65, n66, n67, n68, n69, n70, n71, n72, n73, n74, n75, n76, n77, n78, n79, n30, n31, n32, n33, n34, n35, n36, n37, n38, n39]
      exact t97_223
    · simp (disch := first | assumption | exact pj_long_i | exact pj_long_r | exact pj_long_n | decide) only [x97_0, x97_1, x97_4, x97_6, x97_7, x97_9, x97_12, x97_13, x97_14, x97_15, x97_17, x97_20, x97_21, x97_24, x97_26, x97_27, x97_28, x97_29, x97_32, x97_34, x97_35, x97_36, x97_38, x97_39, x97_40, x97_41, x97_44, x97_47, x97_48, x97_51, x97_53, x97_54, x97_55, x97_56, x97_57, x97_58, x97_60, x97_62, x97_63, x97_66, x97_68, x97_69, x97_70, x97_71, x97_72, x97_73, x97_76, x97_77, x97_78, x97_81, x97_83, x97_84, x97_85, x97_86, x97_87, x97_88, x97_89, x97_92, x97_93, x97_96, x97_97, x97_98, x97_99, x97_100, x97_101, x97_102, x97_105, x97_106, x97_107, x97_109, x97_110, x97_111, x97_114, x97_117, x97_118, x97_121, x97_122, x97_123, x97_124, x97_125, x97_128, x97_129, x97_132, x97_133, x97_134, x97_135, x97_138, x97_139, x97_140, x97_141, x97_142, x97_145, x97_147, x97_148, x97_149, x97_150, x97_153, x97_154, x97_156, x97_157, x97_158, x97_161, x97_162, x97_163, x97_166, x97_167, x97_169, x97_170, x97_171, x97_174, x97_175, x97_176, x97_179, x97_180, x97_182, x97_183, x97_184, x97_187, x97_189, x97_190, x97_193, x97_194, x97_197, x97_198, x97_199, x97_200, x97_203, x97_204, x97_206, x97_207, x97_208, x97_211, x97_212, x97_213, x97_216, x97_218, x97_219, x97_220, x97_221, x97_222, simprocAttr, pj_then_s, pj_pv_s, pj_pi_s, pj_set_s, if_true, if_false, not_true_eq_false, not_false_eq_true, pj_up_up, pj_up_sort, pj_up_ap, pj_upd_ap, pj_a3_0, pj_a3_1, pj_a3_2, pj_a3_u0, pj_a3_u1, pj_a3_u2, pj_f6_0, pj_arl_i, pj_long_i, pj_long_r, pj_long_n, pj_ars_i, pj_f6_6, pj_f6_8, pj_f6_9, pj_f6_10, pj_f6_11, hm, hf, hg, hr, pj_mo, c1, c2, e0, e1, q0, q1, q2, q3, q4, q5, q6, q7, q8, q9, s1, s2, s3, s4, s5, s6, s7, s8, s9, s10, s11, s12, n60, n61, n62, n63, n64, n65, n66, n67, n68, n69, n70, n71, n72, n73, n74, n75, n76, n77, n78, n79, n30, n31, n32, n33, n34, n35, n36, n37, n38, n39]
      exact t97_223
/-- how many records there are when one is put -/
def sp_at (f : Nat → Int32) : Nat := 31 + 10 * (sp_sh f 30).toNatClampNeg
theorem m_putsRecord {cl : Int32} {n : Nat} (hn : n ≤ 12) (hm : H 109 = pj_mo hl mid lo hi fi pl sp nu ic td) (hf : H 110 = .inr (0, 152, .inl f)) (hg : H 115 = .inr (0, 3, .inl g)) (hr : f 30 = nI n) :
    pj_Ends 97 (0, [some (.ref 109), some (.int cl), none, none], [], (N, S, H)) (none, (N, S, pj_up H 110 (.inr (0, 152, .inl (sp_put (sp_sh f) g mid lo hi fi cl (sp_at f)))))) := by
  by_cases h12 : n = 12
  · subst h12
    have hr' : f 30 = 12 := hr
    have c30 : va_cpy f f 41 31 110 30 = 12 := by rw [← hr']; exact if_neg (by omega)
    have es : sp_sh f = upd (va_cpy f f 41 31 110) 30 11 := by
      unfold sp_sh
      rw [if_pos hr', hr']
      rfl
    have ea : sp_at f = 31 + 10 * 11 := by
      unfold sp_at
      rw [es]
      rfl
    rw [ea, es]
    simp (disch := first | assumption | exact pj_long_i | exact pj_long_r | exact pj_long_n | decide) only [x97_0, x97_1, x97_4, x97_6, x97_7, x97_9, x97_12, x97_13, simprocAttr, pj_then_s, pj_pv_s, pj_pi_s, pj_set_s, if_true, if_false, not_true_eq_false, not_false_eq_true, pj_up_up, pj_up_sort, pj_up_ap, pj_upd_ap, pj_a3_0, pj_a3_1, pj_a3_2, pj_a3_u0, pj_a3_u1, pj_a3_u2, pj_f6_0, pj_arl_i, pj_long_i, pj_long_r, pj_long_n, hm, hf, pj_mo, hr']
    refine m_shift_l 110 0 H rfl hm (by rw [pj_cpy_0]; exact hf) ?_
    simp (disch := first | assumption | exact pj_long_i | exact pj_long_r | exact pj_long_n | decide) only [x97_47, x97_48, x97_51, x97_53, x97_54, x97_55, x97_56, x97_57, simprocAttr, pj_then_s, pj_pv_s, pj_pi_s, pj_set_s, if_true, if_false, not_true_eq_false, not_false_eq_true, pj_up_up, pj_up_sort, pj_up_ap, pj_upd_ap, pj_a3_0, pj_a3_1, pj_a3_2, pj_a3_u0, pj_a3_u1, pj_a3_u2, pj_f6_0, pj_arl_i, pj_ars_i, hm, pj_mo, c30]
    refine (m_put_t (n := 11) (hl := hl) (mid := mid) (lo := lo) (hi := hi) (fi := fi) (pl := pl) (sp := sp) (nu := nu) (ic := ic) (td := td) (g := g) rfl (by decide) (by first | assumption | rfl | (simp only [simprocAttr, pj_up_ap, if_true, if_false, *])) (by first | assumption | rfl | (simp only [simprocAttr, pj_up_ap, if_true, if_false, *])) (by first | assumption | rfl | (simp only [simprocAttr, pj_up_ap, if_true, if_false, *])) rfl).res ?_
    rw [pj_up_up]
  · have hr' : ¬ f 30 = 12 := by
      rw [hr]
      intro q
      exact h12 ((nI_eq (by omega) (by decide)).mp (q : nI n = nI 12))
    have es : sp_sh f = f := by
      unfold sp_sh
      rw [if_neg hr']
    have ea : sp_at f = 31 + 10 * n := by
      unfold sp_at
      rw [es, hr, nI_clamp (by omega)]
    rw [ea, es]
    simp (disch := first | assumption | exact pj_long_i | exact pj_long_r | exact pj_long_n | decide) only [x97_0, x97_1, x97_4, x97_6, x97_7, x97_9, x97_12, x97_13, simprocAttr, pj_then_s, pj_pv_s, pj_pi_s, pj_set_s, if_true, if_false, not_true_eq_false, not_false_eq_true, pj_up_up, pj_up_sort, pj_up_ap, pj_upd_ap, pj_a3_0, pj_a3_1, pj_a3_2, pj_a3_u0, pj_a3_u1, pj_a3_u2, pj_f6_0, pj_arl_i, pj_long_i, pj_long_r, pj_long_n, hm, hf, pj_mo, hr']
    exact m_put_t rfl (by omega) hm hf hg hr
/-- the row behind the first five steps of a tick, the arming, and the stages -/
def sp_acc (f g : Nat → Int32) : Nat → Int32 := pj_a3 (g 0 - f 8) (g 1 - f 9) (g 2 - f 10)
def sp_left (f : Nat → Int32) (c : Int32) : Int32 := if c = 0 then (if f 7 ≤ 0 then 0 else f 7 - 1) else f 2
def sp_S1 (f g : Nat → Int32) : Nat → Int32 := sp_T1 f g
def sp_S2 (f g : Nat → Int32) : Nat → Int32 := sp_T2 (sp_T1 f g) (sp_acc f g) (sp_mid (sp_T1 f g) (sp_acc f g))
end M5
