/-! THE REFERENCE'S RECORDER AND WHOLE TICK -/
def sp_put (f g : Nat → Int32) (mid lo hi fi cl : Int32) (a : Nat) : Nat → Int32 :=
  upd (upd (upd (upd (upd (upd (upd (upd (upd (upd (upd f a (f 6)) (a + 1) (g 0 + 100000)) (a + 2) (g 1 + 100000)) (a + 3) (g 2 + 100000)) (a + 4) (if cl = 0 then 0 else 1)) (a + 5) (mid + 100000)) (a + 6) lo) (a + 7) hi) (a + 8) (if f 7 ≤ 0 then 0 else 1)) (a + 9) fi) 30 (f 30 + 1)
def sp_sh (f : Nat → Int32) : Nat → Int32 := if f 30 = 12 then upd (va_cpy f f 41 31 110) 30 (f 30 - 1) else f
section M5
variable {N S : Nat} {H : pj_Heap} {o : Option Value × pj_Mem} {hl mid lo hi fi pl sp nu ic td : Int32} {f g : Nat → Int32} {r0 r1 r2 a0 a1 a2 : Int32}
theorem m_put_t {cl : Int32} {x2 x3 : Option Value} {n : Nat} (h2 : pj_long x2 = false) (hn : n < 12) (hm : H 109 = pj_mo hl mid lo hi fi pl sp nu ic td) (hf : H 110 = .inr (0, 152, .inl f)) (hg : H 115 = .inr (0, 3, .inl g)) (hr : f 30 = nI n) :
    pj_Ends 98 (58, [some (.ref 109), some (.int cl), x2, x3], [], (N, S, H)) (none, (N, S, pj_up H 110 (.inr (0, 152, .inl (sp_put f g mid lo hi fi cl (31 + 10 * n)))))) := by
  have e0 : (10 : Int32) * nI n = nI (10 * n) := pk_mul 10 n
  have e1 : (31 : Int32) + nI (10 * n) = nI (31 + 10 * n) := nI_add 31 (10 * n)
  unfold sp_put
  generalize hA : 31 + 10 * n = a at e1 ⊢
  have hlo : 31 ≤ a := by omega
  have hhi : a + 9 < 152 := by omega
  have q0 : (nI a).toNatClampNeg = a := nI_clamp (by omega)
  have p0 : pj_in (nI a) 152 = true := pj_in_nI (by omega) (by decide)
  have s1 : nI a + (1 : Int32) = nI (a + 1) := nI_add a 1
  have q1 : (nI (a + 1)).toNatClampNeg = a + 1 := nI_clamp (by omega)
  have p1 : pj_in (nI (a + 1)) 152 = true := pj_in_nI (by omega) (by decide)
  have s2 : nI a + (2 : Int32) = nI (a + 2) := nI_add a 2
  have q2 : (nI (a + 2)).toNatClampNeg = a + 2 := nI_clamp (by omega)
  have p2 : pj_in (nI (a + 2)) 152 = true := pj_in_nI (by omega) (by decide)
  have s3 : nI a + (3 : Int32) = nI (a + 3) := nI_add a 3
  have q3 : (nI (a + 3)).toNatClampNeg = a + 3 := nI_clamp (by omega)
  have p3 : pj_in (nI (a + 3)) 152 = true := pj_in_nI (by omega) (by decide)
  have s4 : nI a + (4 : Int32) = nI (a + 4) := nI_add a 4
  have q4 : (nI (a + 4)).toNatClampNeg = a + 4 := nI_clamp (by omega)
  have p4 : pj_in (nI (a + 4)) 152 = true := pj_in_nI (by omega) (by decide)
  have s5 : nI a + (5 : Int32) = nI (a + 5) := nI_add a 5
  have q5 : (nI (a + 5)).toNatClampNeg = a + 5 := nI_clamp (by omega)
  have p5 : pj_in (nI (a + 5)) 152 = true := pj_in_nI (by omega) (by decide)
  have s6 : nI a + (6 : Int32) = nI (a + 6) := nI_add a 6
  have q6 : (nI (a + 6)).toNatClampNeg = a + 6 := nI_clamp (by omega)
  have p6 : pj_in (nI (a + 6)) 152 = true := pj_in_nI (by omega) (by decide)
  have s7 : nI a + (7 : Int32) = nI (a + 7) := nI_add a 7
  have q7 : (nI (a + 7)).toNatClampNeg = a + 7 := nI_clamp (by omega)
  have p7 : pj_in (nI (a + 7)) 152 = true := pj_in_nI (by omega) (by decide)
  have s8 : nI a + (8 : Int32) = nI (a + 8) := nI_add a 8
  have q8 : (nI (a + 8)).toNatClampNeg = a + 8 := nI_clamp (by omega)
  have p8 : pj_in (nI (a + 8)) 152 = true := pj_in_nI (by omega) (by decide)
  have s9 : nI a + (9 : Int32) = nI (a + 9) := nI_add a 9
  have q9 : (nI (a + 9)).toNatClampNeg = a + 9 := nI_clamp (by omega)
  have p9 : pj_in (nI (a + 9)) 152 = true := pj_in_nI (by omega) (by decide)
  have s10 : nI (a + 1) + (0 : Int32) = nI (a + 1) := nI_add (a + 1) 0
  have s11 : nI (a + 1) + (1 : Int32) = nI (a + 2) := nI_add (a + 1) 1
  have s12 : nI (a + 1) + (2 : Int32) = nI (a + 3) := nI_add (a + 1) 2
  have n60 : (6 = a + 0) = False := eq_false (by omega)
  have n70 : (7 = a + 0) = False := eq_false (by omega)
  have n30 : (30 = a + 0) = False := eq_false (by omega)
  have n61 : (6 = a + 1) = False := eq_false (by omega)
  have n71 : (7 = a + 1) = False := eq_false (by omega)
  have n31 : (30 = a + 1) = False := eq_false (by omega)
  have n62 : (6 = a + 2) = False := eq_false (by omega)
  have n72 : (7 = a + 2) = False := eq_false (by omega)
  have n32 : (30 = a + 2) = False := eq_false (by omega)
  have n63 : (6 = a + 3) = False := eq_false (by omega)
  have n73 : (7 = a + 3) = False := eq_false (by omega)
  have n33 : (30 = a + 3) = False := eq_false (by omega)
  have n64 : (6 = a + 4) = False := eq_false (by omega)
  have n74 : (7 = a + 4) = False := eq_false (by omega)
  have n34 : (30 = a + 4) = False := eq_false (by omega)
  have n65 : (6 = a + 5) = False := eq_false (by omega)
  have n75 : (7 = a + 5) = False := eq_false (by omega)
  have n35 : (30 = a + 5) = False := eq_false (by omega)
  have n66 : (6 = a + 6) = False := eq_false (by omega)
  have n76 : (7 = a + 6) = False := eq_false (by omega)
  have n36 : (30 = a + 6) = False := eq_false (by omega)
  have n67 : (6 = a + 7) = False := eq_false (by omega)
  have n77 : (7 = a + 7) = False := eq_false (by omega)
  have n37 : (30 = a + 7) = False := eq_false (by omega)
  have n68 : (6 = a + 8) = False := eq_false (by omega)
  have n78 : (7 = a + 8) = False := eq_false (by omega)
  have n38 : (30 = a + 8) = False := eq_false (by omega)
  have n69 : (6 = a + 9) = False := eq_false (by omega)
  have n79 : (7 = a + 9) = False := eq_false (by omega)
  have n39 : (30 = a + 9) = False := eq_false (by omega)
  rw [Nat.add_zero] at n60 n70 n30
  by_cases c1 : cl = 0
  · by_cases c2 : f 7 ≤ 0
    · simp (disch := first | assumption | exact pj_long_i | exact pj_long_r | exact pj_long_n | decide) only [x98_0, x98_1, x98_4, x98_6, x98_7, x98_9, x98_12, x98_13, x98_14, x98_15, x98_17, x98_20, x98_21, x98_24, x98_26, x98_27, x98_28, x98_29, x98_32, x98_34, x98_35, x98_36, x98_38, x98_39, x98_40, x98_41, x98_44, x98_47, x98_48, x98_51, x98_53, x98_54, x98_55, x98_56, x98_57, x98_58, x98_60, x98_62, x98_63, x98_66, x98_68, x98_69, x98_70, x98_71, x98_72, x98_73, x98_76, x98_77, x98_78, x98_81, x98_83, x98_84, x98_85, x98_86, x98_87, x98_88, x98_89, x98_92, x98_93, x98_96, x98_97, x98_98, x98_99, x98_100, x98_101, x98_102, x98_105, x98_106, x98_107, x98_109, x98_110, x98_111, x98_114, x98_117, x98_118, x98_121, x98_122, x98_123, x98_124, x98_125, x98_128, x98_129, x98_132, x98_133, x98_134, x98_135, x98_138, x98_139, x98_140, x98_141, x98_142, x98_145, x98_147, x98_148, x98_149, x98_150, x98_153, x98_154, x98_156, x98_157, x98_158, x98_161, x98_162, x98_163, x98_166, x98_167, x98_169, x98_170, x98_171, x98_174, x98_175, x98_176, x98_179, x98_180, x98_182, x98_183, x98_184, x98_187, x98_189, x98_190, x98_193, x98_194, x98_197, x98_198, x98_199, x98_200, x98_203, x98_204, x98_206, x98_207, x98_208, x98_211, x98_212, x98_213, x98_216, x98_218, x98_219, x98_220, x98_221, x98_222, simprocAttr, pj_then_s, pj_pv_s, pj_pi_s, pj_set_s, if_true, if_false, not_true_eq_false, not_false_eq_true, pj_up_up, pj_up_sort, pj_up_ap, pj_upd_ap, pj_a3_0, pj_a3_1, pj_a3_2, pj_a3_u0, pj_a3_u1, pj_a3_u2, pj_f6_0, pj_arl_i, pj_long_i, pj_long_r, pj_long_n, pj_ars_i, pj_f6_6, pj_f6_8, pj_f6_9, pj_f6_10, pj_f6_11, hm, hf, hg, hr, pj_mo, c1, c2, e0, e1, q0, q1, q2, q3, q4, q5, q6, q7, q8, q9, s1, s2, s3, s4, s5, s6, s7, s8, s9, s10, s11, s12, n60, n61, n62, n63, n64, n65, n66, n67, n68, n69, n70, n71, n72, n73, n74, n75, n76, n77, n78, n79, n30, n31, n32, n33, n34, n35, n36, n37, n38, n39]
      exact t98_223
    · simp (disch := first | assumption | exact pj_long_i | exact pj_long_r | exact pj_long_n | decide) only [x98_0, x98_1, x98_4, x98_6, x98_7, x98_9, x98_12, x98_13, x98_14, x98_15, x98_17, x98_20, x98_21, x98_24, x98_26, x98_27, x98_28, x98_29, x98_32, x98_34, x98_35, x98_36, x98_38, x98_39, x98_40, x98_41, x98_44, x98_47, x98_48, x98_51, x98_53, x98_54, x98_55, x98_56, x98_57, x98_58, x98_60, x98_62, x98_63, x98_66, x98_68, x98_69, x98_70, x98_71, x98_72, x98_73, x98_76, x98_77, x98_78, x98_81, x98_83, x98_84, x98_85, x98_86, x98_87, x98_88, x98_89, x98_92, x98_93, x98_96, x98_97, x98_98, x98_99, x98_100, x98_101, x98_102, x98_105, x98_106, x98_107, x98_109, x98_110, x98_111, x98_114, x98_117, x98_118, x98_121, x98_122, x98_123, x98_124, x98_125, x98_128, x98_129, x98_132, x98_133, x98_134, x98_135, x98_138, x98_139, x98_140, x98_141, x98_142, x98_145, x98_147, x98_148, x98_149, x98_150, x98_153, x98_154, x98_156, x98_157, x98_158, x98_161, x98_162, x98_163, x98_166, x98_167, x98_169, x98_170, x98_171, x98_174, x98_175, x98_176, x98_179, x98_180, x98_182, x98_183, x98_184, x98_187, x98_189, x98_190, x98_193, x98_194, x98_197, x98_198, x98_199, x98_200, x98_203, x98_204, x98_206, x98_207, x98_208, x98_211, x98_212, x98_213, x98_216, x98_218, x98_219, x98_220, x98_221, x98_222, simprocAttr, pj_then_s, pj_pv_s, pj_pi_s, pj_set_s, if_true, if_false, not_true_eq_false, not_false_eq_true, pj_up_up, pj_up_sort, pj_up_ap, pj_upd_ap, pj_a3_0, pj_a3_1, pj_a3_2, pj_a3_u0, pj_a3_u1, pj_a3_u2, pj_f6_0, pj_arl_i, pj_long_i, pj_long_r, pj_long_n, pj_ars_i, pj_f6_6, pj_f6_8, pj_f6_9, pj_f6_10, pj_f6_11, hm, hf, hg, hr, pj_mo, c1, c2, e0, e1, q0, q1, q2, q3, q4, q5, q6, q7, q8, q9, s1, s2, s3, s4, s5, s6, s7, s8, s9, s10, s11, s12, n60, n61, n62, n63, n64, n65, n66, n67, n68, n69, n70, n71, n72, n73, n74, n75, n76, n77, n78, n79, n30, n31, n32, n33, n34, n35, n36, n37, n38, n39]
      exact t98_223
  · by_cases c2 : f 7 ≤ 0
    · simp (disch := first | assumption | exact pj_long_i | exact pj_long_r | exact pj_long_n | decide) only [x98_0, x98_1, x98_4, x98_6, x98_7, x98_9, x98_12, x98_13, x98_14, x98_15, x98_17, x98_20, x98_21, x98_24, x98_26, x98_27, x98_28, x98_29, x98_32, x98_34, x98_35, x98_36, x98_38, x98_39, x98_40, x98_41, x98_44, x98_47, x98_48, x98_51, x98_53, x98_54, x98_55, x98_56, x98_57, x98_58, x98_60, x98_62, x98_63, x98_66, x98_68, x98_69, x98_70, x98_71, x98_72, x98_73, x98_76, x98_77, x98_78, x98_81, x98_83, x98_84, x98_85, x98_86, x98_87, x98_88, x98_89, x98_92, x98_93, x98_96, x98_97, x98_98, x98_99, x98_100, x98_101, x98_102, x98_105, x98_106, x98_107, x98_109, x98_110, x98_111, x98_114, x98_117, x98_118, x98_121, x98_122, x98_123, x98_124, x98_125, x98_128, x98_129, x98_132, x98_133, x98_134, x98_135, x98_138, x98_139, x98_140, x98_141, x98_142, x98_145, x98_147, x98_148, x98_149, x98_150, x98_153, x98_154, x98_156, x98_157, x98_158, x98_161, x98_162, x98_163, x98_166, x98_167, x98_169, x98_170, x98_171, x98_174, x98_175, x98_176, x98_179, x98_180, x98_182, x98_183, x98_184, x98_187, x98_189, x98_190, x98_193, x98_194, x98_197, x98_198, x98_199, x98_200, x98_203, x98_204, x98_206, x98_207, x98_208, x98_211, x98_212, x98_213, x98_216, x98_218, x98_219, x98_220, x98_221, x98_222, simprocAttr, pj_then_s, pj_pv_s, pj_pi_s, pj_set_s, if_true, if_false, not_true_eq_false, not_false_eq_true, pj_up_up, pj_up_sort, pj_up_ap, pj_upd_ap, pj_a3_0, pj_a3_1, pj_a3_2, pj_a3_u0, pj_a3_u1, pj_a3_u2, pj_f6_0, pj_arl_i, pj_long_i, pj_long_r, pj_long_n, pj_ars_i, pj_f6_6, pj_f6_8, pj_f6_9, pj_f6_10, pj_f6_11, hm, hf, hg, hr, pj_mo, c1, c2, e0, e1, q0, q1, q2, q3, q4, q5, q6, q7, q8, q9, s1, s2, s3, s4, s5, s6, s7, s8, s9, s10, s11, s12, n60, n61, n62, n63, n64, n65, n66, n67, n68, n69, n70, n71, n72, n73, n74, n75, n76, n77, n78, n79, n30, n31, n32, n33, n34, n35, n36, n37, n38, n39]
      exact t98_223
    · simp (disch := first | assumption | exact pj_long_i | exact pj_long_r | exact pj_long_n | decide) only [x98_0, x98_1, x98_4, x98_6, x98_7, x98_9, x98_12, x98_13, x98_14, x98_15, x98_17, x98_20, x98_21, x98_24, x98_26, x98_27, x98_28, x98_29, x98_32, x98_34, x98_35, x98_36, x98_38, x98_39, x98_40, x98_41, x98_44, x98_47, x98_48, x98_51, x98_53, x98_54, x98_55, x98_56, x98_57, x98_58, x98_60, x98_62, x98_63, x98_66, x98_68, x98_69, x98_70, x98_71, x98_72, x98_73, x98_76, x98_77, x98_78, x98_81, x98_83, x98_84, x98_85, x98_86, x98_87, x98_88, x98_89, x98_92, x98_93, x98_96, x98_97, x98_98, x98_99, x98_100, x98_101, x98_102, x98_105, x98_106, x98_107, x98_109, x98_110, x98_111, x98_114, x98_117, x98_118, x98_121, x98_122, x98_123, x98_124, x98_125, x98_128, x98_129, x98_132, x98_133, x98_134, x98_135, x98_138, x98_139, x98_140, x98_141, x98_142, x98_145, x98_147, x98_148, x98_149, x98_150, x98_153, x98_154, x98_156, x98_157, x98_158, x98_161, x98_162, x98_163, x98_166, x98_167, x98_169, x98_170, x98_171, x98_174, x98_175, x98_176, x98_179, x98_180, x98_182, x98_183, x98_184, x98_187, x98_189, x98_190, x98_193, x98_194, x98_197, x98_198, x98_199, x98_200, x98_203, x98_204, x98_206, x98_207, x98_208, x98_211, x98_212, x98_213, x98_216, x98_218, x98_219, x98_220, x98_221, x98_222, simprocAttr, pj_then_s, pj_pv_s, pj_pi_s, pj_set_s, if_true, if_false, not_true_eq_false, not_false_eq_true, pj_up_up, pj_up_sort, pj_up_ap, pj_upd_ap, pj_a3_0, pj_a3_1, pj_a3_2, pj_a3_u0, pj_a3_u1, pj_a3_u2, pj_f6_0, pj_arl_i, pj_long_i, pj_long_r, pj_long_n, pj_ars_i, pj_f6_6, pj_f6_8, pj_f6_9, pj_f6_10, pj_f6_11, hm, hf, hg, hr, pj_mo, c1, c2, e0, e1, q0, q1, q2, q3, q4, q5, q6, q7, q8, q9, s1, s2, s3, s4, s5, s6, s7, s8, s9, s10, s11, s12, n60, n61, n62, n63, n64, n65, n66, n67, n68, n69, n70, n71, n72, n73, n74, n75, n76, n77, n78, n79, n30, n31, n32, n33, n34, n35, n36, n37, n38, n39]
      exact t98_223
/-- how many records there are when one is put -/
def sp_at (f : Nat → Int32) : Nat := 31 + 10 * (sp_sh f 30).toNatClampNeg
theorem m_putsRecord {cl : Int32} {n : Nat} (hn : n ≤ 12) (hm : H 109 = pj_mo hl mid lo hi fi pl sp nu ic td) (hf : H 110 = .inr (0, 152, .inl f)) (hg : H 115 = .inr (0, 3, .inl g)) (hr : f 30 = nI n) :
    pj_Ends 98 (0, [some (.ref 109), some (.int cl), none, none], [], (N, S, H)) (none, (N, S, pj_up H 110 (.inr (0, 152, .inl (sp_put (sp_sh f) g mid lo hi fi cl (sp_at f)))))) := by
  by_cases h12 : n = 12
  · subst h12
    have hr' : f 30 = 12 := hr
    have c30 : va_cpy f f 41 31 110 30 = 12 := by rw [← hr']; exact if_neg (by omega)
    have es : sp_sh f = upd (va_cpy f f 41 31 110) 30 11 := by
      unfold sp_sh
      rw [if_pos hr', hr']
      rfl
    have ea : sp_at f = 31 + 10 * 11 := by
      unfold sp_at
      rw [es]
      rfl
    rw [ea, es]
    simp (disch := first | assumption | exact pj_long_i | exact pj_long_r | exact pj_long_n | decide) only [x98_0, x98_1, x98_4, x98_6, x98_7, x98_9, x98_12, x98_13, simprocAttr, pj_then_s, pj_pv_s, pj_pi_s, pj_set_s, if_true, if_false, not_true_eq_false, not_false_eq_true, pj_up_up, pj_up_sort, pj_up_ap, pj_upd_ap, pj_a3_0, pj_a3_1, pj_a3_2, pj_a3_u0, pj_a3_u1, pj_a3_u2, pj_f6_0, pj_arl_i, pj_long_i, pj_long_r, pj_long_n, hm, hf, pj_mo, hr']
    refine m_shift_l 110 0 H rfl hm (by rw [pj_cpy_0]; exact hf) ?_
    simp (disch := first | assumption | exact pj_long_i | exact pj_long_r | exact pj_long_n | decide) only [x98_47, x98_48, x98_51, x98_53, x98_54, x98_55, x98_56, x98_57, simprocAttr, pj_then_s, pj_pv_s, pj_pi_s, pj_set_s, if_true, if_false, not_true_eq_false, not_false_eq_true, pj_up_up, pj_up_sort, pj_up_ap, pj_upd_ap, pj_a3_0, pj_a3_1, pj_a3_2, pj_a3_u0, pj_a3_u1, pj_a3_u2, pj_f6_0, pj_arl_i, pj_ars_i, hm, pj_mo, c30]
    refine (m_put_t (n := 11) (hl := hl) (mid := mid) (lo := lo) (hi := hi) (fi := fi) (pl := pl) (sp := sp) (nu := nu) (ic := ic) (td := td) (g := g) rfl (by decide) (by first | assumption | rfl | (simp only [simprocAttr, pj_up_ap, if_true, if_false, *])) (by first | assumption | rfl | (simp only [simprocAttr, pj_up_ap, if_true, if_false, *])) (by first | assumption | rfl | (simp only [simprocAttr, pj_up_ap, if_true, if_false, *])) rfl).res ?_
    rw [pj_up_up]
  · have hr' : ¬ f 30 = 12 := by
      rw [hr]
      intro q
      exact h12 ((nI_eq (by omega) (by decide)).mp (q : nI n = nI 12))
    have es : sp_sh f = f := by
      unfold sp_sh
      rw [if_neg hr']
    have ea : sp_at f = 31 + 10 * n := by
      unfold sp_at
      rw [es, hr, nI_clamp (by omega)]
    rw [ea, es]
    simp (disch := first | assumption | exact pj_long_i | exact pj_long_r | exact pj_long_n | decide) only [x98_0, x98_1, x98_4, x98_6, x98_7, x98_9, x98_12, x98_13, simprocAttr, pj_then_s, pj_pv_s, pj_pi_s, pj_set_s, if_true, if_false, not_true_eq_false, not_false_eq_true, pj_up_up, pj_up_sort, pj_up_ap, pj_upd_ap, pj_a3_0, pj_a3_1, pj_a3_2, pj_a3_u0, pj_a3_u1, pj_a3_u2, pj_f6_0, pj_arl_i, pj_long_i, pj_long_r, pj_long_n, hm, hf, pj_mo, hr']
    exact m_put_t rfl (by omega) hm hf hg hr
/-- the row behind the first five steps of a tick, the arming, and the stages -/
def sp_acc (f g : Nat → Int32) : Nat → Int32 := pj_a3 (g 0 - f 8) (g 1 - f 9) (g 2 - f 10)
def sp_left (f : Nat → Int32) (c : Int32) : Int32 := if c = 0 then (if f 7 ≤ 0 then 0 else f 7 - 1) else f 2
def sp_S1 (f g : Nat → Int32) : Nat → Int32 := sp_T1 f g
def sp_S2 (f g : Nat → Int32) : Nat → Int32 := sp_T2 (sp_T1 f g) (sp_acc f g) (sp_mid (sp_T1 f g) (sp_acc f g))
end M5
