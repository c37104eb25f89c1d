/-! THE REFERENCE'S WHOLE TICK -/
def tk_A (f g : Nat → Int32) : Nat → Int32 := pj_a3 (g 0 - sp_T1 f g 8) (g 1 - sp_T1 f g 9) (g 2 - sp_T1 f g 10)
def tk_m (f g : Nat → Int32) : Int32 := sp_mid (sp_T1 f g) (tk_A f g)
def tk_2 (f g : Nat → Int32) : Nat → Int32 := sp_T2 (sp_T1 f g) (tk_A f g) (tk_m f g)
def tk_3 (f g : Nat → Int32) (c : Int32) : Nat → Int32 := sp_T3 (tk_2 f g) g (tk_m f g) c
def tk_4 (f g : Nat → Int32) (c : Int32) : Nat → Int32 := sp_T4 (tk_3 f g c) (tk_A f g)
def tk_5 (f g : Nat → Int32) (c : Int32) : Nat → Int32 := upd (tk_4 f g c) 7 (sp_left (tk_4 f g c) c)
def tk_lo (f g : Nat → Int32) (c : Int32) : Int32 := sp_vof (tk_5 f g c) (tk_5 f g c 0)
def tk_hi (f g : Nat → Int32) (c : Int32) : Int32 := sp_vof (tk_5 f g c) (tk_5 f g c 1)
def tk_6 (f g : Nat → Int32) (c : Int32) : Nat → Int32 := sp_f3 (tk_5 f g c) (tk_lo f g c) (tk_hi f g c)
def tk_fi (f g : Nat → Int32) (c : Int32) : Int32 := sp_fires (tk_5 f g c) (tk_lo f g c) (tk_hi f g c)
def tk_7 (f g : Nat → Int32) (c : Int32) : Nat → Int32 := if sp_rec (tk_6 f g c) = 0 then tk_6 f g c else sp_put (sp_sh (tk_6 f g c)) g (tk_m f g) (tk_lo f g c) (tk_hi f g c) (tk_fi f g c) c (sp_at (tk_6 f g c))
def tk_8 (f g : Nat → Int32) (c : Int32) : Nat → Int32 := upd (tk_7 f g c) 29 (if tk_fi f g c = 0 then tk_7 f g c 29 else if tk_7 f g c 29 = -6 then tk_7 f g c 6 else tk_7 f g c 29)
def sp_tick (f g : Nat → Int32) (c : Int32) : Nat → Int32 := upd (tk_8 f g c) 6 (tk_8 f g c 6 + 1)
theorem sp_T1_ne {f g : Nat → Int32} {k : Nat} (h : k < 14 ∨ 22 < k) : sp_T1 f g k = f k := by
  unfold sp_T1 sp_t1
  simp only [pj_upd_ap]
  repeat rw [if_neg (by omega)]
theorem sp_T2_ne {f a : Nat → Int32} {m : Int32} {k : Nat} (h : k < 14 ∨ 16 < k) : sp_T2 f a m k = f k := by
  unfold sp_T2 sp_t2
  simp only [pj_upd_ap]
  repeat rw [if_neg (by omega)]
theorem sp_t3_ne {f g : Nat → Int32} {m c : Int32} {i k : Nat} (h : k ≠ 8 + i) : sp_t3 f g m c i k = f k := by
  unfold sp_t3
  split
  · split
    · split
      · rw [pj_upd_ap, if_neg h]
      · rfl
    · rfl
  · rfl
theorem sp_T3_ne {f g : Nat → Int32} {m c : Int32} {k : Nat} (h : k < 8 ∨ 10 < k) : sp_T3 f g m c k = f k := by
  unfold sp_T3
  rw [sp_t3_ne (by omega), sp_t3_ne (by omega), sp_t3_ne (by omega)]
theorem sp_T4_ne {f a : Nat → Int32} {k : Nat} (h : k < 11 ∨ 13 < k) : sp_T4 f a k = f k := by
  unfold sp_T4 sp_t4
  simp only [pj_upd_ap]
  repeat rw [if_neg (by omega)]
theorem sp_fr_ne {f : Nat → Int32} {y : Int32} {i k : Nat} (h : k ≠ 23 + i) : sp_fr f y i k = f k := by
  unfold sp_fr
  split
  · rfl
  · rw [pj_upd_ap, if_neg h]
theorem sp_f3_ne {f : Nat → Int32} {lo hi : Int32} {k : Nat} (h : k < 23 ∨ 25 < k) : sp_f3 f lo hi k = f k := by
  unfold sp_f3 sp_f2 sp_f1
  rw [sp_fr_ne (by omega), sp_fr_ne (by omega), sp_fr_ne (by omega)]
theorem tk_5_ne {f g : Nat → Int32} {c : Int32} {k : Nat} (h : k < 7 ∨ 22 < k) : tk_5 f g c k = f k := by
  unfold tk_5 tk_4 tk_3 tk_2
  rw [pj_upd_ap, if_neg (by omega), sp_T4_ne (by omega), sp_T3_ne (by omega), sp_T2_ne (by omega), sp_T1_ne (by omega)]
theorem tk_6_ne {f g : Nat → Int32} {c : Int32} {k : Nat} (h : k < 7 ∨ 25 < k) : tk_6 f g c k = f k := by
  unfold tk_6
  rw [sp_f3_ne (by omega), tk_5_ne (by omega)]
section M6
variable {N S : Nat} {H : pj_Heap} {o : Option Value × pj_Mem} {hl mid lo hi fi pl sp nu ic td m y z w : Int32} {f g f1 f2 f3 f4 f5 f6 f7 f8 f9 A : Nat → Int32} {r0 r1 r2 a0 a1 a2 : Int32}
end M6
