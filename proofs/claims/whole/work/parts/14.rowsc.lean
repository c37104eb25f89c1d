/-! THE STEPS OF EACH METHOD, by program (wip/whole/gen/gen12.py) -/
theorem rt75 : pj_rt 75 = some .boolean := rfl
theorem q75_0 : pj_row 75 0 = some (.iload_n 0, 1, 0, 0, 0) := by decide +kernel
theorem s75_0 {st : List Value} {M : pj_Mem} {l : pj_Loc} {x : Int32} : pj_step 75 (0, some (.int x) :: l, st, M) = some (1, some (.int x) :: l, .int x :: st, M) := st_iload_n q75_0 rfl
theorem x75_0 {st : List Value} {M : pj_Mem} {l : pj_Loc} {x : Int32} {o9 : Option Value × pj_Mem} : pj_Ends 75 (0, some (.int x) :: l, st, M) o9 = pj_Ends 75 (1, some (.int x) :: l, .int x :: st, M) o9 := pj_xs (s75_0)
theorem q75_1 : pj_row 75 1 = some (.tableswitch 77 0 4 #[35, 35, 45, 55, 67], 35, 0, 0, 0) := by decide +kernel
theorem s75_1 {L : pj_Loc} {st : List Value} {M : pj_Mem} {x : Int32} : pj_step 75 (1, L, .int x :: st, M) = some (if x = 0 then 36 else if x = 1 then 36 else if x = 2 then 46 else if x = 3 then 56 else if x = 4 then 68 else 78, L, st, M) := by
  rw [st_tsw q75_1]
  unfold pj_tsw
  by_cases hr : x.toInt < 0 ∨ 4 < x.toInt
  · simp only
    rw [if_pos hr]
    rw [if_neg (show ¬ x = 0 from fun e => by rw [e] at hr; revert hr; decide)]
    rw [if_neg (show ¬ x = 1 from fun e => by rw [e] at hr; revert hr; decide)]
    rw [if_neg (show ¬ x = 2 from fun e => by rw [e] at hr; revert hr; decide)]
    rw [if_neg (show ¬ x = 3 from fun e => by rw [e] at hr; revert hr; decide)]
    rw [if_neg (show ¬ x = 4 from fun e => by rw [e] at hr; revert hr; decide)]
    rfl
  · have h3 : x.toInt = 0 ∨ x.toInt = 1 ∨ x.toInt = 2 ∨ x.toInt = 3 ∨ x.toInt = 4 := by omega
    rcases h3 with h3 | h3 | h3 | h3 | h3
    · have e : x = 0 := Int32.toInt_inj.mp (h3.trans (by decide))
      subst e
      rfl
    · have e : x = 1 := Int32.toInt_inj.mp (h3.trans (by decide))
      subst e
      rfl
    · have e : x = 2 := Int32.toInt_inj.mp (h3.trans (by decide))
      subst e
      rfl
    · have e : x = 3 := Int32.toInt_inj.mp (h3.trans (by decide))
      subst e
      rfl
    · have e : x = 4 := Int32.toInt_inj.mp (h3.trans (by decide))
      subst e
      rfl
theorem x75_1 {L : pj_Loc} {st : List Value} {M : pj_Mem} {x : Int32} {o9 : Option Value × pj_Mem} : pj_Ends 75 (1, L, .int x :: st, M) o9 = pj_Ends 75 (if x = 0 then 36 else if x = 1 then 36 else if x = 2 then 46 else if x = 3 then 56 else if x = 4 then 68 else 78, L, st, M) o9 := pj_xs (s75_1)
theorem q75_36 : pj_row 75 36 = some (.iload_n 1, 1, 0, 0, 0) := by decide +kernel
theorem s75_36 {st : List Value} {M : pj_Mem} {l : pj_Loc} {a0 : Option Value} {x : Int32} : pj_step 75 (36, a0 :: some (.int x) :: l, st, M) = some (37, a0 :: some (.int x) :: l, .int x :: st, M) := st_iload_n q75_36 rfl
theorem x75_36 {st : List Value} {M : pj_Mem} {l : pj_Loc} {a0 : Option Value} {x : Int32} {o9 : Option Value × pj_Mem} : pj_Ends 75 (36, a0 :: some (.int x) :: l, st, M) o9 = pj_Ends 75 (37, a0 :: some (.int x) :: l, .int x :: st, M) o9 := pj_xs (s75_36)
theorem q75_37 : pj_row 75 37 = some (.i2l, 1, 0, 0, 0) := by decide +kernel
theorem s75_37 {L : pj_Loc} {st : List Value} {M : pj_Mem} {x : Int32} : pj_step 75 (37, L, .int x :: st, M) = some (38, L, .long x.toInt64 :: st, M) := st_i2l q75_37
theorem x75_37 {L : pj_Loc} {st : List Value} {M : pj_Mem} {x : Int32} {o9 : Option Value × pj_Mem} : pj_Ends 75 (37, L, .int x :: st, M) o9 = pj_Ends 75 (38, L, .long x.toInt64 :: st, M) o9 := pj_xs (s75_37)
theorem q75_38 : pj_row 75 38 = some (.lconst 1, 1, 0, 0, 0) := by decide +kernel
theorem s75_38 {L : pj_Loc} {st : List Value} {M : pj_Mem}  : pj_step 75 (38, L, st, M) = some (39, L, .long 1 :: st, M) := st_lconst q75_38 (by decide +kernel)
theorem x75_38 {L : pj_Loc} {st : List Value} {M : pj_Mem}  {o9 : Option Value × pj_Mem} : pj_Ends 75 (38, L, st, M) o9 = pj_Ends 75 (39, L, .long 1 :: st, M) o9 := pj_xs (s75_38)
theorem q75_39 : pj_row 75 39 = some (.ldc2_w 111, 3, 0, 0, 2000) := by decide +kernel
theorem s75_39 {L : pj_Loc} {st : List Value} {M : pj_Mem}  : pj_step 75 (39, L, st, M) = some (42, L, .long 2000 :: st, M) := st_ldc2_w q75_39 (by decide +kernel)
theorem x75_39 {L : pj_Loc} {st : List Value} {M : pj_Mem}  {o9 : Option Value × pj_Mem} : pj_Ends 75 (39, L, st, M) o9 = pj_Ends 75 (42, L, .long 2000 :: st, M) o9 := pj_xs (s75_39)
theorem q75_42 : pj_row 75 42 = some (.invokestatic 42, 3, 76, 3, 0) := by decide +kernel
theorem e75_42 {L : pj_Loc} {st : List Value} {N S : Nat} {H : pj_Heap} {o : Option Value × pj_Mem} {M' : pj_Mem} {x0 : Int64} {x1 : Int64} {x2 : Int64} {r : Int32} (h4 : pj_le4 st = true) (h1 : pj_Ends 76 (0, [some (.long x0), none, some (.long x1), none, some (.long x2), none], [], (N, S, H)) (some (.int r), M')) (h2 : pj_Ends 75 (45, L, .int r :: st, M') o) : pj_Ends 75 (42, L, .long x2 :: .long x1 :: .long x0 :: st, (N, S, H)) o := ec_s3 q75_42 (Or.inl rfl) h4 rfl h1 h2
theorem q75_45 : pj_row 75 45 = some (.ireturn, 1, 0, 0, 0) := by decide +kernel
theorem t75_45 {L : pj_Loc} {M : pj_Mem} {v : Int32} (hv : v = 0 ∨ v = 1) : pj_Ends 75 (45, L, [.int v], M) (some (.int v), M) := pj_Ends.ret q75_45 (pj_rtn_z rt75 hv)
theorem q75_46 : pj_row 75 46 = some (.iload_n 1, 1, 0, 0, 0) := by decide +kernel
theorem s75_46 {st : List Value} {M : pj_Mem} {l : pj_Loc} {a0 : Option Value} {x : Int32} : pj_step 75 (46, a0 :: some (.int x) :: l, st, M) = some (47, a0 :: some (.int x) :: l, .int x :: st, M) := st_iload_n q75_46 rfl
theorem x75_46 {st : List Value} {M : pj_Mem} {l : pj_Loc} {a0 : Option Value} {x : Int32} {o9 : Option Value × pj_Mem} : pj_Ends 75 (46, a0 :: some (.int x) :: l, st, M) o9 = pj_Ends 75 (47, a0 :: some (.int x) :: l, .int x :: st, M) o9 := pj_xs (s75_46)
theorem q75_47 : pj_row 75 47 = some (.i2l, 1, 0, 0, 0) := by decide +kernel
theorem s75_47 {L : pj_Loc} {st : List Value} {M : pj_Mem} {x : Int32} : pj_step 75 (47, L, .int x :: st, M) = some (48, L, .long x.toInt64 :: st, M) := st_i2l q75_47
theorem x75_47 {L : pj_Loc} {st : List Value} {M : pj_Mem} {x : Int32} {o9 : Option Value × pj_Mem} : pj_Ends 75 (47, L, .int x :: st, M) o9 = pj_Ends 75 (48, L, .long x.toInt64 :: st, M) o9 := pj_xs (s75_47)
theorem q75_48 : pj_row 75 48 = some (.lconst 1, 1, 0, 0, 0) := by decide +kernel
theorem s75_48 {L : pj_Loc} {st : List Value} {M : pj_Mem}  : pj_step 75 (48, L, st, M) = some (49, L, .long 1 :: st, M) := st_lconst q75_48 (by decide +kernel)
theorem x75_48 {L : pj_Loc} {st : List Value} {M : pj_Mem}  {o9 : Option Value × pj_Mem} : pj_Ends 75 (48, L, st, M) o9 = pj_Ends 75 (49, L, .long 1 :: st, M) o9 := pj_xs (s75_48)
theorem q75_49 : pj_row 75 49 = some (.ldc2_w 113, 3, 0, 0, 50) := by decide +kernel
theorem s75_49 {L : pj_Loc} {st : List Value} {M : pj_Mem}  : pj_step 75 (49, L, st, M) = some (52, L, .long 50 :: st, M) := st_ldc2_w q75_49 (by decide +kernel)
theorem x75_49 {L : pj_Loc} {st : List Value} {M : pj_Mem}  {o9 : Option Value × pj_Mem} : pj_Ends 75 (49, L, st, M) o9 = pj_Ends 75 (52, L, .long 50 :: st, M) o9 := pj_xs (s75_49)
theorem q75_52 : pj_row 75 52 = some (.invokestatic 42, 3, 76, 3, 0) := by decide +kernel
theorem e75_52 {L : pj_Loc} {st : List Value} {N S : Nat} {H : pj_Heap} {o : Option Value × pj_Mem} {M' : pj_Mem} {x0 : Int64} {x1 : Int64} {x2 : Int64} {r : Int32} (h4 : pj_le4 st = true) (h1 : pj_Ends 76 (0, [some (.long x0), none, some (.long x1), none, some (.long x2), none], [], (N, S, H)) (some (.int r), M')) (h2 : pj_Ends 75 (55, L, .int r :: st, M') o) : pj_Ends 75 (52, L, .long x2 :: .long x1 :: .long x0 :: st, (N, S, H)) o := ec_s3 q75_52 (Or.inl rfl) h4 rfl h1 h2
theorem q75_55 : pj_row 75 55 = some (.ireturn, 1, 0, 0, 0) := by decide +kernel
theorem t75_55 {L : pj_Loc} {M : pj_Mem} {v : Int32} (hv : v = 0 ∨ v = 1) : pj_Ends 75 (55, L, [.int v], M) (some (.int v), M) := pj_Ends.ret q75_55 (pj_rtn_z rt75 hv)
theorem q75_56 : pj_row 75 56 = some (.iload_n 1, 1, 0, 0, 0) := by decide +kernel
theorem s75_56 {st : List Value} {M : pj_Mem} {l : pj_Loc} {a0 : Option Value} {x : Int32} : pj_step 75 (56, a0 :: some (.int x) :: l, st, M) = some (57, a0 :: some (.int x) :: l, .int x :: st, M) := st_iload_n q75_56 rfl
theorem x75_56 {st : List Value} {M : pj_Mem} {l : pj_Loc} {a0 : Option Value} {x : Int32} {o9 : Option Value × pj_Mem} : pj_Ends 75 (56, a0 :: some (.int x) :: l, st, M) o9 = pj_Ends 75 (57, a0 :: some (.int x) :: l, .int x :: st, M) o9 := pj_xs (s75_56)
theorem q75_57 : pj_row 75 57 = some (.i2l, 1, 0, 0, 0) := by decide +kernel
theorem s75_57 {L : pj_Loc} {st : List Value} {M : pj_Mem} {x : Int32} : pj_step 75 (57, L, .int x :: st, M) = some (58, L, .long x.toInt64 :: st, M) := st_i2l q75_57
theorem x75_57 {L : pj_Loc} {st : List Value} {M : pj_Mem} {x : Int32} {o9 : Option Value × pj_Mem} : pj_Ends 75 (57, L, .int x :: st, M) o9 = pj_Ends 75 (58, L, .long x.toInt64 :: st, M) o9 := pj_xs (s75_57)
theorem q75_58 : pj_row 75 58 = some (.ldc2_w 46, 3, 0, 0, 2) := by decide +kernel
theorem s75_58 {L : pj_Loc} {st : List Value} {M : pj_Mem}  : pj_step 75 (58, L, st, M) = some (61, L, .long 2 :: st, M) := st_ldc2_w q75_58 (by decide +kernel)
theorem x75_58 {L : pj_Loc} {st : List Value} {M : pj_Mem}  {o9 : Option Value × pj_Mem} : pj_Ends 75 (58, L, st, M) o9 = pj_Ends 75 (61, L, .long 2 :: st, M) o9 := pj_xs (s75_58)
theorem q75_61 : pj_row 75 61 = some (.ldc2_w 113, 3, 0, 0, 50) := by decide +kernel
theorem s75_61 {L : pj_Loc} {st : List Value} {M : pj_Mem}  : pj_step 75 (61, L, st, M) = some (64, L, .long 50 :: st, M) := st_ldc2_w q75_61 (by decide +kernel)
theorem x75_61 {L : pj_Loc} {st : List Value} {M : pj_Mem}  {o9 : Option Value × pj_Mem} : pj_Ends 75 (61, L, st, M) o9 = pj_Ends 75 (64, L, .long 50 :: st, M) o9 := pj_xs (s75_61)
theorem q75_64 : pj_row 75 64 = some (.invokestatic 42, 3, 76, 3, 0) := by decide +kernel
theorem e75_64 {L : pj_Loc} {st : List Value} {N S : Nat} {H : pj_Heap} {o : Option Value × pj_Mem} {M' : pj_Mem} {x0 : Int64} {x1 : Int64} {x2 : Int64} {r : Int32} (h4 : pj_le4 st = true) (h1 : pj_Ends 76 (0, [some (.long x0), none, some (.long x1), none, some (.long x2), none], [], (N, S, H)) (some (.int r), M')) (h2 : pj_Ends 75 (67, L, .int r :: st, M') o) : pj_Ends 75 (64, L, .long x2 :: .long x1 :: .long x0 :: st, (N, S, H)) o := ec_s3 q75_64 (Or.inl rfl) h4 rfl h1 h2
theorem q75_67 : pj_row 75 67 = some (.ireturn, 1, 0, 0, 0) := by decide +kernel
theorem t75_67 {L : pj_Loc} {M : pj_Mem} {v : Int32} (hv : v = 0 ∨ v = 1) : pj_Ends 75 (67, L, [.int v], M) (some (.int v), M) := pj_Ends.ret q75_67 (pj_rtn_z rt75 hv)
theorem q75_68 : pj_row 75 68 = some (.iload_n 1, 1, 0, 0, 0) := by decide +kernel
theorem s75_68 {st : List Value} {M : pj_Mem} {l : pj_Loc} {a0 : Option Value} {x : Int32} : pj_step 75 (68, a0 :: some (.int x) :: l, st, M) = some (69, a0 :: some (.int x) :: l, .int x :: st, M) := st_iload_n q75_68 rfl
theorem x75_68 {st : List Value} {M : pj_Mem} {l : pj_Loc} {a0 : Option Value} {x : Int32} {o9 : Option Value × pj_Mem} : pj_Ends 75 (68, a0 :: some (.int x) :: l, st, M) o9 = pj_Ends 75 (69, a0 :: some (.int x) :: l, .int x :: st, M) o9 := pj_xs (s75_68)
theorem q75_69 : pj_row 75 69 = some (.i2l, 1, 0, 0, 0) := by decide +kernel
theorem s75_69 {L : pj_Loc} {st : List Value} {M : pj_Mem} {x : Int32} : pj_step 75 (69, L, .int x :: st, M) = some (70, L, .long x.toInt64 :: st, M) := st_i2l q75_69
theorem x75_69 {L : pj_Loc} {st : List Value} {M : pj_Mem} {x : Int32} {o9 : Option Value × pj_Mem} : pj_Ends 75 (69, L, .int x :: st, M) o9 = pj_Ends 75 (70, L, .long x.toInt64 :: st, M) o9 := pj_xs (s75_69)
theorem q75_70 : pj_row 75 70 = some (.lconst 1, 1, 0, 0, 0) := by decide +kernel
theorem s75_70 {L : pj_Loc} {st : List Value} {M : pj_Mem}  : pj_step 75 (70, L, st, M) = some (71, L, .long 1 :: st, M) := st_lconst q75_70 (by decide +kernel)
theorem x75_70 {L : pj_Loc} {st : List Value} {M : pj_Mem}  {o9 : Option Value × pj_Mem} : pj_Ends 75 (70, L, st, M) o9 = pj_Ends 75 (71, L, .long 1 :: st, M) o9 := pj_xs (s75_70)
theorem q75_71 : pj_row 75 71 = some (.ldc2_w 40, 3, 0, 0, 500) := by decide +kernel
theorem s75_71 {L : pj_Loc} {st : List Value} {M : pj_Mem}  : pj_step 75 (71, L, st, M) = some (74, L, .long 500 :: st, M) := st_ldc2_w q75_71 (by decide +kernel)
theorem x75_71 {L : pj_Loc} {st : List Value} {M : pj_Mem}  {o9 : Option Value × pj_Mem} : pj_Ends 75 (71, L, st, M) o9 = pj_Ends 75 (74, L, .long 500 :: st, M) o9 := pj_xs (s75_71)
theorem q75_74 : pj_row 75 74 = some (.invokestatic 42, 3, 76, 3, 0) := by decide +kernel
theorem e75_74 {L : pj_Loc} {st : List Value} {N S : Nat} {H : pj_Heap} {o : Option Value × pj_Mem} {M' : pj_Mem} {x0 : Int64} {x1 : Int64} {x2 : Int64} {r : Int32} (h4 : pj_le4 st = true) (h1 : pj_Ends 76 (0, [some (.long x0), none, some (.long x1), none, some (.long x2), none], [], (N, S, H)) (some (.int r), M')) (h2 : pj_Ends 75 (77, L, .int r :: st, M') o) : pj_Ends 75 (74, L, .long x2 :: .long x1 :: .long x0 :: st, (N, S, H)) o := ec_s3 q75_74 (Or.inl rfl) h4 rfl h1 h2
theorem q75_77 : pj_row 75 77 = some (.ireturn, 1, 0, 0, 0) := by decide +kernel
theorem t75_77 {L : pj_Loc} {M : pj_Mem} {v : Int32} (hv : v = 0 ∨ v = 1) : pj_Ends 75 (77, L, [.int v], M) (some (.int v), M) := pj_Ends.ret q75_77 (pj_rtn_z rt75 hv)
theorem q75_78 : pj_row 75 78 = some (.iload_n 0, 1, 0, 0, 0) := by decide +kernel
theorem s75_78 {st : List Value} {M : pj_Mem} {l : pj_Loc} {x : Int32} : pj_step 75 (78, some (.int x) :: l, st, M) = some (79, some (.int x) :: l, .int x :: st, M) := st_iload_n q75_78 rfl
theorem x75_78 {st : List Value} {M : pj_Mem} {l : pj_Loc} {x : Int32} {o9 : Option Value × pj_Mem} : pj_Ends 75 (78, some (.int x) :: l, st, M) o9 = pj_Ends 75 (79, some (.int x) :: l, .int x :: st, M) o9 := pj_xs (s75_78)
theorem q75_79 : pj_row 75 79 = some (.iconst 5, 1, 0, 0, 0) := by decide +kernel
theorem s75_79 {L : pj_Loc} {st : List Value} {M : pj_Mem}  : pj_step 75 (79, L, st, M) = some (80, L, .int 5 :: st, M) := st_iconst q75_79 (by decide +kernel)
theorem x75_79 {L : pj_Loc} {st : List Value} {M : pj_Mem}  {o9 : Option Value × pj_Mem} : pj_Ends 75 (79, L, st, M) o9 = pj_Ends 75 (80, L, .int 5 :: st, M) o9 := pj_xs (s75_79)
theorem q75_80 : pj_row 75 80 = some (.if_icmp .ne 19, 3, 99, 0, 0) := by decide +kernel
theorem s75_80 {L : pj_Loc} {st : List Value} {M : pj_Mem} {x y : Int32} : pj_step 75 (80, L, .int y :: .int x :: st, M) = some (if ¬ x = y then 99 else 83, L, st, M) := st_icmp_ne q75_80
theorem x75_80 {L : pj_Loc} {st : List Value} {M : pj_Mem} {x y : Int32} {o9 : Option Value × pj_Mem} : pj_Ends 75 (80, L, .int y :: .int x :: st, M) o9 = pj_Ends 75 (if ¬ x = y then 99 else 83, L, st, M) o9 := pj_xs (s75_80)
theorem q75_83 : pj_row 75 83 = some (.iload_n 1, 1, 0, 0, 0) := by decide +kernel
theorem s75_83 {st : List Value} {M : pj_Mem} {l : pj_Loc} {a0 : Option Value} {x : Int32} : pj_step 75 (83, a0 :: some (.int x) :: l, st, M) = some (84, a0 :: some (.int x) :: l, .int x :: st, M) := st_iload_n q75_83 rfl
theorem x75_83 {st : List Value} {M : pj_Mem} {l : pj_Loc} {a0 : Option Value} {x : Int32} {o9 : Option Value × pj_Mem} : pj_Ends 75 (83, a0 :: some (.int x) :: l, st, M) o9 = pj_Ends 75 (84, a0 :: some (.int x) :: l, .int x :: st, M) o9 := pj_xs (s75_83)
theorem q75_84 : pj_row 75 84 = some (.i2l, 1, 0, 0, 0) := by decide +kernel
theorem s75_84 {L : pj_Loc} {st : List Value} {M : pj_Mem} {x : Int32} : pj_step 75 (84, L, .int x :: st, M) = some (85, L, .long x.toInt64 :: st, M) := st_i2l q75_84
theorem x75_84 {L : pj_Loc} {st : List Value} {M : pj_Mem} {x : Int32} {o9 : Option Value × pj_Mem} : pj_Ends 75 (84, L, .int x :: st, M) o9 = pj_Ends 75 (85, L, .long x.toInt64 :: st, M) o9 := pj_xs (s75_84)
theorem q75_85 : pj_row 75 85 = some (.lconst 0, 1, 0, 0, 0) := by decide +kernel
theorem s75_85 {L : pj_Loc} {st : List Value} {M : pj_Mem}  : pj_step 75 (85, L, st, M) = some (86, L, .long 0 :: st, M) := st_lconst q75_85 (by decide +kernel)
theorem x75_85 {L : pj_Loc} {st : List Value} {M : pj_Mem}  {o9 : Option Value × pj_Mem} : pj_Ends 75 (85, L, st, M) o9 = pj_Ends 75 (86, L, .long 0 :: st, M) o9 := pj_xs (s75_85)
theorem q75_86 : pj_row 75 86 = some (.ldc2_w 115, 3, 0, 0, 20) := by decide +kernel
theorem s75_86 {L : pj_Loc} {st : List Value} {M : pj_Mem}  : pj_step 75 (86, L, st, M) = some (89, L, .long 20 :: st, M) := st_ldc2_w q75_86 (by decide +kernel)
theorem x75_86 {L : pj_Loc} {st : List Value} {M : pj_Mem}  {o9 : Option Value × pj_Mem} : pj_Ends 75 (86, L, st, M) o9 = pj_Ends 75 (89, L, .long 20 :: st, M) o9 := pj_xs (s75_86)
theorem q75_89 : pj_row 75 89 = some (.invokestatic 42, 3, 76, 3, 0) := by decide +kernel
theorem e75_89 {L : pj_Loc} {st : List Value} {N S : Nat} {H : pj_Heap} {o : Option Value × pj_Mem} {M' : pj_Mem} {x0 : Int64} {x1 : Int64} {x2 : Int64} {r : Int32} (h4 : pj_le4 st = true) (h1 : pj_Ends 76 (0, [some (.long x0), none, some (.long x1), none, some (.long x2), none], [], (N, S, H)) (some (.int r), M')) (h2 : pj_Ends 75 (92, L, .int r :: st, M') o) : pj_Ends 75 (89, L, .long x2 :: .long x1 :: .long x0 :: st, (N, S, H)) o := ec_s3 q75_89 (Or.inl rfl) h4 rfl h1 h2
theorem q75_92 : pj_row 75 92 = some (.ifCond .eq 7, 3, 99, 0, 0) := by decide +kernel
theorem s75_92 {L : pj_Loc} {st : List Value} {M : pj_Mem} {x : Int32} : pj_step 75 (92, L, .int x :: st, M) = some (if x = 0 then 99 else 95, L, st, M) := st_if_eq q75_92
theorem x75_92 {L : pj_Loc} {st : List Value} {M : pj_Mem} {x : Int32} {o9 : Option Value × pj_Mem} : pj_Ends 75 (92, L, .int x :: st, M) o9 = pj_Ends 75 (if x = 0 then 99 else 95, L, st, M) o9 := pj_xs (s75_92)
theorem q75_95 : pj_row 75 95 = some (.iconst 1, 1, 0, 0, 0) := by decide +kernel
theorem s75_95 {L : pj_Loc} {st : List Value} {M : pj_Mem}  : pj_step 75 (95, L, st, M) = some (96, L, .int 1 :: st, M) := st_iconst q75_95 (by decide +kernel)
theorem x75_95 {L : pj_Loc} {st : List Value} {M : pj_Mem}  {o9 : Option Value × pj_Mem} : pj_Ends 75 (95, L, st, M) o9 = pj_Ends 75 (96, L, .int 1 :: st, M) o9 := pj_xs (s75_95)
theorem q75_96 : pj_row 75 96 = some (.goto 4, 3, 100, 0, 0) := by decide +kernel
theorem s75_96 {L : pj_Loc} {st : List Value} {M : pj_Mem}  : pj_step 75 (96, L, st, M) = some (100, L, st, M) := st_goto q75_96
theorem x75_96 {L : pj_Loc} {st : List Value} {M : pj_Mem}  {o9 : Option Value × pj_Mem} : pj_Ends 75 (96, L, st, M) o9 = pj_Ends 75 (100, L, st, M) o9 := pj_xs (s75_96)
theorem q75_99 : pj_row 75 99 = some (.iconst 0, 1, 0, 0, 0) := by decide +kernel
theorem s75_99 {L : pj_Loc} {st : List Value} {M : pj_Mem}  : pj_step 75 (99, L, st, M) = some (100, L, .int 0 :: st, M) := st_iconst q75_99 (by decide +kernel)
theorem x75_99 {L : pj_Loc} {st : List Value} {M : pj_Mem}  {o9 : Option Value × pj_Mem} : pj_Ends 75 (99, L, st, M) o9 = pj_Ends 75 (100, L, .int 0 :: st, M) o9 := pj_xs (s75_99)
theorem q75_100 : pj_row 75 100 = some (.ireturn, 1, 0, 0, 0) := by decide +kernel
theorem t75_100 {L : pj_Loc} {M : pj_Mem} {v : Int32} (hv : v = 0 ∨ v = 1) : pj_Ends 75 (100, L, [.int v], M) (some (.int v), M) := pj_Ends.ret q75_100 (pj_rtn_z rt75 hv)
theorem rt76 : pj_rt 76 = some .boolean := rfl
theorem q76_0 : pj_row 76 0 = some (.lload_n 0, 1, 0, 0, 0) := by decide +kernel
theorem s76_0 {st : List Value} {M : pj_Mem} {l : pj_Loc} {x : Int64} : pj_step 76 (0, some (.long x) :: l, st, M) = some (1, some (.long x) :: l, .long x :: st, M) := st_lload_n q76_0 rfl
theorem x76_0 {st : List Value} {M : pj_Mem} {l : pj_Loc} {x : Int64} {o9 : Option Value × pj_Mem} : pj_Ends 76 (0, some (.long x) :: l, st, M) o9 = pj_Ends 76 (1, some (.long x) :: l, .long x :: st, M) o9 := pj_xs (s76_0)
theorem q76_1 : pj_row 76 1 = some (.lload_n 2, 1, 0, 0, 0) := by decide +kernel
theorem s76_1 {st : List Value} {M : pj_Mem} {l : pj_Loc} {a0 a1 : Option Value} {x : Int64} : pj_step 76 (1, a0 :: a1 :: some (.long x) :: l, st, M) = some (2, a0 :: a1 :: some (.long x) :: l, .long x :: st, M) := st_lload_n q76_1 rfl
theorem x76_1 {st : List Value} {M : pj_Mem} {l : pj_Loc} {a0 a1 : Option Value} {x : Int64} {o9 : Option Value × pj_Mem} : pj_Ends 76 (1, a0 :: a1 :: some (.long x) :: l, st, M) o9 = pj_Ends 76 (2, a0 :: a1 :: some (.long x) :: l, .long x :: st, M) o9 := pj_xs (s76_1)
theorem q76_2 : pj_row 76 2 = some (.lcmp, 1, 0, 0, 0) := by decide +kernel
theorem s76_2 {L : pj_Loc} {st : List Value} {M : pj_Mem} {x y : Int64} : pj_step 76 (2, L, .long y :: .long x :: st, M) = some (3, L, .int (lg_cmp x y) :: st, M) := st_lcmp q76_2
theorem x76_2 {L : pj_Loc} {st : List Value} {M : pj_Mem} {x y : Int64} {o9 : Option Value × pj_Mem} : pj_Ends 76 (2, L, .long y :: .long x :: st, M) o9 = pj_Ends 76 (3, L, .int (lg_cmp x y) :: st, M) o9 := pj_xs (s76_2)
theorem q76_3 : pj_row 76 3 = some (.ifCond .lt 14, 3, 17, 0, 0) := by decide +kernel
theorem s76_3 {L : pj_Loc} {st : List Value} {M : pj_Mem} {x : Int32} : pj_step 76 (3, L, .int x :: st, M) = some (if x < 0 then 17 else 6, L, st, M) := st_if_lt q76_3
theorem x76_3 {L : pj_Loc} {st : List Value} {M : pj_Mem} {x : Int32} {o9 : Option Value × pj_Mem} : pj_Ends 76 (3, L, .int x :: st, M) o9 = pj_Ends 76 (if x < 0 then 17 else 6, L, st, M) o9 := pj_xs (s76_3)
theorem q76_6 : pj_row 76 6 = some (.lload_n 0, 1, 0, 0, 0) := by decide +kernel
theorem s76_6 {st : List Value} {M : pj_Mem} {l : pj_Loc} {x : Int64} : pj_step 76 (6, some (.long x) :: l, st, M) = some (7, some (.long x) :: l, .long x :: st, M) := st_lload_n q76_6 rfl
theorem x76_6 {st : List Value} {M : pj_Mem} {l : pj_Loc} {x : Int64} {o9 : Option Value × pj_Mem} : pj_Ends 76 (6, some (.long x) :: l, st, M) o9 = pj_Ends 76 (7, some (.long x) :: l, .long x :: st, M) o9 := pj_xs (s76_6)
theorem q76_7 : pj_row 76 7 = some (.lload 4, 2, 0, 0, 0) := by decide +kernel
theorem s76_7 {st : List Value} {M : pj_Mem} {l : pj_Loc} {a0 a1 a2 a3 : Option Value} {x : Int64} : pj_step 76 (7, a0 :: a1 :: a2 :: a3 :: some (.long x) :: l, st, M) = some (9, a0 :: a1 :: a2 :: a3 :: some (.long x) :: l, .long x :: st, M) := st_lload q76_7 rfl
theorem x76_7 {st : List Value} {M : pj_Mem} {l : pj_Loc} {a0 a1 a2 a3 : Option Value} {x : Int64} {o9 : Option Value × pj_Mem} : pj_Ends 76 (7, a0 :: a1 :: a2 :: a3 :: some (.long x) :: l, st, M) o9 = pj_Ends 76 (9, a0 :: a1 :: a2 :: a3 :: some (.long x) :: l, .long x :: st, M) o9 := pj_xs (s76_7)
theorem q76_9 : pj_row 76 9 = some (.lcmp, 1, 0, 0, 0) := by decide +kernel
theorem s76_9 {L : pj_Loc} {st : List Value} {M : pj_Mem} {x y : Int64} : pj_step 76 (9, L, .long y :: .long x :: st, M) = some (10, L, .int (lg_cmp x y) :: st, M) := st_lcmp q76_9
theorem x76_9 {L : pj_Loc} {st : List Value} {M : pj_Mem} {x y : Int64} {o9 : Option Value × pj_Mem} : pj_Ends 76 (9, L, .long y :: .long x :: st, M) o9 = pj_Ends 76 (10, L, .int (lg_cmp x y) :: st, M) o9 := pj_xs (s76_9)
theorem q76_10 : pj_row 76 10 = some (.ifCond .gt 7, 3, 17, 0, 0) := by decide +kernel
theorem s76_10 {L : pj_Loc} {st : List Value} {M : pj_Mem} {x : Int32} : pj_step 76 (10, L, .int x :: st, M) = some (if 0 < x then 17 else 13, L, st, M) := st_if_gt q76_10
theorem x76_10 {L : pj_Loc} {st : List Value} {M : pj_Mem} {x : Int32} {o9 : Option Value × pj_Mem} : pj_Ends 76 (10, L, .int x :: st, M) o9 = pj_Ends 76 (if 0 < x then 17 else 13, L, st, M) o9 := pj_xs (s76_10)
theorem q76_13 : pj_row 76 13 = some (.iconst 1, 1, 0, 0, 0) := by decide +kernel
theorem s76_13 {L : pj_Loc} {st : List Value} {M : pj_Mem}  : pj_step 76 (13, L, st, M) = some (14, L, .int 1 :: st, M) := st_iconst q76_13 (by decide +kernel)
theorem x76_13 {L : pj_Loc} {st : List Value} {M : pj_Mem}  {o9 : Option Value × pj_Mem} : pj_Ends 76 (13, L, st, M) o9 = pj_Ends 76 (14, L, .int 1 :: st, M) o9 := pj_xs (s76_13)
theorem q76_14 : pj_row 76 14 = some (.goto 4, 3, 18, 0, 0) := by decide +kernel
theorem s76_14 {L : pj_Loc} {st : List Value} {M : pj_Mem}  : pj_step 76 (14, L, st, M) = some (18, L, st, M) := st_goto q76_14
theorem x76_14 {L : pj_Loc} {st : List Value} {M : pj_Mem}  {o9 : Option Value × pj_Mem} : pj_Ends 76 (14, L, st, M) o9 = pj_Ends 76 (18, L, st, M) o9 := pj_xs (s76_14)
theorem q76_17 : pj_row 76 17 = some (.iconst 0, 1, 0, 0, 0) := by decide +kernel
theorem s76_17 {L : pj_Loc} {st : List Value} {M : pj_Mem}  : pj_step 76 (17, L, st, M) = some (18, L, .int 0 :: st, M) := st_iconst q76_17 (by decide +kernel)
theorem x76_17 {L : pj_Loc} {st : List Value} {M : pj_Mem}  {o9 : Option Value × pj_Mem} : pj_Ends 76 (17, L, st, M) o9 = pj_Ends 76 (18, L, .int 0 :: st, M) o9 := pj_xs (s76_17)
theorem q76_18 : pj_row 76 18 = some (.ireturn, 1, 0, 0, 0) := by decide +kernel
theorem t76_18 {L : pj_Loc} {M : pj_Mem} {v : Int32} (hv : v = 0 ∨ v = 1) : pj_Ends 76 (18, L, [.int v], M) (some (.int v), M) := pj_Ends.ret q76_18 (pj_rtn_z rt76 hv)
theorem rt77 : pj_rt 77 = none := rfl
theorem q77_0 : pj_row 77 0 = some (.iconst 0, 1, 0, 0, 0) := by decide +kernel
theorem s77_0 {L : pj_Loc} {st : List Value} {M : pj_Mem}  : pj_step 77 (0, L, st, M) = some (1, L, .int 0 :: st, M) := st_iconst q77_0 (by decide +kernel)
theorem x77_0 {L : pj_Loc} {st : List Value} {M : pj_Mem}  {o9 : Option Value × pj_Mem} : pj_Ends 77 (0, L, st, M) o9 = pj_Ends 77 (1, L, .int 0 :: st, M) o9 := pj_xs (s77_0)
theorem q77_1 : pj_row 77 1 = some (.istore_n 1, 1, 0, 0, 0) := by decide +kernel
theorem s77_1 {st : List Value} {M : pj_Mem} {l : pj_Loc} {a0 a1 : Option Value} {x : Int32} (h : pj_long a0 = false) : pj_step 77 (1, a0 :: a1 :: l, .int x :: st, M) = some (2, a0 :: some (.int x) :: l, st, M) := st_istore_n q77_1 (pj_st_1 h)
theorem x77_1 {st : List Value} {M : pj_Mem} {l : pj_Loc} {a0 a1 : Option Value} {x : Int32} (h : pj_long a0 = false) {o9 : Option Value × pj_Mem} : pj_Ends 77 (1, a0 :: a1 :: l, .int x :: st, M) o9 = pj_Ends 77 (2, a0 :: some (.int x) :: l, st, M) o9 := pj_xs (s77_1 h)
theorem q77_2 : pj_row 77 2 = some (.iload_n 1, 1, 0, 0, 0) := by decide +kernel
theorem s77_2 {st : List Value} {M : pj_Mem} {l : pj_Loc} {a0 : Option Value} {x : Int32} : pj_step 77 (2, a0 :: some (.int x) :: l, st, M) = some (3, a0 :: some (.int x) :: l, .int x :: st, M) := st_iload_n q77_2 rfl
theorem x77_2 {st : List Value} {M : pj_Mem} {l : pj_Loc} {a0 : Option Value} {x : Int32} {o9 : Option Value × pj_Mem} : pj_Ends 77 (2, a0 :: some (.int x) :: l, st, M) o9 = pj_Ends 77 (3, a0 :: some (.int x) :: l, .int x :: st, M) o9 := pj_xs (s77_2)
theorem q77_3 : pj_row 77 3 = some (.sipush 152, 3, 0, 0, 0) := by decide +kernel
theorem s77_3 {L : pj_Loc} {st : List Value} {M : pj_Mem}  : pj_step 77 (3, L, st, M) = some (6, L, .int 152 :: st, M) := st_sipush q77_3 (by decide +kernel)
theorem x77_3 {L : pj_Loc} {st : List Value} {M : pj_Mem}  {o9 : Option Value × pj_Mem} : pj_Ends 77 (3, L, st, M) o9 = pj_Ends 77 (6, L, .int 152 :: st, M) o9 := pj_xs (s77_3)
theorem q77_6 : pj_row 77 6 = some (.if_icmp .ge 21, 3, 27, 0, 0) := by decide +kernel
theorem s77_6 {L : pj_Loc} {st : List Value} {M : pj_Mem} {x y : Int32} : pj_step 77 (6, L, .int y :: .int x :: st, M) = some (if y ≤ x then 27 else 9, L, st, M) := st_icmp_ge q77_6
theorem x77_6 {L : pj_Loc} {st : List Value} {M : pj_Mem} {x y : Int32} {o9 : Option Value × pj_Mem} : pj_Ends 77 (6, L, .int y :: .int x :: st, M) o9 = pj_Ends 77 (if y ≤ x then 27 else 9, L, st, M) o9 := pj_xs (s77_6)
theorem q77_9 : pj_row 77 9 = some (.aload_n 0, 1, 0, 0, 0) := by decide +kernel
theorem s77_9 {st : List Value} {M : pj_Mem} {l : pj_Loc} {x : Nat} : pj_step 77 (9, some (.ref x) :: l, st, M) = some (10, some (.ref x) :: l, .ref x :: st, M) := st_aload_n q77_9 rfl
theorem x77_9 {st : List Value} {M : pj_Mem} {l : pj_Loc} {x : Nat} {o9 : Option Value × pj_Mem} : pj_Ends 77 (9, some (.ref x) :: l, st, M) o9 = pj_Ends 77 (10, some (.ref x) :: l, .ref x :: st, M) o9 := pj_xs (s77_9)
theorem q77_10 : pj_row 77 10 = some (.getfield 13, 3, 6, 1, 0) := by decide +kernel
theorem s77_10 {L : pj_Loc} {st : List Value} {N S : Nat} {H : pj_Heap} {o : Nat} : pj_step 77 (10, L, .ref o :: st, (N, S, H)) = pj_pv 13 L st (N, S, H) (pj_fld (H o) 6 1) := st_getfield q77_10
theorem x77_10 {L : pj_Loc} {st : List Value} {N S : Nat} {H : pj_Heap} {o : Nat} {o9 : Option Value × pj_Mem} : pj_Ends 77 (10, L, .ref o :: st, (N, S, H)) o9 = pj_then 77 o9 (pj_pv 13 L st (N, S, H) (pj_fld (H o) 6 1)) := pj_xt q77_10 rfl (pj_cl_nc rfl) (s77_10)
theorem q77_13 : pj_row 77 13 = some (.iload_n 1, 1, 0, 0, 0) := by decide +kernel
theorem s77_13 {st : List Value} {M : pj_Mem} {l : pj_Loc} {a0 : Option Value} {x : Int32} : pj_step 77 (13, a0 :: some (.int x) :: l, st, M) = some (14, a0 :: some (.int x) :: l, .int x :: st, M) := st_iload_n q77_13 rfl
theorem x77_13 {st : List Value} {M : pj_Mem} {l : pj_Loc} {a0 : Option Value} {x : Int32} {o9 : Option Value × pj_Mem} : pj_Ends 77 (13, a0 :: some (.int x) :: l, st, M) o9 = pj_Ends 77 (14, a0 :: some (.int x) :: l, .int x :: st, M) o9 := pj_xs (s77_13)
theorem q77_14 : pj_row 77 14 = some (.aload_n 0, 1, 0, 0, 0) := by decide +kernel
theorem s77_14 {st : List Value} {M : pj_Mem} {l : pj_Loc} {x : Nat} : pj_step 77 (14, some (.ref x) :: l, st, M) = some (15, some (.ref x) :: l, .ref x :: st, M) := st_aload_n q77_14 rfl
theorem x77_14 {st : List Value} {M : pj_Mem} {l : pj_Loc} {x : Nat} {o9 : Option Value × pj_Mem} : pj_Ends 77 (14, some (.ref x) :: l, st, M) o9 = pj_Ends 77 (15, some (.ref x) :: l, .ref x :: st, M) o9 := pj_xs (s77_14)
theorem q77_15 : pj_row 77 15 = some (.getfield 7, 3, 6, 0, 0) := by decide +kernel
theorem s77_15 {L : pj_Loc} {st : List Value} {N S : Nat} {H : pj_Heap} {o : Nat} : pj_step 77 (15, L, .ref o :: st, (N, S, H)) = pj_pv 18 L st (N, S, H) (pj_fld (H o) 6 0) := st_getfield q77_15
theorem x77_15 {L : pj_Loc} {st : List Value} {N S : Nat} {H : pj_Heap} {o : Nat} {o9 : Option Value × pj_Mem} : pj_Ends 77 (15, L, .ref o :: st, (N, S, H)) o9 = pj_then 77 o9 (pj_pv 18 L st (N, S, H) (pj_fld (H o) 6 0)) := pj_xt q77_15 rfl (pj_cl_nc rfl) (s77_15)
theorem q77_18 : pj_row 77 18 = some (.iload_n 1, 1, 0, 0, 0) := by decide +kernel
theorem s77_18 {st : List Value} {M : pj_Mem} {l : pj_Loc} {a0 : Option Value} {x : Int32} : pj_step 77 (18, a0 :: some (.int x) :: l, st, M) = some (19, a0 :: some (.int x) :: l, .int x :: st, M) := st_iload_n q77_18 rfl
theorem x77_18 {st : List Value} {M : pj_Mem} {l : pj_Loc} {a0 : Option Value} {x : Int32} {o9 : Option Value × pj_Mem} : pj_Ends 77 (18, a0 :: some (.int x) :: l, st, M) o9 = pj_Ends 77 (19, a0 :: some (.int x) :: l, .int x :: st, M) o9 := pj_xs (s77_18)
theorem q77_19 : pj_row 77 19 = some (.iaload, 1, 0, 0, 0) := by decide +kernel
theorem s77_19 {L : pj_Loc} {st : List Value} {N S : Nat} {H : pj_Heap} {o : Nat} {i : Int32} : pj_step 77 (19, L, .int i :: .ref o :: st, (N, S, H)) = pj_pi 20 L st (N, S, H) (pj_arl (H o) 0 i) := st_iaload q77_19
theorem x77_19 {L : pj_Loc} {st : List Value} {N S : Nat} {H : pj_Heap} {o : Nat} {i : Int32} {o9 : Option Value × pj_Mem} : pj_Ends 77 (19, L, .int i :: .ref o :: st, (N, S, H)) o9 = pj_then 77 o9 (pj_pi 20 L st (N, S, H) (pj_arl (H o) 0 i)) := pj_xt q77_19 rfl (pj_cl_nc rfl) (s77_19)
theorem q77_20 : pj_row 77 20 = some (.iastore, 1, 0, 0, 0) := by decide +kernel
theorem s77_20 {L : pj_Loc} {st : List Value} {N S : Nat} {H : pj_Heap} {o : Nat} {i x : Int32} : pj_step 77 (20, L, .int x :: .int i :: .ref o :: st, (N, S, H)) = pj_set 21 L st (N, S, H) o (pj_ars (H o) 0 i x) := st_iastore q77_20
theorem x77_20 {L : pj_Loc} {st : List Value} {N S : Nat} {H : pj_Heap} {o : Nat} {i x : Int32} {o9 : Option Value × pj_Mem} : pj_Ends 77 (20, L, .int x :: .int i :: .ref o :: st, (N, S, H)) o9 = pj_then 77 o9 (pj_set 21 L st (N, S, H) o (pj_ars (H o) 0 i x)) := pj_xt q77_20 rfl (pj_cl_nc rfl) (s77_20)
theorem q77_21 : pj_row 77 21 = some (.iinc 1 1, 3, 0, 0, 0) := by decide +kernel
theorem s77_21 {st : List Value} {M : pj_Mem} {l : pj_Loc} {a0 : Option Value} {x : Int32} (h : pj_long a0 = false) : pj_step 77 (21, a0 :: some (.int x) :: l, st, M) = some (24, a0 :: some (.int (x + 1)) :: l, st, M) := st_iinc q77_21 rfl (congrArg (fun y => x + y) (show Int32.ofInt 1 = 1 by decide +kernel)) (pj_st_1 h)
theorem x77_21 {st : List Value} {M : pj_Mem} {l : pj_Loc} {a0 : Option Value} {x : Int32} (h : pj_long a0 = false) {o9 : Option Value × pj_Mem} : pj_Ends 77 (21, a0 :: some (.int x) :: l, st, M) o9 = pj_Ends 77 (24, a0 :: some (.int (x + 1)) :: l, st, M) o9 := pj_xs (s77_21 h)
theorem q77_24 : pj_row 77 24 = some (.goto (-22), 3, 2, 0, 0) := by decide +kernel
theorem s77_24 {L : pj_Loc} {st : List Value} {M : pj_Mem}  : pj_step 77 (24, L, st, M) = some (2, L, st, M) := st_goto q77_24
theorem x77_24 {L : pj_Loc} {st : List Value} {M : pj_Mem}  {o9 : Option Value × pj_Mem} : pj_Ends 77 (24, L, st, M) o9 = pj_Ends 77 (2, L, st, M) o9 := pj_xs (s77_24)
theorem q77_27 : pj_row 77 27 = some (.return_, 1, 0, 0, 0) := by decide +kernel
theorem t77_27 {L : pj_Loc} {M : pj_Mem} : pj_Ends 77 (27, L, [], M) (none, M) := pj_Ends.ret q77_27 (pj_rtn_v rt77)
theorem rt78 : pj_rt 78 = some .int := rfl
theorem q78_0 : pj_row 78 0 = some (.aload_n 0, 1, 0, 0, 0) := by decide +kernel
theorem s78_0 {st : List Value} {M : pj_Mem} {l : pj_Loc} {x : Nat} : pj_step 78 (0, some (.ref x) :: l, st, M) = some (1, some (.ref x) :: l, .ref x :: st, M) := st_aload_n q78_0 rfl
theorem x78_0 {st : List Value} {M : pj_Mem} {l : pj_Loc} {x : Nat} {o9 : Option Value × pj_Mem} : pj_Ends 78 (0, some (.ref x) :: l, st, M) o9 = pj_Ends 78 (1, some (.ref x) :: l, .ref x :: st, M) o9 := pj_xs (s78_0)
theorem q78_1 : pj_row 78 1 = some (.getfield 34, 3, 6, 3, 0) := by decide +kernel
theorem s78_1 {L : pj_Loc} {st : List Value} {N S : Nat} {H : pj_Heap} {o : Nat} : pj_step 78 (1, L, .ref o :: st, (N, S, H)) = pj_pv 4 L st (N, S, H) (pj_fld (H o) 6 3) := st_getfield q78_1
theorem x78_1 {L : pj_Loc} {st : List Value} {N S : Nat} {H : pj_Heap} {o : Nat} {o9 : Option Value × pj_Mem} : pj_Ends 78 (1, L, .ref o :: st, (N, S, H)) o9 = pj_then 78 o9 (pj_pv 4 L st (N, S, H) (pj_fld (H o) 6 3)) := pj_xt q78_1 rfl (pj_cl_nc rfl) (s78_1)
theorem q78_4 : pj_row 78 4 = some (.bipush 6, 2, 0, 0, 0) := by decide +kernel
theorem s78_4 {L : pj_Loc} {st : List Value} {M : pj_Mem}  : pj_step 78 (4, L, st, M) = some (6, L, .int 6 :: st, M) := st_bipush q78_4 (by decide +kernel)
theorem x78_4 {L : pj_Loc} {st : List Value} {M : pj_Mem}  {o9 : Option Value × pj_Mem} : pj_Ends 78 (4, L, st, M) o9 = pj_Ends 78 (6, L, .int 6 :: st, M) o9 := pj_xs (s78_4)
theorem q78_6 : pj_row 78 6 = some (.if_icmp .ne 44, 3, 50, 0, 0) := by decide +kernel
theorem s78_6 {L : pj_Loc} {st : List Value} {M : pj_Mem} {x y : Int32} : pj_step 78 (6, L, .int y :: .int x :: st, M) = some (if ¬ x = y then 50 else 9, L, st, M) := st_icmp_ne q78_6
theorem x78_6 {L : pj_Loc} {st : List Value} {M : pj_Mem} {x y : Int32} {o9 : Option Value × pj_Mem} : pj_Ends 78 (6, L, .int y :: .int x :: st, M) o9 = pj_Ends 78 (if ¬ x = y then 50 else 9, L, st, M) o9 := pj_xs (s78_6)
theorem q78_9 : pj_row 78 9 = some (.iconst 0, 1, 0, 0, 0) := by decide +kernel
theorem s78_9 {L : pj_Loc} {st : List Value} {M : pj_Mem}  : pj_step 78 (9, L, st, M) = some (10, L, .int 0 :: st, M) := st_iconst q78_9 (by decide +kernel)
theorem x78_9 {L : pj_Loc} {st : List Value} {M : pj_Mem}  {o9 : Option Value × pj_Mem} : pj_Ends 78 (9, L, st, M) o9 = pj_Ends 78 (10, L, .int 0 :: st, M) o9 := pj_xs (s78_9)
theorem q78_10 : pj_row 78 10 = some (.istore_n 2, 1, 0, 0, 0) := by decide +kernel
theorem s78_10 {st : List Value} {M : pj_Mem} {l : pj_Loc} {a0 a1 a2 : Option Value} {x : Int32} (h : pj_long a1 = false) : pj_step 78 (10, a0 :: a1 :: a2 :: l, .int x :: st, M) = some (11, a0 :: a1 :: some (.int x) :: l, st, M) := st_istore_n q78_10 (pj_st_2 h)
theorem x78_10 {st : List Value} {M : pj_Mem} {l : pj_Loc} {a0 a1 a2 : Option Value} {x : Int32} (h : pj_long a1 = false) {o9 : Option Value × pj_Mem} : pj_Ends 78 (10, a0 :: a1 :: a2 :: l, .int x :: st, M) o9 = pj_Ends 78 (11, a0 :: a1 :: some (.int x) :: l, st, M) o9 := pj_xs (s78_10 h)
theorem q78_11 : pj_row 78 11 = some (.iload_n 2, 1, 0, 0, 0) := by decide +kernel
theorem s78_11 {st : List Value} {M : pj_Mem} {l : pj_Loc} {a0 a1 : Option Value} {x : Int32} : pj_step 78 (11, a0 :: a1 :: some (.int x) :: l, st, M) = some (12, a0 :: a1 :: some (.int x) :: l, .int x :: st, M) := st_iload_n q78_11 rfl
theorem x78_11 {st : List Value} {M : pj_Mem} {l : pj_Loc} {a0 a1 : Option Value} {x : Int32} {o9 : Option Value × pj_Mem} : pj_Ends 78 (11, a0 :: a1 :: some (.int x) :: l, st, M) o9 = pj_Ends 78 (12, a0 :: a1 :: some (.int x) :: l, .int x :: st, M) o9 := pj_xs (s78_11)
theorem q78_12 : pj_row 78 12 = some (.sipush 760, 3, 0, 0, 0) := by decide +kernel
theorem s78_12 {L : pj_Loc} {st : List Value} {M : pj_Mem}  : pj_step 78 (12, L, st, M) = some (15, L, .int 760 :: st, M) := st_sipush q78_12 (by decide +kernel)
theorem x78_12 {L : pj_Loc} {st : List Value} {M : pj_Mem}  {o9 : Option Value × pj_Mem} : pj_Ends 78 (12, L, st, M) o9 = pj_Ends 78 (15, L, .int 760 :: st, M) o9 := pj_xs (s78_12)
theorem q78_15 : pj_row 78 15 = some (.if_icmp .ge 25, 3, 40, 0, 0) := by decide +kernel
theorem s78_15 {L : pj_Loc} {st : List Value} {M : pj_Mem} {x y : Int32} : pj_step 78 (15, L, .int y :: .int x :: st, M) = some (if y ≤ x then 40 else 18, L, st, M) := st_icmp_ge q78_15
theorem x78_15 {L : pj_Loc} {st : List Value} {M : pj_Mem} {x y : Int32} {o9 : Option Value × pj_Mem} : pj_Ends 78 (15, L, .int y :: .int x :: st, M) o9 = pj_Ends 78 (if y ≤ x then 40 else 18, L, st, M) o9 := pj_xs (s78_15)
theorem q78_18 : pj_row 78 18 = some (.aload_n 0, 1, 0, 0, 0) := by decide +kernel
theorem s78_18 {st : List Value} {M : pj_Mem} {l : pj_Loc} {x : Nat} : pj_step 78 (18, some (.ref x) :: l, st, M) = some (19, some (.ref x) :: l, .ref x :: st, M) := st_aload_n q78_18 rfl
theorem x78_18 {st : List Value} {M : pj_Mem} {l : pj_Loc} {x : Nat} {o9 : Option Value × pj_Mem} : pj_Ends 78 (18, some (.ref x) :: l, st, M) o9 = pj_Ends 78 (19, some (.ref x) :: l, .ref x :: st, M) o9 := pj_xs (s78_18)
theorem q78_19 : pj_row 78 19 = some (.getfield 16, 3, 6, 2, 0) := by decide +kernel
theorem s78_19 {L : pj_Loc} {st : List Value} {N S : Nat} {H : pj_Heap} {o : Nat} : pj_step 78 (19, L, .ref o :: st, (N, S, H)) = pj_pv 22 L st (N, S, H) (pj_fld (H o) 6 2) := st_getfield q78_19
theorem x78_19 {L : pj_Loc} {st : List Value} {N S : Nat} {H : pj_Heap} {o : Nat} {o9 : Option Value × pj_Mem} : pj_Ends 78 (19, L, .ref o :: st, (N, S, H)) o9 = pj_then 78 o9 (pj_pv 22 L st (N, S, H) (pj_fld (H o) 6 2)) := pj_xt q78_19 rfl (pj_cl_nc rfl) (s78_19)
theorem q78_22 : pj_row 78 22 = some (.iload_n 2, 1, 0, 0, 0) := by decide +kernel
theorem s78_22 {st : List Value} {M : pj_Mem} {l : pj_Loc} {a0 a1 : Option Value} {x : Int32} : pj_step 78 (22, a0 :: a1 :: some (.int x) :: l, st, M) = some (23, a0 :: a1 :: some (.int x) :: l, .int x :: st, M) := st_iload_n q78_22 rfl
theorem x78_22 {st : List Value} {M : pj_Mem} {l : pj_Loc} {a0 a1 : Option Value} {x : Int32} {o9 : Option Value × pj_Mem} : pj_Ends 78 (22, a0 :: a1 :: some (.int x) :: l, st, M) o9 = pj_Ends 78 (23, a0 :: a1 :: some (.int x) :: l, .int x :: st, M) o9 := pj_xs (s78_22)
theorem q78_23 : pj_row 78 23 = some (.aload_n 0, 1, 0, 0, 0) := by decide +kernel
theorem s78_23 {st : List Value} {M : pj_Mem} {l : pj_Loc} {x : Nat} : pj_step 78 (23, some (.ref x) :: l, st, M) = some (24, some (.ref x) :: l, .ref x :: st, M) := st_aload_n q78_23 rfl
theorem x78_23 {st : List Value} {M : pj_Mem} {l : pj_Loc} {x : Nat} {o9 : Option Value × pj_Mem} : pj_Ends 78 (23, some (.ref x) :: l, st, M) o9 = pj_Ends 78 (24, some (.ref x) :: l, .ref x :: st, M) o9 := pj_xs (s78_23)
theorem q78_24 : pj_row 78 24 = some (.getfield 16, 3, 6, 2, 0) := by decide +kernel
theorem s78_24 {L : pj_Loc} {st : List Value} {N S : Nat} {H : pj_Heap} {o : Nat} : pj_step 78 (24, L, .ref o :: st, (N, S, H)) = pj_pv 27 L st (N, S, H) (pj_fld (H o) 6 2) := st_getfield q78_24
theorem x78_24 {L : pj_Loc} {st : List Value} {N S : Nat} {H : pj_Heap} {o : Nat} {o9 : Option Value × pj_Mem} : pj_Ends 78 (24, L, .ref o :: st, (N, S, H)) o9 = pj_then 78 o9 (pj_pv 27 L st (N, S, H) (pj_fld (H o) 6 2)) := pj_xt q78_24 rfl (pj_cl_nc rfl) (s78_24)
theorem q78_27 : pj_row 78 27 = some (.iload_n 2, 1, 0, 0, 0) := by decide +kernel
theorem s78_27 {st : List Value} {M : pj_Mem} {l : pj_Loc} {a0 a1 : Option Value} {x : Int32} : pj_step 78 (27, a0 :: a1 :: some (.int x) :: l, st, M) = some (28, a0 :: a1 :: some (.int x) :: l, .int x :: st, M) := st_iload_n q78_27 rfl
theorem x78_27 {st : List Value} {M : pj_Mem} {l : pj_Loc} {a0 a1 : Option Value} {x : Int32} {o9 : Option Value × pj_Mem} : pj_Ends 78 (27, a0 :: a1 :: some (.int x) :: l, st, M) o9 = pj_Ends 78 (28, a0 :: a1 :: some (.int x) :: l, .int x :: st, M) o9 := pj_xs (s78_27)
theorem q78_28 : pj_row 78 28 = some (.sipush 152, 3, 0, 0, 0) := by decide +kernel
theorem s78_28 {L : pj_Loc} {st : List Value} {M : pj_Mem}  : pj_step 78 (28, L, st, M) = some (31, L, .int 152 :: st, M) := st_sipush q78_28 (by decide +kernel)
theorem x78_28 {L : pj_Loc} {st : List Value} {M : pj_Mem}  {o9 : Option Value × pj_Mem} : pj_Ends 78 (28, L, st, M) o9 = pj_Ends 78 (31, L, .int 152 :: st, M) o9 := pj_xs (s78_28)
theorem q78_31 : pj_row 78 31 = some (.iadd, 1, 0, 0, 0) := by decide +kernel
theorem s78_31 {L : pj_Loc} {st : List Value} {M : pj_Mem} {x y : Int32} : pj_step 78 (31, L, .int y :: .int x :: st, M) = some (32, L, .int (x + y) :: st, M) := st_iadd q78_31
theorem x78_31 {L : pj_Loc} {st : List Value} {M : pj_Mem} {x y : Int32} {o9 : Option Value × pj_Mem} : pj_Ends 78 (31, L, .int y :: .int x :: st, M) o9 = pj_Ends 78 (32, L, .int (x + y) :: st, M) o9 := pj_xs (s78_31)
theorem q78_32 : pj_row 78 32 = some (.iaload, 1, 0, 0, 0) := by decide +kernel
theorem s78_32 {L : pj_Loc} {st : List Value} {N S : Nat} {H : pj_Heap} {o : Nat} {i : Int32} : pj_step 78 (32, L, .int i :: .ref o :: st, (N, S, H)) = pj_pi 33 L st (N, S, H) (pj_arl (H o) 0 i) := st_iaload q78_32
theorem x78_32 {L : pj_Loc} {st : List Value} {N S : Nat} {H : pj_Heap} {o : Nat} {i : Int32} {o9 : Option Value × pj_Mem} : pj_Ends 78 (32, L, .int i :: .ref o :: st, (N, S, H)) o9 = pj_then 78 o9 (pj_pi 33 L st (N, S, H) (pj_arl (H o) 0 i)) := pj_xt q78_32 rfl (pj_cl_nc rfl) (s78_32)
theorem q78_33 : pj_row 78 33 = some (.iastore, 1, 0, 0, 0) := by decide +kernel
theorem s78_33 {L : pj_Loc} {st : List Value} {N S : Nat} {H : pj_Heap} {o : Nat} {i x : Int32} : pj_step 78 (33, L, .int x :: .int i :: .ref o :: st, (N, S, H)) = pj_set 34 L st (N, S, H) o (pj_ars (H o) 0 i x) := st_iastore q78_33
theorem x78_33 {L : pj_Loc} {st : List Value} {N S : Nat} {H : pj_Heap} {o : Nat} {i x : Int32} {o9 : Option Value × pj_Mem} : pj_Ends 78 (33, L, .int x :: .int i :: .ref o :: st, (N, S, H)) o9 = pj_then 78 o9 (pj_set 34 L st (N, S, H) o (pj_ars (H o) 0 i x)) := pj_xt q78_33 rfl (pj_cl_nc rfl) (s78_33)
theorem q78_34 : pj_row 78 34 = some (.iinc 2 1, 3, 0, 0, 0) := by decide +kernel
theorem s78_34 {st : List Value} {M : pj_Mem} {l : pj_Loc} {a0 a1 : Option Value} {x : Int32} (h : pj_long a1 = false) : pj_step 78 (34, a0 :: a1 :: some (.int x) :: l, st, M) = some (37, a0 :: a1 :: some (.int (x + 1)) :: l, st, M) := st_iinc q78_34 rfl (congrArg (fun y => x + y) (show Int32.ofInt 1 = 1 by decide +kernel)) (pj_st_2 h)
theorem x78_34 {st : List Value} {M : pj_Mem} {l : pj_Loc} {a0 a1 : Option Value} {x : Int32} (h : pj_long a1 = false) {o9 : Option Value × pj_Mem} : pj_Ends 78 (34, a0 :: a1 :: some (.int x) :: l, st, M) o9 = pj_Ends 78 (37, a0 :: a1 :: some (.int (x + 1)) :: l, st, M) o9 := pj_xs (s78_34 h)
theorem q78_37 : pj_row 78 37 = some (.goto (-26), 3, 11, 0, 0) := by decide +kernel
theorem s78_37 {L : pj_Loc} {st : List Value} {M : pj_Mem}  : pj_step 78 (37, L, st, M) = some (11, L, st, M) := st_goto q78_37
theorem x78_37 {L : pj_Loc} {st : List Value} {M : pj_Mem}  {o9 : Option Value × pj_Mem} : pj_Ends 78 (37, L, st, M) o9 = pj_Ends 78 (11, L, st, M) o9 := pj_xs (s78_37)
theorem q78_40 : pj_row 78 40 = some (.aload_n 0, 1, 0, 0, 0) := by decide +kernel
theorem s78_40 {st : List Value} {M : pj_Mem} {l : pj_Loc} {x : Nat} : pj_step 78 (40, some (.ref x) :: l, st, M) = some (41, some (.ref x) :: l, .ref x :: st, M) := st_aload_n q78_40 rfl
theorem x78_40 {st : List Value} {M : pj_Mem} {l : pj_Loc} {x : Nat} {o9 : Option Value × pj_Mem} : pj_Ends 78 (40, some (.ref x) :: l, st, M) o9 = pj_Ends 78 (41, some (.ref x) :: l, .ref x :: st, M) o9 := pj_xs (s78_40)
theorem q78_41 : pj_row 78 41 = some (.dup, 1, 0, 0, 0) := by decide +kernel
theorem s78_41 {L : pj_Loc} {st : List Value} {M : pj_Mem} {x : Nat} : pj_step 78 (41, L, .ref x :: st, M) = some (42, L, .ref x :: .ref x :: st, M) := st_dup_ref q78_41
theorem x78_41 {L : pj_Loc} {st : List Value} {M : pj_Mem} {x : Nat} {o9 : Option Value × pj_Mem} : pj_Ends 78 (41, L, .ref x :: st, M) o9 = pj_Ends 78 (42, L, .ref x :: .ref x :: st, M) o9 := pj_xs (s78_41)
theorem s78_41i {L : pj_Loc} {st : List Value} {M : pj_Mem} {x : Int32} : pj_step 78 (41, L, .int x :: st, M) = some (42, L, .int x :: .int x :: st, M) := st_dup_int q78_41
theorem x78_41i {L : pj_Loc} {st : List Value} {M : pj_Mem} {x : Int32} {o9 : Option Value × pj_Mem} : pj_Ends 78 (41, L, .int x :: st, M) o9 = pj_Ends 78 (42, L, .int x :: .int x :: st, M) o9 := pj_xs (s78_41i)
theorem q78_42 : pj_row 78 42 = some (.getfield 34, 3, 6, 3, 0) := by decide +kernel
theorem s78_42 {L : pj_Loc} {st : List Value} {N S : Nat} {H : pj_Heap} {o : Nat} : pj_step 78 (42, L, .ref o :: st, (N, S, H)) = pj_pv 45 L st (N, S, H) (pj_fld (H o) 6 3) := st_getfield q78_42
theorem x78_42 {L : pj_Loc} {st : List Value} {N S : Nat} {H : pj_Heap} {o : Nat} {o9 : Option Value × pj_Mem} : pj_Ends 78 (42, L, .ref o :: st, (N, S, H)) o9 = pj_then 78 o9 (pj_pv 45 L st (N, S, H) (pj_fld (H o) 6 3)) := pj_xt q78_42 rfl (pj_cl_nc rfl) (s78_42)
theorem q78_45 : pj_row 78 45 = some (.iconst 1, 1, 0, 0, 0) := by decide +kernel
theorem s78_45 {L : pj_Loc} {st : List Value} {M : pj_Mem}  : pj_step 78 (45, L, st, M) = some (46, L, .int 1 :: st, M) := st_iconst q78_45 (by decide +kernel)
theorem x78_45 {L : pj_Loc} {st : List Value} {M : pj_Mem}  {o9 : Option Value × pj_Mem} : pj_Ends 78 (45, L, st, M) o9 = pj_Ends 78 (46, L, .int 1 :: st, M) o9 := pj_xs (s78_45)
theorem q78_46 : pj_row 78 46 = some (.isub, 1, 0, 0, 0) := by decide +kernel
theorem s78_46 {L : pj_Loc} {st : List Value} {M : pj_Mem} {x y : Int32} : pj_step 78 (46, L, .int y :: .int x :: st, M) = some (47, L, .int (x - y) :: st, M) := st_isub q78_46
theorem x78_46 {L : pj_Loc} {st : List Value} {M : pj_Mem} {x y : Int32} {o9 : Option Value × pj_Mem} : pj_Ends 78 (46, L, .int y :: .int x :: st, M) o9 = pj_Ends 78 (47, L, .int (x - y) :: st, M) o9 := pj_xs (s78_46)
theorem q78_47 : pj_row 78 47 = some (.putfield 34, 3, 6, 3, 0) := by decide +kernel
theorem s78_47 {L : pj_Loc} {st : List Value} {N S : Nat} {H : pj_Heap} {o : Nat} {v : Value} : pj_step 78 (47, L, v :: .ref o :: st, (N, S, H)) = pj_set 50 L st (N, S, H) o (pj_fset (H o) 6 3 v) := st_putfield q78_47
theorem x78_47 {L : pj_Loc} {st : List Value} {N S : Nat} {H : pj_Heap} {o : Nat} {v : Value} {o9 : Option Value × pj_Mem} : pj_Ends 78 (47, L, v :: .ref o :: st, (N, S, H)) o9 = pj_then 78 o9 (pj_set 50 L st (N, S, H) o (pj_fset (H o) 6 3 v)) := pj_xt q78_47 rfl (pj_cl_nc rfl) (s78_47)
theorem q78_50 : pj_row 78 50 = some (.iconst 0, 1, 0, 0, 0) := by decide +kernel
theorem s78_50 {L : pj_Loc} {st : List Value} {M : pj_Mem}  : pj_step 78 (50, L, st, M) = some (51, L, .int 0 :: st, M) := st_iconst q78_50 (by decide +kernel)
theorem x78_50 {L : pj_Loc} {st : List Value} {M : pj_Mem}  {o9 : Option Value × pj_Mem} : pj_Ends 78 (50, L, st, M) o9 = pj_Ends 78 (51, L, .int 0 :: st, M) o9 := pj_xs (s78_50)
theorem q78_51 : pj_row 78 51 = some (.istore_n 2, 1, 0, 0, 0) := by decide +kernel
theorem s78_51 {st : List Value} {M : pj_Mem} {l : pj_Loc} {a0 a1 a2 : Option Value} {x : Int32} (h : pj_long a1 = false) : pj_step 78 (51, a0 :: a1 :: a2 :: l, .int x :: st, M) = some (52, a0 :: a1 :: some (.int x) :: l, st, M) := st_istore_n q78_51 (pj_st_2 h)
theorem x78_51 {st : List Value} {M : pj_Mem} {l : pj_Loc} {a0 a1 a2 : Option Value} {x : Int32} (h : pj_long a1 = false) {o9 : Option Value × pj_Mem} : pj_Ends 78 (51, a0 :: a1 :: a2 :: l, .int x :: st, M) o9 = pj_Ends 78 (52, a0 :: a1 :: some (.int x) :: l, st, M) o9 := pj_xs (s78_51 h)
theorem q78_52 : pj_row 78 52 = some (.iload_n 2, 1, 0, 0, 0) := by decide +kernel
theorem s78_52 {st : List Value} {M : pj_Mem} {l : pj_Loc} {a0 a1 : Option Value} {x : Int32} : pj_step 78 (52, a0 :: a1 :: some (.int x) :: l, st, M) = some (53, a0 :: a1 :: some (.int x) :: l, .int x :: st, M) := st_iload_n q78_52 rfl
theorem x78_52 {st : List Value} {M : pj_Mem} {l : pj_Loc} {a0 a1 : Option Value} {x : Int32} {o9 : Option Value × pj_Mem} : pj_Ends 78 (52, a0 :: a1 :: some (.int x) :: l, st, M) o9 = pj_Ends 78 (53, a0 :: a1 :: some (.int x) :: l, .int x :: st, M) o9 := pj_xs (s78_52)
theorem q78_53 : pj_row 78 53 = some (.sipush 152, 3, 0, 0, 0) := by decide +kernel
theorem s78_53 {L : pj_Loc} {st : List Value} {M : pj_Mem}  : pj_step 78 (53, L, st, M) = some (56, L, .int 152 :: st, M) := st_sipush q78_53 (by decide +kernel)
theorem x78_53 {L : pj_Loc} {st : List Value} {M : pj_Mem}  {o9 : Option Value × pj_Mem} : pj_Ends 78 (53, L, st, M) o9 = pj_Ends 78 (56, L, .int 152 :: st, M) o9 := pj_xs (s78_53)
theorem q78_56 : pj_row 78 56 = some (.if_icmp .ge 30, 3, 86, 0, 0) := by decide +kernel
theorem s78_56 {L : pj_Loc} {st : List Value} {M : pj_Mem} {x y : Int32} : pj_step 78 (56, L, .int y :: .int x :: st, M) = some (if y ≤ x then 86 else 59, L, st, M) := st_icmp_ge q78_56
theorem x78_56 {L : pj_Loc} {st : List Value} {M : pj_Mem} {x y : Int32} {o9 : Option Value × pj_Mem} : pj_Ends 78 (56, L, .int y :: .int x :: st, M) o9 = pj_Ends 78 (if y ≤ x then 86 else 59, L, st, M) o9 := pj_xs (s78_56)
theorem q78_59 : pj_row 78 59 = some (.aload_n 0, 1, 0, 0, 0) := by decide +kernel
theorem s78_59 {st : List Value} {M : pj_Mem} {l : pj_Loc} {x : Nat} : pj_step 78 (59, some (.ref x) :: l, st, M) = some (60, some (.ref x) :: l, .ref x :: st, M) := st_aload_n q78_59 rfl
theorem x78_59 {st : List Value} {M : pj_Mem} {l : pj_Loc} {x : Nat} {o9 : Option Value × pj_Mem} : pj_Ends 78 (59, some (.ref x) :: l, st, M) o9 = pj_Ends 78 (60, some (.ref x) :: l, .ref x :: st, M) o9 := pj_xs (s78_59)
theorem q78_60 : pj_row 78 60 = some (.getfield 16, 3, 6, 2, 0) := by decide +kernel
theorem s78_60 {L : pj_Loc} {st : List Value} {N S : Nat} {H : pj_Heap} {o : Nat} : pj_step 78 (60, L, .ref o :: st, (N, S, H)) = pj_pv 63 L st (N, S, H) (pj_fld (H o) 6 2) := st_getfield q78_60
theorem x78_60 {L : pj_Loc} {st : List Value} {N S : Nat} {H : pj_Heap} {o : Nat} {o9 : Option Value × pj_Mem} : pj_Ends 78 (60, L, .ref o :: st, (N, S, H)) o9 = pj_then 78 o9 (pj_pv 63 L st (N, S, H) (pj_fld (H o) 6 2)) := pj_xt q78_60 rfl (pj_cl_nc rfl) (s78_60)
theorem q78_63 : pj_row 78 63 = some (.sipush 152, 3, 0, 0, 0) := by decide +kernel
theorem s78_63 {L : pj_Loc} {st : List Value} {M : pj_Mem}  : pj_step 78 (63, L, st, M) = some (66, L, .int 152 :: st, M) := st_sipush q78_63 (by decide +kernel)
theorem x78_63 {L : pj_Loc} {st : List Value} {M : pj_Mem}  {o9 : Option Value × pj_Mem} : pj_Ends 78 (63, L, st, M) o9 = pj_Ends 78 (66, L, .int 152 :: st, M) o9 := pj_xs (s78_63)
theorem q78_66 : pj_row 78 66 = some (.aload_n 0, 1, 0, 0, 0) := by decide +kernel
theorem s78_66 {st : List Value} {M : pj_Mem} {l : pj_Loc} {x : Nat} : pj_step 78 (66, some (.ref x) :: l, st, M) = some (67, some (.ref x) :: l, .ref x :: st, M) := st_aload_n q78_66 rfl
theorem x78_66 {st : List Value} {M : pj_Mem} {l : pj_Loc} {x : Nat} {o9 : Option Value × pj_Mem} : pj_Ends 78 (66, some (.ref x) :: l, st, M) o9 = pj_Ends 78 (67, some (.ref x) :: l, .ref x :: st, M) o9 := pj_xs (s78_66)
theorem q78_67 : pj_row 78 67 = some (.getfield 34, 3, 6, 3, 0) := by decide +kernel
theorem s78_67 {L : pj_Loc} {st : List Value} {N S : Nat} {H : pj_Heap} {o : Nat} : pj_step 78 (67, L, .ref o :: st, (N, S, H)) = pj_pv 70 L st (N, S, H) (pj_fld (H o) 6 3) := st_getfield q78_67
theorem x78_67 {L : pj_Loc} {st : List Value} {N S : Nat} {H : pj_Heap} {o : Nat} {o9 : Option Value × pj_Mem} : pj_Ends 78 (67, L, .ref o :: st, (N, S, H)) o9 = pj_then 78 o9 (pj_pv 70 L st (N, S, H) (pj_fld (H o) 6 3)) := pj_xt q78_67 rfl (pj_cl_nc rfl) (s78_67)
theorem q78_70 : pj_row 78 70 = some (.imul, 1, 0, 0, 0) := by decide +kernel
theorem s78_70 {L : pj_Loc} {st : List Value} {M : pj_Mem} {x y : Int32} : pj_step 78 (70, L, .int y :: .int x :: st, M) = some (71, L, .int (x * y) :: st, M) := st_imul q78_70
theorem x78_70 {L : pj_Loc} {st : List Value} {M : pj_Mem} {x y : Int32} {o9 : Option Value × pj_Mem} : pj_Ends 78 (70, L, .int y :: .int x :: st, M) o9 = pj_Ends 78 (71, L, .int (x * y) :: st, M) o9 := pj_xs (s78_70)
theorem q78_71 : pj_row 78 71 = some (.iload_n 2, 1, 0, 0, 0) := by decide +kernel
theorem s78_71 {st : List Value} {M : pj_Mem} {l : pj_Loc} {a0 a1 : Option Value} {x : Int32} : pj_step 78 (71, a0 :: a1 :: some (.int x) :: l, st, M) = some (72, a0 :: a1 :: some (.int x) :: l, .int x :: st, M) := st_iload_n q78_71 rfl
theorem x78_71 {st : List Value} {M : pj_Mem} {l : pj_Loc} {a0 a1 : Option Value} {x : Int32} {o9 : Option Value × pj_Mem} : pj_Ends 78 (71, a0 :: a1 :: some (.int x) :: l, st, M) o9 = pj_Ends 78 (72, a0 :: a1 :: some (.int x) :: l, .int x :: st, M) o9 := pj_xs (s78_71)
theorem q78_72 : pj_row 78 72 = some (.iadd, 1, 0, 0, 0) := by decide +kernel
theorem s78_72 {L : pj_Loc} {st : List Value} {M : pj_Mem} {x y : Int32} : pj_step 78 (72, L, .int y :: .int x :: st, M) = some (73, L, .int (x + y) :: st, M) := st_iadd q78_72
theorem x78_72 {L : pj_Loc} {st : List Value} {M : pj_Mem} {x y : Int32} {o9 : Option Value × pj_Mem} : pj_Ends 78 (72, L, .int y :: .int x :: st, M) o9 = pj_Ends 78 (73, L, .int (x + y) :: st, M) o9 := pj_xs (s78_72)
theorem q78_73 : pj_row 78 73 = some (.aload_n 0, 1, 0, 0, 0) := by decide +kernel
theorem s78_73 {st : List Value} {M : pj_Mem} {l : pj_Loc} {x : Nat} : pj_step 78 (73, some (.ref x) :: l, st, M) = some (74, some (.ref x) :: l, .ref x :: st, M) := st_aload_n q78_73 rfl
theorem x78_73 {st : List Value} {M : pj_Mem} {l : pj_Loc} {x : Nat} {o9 : Option Value × pj_Mem} : pj_Ends 78 (73, some (.ref x) :: l, st, M) o9 = pj_Ends 78 (74, some (.ref x) :: l, .ref x :: st, M) o9 := pj_xs (s78_73)
theorem q78_74 : pj_row 78 74 = some (.getfield 13, 3, 6, 1, 0) := by decide +kernel
theorem s78_74 {L : pj_Loc} {st : List Value} {N S : Nat} {H : pj_Heap} {o : Nat} : pj_step 78 (74, L, .ref o :: st, (N, S, H)) = pj_pv 77 L st (N, S, H) (pj_fld (H o) 6 1) := st_getfield q78_74
theorem x78_74 {L : pj_Loc} {st : List Value} {N S : Nat} {H : pj_Heap} {o : Nat} {o9 : Option Value × pj_Mem} : pj_Ends 78 (74, L, .ref o :: st, (N, S, H)) o9 = pj_then 78 o9 (pj_pv 77 L st (N, S, H) (pj_fld (H o) 6 1)) := pj_xt q78_74 rfl (pj_cl_nc rfl) (s78_74)
theorem q78_77 : pj_row 78 77 = some (.iload_n 2, 1, 0, 0, 0) := by decide +kernel
theorem s78_77 {st : List Value} {M : pj_Mem} {l : pj_Loc} {a0 a1 : Option Value} {x : Int32} : pj_step 78 (77, a0 :: a1 :: some (.int x) :: l, st, M) = some (78, a0 :: a1 :: some (.int x) :: l, .int x :: st, M) := st_iload_n q78_77 rfl
theorem x78_77 {st : List Value} {M : pj_Mem} {l : pj_Loc} {a0 a1 : Option Value} {x : Int32} {o9 : Option Value × pj_Mem} : pj_Ends 78 (77, a0 :: a1 :: some (.int x) :: l, st, M) o9 = pj_Ends 78 (78, a0 :: a1 :: some (.int x) :: l, .int x :: st, M) o9 := pj_xs (s78_77)
theorem q78_78 : pj_row 78 78 = some (.iaload, 1, 0, 0, 0) := by decide +kernel
theorem s78_78 {L : pj_Loc} {st : List Value} {N S : Nat} {H : pj_Heap} {o : Nat} {i : Int32} : pj_step 78 (78, L, .int i :: .ref o :: st, (N, S, H)) = pj_pi 79 L st (N, S, H) (pj_arl (H o) 0 i) := st_iaload q78_78
theorem x78_78 {L : pj_Loc} {st : List Value} {N S : Nat} {H : pj_Heap} {o : Nat} {i : Int32} {o9 : Option Value × pj_Mem} : pj_Ends 78 (78, L, .int i :: .ref o :: st, (N, S, H)) o9 = pj_then 78 o9 (pj_pi 79 L st (N, S, H) (pj_arl (H o) 0 i)) := pj_xt q78_78 rfl (pj_cl_nc rfl) (s78_78)
theorem q78_79 : pj_row 78 79 = some (.iastore, 1, 0, 0, 0) := by decide +kernel
theorem s78_79 {L : pj_Loc} {st : List Value} {N S : Nat} {H : pj_Heap} {o : Nat} {i x : Int32} : pj_step 78 (79, L, .int x :: .int i :: .ref o :: st, (N, S, H)) = pj_set 80 L st (N, S, H) o (pj_ars (H o) 0 i x) := st_iastore q78_79
theorem x78_79 {L : pj_Loc} {st : List Value} {N S : Nat} {H : pj_Heap} {o : Nat} {i x : Int32} {o9 : Option Value × pj_Mem} : pj_Ends 78 (79, L, .int x :: .int i :: .ref o :: st, (N, S, H)) o9 = pj_then 78 o9 (pj_set 80 L st (N, S, H) o (pj_ars (H o) 0 i x)) := pj_xt q78_79 rfl (pj_cl_nc rfl) (s78_79)
theorem q78_80 : pj_row 78 80 = some (.iinc 2 1, 3, 0, 0, 0) := by decide +kernel
theorem s78_80 {st : List Value} {M : pj_Mem} {l : pj_Loc} {a0 a1 : Option Value} {x : Int32} (h : pj_long a1 = false) : pj_step 78 (80, a0 :: a1 :: some (.int x) :: l, st, M) = some (83, a0 :: a1 :: some (.int (x + 1)) :: l, st, M) := st_iinc q78_80 rfl (congrArg (fun y => x + y) (show Int32.ofInt 1 = 1 by decide +kernel)) (pj_st_2 h)
theorem x78_80 {st : List Value} {M : pj_Mem} {l : pj_Loc} {a0 a1 : Option Value} {x : Int32} (h : pj_long a1 = false) {o9 : Option Value × pj_Mem} : pj_Ends 78 (80, a0 :: a1 :: some (.int x) :: l, st, M) o9 = pj_Ends 78 (83, a0 :: a1 :: some (.int (x + 1)) :: l, st, M) o9 := pj_xs (s78_80 h)
theorem q78_83 : pj_row 78 83 = some (.goto (-31), 3, 52, 0, 0) := by decide +kernel
theorem s78_83 {L : pj_Loc} {st : List Value} {M : pj_Mem}  : pj_step 78 (83, L, st, M) = some (52, L, st, M) := st_goto q78_83
theorem x78_83 {L : pj_Loc} {st : List Value} {M : pj_Mem}  {o9 : Option Value × pj_Mem} : pj_Ends 78 (83, L, st, M) o9 = pj_Ends 78 (52, L, st, M) o9 := pj_xs (s78_83)
theorem q78_86 : pj_row 78 86 = some (.aload_n 0, 1, 0, 0, 0) := by decide +kernel
theorem s78_86 {st : List Value} {M : pj_Mem} {l : pj_Loc} {x : Nat} : pj_step 78 (86, some (.ref x) :: l, st, M) = some (87, some (.ref x) :: l, .ref x :: st, M) := st_aload_n q78_86 rfl
theorem x78_86 {st : List Value} {M : pj_Mem} {l : pj_Loc} {x : Nat} {o9 : Option Value × pj_Mem} : pj_Ends 78 (86, some (.ref x) :: l, st, M) o9 = pj_Ends 78 (87, some (.ref x) :: l, .ref x :: st, M) o9 := pj_xs (s78_86)
theorem q78_87 : pj_row 78 87 = some (.dup, 1, 0, 0, 0) := by decide +kernel
theorem s78_87 {L : pj_Loc} {st : List Value} {M : pj_Mem} {x : Nat} : pj_step 78 (87, L, .ref x :: st, M) = some (88, L, .ref x :: .ref x :: st, M) := st_dup_ref q78_87
theorem x78_87 {L : pj_Loc} {st : List Value} {M : pj_Mem} {x : Nat} {o9 : Option Value × pj_Mem} : pj_Ends 78 (87, L, .ref x :: st, M) o9 = pj_Ends 78 (88, L, .ref x :: .ref x :: st, M) o9 := pj_xs (s78_87)
theorem s78_87i {L : pj_Loc} {st : List Value} {M : pj_Mem} {x : Int32} : pj_step 78 (87, L, .int x :: st, M) = some (88, L, .int x :: .int x :: st, M) := st_dup_int q78_87
theorem x78_87i {L : pj_Loc} {st : List Value} {M : pj_Mem} {x : Int32} {o9 : Option Value × pj_Mem} : pj_Ends 78 (87, L, .int x :: st, M) o9 = pj_Ends 78 (88, L, .int x :: .int x :: st, M) o9 := pj_xs (s78_87i)
theorem q78_88 : pj_row 78 88 = some (.getfield 34, 3, 6, 3, 0) := by decide +kernel
theorem s78_88 {L : pj_Loc} {st : List Value} {N S : Nat} {H : pj_Heap} {o : Nat} : pj_step 78 (88, L, .ref o :: st, (N, S, H)) = pj_pv 91 L st (N, S, H) (pj_fld (H o) 6 3) := st_getfield q78_88
theorem x78_88 {L : pj_Loc} {st : List Value} {N S : Nat} {H : pj_Heap} {o : Nat} {o9 : Option Value × pj_Mem} : pj_Ends 78 (88, L, .ref o :: st, (N, S, H)) o9 = pj_then 78 o9 (pj_pv 91 L st (N, S, H) (pj_fld (H o) 6 3)) := pj_xt q78_88 rfl (pj_cl_nc rfl) (s78_88)
theorem q78_91 : pj_row 78 91 = some (.iconst 1, 1, 0, 0, 0) := by decide +kernel
theorem s78_91 {L : pj_Loc} {st : List Value} {M : pj_Mem}  : pj_step 78 (91, L, st, M) = some (92, L, .int 1 :: st, M) := st_iconst q78_91 (by decide +kernel)
theorem x78_91 {L : pj_Loc} {st : List Value} {M : pj_Mem}  {o9 : Option Value × pj_Mem} : pj_Ends 78 (91, L, st, M) o9 = pj_Ends 78 (92, L, .int 1 :: st, M) o9 := pj_xs (s78_91)
theorem q78_92 : pj_row 78 92 = some (.iadd, 1, 0, 0, 0) := by decide +kernel
theorem s78_92 {L : pj_Loc} {st : List Value} {M : pj_Mem} {x y : Int32} : pj_step 78 (92, L, .int y :: .int x :: st, M) = some (93, L, .int (x + y) :: st, M) := st_iadd q78_92
theorem x78_92 {L : pj_Loc} {st : List Value} {M : pj_Mem} {x y : Int32} {o9 : Option Value × pj_Mem} : pj_Ends 78 (92, L, .int y :: .int x :: st, M) o9 = pj_Ends 78 (93, L, .int (x + y) :: st, M) o9 := pj_xs (s78_92)
theorem q78_93 : pj_row 78 93 = some (.putfield 34, 3, 6, 3, 0) := by decide +kernel
theorem s78_93 {L : pj_Loc} {st : List Value} {N S : Nat} {H : pj_Heap} {o : Nat} {v : Value} : pj_step 78 (93, L, v :: .ref o :: st, (N, S, H)) = pj_set 96 L st (N, S, H) o (pj_fset (H o) 6 3 v) := st_putfield q78_93
theorem x78_93 {L : pj_Loc} {st : List Value} {N S : Nat} {H : pj_Heap} {o : Nat} {v : Value} {o9 : Option Value × pj_Mem} : pj_Ends 78 (93, L, v :: .ref o :: st, (N, S, H)) o9 = pj_then 78 o9 (pj_set 96 L st (N, S, H) o (pj_fset (H o) 6 3 v)) := pj_xt q78_93 rfl (pj_cl_nc rfl) (s78_93)
theorem q78_96 : pj_row 78 96 = some (.iload_n 1, 1, 0, 0, 0) := by decide +kernel
theorem s78_96 {st : List Value} {M : pj_Mem} {l : pj_Loc} {a0 : Option Value} {x : Int32} : pj_step 78 (96, a0 :: some (.int x) :: l, st, M) = some (97, a0 :: some (.int x) :: l, .int x :: st, M) := st_iload_n q78_96 rfl
theorem x78_96 {st : List Value} {M : pj_Mem} {l : pj_Loc} {a0 : Option Value} {x : Int32} {o9 : Option Value × pj_Mem} : pj_Ends 78 (96, a0 :: some (.int x) :: l, st, M) o9 = pj_Ends 78 (97, a0 :: some (.int x) :: l, .int x :: st, M) o9 := pj_xs (s78_96)
theorem q78_97 : pj_row 78 97 = some (.ireturn, 1, 0, 0, 0) := by decide +kernel
theorem t78_97 {L : pj_Loc} {M : pj_Mem} {v : Int32} : pj_Ends 78 (97, L, [.int v], M) (some (.int v), M) := pj_Ends.ret q78_97 (pj_rtn_i rt78)
theorem rt79 : pj_rt 79 = some .int := rfl
theorem q79_0 : pj_row 79 0 = some (.iload_n 1, 1, 0, 0, 0) := by decide +kernel
theorem s79_0 {st : List Value} {M : pj_Mem} {l : pj_Loc} {a0 : Option Value} {x : Int32} : pj_step 79 (0, a0 :: some (.int x) :: l, st, M) = some (1, a0 :: some (.int x) :: l, .int x :: st, M) := st_iload_n q79_0 rfl
theorem x79_0 {st : List Value} {M : pj_Mem} {l : pj_Loc} {a0 : Option Value} {x : Int32} {o9 : Option Value × pj_Mem} : pj_Ends 79 (0, a0 :: some (.int x) :: l, st, M) o9 = pj_Ends 79 (1, a0 :: some (.int x) :: l, .int x :: st, M) o9 := pj_xs (s79_0)
theorem q79_1 : pj_row 79 1 = some (.invokestatic 127, 3, 80, 1, 0) := by decide +kernel
theorem e79_1 {L : pj_Loc} {st : List Value} {N S : Nat} {H : pj_Heap} {o : Option Value × pj_Mem} {M' : pj_Mem} {x0 : Int32} {r : Int32} (h4 : pj_le4 st = true) (h1 : pj_Ends 80 (0, [some (.int x0)], [], (N, S, H)) (some (.int r), M')) (h2 : pj_Ends 79 (4, L, .int r :: st, M') o) : pj_Ends 79 (1, L, .int x0 :: st, (N, S, H)) o := ec_s1 q79_1 (Or.inl rfl) h4 rfl h1 h2
theorem q79_4 : pj_row 79 4 = some (.ifCond .eq 17, 3, 21, 0, 0) := by decide +kernel
theorem s79_4 {L : pj_Loc} {st : List Value} {M : pj_Mem} {x : Int32} : pj_step 79 (4, L, .int x :: st, M) = some (if x = 0 then 21 else 7, L, st, M) := st_if_eq q79_4
theorem x79_4 {L : pj_Loc} {st : List Value} {M : pj_Mem} {x : Int32} {o9 : Option Value × pj_Mem} : pj_Ends 79 (4, L, .int x :: st, M) o9 = pj_Ends 79 (if x = 0 then 21 else 7, L, st, M) o9 := pj_xs (s79_4)
theorem q79_7 : pj_row 79 7 = some (.iload_n 2, 1, 0, 0, 0) := by decide +kernel
theorem s79_7 {st : List Value} {M : pj_Mem} {l : pj_Loc} {a0 a1 : Option Value} {x : Int32} : pj_step 79 (7, a0 :: a1 :: some (.int x) :: l, st, M) = some (8, a0 :: a1 :: some (.int x) :: l, .int x :: st, M) := st_iload_n q79_7 rfl
theorem x79_7 {st : List Value} {M : pj_Mem} {l : pj_Loc} {a0 a1 : Option Value} {x : Int32} {o9 : Option Value × pj_Mem} : pj_Ends 79 (7, a0 :: a1 :: some (.int x) :: l, st, M) o9 = pj_Ends 79 (8, a0 :: a1 :: some (.int x) :: l, .int x :: st, M) o9 := pj_xs (s79_7)
theorem q79_8 : pj_row 79 8 = some (.invokestatic 127, 3, 80, 1, 0) := by decide +kernel
theorem e79_8 {L : pj_Loc} {st : List Value} {N S : Nat} {H : pj_Heap} {o : Option Value × pj_Mem} {M' : pj_Mem} {x0 : Int32} {r : Int32} (h4 : pj_le4 st = true) (h1 : pj_Ends 80 (0, [some (.int x0)], [], (N, S, H)) (some (.int r), M')) (h2 : pj_Ends 79 (11, L, .int r :: st, M') o) : pj_Ends 79 (8, L, .int x0 :: st, (N, S, H)) o := ec_s1 q79_8 (Or.inl rfl) h4 rfl h1 h2
theorem q79_11 : pj_row 79 11 = some (.ifCond .eq 10, 3, 21, 0, 0) := by decide +kernel
theorem s79_11 {L : pj_Loc} {st : List Value} {M : pj_Mem} {x : Int32} : pj_step 79 (11, L, .int x :: st, M) = some (if x = 0 then 21 else 14, L, st, M) := st_if_eq q79_11
theorem x79_11 {L : pj_Loc} {st : List Value} {M : pj_Mem} {x : Int32} {o9 : Option Value × pj_Mem} : pj_Ends 79 (11, L, .int x :: st, M) o9 = pj_Ends 79 (if x = 0 then 21 else 14, L, st, M) o9 := pj_xs (s79_11)
theorem q79_14 : pj_row 79 14 = some (.iload_n 3, 1, 0, 0, 0) := by decide +kernel
theorem s79_14 {st : List Value} {M : pj_Mem} {l : pj_Loc} {a0 a1 a2 : Option Value} {x : Int32} : pj_step 79 (14, a0 :: a1 :: a2 :: some (.int x) :: l, st, M) = some (15, a0 :: a1 :: a2 :: some (.int x) :: l, .int x :: st, M) := st_iload_n q79_14 rfl
theorem x79_14 {st : List Value} {M : pj_Mem} {l : pj_Loc} {a0 a1 a2 : Option Value} {x : Int32} {o9 : Option Value × pj_Mem} : pj_Ends 79 (14, a0 :: a1 :: a2 :: some (.int x) :: l, st, M) o9 = pj_Ends 79 (15, a0 :: a1 :: a2 :: some (.int x) :: l, .int x :: st, M) o9 := pj_xs (s79_14)
theorem q79_15 : pj_row 79 15 = some (.invokestatic 127, 3, 80, 1, 0) := by decide +kernel
theorem e79_15 {L : pj_Loc} {st : List Value} {N S : Nat} {H : pj_Heap} {o : Option Value × pj_Mem} {M' : pj_Mem} {x0 : Int32} {r : Int32} (h4 : pj_le4 st = true) (h1 : pj_Ends 80 (0, [some (.int x0)], [], (N, S, H)) (some (.int r), M')) (h2 : pj_Ends 79 (18, L, .int r :: st, M') o) : pj_Ends 79 (15, L, .int x0 :: st, (N, S, H)) o := ec_s1 q79_15 (Or.inl rfl) h4 rfl h1 h2
theorem q79_18 : pj_row 79 18 = some (.ifCond .ne 6, 3, 24, 0, 0) := by decide +kernel
theorem s79_18 {L : pj_Loc} {st : List Value} {M : pj_Mem} {x : Int32} : pj_step 79 (18, L, .int x :: st, M) = some (if ¬ x = 0 then 24 else 21, L, st, M) := st_if_ne q79_18
theorem x79_18 {L : pj_Loc} {st : List Value} {M : pj_Mem} {x : Int32} {o9 : Option Value × pj_Mem} : pj_Ends 79 (18, L, .int x :: st, M) o9 = pj_Ends 79 (if ¬ x = 0 then 24 else 21, L, st, M) o9 := pj_xs (s79_18)
theorem q79_21 : pj_row 79 21 = some (.bipush (-2), 2, 0, 0, 0) := by decide +kernel
theorem s79_21 {L : pj_Loc} {st : List Value} {M : pj_Mem}  : pj_step 79 (21, L, st, M) = some (23, L, .int (-2) :: st, M) := st_bipush q79_21 (by decide +kernel)
theorem x79_21 {L : pj_Loc} {st : List Value} {M : pj_Mem}  {o9 : Option Value × pj_Mem} : pj_Ends 79 (21, L, st, M) o9 = pj_Ends 79 (23, L, .int (-2) :: st, M) o9 := pj_xs (s79_21)
theorem q79_23 : pj_row 79 23 = some (.ireturn, 1, 0, 0, 0) := by decide +kernel
theorem t79_23 {L : pj_Loc} {M : pj_Mem} {v : Int32} : pj_Ends 79 (23, L, [.int v], M) (some (.int v), M) := pj_Ends.ret q79_23 (pj_rtn_i rt79)
theorem q79_24 : pj_row 79 24 = some (.aload_n 0, 1, 0, 0, 0) := by decide +kernel
theorem s79_24 {st : List Value} {M : pj_Mem} {l : pj_Loc} {x : Nat} : pj_step 79 (24, some (.ref x) :: l, st, M) = some (25, some (.ref x) :: l, .ref x :: st, M) := st_aload_n q79_24 rfl
theorem x79_24 {st : List Value} {M : pj_Mem} {l : pj_Loc} {x : Nat} {o9 : Option Value × pj_Mem} : pj_Ends 79 (24, some (.ref x) :: l, st, M) o9 = pj_Ends 79 (25, some (.ref x) :: l, .ref x :: st, M) o9 := pj_xs (s79_24)
theorem q79_25 : pj_row 79 25 = some (.getfield 7, 3, 6, 0, 0) := by decide +kernel
theorem s79_25 {L : pj_Loc} {st : List Value} {N S : Nat} {H : pj_Heap} {o : Nat} : pj_step 79 (25, L, .ref o :: st, (N, S, H)) = pj_pv 28 L st (N, S, H) (pj_fld (H o) 6 0) := st_getfield q79_25
theorem x79_25 {L : pj_Loc} {st : List Value} {N S : Nat} {H : pj_Heap} {o : Nat} {o9 : Option Value × pj_Mem} : pj_Ends 79 (25, L, .ref o :: st, (N, S, H)) o9 = pj_then 79 o9 (pj_pv 28 L st (N, S, H) (pj_fld (H o) 6 0)) := pj_xt q79_25 rfl (pj_cl_nc rfl) (s79_25)
theorem q79_28 : pj_row 79 28 = some (.bipush 6, 2, 0, 0, 0) := by decide +kernel
theorem s79_28 {L : pj_Loc} {st : List Value} {M : pj_Mem}  : pj_step 79 (28, L, st, M) = some (30, L, .int 6 :: st, M) := st_bipush q79_28 (by decide +kernel)
theorem x79_28 {L : pj_Loc} {st : List Value} {M : pj_Mem}  {o9 : Option Value × pj_Mem} : pj_Ends 79 (28, L, st, M) o9 = pj_Ends 79 (30, L, .int 6 :: st, M) o9 := pj_xs (s79_28)
theorem q79_30 : pj_row 79 30 = some (.iaload, 1, 0, 0, 0) := by decide +kernel
theorem s79_30 {L : pj_Loc} {st : List Value} {N S : Nat} {H : pj_Heap} {o : Nat} {i : Int32} : pj_step 79 (30, L, .int i :: .ref o :: st, (N, S, H)) = pj_pi 31 L st (N, S, H) (pj_arl (H o) 0 i) := st_iaload q79_30
theorem x79_30 {L : pj_Loc} {st : List Value} {N S : Nat} {H : pj_Heap} {o : Nat} {i : Int32} {o9 : Option Value × pj_Mem} : pj_Ends 79 (30, L, .int i :: .ref o :: st, (N, S, H)) o9 = pj_then 79 o9 (pj_pi 31 L st (N, S, H) (pj_arl (H o) 0 i)) := pj_xt q79_30 rfl (pj_cl_nc rfl) (s79_30)
theorem q79_31 : pj_row 79 31 = some (.ldc 81, 2, 0, 0, 100000) := by decide +kernel
theorem s79_31 {L : pj_Loc} {st : List Value} {M : pj_Mem}  : pj_step 79 (31, L, st, M) = some (33, L, .int 100000 :: st, M) := st_ldc q79_31 (by decide +kernel)
theorem x79_31 {L : pj_Loc} {st : List Value} {M : pj_Mem}  {o9 : Option Value × pj_Mem} : pj_Ends 79 (31, L, st, M) o9 = pj_Ends 79 (33, L, .int 100000 :: st, M) o9 := pj_xs (s79_31)
theorem q79_33 : pj_row 79 33 = some (.if_icmp .lt 6, 3, 39, 0, 0) := by decide +kernel
theorem s79_33 {L : pj_Loc} {st : List Value} {M : pj_Mem} {x y : Int32} : pj_step 79 (33, L, .int y :: .int x :: st, M) = some (if x < y then 39 else 36, L, st, M) := st_icmp_lt q79_33
theorem x79_33 {L : pj_Loc} {st : List Value} {M : pj_Mem} {x y : Int32} {o9 : Option Value × pj_Mem} : pj_Ends 79 (33, L, .int y :: .int x :: st, M) o9 = pj_Ends 79 (if x < y then 39 else 36, L, st, M) o9 := pj_xs (s79_33)
theorem q79_36 : pj_row 79 36 = some (.bipush (-4), 2, 0, 0, 0) := by decide +kernel
theorem s79_36 {L : pj_Loc} {st : List Value} {M : pj_Mem}  : pj_step 79 (36, L, st, M) = some (38, L, .int (-4) :: st, M) := st_bipush q79_36 (by decide +kernel)
theorem x79_36 {L : pj_Loc} {st : List Value} {M : pj_Mem}  {o9 : Option Value × pj_Mem} : pj_Ends 79 (36, L, st, M) o9 = pj_Ends 79 (38, L, .int (-4) :: st, M) o9 := pj_xs (s79_36)
theorem q79_38 : pj_row 79 38 = some (.ireturn, 1, 0, 0, 0) := by decide +kernel
theorem t79_38 {L : pj_Loc} {M : pj_Mem} {v : Int32} : pj_Ends 79 (38, L, [.int v], M) (some (.int v), M) := pj_Ends.ret q79_38 (pj_rtn_i rt79)
theorem q79_39 : pj_row 79 39 = some (.aload_n 0, 1, 0, 0, 0) := by decide +kernel
theorem s79_39 {st : List Value} {M : pj_Mem} {l : pj_Loc} {x : Nat} : pj_step 79 (39, some (.ref x) :: l, st, M) = some (40, some (.ref x) :: l, .ref x :: st, M) := st_aload_n q79_39 rfl
theorem x79_39 {st : List Value} {M : pj_Mem} {l : pj_Loc} {x : Nat} {o9 : Option Value × pj_Mem} : pj_Ends 79 (39, some (.ref x) :: l, st, M) o9 = pj_Ends 79 (40, some (.ref x) :: l, .ref x :: st, M) o9 := pj_xs (s79_39)
theorem q79_40 : pj_row 79 40 = some (.invokevirtual 121, 3, 77, 1, 0) := by decide +kernel
theorem e79_40 {L : pj_Loc} {st : List Value} {N S : Nat} {H : pj_Heap} {o : Option Value × pj_Mem} {M' : pj_Mem} {x0 : Nat} (h4 : pj_le4 st = true) (hu : pj_isU 6 (H x0) = true) (h1 : pj_Ends 77 (0, [some (.ref x0), none], [], (N, S, H)) (none, M')) (h2 : pj_Ends 79 (43, L, st, M') o) : pj_Ends 79 (40, L, .ref x0 :: st, (N, S, H)) o := ec_v1 q79_40 (Or.inl rfl) h4 hu rfl h1 h2
theorem q79_43 : pj_row 79 43 = some (.aload_n 0, 1, 0, 0, 0) := by decide +kernel
theorem s79_43 {st : List Value} {M : pj_Mem} {l : pj_Loc} {x : Nat} : pj_step 79 (43, some (.ref x) :: l, st, M) = some (44, some (.ref x) :: l, .ref x :: st, M) := st_aload_n q79_43 rfl
theorem x79_43 {st : List Value} {M : pj_Mem} {l : pj_Loc} {x : Nat} {o9 : Option Value × pj_Mem} : pj_Ends 79 (43, some (.ref x) :: l, st, M) o9 = pj_Ends 79 (44, some (.ref x) :: l, .ref x :: st, M) o9 := pj_xs (s79_43)
theorem q79_44 : pj_row 79 44 = some (.iload_n 1, 1, 0, 0, 0) := by decide +kernel
theorem s79_44 {st : List Value} {M : pj_Mem} {l : pj_Loc} {a0 : Option Value} {x : Int32} : pj_step 79 (44, a0 :: some (.int x) :: l, st, M) = some (45, a0 :: some (.int x) :: l, .int x :: st, M) := st_iload_n q79_44 rfl
theorem x79_44 {st : List Value} {M : pj_Mem} {l : pj_Loc} {a0 : Option Value} {x : Int32} {o9 : Option Value × pj_Mem} : pj_Ends 79 (44, a0 :: some (.int x) :: l, st, M) o9 = pj_Ends 79 (45, a0 :: some (.int x) :: l, .int x :: st, M) o9 := pj_xs (s79_44)
theorem q79_45 : pj_row 79 45 = some (.iload_n 2, 1, 0, 0, 0) := by decide +kernel
theorem s79_45 {st : List Value} {M : pj_Mem} {l : pj_Loc} {a0 a1 : Option Value} {x : Int32} : pj_step 79 (45, a0 :: a1 :: some (.int x) :: l, st, M) = some (46, a0 :: a1 :: some (.int x) :: l, .int x :: st, M) := st_iload_n q79_45 rfl
theorem x79_45 {st : List Value} {M : pj_Mem} {l : pj_Loc} {a0 a1 : Option Value} {x : Int32} {o9 : Option Value × pj_Mem} : pj_Ends 79 (45, a0 :: a1 :: some (.int x) :: l, st, M) o9 = pj_Ends 79 (46, a0 :: a1 :: some (.int x) :: l, .int x :: st, M) o9 := pj_xs (s79_45)
theorem q79_46 : pj_row 79 46 = some (.iload_n 3, 1, 0, 0, 0) := by decide +kernel
theorem s79_46 {st : List Value} {M : pj_Mem} {l : pj_Loc} {a0 a1 a2 : Option Value} {x : Int32} : pj_step 79 (46, a0 :: a1 :: a2 :: some (.int x) :: l, st, M) = some (47, a0 :: a1 :: a2 :: some (.int x) :: l, .int x :: st, M) := st_iload_n q79_46 rfl
theorem x79_46 {st : List Value} {M : pj_Mem} {l : pj_Loc} {a0 a1 a2 : Option Value} {x : Int32} {o9 : Option Value × pj_Mem} : pj_Ends 79 (46, a0 :: a1 :: a2 :: some (.int x) :: l, st, M) o9 = pj_Ends 79 (47, a0 :: a1 :: a2 :: some (.int x) :: l, .int x :: st, M) o9 := pj_xs (s79_46)
theorem q79_47 : pj_row 79 47 = some (.invokevirtual 130, 3, 81, 4, 0) := by decide +kernel
theorem e79_47 {L : pj_Loc} {st : List Value} {N S : Nat} {H : pj_Heap} {o : Option Value × pj_Mem} {M' : pj_Mem} {x0 : Nat} {x1 : Int32} {x2 : Int32} {x3 : Int32} (h4 : pj_le4 st = true) (hu : pj_isU 6 (H x0) = true) (h1 : pj_Ends 81 (0, [some (.ref x0), some (.int x1), some (.int x2), some (.int x3)], [], (N, S, H)) (none, M')) (h2 : pj_Ends 79 (50, L, st, M') o) : pj_Ends 79 (47, L, .int x3 :: .int x2 :: .int x1 :: .ref x0 :: st, (N, S, H)) o := ec_v4 q79_47 (Or.inl rfl) h4 hu rfl h1 h2
theorem q79_50 : pj_row 79 50 = some (.aload_n 0, 1, 0, 0, 0) := by decide +kernel
theorem s79_50 {st : List Value} {M : pj_Mem} {l : pj_Loc} {x : Nat} : pj_step 79 (50, some (.ref x) :: l, st, M) = some (51, some (.ref x) :: l, .ref x :: st, M) := st_aload_n q79_50 rfl
theorem x79_50 {st : List Value} {M : pj_Mem} {l : pj_Loc} {x : Nat} {o9 : Option Value × pj_Mem} : pj_Ends 79 (50, some (.ref x) :: l, st, M) o9 = pj_Ends 79 (51, some (.ref x) :: l, .ref x :: st, M) o9 := pj_xs (s79_50)
theorem q79_51 : pj_row 79 51 = some (.iload 4, 2, 0, 0, 0) := by decide +kernel
theorem s79_51 {st : List Value} {M : pj_Mem} {l : pj_Loc} {a0 a1 a2 a3 : Option Value} {x : Int32} : pj_step 79 (51, a0 :: a1 :: a2 :: a3 :: some (.int x) :: l, st, M) = some (53, a0 :: a1 :: a2 :: a3 :: some (.int x) :: l, .int x :: st, M) := st_iload q79_51 rfl
theorem x79_51 {st : List Value} {M : pj_Mem} {l : pj_Loc} {a0 a1 a2 a3 : Option Value} {x : Int32} {o9 : Option Value × pj_Mem} : pj_Ends 79 (51, a0 :: a1 :: a2 :: a3 :: some (.int x) :: l, st, M) o9 = pj_Ends 79 (53, a0 :: a1 :: a2 :: a3 :: some (.int x) :: l, .int x :: st, M) o9 := pj_xs (s79_51)
theorem q79_53 : pj_row 79 53 = some (.invokevirtual 134, 3, 82, 2, 0) := by decide +kernel
theorem e79_53 {L : pj_Loc} {st : List Value} {N S : Nat} {H : pj_Heap} {o : Option Value × pj_Mem} {M' : pj_Mem} {x0 : Nat} {x1 : Int32} (h4 : pj_le4 st = true) (hu : pj_isU 6 (H x0) = true) (h1 : pj_Ends 82 (0, [some (.ref x0), some (.int x1)], [], (N, S, H)) (none, M')) (h2 : pj_Ends 79 (56, L, st, M') o) : pj_Ends 79 (53, L, .int x1 :: .ref x0 :: st, (N, S, H)) o := ec_v2 q79_53 (Or.inl rfl) h4 hu rfl h1 h2
theorem q79_56 : pj_row 79 56 = some (.aload_n 0, 1, 0, 0, 0) := by decide +kernel
theorem s79_56 {st : List Value} {M : pj_Mem} {l : pj_Loc} {x : Nat} : pj_step 79 (56, some (.ref x) :: l, st, M) = some (57, some (.ref x) :: l, .ref x :: st, M) := st_aload_n q79_56 rfl
theorem x79_56 {st : List Value} {M : pj_Mem} {l : pj_Loc} {x : Nat} {o9 : Option Value × pj_Mem} : pj_Ends 79 (56, some (.ref x) :: l, st, M) o9 = pj_Ends 79 (57, some (.ref x) :: l, .ref x :: st, M) o9 := pj_xs (s79_56)
theorem q79_57 : pj_row 79 57 = some (.aload_n 0, 1, 0, 0, 0) := by decide +kernel
theorem s79_57 {st : List Value} {M : pj_Mem} {l : pj_Loc} {x : Nat} : pj_step 79 (57, some (.ref x) :: l, st, M) = some (58, some (.ref x) :: l, .ref x :: st, M) := st_aload_n q79_57 rfl
theorem x79_57 {st : List Value} {M : pj_Mem} {l : pj_Loc} {x : Nat} {o9 : Option Value × pj_Mem} : pj_Ends 79 (57, some (.ref x) :: l, st, M) o9 = pj_Ends 79 (58, some (.ref x) :: l, .ref x :: st, M) o9 := pj_xs (s79_57)
theorem q79_58 : pj_row 79 58 = some (.getfield 75, 3, 6, 11, 0) := by decide +kernel
theorem s79_58 {L : pj_Loc} {st : List Value} {N S : Nat} {H : pj_Heap} {o : Nat} : pj_step 79 (58, L, .ref o :: st, (N, S, H)) = pj_pv 61 L st (N, S, H) (pj_fld (H o) 6 11) := st_getfield q79_58
theorem x79_58 {L : pj_Loc} {st : List Value} {N S : Nat} {H : pj_Heap} {o : Nat} {o9 : Option Value × pj_Mem} : pj_Ends 79 (58, L, .ref o :: st, (N, S, H)) o9 = pj_then 79 o9 (pj_pv 61 L st (N, S, H) (pj_fld (H o) 6 11)) := pj_xt q79_58 rfl (pj_cl_nc rfl) (s79_58)
theorem q79_61 : pj_row 79 61 = some (.invokevirtual 124, 3, 78, 2, 0) := by decide +kernel
theorem e79_61 {L : pj_Loc} {st : List Value} {N S : Nat} {H : pj_Heap} {o : Option Value × pj_Mem} {M' : pj_Mem} {x0 : Nat} {x1 : Int32} {r : Int32} (h4 : pj_le4 st = true) (hu : pj_isU 6 (H x0) = true) (h1 : pj_Ends 78 (0, [some (.ref x0), some (.int x1), none], [], (N, S, H)) (some (.int r), M')) (h2 : pj_Ends 79 (64, L, .int r :: st, M') o) : pj_Ends 79 (61, L, .int x1 :: .ref x0 :: st, (N, S, H)) o := ec_v2 q79_61 (Or.inl rfl) h4 hu rfl h1 h2
theorem q79_64 : pj_row 79 64 = some (.ireturn, 1, 0, 0, 0) := by decide +kernel
theorem t79_64 {L : pj_Loc} {M : pj_Mem} {v : Int32} : pj_Ends 79 (64, L, [.int v], M) (some (.int v), M) := pj_Ends.ret q79_64 (pj_rtn_i rt79)
theorem rt80 : pj_rt 80 = some .boolean := rfl
theorem q80_0 : pj_row 80 0 = some (.iload_n 0, 1, 0, 0, 0) := by decide +kernel
theorem s80_0 {st : List Value} {M : pj_Mem} {l : pj_Loc} {x : Int32} : pj_step 80 (0, some (.int x) :: l, st, M) = some (1, some (.int x) :: l, .int x :: st, M) := st_iload_n q80_0 rfl
theorem x80_0 {st : List Value} {M : pj_Mem} {l : pj_Loc} {x : Int32} {o9 : Option Value × pj_Mem} : pj_Ends 80 (0, some (.int x) :: l, st, M) o9 = pj_Ends 80 (1, some (.int x) :: l, .int x :: st, M) o9 := pj_xs (s80_0)
theorem q80_1 : pj_row 80 1 = some (.i2l, 1, 0, 0, 0) := by decide +kernel
theorem s80_1 {L : pj_Loc} {st : List Value} {M : pj_Mem} {x : Int32} : pj_step 80 (1, L, .int x :: st, M) = some (2, L, .long x.toInt64 :: st, M) := st_i2l q80_1
theorem x80_1 {L : pj_Loc} {st : List Value} {M : pj_Mem} {x : Int32} {o9 : Option Value × pj_Mem} : pj_Ends 80 (1, L, .int x :: st, M) o9 = pj_Ends 80 (2, L, .long x.toInt64 :: st, M) o9 := pj_xs (s80_1)
theorem q80_2 : pj_row 80 2 = some (.ldc2_w 38, 3, 0, 0, (-500)) := by decide +kernel
theorem s80_2 {L : pj_Loc} {st : List Value} {M : pj_Mem}  : pj_step 80 (2, L, st, M) = some (5, L, .long (-500) :: st, M) := st_ldc2_w q80_2 (by decide +kernel)
theorem x80_2 {L : pj_Loc} {st : List Value} {M : pj_Mem}  {o9 : Option Value × pj_Mem} : pj_Ends 80 (2, L, st, M) o9 = pj_Ends 80 (5, L, .long (-500) :: st, M) o9 := pj_xs (s80_2)
theorem q80_5 : pj_row 80 5 = some (.ldc2_w 40, 3, 0, 0, 500) := by decide +kernel
theorem s80_5 {L : pj_Loc} {st : List Value} {M : pj_Mem}  : pj_step 80 (5, L, st, M) = some (8, L, .long 500 :: st, M) := st_ldc2_w q80_5 (by decide +kernel)
theorem x80_5 {L : pj_Loc} {st : List Value} {M : pj_Mem}  {o9 : Option Value × pj_Mem} : pj_Ends 80 (5, L, st, M) o9 = pj_Ends 80 (8, L, .long 500 :: st, M) o9 := pj_xs (s80_5)
theorem q80_8 : pj_row 80 8 = some (.invokestatic 42, 3, 76, 3, 0) := by decide +kernel
theorem e80_8 {L : pj_Loc} {st : List Value} {N S : Nat} {H : pj_Heap} {o : Option Value × pj_Mem} {M' : pj_Mem} {x0 : Int64} {x1 : Int64} {x2 : Int64} {r : Int32} (h4 : pj_le4 st = true) (h1 : pj_Ends 76 (0, [some (.long x0), none, some (.long x1), none, some (.long x2), none], [], (N, S, H)) (some (.int r), M')) (h2 : pj_Ends 80 (11, L, .int r :: st, M') o) : pj_Ends 80 (8, L, .long x2 :: .long x1 :: .long x0 :: st, (N, S, H)) o := ec_s3 q80_8 (Or.inl rfl) h4 rfl h1 h2
theorem q80_11 : pj_row 80 11 = some (.ireturn, 1, 0, 0, 0) := by decide +kernel
theorem t80_11 {L : pj_Loc} {M : pj_Mem} {v : Int32} (hv : v = 0 ∨ v = 1) : pj_Ends 80 (11, L, [.int v], M) (some (.int v), M) := pj_Ends.ret q80_11 (pj_rtn_z rt80 hv)
theorem rt81 : pj_rt 81 = none := rfl
theorem q81_0 : pj_row 81 0 = some (.aload_n 0, 1, 0, 0, 0) := by decide +kernel
theorem s81_0 {st : List Value} {M : pj_Mem} {l : pj_Loc} {x : Nat} : pj_step 81 (0, some (.ref x) :: l, st, M) = some (1, some (.ref x) :: l, .ref x :: st, M) := st_aload_n q81_0 rfl
theorem x81_0 {st : List Value} {M : pj_Mem} {l : pj_Loc} {x : Nat} {o9 : Option Value × pj_Mem} : pj_Ends 81 (0, some (.ref x) :: l, st, M) o9 = pj_Ends 81 (1, some (.ref x) :: l, .ref x :: st, M) o9 := pj_xs (s81_0)
theorem q81_1 : pj_row 81 1 = some (.getfield 25, 3, 6, 6, 0) := by decide +kernel
theorem s81_1 {L : pj_Loc} {st : List Value} {N S : Nat} {H : pj_Heap} {o : Nat} : pj_step 81 (1, L, .ref o :: st, (N, S, H)) = pj_pv 4 L st (N, S, H) (pj_fld (H o) 6 6) := st_getfield q81_1
theorem x81_1 {L : pj_Loc} {st : List Value} {N S : Nat} {H : pj_Heap} {o : Nat} {o9 : Option Value × pj_Mem} : pj_Ends 81 (1, L, .ref o :: st, (N, S, H)) o9 = pj_then 81 o9 (pj_pv 4 L st (N, S, H) (pj_fld (H o) 6 6)) := pj_xt q81_1 rfl (pj_cl_nc rfl) (s81_1)
theorem q81_4 : pj_row 81 4 = some (.iconst 0, 1, 0, 0, 0) := by decide +kernel
theorem s81_4 {L : pj_Loc} {st : List Value} {M : pj_Mem}  : pj_step 81 (4, L, st, M) = some (5, L, .int 0 :: st, M) := st_iconst q81_4 (by decide +kernel)
theorem x81_4 {L : pj_Loc} {st : List Value} {M : pj_Mem}  {o9 : Option Value × pj_Mem} : pj_Ends 81 (4, L, st, M) o9 = pj_Ends 81 (5, L, .int 0 :: st, M) o9 := pj_xs (s81_4)
theorem q81_5 : pj_row 81 5 = some (.iload_n 1, 1, 0, 0, 0) := by decide +kernel
theorem s81_5 {st : List Value} {M : pj_Mem} {l : pj_Loc} {a0 : Option Value} {x : Int32} : pj_step 81 (5, a0 :: some (.int x) :: l, st, M) = some (6, a0 :: some (.int x) :: l, .int x :: st, M) := st_iload_n q81_5 rfl
theorem x81_5 {st : List Value} {M : pj_Mem} {l : pj_Loc} {a0 : Option Value} {x : Int32} {o9 : Option Value × pj_Mem} : pj_Ends 81 (5, a0 :: some (.int x) :: l, st, M) o9 = pj_Ends 81 (6, a0 :: some (.int x) :: l, .int x :: st, M) o9 := pj_xs (s81_5)
theorem q81_6 : pj_row 81 6 = some (.iastore, 1, 0, 0, 0) := by decide +kernel
theorem s81_6 {L : pj_Loc} {st : List Value} {N S : Nat} {H : pj_Heap} {o : Nat} {i x : Int32} : pj_step 81 (6, L, .int x :: .int i :: .ref o :: st, (N, S, H)) = pj_set 7 L st (N, S, H) o (pj_ars (H o) 0 i x) := st_iastore q81_6
theorem x81_6 {L : pj_Loc} {st : List Value} {N S : Nat} {H : pj_Heap} {o : Nat} {i x : Int32} {o9 : Option Value × pj_Mem} : pj_Ends 81 (6, L, .int x :: .int i :: .ref o :: st, (N, S, H)) o9 = pj_then 81 o9 (pj_set 7 L st (N, S, H) o (pj_ars (H o) 0 i x)) := pj_xt q81_6 rfl (pj_cl_nc rfl) (s81_6)
theorem q81_7 : pj_row 81 7 = some (.aload_n 0, 1, 0, 0, 0) := by decide +kernel
theorem s81_7 {st : List Value} {M : pj_Mem} {l : pj_Loc} {x : Nat} : pj_step 81 (7, some (.ref x) :: l, st, M) = some (8, some (.ref x) :: l, .ref x :: st, M) := st_aload_n q81_7 rfl
theorem x81_7 {st : List Value} {M : pj_Mem} {l : pj_Loc} {x : Nat} {o9 : Option Value × pj_Mem} : pj_Ends 81 (7, some (.ref x) :: l, st, M) o9 = pj_Ends 81 (8, some (.ref x) :: l, .ref x :: st, M) o9 := pj_xs (s81_7)
theorem q81_8 : pj_row 81 8 = some (.getfield 25, 3, 6, 6, 0) := by decide +kernel
theorem s81_8 {L : pj_Loc} {st : List Value} {N S : Nat} {H : pj_Heap} {o : Nat} : pj_step 81 (8, L, .ref o :: st, (N, S, H)) = pj_pv 11 L st (N, S, H) (pj_fld (H o) 6 6) := st_getfield q81_8
theorem x81_8 {L : pj_Loc} {st : List Value} {N S : Nat} {H : pj_Heap} {o : Nat} {o9 : Option Value × pj_Mem} : pj_Ends 81 (8, L, .ref o :: st, (N, S, H)) o9 = pj_then 81 o9 (pj_pv 11 L st (N, S, H) (pj_fld (H o) 6 6)) := pj_xt q81_8 rfl (pj_cl_nc rfl) (s81_8)
theorem q81_11 : pj_row 81 11 = some (.iconst 1, 1, 0, 0, 0) := by decide +kernel
theorem s81_11 {L : pj_Loc} {st : List Value} {M : pj_Mem}  : pj_step 81 (11, L, st, M) = some (12, L, .int 1 :: st, M) := st_iconst q81_11 (by decide +kernel)
theorem x81_11 {L : pj_Loc} {st : List Value} {M : pj_Mem}  {o9 : Option Value × pj_Mem} : pj_Ends 81 (11, L, st, M) o9 = pj_Ends 81 (12, L, .int 1 :: st, M) o9 := pj_xs (s81_11)
theorem q81_12 : pj_row 81 12 = some (.iload_n 2, 1, 0, 0, 0) := by decide +kernel
theorem s81_12 {st : List Value} {M : pj_Mem} {l : pj_Loc} {a0 a1 : Option Value} {x : Int32} : pj_step 81 (12, a0 :: a1 :: some (.int x) :: l, st, M) = some (13, a0 :: a1 :: some (.int x) :: l, .int x :: st, M) := st_iload_n q81_12 rfl
theorem x81_12 {st : List Value} {M : pj_Mem} {l : pj_Loc} {a0 a1 : Option Value} {x : Int32} {o9 : Option Value × pj_Mem} : pj_Ends 81 (12, a0 :: a1 :: some (.int x) :: l, st, M) o9 = pj_Ends 81 (13, a0 :: a1 :: some (.int x) :: l, .int x :: st, M) o9 := pj_xs (s81_12)
theorem q81_13 : pj_row 81 13 = some (.iastore, 1, 0, 0, 0) := by decide +kernel
theorem s81_13 {L : pj_Loc} {st : List Value} {N S : Nat} {H : pj_Heap} {o : Nat} {i x : Int32} : pj_step 81 (13, L, .int x :: .int i :: .ref o :: st, (N, S, H)) = pj_set 14 L st (N, S, H) o (pj_ars (H o) 0 i x) := st_iastore q81_13
theorem x81_13 {L : pj_Loc} {st : List Value} {N S : Nat} {H : pj_Heap} {o : Nat} {i x : Int32} {o9 : Option Value × pj_Mem} : pj_Ends 81 (13, L, .int x :: .int i :: .ref o :: st, (N, S, H)) o9 = pj_then 81 o9 (pj_set 14 L st (N, S, H) o (pj_ars (H o) 0 i x)) := pj_xt q81_13 rfl (pj_cl_nc rfl) (s81_13)
theorem q81_14 : pj_row 81 14 = some (.aload_n 0, 1, 0, 0, 0) := by decide +kernel
theorem s81_14 {st : List Value} {M : pj_Mem} {l : pj_Loc} {x : Nat} : pj_step 81 (14, some (.ref x) :: l, st, M) = some (15, some (.ref x) :: l, .ref x :: st, M) := st_aload_n q81_14 rfl
theorem x81_14 {st : List Value} {M : pj_Mem} {l : pj_Loc} {x : Nat} {o9 : Option Value × pj_Mem} : pj_Ends 81 (14, some (.ref x) :: l, st, M) o9 = pj_Ends 81 (15, some (.ref x) :: l, .ref x :: st, M) o9 := pj_xs (s81_14)
theorem q81_15 : pj_row 81 15 = some (.getfield 25, 3, 6, 6, 0) := by decide +kernel
theorem s81_15 {L : pj_Loc} {st : List Value} {N S : Nat} {H : pj_Heap} {o : Nat} : pj_step 81 (15, L, .ref o :: st, (N, S, H)) = pj_pv 18 L st (N, S, H) (pj_fld (H o) 6 6) := st_getfield q81_15
theorem x81_15 {L : pj_Loc} {st : List Value} {N S : Nat} {H : pj_Heap} {o : Nat} {o9 : Option Value × pj_Mem} : pj_Ends 81 (15, L, .ref o :: st, (N, S, H)) o9 = pj_then 81 o9 (pj_pv 18 L st (N, S, H) (pj_fld (H o) 6 6)) := pj_xt q81_15 rfl (pj_cl_nc rfl) (s81_15)
theorem q81_18 : pj_row 81 18 = some (.iconst 2, 1, 0, 0, 0) := by decide +kernel
theorem s81_18 {L : pj_Loc} {st : List Value} {M : pj_Mem}  : pj_step 81 (18, L, st, M) = some (19, L, .int 2 :: st, M) := st_iconst q81_18 (by decide +kernel)
theorem x81_18 {L : pj_Loc} {st : List Value} {M : pj_Mem}  {o9 : Option Value × pj_Mem} : pj_Ends 81 (18, L, st, M) o9 = pj_Ends 81 (19, L, .int 2 :: st, M) o9 := pj_xs (s81_18)
theorem q81_19 : pj_row 81 19 = some (.iload_n 3, 1, 0, 0, 0) := by decide +kernel
theorem s81_19 {st : List Value} {M : pj_Mem} {l : pj_Loc} {a0 a1 a2 : Option Value} {x : Int32} : pj_step 81 (19, a0 :: a1 :: a2 :: some (.int x) :: l, st, M) = some (20, a0 :: a1 :: a2 :: some (.int x) :: l, .int x :: st, M) := st_iload_n q81_19 rfl
theorem x81_19 {st : List Value} {M : pj_Mem} {l : pj_Loc} {a0 a1 a2 : Option Value} {x : Int32} {o9 : Option Value × pj_Mem} : pj_Ends 81 (19, a0 :: a1 :: a2 :: some (.int x) :: l, st, M) o9 = pj_Ends 81 (20, a0 :: a1 :: a2 :: some (.int x) :: l, .int x :: st, M) o9 := pj_xs (s81_19)
theorem q81_20 : pj_row 81 20 = some (.iastore, 1, 0, 0, 0) := by decide +kernel
theorem s81_20 {L : pj_Loc} {st : List Value} {N S : Nat} {H : pj_Heap} {o : Nat} {i x : Int32} : pj_step 81 (20, L, .int x :: .int i :: .ref o :: st, (N, S, H)) = pj_set 21 L st (N, S, H) o (pj_ars (H o) 0 i x) := st_iastore q81_20
theorem x81_20 {L : pj_Loc} {st : List Value} {N S : Nat} {H : pj_Heap} {o : Nat} {i x : Int32} {o9 : Option Value × pj_Mem} : pj_Ends 81 (20, L, .int x :: .int i :: .ref o :: st, (N, S, H)) o9 = pj_then 81 o9 (pj_set 21 L st (N, S, H) o (pj_ars (H o) 0 i x)) := pj_xt q81_20 rfl (pj_cl_nc rfl) (s81_20)
theorem q81_21 : pj_row 81 21 = some (.return_, 1, 0, 0, 0) := by decide +kernel
theorem t81_21 {L : pj_Loc} {M : pj_Mem} : pj_Ends 81 (21, L, [], M) (none, M) := pj_Ends.ret q81_21 (pj_rtn_v rt81)
theorem rt82 : pj_rt 82 = none := rfl
theorem q82_0 : pj_row 82 0 = some (.aload_n 0, 1, 0, 0, 0) := by decide +kernel
theorem s82_0 {st : List Value} {M : pj_Mem} {l : pj_Loc} {x : Nat} : pj_step 82 (0, some (.ref x) :: l, st, M) = some (1, some (.ref x) :: l, .ref x :: st, M) := st_aload_n q82_0 rfl
theorem x82_0 {st : List Value} {M : pj_Mem} {l : pj_Loc} {x : Nat} {o9 : Option Value × pj_Mem} : pj_Ends 82 (0, some (.ref x) :: l, st, M) o9 = pj_Ends 82 (1, some (.ref x) :: l, .ref x :: st, M) o9 := pj_xs (s82_0)
theorem q82_1 : pj_row 82 1 = some (.invokevirtual 82, 3, 83, 1, 0) := by decide +kernel
theorem e82_1 {L : pj_Loc} {st : List Value} {N S : Nat} {H : pj_Heap} {o : Option Value × pj_Mem} {M' : pj_Mem} {x0 : Nat} (h4 : pj_le4 st = true) (hu : pj_isU 6 (H x0) = true) (h1 : pj_Ends 83 (0, [some (.ref x0), none, none], [], (N, S, H)) (none, M')) (h2 : pj_Ends 82 (4, L, st, M') o) : pj_Ends 82 (1, L, .ref x0 :: st, (N, S, H)) o := ec_v1 q82_1 (Or.inl rfl) h4 hu rfl h1 h2
theorem q82_4 : pj_row 82 4 = some (.aload_n 0, 1, 0, 0, 0) := by decide +kernel
theorem s82_4 {st : List Value} {M : pj_Mem} {l : pj_Loc} {x : Nat} : pj_step 82 (4, some (.ref x) :: l, st, M) = some (5, some (.ref x) :: l, .ref x :: st, M) := st_aload_n q82_4 rfl
theorem x82_4 {st : List Value} {M : pj_Mem} {l : pj_Loc} {x : Nat} {o9 : Option Value × pj_Mem} : pj_Ends 82 (4, some (.ref x) :: l, st, M) o9 = pj_Ends 82 (5, some (.ref x) :: l, .ref x :: st, M) o9 := pj_xs (s82_4)
theorem q82_5 : pj_row 82 5 = some (.invokevirtual 85, 3, 84, 1, 0) := by decide +kernel
theorem e82_5 {L : pj_Loc} {st : List Value} {N S : Nat} {H : pj_Heap} {o : Option Value × pj_Mem} {M' : pj_Mem} {x0 : Nat} (h4 : pj_le4 st = true) (hu : pj_isU 6 (H x0) = true) (h1 : pj_Ends 84 (0, [some (.ref x0), none, none], [], (N, S, H)) (none, M')) (h2 : pj_Ends 82 (8, L, st, M') o) : pj_Ends 82 (5, L, .ref x0 :: st, (N, S, H)) o := ec_v1 q82_5 (Or.inl rfl) h4 hu rfl h1 h2
theorem q82_8 : pj_row 82 8 = some (.aload_n 0, 1, 0, 0, 0) := by decide +kernel
theorem s82_8 {st : List Value} {M : pj_Mem} {l : pj_Loc} {x : Nat} : pj_step 82 (8, some (.ref x) :: l, st, M) = some (9, some (.ref x) :: l, .ref x :: st, M) := st_aload_n q82_8 rfl
theorem x82_8 {st : List Value} {M : pj_Mem} {l : pj_Loc} {x : Nat} {o9 : Option Value × pj_Mem} : pj_Ends 82 (8, some (.ref x) :: l, st, M) o9 = pj_Ends 82 (9, some (.ref x) :: l, .ref x :: st, M) o9 := pj_xs (s82_8)
theorem q82_9 : pj_row 82 9 = some (.invokevirtual 88, 3, 88, 1, 0) := by decide +kernel
theorem e82_9 {L : pj_Loc} {st : List Value} {N S : Nat} {H : pj_Heap} {o : Option Value × pj_Mem} {M' : pj_Mem} {x0 : Nat} (h4 : pj_le4 st = true) (hu : pj_isU 6 (H x0) = true) (h1 : pj_Ends 88 (0, [some (.ref x0), none, none], [], (N, S, H)) (none, M')) (h2 : pj_Ends 82 (12, L, st, M') o) : pj_Ends 82 (9, L, .ref x0 :: st, (N, S, H)) o := ec_v1 q82_9 (Or.inl rfl) h4 hu rfl h1 h2
theorem q82_12 : pj_row 82 12 = some (.aload_n 0, 1, 0, 0, 0) := by decide +kernel
theorem s82_12 {st : List Value} {M : pj_Mem} {l : pj_Loc} {x : Nat} : pj_step 82 (12, some (.ref x) :: l, st, M) = some (13, some (.ref x) :: l, .ref x :: st, M) := st_aload_n q82_12 rfl
theorem x82_12 {st : List Value} {M : pj_Mem} {l : pj_Loc} {x : Nat} {o9 : Option Value × pj_Mem} : pj_Ends 82 (12, some (.ref x) :: l, st, M) o9 = pj_Ends 82 (13, some (.ref x) :: l, .ref x :: st, M) o9 := pj_xs (s82_12)
theorem q82_13 : pj_row 82 13 = some (.iload_n 1, 1, 0, 0, 0) := by decide +kernel
theorem s82_13 {st : List Value} {M : pj_Mem} {l : pj_Loc} {a0 : Option Value} {x : Int32} : pj_step 82 (13, a0 :: some (.int x) :: l, st, M) = some (14, a0 :: some (.int x) :: l, .int x :: st, M) := st_iload_n q82_13 rfl
theorem x82_13 {st : List Value} {M : pj_Mem} {l : pj_Loc} {a0 : Option Value} {x : Int32} {o9 : Option Value × pj_Mem} : pj_Ends 82 (13, a0 :: some (.int x) :: l, st, M) o9 = pj_Ends 82 (14, a0 :: some (.int x) :: l, .int x :: st, M) o9 := pj_xs (s82_13)
theorem q82_14 : pj_row 82 14 = some (.invokevirtual 91, 3, 90, 2, 0) := by decide +kernel
theorem e82_14 {L : pj_Loc} {st : List Value} {N S : Nat} {H : pj_Heap} {o : Option Value × pj_Mem} {M' : pj_Mem} {x0 : Nat} {x1 : Int32} (h4 : pj_le4 st = true) (hu : pj_isU 6 (H x0) = true) (h1 : pj_Ends 90 (0, [some (.ref x0), some (.int x1), none, none], [], (N, S, H)) (none, M')) (h2 : pj_Ends 82 (17, L, st, M') o) : pj_Ends 82 (14, L, .int x1 :: .ref x0 :: st, (N, S, H)) o := ec_v2 q82_14 (Or.inl rfl) h4 hu rfl h1 h2
theorem q82_17 : pj_row 82 17 = some (.aload_n 0, 1, 0, 0, 0) := by decide +kernel
theorem s82_17 {st : List Value} {M : pj_Mem} {l : pj_Loc} {x : Nat} : pj_step 82 (17, some (.ref x) :: l, st, M) = some (18, some (.ref x) :: l, .ref x :: st, M) := st_aload_n q82_17 rfl
theorem x82_17 {st : List Value} {M : pj_Mem} {l : pj_Loc} {x : Nat} {o9 : Option Value × pj_Mem} : pj_Ends 82 (17, some (.ref x) :: l, st, M) o9 = pj_Ends 82 (18, some (.ref x) :: l, .ref x :: st, M) o9 := pj_xs (s82_17)
theorem q82_18 : pj_row 82 18 = some (.invokevirtual 95, 3, 91, 1, 0) := by decide +kernel
theorem e82_18 {L : pj_Loc} {st : List Value} {N S : Nat} {H : pj_Heap} {o : Option Value × pj_Mem} {M' : pj_Mem} {x0 : Nat} (h4 : pj_le4 st = true) (hu : pj_isU 6 (H x0) = true) (h1 : pj_Ends 91 (0, [some (.ref x0), none], [], (N, S, H)) (none, M')) (h2 : pj_Ends 82 (21, L, st, M') o) : pj_Ends 82 (18, L, .ref x0 :: st, (N, S, H)) o := ec_v1 q82_18 (Or.inl rfl) h4 hu rfl h1 h2
theorem q82_21 : pj_row 82 21 = some (.aload_n 0, 1, 0, 0, 0) := by decide +kernel
theorem s82_21 {st : List Value} {M : pj_Mem} {l : pj_Loc} {x : Nat} : pj_step 82 (21, some (.ref x) :: l, st, M) = some (22, some (.ref x) :: l, .ref x :: st, M) := st_aload_n q82_21 rfl
theorem x82_21 {st : List Value} {M : pj_Mem} {l : pj_Loc} {x : Nat} {o9 : Option Value × pj_Mem} : pj_Ends 82 (21, some (.ref x) :: l, st, M) o9 = pj_Ends 82 (22, some (.ref x) :: l, .ref x :: st, M) o9 := pj_xs (s82_21)
theorem q82_22 : pj_row 82 22 = some (.getfield 7, 3, 6, 0, 0) := by decide +kernel
theorem s82_22 {L : pj_Loc} {st : List Value} {N S : Nat} {H : pj_Heap} {o : Nat} : pj_step 82 (22, L, .ref o :: st, (N, S, H)) = pj_pv 25 L st (N, S, H) (pj_fld (H o) 6 0) := st_getfield q82_22
theorem x82_22 {L : pj_Loc} {st : List Value} {N S : Nat} {H : pj_Heap} {o : Nat} {o9 : Option Value × pj_Mem} : pj_Ends 82 (22, L, .ref o :: st, (N, S, H)) o9 = pj_then 82 o9 (pj_pv 25 L st (N, S, H) (pj_fld (H o) 6 0)) := pj_xt q82_22 rfl (pj_cl_nc rfl) (s82_22)
theorem q82_25 : pj_row 82 25 = some (.bipush 7, 2, 0, 0, 0) := by decide +kernel
theorem s82_25 {L : pj_Loc} {st : List Value} {M : pj_Mem}  : pj_step 82 (25, L, st, M) = some (27, L, .int 7 :: st, M) := st_bipush q82_25 (by decide +kernel)
theorem x82_25 {L : pj_Loc} {st : List Value} {M : pj_Mem}  {o9 : Option Value × pj_Mem} : pj_Ends 82 (25, L, st, M) o9 = pj_Ends 82 (27, L, .int 7 :: st, M) o9 := pj_xs (s82_25)
theorem q82_27 : pj_row 82 27 = some (.iload_n 1, 1, 0, 0, 0) := by decide +kernel
theorem s82_27 {st : List Value} {M : pj_Mem} {l : pj_Loc} {a0 : Option Value} {x : Int32} : pj_step 82 (27, a0 :: some (.int x) :: l, st, M) = some (28, a0 :: some (.int x) :: l, .int x :: st, M) := st_iload_n q82_27 rfl
theorem x82_27 {st : List Value} {M : pj_Mem} {l : pj_Loc} {a0 : Option Value} {x : Int32} {o9 : Option Value × pj_Mem} : pj_Ends 82 (27, a0 :: some (.int x) :: l, st, M) o9 = pj_Ends 82 (28, a0 :: some (.int x) :: l, .int x :: st, M) o9 := pj_xs (s82_27)
theorem q82_28 : pj_row 82 28 = some (.ifCond .eq 12, 3, 40, 0, 0) := by decide +kernel
theorem s82_28 {L : pj_Loc} {st : List Value} {M : pj_Mem} {x : Int32} : pj_step 82 (28, L, .int x :: st, M) = some (if x = 0 then 40 else 31, L, st, M) := st_if_eq q82_28
theorem x82_28 {L : pj_Loc} {st : List Value} {M : pj_Mem} {x : Int32} {o9 : Option Value × pj_Mem} : pj_Ends 82 (28, L, .int x :: st, M) o9 = pj_Ends 82 (if x = 0 then 40 else 31, L, st, M) o9 := pj_xs (s82_28)
theorem q82_31 : pj_row 82 31 = some (.aload_n 0, 1, 0, 0, 0) := by decide +kernel
theorem s82_31 {st : List Value} {M : pj_Mem} {l : pj_Loc} {x : Nat} : pj_step 82 (31, some (.ref x) :: l, st, M) = some (32, some (.ref x) :: l, .ref x :: st, M) := st_aload_n q82_31 rfl
theorem x82_31 {st : List Value} {M : pj_Mem} {l : pj_Loc} {x : Nat} {o9 : Option Value × pj_Mem} : pj_Ends 82 (31, some (.ref x) :: l, st, M) o9 = pj_Ends 82 (32, some (.ref x) :: l, .ref x :: st, M) o9 := pj_xs (s82_31)
theorem q82_32 : pj_row 82 32 = some (.getfield 7, 3, 6, 0, 0) := by decide +kernel
theorem s82_32 {L : pj_Loc} {st : List Value} {N S : Nat} {H : pj_Heap} {o : Nat} : pj_step 82 (32, L, .ref o :: st, (N, S, H)) = pj_pv 35 L st (N, S, H) (pj_fld (H o) 6 0) := st_getfield q82_32
theorem x82_32 {L : pj_Loc} {st : List Value} {N S : Nat} {H : pj_Heap} {o : Nat} {o9 : Option Value × pj_Mem} : pj_Ends 82 (32, L, .ref o :: st, (N, S, H)) o9 = pj_then 82 o9 (pj_pv 35 L st (N, S, H) (pj_fld (H o) 6 0)) := pj_xt q82_32 rfl (pj_cl_nc rfl) (s82_32)
theorem q82_35 : pj_row 82 35 = some (.iconst 2, 1, 0, 0, 0) := by decide +kernel
theorem s82_35 {L : pj_Loc} {st : List Value} {M : pj_Mem}  : pj_step 82 (35, L, st, M) = some (36, L, .int 2 :: st, M) := st_iconst q82_35 (by decide +kernel)
theorem x82_35 {L : pj_Loc} {st : List Value} {M : pj_Mem}  {o9 : Option Value × pj_Mem} : pj_Ends 82 (35, L, st, M) o9 = pj_Ends 82 (36, L, .int 2 :: st, M) o9 := pj_xs (s82_35)
theorem q82_36 : pj_row 82 36 = some (.iaload, 1, 0, 0, 0) := by decide +kernel
theorem s82_36 {L : pj_Loc} {st : List Value} {N S : Nat} {H : pj_Heap} {o : Nat} {i : Int32} : pj_step 82 (36, L, .int i :: .ref o :: st, (N, S, H)) = pj_pi 37 L st (N, S, H) (pj_arl (H o) 0 i) := st_iaload q82_36
theorem x82_36 {L : pj_Loc} {st : List Value} {N S : Nat} {H : pj_Heap} {o : Nat} {i : Int32} {o9 : Option Value × pj_Mem} : pj_Ends 82 (36, L, .int i :: .ref o :: st, (N, S, H)) o9 = pj_then 82 o9 (pj_pi 37 L st (N, S, H) (pj_arl (H o) 0 i)) := pj_xt q82_36 rfl (pj_cl_nc rfl) (s82_36)
theorem q82_37 : pj_row 82 37 = some (.goto 26, 3, 63, 0, 0) := by decide +kernel
theorem s82_37 {L : pj_Loc} {st : List Value} {M : pj_Mem}  : pj_step 82 (37, L, st, M) = some (63, L, st, M) := st_goto q82_37
theorem x82_37 {L : pj_Loc} {st : List Value} {M : pj_Mem}  {o9 : Option Value × pj_Mem} : pj_Ends 82 (37, L, st, M) o9 = pj_Ends 82 (63, L, st, M) o9 := pj_xs (s82_37)
theorem q82_40 : pj_row 82 40 = some (.aload_n 0, 1, 0, 0, 0) := by decide +kernel
theorem s82_40 {st : List Value} {M : pj_Mem} {l : pj_Loc} {x : Nat} : pj_step 82 (40, some (.ref x) :: l, st, M) = some (41, some (.ref x) :: l, .ref x :: st, M) := st_aload_n q82_40 rfl
theorem x82_40 {st : List Value} {M : pj_Mem} {l : pj_Loc} {x : Nat} {o9 : Option Value × pj_Mem} : pj_Ends 82 (40, some (.ref x) :: l, st, M) o9 = pj_Ends 82 (41, some (.ref x) :: l, .ref x :: st, M) o9 := pj_xs (s82_40)
theorem q82_41 : pj_row 82 41 = some (.getfield 7, 3, 6, 0, 0) := by decide +kernel
theorem s82_41 {L : pj_Loc} {st : List Value} {N S : Nat} {H : pj_Heap} {o : Nat} : pj_step 82 (41, L, .ref o :: st, (N, S, H)) = pj_pv 44 L st (N, S, H) (pj_fld (H o) 6 0) := st_getfield q82_41
theorem x82_41 {L : pj_Loc} {st : List Value} {N S : Nat} {H : pj_Heap} {o : Nat} {o9 : Option Value × pj_Mem} : pj_Ends 82 (41, L, .ref o :: st, (N, S, H)) o9 = pj_then 82 o9 (pj_pv 44 L st (N, S, H) (pj_fld (H o) 6 0)) := pj_xt q82_41 rfl (pj_cl_nc rfl) (s82_41)
theorem q82_44 : pj_row 82 44 = some (.bipush 7, 2, 0, 0, 0) := by decide +kernel
theorem s82_44 {L : pj_Loc} {st : List Value} {M : pj_Mem}  : pj_step 82 (44, L, st, M) = some (46, L, .int 7 :: st, M) := st_bipush q82_44 (by decide +kernel)
theorem x82_44 {L : pj_Loc} {st : List Value} {M : pj_Mem}  {o9 : Option Value × pj_Mem} : pj_Ends 82 (44, L, st, M) o9 = pj_Ends 82 (46, L, .int 7 :: st, M) o9 := pj_xs (s82_44)
theorem q82_46 : pj_row 82 46 = some (.iaload, 1, 0, 0, 0) := by decide +kernel
theorem s82_46 {L : pj_Loc} {st : List Value} {N S : Nat} {H : pj_Heap} {o : Nat} {i : Int32} : pj_step 82 (46, L, .int i :: .ref o :: st, (N, S, H)) = pj_pi 47 L st (N, S, H) (pj_arl (H o) 0 i) := st_iaload q82_46
theorem x82_46 {L : pj_Loc} {st : List Value} {N S : Nat} {H : pj_Heap} {o : Nat} {i : Int32} {o9 : Option Value × pj_Mem} : pj_Ends 82 (46, L, .int i :: .ref o :: st, (N, S, H)) o9 = pj_then 82 o9 (pj_pi 47 L st (N, S, H) (pj_arl (H o) 0 i)) := pj_xt q82_46 rfl (pj_cl_nc rfl) (s82_46)
theorem q82_47 : pj_row 82 47 = some (.ifCond .le 15, 3, 62, 0, 0) := by decide +kernel
theorem s82_47 {L : pj_Loc} {st : List Value} {M : pj_Mem} {x : Int32} : pj_step 82 (47, L, .int x :: st, M) = some (if x ≤ 0 then 62 else 50, L, st, M) := st_if_le q82_47
theorem x82_47 {L : pj_Loc} {st : List Value} {M : pj_Mem} {x : Int32} {o9 : Option Value × pj_Mem} : pj_Ends 82 (47, L, .int x :: st, M) o9 = pj_Ends 82 (if x ≤ 0 then 62 else 50, L, st, M) o9 := pj_xs (s82_47)
theorem q82_50 : pj_row 82 50 = some (.aload_n 0, 1, 0, 0, 0) := by decide +kernel
theorem s82_50 {st : List Value} {M : pj_Mem} {l : pj_Loc} {x : Nat} : pj_step 82 (50, some (.ref x) :: l, st, M) = some (51, some (.ref x) :: l, .ref x :: st, M) := st_aload_n q82_50 rfl
theorem x82_50 {st : List Value} {M : pj_Mem} {l : pj_Loc} {x : Nat} {o9 : Option Value × pj_Mem} : pj_Ends 82 (50, some (.ref x) :: l, st, M) o9 = pj_Ends 82 (51, some (.ref x) :: l, .ref x :: st, M) o9 := pj_xs (s82_50)
theorem q82_51 : pj_row 82 51 = some (.getfield 7, 3, 6, 0, 0) := by decide +kernel
theorem s82_51 {L : pj_Loc} {st : List Value} {N S : Nat} {H : pj_Heap} {o : Nat} : pj_step 82 (51, L, .ref o :: st, (N, S, H)) = pj_pv 54 L st (N, S, H) (pj_fld (H o) 6 0) := st_getfield q82_51
theorem x82_51 {L : pj_Loc} {st : List Value} {N S : Nat} {H : pj_Heap} {o : Nat} {o9 : Option Value × pj_Mem} : pj_Ends 82 (51, L, .ref o :: st, (N, S, H)) o9 = pj_then 82 o9 (pj_pv 54 L st (N, S, H) (pj_fld (H o) 6 0)) := pj_xt q82_51 rfl (pj_cl_nc rfl) (s82_51)
theorem q82_54 : pj_row 82 54 = some (.bipush 7, 2, 0, 0, 0) := by decide +kernel
theorem s82_54 {L : pj_Loc} {st : List Value} {M : pj_Mem}  : pj_step 82 (54, L, st, M) = some (56, L, .int 7 :: st, M) := st_bipush q82_54 (by decide +kernel)
theorem x82_54 {L : pj_Loc} {st : List Value} {M : pj_Mem}  {o9 : Option Value × pj_Mem} : pj_Ends 82 (54, L, st, M) o9 = pj_Ends 82 (56, L, .int 7 :: st, M) o9 := pj_xs (s82_54)
theorem q82_56 : pj_row 82 56 = some (.iaload, 1, 0, 0, 0) := by decide +kernel
theorem s82_56 {L : pj_Loc} {st : List Value} {N S : Nat} {H : pj_Heap} {o : Nat} {i : Int32} : pj_step 82 (56, L, .int i :: .ref o :: st, (N, S, H)) = pj_pi 57 L st (N, S, H) (pj_arl (H o) 0 i) := st_iaload q82_56
theorem x82_56 {L : pj_Loc} {st : List Value} {N S : Nat} {H : pj_Heap} {o : Nat} {i : Int32} {o9 : Option Value × pj_Mem} : pj_Ends 82 (56, L, .int i :: .ref o :: st, (N, S, H)) o9 = pj_then 82 o9 (pj_pi 57 L st (N, S, H) (pj_arl (H o) 0 i)) := pj_xt q82_56 rfl (pj_cl_nc rfl) (s82_56)
theorem q82_57 : pj_row 82 57 = some (.iconst 1, 1, 0, 0, 0) := by decide +kernel
theorem s82_57 {L : pj_Loc} {st : List Value} {M : pj_Mem}  : pj_step 82 (57, L, st, M) = some (58, L, .int 1 :: st, M) := st_iconst q82_57 (by decide +kernel)
theorem x82_57 {L : pj_Loc} {st : List Value} {M : pj_Mem}  {o9 : Option Value × pj_Mem} : pj_Ends 82 (57, L, st, M) o9 = pj_Ends 82 (58, L, .int 1 :: st, M) o9 := pj_xs (s82_57)
theorem q82_58 : pj_row 82 58 = some (.isub, 1, 0, 0, 0) := by decide +kernel
theorem s82_58 {L : pj_Loc} {st : List Value} {M : pj_Mem} {x y : Int32} : pj_step 82 (58, L, .int y :: .int x :: st, M) = some (59, L, .int (x - y) :: st, M) := st_isub q82_58
theorem x82_58 {L : pj_Loc} {st : List Value} {M : pj_Mem} {x y : Int32} {o9 : Option Value × pj_Mem} : pj_Ends 82 (58, L, .int y :: .int x :: st, M) o9 = pj_Ends 82 (59, L, .int (x - y) :: st, M) o9 := pj_xs (s82_58)
theorem q82_59 : pj_row 82 59 = some (.goto 4, 3, 63, 0, 0) := by decide +kernel
theorem s82_59 {L : pj_Loc} {st : List Value} {M : pj_Mem}  : pj_step 82 (59, L, st, M) = some (63, L, st, M) := st_goto q82_59
theorem x82_59 {L : pj_Loc} {st : List Value} {M : pj_Mem}  {o9 : Option Value × pj_Mem} : pj_Ends 82 (59, L, st, M) o9 = pj_Ends 82 (63, L, st, M) o9 := pj_xs (s82_59)
theorem q82_62 : pj_row 82 62 = some (.iconst 0, 1, 0, 0, 0) := by decide +kernel
theorem s82_62 {L : pj_Loc} {st : List Value} {M : pj_Mem}  : pj_step 82 (62, L, st, M) = some (63, L, .int 0 :: st, M) := st_iconst q82_62 (by decide +kernel)
theorem x82_62 {L : pj_Loc} {st : List Value} {M : pj_Mem}  {o9 : Option Value × pj_Mem} : pj_Ends 82 (62, L, st, M) o9 = pj_Ends 82 (63, L, .int 0 :: st, M) o9 := pj_xs (s82_62)
theorem q82_63 : pj_row 82 63 = some (.iastore, 1, 0, 0, 0) := by decide +kernel
theorem s82_63 {L : pj_Loc} {st : List Value} {N S : Nat} {H : pj_Heap} {o : Nat} {i x : Int32} : pj_step 82 (63, L, .int x :: .int i :: .ref o :: st, (N, S, H)) = pj_set 64 L st (N, S, H) o (pj_ars (H o) 0 i x) := st_iastore q82_63
theorem x82_63 {L : pj_Loc} {st : List Value} {N S : Nat} {H : pj_Heap} {o : Nat} {i x : Int32} {o9 : Option Value × pj_Mem} : pj_Ends 82 (63, L, .int x :: .int i :: .ref o :: st, (N, S, H)) o9 = pj_then 82 o9 (pj_set 64 L st (N, S, H) o (pj_ars (H o) 0 i x)) := pj_xt q82_63 rfl (pj_cl_nc rfl) (s82_63)
theorem q82_64 : pj_row 82 64 = some (.aload_n 0, 1, 0, 0, 0) := by decide +kernel
theorem s82_64 {st : List Value} {M : pj_Mem} {l : pj_Loc} {x : Nat} : pj_step 82 (64, some (.ref x) :: l, st, M) = some (65, some (.ref x) :: l, .ref x :: st, M) := st_aload_n q82_64 rfl
theorem x82_64 {st : List Value} {M : pj_Mem} {l : pj_Loc} {x : Nat} {o9 : Option Value × pj_Mem} : pj_Ends 82 (64, some (.ref x) :: l, st, M) o9 = pj_Ends 82 (65, some (.ref x) :: l, .ref x :: st, M) o9 := pj_xs (s82_64)
theorem q82_65 : pj_row 82 65 = some (.aload_n 0, 1, 0, 0, 0) := by decide +kernel
theorem s82_65 {st : List Value} {M : pj_Mem} {l : pj_Loc} {x : Nat} : pj_step 82 (65, some (.ref x) :: l, st, M) = some (66, some (.ref x) :: l, .ref x :: st, M) := st_aload_n q82_65 rfl
theorem x82_65 {st : List Value} {M : pj_Mem} {l : pj_Loc} {x : Nat} {o9 : Option Value × pj_Mem} : pj_Ends 82 (65, some (.ref x) :: l, st, M) o9 = pj_Ends 82 (66, some (.ref x) :: l, .ref x :: st, M) o9 := pj_xs (s82_65)
theorem q82_66 : pj_row 82 66 = some (.aload_n 0, 1, 0, 0, 0) := by decide +kernel
theorem s82_66 {st : List Value} {M : pj_Mem} {l : pj_Loc} {x : Nat} : pj_step 82 (66, some (.ref x) :: l, st, M) = some (67, some (.ref x) :: l, .ref x :: st, M) := st_aload_n q82_66 rfl
theorem x82_66 {st : List Value} {M : pj_Mem} {l : pj_Loc} {x : Nat} {o9 : Option Value × pj_Mem} : pj_Ends 82 (66, some (.ref x) :: l, st, M) o9 = pj_Ends 82 (67, some (.ref x) :: l, .ref x :: st, M) o9 := pj_xs (s82_66)
theorem q82_67 : pj_row 82 67 = some (.getfield 7, 3, 6, 0, 0) := by decide +kernel
theorem s82_67 {L : pj_Loc} {st : List Value} {N S : Nat} {H : pj_Heap} {o : Nat} : pj_step 82 (67, L, .ref o :: st, (N, S, H)) = pj_pv 70 L st (N, S, H) (pj_fld (H o) 6 0) := st_getfield q82_67
theorem x82_67 {L : pj_Loc} {st : List Value} {N S : Nat} {H : pj_Heap} {o : Nat} {o9 : Option Value × pj_Mem} : pj_Ends 82 (67, L, .ref o :: st, (N, S, H)) o9 = pj_then 82 o9 (pj_pv 70 L st (N, S, H) (pj_fld (H o) 6 0)) := pj_xt q82_67 rfl (pj_cl_nc rfl) (s82_67)
theorem q82_70 : pj_row 82 70 = some (.iconst 0, 1, 0, 0, 0) := by decide +kernel
theorem s82_70 {L : pj_Loc} {st : List Value} {M : pj_Mem}  : pj_step 82 (70, L, st, M) = some (71, L, .int 0 :: st, M) := st_iconst q82_70 (by decide +kernel)
theorem x82_70 {L : pj_Loc} {st : List Value} {M : pj_Mem}  {o9 : Option Value × pj_Mem} : pj_Ends 82 (70, L, st, M) o9 = pj_Ends 82 (71, L, .int 0 :: st, M) o9 := pj_xs (s82_70)
theorem q82_71 : pj_row 82 71 = some (.iaload, 1, 0, 0, 0) := by decide +kernel
theorem s82_71 {L : pj_Loc} {st : List Value} {N S : Nat} {H : pj_Heap} {o : Nat} {i : Int32} : pj_step 82 (71, L, .int i :: .ref o :: st, (N, S, H)) = pj_pi 72 L st (N, S, H) (pj_arl (H o) 0 i) := st_iaload q82_71
theorem x82_71 {L : pj_Loc} {st : List Value} {N S : Nat} {H : pj_Heap} {o : Nat} {i : Int32} {o9 : Option Value × pj_Mem} : pj_Ends 82 (71, L, .int i :: .ref o :: st, (N, S, H)) o9 = pj_then 82 o9 (pj_pi 72 L st (N, S, H) (pj_arl (H o) 0 i)) := pj_xt q82_71 rfl (pj_cl_nc rfl) (s82_71)
theorem q82_72 : pj_row 82 72 = some (.invokevirtual 98, 3, 92, 2, 0) := by decide +kernel
theorem e82_72 {L : pj_Loc} {st : List Value} {N S : Nat} {H : pj_Heap} {o : Option Value × pj_Mem} {M' : pj_Mem} {x0 : Nat} {x1 : Int32} {r : Int32} (h4 : pj_le4 st = true) (hu : pj_isU 6 (H x0) = true) (h1 : pj_Ends 92 (0, [some (.ref x0), some (.int x1), none, none], [], (N, S, H)) (some (.int r), M')) (h2 : pj_Ends 82 (75, L, .int r :: st, M') o) : pj_Ends 82 (72, L, .int x1 :: .ref x0 :: st, (N, S, H)) o := ec_v2 q82_72 (Or.inl rfl) h4 hu rfl h1 h2
theorem q82_75 : pj_row 82 75 = some (.putfield 72, 3, 6, 9, 0) := by decide +kernel
theorem s82_75 {L : pj_Loc} {st : List Value} {N S : Nat} {H : pj_Heap} {o : Nat} {v : Value} : pj_step 82 (75, L, v :: .ref o :: st, (N, S, H)) = pj_set 78 L st (N, S, H) o (pj_fset (H o) 6 9 v) := st_putfield q82_75
theorem x82_75 {L : pj_Loc} {st : List Value} {N S : Nat} {H : pj_Heap} {o : Nat} {v : Value} {o9 : Option Value × pj_Mem} : pj_Ends 82 (75, L, v :: .ref o :: st, (N, S, H)) o9 = pj_then 82 o9 (pj_set 78 L st (N, S, H) o (pj_fset (H o) 6 9 v)) := pj_xt q82_75 rfl (pj_cl_nc rfl) (s82_75)
theorem q82_78 : pj_row 82 78 = some (.aload_n 0, 1, 0, 0, 0) := by decide +kernel
theorem s82_78 {st : List Value} {M : pj_Mem} {l : pj_Loc} {x : Nat} : pj_step 82 (78, some (.ref x) :: l, st, M) = some (79, some (.ref x) :: l, .ref x :: st, M) := st_aload_n q82_78 rfl
theorem x82_78 {st : List Value} {M : pj_Mem} {l : pj_Loc} {x : Nat} {o9 : Option Value × pj_Mem} : pj_Ends 82 (78, some (.ref x) :: l, st, M) o9 = pj_Ends 82 (79, some (.ref x) :: l, .ref x :: st, M) o9 := pj_xs (s82_78)
theorem q82_79 : pj_row 82 79 = some (.aload_n 0, 1, 0, 0, 0) := by decide +kernel
theorem s82_79 {st : List Value} {M : pj_Mem} {l : pj_Loc} {x : Nat} : pj_step 82 (79, some (.ref x) :: l, st, M) = some (80, some (.ref x) :: l, .ref x :: st, M) := st_aload_n q82_79 rfl
theorem x82_79 {st : List Value} {M : pj_Mem} {l : pj_Loc} {x : Nat} {o9 : Option Value × pj_Mem} : pj_Ends 82 (79, some (.ref x) :: l, st, M) o9 = pj_Ends 82 (80, some (.ref x) :: l, .ref x :: st, M) o9 := pj_xs (s82_79)
theorem q82_80 : pj_row 82 80 = some (.aload_n 0, 1, 0, 0, 0) := by decide +kernel
theorem s82_80 {st : List Value} {M : pj_Mem} {l : pj_Loc} {x : Nat} : pj_step 82 (80, some (.ref x) :: l, st, M) = some (81, some (.ref x) :: l, .ref x :: st, M) := st_aload_n q82_80 rfl
theorem x82_80 {st : List Value} {M : pj_Mem} {l : pj_Loc} {x : Nat} {o9 : Option Value × pj_Mem} : pj_Ends 82 (80, some (.ref x) :: l, st, M) o9 = pj_Ends 82 (81, some (.ref x) :: l, .ref x :: st, M) o9 := pj_xs (s82_80)
theorem q82_81 : pj_row 82 81 = some (.getfield 7, 3, 6, 0, 0) := by decide +kernel
theorem s82_81 {L : pj_Loc} {st : List Value} {N S : Nat} {H : pj_Heap} {o : Nat} : pj_step 82 (81, L, .ref o :: st, (N, S, H)) = pj_pv 84 L st (N, S, H) (pj_fld (H o) 6 0) := st_getfield q82_81
theorem x82_81 {L : pj_Loc} {st : List Value} {N S : Nat} {H : pj_Heap} {o : Nat} {o9 : Option Value × pj_Mem} : pj_Ends 82 (81, L, .ref o :: st, (N, S, H)) o9 = pj_then 82 o9 (pj_pv 84 L st (N, S, H) (pj_fld (H o) 6 0)) := pj_xt q82_81 rfl (pj_cl_nc rfl) (s82_81)
theorem q82_84 : pj_row 82 84 = some (.iconst 1, 1, 0, 0, 0) := by decide +kernel
theorem s82_84 {L : pj_Loc} {st : List Value} {M : pj_Mem}  : pj_step 82 (84, L, st, M) = some (85, L, .int 1 :: st, M) := st_iconst q82_84 (by decide +kernel)
theorem x82_84 {L : pj_Loc} {st : List Value} {M : pj_Mem}  {o9 : Option Value × pj_Mem} : pj_Ends 82 (84, L, st, M) o9 = pj_Ends 82 (85, L, .int 1 :: st, M) o9 := pj_xs (s82_84)
theorem q82_85 : pj_row 82 85 = some (.iaload, 1, 0, 0, 0) := by decide +kernel
theorem s82_85 {L : pj_Loc} {st : List Value} {N S : Nat} {H : pj_Heap} {o : Nat} {i : Int32} : pj_step 82 (85, L, .int i :: .ref o :: st, (N, S, H)) = pj_pi 86 L st (N, S, H) (pj_arl (H o) 0 i) := st_iaload q82_85
theorem x82_85 {L : pj_Loc} {st : List Value} {N S : Nat} {H : pj_Heap} {o : Nat} {i : Int32} {o9 : Option Value × pj_Mem} : pj_Ends 82 (85, L, .int i :: .ref o :: st, (N, S, H)) o9 = pj_then 82 o9 (pj_pi 86 L st (N, S, H) (pj_arl (H o) 0 i)) := pj_xt q82_85 rfl (pj_cl_nc rfl) (s82_85)
theorem q82_86 : pj_row 82 86 = some (.invokevirtual 98, 3, 92, 2, 0) := by decide +kernel
theorem e82_86 {L : pj_Loc} {st : List Value} {N S : Nat} {H : pj_Heap} {o : Option Value × pj_Mem} {M' : pj_Mem} {x0 : Nat} {x1 : Int32} {r : Int32} (h4 : pj_le4 st = true) (hu : pj_isU 6 (H x0) = true) (h1 : pj_Ends 92 (0, [some (.ref x0), some (.int x1), none, none], [], (N, S, H)) (some (.int r), M')) (h2 : pj_Ends 82 (89, L, .int r :: st, M') o) : pj_Ends 82 (86, L, .int x1 :: .ref x0 :: st, (N, S, H)) o := ec_v2 q82_86 (Or.inl rfl) h4 hu rfl h1 h2
theorem q82_89 : pj_row 82 89 = some (.putfield 65, 3, 6, 10, 0) := by decide +kernel
theorem s82_89 {L : pj_Loc} {st : List Value} {N S : Nat} {H : pj_Heap} {o : Nat} {v : Value} : pj_step 82 (89, L, v :: .ref o :: st, (N, S, H)) = pj_set 92 L st (N, S, H) o (pj_fset (H o) 6 10 v) := st_putfield q82_89
theorem x82_89 {L : pj_Loc} {st : List Value} {N S : Nat} {H : pj_Heap} {o : Nat} {v : Value} {o9 : Option Value × pj_Mem} : pj_Ends 82 (89, L, v :: .ref o :: st, (N, S, H)) o9 = pj_then 82 o9 (pj_set 92 L st (N, S, H) o (pj_fset (H o) 6 10 v)) := pj_xt q82_89 rfl (pj_cl_nc rfl) (s82_89)
theorem q82_92 : pj_row 82 92 = some (.aload_n 0, 1, 0, 0, 0) := by decide +kernel
theorem s82_92 {st : List Value} {M : pj_Mem} {l : pj_Loc} {x : Nat} : pj_step 82 (92, some (.ref x) :: l, st, M) = some (93, some (.ref x) :: l, .ref x :: st, M) := st_aload_n q82_92 rfl
theorem x82_92 {st : List Value} {M : pj_Mem} {l : pj_Loc} {x : Nat} {o9 : Option Value × pj_Mem} : pj_Ends 82 (92, some (.ref x) :: l, st, M) o9 = pj_Ends 82 (93, some (.ref x) :: l, .ref x :: st, M) o9 := pj_xs (s82_92)
theorem q82_93 : pj_row 82 93 = some (.invokevirtual 101, 3, 93, 1, 0) := by decide +kernel
theorem e82_93 {L : pj_Loc} {st : List Value} {N S : Nat} {H : pj_Heap} {o : Option Value × pj_Mem} {M' : pj_Mem} {x0 : Nat} (h4 : pj_le4 st = true) (hu : pj_isU 6 (H x0) = true) (h1 : pj_Ends 93 (0, [some (.ref x0), none], [], (N, S, H)) (none, M')) (h2 : pj_Ends 82 (96, L, st, M') o) : pj_Ends 82 (93, L, .ref x0 :: st, (N, S, H)) o := ec_v1 q82_93 (Or.inl rfl) h4 hu rfl h1 h2
theorem q82_96 : pj_row 82 96 = some (.aload_n 0, 1, 0, 0, 0) := by decide +kernel
theorem s82_96 {st : List Value} {M : pj_Mem} {l : pj_Loc} {x : Nat} : pj_step 82 (96, some (.ref x) :: l, st, M) = some (97, some (.ref x) :: l, .ref x :: st, M) := st_aload_n q82_96 rfl
theorem x82_96 {st : List Value} {M : pj_Mem} {l : pj_Loc} {x : Nat} {o9 : Option Value × pj_Mem} : pj_Ends 82 (96, some (.ref x) :: l, st, M) o9 = pj_Ends 82 (97, some (.ref x) :: l, .ref x :: st, M) o9 := pj_xs (s82_96)
theorem q82_97 : pj_row 82 97 = some (.invokevirtual 104, 3, 96, 1, 0) := by decide +kernel
theorem e82_97 {L : pj_Loc} {st : List Value} {N S : Nat} {H : pj_Heap} {o : Option Value × pj_Mem} {M' : pj_Mem} {x0 : Nat} {r : Int32} (h4 : pj_le4 st = true) (hu : pj_isU 6 (H x0) = true) (h1 : pj_Ends 96 (0, [some (.ref x0)], [], (N, S, H)) (some (.int r), M')) (h2 : pj_Ends 82 (100, L, .int r :: st, M') o) : pj_Ends 82 (97, L, .ref x0 :: st, (N, S, H)) o := ec_v1 q82_97 (Or.inl rfl) h4 hu rfl h1 h2
theorem q82_100 : pj_row 82 100 = some (.ifCond .eq 8, 3, 108, 0, 0) := by decide +kernel
theorem s82_100 {L : pj_Loc} {st : List Value} {M : pj_Mem} {x : Int32} : pj_step 82 (100, L, .int x :: st, M) = some (if x = 0 then 108 else 103, L, st, M) := st_if_eq q82_100
theorem x82_100 {L : pj_Loc} {st : List Value} {M : pj_Mem} {x : Int32} {o9 : Option Value × pj_Mem} : pj_Ends 82 (100, L, .int x :: st, M) o9 = pj_Ends 82 (if x = 0 then 108 else 103, L, st, M) o9 := pj_xs (s82_100)
theorem q82_103 : pj_row 82 103 = some (.aload_n 0, 1, 0, 0, 0) := by decide +kernel
theorem s82_103 {st : List Value} {M : pj_Mem} {l : pj_Loc} {x : Nat} : pj_step 82 (103, some (.ref x) :: l, st, M) = some (104, some (.ref x) :: l, .ref x :: st, M) := st_aload_n q82_103 rfl
theorem x82_103 {st : List Value} {M : pj_Mem} {l : pj_Loc} {x : Nat} {o9 : Option Value × pj_Mem} : pj_Ends 82 (103, some (.ref x) :: l, st, M) o9 = pj_Ends 82 (104, some (.ref x) :: l, .ref x :: st, M) o9 := pj_xs (s82_103)
theorem q82_104 : pj_row 82 104 = some (.iload_n 1, 1, 0, 0, 0) := by decide +kernel
theorem s82_104 {st : List Value} {M : pj_Mem} {l : pj_Loc} {a0 : Option Value} {x : Int32} : pj_step 82 (104, a0 :: some (.int x) :: l, st, M) = some (105, a0 :: some (.int x) :: l, .int x :: st, M) := st_iload_n q82_104 rfl
theorem x82_104 {st : List Value} {M : pj_Mem} {l : pj_Loc} {a0 : Option Value} {x : Int32} {o9 : Option Value × pj_Mem} : pj_Ends 82 (104, a0 :: some (.int x) :: l, st, M) o9 = pj_Ends 82 (105, a0 :: some (.int x) :: l, .int x :: st, M) o9 := pj_xs (s82_104)
theorem q82_105 : pj_row 82 105 = some (.invokevirtual 108, 3, 97, 2, 0) := by decide +kernel
theorem e82_105 {L : pj_Loc} {st : List Value} {N S : Nat} {H : pj_Heap} {o : Option Value × pj_Mem} {M' : pj_Mem} {x0 : Nat} {x1 : Int32} (h4 : pj_le4 st = true) (hu : pj_isU 6 (H x0) = true) (h1 : pj_Ends 97 (0, [some (.ref x0), some (.int x1), none, none], [], (N, S, H)) (none, M')) (h2 : pj_Ends 82 (108, L, st, M') o) : pj_Ends 82 (105, L, .int x1 :: .ref x0 :: st, (N, S, H)) o := ec_v2 q82_105 (Or.inl rfl) h4 hu rfl h1 h2
theorem q82_108 : pj_row 82 108 = some (.aload_n 0, 1, 0, 0, 0) := by decide +kernel
theorem s82_108 {st : List Value} {M : pj_Mem} {l : pj_Loc} {x : Nat} : pj_step 82 (108, some (.ref x) :: l, st, M) = some (109, some (.ref x) :: l, .ref x :: st, M) := st_aload_n q82_108 rfl
theorem x82_108 {st : List Value} {M : pj_Mem} {l : pj_Loc} {x : Nat} {o9 : Option Value × pj_Mem} : pj_Ends 82 (108, some (.ref x) :: l, st, M) o9 = pj_Ends 82 (109, some (.ref x) :: l, .ref x :: st, M) o9 := pj_xs (s82_108)
theorem q82_109 : pj_row 82 109 = some (.getfield 7, 3, 6, 0, 0) := by decide +kernel
theorem s82_109 {L : pj_Loc} {st : List Value} {N S : Nat} {H : pj_Heap} {o : Nat} : pj_step 82 (109, L, .ref o :: st, (N, S, H)) = pj_pv 112 L st (N, S, H) (pj_fld (H o) 6 0) := st_getfield q82_109
theorem x82_109 {L : pj_Loc} {st : List Value} {N S : Nat} {H : pj_Heap} {o : Nat} {o9 : Option Value × pj_Mem} : pj_Ends 82 (109, L, .ref o :: st, (N, S, H)) o9 = pj_then 82 o9 (pj_pv 112 L st (N, S, H) (pj_fld (H o) 6 0)) := pj_xt q82_109 rfl (pj_cl_nc rfl) (s82_109)
theorem q82_112 : pj_row 82 112 = some (.bipush 29, 2, 0, 0, 0) := by decide +kernel
theorem s82_112 {L : pj_Loc} {st : List Value} {M : pj_Mem}  : pj_step 82 (112, L, st, M) = some (114, L, .int 29 :: st, M) := st_bipush q82_112 (by decide +kernel)
theorem x82_112 {L : pj_Loc} {st : List Value} {M : pj_Mem}  {o9 : Option Value × pj_Mem} : pj_Ends 82 (112, L, st, M) o9 = pj_Ends 82 (114, L, .int 29 :: st, M) o9 := pj_xs (s82_112)
theorem q82_114 : pj_row 82 114 = some (.aload_n 0, 1, 0, 0, 0) := by decide +kernel
theorem s82_114 {st : List Value} {M : pj_Mem} {l : pj_Loc} {x : Nat} : pj_step 82 (114, some (.ref x) :: l, st, M) = some (115, some (.ref x) :: l, .ref x :: st, M) := st_aload_n q82_114 rfl
theorem x82_114 {st : List Value} {M : pj_Mem} {l : pj_Loc} {x : Nat} {o9 : Option Value × pj_Mem} : pj_Ends 82 (114, some (.ref x) :: l, st, M) o9 = pj_Ends 82 (115, some (.ref x) :: l, .ref x :: st, M) o9 := pj_xs (s82_114)
theorem q82_115 : pj_row 82 115 = some (.getfield 75, 3, 6, 11, 0) := by decide +kernel
theorem s82_115 {L : pj_Loc} {st : List Value} {N S : Nat} {H : pj_Heap} {o : Nat} : pj_step 82 (115, L, .ref o :: st, (N, S, H)) = pj_pv 118 L st (N, S, H) (pj_fld (H o) 6 11) := st_getfield q82_115
theorem x82_115 {L : pj_Loc} {st : List Value} {N S : Nat} {H : pj_Heap} {o : Nat} {o9 : Option Value × pj_Mem} : pj_Ends 82 (115, L, .ref o :: st, (N, S, H)) o9 = pj_then 82 o9 (pj_pv 118 L st (N, S, H) (pj_fld (H o) 6 11)) := pj_xt q82_115 rfl (pj_cl_nc rfl) (s82_115)
theorem q82_118 : pj_row 82 118 = some (.ifCond .eq 25, 3, 143, 0, 0) := by decide +kernel
theorem s82_118 {L : pj_Loc} {st : List Value} {M : pj_Mem} {x : Int32} : pj_step 82 (118, L, .int x :: st, M) = some (if x = 0 then 143 else 121, L, st, M) := st_if_eq q82_118
theorem x82_118 {L : pj_Loc} {st : List Value} {M : pj_Mem} {x : Int32} {o9 : Option Value × pj_Mem} : pj_Ends 82 (118, L, .int x :: st, M) o9 = pj_Ends 82 (if x = 0 then 143 else 121, L, st, M) o9 := pj_xs (s82_118)
theorem q82_121 : pj_row 82 121 = some (.aload_n 0, 1, 0, 0, 0) := by decide +kernel
theorem s82_121 {st : List Value} {M : pj_Mem} {l : pj_Loc} {x : Nat} : pj_step 82 (121, some (.ref x) :: l, st, M) = some (122, some (.ref x) :: l, .ref x :: st, M) := st_aload_n q82_121 rfl
theorem x82_121 {st : List Value} {M : pj_Mem} {l : pj_Loc} {x : Nat} {o9 : Option Value × pj_Mem} : pj_Ends 82 (121, some (.ref x) :: l, st, M) o9 = pj_Ends 82 (122, some (.ref x) :: l, .ref x :: st, M) o9 := pj_xs (s82_121)
theorem q82_122 : pj_row 82 122 = some (.getfield 7, 3, 6, 0, 0) := by decide +kernel
theorem s82_122 {L : pj_Loc} {st : List Value} {N S : Nat} {H : pj_Heap} {o : Nat} : pj_step 82 (122, L, .ref o :: st, (N, S, H)) = pj_pv 125 L st (N, S, H) (pj_fld (H o) 6 0) := st_getfield q82_122
theorem x82_122 {L : pj_Loc} {st : List Value} {N S : Nat} {H : pj_Heap} {o : Nat} {o9 : Option Value × pj_Mem} : pj_Ends 82 (122, L, .ref o :: st, (N, S, H)) o9 = pj_then 82 o9 (pj_pv 125 L st (N, S, H) (pj_fld (H o) 6 0)) := pj_xt q82_122 rfl (pj_cl_nc rfl) (s82_122)
theorem q82_125 : pj_row 82 125 = some (.bipush 29, 2, 0, 0, 0) := by decide +kernel
theorem s82_125 {L : pj_Loc} {st : List Value} {M : pj_Mem}  : pj_step 82 (125, L, st, M) = some (127, L, .int 29 :: st, M) := st_bipush q82_125 (by decide +kernel)
theorem x82_125 {L : pj_Loc} {st : List Value} {M : pj_Mem}  {o9 : Option Value × pj_Mem} : pj_Ends 82 (125, L, st, M) o9 = pj_Ends 82 (127, L, .int 29 :: st, M) o9 := pj_xs (s82_125)
theorem q82_127 : pj_row 82 127 = some (.iaload, 1, 0, 0, 0) := by decide +kernel
theorem s82_127 {L : pj_Loc} {st : List Value} {N S : Nat} {H : pj_Heap} {o : Nat} {i : Int32} : pj_step 82 (127, L, .int i :: .ref o :: st, (N, S, H)) = pj_pi 128 L st (N, S, H) (pj_arl (H o) 0 i) := st_iaload q82_127
theorem x82_127 {L : pj_Loc} {st : List Value} {N S : Nat} {H : pj_Heap} {o : Nat} {i : Int32} {o9 : Option Value × pj_Mem} : pj_Ends 82 (127, L, .int i :: .ref o :: st, (N, S, H)) o9 = pj_then 82 o9 (pj_pi 128 L st (N, S, H) (pj_arl (H o) 0 i)) := pj_xt q82_127 rfl (pj_cl_nc rfl) (s82_127)
theorem q82_128 : pj_row 82 128 = some (.bipush (-6), 2, 0, 0, 0) := by decide +kernel
theorem s82_128 {L : pj_Loc} {st : List Value} {M : pj_Mem}  : pj_step 82 (128, L, st, M) = some (130, L, .int (-6) :: st, M) := st_bipush q82_128 (by decide +kernel)
theorem x82_128 {L : pj_Loc} {st : List Value} {M : pj_Mem}  {o9 : Option Value × pj_Mem} : pj_Ends 82 (128, L, st, M) o9 = pj_Ends 82 (130, L, .int (-6) :: st, M) o9 := pj_xs (s82_128)
theorem q82_130 : pj_row 82 130 = some (.if_icmp .ne 13, 3, 143, 0, 0) := by decide +kernel
theorem s82_130 {L : pj_Loc} {st : List Value} {M : pj_Mem} {x y : Int32} : pj_step 82 (130, L, .int y :: .int x :: st, M) = some (if ¬ x = y then 143 else 133, L, st, M) := st_icmp_ne q82_130
theorem x82_130 {L : pj_Loc} {st : List Value} {M : pj_Mem} {x y : Int32} {o9 : Option Value × pj_Mem} : pj_Ends 82 (130, L, .int y :: .int x :: st, M) o9 = pj_Ends 82 (if ¬ x = y then 143 else 133, L, st, M) o9 := pj_xs (s82_130)
theorem q82_133 : pj_row 82 133 = some (.aload_n 0, 1, 0, 0, 0) := by decide +kernel
theorem s82_133 {st : List Value} {M : pj_Mem} {l : pj_Loc} {x : Nat} : pj_step 82 (133, some (.ref x) :: l, st, M) = some (134, some (.ref x) :: l, .ref x :: st, M) := st_aload_n q82_133 rfl
theorem x82_133 {st : List Value} {M : pj_Mem} {l : pj_Loc} {x : Nat} {o9 : Option Value × pj_Mem} : pj_Ends 82 (133, some (.ref x) :: l, st, M) o9 = pj_Ends 82 (134, some (.ref x) :: l, .ref x :: st, M) o9 := pj_xs (s82_133)
theorem q82_134 : pj_row 82 134 = some (.getfield 7, 3, 6, 0, 0) := by decide +kernel
theorem s82_134 {L : pj_Loc} {st : List Value} {N S : Nat} {H : pj_Heap} {o : Nat} : pj_step 82 (134, L, .ref o :: st, (N, S, H)) = pj_pv 137 L st (N, S, H) (pj_fld (H o) 6 0) := st_getfield q82_134
theorem x82_134 {L : pj_Loc} {st : List Value} {N S : Nat} {H : pj_Heap} {o : Nat} {o9 : Option Value × pj_Mem} : pj_Ends 82 (134, L, .ref o :: st, (N, S, H)) o9 = pj_then 82 o9 (pj_pv 137 L st (N, S, H) (pj_fld (H o) 6 0)) := pj_xt q82_134 rfl (pj_cl_nc rfl) (s82_134)
theorem q82_137 : pj_row 82 137 = some (.bipush 6, 2, 0, 0, 0) := by decide +kernel
theorem s82_137 {L : pj_Loc} {st : List Value} {M : pj_Mem}  : pj_step 82 (137, L, st, M) = some (139, L, .int 6 :: st, M) := st_bipush q82_137 (by decide +kernel)
theorem x82_137 {L : pj_Loc} {st : List Value} {M : pj_Mem}  {o9 : Option Value × pj_Mem} : pj_Ends 82 (137, L, st, M) o9 = pj_Ends 82 (139, L, .int 6 :: st, M) o9 := pj_xs (s82_137)
theorem q82_139 : pj_row 82 139 = some (.iaload, 1, 0, 0, 0) := by decide +kernel
theorem s82_139 {L : pj_Loc} {st : List Value} {N S : Nat} {H : pj_Heap} {o : Nat} {i : Int32} : pj_step 82 (139, L, .int i :: .ref o :: st, (N, S, H)) = pj_pi 140 L st (N, S, H) (pj_arl (H o) 0 i) := st_iaload q82_139
theorem x82_139 {L : pj_Loc} {st : List Value} {N S : Nat} {H : pj_Heap} {o : Nat} {i : Int32} {o9 : Option Value × pj_Mem} : pj_Ends 82 (139, L, .int i :: .ref o :: st, (N, S, H)) o9 = pj_then 82 o9 (pj_pi 140 L st (N, S, H) (pj_arl (H o) 0 i)) := pj_xt q82_139 rfl (pj_cl_nc rfl) (s82_139)
theorem q82_140 : pj_row 82 140 = some (.goto 10, 3, 150, 0, 0) := by decide +kernel
theorem s82_140 {L : pj_Loc} {st : List Value} {M : pj_Mem}  : pj_step 82 (140, L, st, M) = some (150, L, st, M) := st_goto q82_140
theorem x82_140 {L : pj_Loc} {st : List Value} {M : pj_Mem}  {o9 : Option Value × pj_Mem} : pj_Ends 82 (140, L, st, M) o9 = pj_Ends 82 (150, L, st, M) o9 := pj_xs (s82_140)
theorem q82_143 : pj_row 82 143 = some (.aload_n 0, 1, 0, 0, 0) := by decide +kernel
theorem s82_143 {st : List Value} {M : pj_Mem} {l : pj_Loc} {x : Nat} : pj_step 82 (143, some (.ref x) :: l, st, M) = some (144, some (.ref x) :: l, .ref x :: st, M) := st_aload_n q82_143 rfl
theorem x82_143 {st : List Value} {M : pj_Mem} {l : pj_Loc} {x : Nat} {o9 : Option Value × pj_Mem} : pj_Ends 82 (143, some (.ref x) :: l, st, M) o9 = pj_Ends 82 (144, some (.ref x) :: l, .ref x :: st, M) o9 := pj_xs (s82_143)
theorem q82_144 : pj_row 82 144 = some (.getfield 7, 3, 6, 0, 0) := by decide +kernel
theorem s82_144 {L : pj_Loc} {st : List Value} {N S : Nat} {H : pj_Heap} {o : Nat} : pj_step 82 (144, L, .ref o :: st, (N, S, H)) = pj_pv 147 L st (N, S, H) (pj_fld (H o) 6 0) := st_getfield q82_144
theorem x82_144 {L : pj_Loc} {st : List Value} {N S : Nat} {H : pj_Heap} {o : Nat} {o9 : Option Value × pj_Mem} : pj_Ends 82 (144, L, .ref o :: st, (N, S, H)) o9 = pj_then 82 o9 (pj_pv 147 L st (N, S, H) (pj_fld (H o) 6 0)) := pj_xt q82_144 rfl (pj_cl_nc rfl) (s82_144)
theorem q82_147 : pj_row 82 147 = some (.bipush 29, 2, 0, 0, 0) := by decide +kernel
theorem s82_147 {L : pj_Loc} {st : List Value} {M : pj_Mem}  : pj_step 82 (147, L, st, M) = some (149, L, .int 29 :: st, M) := st_bipush q82_147 (by decide +kernel)
theorem x82_147 {L : pj_Loc} {st : List Value} {M : pj_Mem}  {o9 : Option Value × pj_Mem} : pj_Ends 82 (147, L, st, M) o9 = pj_Ends 82 (149, L, .int 29 :: st, M) o9 := pj_xs (s82_147)
theorem q82_149 : pj_row 82 149 = some (.iaload, 1, 0, 0, 0) := by decide +kernel
theorem s82_149 {L : pj_Loc} {st : List Value} {N S : Nat} {H : pj_Heap} {o : Nat} {i : Int32} : pj_step 82 (149, L, .int i :: .ref o :: st, (N, S, H)) = pj_pi 150 L st (N, S, H) (pj_arl (H o) 0 i) := st_iaload q82_149
theorem x82_149 {L : pj_Loc} {st : List Value} {N S : Nat} {H : pj_Heap} {o : Nat} {i : Int32} {o9 : Option Value × pj_Mem} : pj_Ends 82 (149, L, .int i :: .ref o :: st, (N, S, H)) o9 = pj_then 82 o9 (pj_pi 150 L st (N, S, H) (pj_arl (H o) 0 i)) := pj_xt q82_149 rfl (pj_cl_nc rfl) (s82_149)
theorem q82_150 : pj_row 82 150 = some (.iastore, 1, 0, 0, 0) := by decide +kernel
theorem s82_150 {L : pj_Loc} {st : List Value} {N S : Nat} {H : pj_Heap} {o : Nat} {i x : Int32} : pj_step 82 (150, L, .int x :: .int i :: .ref o :: st, (N, S, H)) = pj_set 151 L st (N, S, H) o (pj_ars (H o) 0 i x) := st_iastore q82_150
theorem x82_150 {L : pj_Loc} {st : List Value} {N S : Nat} {H : pj_Heap} {o : Nat} {i x : Int32} {o9 : Option Value × pj_Mem} : pj_Ends 82 (150, L, .int x :: .int i :: .ref o :: st, (N, S, H)) o9 = pj_then 82 o9 (pj_set 151 L st (N, S, H) o (pj_ars (H o) 0 i x)) := pj_xt q82_150 rfl (pj_cl_nc rfl) (s82_150)
theorem q82_151 : pj_row 82 151 = some (.aload_n 0, 1, 0, 0, 0) := by decide +kernel
theorem s82_151 {st : List Value} {M : pj_Mem} {l : pj_Loc} {x : Nat} : pj_step 82 (151, some (.ref x) :: l, st, M) = some (152, some (.ref x) :: l, .ref x :: st, M) := st_aload_n q82_151 rfl
theorem x82_151 {st : List Value} {M : pj_Mem} {l : pj_Loc} {x : Nat} {o9 : Option Value × pj_Mem} : pj_Ends 82 (151, some (.ref x) :: l, st, M) o9 = pj_Ends 82 (152, some (.ref x) :: l, .ref x :: st, M) o9 := pj_xs (s82_151)
theorem q82_152 : pj_row 82 152 = some (.getfield 7, 3, 6, 0, 0) := by decide +kernel
theorem s82_152 {L : pj_Loc} {st : List Value} {N S : Nat} {H : pj_Heap} {o : Nat} : pj_step 82 (152, L, .ref o :: st, (N, S, H)) = pj_pv 155 L st (N, S, H) (pj_fld (H o) 6 0) := st_getfield q82_152
theorem x82_152 {L : pj_Loc} {st : List Value} {N S : Nat} {H : pj_Heap} {o : Nat} {o9 : Option Value × pj_Mem} : pj_Ends 82 (152, L, .ref o :: st, (N, S, H)) o9 = pj_then 82 o9 (pj_pv 155 L st (N, S, H) (pj_fld (H o) 6 0)) := pj_xt q82_152 rfl (pj_cl_nc rfl) (s82_152)
theorem q82_155 : pj_row 82 155 = some (.bipush 6, 2, 0, 0, 0) := by decide +kernel
theorem s82_155 {L : pj_Loc} {st : List Value} {M : pj_Mem}  : pj_step 82 (155, L, st, M) = some (157, L, .int 6 :: st, M) := st_bipush q82_155 (by decide +kernel)
theorem x82_155 {L : pj_Loc} {st : List Value} {M : pj_Mem}  {o9 : Option Value × pj_Mem} : pj_Ends 82 (155, L, st, M) o9 = pj_Ends 82 (157, L, .int 6 :: st, M) o9 := pj_xs (s82_155)
theorem q82_157 : pj_row 82 157 = some (.dup2, 1, 0, 0, 0) := by decide +kernel
theorem s82_157 {L : pj_Loc} {st : List Value} {M : pj_Mem} {x : Int32} {o : Nat} : pj_step 82 (157, L, .int x :: .ref o :: st, M) = some (158, L, .int x :: .ref o :: .int x :: .ref o :: st, M) := st_dup2 q82_157
theorem x82_157 {L : pj_Loc} {st : List Value} {M : pj_Mem} {x : Int32} {o : Nat} {o9 : Option Value × pj_Mem} : pj_Ends 82 (157, L, .int x :: .ref o :: st, M) o9 = pj_Ends 82 (158, L, .int x :: .ref o :: .int x :: .ref o :: st, M) o9 := pj_xs (s82_157)
theorem q82_158 : pj_row 82 158 = some (.iaload, 1, 0, 0, 0) := by decide +kernel
theorem s82_158 {L : pj_Loc} {st : List Value} {N S : Nat} {H : pj_Heap} {o : Nat} {i : Int32} : pj_step 82 (158, L, .int i :: .ref o :: st, (N, S, H)) = pj_pi 159 L st (N, S, H) (pj_arl (H o) 0 i) := st_iaload q82_158
theorem x82_158 {L : pj_Loc} {st : List Value} {N S : Nat} {H : pj_Heap} {o : Nat} {i : Int32} {o9 : Option Value × pj_Mem} : pj_Ends 82 (158, L, .int i :: .ref o :: st, (N, S, H)) o9 = pj_then 82 o9 (pj_pi 159 L st (N, S, H) (pj_arl (H o) 0 i)) := pj_xt q82_158 rfl (pj_cl_nc rfl) (s82_158)
theorem q82_159 : pj_row 82 159 = some (.iconst 1, 1, 0, 0, 0) := by decide +kernel
theorem s82_159 {L : pj_Loc} {st : List Value} {M : pj_Mem}  : pj_step 82 (159, L, st, M) = some (160, L, .int 1 :: st, M) := st_iconst q82_159 (by decide +kernel)
theorem x82_159 {L : pj_Loc} {st : List Value} {M : pj_Mem}  {o9 : Option Value × pj_Mem} : pj_Ends 82 (159, L, st, M) o9 = pj_Ends 82 (160, L, .int 1 :: st, M) o9 := pj_xs (s82_159)
theorem q82_160 : pj_row 82 160 = some (.iadd, 1, 0, 0, 0) := by decide +kernel
theorem s82_160 {L : pj_Loc} {st : List Value} {M : pj_Mem} {x y : Int32} : pj_step 82 (160, L, .int y :: .int x :: st, M) = some (161, L, .int (x + y) :: st, M) := st_iadd q82_160
theorem x82_160 {L : pj_Loc} {st : List Value} {M : pj_Mem} {x y : Int32} {o9 : Option Value × pj_Mem} : pj_Ends 82 (160, L, .int y :: .int x :: st, M) o9 = pj_Ends 82 (161, L, .int (x + y) :: st, M) o9 := pj_xs (s82_160)
theorem q82_161 : pj_row 82 161 = some (.iastore, 1, 0, 0, 0) := by decide +kernel
theorem s82_161 {L : pj_Loc} {st : List Value} {N S : Nat} {H : pj_Heap} {o : Nat} {i x : Int32} : pj_step 82 (161, L, .int x :: .int i :: .ref o :: st, (N, S, H)) = pj_set 162 L st (N, S, H) o (pj_ars (H o) 0 i x) := st_iastore q82_161
theorem x82_161 {L : pj_Loc} {st : List Value} {N S : Nat} {H : pj_Heap} {o : Nat} {i x : Int32} {o9 : Option Value × pj_Mem} : pj_Ends 82 (161, L, .int x :: .int i :: .ref o :: st, (N, S, H)) o9 = pj_then 82 o9 (pj_set 162 L st (N, S, H) o (pj_ars (H o) 0 i x)) := pj_xt q82_161 rfl (pj_cl_nc rfl) (s82_161)
theorem q82_162 : pj_row 82 162 = some (.return_, 1, 0, 0, 0) := by decide +kernel
theorem t82_162 {L : pj_Loc} {M : pj_Mem} : pj_Ends 82 (162, L, [], M) (none, M) := pj_Ends.ret q82_162 (pj_rtn_v rt82)
theorem rt83 : pj_rt 83 = none := rfl
theorem q83_0 : pj_row 83 0 = some (.iconst 0, 1, 0, 0, 0) := by decide +kernel
theorem s83_0 {L : pj_Loc} {st : List Value} {M : pj_Mem}  : pj_step 83 (0, L, st, M) = some (1, L, .int 0 :: st, M) := st_iconst q83_0 (by decide +kernel)
theorem x83_0 {L : pj_Loc} {st : List Value} {M : pj_Mem}  {o9 : Option Value × pj_Mem} : pj_Ends 83 (0, L, st, M) o9 = pj_Ends 83 (1, L, .int 0 :: st, M) o9 := pj_xs (s83_0)
theorem q83_1 : pj_row 83 1 = some (.istore_n 1, 1, 0, 0, 0) := by decide +kernel
theorem s83_1 {st : List Value} {M : pj_Mem} {l : pj_Loc} {a0 a1 : Option Value} {x : Int32} (h : pj_long a0 = false) : pj_step 83 (1, a0 :: a1 :: l, .int x :: st, M) = some (2, a0 :: some (.int x) :: l, st, M) := st_istore_n q83_1 (pj_st_1 h)
theorem x83_1 {st : List Value} {M : pj_Mem} {l : pj_Loc} {a0 a1 : Option Value} {x : Int32} (h : pj_long a0 = false) {o9 : Option Value × pj_Mem} : pj_Ends 83 (1, a0 :: a1 :: l, .int x :: st, M) o9 = pj_Ends 83 (2, a0 :: some (.int x) :: l, st, M) o9 := pj_xs (s83_1 h)
theorem q83_2 : pj_row 83 2 = some (.iload_n 1, 1, 0, 0, 0) := by decide +kernel
theorem s83_2 {st : List Value} {M : pj_Mem} {l : pj_Loc} {a0 : Option Value} {x : Int32} : pj_step 83 (2, a0 :: some (.int x) :: l, st, M) = some (3, a0 :: some (.int x) :: l, .int x :: st, M) := st_iload_n q83_2 rfl
theorem x83_2 {st : List Value} {M : pj_Mem} {l : pj_Loc} {a0 : Option Value} {x : Int32} {o9 : Option Value × pj_Mem} : pj_Ends 83 (2, a0 :: some (.int x) :: l, st, M) o9 = pj_Ends 83 (3, a0 :: some (.int x) :: l, .int x :: st, M) o9 := pj_xs (s83_2)
theorem q83_3 : pj_row 83 3 = some (.iconst 3, 1, 0, 0, 0) := by decide +kernel
theorem s83_3 {L : pj_Loc} {st : List Value} {M : pj_Mem}  : pj_step 83 (3, L, st, M) = some (4, L, .int 3 :: st, M) := st_iconst q83_3 (by decide +kernel)
theorem x83_3 {L : pj_Loc} {st : List Value} {M : pj_Mem}  {o9 : Option Value × pj_Mem} : pj_Ends 83 (3, L, st, M) o9 = pj_Ends 83 (4, L, .int 3 :: st, M) o9 := pj_xs (s83_3)
theorem q83_4 : pj_row 83 4 = some (.if_icmp .ge 128, 3, 132, 0, 0) := by decide +kernel
theorem s83_4 {L : pj_Loc} {st : List Value} {M : pj_Mem} {x y : Int32} : pj_step 83 (4, L, .int y :: .int x :: st, M) = some (if y ≤ x then 132 else 7, L, st, M) := st_icmp_ge q83_4
theorem x83_4 {L : pj_Loc} {st : List Value} {M : pj_Mem} {x y : Int32} {o9 : Option Value × pj_Mem} : pj_Ends 83 (4, L, .int y :: .int x :: st, M) o9 = pj_Ends 83 (if y ≤ x then 132 else 7, L, st, M) o9 := pj_xs (s83_4)
theorem q83_7 : pj_row 83 7 = some (.aload_n 0, 1, 0, 0, 0) := by decide +kernel
theorem s83_7 {st : List Value} {M : pj_Mem} {l : pj_Loc} {x : Nat} : pj_step 83 (7, some (.ref x) :: l, st, M) = some (8, some (.ref x) :: l, .ref x :: st, M) := st_aload_n q83_7 rfl
theorem x83_7 {st : List Value} {M : pj_Mem} {l : pj_Loc} {x : Nat} {o9 : Option Value × pj_Mem} : pj_Ends 83 (7, some (.ref x) :: l, st, M) o9 = pj_Ends 83 (8, some (.ref x) :: l, .ref x :: st, M) o9 := pj_xs (s83_7)
theorem q83_8 : pj_row 83 8 = some (.getfield 7, 3, 6, 0, 0) := by decide +kernel
theorem s83_8 {L : pj_Loc} {st : List Value} {N S : Nat} {H : pj_Heap} {o : Nat} : pj_step 83 (8, L, .ref o :: st, (N, S, H)) = pj_pv 11 L st (N, S, H) (pj_fld (H o) 6 0) := st_getfield q83_8
theorem x83_8 {L : pj_Loc} {st : List Value} {N S : Nat} {H : pj_Heap} {o : Nat} {o9 : Option Value × pj_Mem} : pj_Ends 83 (8, L, .ref o :: st, (N, S, H)) o9 = pj_then 83 o9 (pj_pv 11 L st (N, S, H) (pj_fld (H o) 6 0)) := pj_xt q83_8 rfl (pj_cl_nc rfl) (s83_8)
theorem q83_11 : pj_row 83 11 = some (.bipush 17, 2, 0, 0, 0) := by decide +kernel
theorem s83_11 {L : pj_Loc} {st : List Value} {M : pj_Mem}  : pj_step 83 (11, L, st, M) = some (13, L, .int 17 :: st, M) := st_bipush q83_11 (by decide +kernel)
theorem x83_11 {L : pj_Loc} {st : List Value} {M : pj_Mem}  {o9 : Option Value × pj_Mem} : pj_Ends 83 (11, L, st, M) o9 = pj_Ends 83 (13, L, .int 17 :: st, M) o9 := pj_xs (s83_11)
theorem q83_13 : pj_row 83 13 = some (.iload_n 1, 1, 0, 0, 0) := by decide +kernel
theorem s83_13 {st : List Value} {M : pj_Mem} {l : pj_Loc} {a0 : Option Value} {x : Int32} : pj_step 83 (13, a0 :: some (.int x) :: l, st, M) = some (14, a0 :: some (.int x) :: l, .int x :: st, M) := st_iload_n q83_13 rfl
theorem x83_13 {st : List Value} {M : pj_Mem} {l : pj_Loc} {a0 : Option Value} {x : Int32} {o9 : Option Value × pj_Mem} : pj_Ends 83 (13, a0 :: some (.int x) :: l, st, M) o9 = pj_Ends 83 (14, a0 :: some (.int x) :: l, .int x :: st, M) o9 := pj_xs (s83_13)
theorem q83_14 : pj_row 83 14 = some (.iadd, 1, 0, 0, 0) := by decide +kernel
theorem s83_14 {L : pj_Loc} {st : List Value} {M : pj_Mem} {x y : Int32} : pj_step 83 (14, L, .int y :: .int x :: st, M) = some (15, L, .int (x + y) :: st, M) := st_iadd q83_14
theorem x83_14 {L : pj_Loc} {st : List Value} {M : pj_Mem} {x y : Int32} {o9 : Option Value × pj_Mem} : pj_Ends 83 (14, L, .int y :: .int x :: st, M) o9 = pj_Ends 83 (15, L, .int (x + y) :: st, M) o9 := pj_xs (s83_14)
theorem q83_15 : pj_row 83 15 = some (.iaload, 1, 0, 0, 0) := by decide +kernel
theorem s83_15 {L : pj_Loc} {st : List Value} {N S : Nat} {H : pj_Heap} {o : Nat} {i : Int32} : pj_step 83 (15, L, .int i :: .ref o :: st, (N, S, H)) = pj_pi 16 L st (N, S, H) (pj_arl (H o) 0 i) := st_iaload q83_15
theorem x83_15 {L : pj_Loc} {st : List Value} {N S : Nat} {H : pj_Heap} {o : Nat} {i : Int32} {o9 : Option Value × pj_Mem} : pj_Ends 83 (15, L, .int i :: .ref o :: st, (N, S, H)) o9 = pj_then 83 o9 (pj_pi 16 L st (N, S, H) (pj_arl (H o) 0 i)) := pj_xt q83_15 rfl (pj_cl_nc rfl) (s83_15)
theorem q83_16 : pj_row 83 16 = some (.ifCond .le 25, 3, 41, 0, 0) := by decide +kernel
theorem s83_16 {L : pj_Loc} {st : List Value} {M : pj_Mem} {x : Int32} : pj_step 83 (16, L, .int x :: st, M) = some (if x ≤ 0 then 41 else 19, L, st, M) := st_if_le q83_16
theorem x83_16 {L : pj_Loc} {st : List Value} {M : pj_Mem} {x : Int32} {o9 : Option Value × pj_Mem} : pj_Ends 83 (16, L, .int x :: st, M) o9 = pj_Ends 83 (if x ≤ 0 then 41 else 19, L, st, M) o9 := pj_xs (s83_16)
theorem q83_19 : pj_row 83 19 = some (.aload_n 0, 1, 0, 0, 0) := by decide +kernel
theorem s83_19 {st : List Value} {M : pj_Mem} {l : pj_Loc} {x : Nat} : pj_step 83 (19, some (.ref x) :: l, st, M) = some (20, some (.ref x) :: l, .ref x :: st, M) := st_aload_n q83_19 rfl
theorem x83_19 {st : List Value} {M : pj_Mem} {l : pj_Loc} {x : Nat} {o9 : Option Value × pj_Mem} : pj_Ends 83 (19, some (.ref x) :: l, st, M) o9 = pj_Ends 83 (20, some (.ref x) :: l, .ref x :: st, M) o9 := pj_xs (s83_19)
theorem q83_20 : pj_row 83 20 = some (.getfield 7, 3, 6, 0, 0) := by decide +kernel
theorem s83_20 {L : pj_Loc} {st : List Value} {N S : Nat} {H : pj_Heap} {o : Nat} : pj_step 83 (20, L, .ref o :: st, (N, S, H)) = pj_pv 23 L st (N, S, H) (pj_fld (H o) 6 0) := st_getfield q83_20
theorem x83_20 {L : pj_Loc} {st : List Value} {N S : Nat} {H : pj_Heap} {o : Nat} {o9 : Option Value × pj_Mem} : pj_Ends 83 (20, L, .ref o :: st, (N, S, H)) o9 = pj_then 83 o9 (pj_pv 23 L st (N, S, H) (pj_fld (H o) 6 0)) := pj_xt q83_20 rfl (pj_cl_nc rfl) (s83_20)
theorem q83_23 : pj_row 83 23 = some (.bipush 20, 2, 0, 0, 0) := by decide +kernel
theorem s83_23 {L : pj_Loc} {st : List Value} {M : pj_Mem}  : pj_step 83 (23, L, st, M) = some (25, L, .int 20 :: st, M) := st_bipush q83_23 (by decide +kernel)
theorem x83_23 {L : pj_Loc} {st : List Value} {M : pj_Mem}  {o9 : Option Value × pj_Mem} : pj_Ends 83 (23, L, st, M) o9 = pj_Ends 83 (25, L, .int 20 :: st, M) o9 := pj_xs (s83_23)
theorem q83_25 : pj_row 83 25 = some (.iload_n 1, 1, 0, 0, 0) := by decide +kernel
theorem s83_25 {st : List Value} {M : pj_Mem} {l : pj_Loc} {a0 : Option Value} {x : Int32} : pj_step 83 (25, a0 :: some (.int x) :: l, st, M) = some (26, a0 :: some (.int x) :: l, .int x :: st, M) := st_iload_n q83_25 rfl
theorem x83_25 {st : List Value} {M : pj_Mem} {l : pj_Loc} {a0 : Option Value} {x : Int32} {o9 : Option Value × pj_Mem} : pj_Ends 83 (25, a0 :: some (.int x) :: l, st, M) o9 = pj_Ends 83 (26, a0 :: some (.int x) :: l, .int x :: st, M) o9 := pj_xs (s83_25)
theorem q83_26 : pj_row 83 26 = some (.iadd, 1, 0, 0, 0) := by decide +kernel
theorem s83_26 {L : pj_Loc} {st : List Value} {M : pj_Mem} {x y : Int32} : pj_step 83 (26, L, .int y :: .int x :: st, M) = some (27, L, .int (x + y) :: st, M) := st_iadd q83_26
theorem x83_26 {L : pj_Loc} {st : List Value} {M : pj_Mem} {x y : Int32} {o9 : Option Value × pj_Mem} : pj_Ends 83 (26, L, .int y :: .int x :: st, M) o9 = pj_Ends 83 (27, L, .int (x + y) :: st, M) o9 := pj_xs (s83_26)
theorem q83_27 : pj_row 83 27 = some (.iaload, 1, 0, 0, 0) := by decide +kernel
theorem s83_27 {L : pj_Loc} {st : List Value} {N S : Nat} {H : pj_Heap} {o : Nat} {i : Int32} : pj_step 83 (27, L, .int i :: .ref o :: st, (N, S, H)) = pj_pi 28 L st (N, S, H) (pj_arl (H o) 0 i) := st_iaload q83_27
theorem x83_27 {L : pj_Loc} {st : List Value} {N S : Nat} {H : pj_Heap} {o : Nat} {i : Int32} {o9 : Option Value × pj_Mem} : pj_Ends 83 (27, L, .int i :: .ref o :: st, (N, S, H)) o9 = pj_then 83 o9 (pj_pi 28 L st (N, S, H) (pj_arl (H o) 0 i)) := pj_xt q83_27 rfl (pj_cl_nc rfl) (s83_27)
theorem q83_28 : pj_row 83 28 = some (.aload_n 0, 1, 0, 0, 0) := by decide +kernel
theorem s83_28 {st : List Value} {M : pj_Mem} {l : pj_Loc} {x : Nat} : pj_step 83 (28, some (.ref x) :: l, st, M) = some (29, some (.ref x) :: l, .ref x :: st, M) := st_aload_n q83_28 rfl
theorem x83_28 {st : List Value} {M : pj_Mem} {l : pj_Loc} {x : Nat} {o9 : Option Value × pj_Mem} : pj_Ends 83 (28, some (.ref x) :: l, st, M) o9 = pj_Ends 83 (29, some (.ref x) :: l, .ref x :: st, M) o9 := pj_xs (s83_28)
theorem q83_29 : pj_row 83 29 = some (.getfield 25, 3, 6, 6, 0) := by decide +kernel
theorem s83_29 {L : pj_Loc} {st : List Value} {N S : Nat} {H : pj_Heap} {o : Nat} : pj_step 83 (29, L, .ref o :: st, (N, S, H)) = pj_pv 32 L st (N, S, H) (pj_fld (H o) 6 6) := st_getfield q83_29
theorem x83_29 {L : pj_Loc} {st : List Value} {N S : Nat} {H : pj_Heap} {o : Nat} {o9 : Option Value × pj_Mem} : pj_Ends 83 (29, L, .ref o :: st, (N, S, H)) o9 = pj_then 83 o9 (pj_pv 32 L st (N, S, H) (pj_fld (H o) 6 6)) := pj_xt q83_29 rfl (pj_cl_nc rfl) (s83_29)
theorem q83_32 : pj_row 83 32 = some (.iload_n 1, 1, 0, 0, 0) := by decide +kernel
theorem s83_32 {st : List Value} {M : pj_Mem} {l : pj_Loc} {a0 : Option Value} {x : Int32} : pj_step 83 (32, a0 :: some (.int x) :: l, st, M) = some (33, a0 :: some (.int x) :: l, .int x :: st, M) := st_iload_n q83_32 rfl
theorem x83_32 {st : List Value} {M : pj_Mem} {l : pj_Loc} {a0 : Option Value} {x : Int32} {o9 : Option Value × pj_Mem} : pj_Ends 83 (32, a0 :: some (.int x) :: l, st, M) o9 = pj_Ends 83 (33, a0 :: some (.int x) :: l, .int x :: st, M) o9 := pj_xs (s83_32)
theorem q83_33 : pj_row 83 33 = some (.iaload, 1, 0, 0, 0) := by decide +kernel
theorem s83_33 {L : pj_Loc} {st : List Value} {N S : Nat} {H : pj_Heap} {o : Nat} {i : Int32} : pj_step 83 (33, L, .int i :: .ref o :: st, (N, S, H)) = pj_pi 34 L st (N, S, H) (pj_arl (H o) 0 i) := st_iaload q83_33
theorem x83_33 {L : pj_Loc} {st : List Value} {N S : Nat} {H : pj_Heap} {o : Nat} {i : Int32} {o9 : Option Value × pj_Mem} : pj_Ends 83 (33, L, .int i :: .ref o :: st, (N, S, H)) o9 = pj_then 83 o9 (pj_pi 34 L st (N, S, H) (pj_arl (H o) 0 i)) := pj_xt q83_33 rfl (pj_cl_nc rfl) (s83_33)
theorem q83_34 : pj_row 83 34 = some (.if_icmp .ne 7, 3, 41, 0, 0) := by decide +kernel
theorem s83_34 {L : pj_Loc} {st : List Value} {M : pj_Mem} {x y : Int32} : pj_step 83 (34, L, .int y :: .int x :: st, M) = some (if ¬ x = y then 41 else 37, L, st, M) := st_icmp_ne q83_34
theorem x83_34 {L : pj_Loc} {st : List Value} {M : pj_Mem} {x y : Int32} {o9 : Option Value × pj_Mem} : pj_Ends 83 (34, L, .int y :: .int x :: st, M) o9 = pj_Ends 83 (if ¬ x = y then 41 else 37, L, st, M) o9 := pj_xs (s83_34)
theorem q83_37 : pj_row 83 37 = some (.iconst 1, 1, 0, 0, 0) := by decide +kernel
theorem s83_37 {L : pj_Loc} {st : List Value} {M : pj_Mem}  : pj_step 83 (37, L, st, M) = some (38, L, .int 1 :: st, M) := st_iconst q83_37 (by decide +kernel)
theorem x83_37 {L : pj_Loc} {st : List Value} {M : pj_Mem}  {o9 : Option Value × pj_Mem} : pj_Ends 83 (37, L, st, M) o9 = pj_Ends 83 (38, L, .int 1 :: st, M) o9 := pj_xs (s83_37)
theorem q83_38 : pj_row 83 38 = some (.goto 4, 3, 42, 0, 0) := by decide +kernel
theorem s83_38 {L : pj_Loc} {st : List Value} {M : pj_Mem}  : pj_step 83 (38, L, st, M) = some (42, L, st, M) := st_goto q83_38
theorem x83_38 {L : pj_Loc} {st : List Value} {M : pj_Mem}  {o9 : Option Value × pj_Mem} : pj_Ends 83 (38, L, st, M) o9 = pj_Ends 83 (42, L, st, M) o9 := pj_xs (s83_38)
theorem q83_41 : pj_row 83 41 = some (.iconst 0, 1, 0, 0, 0) := by decide +kernel
theorem s83_41 {L : pj_Loc} {st : List Value} {M : pj_Mem}  : pj_step 83 (41, L, st, M) = some (42, L, .int 0 :: st, M) := st_iconst q83_41 (by decide +kernel)
theorem x83_41 {L : pj_Loc} {st : List Value} {M : pj_Mem}  {o9 : Option Value × pj_Mem} : pj_Ends 83 (41, L, st, M) o9 = pj_Ends 83 (42, L, .int 0 :: st, M) o9 := pj_xs (s83_41)
theorem q83_42 : pj_row 83 42 = some (.istore_n 2, 1, 0, 0, 0) := by decide +kernel
theorem s83_42 {st : List Value} {M : pj_Mem} {l : pj_Loc} {a0 a1 a2 : Option Value} {x : Int32} (h : pj_long a1 = false) : pj_step 83 (42, a0 :: a1 :: a2 :: l, .int x :: st, M) = some (43, a0 :: a1 :: some (.int x) :: l, st, M) := st_istore_n q83_42 (pj_st_2 h)
theorem x83_42 {st : List Value} {M : pj_Mem} {l : pj_Loc} {a0 a1 a2 : Option Value} {x : Int32} (h : pj_long a1 = false) {o9 : Option Value × pj_Mem} : pj_Ends 83 (42, a0 :: a1 :: a2 :: l, .int x :: st, M) o9 = pj_Ends 83 (43, a0 :: a1 :: some (.int x) :: l, st, M) o9 := pj_xs (s83_42 h)
theorem q83_43 : pj_row 83 43 = some (.aload_n 0, 1, 0, 0, 0) := by decide +kernel
theorem s83_43 {st : List Value} {M : pj_Mem} {l : pj_Loc} {x : Nat} : pj_step 83 (43, some (.ref x) :: l, st, M) = some (44, some (.ref x) :: l, .ref x :: st, M) := st_aload_n q83_43 rfl
theorem x83_43 {st : List Value} {M : pj_Mem} {l : pj_Loc} {x : Nat} {o9 : Option Value × pj_Mem} : pj_Ends 83 (43, some (.ref x) :: l, st, M) o9 = pj_Ends 83 (44, some (.ref x) :: l, .ref x :: st, M) o9 := pj_xs (s83_43)
theorem q83_44 : pj_row 83 44 = some (.getfield 7, 3, 6, 0, 0) := by decide +kernel
theorem s83_44 {L : pj_Loc} {st : List Value} {N S : Nat} {H : pj_Heap} {o : Nat} : pj_step 83 (44, L, .ref o :: st, (N, S, H)) = pj_pv 47 L st (N, S, H) (pj_fld (H o) 6 0) := st_getfield q83_44
theorem x83_44 {L : pj_Loc} {st : List Value} {N S : Nat} {H : pj_Heap} {o : Nat} {o9 : Option Value × pj_Mem} : pj_Ends 83 (44, L, .ref o :: st, (N, S, H)) o9 = pj_then 83 o9 (pj_pv 47 L st (N, S, H) (pj_fld (H o) 6 0)) := pj_xt q83_44 rfl (pj_cl_nc rfl) (s83_44)
theorem q83_47 : pj_row 83 47 = some (.bipush 17, 2, 0, 0, 0) := by decide +kernel
theorem s83_47 {L : pj_Loc} {st : List Value} {M : pj_Mem}  : pj_step 83 (47, L, st, M) = some (49, L, .int 17 :: st, M) := st_bipush q83_47 (by decide +kernel)
theorem x83_47 {L : pj_Loc} {st : List Value} {M : pj_Mem}  {o9 : Option Value × pj_Mem} : pj_Ends 83 (47, L, st, M) o9 = pj_Ends 83 (49, L, .int 17 :: st, M) o9 := pj_xs (s83_47)
theorem q83_49 : pj_row 83 49 = some (.iload_n 1, 1, 0, 0, 0) := by decide +kernel
theorem s83_49 {st : List Value} {M : pj_Mem} {l : pj_Loc} {a0 : Option Value} {x : Int32} : pj_step 83 (49, a0 :: some (.int x) :: l, st, M) = some (50, a0 :: some (.int x) :: l, .int x :: st, M) := st_iload_n q83_49 rfl
theorem x83_49 {st : List Value} {M : pj_Mem} {l : pj_Loc} {a0 : Option Value} {x : Int32} {o9 : Option Value × pj_Mem} : pj_Ends 83 (49, a0 :: some (.int x) :: l, st, M) o9 = pj_Ends 83 (50, a0 :: some (.int x) :: l, .int x :: st, M) o9 := pj_xs (s83_49)
theorem q83_50 : pj_row 83 50 = some (.iadd, 1, 0, 0, 0) := by decide +kernel
theorem s83_50 {L : pj_Loc} {st : List Value} {M : pj_Mem} {x y : Int32} : pj_step 83 (50, L, .int y :: .int x :: st, M) = some (51, L, .int (x + y) :: st, M) := st_iadd q83_50
theorem x83_50 {L : pj_Loc} {st : List Value} {M : pj_Mem} {x y : Int32} {o9 : Option Value × pj_Mem} : pj_Ends 83 (50, L, .int y :: .int x :: st, M) o9 = pj_Ends 83 (51, L, .int (x + y) :: st, M) o9 := pj_xs (s83_50)
theorem q83_51 : pj_row 83 51 = some (.iload_n 2, 1, 0, 0, 0) := by decide +kernel
theorem s83_51 {st : List Value} {M : pj_Mem} {l : pj_Loc} {a0 a1 : Option Value} {x : Int32} : pj_step 83 (51, a0 :: a1 :: some (.int x) :: l, st, M) = some (52, a0 :: a1 :: some (.int x) :: l, .int x :: st, M) := st_iload_n q83_51 rfl
theorem x83_51 {st : List Value} {M : pj_Mem} {l : pj_Loc} {a0 a1 : Option Value} {x : Int32} {o9 : Option Value × pj_Mem} : pj_Ends 83 (51, a0 :: a1 :: some (.int x) :: l, st, M) o9 = pj_Ends 83 (52, a0 :: a1 :: some (.int x) :: l, .int x :: st, M) o9 := pj_xs (s83_51)
theorem q83_52 : pj_row 83 52 = some (.ifCond .eq 17, 3, 69, 0, 0) := by decide +kernel
theorem s83_52 {L : pj_Loc} {st : List Value} {M : pj_Mem} {x : Int32} : pj_step 83 (52, L, .int x :: st, M) = some (if x = 0 then 69 else 55, L, st, M) := st_if_eq q83_52
theorem x83_52 {L : pj_Loc} {st : List Value} {M : pj_Mem} {x : Int32} {o9 : Option Value × pj_Mem} : pj_Ends 83 (52, L, .int x :: st, M) o9 = pj_Ends 83 (if x = 0 then 69 else 55, L, st, M) o9 := pj_xs (s83_52)
theorem q83_55 : pj_row 83 55 = some (.aload_n 0, 1, 0, 0, 0) := by decide +kernel
theorem s83_55 {st : List Value} {M : pj_Mem} {l : pj_Loc} {x : Nat} : pj_step 83 (55, some (.ref x) :: l, st, M) = some (56, some (.ref x) :: l, .ref x :: st, M) := st_aload_n q83_55 rfl
theorem x83_55 {st : List Value} {M : pj_Mem} {l : pj_Loc} {x : Nat} {o9 : Option Value × pj_Mem} : pj_Ends 83 (55, some (.ref x) :: l, st, M) o9 = pj_Ends 83 (56, some (.ref x) :: l, .ref x :: st, M) o9 := pj_xs (s83_55)
theorem q83_56 : pj_row 83 56 = some (.getfield 7, 3, 6, 0, 0) := by decide +kernel
theorem s83_56 {L : pj_Loc} {st : List Value} {N S : Nat} {H : pj_Heap} {o : Nat} : pj_step 83 (56, L, .ref o :: st, (N, S, H)) = pj_pv 59 L st (N, S, H) (pj_fld (H o) 6 0) := st_getfield q83_56
theorem x83_56 {L : pj_Loc} {st : List Value} {N S : Nat} {H : pj_Heap} {o : Nat} {o9 : Option Value × pj_Mem} : pj_Ends 83 (56, L, .ref o :: st, (N, S, H)) o9 = pj_then 83 o9 (pj_pv 59 L st (N, S, H) (pj_fld (H o) 6 0)) := pj_xt q83_56 rfl (pj_cl_nc rfl) (s83_56)
theorem q83_59 : pj_row 83 59 = some (.bipush 17, 2, 0, 0, 0) := by decide +kernel
theorem s83_59 {L : pj_Loc} {st : List Value} {M : pj_Mem}  : pj_step 83 (59, L, st, M) = some (61, L, .int 17 :: st, M) := st_bipush q83_59 (by decide +kernel)
theorem x83_59 {L : pj_Loc} {st : List Value} {M : pj_Mem}  {o9 : Option Value × pj_Mem} : pj_Ends 83 (59, L, st, M) o9 = pj_Ends 83 (61, L, .int 17 :: st, M) o9 := pj_xs (s83_59)
theorem q83_61 : pj_row 83 61 = some (.iload_n 1, 1, 0, 0, 0) := by decide +kernel
theorem s83_61 {st : List Value} {M : pj_Mem} {l : pj_Loc} {a0 : Option Value} {x : Int32} : pj_step 83 (61, a0 :: some (.int x) :: l, st, M) = some (62, a0 :: some (.int x) :: l, .int x :: st, M) := st_iload_n q83_61 rfl
theorem x83_61 {st : List Value} {M : pj_Mem} {l : pj_Loc} {a0 : Option Value} {x : Int32} {o9 : Option Value × pj_Mem} : pj_Ends 83 (61, a0 :: some (.int x) :: l, st, M) o9 = pj_Ends 83 (62, a0 :: some (.int x) :: l, .int x :: st, M) o9 := pj_xs (s83_61)
theorem q83_62 : pj_row 83 62 = some (.iadd, 1, 0, 0, 0) := by decide +kernel
theorem s83_62 {L : pj_Loc} {st : List Value} {M : pj_Mem} {x y : Int32} : pj_step 83 (62, L, .int y :: .int x :: st, M) = some (63, L, .int (x + y) :: st, M) := st_iadd q83_62
theorem x83_62 {L : pj_Loc} {st : List Value} {M : pj_Mem} {x y : Int32} {o9 : Option Value × pj_Mem} : pj_Ends 83 (62, L, .int y :: .int x :: st, M) o9 = pj_Ends 83 (63, L, .int (x + y) :: st, M) o9 := pj_xs (s83_62)
theorem q83_63 : pj_row 83 63 = some (.iaload, 1, 0, 0, 0) := by decide +kernel
theorem s83_63 {L : pj_Loc} {st : List Value} {N S : Nat} {H : pj_Heap} {o : Nat} {i : Int32} : pj_step 83 (63, L, .int i :: .ref o :: st, (N, S, H)) = pj_pi 64 L st (N, S, H) (pj_arl (H o) 0 i) := st_iaload q83_63
theorem x83_63 {L : pj_Loc} {st : List Value} {N S : Nat} {H : pj_Heap} {o : Nat} {i : Int32} {o9 : Option Value × pj_Mem} : pj_Ends 83 (63, L, .int i :: .ref o :: st, (N, S, H)) o9 = pj_then 83 o9 (pj_pi 64 L st (N, S, H) (pj_arl (H o) 0 i)) := pj_xt q83_63 rfl (pj_cl_nc rfl) (s83_63)
theorem q83_64 : pj_row 83 64 = some (.iconst 1, 1, 0, 0, 0) := by decide +kernel
theorem s83_64 {L : pj_Loc} {st : List Value} {M : pj_Mem}  : pj_step 83 (64, L, st, M) = some (65, L, .int 1 :: st, M) := st_iconst q83_64 (by decide +kernel)
theorem x83_64 {L : pj_Loc} {st : List Value} {M : pj_Mem}  {o9 : Option Value × pj_Mem} : pj_Ends 83 (64, L, st, M) o9 = pj_Ends 83 (65, L, .int 1 :: st, M) o9 := pj_xs (s83_64)
theorem q83_65 : pj_row 83 65 = some (.iadd, 1, 0, 0, 0) := by decide +kernel
theorem s83_65 {L : pj_Loc} {st : List Value} {M : pj_Mem} {x y : Int32} : pj_step 83 (65, L, .int y :: .int x :: st, M) = some (66, L, .int (x + y) :: st, M) := st_iadd q83_65
theorem x83_65 {L : pj_Loc} {st : List Value} {M : pj_Mem} {x y : Int32} {o9 : Option Value × pj_Mem} : pj_Ends 83 (65, L, .int y :: .int x :: st, M) o9 = pj_Ends 83 (66, L, .int (x + y) :: st, M) o9 := pj_xs (s83_65)
theorem q83_66 : pj_row 83 66 = some (.goto 4, 3, 70, 0, 0) := by decide +kernel
theorem s83_66 {L : pj_Loc} {st : List Value} {M : pj_Mem}  : pj_step 83 (66, L, st, M) = some (70, L, st, M) := st_goto q83_66
theorem x83_66 {L : pj_Loc} {st : List Value} {M : pj_Mem}  {o9 : Option Value × pj_Mem} : pj_Ends 83 (66, L, st, M) o9 = pj_Ends 83 (70, L, st, M) o9 := pj_xs (s83_66)
theorem q83_69 : pj_row 83 69 = some (.iconst 1, 1, 0, 0, 0) := by decide +kernel
theorem s83_69 {L : pj_Loc} {st : List Value} {M : pj_Mem}  : pj_step 83 (69, L, st, M) = some (70, L, .int 1 :: st, M) := st_iconst q83_69 (by decide +kernel)
theorem x83_69 {L : pj_Loc} {st : List Value} {M : pj_Mem}  {o9 : Option Value × pj_Mem} : pj_Ends 83 (69, L, st, M) o9 = pj_Ends 83 (70, L, .int 1 :: st, M) o9 := pj_xs (s83_69)
theorem q83_70 : pj_row 83 70 = some (.iastore, 1, 0, 0, 0) := by decide +kernel
theorem s83_70 {L : pj_Loc} {st : List Value} {N S : Nat} {H : pj_Heap} {o : Nat} {i x : Int32} : pj_step 83 (70, L, .int x :: .int i :: .ref o :: st, (N, S, H)) = pj_set 71 L st (N, S, H) o (pj_ars (H o) 0 i x) := st_iastore q83_70
theorem x83_70 {L : pj_Loc} {st : List Value} {N S : Nat} {H : pj_Heap} {o : Nat} {i x : Int32} {o9 : Option Value × pj_Mem} : pj_Ends 83 (70, L, .int x :: .int i :: .ref o :: st, (N, S, H)) o9 = pj_then 83 o9 (pj_set 71 L st (N, S, H) o (pj_ars (H o) 0 i x)) := pj_xt q83_70 rfl (pj_cl_nc rfl) (s83_70)
theorem q83_71 : pj_row 83 71 = some (.aload_n 0, 1, 0, 0, 0) := by decide +kernel
theorem s83_71 {st : List Value} {M : pj_Mem} {l : pj_Loc} {x : Nat} : pj_step 83 (71, some (.ref x) :: l, st, M) = some (72, some (.ref x) :: l, .ref x :: st, M) := st_aload_n q83_71 rfl
theorem x83_71 {st : List Value} {M : pj_Mem} {l : pj_Loc} {x : Nat} {o9 : Option Value × pj_Mem} : pj_Ends 83 (71, some (.ref x) :: l, st, M) o9 = pj_Ends 83 (72, some (.ref x) :: l, .ref x :: st, M) o9 := pj_xs (s83_71)
theorem q83_72 : pj_row 83 72 = some (.getfield 7, 3, 6, 0, 0) := by decide +kernel
theorem s83_72 {L : pj_Loc} {st : List Value} {N S : Nat} {H : pj_Heap} {o : Nat} : pj_step 83 (72, L, .ref o :: st, (N, S, H)) = pj_pv 75 L st (N, S, H) (pj_fld (H o) 6 0) := st_getfield q83_72
theorem x83_72 {L : pj_Loc} {st : List Value} {N S : Nat} {H : pj_Heap} {o : Nat} {o9 : Option Value × pj_Mem} : pj_Ends 83 (72, L, .ref o :: st, (N, S, H)) o9 = pj_then 83 o9 (pj_pv 75 L st (N, S, H) (pj_fld (H o) 6 0)) := pj_xt q83_72 rfl (pj_cl_nc rfl) (s83_72)
theorem q83_75 : pj_row 83 75 = some (.bipush 20, 2, 0, 0, 0) := by decide +kernel
theorem s83_75 {L : pj_Loc} {st : List Value} {M : pj_Mem}  : pj_step 83 (75, L, st, M) = some (77, L, .int 20 :: st, M) := st_bipush q83_75 (by decide +kernel)
theorem x83_75 {L : pj_Loc} {st : List Value} {M : pj_Mem}  {o9 : Option Value × pj_Mem} : pj_Ends 83 (75, L, st, M) o9 = pj_Ends 83 (77, L, .int 20 :: st, M) o9 := pj_xs (s83_75)
theorem q83_77 : pj_row 83 77 = some (.iload_n 1, 1, 0, 0, 0) := by decide +kernel
theorem s83_77 {st : List Value} {M : pj_Mem} {l : pj_Loc} {a0 : Option Value} {x : Int32} : pj_step 83 (77, a0 :: some (.int x) :: l, st, M) = some (78, a0 :: some (.int x) :: l, .int x :: st, M) := st_iload_n q83_77 rfl
theorem x83_77 {st : List Value} {M : pj_Mem} {l : pj_Loc} {a0 : Option Value} {x : Int32} {o9 : Option Value × pj_Mem} : pj_Ends 83 (77, a0 :: some (.int x) :: l, st, M) o9 = pj_Ends 83 (78, a0 :: some (.int x) :: l, .int x :: st, M) o9 := pj_xs (s83_77)
theorem q83_78 : pj_row 83 78 = some (.iadd, 1, 0, 0, 0) := by decide +kernel
theorem s83_78 {L : pj_Loc} {st : List Value} {M : pj_Mem} {x y : Int32} : pj_step 83 (78, L, .int y :: .int x :: st, M) = some (79, L, .int (x + y) :: st, M) := st_iadd q83_78
theorem x83_78 {L : pj_Loc} {st : List Value} {M : pj_Mem} {x y : Int32} {o9 : Option Value × pj_Mem} : pj_Ends 83 (78, L, .int y :: .int x :: st, M) o9 = pj_Ends 83 (79, L, .int (x + y) :: st, M) o9 := pj_xs (s83_78)
theorem q83_79 : pj_row 83 79 = some (.aload_n 0, 1, 0, 0, 0) := by decide +kernel
theorem s83_79 {st : List Value} {M : pj_Mem} {l : pj_Loc} {x : Nat} : pj_step 83 (79, some (.ref x) :: l, st, M) = some (80, some (.ref x) :: l, .ref x :: st, M) := st_aload_n q83_79 rfl
theorem x83_79 {st : List Value} {M : pj_Mem} {l : pj_Loc} {x : Nat} {o9 : Option Value × pj_Mem} : pj_Ends 83 (79, some (.ref x) :: l, st, M) o9 = pj_Ends 83 (80, some (.ref x) :: l, .ref x :: st, M) o9 := pj_xs (s83_79)
theorem q83_80 : pj_row 83 80 = some (.getfield 25, 3, 6, 6, 0) := by decide +kernel
theorem s83_80 {L : pj_Loc} {st : List Value} {N S : Nat} {H : pj_Heap} {o : Nat} : pj_step 83 (80, L, .ref o :: st, (N, S, H)) = pj_pv 83 L st (N, S, H) (pj_fld (H o) 6 6) := st_getfield q83_80
theorem x83_80 {L : pj_Loc} {st : List Value} {N S : Nat} {H : pj_Heap} {o : Nat} {o9 : Option Value × pj_Mem} : pj_Ends 83 (80, L, .ref o :: st, (N, S, H)) o9 = pj_then 83 o9 (pj_pv 83 L st (N, S, H) (pj_fld (H o) 6 6)) := pj_xt q83_80 rfl (pj_cl_nc rfl) (s83_80)
theorem q83_83 : pj_row 83 83 = some (.iload_n 1, 1, 0, 0, 0) := by decide +kernel
theorem s83_83 {st : List Value} {M : pj_Mem} {l : pj_Loc} {a0 : Option Value} {x : Int32} : pj_step 83 (83, a0 :: some (.int x) :: l, st, M) = some (84, a0 :: some (.int x) :: l, .int x :: st, M) := st_iload_n q83_83 rfl
theorem x83_83 {st : List Value} {M : pj_Mem} {l : pj_Loc} {a0 : Option Value} {x : Int32} {o9 : Option Value × pj_Mem} : pj_Ends 83 (83, a0 :: some (.int x) :: l, st, M) o9 = pj_Ends 83 (84, a0 :: some (.int x) :: l, .int x :: st, M) o9 := pj_xs (s83_83)
theorem q83_84 : pj_row 83 84 = some (.iaload, 1, 0, 0, 0) := by decide +kernel
theorem s83_84 {L : pj_Loc} {st : List Value} {N S : Nat} {H : pj_Heap} {o : Nat} {i : Int32} : pj_step 83 (84, L, .int i :: .ref o :: st, (N, S, H)) = pj_pi 85 L st (N, S, H) (pj_arl (H o) 0 i) := st_iaload q83_84
theorem x83_84 {L : pj_Loc} {st : List Value} {N S : Nat} {H : pj_Heap} {o : Nat} {i : Int32} {o9 : Option Value × pj_Mem} : pj_Ends 83 (84, L, .int i :: .ref o :: st, (N, S, H)) o9 = pj_then 83 o9 (pj_pi 85 L st (N, S, H) (pj_arl (H o) 0 i)) := pj_xt q83_84 rfl (pj_cl_nc rfl) (s83_84)
theorem q83_85 : pj_row 83 85 = some (.iastore, 1, 0, 0, 0) := by decide +kernel
theorem s83_85 {L : pj_Loc} {st : List Value} {N S : Nat} {H : pj_Heap} {o : Nat} {i x : Int32} : pj_step 83 (85, L, .int x :: .int i :: .ref o :: st, (N, S, H)) = pj_set 86 L st (N, S, H) o (pj_ars (H o) 0 i x) := st_iastore q83_85
theorem x83_85 {L : pj_Loc} {st : List Value} {N S : Nat} {H : pj_Heap} {o : Nat} {i x : Int32} {o9 : Option Value × pj_Mem} : pj_Ends 83 (85, L, .int x :: .int i :: .ref o :: st, (N, S, H)) o9 = pj_then 83 o9 (pj_set 86 L st (N, S, H) o (pj_ars (H o) 0 i x)) := pj_xt q83_85 rfl (pj_cl_nc rfl) (s83_85)
theorem q83_86 : pj_row 83 86 = some (.aload_n 0, 1, 0, 0, 0) := by decide +kernel
theorem s83_86 {st : List Value} {M : pj_Mem} {l : pj_Loc} {x : Nat} : pj_step 83 (86, some (.ref x) :: l, st, M) = some (87, some (.ref x) :: l, .ref x :: st, M) := st_aload_n q83_86 rfl
theorem x83_86 {st : List Value} {M : pj_Mem} {l : pj_Loc} {x : Nat} {o9 : Option Value × pj_Mem} : pj_Ends 83 (86, some (.ref x) :: l, st, M) o9 = pj_Ends 83 (87, some (.ref x) :: l, .ref x :: st, M) o9 := pj_xs (s83_86)
theorem q83_87 : pj_row 83 87 = some (.getfield 7, 3, 6, 0, 0) := by decide +kernel
theorem s83_87 {L : pj_Loc} {st : List Value} {N S : Nat} {H : pj_Heap} {o : Nat} : pj_step 83 (87, L, .ref o :: st, (N, S, H)) = pj_pv 90 L st (N, S, H) (pj_fld (H o) 6 0) := st_getfield q83_87
theorem x83_87 {L : pj_Loc} {st : List Value} {N S : Nat} {H : pj_Heap} {o : Nat} {o9 : Option Value × pj_Mem} : pj_Ends 83 (87, L, .ref o :: st, (N, S, H)) o9 = pj_then 83 o9 (pj_pv 90 L st (N, S, H) (pj_fld (H o) 6 0)) := pj_xt q83_87 rfl (pj_cl_nc rfl) (s83_87)
theorem q83_90 : pj_row 83 90 = some (.bipush 14, 2, 0, 0, 0) := by decide +kernel
theorem s83_90 {L : pj_Loc} {st : List Value} {M : pj_Mem}  : pj_step 83 (90, L, st, M) = some (92, L, .int 14 :: st, M) := st_bipush q83_90 (by decide +kernel)
theorem x83_90 {L : pj_Loc} {st : List Value} {M : pj_Mem}  {o9 : Option Value × pj_Mem} : pj_Ends 83 (90, L, st, M) o9 = pj_Ends 83 (92, L, .int 14 :: st, M) o9 := pj_xs (s83_90)
theorem q83_92 : pj_row 83 92 = some (.iload_n 1, 1, 0, 0, 0) := by decide +kernel
theorem s83_92 {st : List Value} {M : pj_Mem} {l : pj_Loc} {a0 : Option Value} {x : Int32} : pj_step 83 (92, a0 :: some (.int x) :: l, st, M) = some (93, a0 :: some (.int x) :: l, .int x :: st, M) := st_iload_n q83_92 rfl
theorem x83_92 {st : List Value} {M : pj_Mem} {l : pj_Loc} {a0 : Option Value} {x : Int32} {o9 : Option Value × pj_Mem} : pj_Ends 83 (92, a0 :: some (.int x) :: l, st, M) o9 = pj_Ends 83 (93, a0 :: some (.int x) :: l, .int x :: st, M) o9 := pj_xs (s83_92)
theorem q83_93 : pj_row 83 93 = some (.iadd, 1, 0, 0, 0) := by decide +kernel
theorem s83_93 {L : pj_Loc} {st : List Value} {M : pj_Mem} {x y : Int32} : pj_step 83 (93, L, .int y :: .int x :: st, M) = some (94, L, .int (x + y) :: st, M) := st_iadd q83_93
theorem x83_93 {L : pj_Loc} {st : List Value} {M : pj_Mem} {x y : Int32} {o9 : Option Value × pj_Mem} : pj_Ends 83 (93, L, .int y :: .int x :: st, M) o9 = pj_Ends 83 (94, L, .int (x + y) :: st, M) o9 := pj_xs (s83_93)
theorem q83_94 : pj_row 83 94 = some (.aload_n 0, 1, 0, 0, 0) := by decide +kernel
theorem s83_94 {st : List Value} {M : pj_Mem} {l : pj_Loc} {x : Nat} : pj_step 83 (94, some (.ref x) :: l, st, M) = some (95, some (.ref x) :: l, .ref x :: st, M) := st_aload_n q83_94 rfl
theorem x83_94 {st : List Value} {M : pj_Mem} {l : pj_Loc} {x : Nat} {o9 : Option Value × pj_Mem} : pj_Ends 83 (94, some (.ref x) :: l, st, M) o9 = pj_Ends 83 (95, some (.ref x) :: l, .ref x :: st, M) o9 := pj_xs (s83_94)
theorem q83_95 : pj_row 83 95 = some (.getfield 7, 3, 6, 0, 0) := by decide +kernel
theorem s83_95 {L : pj_Loc} {st : List Value} {N S : Nat} {H : pj_Heap} {o : Nat} : pj_step 83 (95, L, .ref o :: st, (N, S, H)) = pj_pv 98 L st (N, S, H) (pj_fld (H o) 6 0) := st_getfield q83_95
theorem x83_95 {L : pj_Loc} {st : List Value} {N S : Nat} {H : pj_Heap} {o : Nat} {o9 : Option Value × pj_Mem} : pj_Ends 83 (95, L, .ref o :: st, (N, S, H)) o9 = pj_then 83 o9 (pj_pv 98 L st (N, S, H) (pj_fld (H o) 6 0)) := pj_xt q83_95 rfl (pj_cl_nc rfl) (s83_95)
theorem q83_98 : pj_row 83 98 = some (.bipush 17, 2, 0, 0, 0) := by decide +kernel
theorem s83_98 {L : pj_Loc} {st : List Value} {M : pj_Mem}  : pj_step 83 (98, L, st, M) = some (100, L, .int 17 :: st, M) := st_bipush q83_98 (by decide +kernel)
theorem x83_98 {L : pj_Loc} {st : List Value} {M : pj_Mem}  {o9 : Option Value × pj_Mem} : pj_Ends 83 (98, L, st, M) o9 = pj_Ends 83 (100, L, .int 17 :: st, M) o9 := pj_xs (s83_98)
theorem q83_100 : pj_row 83 100 = some (.iload_n 1, 1, 0, 0, 0) := by decide +kernel
theorem s83_100 {st : List Value} {M : pj_Mem} {l : pj_Loc} {a0 : Option Value} {x : Int32} : pj_step 83 (100, a0 :: some (.int x) :: l, st, M) = some (101, a0 :: some (.int x) :: l, .int x :: st, M) := st_iload_n q83_100 rfl
theorem x83_100 {st : List Value} {M : pj_Mem} {l : pj_Loc} {a0 : Option Value} {x : Int32} {o9 : Option Value × pj_Mem} : pj_Ends 83 (100, a0 :: some (.int x) :: l, st, M) o9 = pj_Ends 83 (101, a0 :: some (.int x) :: l, .int x :: st, M) o9 := pj_xs (s83_100)
theorem q83_101 : pj_row 83 101 = some (.iadd, 1, 0, 0, 0) := by decide +kernel
theorem s83_101 {L : pj_Loc} {st : List Value} {M : pj_Mem} {x y : Int32} : pj_step 83 (101, L, .int y :: .int x :: st, M) = some (102, L, .int (x + y) :: st, M) := st_iadd q83_101
theorem x83_101 {L : pj_Loc} {st : List Value} {M : pj_Mem} {x y : Int32} {o9 : Option Value × pj_Mem} : pj_Ends 83 (101, L, .int y :: .int x :: st, M) o9 = pj_Ends 83 (102, L, .int (x + y) :: st, M) o9 := pj_xs (s83_101)
theorem q83_102 : pj_row 83 102 = some (.iaload, 1, 0, 0, 0) := by decide +kernel
theorem s83_102 {L : pj_Loc} {st : List Value} {N S : Nat} {H : pj_Heap} {o : Nat} {i : Int32} : pj_step 83 (102, L, .int i :: .ref o :: st, (N, S, H)) = pj_pi 103 L st (N, S, H) (pj_arl (H o) 0 i) := st_iaload q83_102
theorem x83_102 {L : pj_Loc} {st : List Value} {N S : Nat} {H : pj_Heap} {o : Nat} {i : Int32} {o9 : Option Value × pj_Mem} : pj_Ends 83 (102, L, .int i :: .ref o :: st, (N, S, H)) o9 = pj_then 83 o9 (pj_pi 103 L st (N, S, H) (pj_arl (H o) 0 i)) := pj_xt q83_102 rfl (pj_cl_nc rfl) (s83_102)
theorem q83_103 : pj_row 83 103 = some (.aload_n 0, 1, 0, 0, 0) := by decide +kernel
theorem s83_103 {st : List Value} {M : pj_Mem} {l : pj_Loc} {x : Nat} : pj_step 83 (103, some (.ref x) :: l, st, M) = some (104, some (.ref x) :: l, .ref x :: st, M) := st_aload_n q83_103 rfl
theorem x83_103 {st : List Value} {M : pj_Mem} {l : pj_Loc} {x : Nat} {o9 : Option Value × pj_Mem} : pj_Ends 83 (103, some (.ref x) :: l, st, M) o9 = pj_Ends 83 (104, some (.ref x) :: l, .ref x :: st, M) o9 := pj_xs (s83_103)
theorem q83_104 : pj_row 83 104 = some (.getfield 7, 3, 6, 0, 0) := by decide +kernel
theorem s83_104 {L : pj_Loc} {st : List Value} {N S : Nat} {H : pj_Heap} {o : Nat} : pj_step 83 (104, L, .ref o :: st, (N, S, H)) = pj_pv 107 L st (N, S, H) (pj_fld (H o) 6 0) := st_getfield q83_104
theorem x83_104 {L : pj_Loc} {st : List Value} {N S : Nat} {H : pj_Heap} {o : Nat} {o9 : Option Value × pj_Mem} : pj_Ends 83 (104, L, .ref o :: st, (N, S, H)) o9 = pj_then 83 o9 (pj_pv 107 L st (N, S, H) (pj_fld (H o) 6 0)) := pj_xt q83_104 rfl (pj_cl_nc rfl) (s83_104)
theorem q83_107 : pj_row 83 107 = some (.iconst 3, 1, 0, 0, 0) := by decide +kernel
theorem s83_107 {L : pj_Loc} {st : List Value} {M : pj_Mem}  : pj_step 83 (107, L, st, M) = some (108, L, .int 3 :: st, M) := st_iconst q83_107 (by decide +kernel)
theorem x83_107 {L : pj_Loc} {st : List Value} {M : pj_Mem}  {o9 : Option Value × pj_Mem} : pj_Ends 83 (107, L, st, M) o9 = pj_Ends 83 (108, L, .int 3 :: st, M) o9 := pj_xs (s83_107)
theorem q83_108 : pj_row 83 108 = some (.iaload, 1, 0, 0, 0) := by decide +kernel
theorem s83_108 {L : pj_Loc} {st : List Value} {N S : Nat} {H : pj_Heap} {o : Nat} {i : Int32} : pj_step 83 (108, L, .int i :: .ref o :: st, (N, S, H)) = pj_pi 109 L st (N, S, H) (pj_arl (H o) 0 i) := st_iaload q83_108
theorem x83_108 {L : pj_Loc} {st : List Value} {N S : Nat} {H : pj_Heap} {o : Nat} {i : Int32} {o9 : Option Value × pj_Mem} : pj_Ends 83 (108, L, .int i :: .ref o :: st, (N, S, H)) o9 = pj_then 83 o9 (pj_pi 109 L st (N, S, H) (pj_arl (H o) 0 i)) := pj_xt q83_108 rfl (pj_cl_nc rfl) (s83_108)
theorem q83_109 : pj_row 83 109 = some (.if_icmp .lt 7, 3, 116, 0, 0) := by decide +kernel
theorem s83_109 {L : pj_Loc} {st : List Value} {M : pj_Mem} {x y : Int32} : pj_step 83 (109, L, .int y :: .int x :: st, M) = some (if x < y then 116 else 112, L, st, M) := st_icmp_lt q83_109
theorem x83_109 {L : pj_Loc} {st : List Value} {M : pj_Mem} {x y : Int32} {o9 : Option Value × pj_Mem} : pj_Ends 83 (109, L, .int y :: .int x :: st, M) o9 = pj_Ends 83 (if x < y then 116 else 112, L, st, M) o9 := pj_xs (s83_109)
theorem q83_112 : pj_row 83 112 = some (.iconst 0, 1, 0, 0, 0) := by decide +kernel
theorem s83_112 {L : pj_Loc} {st : List Value} {M : pj_Mem}  : pj_step 83 (112, L, st, M) = some (113, L, .int 0 :: st, M) := st_iconst q83_112 (by decide +kernel)
theorem x83_112 {L : pj_Loc} {st : List Value} {M : pj_Mem}  {o9 : Option Value × pj_Mem} : pj_Ends 83 (112, L, st, M) o9 = pj_Ends 83 (113, L, .int 0 :: st, M) o9 := pj_xs (s83_112)
theorem q83_113 : pj_row 83 113 = some (.goto 12, 3, 125, 0, 0) := by decide +kernel
theorem s83_113 {L : pj_Loc} {st : List Value} {M : pj_Mem}  : pj_step 83 (113, L, st, M) = some (125, L, st, M) := st_goto q83_113
theorem x83_113 {L : pj_Loc} {st : List Value} {M : pj_Mem}  {o9 : Option Value × pj_Mem} : pj_Ends 83 (113, L, st, M) o9 = pj_Ends 83 (125, L, st, M) o9 := pj_xs (s83_113)
theorem q83_116 : pj_row 83 116 = some (.aload_n 0, 1, 0, 0, 0) := by decide +kernel
theorem s83_116 {st : List Value} {M : pj_Mem} {l : pj_Loc} {x : Nat} : pj_step 83 (116, some (.ref x) :: l, st, M) = some (117, some (.ref x) :: l, .ref x :: st, M) := st_aload_n q83_116 rfl
theorem x83_116 {st : List Value} {M : pj_Mem} {l : pj_Loc} {x : Nat} {o9 : Option Value × pj_Mem} : pj_Ends 83 (116, some (.ref x) :: l, st, M) o9 = pj_Ends 83 (117, some (.ref x) :: l, .ref x :: st, M) o9 := pj_xs (s83_116)
theorem q83_117 : pj_row 83 117 = some (.getfield 7, 3, 6, 0, 0) := by decide +kernel
theorem s83_117 {L : pj_Loc} {st : List Value} {N S : Nat} {H : pj_Heap} {o : Nat} : pj_step 83 (117, L, .ref o :: st, (N, S, H)) = pj_pv 120 L st (N, S, H) (pj_fld (H o) 6 0) := st_getfield q83_117
theorem x83_117 {L : pj_Loc} {st : List Value} {N S : Nat} {H : pj_Heap} {o : Nat} {o9 : Option Value × pj_Mem} : pj_Ends 83 (117, L, .ref o :: st, (N, S, H)) o9 = pj_then 83 o9 (pj_pv 120 L st (N, S, H) (pj_fld (H o) 6 0)) := pj_xt q83_117 rfl (pj_cl_nc rfl) (s83_117)
theorem q83_120 : pj_row 83 120 = some (.bipush 14, 2, 0, 0, 0) := by decide +kernel
theorem s83_120 {L : pj_Loc} {st : List Value} {M : pj_Mem}  : pj_step 83 (120, L, st, M) = some (122, L, .int 14 :: st, M) := st_bipush q83_120 (by decide +kernel)
theorem x83_120 {L : pj_Loc} {st : List Value} {M : pj_Mem}  {o9 : Option Value × pj_Mem} : pj_Ends 83 (120, L, st, M) o9 = pj_Ends 83 (122, L, .int 14 :: st, M) o9 := pj_xs (s83_120)
theorem q83_122 : pj_row 83 122 = some (.iload_n 1, 1, 0, 0, 0) := by decide +kernel
theorem s83_122 {st : List Value} {M : pj_Mem} {l : pj_Loc} {a0 : Option Value} {x : Int32} : pj_step 83 (122, a0 :: some (.int x) :: l, st, M) = some (123, a0 :: some (.int x) :: l, .int x :: st, M) := st_iload_n q83_122 rfl
theorem x83_122 {st : List Value} {M : pj_Mem} {l : pj_Loc} {a0 : Option Value} {x : Int32} {o9 : Option Value × pj_Mem} : pj_Ends 83 (122, a0 :: some (.int x) :: l, st, M) o9 = pj_Ends 83 (123, a0 :: some (.int x) :: l, .int x :: st, M) o9 := pj_xs (s83_122)
theorem q83_123 : pj_row 83 123 = some (.iadd, 1, 0, 0, 0) := by decide +kernel
theorem s83_123 {L : pj_Loc} {st : List Value} {M : pj_Mem} {x y : Int32} : pj_step 83 (123, L, .int y :: .int x :: st, M) = some (124, L, .int (x + y) :: st, M) := st_iadd q83_123
theorem x83_123 {L : pj_Loc} {st : List Value} {M : pj_Mem} {x y : Int32} {o9 : Option Value × pj_Mem} : pj_Ends 83 (123, L, .int y :: .int x :: st, M) o9 = pj_Ends 83 (124, L, .int (x + y) :: st, M) o9 := pj_xs (s83_123)
theorem q83_124 : pj_row 83 124 = some (.iaload, 1, 0, 0, 0) := by decide +kernel
theorem s83_124 {L : pj_Loc} {st : List Value} {N S : Nat} {H : pj_Heap} {o : Nat} {i : Int32} : pj_step 83 (124, L, .int i :: .ref o :: st, (N, S, H)) = pj_pi 125 L st (N, S, H) (pj_arl (H o) 0 i) := st_iaload q83_124
theorem x83_124 {L : pj_Loc} {st : List Value} {N S : Nat} {H : pj_Heap} {o : Nat} {i : Int32} {o9 : Option Value × pj_Mem} : pj_Ends 83 (124, L, .int i :: .ref o :: st, (N, S, H)) o9 = pj_then 83 o9 (pj_pi 125 L st (N, S, H) (pj_arl (H o) 0 i)) := pj_xt q83_124 rfl (pj_cl_nc rfl) (s83_124)
theorem q83_125 : pj_row 83 125 = some (.iastore, 1, 0, 0, 0) := by decide +kernel
theorem s83_125 {L : pj_Loc} {st : List Value} {N S : Nat} {H : pj_Heap} {o : Nat} {i x : Int32} : pj_step 83 (125, L, .int x :: .int i :: .ref o :: st, (N, S, H)) = pj_set 126 L st (N, S, H) o (pj_ars (H o) 0 i x) := st_iastore q83_125
theorem x83_125 {L : pj_Loc} {st : List Value} {N S : Nat} {H : pj_Heap} {o : Nat} {i x : Int32} {o9 : Option Value × pj_Mem} : pj_Ends 83 (125, L, .int x :: .int i :: .ref o :: st, (N, S, H)) o9 = pj_then 83 o9 (pj_set 126 L st (N, S, H) o (pj_ars (H o) 0 i x)) := pj_xt q83_125 rfl (pj_cl_nc rfl) (s83_125)
theorem q83_126 : pj_row 83 126 = some (.iinc 1 1, 3, 0, 0, 0) := by decide +kernel
theorem s83_126 {st : List Value} {M : pj_Mem} {l : pj_Loc} {a0 : Option Value} {x : Int32} (h : pj_long a0 = false) : pj_step 83 (126, a0 :: some (.int x) :: l, st, M) = some (129, a0 :: some (.int (x + 1)) :: l, st, M) := st_iinc q83_126 rfl (congrArg (fun y => x + y) (show Int32.ofInt 1 = 1 by decide +kernel)) (pj_st_1 h)
theorem x83_126 {st : List Value} {M : pj_Mem} {l : pj_Loc} {a0 : Option Value} {x : Int32} (h : pj_long a0 = false) {o9 : Option Value × pj_Mem} : pj_Ends 83 (126, a0 :: some (.int x) :: l, st, M) o9 = pj_Ends 83 (129, a0 :: some (.int (x + 1)) :: l, st, M) o9 := pj_xs (s83_126 h)
theorem q83_129 : pj_row 83 129 = some (.goto (-127), 3, 2, 0, 0) := by decide +kernel
theorem s83_129 {L : pj_Loc} {st : List Value} {M : pj_Mem}  : pj_step 83 (129, L, st, M) = some (2, L, st, M) := st_goto q83_129
theorem x83_129 {L : pj_Loc} {st : List Value} {M : pj_Mem}  {o9 : Option Value × pj_Mem} : pj_Ends 83 (129, L, st, M) o9 = pj_Ends 83 (2, L, st, M) o9 := pj_xs (s83_129)
theorem q83_132 : pj_row 83 132 = some (.return_, 1, 0, 0, 0) := by decide +kernel
theorem t83_132 {L : pj_Loc} {M : pj_Mem} : pj_Ends 83 (132, L, [], M) (none, M) := pj_Ends.ret q83_132 (pj_rtn_v rt83)
theorem rt84 : pj_rt 84 = none := rfl
theorem q84_0 : pj_row 84 0 = some (.aload_n 0, 1, 0, 0, 0) := by decide +kernel
theorem s84_0 {st : List Value} {M : pj_Mem} {l : pj_Loc} {x : Nat} : pj_step 84 (0, some (.ref x) :: l, st, M) = some (1, some (.ref x) :: l, .ref x :: st, M) := st_aload_n q84_0 rfl
theorem x84_0 {st : List Value} {M : pj_Mem} {l : pj_Loc} {x : Nat} {o9 : Option Value × pj_Mem} : pj_Ends 84 (0, some (.ref x) :: l, st, M) o9 = pj_Ends 84 (1, some (.ref x) :: l, .ref x :: st, M) o9 := pj_xs (s84_0)
theorem q84_1 : pj_row 84 1 = some (.invokevirtual 48, 3, 85, 1, 0) := by decide +kernel
theorem e84_1 {L : pj_Loc} {st : List Value} {N S : Nat} {H : pj_Heap} {o : Option Value × pj_Mem} {M' : pj_Mem} {x0 : Nat} {r : Int32} (h4 : pj_le4 st = true) (hu : pj_isU 6 (H x0) = true) (h1 : pj_Ends 85 (0, [some (.ref x0)], [], (N, S, H)) (some (.int r), M')) (h2 : pj_Ends 84 (4, L, .int r :: st, M') o) : pj_Ends 84 (1, L, .ref x0 :: st, (N, S, H)) o := ec_v1 q84_1 (Or.inl rfl) h4 hu rfl h1 h2
theorem q84_4 : pj_row 84 4 = some (.invokestatic 52, 3, 86, 1, 0) := by decide +kernel
theorem e84_4 {L : pj_Loc} {st : List Value} {N S : Nat} {H : pj_Heap} {o : Option Value × pj_Mem} {M' : pj_Mem} {x0 : Int32} {r : Int32} (h4 : pj_le4 st = true) (h1 : pj_Ends 86 (0, [some (.int x0)], [], (N, S, H)) (some (.int r), M')) (h2 : pj_Ends 84 (7, L, .int r :: st, M') o) : pj_Ends 84 (4, L, .int x0 :: st, (N, S, H)) o := ec_s1 q84_4 (Or.inl rfl) h4 rfl h1 h2
theorem q84_7 : pj_row 84 7 = some (.iconst 3, 1, 0, 0, 0) := by decide +kernel
theorem s84_7 {L : pj_Loc} {st : List Value} {M : pj_Mem}  : pj_step 84 (7, L, st, M) = some (8, L, .int 3 :: st, M) := st_iconst q84_7 (by decide +kernel)
theorem x84_7 {L : pj_Loc} {st : List Value} {M : pj_Mem}  {o9 : Option Value × pj_Mem} : pj_Ends 84 (7, L, st, M) o9 = pj_Ends 84 (8, L, .int 3 :: st, M) o9 := pj_xs (s84_7)
theorem q84_8 : pj_row 84 8 = some (.if_icmp .ne 7, 3, 15, 0, 0) := by decide +kernel
theorem s84_8 {L : pj_Loc} {st : List Value} {M : pj_Mem} {x y : Int32} : pj_step 84 (8, L, .int y :: .int x :: st, M) = some (if ¬ x = y then 15 else 11, L, st, M) := st_icmp_ne q84_8
theorem x84_8 {L : pj_Loc} {st : List Value} {M : pj_Mem} {x y : Int32} {o9 : Option Value × pj_Mem} : pj_Ends 84 (8, L, .int y :: .int x :: st, M) o9 = pj_Ends 84 (if ¬ x = y then 15 else 11, L, st, M) o9 := pj_xs (s84_8)
theorem q84_11 : pj_row 84 11 = some (.iconst 1, 1, 0, 0, 0) := by decide +kernel
theorem s84_11 {L : pj_Loc} {st : List Value} {M : pj_Mem}  : pj_step 84 (11, L, st, M) = some (12, L, .int 1 :: st, M) := st_iconst q84_11 (by decide +kernel)
theorem x84_11 {L : pj_Loc} {st : List Value} {M : pj_Mem}  {o9 : Option Value × pj_Mem} : pj_Ends 84 (11, L, st, M) o9 = pj_Ends 84 (12, L, .int 1 :: st, M) o9 := pj_xs (s84_11)
theorem q84_12 : pj_row 84 12 = some (.goto 4, 3, 16, 0, 0) := by decide +kernel
theorem s84_12 {L : pj_Loc} {st : List Value} {M : pj_Mem}  : pj_step 84 (12, L, st, M) = some (16, L, st, M) := st_goto q84_12
theorem x84_12 {L : pj_Loc} {st : List Value} {M : pj_Mem}  {o9 : Option Value × pj_Mem} : pj_Ends 84 (12, L, st, M) o9 = pj_Ends 84 (16, L, st, M) o9 := pj_xs (s84_12)
theorem q84_15 : pj_row 84 15 = some (.iconst 0, 1, 0, 0, 0) := by decide +kernel
theorem s84_15 {L : pj_Loc} {st : List Value} {M : pj_Mem}  : pj_step 84 (15, L, st, M) = some (16, L, .int 0 :: st, M) := st_iconst q84_15 (by decide +kernel)
theorem x84_15 {L : pj_Loc} {st : List Value} {M : pj_Mem}  {o9 : Option Value × pj_Mem} : pj_Ends 84 (15, L, st, M) o9 = pj_Ends 84 (16, L, .int 0 :: st, M) o9 := pj_xs (s84_15)
theorem q84_16 : pj_row 84 16 = some (.istore_n 1, 1, 0, 0, 0) := by decide +kernel
theorem s84_16 {st : List Value} {M : pj_Mem} {l : pj_Loc} {a0 a1 : Option Value} {x : Int32} (h : pj_long a0 = false) : pj_step 84 (16, a0 :: a1 :: l, .int x :: st, M) = some (17, a0 :: some (.int x) :: l, st, M) := st_istore_n q84_16 (pj_st_1 h)
theorem x84_16 {st : List Value} {M : pj_Mem} {l : pj_Loc} {a0 a1 : Option Value} {x : Int32} (h : pj_long a0 = false) {o9 : Option Value × pj_Mem} : pj_Ends 84 (16, a0 :: a1 :: l, .int x :: st, M) o9 = pj_Ends 84 (17, a0 :: some (.int x) :: l, st, M) o9 := pj_xs (s84_16 h)
theorem q84_17 : pj_row 84 17 = some (.aload_n 0, 1, 0, 0, 0) := by decide +kernel
theorem s84_17 {st : List Value} {M : pj_Mem} {l : pj_Loc} {x : Nat} : pj_step 84 (17, some (.ref x) :: l, st, M) = some (18, some (.ref x) :: l, .ref x :: st, M) := st_aload_n q84_17 rfl
theorem x84_17 {st : List Value} {M : pj_Mem} {l : pj_Loc} {x : Nat} {o9 : Option Value × pj_Mem} : pj_Ends 84 (17, some (.ref x) :: l, st, M) o9 = pj_Ends 84 (18, some (.ref x) :: l, .ref x :: st, M) o9 := pj_xs (s84_17)
theorem q84_18 : pj_row 84 18 = some (.iconst 0, 1, 0, 0, 0) := by decide +kernel
theorem s84_18 {L : pj_Loc} {st : List Value} {M : pj_Mem}  : pj_step 84 (18, L, st, M) = some (19, L, .int 0 :: st, M) := st_iconst q84_18 (by decide +kernel)
theorem x84_18 {L : pj_Loc} {st : List Value} {M : pj_Mem}  {o9 : Option Value × pj_Mem} : pj_Ends 84 (18, L, st, M) o9 = pj_Ends 84 (19, L, .int 0 :: st, M) o9 := pj_xs (s84_18)
theorem q84_19 : pj_row 84 19 = some (.putfield 56, 3, 6, 8, 0) := by decide +kernel
theorem s84_19 {L : pj_Loc} {st : List Value} {N S : Nat} {H : pj_Heap} {o : Nat} {v : Value} : pj_step 84 (19, L, v :: .ref o :: st, (N, S, H)) = pj_set 22 L st (N, S, H) o (pj_fset (H o) 6 8 v) := st_putfield q84_19
theorem x84_19 {L : pj_Loc} {st : List Value} {N S : Nat} {H : pj_Heap} {o : Nat} {v : Value} {o9 : Option Value × pj_Mem} : pj_Ends 84 (19, L, v :: .ref o :: st, (N, S, H)) o9 = pj_then 84 o9 (pj_set 22 L st (N, S, H) o (pj_fset (H o) 6 8 v)) := pj_xt q84_19 rfl (pj_cl_nc rfl) (s84_19)
theorem q84_22 : pj_row 84 22 = some (.iconst 0, 1, 0, 0, 0) := by decide +kernel
theorem s84_22 {L : pj_Loc} {st : List Value} {M : pj_Mem}  : pj_step 84 (22, L, st, M) = some (23, L, .int 0 :: st, M) := st_iconst q84_22 (by decide +kernel)
theorem x84_22 {L : pj_Loc} {st : List Value} {M : pj_Mem}  {o9 : Option Value × pj_Mem} : pj_Ends 84 (22, L, st, M) o9 = pj_Ends 84 (23, L, .int 0 :: st, M) o9 := pj_xs (s84_22)
theorem q84_23 : pj_row 84 23 = some (.istore_n 2, 1, 0, 0, 0) := by decide +kernel
theorem s84_23 {st : List Value} {M : pj_Mem} {l : pj_Loc} {a0 a1 a2 : Option Value} {x : Int32} (h : pj_long a1 = false) : pj_step 84 (23, a0 :: a1 :: a2 :: l, .int x :: st, M) = some (24, a0 :: a1 :: some (.int x) :: l, st, M) := st_istore_n q84_23 (pj_st_2 h)
theorem x84_23 {st : List Value} {M : pj_Mem} {l : pj_Loc} {a0 a1 a2 : Option Value} {x : Int32} (h : pj_long a1 = false) {o9 : Option Value × pj_Mem} : pj_Ends 84 (23, a0 :: a1 :: a2 :: l, .int x :: st, M) o9 = pj_Ends 84 (24, a0 :: a1 :: some (.int x) :: l, st, M) o9 := pj_xs (s84_23 h)
theorem q84_24 : pj_row 84 24 = some (.iload_n 2, 1, 0, 0, 0) := by decide +kernel
theorem s84_24 {st : List Value} {M : pj_Mem} {l : pj_Loc} {a0 a1 : Option Value} {x : Int32} : pj_step 84 (24, a0 :: a1 :: some (.int x) :: l, st, M) = some (25, a0 :: a1 :: some (.int x) :: l, .int x :: st, M) := st_iload_n q84_24 rfl
theorem x84_24 {st : List Value} {M : pj_Mem} {l : pj_Loc} {a0 a1 : Option Value} {x : Int32} {o9 : Option Value × pj_Mem} : pj_Ends 84 (24, a0 :: a1 :: some (.int x) :: l, st, M) o9 = pj_Ends 84 (25, a0 :: a1 :: some (.int x) :: l, .int x :: st, M) o9 := pj_xs (s84_24)
theorem q84_25 : pj_row 84 25 = some (.iconst 3, 1, 0, 0, 0) := by decide +kernel
theorem s84_25 {L : pj_Loc} {st : List Value} {M : pj_Mem}  : pj_step 84 (25, L, st, M) = some (26, L, .int 3 :: st, M) := st_iconst q84_25 (by decide +kernel)
theorem x84_25 {L : pj_Loc} {st : List Value} {M : pj_Mem}  {o9 : Option Value × pj_Mem} : pj_Ends 84 (25, L, st, M) o9 = pj_Ends 84 (26, L, .int 3 :: st, M) o9 := pj_xs (s84_25)
theorem q84_26 : pj_row 84 26 = some (.if_icmp .ge 31, 3, 57, 0, 0) := by decide +kernel
theorem s84_26 {L : pj_Loc} {st : List Value} {M : pj_Mem} {x y : Int32} : pj_step 84 (26, L, .int y :: .int x :: st, M) = some (if y ≤ x then 57 else 29, L, st, M) := st_icmp_ge q84_26
theorem x84_26 {L : pj_Loc} {st : List Value} {M : pj_Mem} {x y : Int32} {o9 : Option Value × pj_Mem} : pj_Ends 84 (26, L, .int y :: .int x :: st, M) o9 = pj_Ends 84 (if y ≤ x then 57 else 29, L, st, M) o9 := pj_xs (s84_26)
theorem q84_29 : pj_row 84 29 = some (.aload_n 0, 1, 0, 0, 0) := by decide +kernel
theorem s84_29 {st : List Value} {M : pj_Mem} {l : pj_Loc} {x : Nat} : pj_step 84 (29, some (.ref x) :: l, st, M) = some (30, some (.ref x) :: l, .ref x :: st, M) := st_aload_n q84_29 rfl
theorem x84_29 {st : List Value} {M : pj_Mem} {l : pj_Loc} {x : Nat} {o9 : Option Value × pj_Mem} : pj_Ends 84 (29, some (.ref x) :: l, st, M) o9 = pj_Ends 84 (30, some (.ref x) :: l, .ref x :: st, M) o9 := pj_xs (s84_29)
theorem q84_30 : pj_row 84 30 = some (.getfield 28, 3, 6, 7, 0) := by decide +kernel
theorem s84_30 {L : pj_Loc} {st : List Value} {N S : Nat} {H : pj_Heap} {o : Nat} : pj_step 84 (30, L, .ref o :: st, (N, S, H)) = pj_pv 33 L st (N, S, H) (pj_fld (H o) 6 7) := st_getfield q84_30
theorem x84_30 {L : pj_Loc} {st : List Value} {N S : Nat} {H : pj_Heap} {o : Nat} {o9 : Option Value × pj_Mem} : pj_Ends 84 (30, L, .ref o :: st, (N, S, H)) o9 = pj_then 84 o9 (pj_pv 33 L st (N, S, H) (pj_fld (H o) 6 7)) := pj_xt q84_30 rfl (pj_cl_nc rfl) (s84_30)
theorem q84_33 : pj_row 84 33 = some (.iload_n 2, 1, 0, 0, 0) := by decide +kernel
theorem s84_33 {st : List Value} {M : pj_Mem} {l : pj_Loc} {a0 a1 : Option Value} {x : Int32} : pj_step 84 (33, a0 :: a1 :: some (.int x) :: l, st, M) = some (34, a0 :: a1 :: some (.int x) :: l, .int x :: st, M) := st_iload_n q84_33 rfl
theorem x84_33 {st : List Value} {M : pj_Mem} {l : pj_Loc} {a0 a1 : Option Value} {x : Int32} {o9 : Option Value × pj_Mem} : pj_Ends 84 (33, a0 :: a1 :: some (.int x) :: l, st, M) o9 = pj_Ends 84 (34, a0 :: a1 :: some (.int x) :: l, .int x :: st, M) o9 := pj_xs (s84_33)
theorem q84_34 : pj_row 84 34 = some (.aload_n 0, 1, 0, 0, 0) := by decide +kernel
theorem s84_34 {st : List Value} {M : pj_Mem} {l : pj_Loc} {x : Nat} : pj_step 84 (34, some (.ref x) :: l, st, M) = some (35, some (.ref x) :: l, .ref x :: st, M) := st_aload_n q84_34 rfl
theorem x84_34 {st : List Value} {M : pj_Mem} {l : pj_Loc} {x : Nat} {o9 : Option Value × pj_Mem} : pj_Ends 84 (34, some (.ref x) :: l, st, M) o9 = pj_Ends 84 (35, some (.ref x) :: l, .ref x :: st, M) o9 := pj_xs (s84_34)
theorem q84_35 : pj_row 84 35 = some (.getfield 25, 3, 6, 6, 0) := by decide +kernel
theorem s84_35 {L : pj_Loc} {st : List Value} {N S : Nat} {H : pj_Heap} {o : Nat} : pj_step 84 (35, L, .ref o :: st, (N, S, H)) = pj_pv 38 L st (N, S, H) (pj_fld (H o) 6 6) := st_getfield q84_35
theorem x84_35 {L : pj_Loc} {st : List Value} {N S : Nat} {H : pj_Heap} {o : Nat} {o9 : Option Value × pj_Mem} : pj_Ends 84 (35, L, .ref o :: st, (N, S, H)) o9 = pj_then 84 o9 (pj_pv 38 L st (N, S, H) (pj_fld (H o) 6 6)) := pj_xt q84_35 rfl (pj_cl_nc rfl) (s84_35)
theorem q84_38 : pj_row 84 38 = some (.iload_n 2, 1, 0, 0, 0) := by decide +kernel
theorem s84_38 {st : List Value} {M : pj_Mem} {l : pj_Loc} {a0 a1 : Option Value} {x : Int32} : pj_step 84 (38, a0 :: a1 :: some (.int x) :: l, st, M) = some (39, a0 :: a1 :: some (.int x) :: l, .int x :: st, M) := st_iload_n q84_38 rfl
theorem x84_38 {st : List Value} {M : pj_Mem} {l : pj_Loc} {a0 a1 : Option Value} {x : Int32} {o9 : Option Value × pj_Mem} : pj_Ends 84 (38, a0 :: a1 :: some (.int x) :: l, st, M) o9 = pj_Ends 84 (39, a0 :: a1 :: some (.int x) :: l, .int x :: st, M) o9 := pj_xs (s84_38)
theorem q84_39 : pj_row 84 39 = some (.iaload, 1, 0, 0, 0) := by decide +kernel
theorem s84_39 {L : pj_Loc} {st : List Value} {N S : Nat} {H : pj_Heap} {o : Nat} {i : Int32} : pj_step 84 (39, L, .int i :: .ref o :: st, (N, S, H)) = pj_pi 40 L st (N, S, H) (pj_arl (H o) 0 i) := st_iaload q84_39
theorem x84_39 {L : pj_Loc} {st : List Value} {N S : Nat} {H : pj_Heap} {o : Nat} {i : Int32} {o9 : Option Value × pj_Mem} : pj_Ends 84 (39, L, .int i :: .ref o :: st, (N, S, H)) o9 = pj_then 84 o9 (pj_pi 40 L st (N, S, H) (pj_arl (H o) 0 i)) := pj_xt q84_39 rfl (pj_cl_nc rfl) (s84_39)
theorem q84_40 : pj_row 84 40 = some (.aload_n 0, 1, 0, 0, 0) := by decide +kernel
theorem s84_40 {st : List Value} {M : pj_Mem} {l : pj_Loc} {x : Nat} : pj_step 84 (40, some (.ref x) :: l, st, M) = some (41, some (.ref x) :: l, .ref x :: st, M) := st_aload_n q84_40 rfl
theorem x84_40 {st : List Value} {M : pj_Mem} {l : pj_Loc} {x : Nat} {o9 : Option Value × pj_Mem} : pj_Ends 84 (40, some (.ref x) :: l, st, M) o9 = pj_Ends 84 (41, some (.ref x) :: l, .ref x :: st, M) o9 := pj_xs (s84_40)
theorem q84_41 : pj_row 84 41 = some (.getfield 7, 3, 6, 0, 0) := by decide +kernel
theorem s84_41 {L : pj_Loc} {st : List Value} {N S : Nat} {H : pj_Heap} {o : Nat} : pj_step 84 (41, L, .ref o :: st, (N, S, H)) = pj_pv 44 L st (N, S, H) (pj_fld (H o) 6 0) := st_getfield q84_41
theorem x84_41 {L : pj_Loc} {st : List Value} {N S : Nat} {H : pj_Heap} {o : Nat} {o9 : Option Value × pj_Mem} : pj_Ends 84 (41, L, .ref o :: st, (N, S, H)) o9 = pj_then 84 o9 (pj_pv 44 L st (N, S, H) (pj_fld (H o) 6 0)) := pj_xt q84_41 rfl (pj_cl_nc rfl) (s84_41)
theorem q84_44 : pj_row 84 44 = some (.bipush 8, 2, 0, 0, 0) := by decide +kernel
theorem s84_44 {L : pj_Loc} {st : List Value} {M : pj_Mem}  : pj_step 84 (44, L, st, M) = some (46, L, .int 8 :: st, M) := st_bipush q84_44 (by decide +kernel)
theorem x84_44 {L : pj_Loc} {st : List Value} {M : pj_Mem}  {o9 : Option Value × pj_Mem} : pj_Ends 84 (44, L, st, M) o9 = pj_Ends 84 (46, L, .int 8 :: st, M) o9 := pj_xs (s84_44)
theorem q84_46 : pj_row 84 46 = some (.iload_n 2, 1, 0, 0, 0) := by decide +kernel
theorem s84_46 {st : List Value} {M : pj_Mem} {l : pj_Loc} {a0 a1 : Option Value} {x : Int32} : pj_step 84 (46, a0 :: a1 :: some (.int x) :: l, st, M) = some (47, a0 :: a1 :: some (.int x) :: l, .int x :: st, M) := st_iload_n q84_46 rfl
theorem x84_46 {st : List Value} {M : pj_Mem} {l : pj_Loc} {a0 a1 : Option Value} {x : Int32} {o9 : Option Value × pj_Mem} : pj_Ends 84 (46, a0 :: a1 :: some (.int x) :: l, st, M) o9 = pj_Ends 84 (47, a0 :: a1 :: some (.int x) :: l, .int x :: st, M) o9 := pj_xs (s84_46)
theorem q84_47 : pj_row 84 47 = some (.iadd, 1, 0, 0, 0) := by decide +kernel
theorem s84_47 {L : pj_Loc} {st : List Value} {M : pj_Mem} {x y : Int32} : pj_step 84 (47, L, .int y :: .int x :: st, M) = some (48, L, .int (x + y) :: st, M) := st_iadd q84_47
theorem x84_47 {L : pj_Loc} {st : List Value} {M : pj_Mem} {x y : Int32} {o9 : Option Value × pj_Mem} : pj_Ends 84 (47, L, .int y :: .int x :: st, M) o9 = pj_Ends 84 (48, L, .int (x + y) :: st, M) o9 := pj_xs (s84_47)
theorem q84_48 : pj_row 84 48 = some (.iaload, 1, 0, 0, 0) := by decide +kernel
theorem s84_48 {L : pj_Loc} {st : List Value} {N S : Nat} {H : pj_Heap} {o : Nat} {i : Int32} : pj_step 84 (48, L, .int i :: .ref o :: st, (N, S, H)) = pj_pi 49 L st (N, S, H) (pj_arl (H o) 0 i) := st_iaload q84_48
theorem x84_48 {L : pj_Loc} {st : List Value} {N S : Nat} {H : pj_Heap} {o : Nat} {i : Int32} {o9 : Option Value × pj_Mem} : pj_Ends 84 (48, L, .int i :: .ref o :: st, (N, S, H)) o9 = pj_then 84 o9 (pj_pi 49 L st (N, S, H) (pj_arl (H o) 0 i)) := pj_xt q84_48 rfl (pj_cl_nc rfl) (s84_48)
theorem q84_49 : pj_row 84 49 = some (.isub, 1, 0, 0, 0) := by decide +kernel
theorem s84_49 {L : pj_Loc} {st : List Value} {M : pj_Mem} {x y : Int32} : pj_step 84 (49, L, .int y :: .int x :: st, M) = some (50, L, .int (x - y) :: st, M) := st_isub q84_49
theorem x84_49 {L : pj_Loc} {st : List Value} {M : pj_Mem} {x y : Int32} {o9 : Option Value × pj_Mem} : pj_Ends 84 (49, L, .int y :: .int x :: st, M) o9 = pj_Ends 84 (50, L, .int (x - y) :: st, M) o9 := pj_xs (s84_49)
theorem q84_50 : pj_row 84 50 = some (.iastore, 1, 0, 0, 0) := by decide +kernel
theorem s84_50 {L : pj_Loc} {st : List Value} {N S : Nat} {H : pj_Heap} {o : Nat} {i x : Int32} : pj_step 84 (50, L, .int x :: .int i :: .ref o :: st, (N, S, H)) = pj_set 51 L st (N, S, H) o (pj_ars (H o) 0 i x) := st_iastore q84_50
theorem x84_50 {L : pj_Loc} {st : List Value} {N S : Nat} {H : pj_Heap} {o : Nat} {i x : Int32} {o9 : Option Value × pj_Mem} : pj_Ends 84 (50, L, .int x :: .int i :: .ref o :: st, (N, S, H)) o9 = pj_then 84 o9 (pj_set 51 L st (N, S, H) o (pj_ars (H o) 0 i x)) := pj_xt q84_50 rfl (pj_cl_nc rfl) (s84_50)
theorem q84_51 : pj_row 84 51 = some (.iinc 2 1, 3, 0, 0, 0) := by decide +kernel
theorem s84_51 {st : List Value} {M : pj_Mem} {l : pj_Loc} {a0 a1 : Option Value} {x : Int32} (h : pj_long a1 = false) : pj_step 84 (51, a0 :: a1 :: some (.int x) :: l, st, M) = some (54, a0 :: a1 :: some (.int (x + 1)) :: l, st, M) := st_iinc q84_51 rfl (congrArg (fun y => x + y) (show Int32.ofInt 1 = 1 by decide +kernel)) (pj_st_2 h)
theorem x84_51 {st : List Value} {M : pj_Mem} {l : pj_Loc} {a0 a1 : Option Value} {x : Int32} (h : pj_long a1 = false) {o9 : Option Value × pj_Mem} : pj_Ends 84 (51, a0 :: a1 :: some (.int x) :: l, st, M) o9 = pj_Ends 84 (54, a0 :: a1 :: some (.int (x + 1)) :: l, st, M) o9 := pj_xs (s84_51 h)
theorem q84_54 : pj_row 84 54 = some (.goto (-30), 3, 24, 0, 0) := by decide +kernel
theorem s84_54 {L : pj_Loc} {st : List Value} {M : pj_Mem}  : pj_step 84 (54, L, st, M) = some (24, L, st, M) := st_goto q84_54
theorem x84_54 {L : pj_Loc} {st : List Value} {M : pj_Mem}  {o9 : Option Value × pj_Mem} : pj_Ends 84 (54, L, st, M) o9 = pj_Ends 84 (24, L, st, M) o9 := pj_xs (s84_54)
theorem q84_57 : pj_row 84 57 = some (.iconst 0, 1, 0, 0, 0) := by decide +kernel
theorem s84_57 {L : pj_Loc} {st : List Value} {M : pj_Mem}  : pj_step 84 (57, L, st, M) = some (58, L, .int 0 :: st, M) := st_iconst q84_57 (by decide +kernel)
theorem x84_57 {L : pj_Loc} {st : List Value} {M : pj_Mem}  {o9 : Option Value × pj_Mem} : pj_Ends 84 (57, L, st, M) o9 = pj_Ends 84 (58, L, .int 0 :: st, M) o9 := pj_xs (s84_57)
theorem q84_58 : pj_row 84 58 = some (.istore_n 2, 1, 0, 0, 0) := by decide +kernel
theorem s84_58 {st : List Value} {M : pj_Mem} {l : pj_Loc} {a0 a1 a2 : Option Value} {x : Int32} (h : pj_long a1 = false) : pj_step 84 (58, a0 :: a1 :: a2 :: l, .int x :: st, M) = some (59, a0 :: a1 :: some (.int x) :: l, st, M) := st_istore_n q84_58 (pj_st_2 h)
theorem x84_58 {st : List Value} {M : pj_Mem} {l : pj_Loc} {a0 a1 a2 : Option Value} {x : Int32} (h : pj_long a1 = false) {o9 : Option Value × pj_Mem} : pj_Ends 84 (58, a0 :: a1 :: a2 :: l, .int x :: st, M) o9 = pj_Ends 84 (59, a0 :: a1 :: some (.int x) :: l, st, M) o9 := pj_xs (s84_58 h)
theorem q84_59 : pj_row 84 59 = some (.iload_n 2, 1, 0, 0, 0) := by decide +kernel
theorem s84_59 {st : List Value} {M : pj_Mem} {l : pj_Loc} {a0 a1 : Option Value} {x : Int32} : pj_step 84 (59, a0 :: a1 :: some (.int x) :: l, st, M) = some (60, a0 :: a1 :: some (.int x) :: l, .int x :: st, M) := st_iload_n q84_59 rfl
theorem x84_59 {st : List Value} {M : pj_Mem} {l : pj_Loc} {a0 a1 : Option Value} {x : Int32} {o9 : Option Value × pj_Mem} : pj_Ends 84 (59, a0 :: a1 :: some (.int x) :: l, st, M) o9 = pj_Ends 84 (60, a0 :: a1 :: some (.int x) :: l, .int x :: st, M) o9 := pj_xs (s84_59)
theorem q84_60 : pj_row 84 60 = some (.iconst 3, 1, 0, 0, 0) := by decide +kernel
theorem s84_60 {L : pj_Loc} {st : List Value} {M : pj_Mem}  : pj_step 84 (60, L, st, M) = some (61, L, .int 3 :: st, M) := st_iconst q84_60 (by decide +kernel)
theorem x84_60 {L : pj_Loc} {st : List Value} {M : pj_Mem}  {o9 : Option Value × pj_Mem} : pj_Ends 84 (60, L, st, M) o9 = pj_Ends 84 (61, L, .int 3 :: st, M) o9 := pj_xs (s84_60)
theorem q84_61 : pj_row 84 61 = some (.if_icmp .ge 48, 3, 109, 0, 0) := by decide +kernel
theorem s84_61 {L : pj_Loc} {st : List Value} {M : pj_Mem} {x y : Int32} : pj_step 84 (61, L, .int y :: .int x :: st, M) = some (if y ≤ x then 109 else 64, L, st, M) := st_icmp_ge q84_61
theorem x84_61 {L : pj_Loc} {st : List Value} {M : pj_Mem} {x y : Int32} {o9 : Option Value × pj_Mem} : pj_Ends 84 (61, L, .int y :: .int x :: st, M) o9 = pj_Ends 84 (if y ≤ x then 109 else 64, L, st, M) o9 := pj_xs (s84_61)
theorem q84_64 : pj_row 84 64 = some (.aload_n 0, 1, 0, 0, 0) := by decide +kernel
theorem s84_64 {st : List Value} {M : pj_Mem} {l : pj_Loc} {x : Nat} : pj_step 84 (64, some (.ref x) :: l, st, M) = some (65, some (.ref x) :: l, .ref x :: st, M) := st_aload_n q84_64 rfl
theorem x84_64 {st : List Value} {M : pj_Mem} {l : pj_Loc} {x : Nat} {o9 : Option Value × pj_Mem} : pj_Ends 84 (64, some (.ref x) :: l, st, M) o9 = pj_Ends 84 (65, some (.ref x) :: l, .ref x :: st, M) o9 := pj_xs (s84_64)
theorem q84_65 : pj_row 84 65 = some (.aload_n 0, 1, 0, 0, 0) := by decide +kernel
theorem s84_65 {st : List Value} {M : pj_Mem} {l : pj_Loc} {x : Nat} : pj_step 84 (65, some (.ref x) :: l, st, M) = some (66, some (.ref x) :: l, .ref x :: st, M) := st_aload_n q84_65 rfl
theorem x84_65 {st : List Value} {M : pj_Mem} {l : pj_Loc} {x : Nat} {o9 : Option Value × pj_Mem} : pj_Ends 84 (65, some (.ref x) :: l, st, M) o9 = pj_Ends 84 (66, some (.ref x) :: l, .ref x :: st, M) o9 := pj_xs (s84_65)
theorem q84_66 : pj_row 84 66 = some (.getfield 7, 3, 6, 0, 0) := by decide +kernel
theorem s84_66 {L : pj_Loc} {st : List Value} {N S : Nat} {H : pj_Heap} {o : Nat} : pj_step 84 (66, L, .ref o :: st, (N, S, H)) = pj_pv 69 L st (N, S, H) (pj_fld (H o) 6 0) := st_getfield q84_66
theorem x84_66 {L : pj_Loc} {st : List Value} {N S : Nat} {H : pj_Heap} {o : Nat} {o9 : Option Value × pj_Mem} : pj_Ends 84 (66, L, .ref o :: st, (N, S, H)) o9 = pj_then 84 o9 (pj_pv 69 L st (N, S, H) (pj_fld (H o) 6 0)) := pj_xt q84_66 rfl (pj_cl_nc rfl) (s84_66)
theorem q84_69 : pj_row 84 69 = some (.bipush 14, 2, 0, 0, 0) := by decide +kernel
theorem s84_69 {L : pj_Loc} {st : List Value} {M : pj_Mem}  : pj_step 84 (69, L, st, M) = some (71, L, .int 14 :: st, M) := st_bipush q84_69 (by decide +kernel)
theorem x84_69 {L : pj_Loc} {st : List Value} {M : pj_Mem}  {o9 : Option Value × pj_Mem} : pj_Ends 84 (69, L, st, M) o9 = pj_Ends 84 (71, L, .int 14 :: st, M) o9 := pj_xs (s84_69)
theorem q84_71 : pj_row 84 71 = some (.iload_n 2, 1, 0, 0, 0) := by decide +kernel
theorem s84_71 {st : List Value} {M : pj_Mem} {l : pj_Loc} {a0 a1 : Option Value} {x : Int32} : pj_step 84 (71, a0 :: a1 :: some (.int x) :: l, st, M) = some (72, a0 :: a1 :: some (.int x) :: l, .int x :: st, M) := st_iload_n q84_71 rfl
theorem x84_71 {st : List Value} {M : pj_Mem} {l : pj_Loc} {a0 a1 : Option Value} {x : Int32} {o9 : Option Value × pj_Mem} : pj_Ends 84 (71, a0 :: a1 :: some (.int x) :: l, st, M) o9 = pj_Ends 84 (72, a0 :: a1 :: some (.int x) :: l, .int x :: st, M) o9 := pj_xs (s84_71)
theorem q84_72 : pj_row 84 72 = some (.iadd, 1, 0, 0, 0) := by decide +kernel
theorem s84_72 {L : pj_Loc} {st : List Value} {M : pj_Mem} {x y : Int32} : pj_step 84 (72, L, .int y :: .int x :: st, M) = some (73, L, .int (x + y) :: st, M) := st_iadd q84_72
theorem x84_72 {L : pj_Loc} {st : List Value} {M : pj_Mem} {x y : Int32} {o9 : Option Value × pj_Mem} : pj_Ends 84 (72, L, .int y :: .int x :: st, M) o9 = pj_Ends 84 (73, L, .int (x + y) :: st, M) o9 := pj_xs (s84_72)
theorem q84_73 : pj_row 84 73 = some (.iaload, 1, 0, 0, 0) := by decide +kernel
theorem s84_73 {L : pj_Loc} {st : List Value} {N S : Nat} {H : pj_Heap} {o : Nat} {i : Int32} : pj_step 84 (73, L, .int i :: .ref o :: st, (N, S, H)) = pj_pi 74 L st (N, S, H) (pj_arl (H o) 0 i) := st_iaload q84_73
theorem x84_73 {L : pj_Loc} {st : List Value} {N S : Nat} {H : pj_Heap} {o : Nat} {i : Int32} {o9 : Option Value × pj_Mem} : pj_Ends 84 (73, L, .int i :: .ref o :: st, (N, S, H)) o9 = pj_then 84 o9 (pj_pi 74 L st (N, S, H) (pj_arl (H o) 0 i)) := pj_xt q84_73 rfl (pj_cl_nc rfl) (s84_73)
theorem q84_74 : pj_row 84 74 = some (.iconst 1, 1, 0, 0, 0) := by decide +kernel
theorem s84_74 {L : pj_Loc} {st : List Value} {M : pj_Mem}  : pj_step 84 (74, L, st, M) = some (75, L, .int 1 :: st, M) := st_iconst q84_74 (by decide +kernel)
theorem x84_74 {L : pj_Loc} {st : List Value} {M : pj_Mem}  {o9 : Option Value × pj_Mem} : pj_Ends 84 (74, L, st, M) o9 = pj_Ends 84 (75, L, .int 1 :: st, M) o9 := pj_xs (s84_74)
theorem q84_75 : pj_row 84 75 = some (.if_icmp .ne 21, 3, 96, 0, 0) := by decide +kernel
theorem s84_75 {L : pj_Loc} {st : List Value} {M : pj_Mem} {x y : Int32} : pj_step 84 (75, L, .int y :: .int x :: st, M) = some (if ¬ x = y then 96 else 78, L, st, M) := st_icmp_ne q84_75
theorem x84_75 {L : pj_Loc} {st : List Value} {M : pj_Mem} {x y : Int32} {o9 : Option Value × pj_Mem} : pj_Ends 84 (75, L, .int y :: .int x :: st, M) o9 = pj_Ends 84 (if ¬ x = y then 96 else 78, L, st, M) o9 := pj_xs (s84_75)
theorem q84_78 : pj_row 84 78 = some (.aload_n 0, 1, 0, 0, 0) := by decide +kernel
theorem s84_78 {st : List Value} {M : pj_Mem} {l : pj_Loc} {x : Nat} : pj_step 84 (78, some (.ref x) :: l, st, M) = some (79, some (.ref x) :: l, .ref x :: st, M) := st_aload_n q84_78 rfl
theorem x84_78 {st : List Value} {M : pj_Mem} {l : pj_Loc} {x : Nat} {o9 : Option Value × pj_Mem} : pj_Ends 84 (78, some (.ref x) :: l, st, M) o9 = pj_Ends 84 (79, some (.ref x) :: l, .ref x :: st, M) o9 := pj_xs (s84_78)
theorem q84_79 : pj_row 84 79 = some (.iload_n 2, 1, 0, 0, 0) := by decide +kernel
theorem s84_79 {st : List Value} {M : pj_Mem} {l : pj_Loc} {a0 a1 : Option Value} {x : Int32} : pj_step 84 (79, a0 :: a1 :: some (.int x) :: l, st, M) = some (80, a0 :: a1 :: some (.int x) :: l, .int x :: st, M) := st_iload_n q84_79 rfl
theorem x84_79 {st : List Value} {M : pj_Mem} {l : pj_Loc} {a0 a1 : Option Value} {x : Int32} {o9 : Option Value × pj_Mem} : pj_Ends 84 (79, a0 :: a1 :: some (.int x) :: l, st, M) o9 = pj_Ends 84 (80, a0 :: a1 :: some (.int x) :: l, .int x :: st, M) o9 := pj_xs (s84_79)
theorem q84_80 : pj_row 84 80 = some (.invokevirtual 59, 3, 87, 2, 0) := by decide +kernel
theorem e84_80 {L : pj_Loc} {st : List Value} {N S : Nat} {H : pj_Heap} {o : Option Value × pj_Mem} {M' : pj_Mem} {x0 : Nat} {x1 : Int32} {r : Int32} (h4 : pj_le4 st = true) (hu : pj_isU 6 (H x0) = true) (h1 : pj_Ends 87 (0, [some (.ref x0), some (.int x1), none, none, none], [], (N, S, H)) (some (.int r), M')) (h2 : pj_Ends 84 (83, L, .int r :: st, M') o) : pj_Ends 84 (80, L, .int x1 :: .ref x0 :: st, (N, S, H)) o := ec_v2 q84_80 (Or.inl rfl) h4 hu rfl h1 h2
theorem q84_83 : pj_row 84 83 = some (.iload_n 1, 1, 0, 0, 0) := by decide +kernel
theorem s84_83 {st : List Value} {M : pj_Mem} {l : pj_Loc} {a0 : Option Value} {x : Int32} : pj_step 84 (83, a0 :: some (.int x) :: l, st, M) = some (84, a0 :: some (.int x) :: l, .int x :: st, M) := st_iload_n q84_83 rfl
theorem x84_83 {st : List Value} {M : pj_Mem} {l : pj_Loc} {a0 : Option Value} {x : Int32} {o9 : Option Value × pj_Mem} : pj_Ends 84 (83, a0 :: some (.int x) :: l, st, M) o9 = pj_Ends 84 (84, a0 :: some (.int x) :: l, .int x :: st, M) o9 := pj_xs (s84_83)
theorem q84_84 : pj_row 84 84 = some (.if_icmp .ne 12, 3, 96, 0, 0) := by decide +kernel
theorem s84_84 {L : pj_Loc} {st : List Value} {M : pj_Mem} {x y : Int32} : pj_step 84 (84, L, .int y :: .int x :: st, M) = some (if ¬ x = y then 96 else 87, L, st, M) := st_icmp_ne q84_84
theorem x84_84 {L : pj_Loc} {st : List Value} {M : pj_Mem} {x y : Int32} {o9 : Option Value × pj_Mem} : pj_Ends 84 (84, L, .int y :: .int x :: st, M) o9 = pj_Ends 84 (if ¬ x = y then 96 else 87, L, st, M) o9 := pj_xs (s84_84)
theorem q84_87 : pj_row 84 87 = some (.aload_n 0, 1, 0, 0, 0) := by decide +kernel
theorem s84_87 {st : List Value} {M : pj_Mem} {l : pj_Loc} {x : Nat} : pj_step 84 (87, some (.ref x) :: l, st, M) = some (88, some (.ref x) :: l, .ref x :: st, M) := st_aload_n q84_87 rfl
theorem x84_87 {st : List Value} {M : pj_Mem} {l : pj_Loc} {x : Nat} {o9 : Option Value × pj_Mem} : pj_Ends 84 (87, some (.ref x) :: l, st, M) o9 = pj_Ends 84 (88, some (.ref x) :: l, .ref x :: st, M) o9 := pj_xs (s84_87)
theorem q84_88 : pj_row 84 88 = some (.getfield 28, 3, 6, 7, 0) := by decide +kernel
theorem s84_88 {L : pj_Loc} {st : List Value} {N S : Nat} {H : pj_Heap} {o : Nat} : pj_step 84 (88, L, .ref o :: st, (N, S, H)) = pj_pv 91 L st (N, S, H) (pj_fld (H o) 6 7) := st_getfield q84_88
theorem x84_88 {L : pj_Loc} {st : List Value} {N S : Nat} {H : pj_Heap} {o : Nat} {o9 : Option Value × pj_Mem} : pj_Ends 84 (88, L, .ref o :: st, (N, S, H)) o9 = pj_then 84 o9 (pj_pv 91 L st (N, S, H) (pj_fld (H o) 6 7)) := pj_xt q84_88 rfl (pj_cl_nc rfl) (s84_88)
theorem q84_91 : pj_row 84 91 = some (.iload_n 2, 1, 0, 0, 0) := by decide +kernel
theorem s84_91 {st : List Value} {M : pj_Mem} {l : pj_Loc} {a0 a1 : Option Value} {x : Int32} : pj_step 84 (91, a0 :: a1 :: some (.int x) :: l, st, M) = some (92, a0 :: a1 :: some (.int x) :: l, .int x :: st, M) := st_iload_n q84_91 rfl
theorem x84_91 {st : List Value} {M : pj_Mem} {l : pj_Loc} {a0 a1 : Option Value} {x : Int32} {o9 : Option Value × pj_Mem} : pj_Ends 84 (91, a0 :: a1 :: some (.int x) :: l, st, M) o9 = pj_Ends 84 (92, a0 :: a1 :: some (.int x) :: l, .int x :: st, M) o9 := pj_xs (s84_91)
theorem q84_92 : pj_row 84 92 = some (.iaload, 1, 0, 0, 0) := by decide +kernel
theorem s84_92 {L : pj_Loc} {st : List Value} {N S : Nat} {H : pj_Heap} {o : Nat} {i : Int32} : pj_step 84 (92, L, .int i :: .ref o :: st, (N, S, H)) = pj_pi 93 L st (N, S, H) (pj_arl (H o) 0 i) := st_iaload q84_92
theorem x84_92 {L : pj_Loc} {st : List Value} {N S : Nat} {H : pj_Heap} {o : Nat} {i : Int32} {o9 : Option Value × pj_Mem} : pj_Ends 84 (92, L, .int i :: .ref o :: st, (N, S, H)) o9 = pj_then 84 o9 (pj_pi 93 L st (N, S, H) (pj_arl (H o) 0 i)) := pj_xt q84_92 rfl (pj_cl_nc rfl) (s84_92)
theorem q84_93 : pj_row 84 93 = some (.goto 7, 3, 100, 0, 0) := by decide +kernel
theorem s84_93 {L : pj_Loc} {st : List Value} {M : pj_Mem}  : pj_step 84 (93, L, st, M) = some (100, L, st, M) := st_goto q84_93
theorem x84_93 {L : pj_Loc} {st : List Value} {M : pj_Mem}  {o9 : Option Value × pj_Mem} : pj_Ends 84 (93, L, st, M) o9 = pj_Ends 84 (100, L, st, M) o9 := pj_xs (s84_93)
theorem q84_96 : pj_row 84 96 = some (.aload_n 0, 1, 0, 0, 0) := by decide +kernel
theorem s84_96 {st : List Value} {M : pj_Mem} {l : pj_Loc} {x : Nat} : pj_step 84 (96, some (.ref x) :: l, st, M) = some (97, some (.ref x) :: l, .ref x :: st, M) := st_aload_n q84_96 rfl
theorem x84_96 {st : List Value} {M : pj_Mem} {l : pj_Loc} {x : Nat} {o9 : Option Value × pj_Mem} : pj_Ends 84 (96, some (.ref x) :: l, st, M) o9 = pj_Ends 84 (97, some (.ref x) :: l, .ref x :: st, M) o9 := pj_xs (s84_96)
theorem q84_97 : pj_row 84 97 = some (.getfield 56, 3, 6, 8, 0) := by decide +kernel
theorem s84_97 {L : pj_Loc} {st : List Value} {N S : Nat} {H : pj_Heap} {o : Nat} : pj_step 84 (97, L, .ref o :: st, (N, S, H)) = pj_pv 100 L st (N, S, H) (pj_fld (H o) 6 8) := st_getfield q84_97
theorem x84_97 {L : pj_Loc} {st : List Value} {N S : Nat} {H : pj_Heap} {o : Nat} {o9 : Option Value × pj_Mem} : pj_Ends 84 (97, L, .ref o :: st, (N, S, H)) o9 = pj_then 84 o9 (pj_pv 100 L st (N, S, H) (pj_fld (H o) 6 8)) := pj_xt q84_97 rfl (pj_cl_nc rfl) (s84_97)
theorem q84_100 : pj_row 84 100 = some (.putfield 56, 3, 6, 8, 0) := by decide +kernel
theorem s84_100 {L : pj_Loc} {st : List Value} {N S : Nat} {H : pj_Heap} {o : Nat} {v : Value} : pj_step 84 (100, L, v :: .ref o :: st, (N, S, H)) = pj_set 103 L st (N, S, H) o (pj_fset (H o) 6 8 v) := st_putfield q84_100
theorem x84_100 {L : pj_Loc} {st : List Value} {N S : Nat} {H : pj_Heap} {o : Nat} {v : Value} {o9 : Option Value × pj_Mem} : pj_Ends 84 (100, L, v :: .ref o :: st, (N, S, H)) o9 = pj_then 84 o9 (pj_set 103 L st (N, S, H) o (pj_fset (H o) 6 8 v)) := pj_xt q84_100 rfl (pj_cl_nc rfl) (s84_100)
theorem q84_103 : pj_row 84 103 = some (.iinc 2 1, 3, 0, 0, 0) := by decide +kernel
theorem s84_103 {st : List Value} {M : pj_Mem} {l : pj_Loc} {a0 a1 : Option Value} {x : Int32} (h : pj_long a1 = false) : pj_step 84 (103, a0 :: a1 :: some (.int x) :: l, st, M) = some (106, a0 :: a1 :: some (.int (x + 1)) :: l, st, M) := st_iinc q84_103 rfl (congrArg (fun y => x + y) (show Int32.ofInt 1 = 1 by decide +kernel)) (pj_st_2 h)
theorem x84_103 {st : List Value} {M : pj_Mem} {l : pj_Loc} {a0 a1 : Option Value} {x : Int32} (h : pj_long a1 = false) {o9 : Option Value × pj_Mem} : pj_Ends 84 (103, a0 :: a1 :: some (.int x) :: l, st, M) o9 = pj_Ends 84 (106, a0 :: a1 :: some (.int (x + 1)) :: l, st, M) o9 := pj_xs (s84_103 h)
theorem q84_106 : pj_row 84 106 = some (.goto (-47), 3, 59, 0, 0) := by decide +kernel
theorem s84_106 {L : pj_Loc} {st : List Value} {M : pj_Mem}  : pj_step 84 (106, L, st, M) = some (59, L, st, M) := st_goto q84_106
theorem x84_106 {L : pj_Loc} {st : List Value} {M : pj_Mem}  {o9 : Option Value × pj_Mem} : pj_Ends 84 (106, L, st, M) o9 = pj_Ends 84 (59, L, st, M) o9 := pj_xs (s84_106)
theorem q84_109 : pj_row 84 109 = some (.return_, 1, 0, 0, 0) := by decide +kernel
theorem t84_109 {L : pj_Loc} {M : pj_Mem} : pj_Ends 84 (109, L, [], M) (none, M) := pj_Ends.ret q84_109 (pj_rtn_v rt84)
theorem rt85 : pj_rt 85 = some .int := rfl
theorem q85_0 : pj_row 85 0 = some (.aload_n 0, 1, 0, 0, 0) := by decide +kernel
theorem s85_0 {st : List Value} {M : pj_Mem} {l : pj_Loc} {x : Nat} : pj_step 85 (0, some (.ref x) :: l, st, M) = some (1, some (.ref x) :: l, .ref x :: st, M) := st_aload_n q85_0 rfl
theorem x85_0 {st : List Value} {M : pj_Mem} {l : pj_Loc} {x : Nat} {o9 : Option Value × pj_Mem} : pj_Ends 85 (0, some (.ref x) :: l, st, M) o9 = pj_Ends 85 (1, some (.ref x) :: l, .ref x :: st, M) o9 := pj_xs (s85_0)
theorem q85_1 : pj_row 85 1 = some (.getfield 7, 3, 6, 0, 0) := by decide +kernel
theorem s85_1 {L : pj_Loc} {st : List Value} {N S : Nat} {H : pj_Heap} {o : Nat} : pj_step 85 (1, L, .ref o :: st, (N, S, H)) = pj_pv 4 L st (N, S, H) (pj_fld (H o) 6 0) := st_getfield q85_1
theorem x85_1 {L : pj_Loc} {st : List Value} {N S : Nat} {H : pj_Heap} {o : Nat} {o9 : Option Value × pj_Mem} : pj_Ends 85 (1, L, .ref o :: st, (N, S, H)) o9 = pj_then 85 o9 (pj_pv 4 L st (N, S, H) (pj_fld (H o) 6 0)) := pj_xt q85_1 rfl (pj_cl_nc rfl) (s85_1)
theorem q85_4 : pj_row 85 4 = some (.bipush 14, 2, 0, 0, 0) := by decide +kernel
theorem s85_4 {L : pj_Loc} {st : List Value} {M : pj_Mem}  : pj_step 85 (4, L, st, M) = some (6, L, .int 14 :: st, M) := st_bipush q85_4 (by decide +kernel)
theorem x85_4 {L : pj_Loc} {st : List Value} {M : pj_Mem}  {o9 : Option Value × pj_Mem} : pj_Ends 85 (4, L, st, M) o9 = pj_Ends 85 (6, L, .int 14 :: st, M) o9 := pj_xs (s85_4)
theorem q85_6 : pj_row 85 6 = some (.iaload, 1, 0, 0, 0) := by decide +kernel
theorem s85_6 {L : pj_Loc} {st : List Value} {N S : Nat} {H : pj_Heap} {o : Nat} {i : Int32} : pj_step 85 (6, L, .int i :: .ref o :: st, (N, S, H)) = pj_pi 7 L st (N, S, H) (pj_arl (H o) 0 i) := st_iaload q85_6
theorem x85_6 {L : pj_Loc} {st : List Value} {N S : Nat} {H : pj_Heap} {o : Nat} {i : Int32} {o9 : Option Value × pj_Mem} : pj_Ends 85 (6, L, .int i :: .ref o :: st, (N, S, H)) o9 = pj_then 85 o9 (pj_pi 7 L st (N, S, H) (pj_arl (H o) 0 i)) := pj_xt q85_6 rfl (pj_cl_nc rfl) (s85_6)
theorem q85_7 : pj_row 85 7 = some (.iconst 2, 1, 0, 0, 0) := by decide +kernel
theorem s85_7 {L : pj_Loc} {st : List Value} {M : pj_Mem}  : pj_step 85 (7, L, st, M) = some (8, L, .int 2 :: st, M) := st_iconst q85_7 (by decide +kernel)
theorem x85_7 {L : pj_Loc} {st : List Value} {M : pj_Mem}  {o9 : Option Value × pj_Mem} : pj_Ends 85 (7, L, st, M) o9 = pj_Ends 85 (8, L, .int 2 :: st, M) o9 := pj_xs (s85_7)
theorem q85_8 : pj_row 85 8 = some (.aload_n 0, 1, 0, 0, 0) := by decide +kernel
theorem s85_8 {st : List Value} {M : pj_Mem} {l : pj_Loc} {x : Nat} : pj_step 85 (8, some (.ref x) :: l, st, M) = some (9, some (.ref x) :: l, .ref x :: st, M) := st_aload_n q85_8 rfl
theorem x85_8 {st : List Value} {M : pj_Mem} {l : pj_Loc} {x : Nat} {o9 : Option Value × pj_Mem} : pj_Ends 85 (8, some (.ref x) :: l, st, M) o9 = pj_Ends 85 (9, some (.ref x) :: l, .ref x :: st, M) o9 := pj_xs (s85_8)
theorem q85_9 : pj_row 85 9 = some (.getfield 7, 3, 6, 0, 0) := by decide +kernel
theorem s85_9 {L : pj_Loc} {st : List Value} {N S : Nat} {H : pj_Heap} {o : Nat} : pj_step 85 (9, L, .ref o :: st, (N, S, H)) = pj_pv 12 L st (N, S, H) (pj_fld (H o) 6 0) := st_getfield q85_9
theorem x85_9 {L : pj_Loc} {st : List Value} {N S : Nat} {H : pj_Heap} {o : Nat} {o9 : Option Value × pj_Mem} : pj_Ends 85 (9, L, .ref o :: st, (N, S, H)) o9 = pj_then 85 o9 (pj_pv 12 L st (N, S, H) (pj_fld (H o) 6 0)) := pj_xt q85_9 rfl (pj_cl_nc rfl) (s85_9)
theorem q85_12 : pj_row 85 12 = some (.bipush 15, 2, 0, 0, 0) := by decide +kernel
theorem s85_12 {L : pj_Loc} {st : List Value} {M : pj_Mem}  : pj_step 85 (12, L, st, M) = some (14, L, .int 15 :: st, M) := st_bipush q85_12 (by decide +kernel)
theorem x85_12 {L : pj_Loc} {st : List Value} {M : pj_Mem}  {o9 : Option Value × pj_Mem} : pj_Ends 85 (12, L, st, M) o9 = pj_Ends 85 (14, L, .int 15 :: st, M) o9 := pj_xs (s85_12)
theorem q85_14 : pj_row 85 14 = some (.iaload, 1, 0, 0, 0) := by decide +kernel
theorem s85_14 {L : pj_Loc} {st : List Value} {N S : Nat} {H : pj_Heap} {o : Nat} {i : Int32} : pj_step 85 (14, L, .int i :: .ref o :: st, (N, S, H)) = pj_pi 15 L st (N, S, H) (pj_arl (H o) 0 i) := st_iaload q85_14
theorem x85_14 {L : pj_Loc} {st : List Value} {N S : Nat} {H : pj_Heap} {o : Nat} {i : Int32} {o9 : Option Value × pj_Mem} : pj_Ends 85 (14, L, .int i :: .ref o :: st, (N, S, H)) o9 = pj_then 85 o9 (pj_pi 15 L st (N, S, H) (pj_arl (H o) 0 i)) := pj_xt q85_14 rfl (pj_cl_nc rfl) (s85_14)
theorem q85_15 : pj_row 85 15 = some (.imul, 1, 0, 0, 0) := by decide +kernel
theorem s85_15 {L : pj_Loc} {st : List Value} {M : pj_Mem} {x y : Int32} : pj_step 85 (15, L, .int y :: .int x :: st, M) = some (16, L, .int (x * y) :: st, M) := st_imul q85_15
theorem x85_15 {L : pj_Loc} {st : List Value} {M : pj_Mem} {x y : Int32} {o9 : Option Value × pj_Mem} : pj_Ends 85 (15, L, .int y :: .int x :: st, M) o9 = pj_Ends 85 (16, L, .int (x * y) :: st, M) o9 := pj_xs (s85_15)
theorem q85_16 : pj_row 85 16 = some (.iadd, 1, 0, 0, 0) := by decide +kernel
theorem s85_16 {L : pj_Loc} {st : List Value} {M : pj_Mem} {x y : Int32} : pj_step 85 (16, L, .int y :: .int x :: st, M) = some (17, L, .int (x + y) :: st, M) := st_iadd q85_16
theorem x85_16 {L : pj_Loc} {st : List Value} {M : pj_Mem} {x y : Int32} {o9 : Option Value × pj_Mem} : pj_Ends 85 (16, L, .int y :: .int x :: st, M) o9 = pj_Ends 85 (17, L, .int (x + y) :: st, M) o9 := pj_xs (s85_16)
theorem q85_17 : pj_row 85 17 = some (.iconst 4, 1, 0, 0, 0) := by decide +kernel
theorem s85_17 {L : pj_Loc} {st : List Value} {M : pj_Mem}  : pj_step 85 (17, L, st, M) = some (18, L, .int 4 :: st, M) := st_iconst q85_17 (by decide +kernel)
theorem x85_17 {L : pj_Loc} {st : List Value} {M : pj_Mem}  {o9 : Option Value × pj_Mem} : pj_Ends 85 (17, L, st, M) o9 = pj_Ends 85 (18, L, .int 4 :: st, M) o9 := pj_xs (s85_17)
theorem q85_18 : pj_row 85 18 = some (.aload_n 0, 1, 0, 0, 0) := by decide +kernel
theorem s85_18 {st : List Value} {M : pj_Mem} {l : pj_Loc} {x : Nat} : pj_step 85 (18, some (.ref x) :: l, st, M) = some (19, some (.ref x) :: l, .ref x :: st, M) := st_aload_n q85_18 rfl
theorem x85_18 {st : List Value} {M : pj_Mem} {l : pj_Loc} {x : Nat} {o9 : Option Value × pj_Mem} : pj_Ends 85 (18, some (.ref x) :: l, st, M) o9 = pj_Ends 85 (19, some (.ref x) :: l, .ref x :: st, M) o9 := pj_xs (s85_18)
theorem q85_19 : pj_row 85 19 = some (.getfield 7, 3, 6, 0, 0) := by decide +kernel
theorem s85_19 {L : pj_Loc} {st : List Value} {N S : Nat} {H : pj_Heap} {o : Nat} : pj_step 85 (19, L, .ref o :: st, (N, S, H)) = pj_pv 22 L st (N, S, H) (pj_fld (H o) 6 0) := st_getfield q85_19
theorem x85_19 {L : pj_Loc} {st : List Value} {N S : Nat} {H : pj_Heap} {o : Nat} {o9 : Option Value × pj_Mem} : pj_Ends 85 (19, L, .ref o :: st, (N, S, H)) o9 = pj_then 85 o9 (pj_pv 22 L st (N, S, H) (pj_fld (H o) 6 0)) := pj_xt q85_19 rfl (pj_cl_nc rfl) (s85_19)
theorem q85_22 : pj_row 85 22 = some (.bipush 16, 2, 0, 0, 0) := by decide +kernel
theorem s85_22 {L : pj_Loc} {st : List Value} {M : pj_Mem}  : pj_step 85 (22, L, st, M) = some (24, L, .int 16 :: st, M) := st_bipush q85_22 (by decide +kernel)
theorem x85_22 {L : pj_Loc} {st : List Value} {M : pj_Mem}  {o9 : Option Value × pj_Mem} : pj_Ends 85 (22, L, st, M) o9 = pj_Ends 85 (24, L, .int 16 :: st, M) o9 := pj_xs (s85_22)
theorem q85_24 : pj_row 85 24 = some (.iaload, 1, 0, 0, 0) := by decide +kernel
theorem s85_24 {L : pj_Loc} {st : List Value} {N S : Nat} {H : pj_Heap} {o : Nat} {i : Int32} : pj_step 85 (24, L, .int i :: .ref o :: st, (N, S, H)) = pj_pi 25 L st (N, S, H) (pj_arl (H o) 0 i) := st_iaload q85_24
theorem x85_24 {L : pj_Loc} {st : List Value} {N S : Nat} {H : pj_Heap} {o : Nat} {i : Int32} {o9 : Option Value × pj_Mem} : pj_Ends 85 (24, L, .int i :: .ref o :: st, (N, S, H)) o9 = pj_then 85 o9 (pj_pi 25 L st (N, S, H) (pj_arl (H o) 0 i)) := pj_xt q85_24 rfl (pj_cl_nc rfl) (s85_24)
theorem q85_25 : pj_row 85 25 = some (.imul, 1, 0, 0, 0) := by decide +kernel
theorem s85_25 {L : pj_Loc} {st : List Value} {M : pj_Mem} {x y : Int32} : pj_step 85 (25, L, .int y :: .int x :: st, M) = some (26, L, .int (x * y) :: st, M) := st_imul q85_25
theorem x85_25 {L : pj_Loc} {st : List Value} {M : pj_Mem} {x y : Int32} {o9 : Option Value × pj_Mem} : pj_Ends 85 (25, L, .int y :: .int x :: st, M) o9 = pj_Ends 85 (26, L, .int (x * y) :: st, M) o9 := pj_xs (s85_25)
theorem q85_26 : pj_row 85 26 = some (.iadd, 1, 0, 0, 0) := by decide +kernel
theorem s85_26 {L : pj_Loc} {st : List Value} {M : pj_Mem} {x y : Int32} : pj_step 85 (26, L, .int y :: .int x :: st, M) = some (27, L, .int (x + y) :: st, M) := st_iadd q85_26
theorem x85_26 {L : pj_Loc} {st : List Value} {M : pj_Mem} {x y : Int32} {o9 : Option Value × pj_Mem} : pj_Ends 85 (26, L, .int y :: .int x :: st, M) o9 = pj_Ends 85 (27, L, .int (x + y) :: st, M) o9 := pj_xs (s85_26)
theorem q85_27 : pj_row 85 27 = some (.ireturn, 1, 0, 0, 0) := by decide +kernel
theorem t85_27 {L : pj_Loc} {M : pj_Mem} {v : Int32} : pj_Ends 85 (27, L, [.int v], M) (some (.int v), M) := pj_Ends.ret q85_27 (pj_rtn_i rt85)
theorem rt86 : pj_rt 86 = some .int := rfl
theorem q86_0 : pj_row 86 0 = some (.iload_n 0, 1, 0, 0, 0) := by decide +kernel
theorem s86_0 {st : List Value} {M : pj_Mem} {l : pj_Loc} {x : Int32} : pj_step 86 (0, some (.int x) :: l, st, M) = some (1, some (.int x) :: l, .int x :: st, M) := st_iload_n q86_0 rfl
theorem x86_0 {st : List Value} {M : pj_Mem} {l : pj_Loc} {x : Int32} {o9 : Option Value × pj_Mem} : pj_Ends 86 (0, some (.int x) :: l, st, M) o9 = pj_Ends 86 (1, some (.int x) :: l, .int x :: st, M) o9 := pj_xs (s86_0)
theorem q86_1 : pj_row 86 1 = some (.iconst 1, 1, 0, 0, 0) := by decide +kernel
theorem s86_1 {L : pj_Loc} {st : List Value} {M : pj_Mem}  : pj_step 86 (1, L, st, M) = some (2, L, .int 1 :: st, M) := st_iconst q86_1 (by decide +kernel)
theorem x86_1 {L : pj_Loc} {st : List Value} {M : pj_Mem}  {o9 : Option Value × pj_Mem} : pj_Ends 86 (1, L, st, M) o9 = pj_Ends 86 (2, L, .int 1 :: st, M) o9 := pj_xs (s86_1)
theorem q86_2 : pj_row 86 2 = some (.iand, 1, 0, 0, 0) := by decide +kernel
theorem s86_2 {L : pj_Loc} {st : List Value} {M : pj_Mem} {x y : Int32} : pj_step 86 (2, L, .int y :: .int x :: st, M) = some (3, L, .int (x &&& y) :: st, M) := st_iand q86_2
theorem x86_2 {L : pj_Loc} {st : List Value} {M : pj_Mem} {x y : Int32} {o9 : Option Value × pj_Mem} : pj_Ends 86 (2, L, .int y :: .int x :: st, M) o9 = pj_Ends 86 (3, L, .int (x &&& y) :: st, M) o9 := pj_xs (s86_2)
theorem q86_3 : pj_row 86 3 = some (.iload_n 0, 1, 0, 0, 0) := by decide +kernel
theorem s86_3 {st : List Value} {M : pj_Mem} {l : pj_Loc} {x : Int32} : pj_step 86 (3, some (.int x) :: l, st, M) = some (4, some (.int x) :: l, .int x :: st, M) := st_iload_n q86_3 rfl
theorem x86_3 {st : List Value} {M : pj_Mem} {l : pj_Loc} {x : Int32} {o9 : Option Value × pj_Mem} : pj_Ends 86 (3, some (.int x) :: l, st, M) o9 = pj_Ends 86 (4, some (.int x) :: l, .int x :: st, M) o9 := pj_xs (s86_3)
theorem q86_4 : pj_row 86 4 = some (.iconst 1, 1, 0, 0, 0) := by decide +kernel
theorem s86_4 {L : pj_Loc} {st : List Value} {M : pj_Mem}  : pj_step 86 (4, L, st, M) = some (5, L, .int 1 :: st, M) := st_iconst q86_4 (by decide +kernel)
theorem x86_4 {L : pj_Loc} {st : List Value} {M : pj_Mem}  {o9 : Option Value × pj_Mem} : pj_Ends 86 (4, L, st, M) o9 = pj_Ends 86 (5, L, .int 1 :: st, M) o9 := pj_xs (s86_4)
theorem q86_5 : pj_row 86 5 = some (.ishr, 1, 0, 0, 0) := by decide +kernel
theorem s86_5 {L : pj_Loc} {st : List Value} {M : pj_Mem} {x y : Int32} : pj_step 86 (5, L, .int y :: .int x :: st, M) = some (6, L, .int (x >>> (y &&& 31)) :: st, M) := st_ishr q86_5
theorem x86_5 {L : pj_Loc} {st : List Value} {M : pj_Mem} {x y : Int32} {o9 : Option Value × pj_Mem} : pj_Ends 86 (5, L, .int y :: .int x :: st, M) o9 = pj_Ends 86 (6, L, .int (x >>> (y &&& 31)) :: st, M) o9 := pj_xs (s86_5)
theorem q86_6 : pj_row 86 6 = some (.iconst 1, 1, 0, 0, 0) := by decide +kernel
theorem s86_6 {L : pj_Loc} {st : List Value} {M : pj_Mem}  : pj_step 86 (6, L, st, M) = some (7, L, .int 1 :: st, M) := st_iconst q86_6 (by decide +kernel)
theorem x86_6 {L : pj_Loc} {st : List Value} {M : pj_Mem}  {o9 : Option Value × pj_Mem} : pj_Ends 86 (6, L, st, M) o9 = pj_Ends 86 (7, L, .int 1 :: st, M) o9 := pj_xs (s86_6)
theorem q86_7 : pj_row 86 7 = some (.iand, 1, 0, 0, 0) := by decide +kernel
theorem s86_7 {L : pj_Loc} {st : List Value} {M : pj_Mem} {x y : Int32} : pj_step 86 (7, L, .int y :: .int x :: st, M) = some (8, L, .int (x &&& y) :: st, M) := st_iand q86_7
theorem x86_7 {L : pj_Loc} {st : List Value} {M : pj_Mem} {x y : Int32} {o9 : Option Value × pj_Mem} : pj_Ends 86 (7, L, .int y :: .int x :: st, M) o9 = pj_Ends 86 (8, L, .int (x &&& y) :: st, M) o9 := pj_xs (s86_7)
theorem q86_8 : pj_row 86 8 = some (.iadd, 1, 0, 0, 0) := by decide +kernel
theorem s86_8 {L : pj_Loc} {st : List Value} {M : pj_Mem} {x y : Int32} : pj_step 86 (8, L, .int y :: .int x :: st, M) = some (9, L, .int (x + y) :: st, M) := st_iadd q86_8
theorem x86_8 {L : pj_Loc} {st : List Value} {M : pj_Mem} {x y : Int32} {o9 : Option Value × pj_Mem} : pj_Ends 86 (8, L, .int y :: .int x :: st, M) o9 = pj_Ends 86 (9, L, .int (x + y) :: st, M) o9 := pj_xs (s86_8)
theorem q86_9 : pj_row 86 9 = some (.iload_n 0, 1, 0, 0, 0) := by decide +kernel
theorem s86_9 {st : List Value} {M : pj_Mem} {l : pj_Loc} {x : Int32} : pj_step 86 (9, some (.int x) :: l, st, M) = some (10, some (.int x) :: l, .int x :: st, M) := st_iload_n q86_9 rfl
theorem x86_9 {st : List Value} {M : pj_Mem} {l : pj_Loc} {x : Int32} {o9 : Option Value × pj_Mem} : pj_Ends 86 (9, some (.int x) :: l, st, M) o9 = pj_Ends 86 (10, some (.int x) :: l, .int x :: st, M) o9 := pj_xs (s86_9)
theorem q86_10 : pj_row 86 10 = some (.iconst 2, 1, 0, 0, 0) := by decide +kernel
theorem s86_10 {L : pj_Loc} {st : List Value} {M : pj_Mem}  : pj_step 86 (10, L, st, M) = some (11, L, .int 2 :: st, M) := st_iconst q86_10 (by decide +kernel)
theorem x86_10 {L : pj_Loc} {st : List Value} {M : pj_Mem}  {o9 : Option Value × pj_Mem} : pj_Ends 86 (10, L, st, M) o9 = pj_Ends 86 (11, L, .int 2 :: st, M) o9 := pj_xs (s86_10)
theorem q86_11 : pj_row 86 11 = some (.ishr, 1, 0, 0, 0) := by decide +kernel
theorem s86_11 {L : pj_Loc} {st : List Value} {M : pj_Mem} {x y : Int32} : pj_step 86 (11, L, .int y :: .int x :: st, M) = some (12, L, .int (x >>> (y &&& 31)) :: st, M) := st_ishr q86_11
theorem x86_11 {L : pj_Loc} {st : List Value} {M : pj_Mem} {x y : Int32} {o9 : Option Value × pj_Mem} : pj_Ends 86 (11, L, .int y :: .int x :: st, M) o9 = pj_Ends 86 (12, L, .int (x >>> (y &&& 31)) :: st, M) o9 := pj_xs (s86_11)
theorem q86_12 : pj_row 86 12 = some (.iconst 1, 1, 0, 0, 0) := by decide +kernel
theorem s86_12 {L : pj_Loc} {st : List Value} {M : pj_Mem}  : pj_step 86 (12, L, st, M) = some (13, L, .int 1 :: st, M) := st_iconst q86_12 (by decide +kernel)
theorem x86_12 {L : pj_Loc} {st : List Value} {M : pj_Mem}  {o9 : Option Value × pj_Mem} : pj_Ends 86 (12, L, st, M) o9 = pj_Ends 86 (13, L, .int 1 :: st, M) o9 := pj_xs (s86_12)
theorem q86_13 : pj_row 86 13 = some (.iand, 1, 0, 0, 0) := by decide +kernel
theorem s86_13 {L : pj_Loc} {st : List Value} {M : pj_Mem} {x y : Int32} : pj_step 86 (13, L, .int y :: .int x :: st, M) = some (14, L, .int (x &&& y) :: st, M) := st_iand q86_13
theorem x86_13 {L : pj_Loc} {st : List Value} {M : pj_Mem} {x y : Int32} {o9 : Option Value × pj_Mem} : pj_Ends 86 (13, L, .int y :: .int x :: st, M) o9 = pj_Ends 86 (14, L, .int (x &&& y) :: st, M) o9 := pj_xs (s86_13)
theorem q86_14 : pj_row 86 14 = some (.iadd, 1, 0, 0, 0) := by decide +kernel
theorem s86_14 {L : pj_Loc} {st : List Value} {M : pj_Mem} {x y : Int32} : pj_step 86 (14, L, .int y :: .int x :: st, M) = some (15, L, .int (x + y) :: st, M) := st_iadd q86_14
theorem x86_14 {L : pj_Loc} {st : List Value} {M : pj_Mem} {x y : Int32} {o9 : Option Value × pj_Mem} : pj_Ends 86 (14, L, .int y :: .int x :: st, M) o9 = pj_Ends 86 (15, L, .int (x + y) :: st, M) o9 := pj_xs (s86_14)
theorem q86_15 : pj_row 86 15 = some (.ireturn, 1, 0, 0, 0) := by decide +kernel
theorem t86_15 {L : pj_Loc} {M : pj_Mem} {v : Int32} : pj_Ends 86 (15, L, [.int v], M) (some (.int v), M) := pj_Ends.ret q86_15 (pj_rtn_i rt86)
theorem rt87 : pj_rt 87 = some .int := rfl
theorem q87_0 : pj_row 87 0 = some (.iconst 0, 1, 0, 0, 0) := by decide +kernel
theorem s87_0 {L : pj_Loc} {st : List Value} {M : pj_Mem}  : pj_step 87 (0, L, st, M) = some (1, L, .int 0 :: st, M) := st_iconst q87_0 (by decide +kernel)
theorem x87_0 {L : pj_Loc} {st : List Value} {M : pj_Mem}  {o9 : Option Value × pj_Mem} : pj_Ends 87 (0, L, st, M) o9 = pj_Ends 87 (1, L, .int 0 :: st, M) o9 := pj_xs (s87_0)
theorem q87_1 : pj_row 87 1 = some (.istore_n 2, 1, 0, 0, 0) := by decide +kernel
theorem s87_1 {st : List Value} {M : pj_Mem} {l : pj_Loc} {a0 a1 a2 : Option Value} {x : Int32} (h : pj_long a1 = false) : pj_step 87 (1, a0 :: a1 :: a2 :: l, .int x :: st, M) = some (2, a0 :: a1 :: some (.int x) :: l, st, M) := st_istore_n q87_1 (pj_st_2 h)
theorem x87_1 {st : List Value} {M : pj_Mem} {l : pj_Loc} {a0 a1 a2 : Option Value} {x : Int32} (h : pj_long a1 = false) {o9 : Option Value × pj_Mem} : pj_Ends 87 (1, a0 :: a1 :: a2 :: l, .int x :: st, M) o9 = pj_Ends 87 (2, a0 :: a1 :: some (.int x) :: l, st, M) o9 := pj_xs (s87_1 h)
theorem q87_2 : pj_row 87 2 = some (.iconst 0, 1, 0, 0, 0) := by decide +kernel
theorem s87_2 {L : pj_Loc} {st : List Value} {M : pj_Mem}  : pj_step 87 (2, L, st, M) = some (3, L, .int 0 :: st, M) := st_iconst q87_2 (by decide +kernel)
theorem x87_2 {L : pj_Loc} {st : List Value} {M : pj_Mem}  {o9 : Option Value × pj_Mem} : pj_Ends 87 (2, L, st, M) o9 = pj_Ends 87 (3, L, .int 0 :: st, M) o9 := pj_xs (s87_2)
theorem q87_3 : pj_row 87 3 = some (.istore_n 3, 1, 0, 0, 0) := by decide +kernel
theorem s87_3 {st : List Value} {M : pj_Mem} {l : pj_Loc} {a0 a1 a2 a3 : Option Value} {x : Int32} (h : pj_long a2 = false) : pj_step 87 (3, a0 :: a1 :: a2 :: a3 :: l, .int x :: st, M) = some (4, a0 :: a1 :: a2 :: some (.int x) :: l, st, M) := st_istore_n q87_3 (pj_st_3 h)
theorem x87_3 {st : List Value} {M : pj_Mem} {l : pj_Loc} {a0 a1 a2 a3 : Option Value} {x : Int32} (h : pj_long a2 = false) {o9 : Option Value × pj_Mem} : pj_Ends 87 (3, a0 :: a1 :: a2 :: a3 :: l, .int x :: st, M) o9 = pj_Ends 87 (4, a0 :: a1 :: a2 :: some (.int x) :: l, st, M) o9 := pj_xs (s87_3 h)
theorem q87_4 : pj_row 87 4 = some (.iload_n 3, 1, 0, 0, 0) := by decide +kernel
theorem s87_4 {st : List Value} {M : pj_Mem} {l : pj_Loc} {a0 a1 a2 : Option Value} {x : Int32} : pj_step 87 (4, a0 :: a1 :: a2 :: some (.int x) :: l, st, M) = some (5, a0 :: a1 :: a2 :: some (.int x) :: l, .int x :: st, M) := st_iload_n q87_4 rfl
theorem x87_4 {st : List Value} {M : pj_Mem} {l : pj_Loc} {a0 a1 a2 : Option Value} {x : Int32} {o9 : Option Value × pj_Mem} : pj_Ends 87 (4, a0 :: a1 :: a2 :: some (.int x) :: l, st, M) o9 = pj_Ends 87 (5, a0 :: a1 :: a2 :: some (.int x) :: l, .int x :: st, M) o9 := pj_xs (s87_4)
theorem q87_5 : pj_row 87 5 = some (.iconst 3, 1, 0, 0, 0) := by decide +kernel
theorem s87_5 {L : pj_Loc} {st : List Value} {M : pj_Mem}  : pj_step 87 (5, L, st, M) = some (6, L, .int 3 :: st, M) := st_iconst q87_5 (by decide +kernel)
theorem x87_5 {L : pj_Loc} {st : List Value} {M : pj_Mem}  {o9 : Option Value × pj_Mem} : pj_Ends 87 (5, L, st, M) o9 = pj_Ends 87 (6, L, .int 3 :: st, M) o9 := pj_xs (s87_5)
theorem q87_6 : pj_row 87 6 = some (.if_icmp .ge 77, 3, 83, 0, 0) := by decide +kernel
theorem s87_6 {L : pj_Loc} {st : List Value} {M : pj_Mem} {x y : Int32} : pj_step 87 (6, L, .int y :: .int x :: st, M) = some (if y ≤ x then 83 else 9, L, st, M) := st_icmp_ge q87_6
theorem x87_6 {L : pj_Loc} {st : List Value} {M : pj_Mem} {x y : Int32} {o9 : Option Value × pj_Mem} : pj_Ends 87 (6, L, .int y :: .int x :: st, M) o9 = pj_Ends 87 (if y ≤ x then 83 else 9, L, st, M) o9 := pj_xs (s87_6)
theorem q87_9 : pj_row 87 9 = some (.aload_n 0, 1, 0, 0, 0) := by decide +kernel
theorem s87_9 {st : List Value} {M : pj_Mem} {l : pj_Loc} {x : Nat} : pj_step 87 (9, some (.ref x) :: l, st, M) = some (10, some (.ref x) :: l, .ref x :: st, M) := st_aload_n q87_9 rfl
theorem x87_9 {st : List Value} {M : pj_Mem} {l : pj_Loc} {x : Nat} {o9 : Option Value × pj_Mem} : pj_Ends 87 (9, some (.ref x) :: l, st, M) o9 = pj_Ends 87 (10, some (.ref x) :: l, .ref x :: st, M) o9 := pj_xs (s87_9)
theorem q87_10 : pj_row 87 10 = some (.getfield 28, 3, 6, 7, 0) := by decide +kernel
theorem s87_10 {L : pj_Loc} {st : List Value} {N S : Nat} {H : pj_Heap} {o : Nat} : pj_step 87 (10, L, .ref o :: st, (N, S, H)) = pj_pv 13 L st (N, S, H) (pj_fld (H o) 6 7) := st_getfield q87_10
theorem x87_10 {L : pj_Loc} {st : List Value} {N S : Nat} {H : pj_Heap} {o : Nat} {o9 : Option Value × pj_Mem} : pj_Ends 87 (10, L, .ref o :: st, (N, S, H)) o9 = pj_then 87 o9 (pj_pv 13 L st (N, S, H) (pj_fld (H o) 6 7)) := pj_xt q87_10 rfl (pj_cl_nc rfl) (s87_10)
theorem q87_13 : pj_row 87 13 = some (.iload_n 3, 1, 0, 0, 0) := by decide +kernel
theorem s87_13 {st : List Value} {M : pj_Mem} {l : pj_Loc} {a0 a1 a2 : Option Value} {x : Int32} : pj_step 87 (13, a0 :: a1 :: a2 :: some (.int x) :: l, st, M) = some (14, a0 :: a1 :: a2 :: some (.int x) :: l, .int x :: st, M) := st_iload_n q87_13 rfl
theorem x87_13 {st : List Value} {M : pj_Mem} {l : pj_Loc} {a0 a1 a2 : Option Value} {x : Int32} {o9 : Option Value × pj_Mem} : pj_Ends 87 (13, a0 :: a1 :: a2 :: some (.int x) :: l, st, M) o9 = pj_Ends 87 (14, a0 :: a1 :: a2 :: some (.int x) :: l, .int x :: st, M) o9 := pj_xs (s87_13)
theorem q87_14 : pj_row 87 14 = some (.iaload, 1, 0, 0, 0) := by decide +kernel
theorem s87_14 {L : pj_Loc} {st : List Value} {N S : Nat} {H : pj_Heap} {o : Nat} {i : Int32} : pj_step 87 (14, L, .int i :: .ref o :: st, (N, S, H)) = pj_pi 15 L st (N, S, H) (pj_arl (H o) 0 i) := st_iaload q87_14
theorem x87_14 {L : pj_Loc} {st : List Value} {N S : Nat} {H : pj_Heap} {o : Nat} {i : Int32} {o9 : Option Value × pj_Mem} : pj_Ends 87 (14, L, .int i :: .ref o :: st, (N, S, H)) o9 = pj_then 87 o9 (pj_pi 15 L st (N, S, H) (pj_arl (H o) 0 i)) := pj_xt q87_14 rfl (pj_cl_nc rfl) (s87_14)
theorem q87_15 : pj_row 87 15 = some (.aload_n 0, 1, 0, 0, 0) := by decide +kernel
theorem s87_15 {st : List Value} {M : pj_Mem} {l : pj_Loc} {x : Nat} : pj_step 87 (15, some (.ref x) :: l, st, M) = some (16, some (.ref x) :: l, .ref x :: st, M) := st_aload_n q87_15 rfl
theorem x87_15 {st : List Value} {M : pj_Mem} {l : pj_Loc} {x : Nat} {o9 : Option Value × pj_Mem} : pj_Ends 87 (15, some (.ref x) :: l, st, M) o9 = pj_Ends 87 (16, some (.ref x) :: l, .ref x :: st, M) o9 := pj_xs (s87_15)
theorem q87_16 : pj_row 87 16 = some (.getfield 28, 3, 6, 7, 0) := by decide +kernel
theorem s87_16 {L : pj_Loc} {st : List Value} {N S : Nat} {H : pj_Heap} {o : Nat} : pj_step 87 (16, L, .ref o :: st, (N, S, H)) = pj_pv 19 L st (N, S, H) (pj_fld (H o) 6 7) := st_getfield q87_16
theorem x87_16 {L : pj_Loc} {st : List Value} {N S : Nat} {H : pj_Heap} {o : Nat} {o9 : Option Value × pj_Mem} : pj_Ends 87 (16, L, .ref o :: st, (N, S, H)) o9 = pj_then 87 o9 (pj_pv 19 L st (N, S, H) (pj_fld (H o) 6 7)) := pj_xt q87_16 rfl (pj_cl_nc rfl) (s87_16)
theorem q87_19 : pj_row 87 19 = some (.iload_n 1, 1, 0, 0, 0) := by decide +kernel
theorem s87_19 {st : List Value} {M : pj_Mem} {l : pj_Loc} {a0 : Option Value} {x : Int32} : pj_step 87 (19, a0 :: some (.int x) :: l, st, M) = some (20, a0 :: some (.int x) :: l, .int x :: st, M) := st_iload_n q87_19 rfl
theorem x87_19 {st : List Value} {M : pj_Mem} {l : pj_Loc} {a0 : Option Value} {x : Int32} {o9 : Option Value × pj_Mem} : pj_Ends 87 (19, a0 :: some (.int x) :: l, st, M) o9 = pj_Ends 87 (20, a0 :: some (.int x) :: l, .int x :: st, M) o9 := pj_xs (s87_19)
theorem q87_20 : pj_row 87 20 = some (.iaload, 1, 0, 0, 0) := by decide +kernel
theorem s87_20 {L : pj_Loc} {st : List Value} {N S : Nat} {H : pj_Heap} {o : Nat} {i : Int32} : pj_step 87 (20, L, .int i :: .ref o :: st, (N, S, H)) = pj_pi 21 L st (N, S, H) (pj_arl (H o) 0 i) := st_iaload q87_20
theorem x87_20 {L : pj_Loc} {st : List Value} {N S : Nat} {H : pj_Heap} {o : Nat} {i : Int32} {o9 : Option Value × pj_Mem} : pj_Ends 87 (20, L, .int i :: .ref o :: st, (N, S, H)) o9 = pj_then 87 o9 (pj_pi 21 L st (N, S, H) (pj_arl (H o) 0 i)) := pj_xt q87_20 rfl (pj_cl_nc rfl) (s87_20)
theorem q87_21 : pj_row 87 21 = some (.if_icmp .lt 23, 3, 44, 0, 0) := by decide +kernel
theorem s87_21 {L : pj_Loc} {st : List Value} {M : pj_Mem} {x y : Int32} : pj_step 87 (21, L, .int y :: .int x :: st, M) = some (if x < y then 44 else 24, L, st, M) := st_icmp_lt q87_21
theorem x87_21 {L : pj_Loc} {st : List Value} {M : pj_Mem} {x y : Int32} {o9 : Option Value × pj_Mem} : pj_Ends 87 (21, L, .int y :: .int x :: st, M) o9 = pj_Ends 87 (if x < y then 44 else 24, L, st, M) o9 := pj_xs (s87_21)
theorem q87_24 : pj_row 87 24 = some (.aload_n 0, 1, 0, 0, 0) := by decide +kernel
theorem s87_24 {st : List Value} {M : pj_Mem} {l : pj_Loc} {x : Nat} : pj_step 87 (24, some (.ref x) :: l, st, M) = some (25, some (.ref x) :: l, .ref x :: st, M) := st_aload_n q87_24 rfl
theorem x87_24 {st : List Value} {M : pj_Mem} {l : pj_Loc} {x : Nat} {o9 : Option Value × pj_Mem} : pj_Ends 87 (24, some (.ref x) :: l, st, M) o9 = pj_Ends 87 (25, some (.ref x) :: l, .ref x :: st, M) o9 := pj_xs (s87_24)
theorem q87_25 : pj_row 87 25 = some (.getfield 28, 3, 6, 7, 0) := by decide +kernel
theorem s87_25 {L : pj_Loc} {st : List Value} {N S : Nat} {H : pj_Heap} {o : Nat} : pj_step 87 (25, L, .ref o :: st, (N, S, H)) = pj_pv 28 L st (N, S, H) (pj_fld (H o) 6 7) := st_getfield q87_25
theorem x87_25 {L : pj_Loc} {st : List Value} {N S : Nat} {H : pj_Heap} {o : Nat} {o9 : Option Value × pj_Mem} : pj_Ends 87 (25, L, .ref o :: st, (N, S, H)) o9 = pj_then 87 o9 (pj_pv 28 L st (N, S, H) (pj_fld (H o) 6 7)) := pj_xt q87_25 rfl (pj_cl_nc rfl) (s87_25)
theorem q87_28 : pj_row 87 28 = some (.iload_n 3, 1, 0, 0, 0) := by decide +kernel
theorem s87_28 {st : List Value} {M : pj_Mem} {l : pj_Loc} {a0 a1 a2 : Option Value} {x : Int32} : pj_step 87 (28, a0 :: a1 :: a2 :: some (.int x) :: l, st, M) = some (29, a0 :: a1 :: a2 :: some (.int x) :: l, .int x :: st, M) := st_iload_n q87_28 rfl
theorem x87_28 {st : List Value} {M : pj_Mem} {l : pj_Loc} {a0 a1 a2 : Option Value} {x : Int32} {o9 : Option Value × pj_Mem} : pj_Ends 87 (28, a0 :: a1 :: a2 :: some (.int x) :: l, st, M) o9 = pj_Ends 87 (29, a0 :: a1 :: a2 :: some (.int x) :: l, .int x :: st, M) o9 := pj_xs (s87_28)
theorem q87_29 : pj_row 87 29 = some (.iaload, 1, 0, 0, 0) := by decide +kernel
theorem s87_29 {L : pj_Loc} {st : List Value} {N S : Nat} {H : pj_Heap} {o : Nat} {i : Int32} : pj_step 87 (29, L, .int i :: .ref o :: st, (N, S, H)) = pj_pi 30 L st (N, S, H) (pj_arl (H o) 0 i) := st_iaload q87_29
theorem x87_29 {L : pj_Loc} {st : List Value} {N S : Nat} {H : pj_Heap} {o : Nat} {i : Int32} {o9 : Option Value × pj_Mem} : pj_Ends 87 (29, L, .int i :: .ref o :: st, (N, S, H)) o9 = pj_then 87 o9 (pj_pi 30 L st (N, S, H) (pj_arl (H o) 0 i)) := pj_xt q87_29 rfl (pj_cl_nc rfl) (s87_29)
theorem q87_30 : pj_row 87 30 = some (.aload_n 0, 1, 0, 0, 0) := by decide +kernel
theorem s87_30 {st : List Value} {M : pj_Mem} {l : pj_Loc} {x : Nat} : pj_step 87 (30, some (.ref x) :: l, st, M) = some (31, some (.ref x) :: l, .ref x :: st, M) := st_aload_n q87_30 rfl
theorem x87_30 {st : List Value} {M : pj_Mem} {l : pj_Loc} {x : Nat} {o9 : Option Value × pj_Mem} : pj_Ends 87 (30, some (.ref x) :: l, st, M) o9 = pj_Ends 87 (31, some (.ref x) :: l, .ref x :: st, M) o9 := pj_xs (s87_30)
theorem q87_31 : pj_row 87 31 = some (.getfield 28, 3, 6, 7, 0) := by decide +kernel
theorem s87_31 {L : pj_Loc} {st : List Value} {N S : Nat} {H : pj_Heap} {o : Nat} : pj_step 87 (31, L, .ref o :: st, (N, S, H)) = pj_pv 34 L st (N, S, H) (pj_fld (H o) 6 7) := st_getfield q87_31
theorem x87_31 {L : pj_Loc} {st : List Value} {N S : Nat} {H : pj_Heap} {o : Nat} {o9 : Option Value × pj_Mem} : pj_Ends 87 (31, L, .ref o :: st, (N, S, H)) o9 = pj_then 87 o9 (pj_pv 34 L st (N, S, H) (pj_fld (H o) 6 7)) := pj_xt q87_31 rfl (pj_cl_nc rfl) (s87_31)
theorem q87_34 : pj_row 87 34 = some (.iload_n 1, 1, 0, 0, 0) := by decide +kernel
theorem s87_34 {st : List Value} {M : pj_Mem} {l : pj_Loc} {a0 : Option Value} {x : Int32} : pj_step 87 (34, a0 :: some (.int x) :: l, st, M) = some (35, a0 :: some (.int x) :: l, .int x :: st, M) := st_iload_n q87_34 rfl
theorem x87_34 {st : List Value} {M : pj_Mem} {l : pj_Loc} {a0 : Option Value} {x : Int32} {o9 : Option Value × pj_Mem} : pj_Ends 87 (34, a0 :: some (.int x) :: l, st, M) o9 = pj_Ends 87 (35, a0 :: some (.int x) :: l, .int x :: st, M) o9 := pj_xs (s87_34)
theorem q87_35 : pj_row 87 35 = some (.iaload, 1, 0, 0, 0) := by decide +kernel
theorem s87_35 {L : pj_Loc} {st : List Value} {N S : Nat} {H : pj_Heap} {o : Nat} {i : Int32} : pj_step 87 (35, L, .int i :: .ref o :: st, (N, S, H)) = pj_pi 36 L st (N, S, H) (pj_arl (H o) 0 i) := st_iaload q87_35
theorem x87_35 {L : pj_Loc} {st : List Value} {N S : Nat} {H : pj_Heap} {o : Nat} {i : Int32} {o9 : Option Value × pj_Mem} : pj_Ends 87 (35, L, .int i :: .ref o :: st, (N, S, H)) o9 = pj_then 87 o9 (pj_pi 36 L st (N, S, H) (pj_arl (H o) 0 i)) := pj_xt q87_35 rfl (pj_cl_nc rfl) (s87_35)
theorem q87_36 : pj_row 87 36 = some (.if_icmp .ne 12, 3, 48, 0, 0) := by decide +kernel
theorem s87_36 {L : pj_Loc} {st : List Value} {M : pj_Mem} {x y : Int32} : pj_step 87 (36, L, .int y :: .int x :: st, M) = some (if ¬ x = y then 48 else 39, L, st, M) := st_icmp_ne q87_36
theorem x87_36 {L : pj_Loc} {st : List Value} {M : pj_Mem} {x y : Int32} {o9 : Option Value × pj_Mem} : pj_Ends 87 (36, L, .int y :: .int x :: st, M) o9 = pj_Ends 87 (if ¬ x = y then 48 else 39, L, st, M) o9 := pj_xs (s87_36)
theorem q87_39 : pj_row 87 39 = some (.iload_n 3, 1, 0, 0, 0) := by decide +kernel
theorem s87_39 {st : List Value} {M : pj_Mem} {l : pj_Loc} {a0 a1 a2 : Option Value} {x : Int32} : pj_step 87 (39, a0 :: a1 :: a2 :: some (.int x) :: l, st, M) = some (40, a0 :: a1 :: a2 :: some (.int x) :: l, .int x :: st, M) := st_iload_n q87_39 rfl
theorem x87_39 {st : List Value} {M : pj_Mem} {l : pj_Loc} {a0 a1 a2 : Option Value} {x : Int32} {o9 : Option Value × pj_Mem} : pj_Ends 87 (39, a0 :: a1 :: a2 :: some (.int x) :: l, st, M) o9 = pj_Ends 87 (40, a0 :: a1 :: a2 :: some (.int x) :: l, .int x :: st, M) o9 := pj_xs (s87_39)
theorem q87_40 : pj_row 87 40 = some (.iload_n 1, 1, 0, 0, 0) := by decide +kernel
theorem s87_40 {st : List Value} {M : pj_Mem} {l : pj_Loc} {a0 : Option Value} {x : Int32} : pj_step 87 (40, a0 :: some (.int x) :: l, st, M) = some (41, a0 :: some (.int x) :: l, .int x :: st, M) := st_iload_n q87_40 rfl
theorem x87_40 {st : List Value} {M : pj_Mem} {l : pj_Loc} {a0 : Option Value} {x : Int32} {o9 : Option Value × pj_Mem} : pj_Ends 87 (40, a0 :: some (.int x) :: l, st, M) o9 = pj_Ends 87 (41, a0 :: some (.int x) :: l, .int x :: st, M) o9 := pj_xs (s87_40)
theorem q87_41 : pj_row 87 41 = some (.if_icmp .ge 7, 3, 48, 0, 0) := by decide +kernel
theorem s87_41 {L : pj_Loc} {st : List Value} {M : pj_Mem} {x y : Int32} : pj_step 87 (41, L, .int y :: .int x :: st, M) = some (if y ≤ x then 48 else 44, L, st, M) := st_icmp_ge q87_41
theorem x87_41 {L : pj_Loc} {st : List Value} {M : pj_Mem} {x y : Int32} {o9 : Option Value × pj_Mem} : pj_Ends 87 (41, L, .int y :: .int x :: st, M) o9 = pj_Ends 87 (if y ≤ x then 48 else 44, L, st, M) o9 := pj_xs (s87_41)
theorem q87_44 : pj_row 87 44 = some (.iconst 1, 1, 0, 0, 0) := by decide +kernel
theorem s87_44 {L : pj_Loc} {st : List Value} {M : pj_Mem}  : pj_step 87 (44, L, st, M) = some (45, L, .int 1 :: st, M) := st_iconst q87_44 (by decide +kernel)
theorem x87_44 {L : pj_Loc} {st : List Value} {M : pj_Mem}  {o9 : Option Value × pj_Mem} : pj_Ends 87 (44, L, st, M) o9 = pj_Ends 87 (45, L, .int 1 :: st, M) o9 := pj_xs (s87_44)
theorem q87_45 : pj_row 87 45 = some (.goto 4, 3, 49, 0, 0) := by decide +kernel
theorem s87_45 {L : pj_Loc} {st : List Value} {M : pj_Mem}  : pj_step 87 (45, L, st, M) = some (49, L, st, M) := st_goto q87_45
theorem x87_45 {L : pj_Loc} {st : List Value} {M : pj_Mem}  {o9 : Option Value × pj_Mem} : pj_Ends 87 (45, L, st, M) o9 = pj_Ends 87 (49, L, st, M) o9 := pj_xs (s87_45)
theorem q87_48 : pj_row 87 48 = some (.iconst 0, 1, 0, 0, 0) := by decide +kernel
theorem s87_48 {L : pj_Loc} {st : List Value} {M : pj_Mem}  : pj_step 87 (48, L, st, M) = some (49, L, .int 0 :: st, M) := st_iconst q87_48 (by decide +kernel)
theorem x87_48 {L : pj_Loc} {st : List Value} {M : pj_Mem}  {o9 : Option Value × pj_Mem} : pj_Ends 87 (48, L, st, M) o9 = pj_Ends 87 (49, L, .int 0 :: st, M) o9 := pj_xs (s87_48)
theorem q87_49 : pj_row 87 49 = some (.istore 4, 2, 0, 0, 0) := by decide +kernel
theorem s87_49 {st : List Value} {M : pj_Mem} {l : pj_Loc} {a0 a1 a2 a3 a4 : Option Value} {x : Int32} (h : pj_long a3 = false) : pj_step 87 (49, a0 :: a1 :: a2 :: a3 :: a4 :: l, .int x :: st, M) = some (51, a0 :: a1 :: a2 :: a3 :: some (.int x) :: l, st, M) := st_istore q87_49 (pj_st_4 h)
theorem x87_49 {st : List Value} {M : pj_Mem} {l : pj_Loc} {a0 a1 a2 a3 a4 : Option Value} {x : Int32} (h : pj_long a3 = false) {o9 : Option Value × pj_Mem} : pj_Ends 87 (49, a0 :: a1 :: a2 :: a3 :: a4 :: l, .int x :: st, M) o9 = pj_Ends 87 (51, a0 :: a1 :: a2 :: a3 :: some (.int x) :: l, st, M) o9 := pj_xs (s87_49 h)
theorem q87_51 : pj_row 87 51 = some (.iload_n 2, 1, 0, 0, 0) := by decide +kernel
theorem s87_51 {st : List Value} {M : pj_Mem} {l : pj_Loc} {a0 a1 : Option Value} {x : Int32} : pj_step 87 (51, a0 :: a1 :: some (.int x) :: l, st, M) = some (52, a0 :: a1 :: some (.int x) :: l, .int x :: st, M) := st_iload_n q87_51 rfl
theorem x87_51 {st : List Value} {M : pj_Mem} {l : pj_Loc} {a0 a1 : Option Value} {x : Int32} {o9 : Option Value × pj_Mem} : pj_Ends 87 (51, a0 :: a1 :: some (.int x) :: l, st, M) o9 = pj_Ends 87 (52, a0 :: a1 :: some (.int x) :: l, .int x :: st, M) o9 := pj_xs (s87_51)
theorem q87_52 : pj_row 87 52 = some (.aload_n 0, 1, 0, 0, 0) := by decide +kernel
theorem s87_52 {st : List Value} {M : pj_Mem} {l : pj_Loc} {x : Nat} : pj_step 87 (52, some (.ref x) :: l, st, M) = some (53, some (.ref x) :: l, .ref x :: st, M) := st_aload_n q87_52 rfl
theorem x87_52 {st : List Value} {M : pj_Mem} {l : pj_Loc} {x : Nat} {o9 : Option Value × pj_Mem} : pj_Ends 87 (52, some (.ref x) :: l, st, M) o9 = pj_Ends 87 (53, some (.ref x) :: l, .ref x :: st, M) o9 := pj_xs (s87_52)
theorem q87_53 : pj_row 87 53 = some (.getfield 7, 3, 6, 0, 0) := by decide +kernel
theorem s87_53 {L : pj_Loc} {st : List Value} {N S : Nat} {H : pj_Heap} {o : Nat} : pj_step 87 (53, L, .ref o :: st, (N, S, H)) = pj_pv 56 L st (N, S, H) (pj_fld (H o) 6 0) := st_getfield q87_53
theorem x87_53 {L : pj_Loc} {st : List Value} {N S : Nat} {H : pj_Heap} {o : Nat} {o9 : Option Value × pj_Mem} : pj_Ends 87 (53, L, .ref o :: st, (N, S, H)) o9 = pj_then 87 o9 (pj_pv 56 L st (N, S, H) (pj_fld (H o) 6 0)) := pj_xt q87_53 rfl (pj_cl_nc rfl) (s87_53)
theorem q87_56 : pj_row 87 56 = some (.bipush 14, 2, 0, 0, 0) := by decide +kernel
theorem s87_56 {L : pj_Loc} {st : List Value} {M : pj_Mem}  : pj_step 87 (56, L, st, M) = some (58, L, .int 14 :: st, M) := st_bipush q87_56 (by decide +kernel)
theorem x87_56 {L : pj_Loc} {st : List Value} {M : pj_Mem}  {o9 : Option Value × pj_Mem} : pj_Ends 87 (56, L, st, M) o9 = pj_Ends 87 (58, L, .int 14 :: st, M) o9 := pj_xs (s87_56)
theorem q87_58 : pj_row 87 58 = some (.iload_n 3, 1, 0, 0, 0) := by decide +kernel
theorem s87_58 {st : List Value} {M : pj_Mem} {l : pj_Loc} {a0 a1 a2 : Option Value} {x : Int32} : pj_step 87 (58, a0 :: a1 :: a2 :: some (.int x) :: l, st, M) = some (59, a0 :: a1 :: a2 :: some (.int x) :: l, .int x :: st, M) := st_iload_n q87_58 rfl
theorem x87_58 {st : List Value} {M : pj_Mem} {l : pj_Loc} {a0 a1 a2 : Option Value} {x : Int32} {o9 : Option Value × pj_Mem} : pj_Ends 87 (58, a0 :: a1 :: a2 :: some (.int x) :: l, st, M) o9 = pj_Ends 87 (59, a0 :: a1 :: a2 :: some (.int x) :: l, .int x :: st, M) o9 := pj_xs (s87_58)
theorem q87_59 : pj_row 87 59 = some (.iadd, 1, 0, 0, 0) := by decide +kernel
theorem s87_59 {L : pj_Loc} {st : List Value} {M : pj_Mem} {x y : Int32} : pj_step 87 (59, L, .int y :: .int x :: st, M) = some (60, L, .int (x + y) :: st, M) := st_iadd q87_59
theorem x87_59 {L : pj_Loc} {st : List Value} {M : pj_Mem} {x y : Int32} {o9 : Option Value × pj_Mem} : pj_Ends 87 (59, L, .int y :: .int x :: st, M) o9 = pj_Ends 87 (60, L, .int (x + y) :: st, M) o9 := pj_xs (s87_59)
theorem q87_60 : pj_row 87 60 = some (.iaload, 1, 0, 0, 0) := by decide +kernel
theorem s87_60 {L : pj_Loc} {st : List Value} {N S : Nat} {H : pj_Heap} {o : Nat} {i : Int32} : pj_step 87 (60, L, .int i :: .ref o :: st, (N, S, H)) = pj_pi 61 L st (N, S, H) (pj_arl (H o) 0 i) := st_iaload q87_60
theorem x87_60 {L : pj_Loc} {st : List Value} {N S : Nat} {H : pj_Heap} {o : Nat} {i : Int32} {o9 : Option Value × pj_Mem} : pj_Ends 87 (60, L, .int i :: .ref o :: st, (N, S, H)) o9 = pj_then 87 o9 (pj_pi 61 L st (N, S, H) (pj_arl (H o) 0 i)) := pj_xt q87_60 rfl (pj_cl_nc rfl) (s87_60)
theorem q87_61 : pj_row 87 61 = some (.iconst 1, 1, 0, 0, 0) := by decide +kernel
theorem s87_61 {L : pj_Loc} {st : List Value} {M : pj_Mem}  : pj_step 87 (61, L, st, M) = some (62, L, .int 1 :: st, M) := st_iconst q87_61 (by decide +kernel)
theorem x87_61 {L : pj_Loc} {st : List Value} {M : pj_Mem}  {o9 : Option Value × pj_Mem} : pj_Ends 87 (61, L, st, M) o9 = pj_Ends 87 (62, L, .int 1 :: st, M) o9 := pj_xs (s87_61)
theorem q87_62 : pj_row 87 62 = some (.if_icmp .ne 12, 3, 74, 0, 0) := by decide +kernel
theorem s87_62 {L : pj_Loc} {st : List Value} {M : pj_Mem} {x y : Int32} : pj_step 87 (62, L, .int y :: .int x :: st, M) = some (if ¬ x = y then 74 else 65, L, st, M) := st_icmp_ne q87_62
theorem x87_62 {L : pj_Loc} {st : List Value} {M : pj_Mem} {x y : Int32} {o9 : Option Value × pj_Mem} : pj_Ends 87 (62, L, .int y :: .int x :: st, M) o9 = pj_Ends 87 (if ¬ x = y then 74 else 65, L, st, M) o9 := pj_xs (s87_62)
theorem q87_65 : pj_row 87 65 = some (.iload 4, 2, 0, 0, 0) := by decide +kernel
theorem s87_65 {st : List Value} {M : pj_Mem} {l : pj_Loc} {a0 a1 a2 a3 : Option Value} {x : Int32} : pj_step 87 (65, a0 :: a1 :: a2 :: a3 :: some (.int x) :: l, st, M) = some (67, a0 :: a1 :: a2 :: a3 :: some (.int x) :: l, .int x :: st, M) := st_iload q87_65 rfl
theorem x87_65 {st : List Value} {M : pj_Mem} {l : pj_Loc} {a0 a1 a2 a3 : Option Value} {x : Int32} {o9 : Option Value × pj_Mem} : pj_Ends 87 (65, a0 :: a1 :: a2 :: a3 :: some (.int x) :: l, st, M) o9 = pj_Ends 87 (67, a0 :: a1 :: a2 :: a3 :: some (.int x) :: l, .int x :: st, M) o9 := pj_xs (s87_65)
theorem q87_67 : pj_row 87 67 = some (.ifCond .eq 7, 3, 74, 0, 0) := by decide +kernel
theorem s87_67 {L : pj_Loc} {st : List Value} {M : pj_Mem} {x : Int32} : pj_step 87 (67, L, .int x :: st, M) = some (if x = 0 then 74 else 70, L, st, M) := st_if_eq q87_67
theorem x87_67 {L : pj_Loc} {st : List Value} {M : pj_Mem} {x : Int32} {o9 : Option Value × pj_Mem} : pj_Ends 87 (67, L, .int x :: st, M) o9 = pj_Ends 87 (if x = 0 then 74 else 70, L, st, M) o9 := pj_xs (s87_67)
theorem q87_70 : pj_row 87 70 = some (.iconst 1, 1, 0, 0, 0) := by decide +kernel
theorem s87_70 {L : pj_Loc} {st : List Value} {M : pj_Mem}  : pj_step 87 (70, L, st, M) = some (71, L, .int 1 :: st, M) := st_iconst q87_70 (by decide +kernel)
theorem x87_70 {L : pj_Loc} {st : List Value} {M : pj_Mem}  {o9 : Option Value × pj_Mem} : pj_Ends 87 (70, L, st, M) o9 = pj_Ends 87 (71, L, .int 1 :: st, M) o9 := pj_xs (s87_70)
theorem q87_71 : pj_row 87 71 = some (.goto 4, 3, 75, 0, 0) := by decide +kernel
theorem s87_71 {L : pj_Loc} {st : List Value} {M : pj_Mem}  : pj_step 87 (71, L, st, M) = some (75, L, st, M) := st_goto q87_71
theorem x87_71 {L : pj_Loc} {st : List Value} {M : pj_Mem}  {o9 : Option Value × pj_Mem} : pj_Ends 87 (71, L, st, M) o9 = pj_Ends 87 (75, L, st, M) o9 := pj_xs (s87_71)
theorem q87_74 : pj_row 87 74 = some (.iconst 0, 1, 0, 0, 0) := by decide +kernel
theorem s87_74 {L : pj_Loc} {st : List Value} {M : pj_Mem}  : pj_step 87 (74, L, st, M) = some (75, L, .int 0 :: st, M) := st_iconst q87_74 (by decide +kernel)
theorem x87_74 {L : pj_Loc} {st : List Value} {M : pj_Mem}  {o9 : Option Value × pj_Mem} : pj_Ends 87 (74, L, st, M) o9 = pj_Ends 87 (75, L, .int 0 :: st, M) o9 := pj_xs (s87_74)
theorem q87_75 : pj_row 87 75 = some (.iadd, 1, 0, 0, 0) := by decide +kernel
theorem s87_75 {L : pj_Loc} {st : List Value} {M : pj_Mem} {x y : Int32} : pj_step 87 (75, L, .int y :: .int x :: st, M) = some (76, L, .int (x + y) :: st, M) := st_iadd q87_75
theorem x87_75 {L : pj_Loc} {st : List Value} {M : pj_Mem} {x y : Int32} {o9 : Option Value × pj_Mem} : pj_Ends 87 (75, L, .int y :: .int x :: st, M) o9 = pj_Ends 87 (76, L, .int (x + y) :: st, M) o9 := pj_xs (s87_75)
theorem q87_76 : pj_row 87 76 = some (.istore_n 2, 1, 0, 0, 0) := by decide +kernel
theorem s87_76 {st : List Value} {M : pj_Mem} {l : pj_Loc} {a0 a1 a2 : Option Value} {x : Int32} (h : pj_long a1 = false) : pj_step 87 (76, a0 :: a1 :: a2 :: l, .int x :: st, M) = some (77, a0 :: a1 :: some (.int x) :: l, st, M) := st_istore_n q87_76 (pj_st_2 h)
theorem x87_76 {st : List Value} {M : pj_Mem} {l : pj_Loc} {a0 a1 a2 : Option Value} {x : Int32} (h : pj_long a1 = false) {o9 : Option Value × pj_Mem} : pj_Ends 87 (76, a0 :: a1 :: a2 :: l, .int x :: st, M) o9 = pj_Ends 87 (77, a0 :: a1 :: some (.int x) :: l, st, M) o9 := pj_xs (s87_76 h)
theorem q87_77 : pj_row 87 77 = some (.iinc 3 1, 3, 0, 0, 0) := by decide +kernel
theorem s87_77 {st : List Value} {M : pj_Mem} {l : pj_Loc} {a0 a1 a2 : Option Value} {x : Int32} (h : pj_long a2 = false) : pj_step 87 (77, a0 :: a1 :: a2 :: some (.int x) :: l, st, M) = some (80, a0 :: a1 :: a2 :: some (.int (x + 1)) :: l, st, M) := st_iinc q87_77 rfl (congrArg (fun y => x + y) (show Int32.ofInt 1 = 1 by decide +kernel)) (pj_st_3 h)
theorem x87_77 {st : List Value} {M : pj_Mem} {l : pj_Loc} {a0 a1 a2 : Option Value} {x : Int32} (h : pj_long a2 = false) {o9 : Option Value × pj_Mem} : pj_Ends 87 (77, a0 :: a1 :: a2 :: some (.int x) :: l, st, M) o9 = pj_Ends 87 (80, a0 :: a1 :: a2 :: some (.int (x + 1)) :: l, st, M) o9 := pj_xs (s87_77 h)
theorem q87_80 : pj_row 87 80 = some (.goto (-76), 3, 4, 0, 0) := by decide +kernel
theorem s87_80 {L : pj_Loc} {st : List Value} {M : pj_Mem}  : pj_step 87 (80, L, st, M) = some (4, L, st, M) := st_goto q87_80
theorem x87_80 {L : pj_Loc} {st : List Value} {M : pj_Mem}  {o9 : Option Value × pj_Mem} : pj_Ends 87 (80, L, st, M) o9 = pj_Ends 87 (4, L, st, M) o9 := pj_xs (s87_80)
theorem q87_83 : pj_row 87 83 = some (.iload_n 2, 1, 0, 0, 0) := by decide +kernel
theorem s87_83 {st : List Value} {M : pj_Mem} {l : pj_Loc} {a0 a1 : Option Value} {x : Int32} : pj_step 87 (83, a0 :: a1 :: some (.int x) :: l, st, M) = some (84, a0 :: a1 :: some (.int x) :: l, .int x :: st, M) := st_iload_n q87_83 rfl
theorem x87_83 {st : List Value} {M : pj_Mem} {l : pj_Loc} {a0 a1 : Option Value} {x : Int32} {o9 : Option Value × pj_Mem} : pj_Ends 87 (83, a0 :: a1 :: some (.int x) :: l, st, M) o9 = pj_Ends 87 (84, a0 :: a1 :: some (.int x) :: l, .int x :: st, M) o9 := pj_xs (s87_83)
theorem q87_84 : pj_row 87 84 = some (.ireturn, 1, 0, 0, 0) := by decide +kernel
theorem t87_84 {L : pj_Loc} {M : pj_Mem} {v : Int32} : pj_Ends 87 (84, L, [.int v], M) (some (.int v), M) := pj_Ends.ret q87_84 (pj_rtn_i rt87)
theorem rt88 : pj_rt 88 = none := rfl
theorem q88_0 : pj_row 88 0 = some (.aload_n 0, 1, 0, 0, 0) := by decide +kernel
theorem s88_0 {st : List Value} {M : pj_Mem} {l : pj_Loc} {x : Nat} : pj_step 88 (0, some (.ref x) :: l, st, M) = some (1, some (.ref x) :: l, .ref x :: st, M) := st_aload_n q88_0 rfl
theorem x88_0 {st : List Value} {M : pj_Mem} {l : pj_Loc} {x : Nat} {o9 : Option Value × pj_Mem} : pj_Ends 88 (0, some (.ref x) :: l, st, M) o9 = pj_Ends 88 (1, some (.ref x) :: l, .ref x :: st, M) o9 := pj_xs (s88_0)
theorem q88_1 : pj_row 88 1 = some (.invokevirtual 48, 3, 85, 1, 0) := by decide +kernel
theorem e88_1 {L : pj_Loc} {st : List Value} {N S : Nat} {H : pj_Heap} {o : Option Value × pj_Mem} {M' : pj_Mem} {x0 : Nat} {r : Int32} (h4 : pj_le4 st = true) (hu : pj_isU 6 (H x0) = true) (h1 : pj_Ends 85 (0, [some (.ref x0)], [], (N, S, H)) (some (.int r), M')) (h2 : pj_Ends 88 (4, L, .int r :: st, M') o) : pj_Ends 88 (1, L, .ref x0 :: st, (N, S, H)) o := ec_v1 q88_1 (Or.inl rfl) h4 hu rfl h1 h2
theorem q88_4 : pj_row 88 4 = some (.bipush 7, 2, 0, 0, 0) := by decide +kernel
theorem s88_4 {L : pj_Loc} {st : List Value} {M : pj_Mem}  : pj_step 88 (4, L, st, M) = some (6, L, .int 7 :: st, M) := st_bipush q88_4 (by decide +kernel)
theorem x88_4 {L : pj_Loc} {st : List Value} {M : pj_Mem}  {o9 : Option Value × pj_Mem} : pj_Ends 88 (4, L, st, M) o9 = pj_Ends 88 (6, L, .int 7 :: st, M) o9 := pj_xs (s88_4)
theorem q88_6 : pj_row 88 6 = some (.if_icmp .ne 7, 3, 13, 0, 0) := by decide +kernel
theorem s88_6 {L : pj_Loc} {st : List Value} {M : pj_Mem} {x y : Int32} : pj_step 88 (6, L, .int y :: .int x :: st, M) = some (if ¬ x = y then 13 else 9, L, st, M) := st_icmp_ne q88_6
theorem x88_6 {L : pj_Loc} {st : List Value} {M : pj_Mem} {x y : Int32} {o9 : Option Value × pj_Mem} : pj_Ends 88 (6, L, .int y :: .int x :: st, M) o9 = pj_Ends 88 (if ¬ x = y then 13 else 9, L, st, M) o9 := pj_xs (s88_6)
theorem q88_9 : pj_row 88 9 = some (.iconst 1, 1, 0, 0, 0) := by decide +kernel
theorem s88_9 {L : pj_Loc} {st : List Value} {M : pj_Mem}  : pj_step 88 (9, L, st, M) = some (10, L, .int 1 :: st, M) := st_iconst q88_9 (by decide +kernel)
theorem x88_9 {L : pj_Loc} {st : List Value} {M : pj_Mem}  {o9 : Option Value × pj_Mem} : pj_Ends 88 (9, L, st, M) o9 = pj_Ends 88 (10, L, .int 1 :: st, M) o9 := pj_xs (s88_9)
theorem q88_10 : pj_row 88 10 = some (.goto 4, 3, 14, 0, 0) := by decide +kernel
theorem s88_10 {L : pj_Loc} {st : List Value} {M : pj_Mem}  : pj_step 88 (10, L, st, M) = some (14, L, st, M) := st_goto q88_10
theorem x88_10 {L : pj_Loc} {st : List Value} {M : pj_Mem}  {o9 : Option Value × pj_Mem} : pj_Ends 88 (10, L, st, M) o9 = pj_Ends 88 (14, L, st, M) o9 := pj_xs (s88_10)
theorem q88_13 : pj_row 88 13 = some (.iconst 0, 1, 0, 0, 0) := by decide +kernel
theorem s88_13 {L : pj_Loc} {st : List Value} {M : pj_Mem}  : pj_step 88 (13, L, st, M) = some (14, L, .int 0 :: st, M) := st_iconst q88_13 (by decide +kernel)
theorem x88_13 {L : pj_Loc} {st : List Value} {M : pj_Mem}  {o9 : Option Value × pj_Mem} : pj_Ends 88 (13, L, st, M) o9 = pj_Ends 88 (14, L, .int 0 :: st, M) o9 := pj_xs (s88_13)
theorem q88_14 : pj_row 88 14 = some (.istore_n 1, 1, 0, 0, 0) := by decide +kernel
theorem s88_14 {st : List Value} {M : pj_Mem} {l : pj_Loc} {a0 a1 : Option Value} {x : Int32} (h : pj_long a0 = false) : pj_step 88 (14, a0 :: a1 :: l, .int x :: st, M) = some (15, a0 :: some (.int x) :: l, st, M) := st_istore_n q88_14 (pj_st_1 h)
theorem x88_14 {st : List Value} {M : pj_Mem} {l : pj_Loc} {a0 a1 : Option Value} {x : Int32} (h : pj_long a0 = false) {o9 : Option Value × pj_Mem} : pj_Ends 88 (14, a0 :: a1 :: l, .int x :: st, M) o9 = pj_Ends 88 (15, a0 :: some (.int x) :: l, st, M) o9 := pj_xs (s88_14 h)
theorem q88_15 : pj_row 88 15 = some (.iconst 0, 1, 0, 0, 0) := by decide +kernel
theorem s88_15 {L : pj_Loc} {st : List Value} {M : pj_Mem}  : pj_step 88 (15, L, st, M) = some (16, L, .int 0 :: st, M) := st_iconst q88_15 (by decide +kernel)
theorem x88_15 {L : pj_Loc} {st : List Value} {M : pj_Mem}  {o9 : Option Value × pj_Mem} : pj_Ends 88 (15, L, st, M) o9 = pj_Ends 88 (16, L, .int 0 :: st, M) o9 := pj_xs (s88_15)
theorem q88_16 : pj_row 88 16 = some (.istore_n 2, 1, 0, 0, 0) := by decide +kernel
theorem s88_16 {st : List Value} {M : pj_Mem} {l : pj_Loc} {a0 a1 a2 : Option Value} {x : Int32} (h : pj_long a1 = false) : pj_step 88 (16, a0 :: a1 :: a2 :: l, .int x :: st, M) = some (17, a0 :: a1 :: some (.int x) :: l, st, M) := st_istore_n q88_16 (pj_st_2 h)
theorem x88_16 {st : List Value} {M : pj_Mem} {l : pj_Loc} {a0 a1 a2 : Option Value} {x : Int32} (h : pj_long a1 = false) {o9 : Option Value × pj_Mem} : pj_Ends 88 (16, a0 :: a1 :: a2 :: l, .int x :: st, M) o9 = pj_Ends 88 (17, a0 :: a1 :: some (.int x) :: l, st, M) o9 := pj_xs (s88_16 h)
theorem q88_17 : pj_row 88 17 = some (.iload_n 2, 1, 0, 0, 0) := by decide +kernel
theorem s88_17 {st : List Value} {M : pj_Mem} {l : pj_Loc} {a0 a1 : Option Value} {x : Int32} : pj_step 88 (17, a0 :: a1 :: some (.int x) :: l, st, M) = some (18, a0 :: a1 :: some (.int x) :: l, .int x :: st, M) := st_iload_n q88_17 rfl
theorem x88_17 {st : List Value} {M : pj_Mem} {l : pj_Loc} {a0 a1 : Option Value} {x : Int32} {o9 : Option Value × pj_Mem} : pj_Ends 88 (17, a0 :: a1 :: some (.int x) :: l, st, M) o9 = pj_Ends 88 (18, a0 :: a1 :: some (.int x) :: l, .int x :: st, M) o9 := pj_xs (s88_17)
theorem q88_18 : pj_row 88 18 = some (.iconst 3, 1, 0, 0, 0) := by decide +kernel
theorem s88_18 {L : pj_Loc} {st : List Value} {M : pj_Mem}  : pj_step 88 (18, L, st, M) = some (19, L, .int 3 :: st, M) := st_iconst q88_18 (by decide +kernel)
theorem x88_18 {L : pj_Loc} {st : List Value} {M : pj_Mem}  {o9 : Option Value × pj_Mem} : pj_Ends 88 (18, L, st, M) o9 = pj_Ends 88 (19, L, .int 3 :: st, M) o9 := pj_xs (s88_18)
theorem q88_19 : pj_row 88 19 = some (.if_icmp .ge 58, 3, 77, 0, 0) := by decide +kernel
theorem s88_19 {L : pj_Loc} {st : List Value} {M : pj_Mem} {x y : Int32} : pj_step 88 (19, L, .int y :: .int x :: st, M) = some (if y ≤ x then 77 else 22, L, st, M) := st_icmp_ge q88_19
theorem x88_19 {L : pj_Loc} {st : List Value} {M : pj_Mem} {x y : Int32} {o9 : Option Value × pj_Mem} : pj_Ends 88 (19, L, .int y :: .int x :: st, M) o9 = pj_Ends 88 (if y ≤ x then 77 else 22, L, st, M) o9 := pj_xs (s88_19)
theorem q88_22 : pj_row 88 22 = some (.aload_n 0, 1, 0, 0, 0) := by decide +kernel
theorem s88_22 {st : List Value} {M : pj_Mem} {l : pj_Loc} {x : Nat} : pj_step 88 (22, some (.ref x) :: l, st, M) = some (23, some (.ref x) :: l, .ref x :: st, M) := st_aload_n q88_22 rfl
theorem x88_22 {st : List Value} {M : pj_Mem} {l : pj_Loc} {x : Nat} {o9 : Option Value × pj_Mem} : pj_Ends 88 (22, some (.ref x) :: l, st, M) o9 = pj_Ends 88 (23, some (.ref x) :: l, .ref x :: st, M) o9 := pj_xs (s88_22)
theorem q88_23 : pj_row 88 23 = some (.getfield 7, 3, 6, 0, 0) := by decide +kernel
theorem s88_23 {L : pj_Loc} {st : List Value} {N S : Nat} {H : pj_Heap} {o : Nat} : pj_step 88 (23, L, .ref o :: st, (N, S, H)) = pj_pv 26 L st (N, S, H) (pj_fld (H o) 6 0) := st_getfield q88_23
theorem x88_23 {L : pj_Loc} {st : List Value} {N S : Nat} {H : pj_Heap} {o : Nat} {o9 : Option Value × pj_Mem} : pj_Ends 88 (23, L, .ref o :: st, (N, S, H)) o9 = pj_then 88 o9 (pj_pv 26 L st (N, S, H) (pj_fld (H o) 6 0)) := pj_xt q88_23 rfl (pj_cl_nc rfl) (s88_23)
theorem q88_26 : pj_row 88 26 = some (.bipush 14, 2, 0, 0, 0) := by decide +kernel
theorem s88_26 {L : pj_Loc} {st : List Value} {M : pj_Mem}  : pj_step 88 (26, L, st, M) = some (28, L, .int 14 :: st, M) := st_bipush q88_26 (by decide +kernel)
theorem x88_26 {L : pj_Loc} {st : List Value} {M : pj_Mem}  {o9 : Option Value × pj_Mem} : pj_Ends 88 (26, L, st, M) o9 = pj_Ends 88 (28, L, .int 14 :: st, M) o9 := pj_xs (s88_26)
theorem q88_28 : pj_row 88 28 = some (.iload_n 2, 1, 0, 0, 0) := by decide +kernel
theorem s88_28 {st : List Value} {M : pj_Mem} {l : pj_Loc} {a0 a1 : Option Value} {x : Int32} : pj_step 88 (28, a0 :: a1 :: some (.int x) :: l, st, M) = some (29, a0 :: a1 :: some (.int x) :: l, .int x :: st, M) := st_iload_n q88_28 rfl
theorem x88_28 {st : List Value} {M : pj_Mem} {l : pj_Loc} {a0 a1 : Option Value} {x : Int32} {o9 : Option Value × pj_Mem} : pj_Ends 88 (28, a0 :: a1 :: some (.int x) :: l, st, M) o9 = pj_Ends 88 (29, a0 :: a1 :: some (.int x) :: l, .int x :: st, M) o9 := pj_xs (s88_28)
theorem q88_29 : pj_row 88 29 = some (.iadd, 1, 0, 0, 0) := by decide +kernel
theorem s88_29 {L : pj_Loc} {st : List Value} {M : pj_Mem} {x y : Int32} : pj_step 88 (29, L, .int y :: .int x :: st, M) = some (30, L, .int (x + y) :: st, M) := st_iadd q88_29
theorem x88_29 {L : pj_Loc} {st : List Value} {M : pj_Mem} {x y : Int32} {o9 : Option Value × pj_Mem} : pj_Ends 88 (29, L, .int y :: .int x :: st, M) o9 = pj_Ends 88 (30, L, .int (x + y) :: st, M) o9 := pj_xs (s88_29)
theorem q88_30 : pj_row 88 30 = some (.iload_n 1, 1, 0, 0, 0) := by decide +kernel
theorem s88_30 {st : List Value} {M : pj_Mem} {l : pj_Loc} {a0 : Option Value} {x : Int32} : pj_step 88 (30, a0 :: some (.int x) :: l, st, M) = some (31, a0 :: some (.int x) :: l, .int x :: st, M) := st_iload_n q88_30 rfl
theorem x88_30 {st : List Value} {M : pj_Mem} {l : pj_Loc} {a0 : Option Value} {x : Int32} {o9 : Option Value × pj_Mem} : pj_Ends 88 (30, a0 :: some (.int x) :: l, st, M) o9 = pj_Ends 88 (31, a0 :: some (.int x) :: l, .int x :: st, M) o9 := pj_xs (s88_30)
theorem q88_31 : pj_row 88 31 = some (.ifCond .eq 30, 3, 61, 0, 0) := by decide +kernel
theorem s88_31 {L : pj_Loc} {st : List Value} {M : pj_Mem} {x : Int32} : pj_step 88 (31, L, .int x :: st, M) = some (if x = 0 then 61 else 34, L, st, M) := st_if_eq q88_31
theorem x88_31 {L : pj_Loc} {st : List Value} {M : pj_Mem} {x : Int32} {o9 : Option Value × pj_Mem} : pj_Ends 88 (31, L, .int x :: st, M) o9 = pj_Ends 88 (if x = 0 then 61 else 34, L, st, M) o9 := pj_xs (s88_31)
theorem q88_34 : pj_row 88 34 = some (.aload_n 0, 1, 0, 0, 0) := by decide +kernel
theorem s88_34 {st : List Value} {M : pj_Mem} {l : pj_Loc} {x : Nat} : pj_step 88 (34, some (.ref x) :: l, st, M) = some (35, some (.ref x) :: l, .ref x :: st, M) := st_aload_n q88_34 rfl
theorem x88_34 {st : List Value} {M : pj_Mem} {l : pj_Loc} {x : Nat} {o9 : Option Value × pj_Mem} : pj_Ends 88 (34, some (.ref x) :: l, st, M) o9 = pj_Ends 88 (35, some (.ref x) :: l, .ref x :: st, M) o9 := pj_xs (s88_34)
theorem q88_35 : pj_row 88 35 = some (.getfield 28, 3, 6, 7, 0) := by decide +kernel
theorem s88_35 {L : pj_Loc} {st : List Value} {N S : Nat} {H : pj_Heap} {o : Nat} : pj_step 88 (35, L, .ref o :: st, (N, S, H)) = pj_pv 38 L st (N, S, H) (pj_fld (H o) 6 7) := st_getfield q88_35
theorem x88_35 {L : pj_Loc} {st : List Value} {N S : Nat} {H : pj_Heap} {o : Nat} {o9 : Option Value × pj_Mem} : pj_Ends 88 (35, L, .ref o :: st, (N, S, H)) o9 = pj_then 88 o9 (pj_pv 38 L st (N, S, H) (pj_fld (H o) 6 7)) := pj_xt q88_35 rfl (pj_cl_nc rfl) (s88_35)
theorem q88_38 : pj_row 88 38 = some (.iload_n 2, 1, 0, 0, 0) := by decide +kernel
theorem s88_38 {st : List Value} {M : pj_Mem} {l : pj_Loc} {a0 a1 : Option Value} {x : Int32} : pj_step 88 (38, a0 :: a1 :: some (.int x) :: l, st, M) = some (39, a0 :: a1 :: some (.int x) :: l, .int x :: st, M) := st_iload_n q88_38 rfl
theorem x88_38 {st : List Value} {M : pj_Mem} {l : pj_Loc} {a0 a1 : Option Value} {x : Int32} {o9 : Option Value × pj_Mem} : pj_Ends 88 (38, a0 :: a1 :: some (.int x) :: l, st, M) o9 = pj_Ends 88 (39, a0 :: a1 :: some (.int x) :: l, .int x :: st, M) o9 := pj_xs (s88_38)
theorem q88_39 : pj_row 88 39 = some (.iaload, 1, 0, 0, 0) := by decide +kernel
theorem s88_39 {L : pj_Loc} {st : List Value} {N S : Nat} {H : pj_Heap} {o : Nat} {i : Int32} : pj_step 88 (39, L, .int i :: .ref o :: st, (N, S, H)) = pj_pi 40 L st (N, S, H) (pj_arl (H o) 0 i) := st_iaload q88_39
theorem x88_39 {L : pj_Loc} {st : List Value} {N S : Nat} {H : pj_Heap} {o : Nat} {i : Int32} {o9 : Option Value × pj_Mem} : pj_Ends 88 (39, L, .int i :: .ref o :: st, (N, S, H)) o9 = pj_then 88 o9 (pj_pi 40 L st (N, S, H) (pj_arl (H o) 0 i)) := pj_xt q88_39 rfl (pj_cl_nc rfl) (s88_39)
theorem q88_40 : pj_row 88 40 = some (.aload_n 0, 1, 0, 0, 0) := by decide +kernel
theorem s88_40 {st : List Value} {M : pj_Mem} {l : pj_Loc} {x : Nat} : pj_step 88 (40, some (.ref x) :: l, st, M) = some (41, some (.ref x) :: l, .ref x :: st, M) := st_aload_n q88_40 rfl
theorem x88_40 {st : List Value} {M : pj_Mem} {l : pj_Loc} {x : Nat} {o9 : Option Value × pj_Mem} : pj_Ends 88 (40, some (.ref x) :: l, st, M) o9 = pj_Ends 88 (41, some (.ref x) :: l, .ref x :: st, M) o9 := pj_xs (s88_40)
theorem q88_41 : pj_row 88 41 = some (.getfield 56, 3, 6, 8, 0) := by decide +kernel
theorem s88_41 {L : pj_Loc} {st : List Value} {N S : Nat} {H : pj_Heap} {o : Nat} : pj_step 88 (41, L, .ref o :: st, (N, S, H)) = pj_pv 44 L st (N, S, H) (pj_fld (H o) 6 8) := st_getfield q88_41
theorem x88_41 {L : pj_Loc} {st : List Value} {N S : Nat} {H : pj_Heap} {o : Nat} {o9 : Option Value × pj_Mem} : pj_Ends 88 (41, L, .ref o :: st, (N, S, H)) o9 = pj_then 88 o9 (pj_pv 44 L st (N, S, H) (pj_fld (H o) 6 8)) := pj_xt q88_41 rfl (pj_cl_nc rfl) (s88_41)
theorem q88_44 : pj_row 88 44 = some (.isub, 1, 0, 0, 0) := by decide +kernel
theorem s88_44 {L : pj_Loc} {st : List Value} {M : pj_Mem} {x y : Int32} : pj_step 88 (44, L, .int y :: .int x :: st, M) = some (45, L, .int (x - y) :: st, M) := st_isub q88_44
theorem x88_44 {L : pj_Loc} {st : List Value} {M : pj_Mem} {x y : Int32} {o9 : Option Value × pj_Mem} : pj_Ends 88 (44, L, .int y :: .int x :: st, M) o9 = pj_Ends 88 (45, L, .int (x - y) :: st, M) o9 := pj_xs (s88_44)
theorem q88_45 : pj_row 88 45 = some (.invokestatic 62, 3, 89, 1, 0) := by decide +kernel
theorem e88_45 {L : pj_Loc} {st : List Value} {N S : Nat} {H : pj_Heap} {o : Option Value × pj_Mem} {M' : pj_Mem} {x0 : Int32} {r : Int32} (h4 : pj_le4 st = true) (h1 : pj_Ends 89 (0, [some (.int x0)], [], (N, S, H)) (some (.int r), M')) (h2 : pj_Ends 88 (48, L, .int r :: st, M') o) : pj_Ends 88 (45, L, .int x0 :: st, (N, S, H)) o := ec_s1 q88_45 (Or.inl rfl) h4 rfl h1 h2
theorem q88_48 : pj_row 88 48 = some (.aload_n 0, 1, 0, 0, 0) := by decide +kernel
theorem s88_48 {st : List Value} {M : pj_Mem} {l : pj_Loc} {x : Nat} : pj_step 88 (48, some (.ref x) :: l, st, M) = some (49, some (.ref x) :: l, .ref x :: st, M) := st_aload_n q88_48 rfl
theorem x88_48 {st : List Value} {M : pj_Mem} {l : pj_Loc} {x : Nat} {o9 : Option Value × pj_Mem} : pj_Ends 88 (48, some (.ref x) :: l, st, M) o9 = pj_Ends 88 (49, some (.ref x) :: l, .ref x :: st, M) o9 := pj_xs (s88_48)
theorem q88_49 : pj_row 88 49 = some (.getfield 7, 3, 6, 0, 0) := by decide +kernel
theorem s88_49 {L : pj_Loc} {st : List Value} {N S : Nat} {H : pj_Heap} {o : Nat} : pj_step 88 (49, L, .ref o :: st, (N, S, H)) = pj_pv 52 L st (N, S, H) (pj_fld (H o) 6 0) := st_getfield q88_49
theorem x88_49 {L : pj_Loc} {st : List Value} {N S : Nat} {H : pj_Heap} {o : Nat} {o9 : Option Value × pj_Mem} : pj_Ends 88 (49, L, .ref o :: st, (N, S, H)) o9 = pj_then 88 o9 (pj_pv 52 L st (N, S, H) (pj_fld (H o) 6 0)) := pj_xt q88_49 rfl (pj_cl_nc rfl) (s88_49)
theorem q88_52 : pj_row 88 52 = some (.iconst 4, 1, 0, 0, 0) := by decide +kernel
theorem s88_52 {L : pj_Loc} {st : List Value} {M : pj_Mem}  : pj_step 88 (52, L, st, M) = some (53, L, .int 4 :: st, M) := st_iconst q88_52 (by decide +kernel)
theorem x88_52 {L : pj_Loc} {st : List Value} {M : pj_Mem}  {o9 : Option Value × pj_Mem} : pj_Ends 88 (52, L, st, M) o9 = pj_Ends 88 (53, L, .int 4 :: st, M) o9 := pj_xs (s88_52)
theorem q88_53 : pj_row 88 53 = some (.iaload, 1, 0, 0, 0) := by decide +kernel
theorem s88_53 {L : pj_Loc} {st : List Value} {N S : Nat} {H : pj_Heap} {o : Nat} {i : Int32} : pj_step 88 (53, L, .int i :: .ref o :: st, (N, S, H)) = pj_pi 54 L st (N, S, H) (pj_arl (H o) 0 i) := st_iaload q88_53
theorem x88_53 {L : pj_Loc} {st : List Value} {N S : Nat} {H : pj_Heap} {o : Nat} {i : Int32} {o9 : Option Value × pj_Mem} : pj_Ends 88 (53, L, .int i :: .ref o :: st, (N, S, H)) o9 = pj_then 88 o9 (pj_pi 54 L st (N, S, H) (pj_arl (H o) 0 i)) := pj_xt q88_53 rfl (pj_cl_nc rfl) (s88_53)
theorem q88_54 : pj_row 88 54 = some (.if_icmp .le 7, 3, 61, 0, 0) := by decide +kernel
theorem s88_54 {L : pj_Loc} {st : List Value} {M : pj_Mem} {x y : Int32} : pj_step 88 (54, L, .int y :: .int x :: st, M) = some (if x ≤ y then 61 else 57, L, st, M) := st_icmp_le q88_54
theorem x88_54 {L : pj_Loc} {st : List Value} {M : pj_Mem} {x y : Int32} {o9 : Option Value × pj_Mem} : pj_Ends 88 (54, L, .int y :: .int x :: st, M) o9 = pj_Ends 88 (if x ≤ y then 61 else 57, L, st, M) o9 := pj_xs (s88_54)
theorem q88_57 : pj_row 88 57 = some (.iconst 0, 1, 0, 0, 0) := by decide +kernel
theorem s88_57 {L : pj_Loc} {st : List Value} {M : pj_Mem}  : pj_step 88 (57, L, st, M) = some (58, L, .int 0 :: st, M) := st_iconst q88_57 (by decide +kernel)
theorem x88_57 {L : pj_Loc} {st : List Value} {M : pj_Mem}  {o9 : Option Value × pj_Mem} : pj_Ends 88 (57, L, st, M) o9 = pj_Ends 88 (58, L, .int 0 :: st, M) o9 := pj_xs (s88_57)
theorem q88_58 : pj_row 88 58 = some (.goto 12, 3, 70, 0, 0) := by decide +kernel
theorem s88_58 {L : pj_Loc} {st : List Value} {M : pj_Mem}  : pj_step 88 (58, L, st, M) = some (70, L, st, M) := st_goto q88_58
theorem x88_58 {L : pj_Loc} {st : List Value} {M : pj_Mem}  {o9 : Option Value × pj_Mem} : pj_Ends 88 (58, L, st, M) o9 = pj_Ends 88 (70, L, st, M) o9 := pj_xs (s88_58)
theorem q88_61 : pj_row 88 61 = some (.aload_n 0, 1, 0, 0, 0) := by decide +kernel
theorem s88_61 {st : List Value} {M : pj_Mem} {l : pj_Loc} {x : Nat} : pj_step 88 (61, some (.ref x) :: l, st, M) = some (62, some (.ref x) :: l, .ref x :: st, M) := st_aload_n q88_61 rfl
theorem x88_61 {st : List Value} {M : pj_Mem} {l : pj_Loc} {x : Nat} {o9 : Option Value × pj_Mem} : pj_Ends 88 (61, some (.ref x) :: l, st, M) o9 = pj_Ends 88 (62, some (.ref x) :: l, .ref x :: st, M) o9 := pj_xs (s88_61)
theorem q88_62 : pj_row 88 62 = some (.getfield 7, 3, 6, 0, 0) := by decide +kernel
theorem s88_62 {L : pj_Loc} {st : List Value} {N S : Nat} {H : pj_Heap} {o : Nat} : pj_step 88 (62, L, .ref o :: st, (N, S, H)) = pj_pv 65 L st (N, S, H) (pj_fld (H o) 6 0) := st_getfield q88_62
theorem x88_62 {L : pj_Loc} {st : List Value} {N S : Nat} {H : pj_Heap} {o : Nat} {o9 : Option Value × pj_Mem} : pj_Ends 88 (62, L, .ref o :: st, (N, S, H)) o9 = pj_then 88 o9 (pj_pv 65 L st (N, S, H) (pj_fld (H o) 6 0)) := pj_xt q88_62 rfl (pj_cl_nc rfl) (s88_62)
theorem q88_65 : pj_row 88 65 = some (.bipush 14, 2, 0, 0, 0) := by decide +kernel
theorem s88_65 {L : pj_Loc} {st : List Value} {M : pj_Mem}  : pj_step 88 (65, L, st, M) = some (67, L, .int 14 :: st, M) := st_bipush q88_65 (by decide +kernel)
theorem x88_65 {L : pj_Loc} {st : List Value} {M : pj_Mem}  {o9 : Option Value × pj_Mem} : pj_Ends 88 (65, L, st, M) o9 = pj_Ends 88 (67, L, .int 14 :: st, M) o9 := pj_xs (s88_65)
theorem q88_67 : pj_row 88 67 = some (.iload_n 2, 1, 0, 0, 0) := by decide +kernel
theorem s88_67 {st : List Value} {M : pj_Mem} {l : pj_Loc} {a0 a1 : Option Value} {x : Int32} : pj_step 88 (67, a0 :: a1 :: some (.int x) :: l, st, M) = some (68, a0 :: a1 :: some (.int x) :: l, .int x :: st, M) := st_iload_n q88_67 rfl
theorem x88_67 {st : List Value} {M : pj_Mem} {l : pj_Loc} {a0 a1 : Option Value} {x : Int32} {o9 : Option Value × pj_Mem} : pj_Ends 88 (67, a0 :: a1 :: some (.int x) :: l, st, M) o9 = pj_Ends 88 (68, a0 :: a1 :: some (.int x) :: l, .int x :: st, M) o9 := pj_xs (s88_67)
theorem q88_68 : pj_row 88 68 = some (.iadd, 1, 0, 0, 0) := by decide +kernel
theorem s88_68 {L : pj_Loc} {st : List Value} {M : pj_Mem} {x y : Int32} : pj_step 88 (68, L, .int y :: .int x :: st, M) = some (69, L, .int (x + y) :: st, M) := st_iadd q88_68
theorem x88_68 {L : pj_Loc} {st : List Value} {M : pj_Mem} {x y : Int32} {o9 : Option Value × pj_Mem} : pj_Ends 88 (68, L, .int y :: .int x :: st, M) o9 = pj_Ends 88 (69, L, .int (x + y) :: st, M) o9 := pj_xs (s88_68)
theorem q88_69 : pj_row 88 69 = some (.iaload, 1, 0, 0, 0) := by decide +kernel
theorem s88_69 {L : pj_Loc} {st : List Value} {N S : Nat} {H : pj_Heap} {o : Nat} {i : Int32} : pj_step 88 (69, L, .int i :: .ref o :: st, (N, S, H)) = pj_pi 70 L st (N, S, H) (pj_arl (H o) 0 i) := st_iaload q88_69
theorem x88_69 {L : pj_Loc} {st : List Value} {N S : Nat} {H : pj_Heap} {o : Nat} {i : Int32} {o9 : Option Value × pj_Mem} : pj_Ends 88 (69, L, .int i :: .ref o :: st, (N, S, H)) o9 = pj_then 88 o9 (pj_pi 70 L st (N, S, H) (pj_arl (H o) 0 i)) := pj_xt q88_69 rfl (pj_cl_nc rfl) (s88_69)
theorem q88_70 : pj_row 88 70 = some (.iastore, 1, 0, 0, 0) := by decide +kernel
theorem s88_70 {L : pj_Loc} {st : List Value} {N S : Nat} {H : pj_Heap} {o : Nat} {i x : Int32} : pj_step 88 (70, L, .int x :: .int i :: .ref o :: st, (N, S, H)) = pj_set 71 L st (N, S, H) o (pj_ars (H o) 0 i x) := st_iastore q88_70
theorem x88_70 {L : pj_Loc} {st : List Value} {N S : Nat} {H : pj_Heap} {o : Nat} {i x : Int32} {o9 : Option Value × pj_Mem} : pj_Ends 88 (70, L, .int x :: .int i :: .ref o :: st, (N, S, H)) o9 = pj_then 88 o9 (pj_set 71 L st (N, S, H) o (pj_ars (H o) 0 i x)) := pj_xt q88_70 rfl (pj_cl_nc rfl) (s88_70)
theorem q88_71 : pj_row 88 71 = some (.iinc 2 1, 3, 0, 0, 0) := by decide +kernel
theorem s88_71 {st : List Value} {M : pj_Mem} {l : pj_Loc} {a0 a1 : Option Value} {x : Int32} (h : pj_long a1 = false) : pj_step 88 (71, a0 :: a1 :: some (.int x) :: l, st, M) = some (74, a0 :: a1 :: some (.int (x + 1)) :: l, st, M) := st_iinc q88_71 rfl (congrArg (fun y => x + y) (show Int32.ofInt 1 = 1 by decide +kernel)) (pj_st_2 h)
theorem x88_71 {st : List Value} {M : pj_Mem} {l : pj_Loc} {a0 a1 : Option Value} {x : Int32} (h : pj_long a1 = false) {o9 : Option Value × pj_Mem} : pj_Ends 88 (71, a0 :: a1 :: some (.int x) :: l, st, M) o9 = pj_Ends 88 (74, a0 :: a1 :: some (.int (x + 1)) :: l, st, M) o9 := pj_xs (s88_71 h)
theorem q88_74 : pj_row 88 74 = some (.goto (-57), 3, 17, 0, 0) := by decide +kernel
theorem s88_74 {L : pj_Loc} {st : List Value} {M : pj_Mem}  : pj_step 88 (74, L, st, M) = some (17, L, st, M) := st_goto q88_74
theorem x88_74 {L : pj_Loc} {st : List Value} {M : pj_Mem}  {o9 : Option Value × pj_Mem} : pj_Ends 88 (74, L, st, M) o9 = pj_Ends 88 (17, L, st, M) o9 := pj_xs (s88_74)
theorem q88_77 : pj_row 88 77 = some (.return_, 1, 0, 0, 0) := by decide +kernel
theorem t88_77 {L : pj_Loc} {M : pj_Mem} : pj_Ends 88 (77, L, [], M) (none, M) := pj_Ends.ret q88_77 (pj_rtn_v rt88)
theorem rt89 : pj_rt 89 = some .int := rfl
theorem q89_0 : pj_row 89 0 = some (.iload_n 0, 1, 0, 0, 0) := by decide +kernel
theorem s89_0 {st : List Value} {M : pj_Mem} {l : pj_Loc} {x : Int32} : pj_step 89 (0, some (.int x) :: l, st, M) = some (1, some (.int x) :: l, .int x :: st, M) := st_iload_n q89_0 rfl
theorem x89_0 {st : List Value} {M : pj_Mem} {l : pj_Loc} {x : Int32} {o9 : Option Value × pj_Mem} : pj_Ends 89 (0, some (.int x) :: l, st, M) o9 = pj_Ends 89 (1, some (.int x) :: l, .int x :: st, M) o9 := pj_xs (s89_0)
theorem q89_1 : pj_row 89 1 = some (.ifCond .ge 8, 3, 9, 0, 0) := by decide +kernel
theorem s89_1 {L : pj_Loc} {st : List Value} {M : pj_Mem} {x : Int32} : pj_step 89 (1, L, .int x :: st, M) = some (if 0 ≤ x then 9 else 4, L, st, M) := st_if_ge q89_1
theorem x89_1 {L : pj_Loc} {st : List Value} {M : pj_Mem} {x : Int32} {o9 : Option Value × pj_Mem} : pj_Ends 89 (1, L, .int x :: st, M) o9 = pj_Ends 89 (if 0 ≤ x then 9 else 4, L, st, M) o9 := pj_xs (s89_1)
theorem q89_4 : pj_row 89 4 = some (.iload_n 0, 1, 0, 0, 0) := by decide +kernel
theorem s89_4 {st : List Value} {M : pj_Mem} {l : pj_Loc} {x : Int32} : pj_step 89 (4, some (.int x) :: l, st, M) = some (5, some (.int x) :: l, .int x :: st, M) := st_iload_n q89_4 rfl
theorem x89_4 {st : List Value} {M : pj_Mem} {l : pj_Loc} {x : Int32} {o9 : Option Value × pj_Mem} : pj_Ends 89 (4, some (.int x) :: l, st, M) o9 = pj_Ends 89 (5, some (.int x) :: l, .int x :: st, M) o9 := pj_xs (s89_4)
theorem q89_5 : pj_row 89 5 = some (.ineg, 1, 0, 0, 0) := by decide +kernel
theorem s89_5 {L : pj_Loc} {st : List Value} {M : pj_Mem} {x : Int32} : pj_step 89 (5, L, .int x :: st, M) = some (6, L, .int (-x) :: st, M) := st_ineg q89_5
theorem x89_5 {L : pj_Loc} {st : List Value} {M : pj_Mem} {x : Int32} {o9 : Option Value × pj_Mem} : pj_Ends 89 (5, L, .int x :: st, M) o9 = pj_Ends 89 (6, L, .int (-x) :: st, M) o9 := pj_xs (s89_5)
theorem q89_6 : pj_row 89 6 = some (.goto 4, 3, 10, 0, 0) := by decide +kernel
theorem s89_6 {L : pj_Loc} {st : List Value} {M : pj_Mem}  : pj_step 89 (6, L, st, M) = some (10, L, st, M) := st_goto q89_6
theorem x89_6 {L : pj_Loc} {st : List Value} {M : pj_Mem}  {o9 : Option Value × pj_Mem} : pj_Ends 89 (6, L, st, M) o9 = pj_Ends 89 (10, L, st, M) o9 := pj_xs (s89_6)
theorem q89_9 : pj_row 89 9 = some (.iload_n 0, 1, 0, 0, 0) := by decide +kernel
theorem s89_9 {st : List Value} {M : pj_Mem} {l : pj_Loc} {x : Int32} : pj_step 89 (9, some (.int x) :: l, st, M) = some (10, some (.int x) :: l, .int x :: st, M) := st_iload_n q89_9 rfl
theorem x89_9 {st : List Value} {M : pj_Mem} {l : pj_Loc} {x : Int32} {o9 : Option Value × pj_Mem} : pj_Ends 89 (9, some (.int x) :: l, st, M) o9 = pj_Ends 89 (10, some (.int x) :: l, .int x :: st, M) o9 := pj_xs (s89_9)
theorem q89_10 : pj_row 89 10 = some (.ireturn, 1, 0, 0, 0) := by decide +kernel
theorem t89_10 {L : pj_Loc} {M : pj_Mem} {v : Int32} : pj_Ends 89 (10, L, [.int v], M) (some (.int v), M) := pj_Ends.ret q89_10 (pj_rtn_i rt89)
theorem rt90 : pj_rt 90 = none := rfl
theorem q90_0 : pj_row 90 0 = some (.iconst 0, 1, 0, 0, 0) := by decide +kernel
theorem s90_0 {L : pj_Loc} {st : List Value} {M : pj_Mem}  : pj_step 90 (0, L, st, M) = some (1, L, .int 0 :: st, M) := st_iconst q90_0 (by decide +kernel)
theorem x90_0 {L : pj_Loc} {st : List Value} {M : pj_Mem}  {o9 : Option Value × pj_Mem} : pj_Ends 90 (0, L, st, M) o9 = pj_Ends 90 (1, L, .int 0 :: st, M) o9 := pj_xs (s90_0)
theorem q90_1 : pj_row 90 1 = some (.istore_n 2, 1, 0, 0, 0) := by decide +kernel
theorem s90_1 {st : List Value} {M : pj_Mem} {l : pj_Loc} {a0 a1 a2 : Option Value} {x : Int32} (h : pj_long a1 = false) : pj_step 90 (1, a0 :: a1 :: a2 :: l, .int x :: st, M) = some (2, a0 :: a1 :: some (.int x) :: l, st, M) := st_istore_n q90_1 (pj_st_2 h)
theorem x90_1 {st : List Value} {M : pj_Mem} {l : pj_Loc} {a0 a1 a2 : Option Value} {x : Int32} (h : pj_long a1 = false) {o9 : Option Value × pj_Mem} : pj_Ends 90 (1, a0 :: a1 :: a2 :: l, .int x :: st, M) o9 = pj_Ends 90 (2, a0 :: a1 :: some (.int x) :: l, st, M) o9 := pj_xs (s90_1 h)
theorem q90_2 : pj_row 90 2 = some (.iload_n 2, 1, 0, 0, 0) := by decide +kernel
theorem s90_2 {st : List Value} {M : pj_Mem} {l : pj_Loc} {a0 a1 : Option Value} {x : Int32} : pj_step 90 (2, a0 :: a1 :: some (.int x) :: l, st, M) = some (3, a0 :: a1 :: some (.int x) :: l, .int x :: st, M) := st_iload_n q90_2 rfl
theorem x90_2 {st : List Value} {M : pj_Mem} {l : pj_Loc} {a0 a1 : Option Value} {x : Int32} {o9 : Option Value × pj_Mem} : pj_Ends 90 (2, a0 :: a1 :: some (.int x) :: l, st, M) o9 = pj_Ends 90 (3, a0 :: a1 :: some (.int x) :: l, .int x :: st, M) o9 := pj_xs (s90_2)
theorem q90_3 : pj_row 90 3 = some (.iconst 3, 1, 0, 0, 0) := by decide +kernel
theorem s90_3 {L : pj_Loc} {st : List Value} {M : pj_Mem}  : pj_step 90 (3, L, st, M) = some (4, L, .int 3 :: st, M) := st_iconst q90_3 (by decide +kernel)
theorem x90_3 {L : pj_Loc} {st : List Value} {M : pj_Mem}  {o9 : Option Value × pj_Mem} : pj_Ends 90 (3, L, st, M) o9 = pj_Ends 90 (4, L, .int 3 :: st, M) o9 := pj_xs (s90_3)
theorem q90_4 : pj_row 90 4 = some (.if_icmp .ge 83, 3, 87, 0, 0) := by decide +kernel
theorem s90_4 {L : pj_Loc} {st : List Value} {M : pj_Mem} {x y : Int32} : pj_step 90 (4, L, .int y :: .int x :: st, M) = some (if y ≤ x then 87 else 7, L, st, M) := st_icmp_ge q90_4
theorem x90_4 {L : pj_Loc} {st : List Value} {M : pj_Mem} {x y : Int32} {o9 : Option Value × pj_Mem} : pj_Ends 90 (4, L, .int y :: .int x :: st, M) o9 = pj_Ends 90 (if y ≤ x then 87 else 7, L, st, M) o9 := pj_xs (s90_4)
theorem q90_7 : pj_row 90 7 = some (.iload_n 1, 1, 0, 0, 0) := by decide +kernel
theorem s90_7 {st : List Value} {M : pj_Mem} {l : pj_Loc} {a0 : Option Value} {x : Int32} : pj_step 90 (7, a0 :: some (.int x) :: l, st, M) = some (8, a0 :: some (.int x) :: l, .int x :: st, M) := st_iload_n q90_7 rfl
theorem x90_7 {st : List Value} {M : pj_Mem} {l : pj_Loc} {a0 : Option Value} {x : Int32} {o9 : Option Value × pj_Mem} : pj_Ends 90 (7, a0 :: some (.int x) :: l, st, M) o9 = pj_Ends 90 (8, a0 :: some (.int x) :: l, .int x :: st, M) o9 := pj_xs (s90_7)
theorem q90_8 : pj_row 90 8 = some (.ifCond .ne 73, 3, 81, 0, 0) := by decide +kernel
theorem s90_8 {L : pj_Loc} {st : List Value} {M : pj_Mem} {x : Int32} : pj_step 90 (8, L, .int x :: st, M) = some (if ¬ x = 0 then 81 else 11, L, st, M) := st_if_ne q90_8
theorem x90_8 {L : pj_Loc} {st : List Value} {M : pj_Mem} {x : Int32} {o9 : Option Value × pj_Mem} : pj_Ends 90 (8, L, .int x :: st, M) o9 = pj_Ends 90 (if ¬ x = 0 then 81 else 11, L, st, M) o9 := pj_xs (s90_8)
theorem q90_11 : pj_row 90 11 = some (.aload_n 0, 1, 0, 0, 0) := by decide +kernel
theorem s90_11 {st : List Value} {M : pj_Mem} {l : pj_Loc} {x : Nat} : pj_step 90 (11, some (.ref x) :: l, st, M) = some (12, some (.ref x) :: l, .ref x :: st, M) := st_aload_n q90_11 rfl
theorem x90_11 {st : List Value} {M : pj_Mem} {l : pj_Loc} {x : Nat} {o9 : Option Value × pj_Mem} : pj_Ends 90 (11, some (.ref x) :: l, st, M) o9 = pj_Ends 90 (12, some (.ref x) :: l, .ref x :: st, M) o9 := pj_xs (s90_11)
theorem q90_12 : pj_row 90 12 = some (.getfield 56, 3, 6, 8, 0) := by decide +kernel
theorem s90_12 {L : pj_Loc} {st : List Value} {N S : Nat} {H : pj_Heap} {o : Nat} : pj_step 90 (12, L, .ref o :: st, (N, S, H)) = pj_pv 15 L st (N, S, H) (pj_fld (H o) 6 8) := st_getfield q90_12
theorem x90_12 {L : pj_Loc} {st : List Value} {N S : Nat} {H : pj_Heap} {o : Nat} {o9 : Option Value × pj_Mem} : pj_Ends 90 (12, L, .ref o :: st, (N, S, H)) o9 = pj_then 90 o9 (pj_pv 15 L st (N, S, H) (pj_fld (H o) 6 8)) := pj_xt q90_12 rfl (pj_cl_nc rfl) (s90_12)
theorem q90_15 : pj_row 90 15 = some (.invokestatic 62, 3, 89, 1, 0) := by decide +kernel
theorem e90_15 {L : pj_Loc} {st : List Value} {N S : Nat} {H : pj_Heap} {o : Option Value × pj_Mem} {M' : pj_Mem} {x0 : Int32} {r : Int32} (h4 : pj_le4 st = true) (h1 : pj_Ends 89 (0, [some (.int x0)], [], (N, S, H)) (some (.int r), M')) (h2 : pj_Ends 90 (18, L, .int r :: st, M') o) : pj_Ends 90 (15, L, .int x0 :: st, (N, S, H)) o := ec_s1 q90_15 (Or.inl rfl) h4 rfl h1 h2
theorem q90_18 : pj_row 90 18 = some (.iconst 3, 1, 0, 0, 0) := by decide +kernel
theorem s90_18 {L : pj_Loc} {st : List Value} {M : pj_Mem}  : pj_step 90 (18, L, st, M) = some (19, L, .int 3 :: st, M) := st_iconst q90_18 (by decide +kernel)
theorem x90_18 {L : pj_Loc} {st : List Value} {M : pj_Mem}  {o9 : Option Value × pj_Mem} : pj_Ends 90 (18, L, st, M) o9 = pj_Ends 90 (19, L, .int 3 :: st, M) o9 := pj_xs (s90_18)
theorem q90_19 : pj_row 90 19 = some (.if_icmp .gt 62, 3, 81, 0, 0) := by decide +kernel
theorem s90_19 {L : pj_Loc} {st : List Value} {M : pj_Mem} {x y : Int32} : pj_step 90 (19, L, .int y :: .int x :: st, M) = some (if y < x then 81 else 22, L, st, M) := st_icmp_gt q90_19
theorem x90_19 {L : pj_Loc} {st : List Value} {M : pj_Mem} {x y : Int32} {o9 : Option Value × pj_Mem} : pj_Ends 90 (19, L, .int y :: .int x :: st, M) o9 = pj_Ends 90 (if y < x then 81 else 22, L, st, M) o9 := pj_xs (s90_19)
theorem q90_22 : pj_row 90 22 = some (.aload_n 0, 1, 0, 0, 0) := by decide +kernel
theorem s90_22 {st : List Value} {M : pj_Mem} {l : pj_Loc} {x : Nat} : pj_step 90 (22, some (.ref x) :: l, st, M) = some (23, some (.ref x) :: l, .ref x :: st, M) := st_aload_n q90_22 rfl
theorem x90_22 {st : List Value} {M : pj_Mem} {l : pj_Loc} {x : Nat} {o9 : Option Value × pj_Mem} : pj_Ends 90 (22, some (.ref x) :: l, st, M) o9 = pj_Ends 90 (23, some (.ref x) :: l, .ref x :: st, M) o9 := pj_xs (s90_22)
theorem q90_23 : pj_row 90 23 = some (.getfield 7, 3, 6, 0, 0) := by decide +kernel
theorem s90_23 {L : pj_Loc} {st : List Value} {N S : Nat} {H : pj_Heap} {o : Nat} : pj_step 90 (23, L, .ref o :: st, (N, S, H)) = pj_pv 26 L st (N, S, H) (pj_fld (H o) 6 0) := st_getfield q90_23
theorem x90_23 {L : pj_Loc} {st : List Value} {N S : Nat} {H : pj_Heap} {o : Nat} {o9 : Option Value × pj_Mem} : pj_Ends 90 (23, L, .ref o :: st, (N, S, H)) o9 = pj_then 90 o9 (pj_pv 26 L st (N, S, H) (pj_fld (H o) 6 0)) := pj_xt q90_23 rfl (pj_cl_nc rfl) (s90_23)
theorem q90_26 : pj_row 90 26 = some (.bipush 14, 2, 0, 0, 0) := by decide +kernel
theorem s90_26 {L : pj_Loc} {st : List Value} {M : pj_Mem}  : pj_step 90 (26, L, st, M) = some (28, L, .int 14 :: st, M) := st_bipush q90_26 (by decide +kernel)
theorem x90_26 {L : pj_Loc} {st : List Value} {M : pj_Mem}  {o9 : Option Value × pj_Mem} : pj_Ends 90 (26, L, st, M) o9 = pj_Ends 90 (28, L, .int 14 :: st, M) o9 := pj_xs (s90_26)
theorem q90_28 : pj_row 90 28 = some (.iload_n 2, 1, 0, 0, 0) := by decide +kernel
theorem s90_28 {st : List Value} {M : pj_Mem} {l : pj_Loc} {a0 a1 : Option Value} {x : Int32} : pj_step 90 (28, a0 :: a1 :: some (.int x) :: l, st, M) = some (29, a0 :: a1 :: some (.int x) :: l, .int x :: st, M) := st_iload_n q90_28 rfl
theorem x90_28 {st : List Value} {M : pj_Mem} {l : pj_Loc} {a0 a1 : Option Value} {x : Int32} {o9 : Option Value × pj_Mem} : pj_Ends 90 (28, a0 :: a1 :: some (.int x) :: l, st, M) o9 = pj_Ends 90 (29, a0 :: a1 :: some (.int x) :: l, .int x :: st, M) o9 := pj_xs (s90_28)
theorem q90_29 : pj_row 90 29 = some (.iadd, 1, 0, 0, 0) := by decide +kernel
theorem s90_29 {L : pj_Loc} {st : List Value} {M : pj_Mem} {x y : Int32} : pj_step 90 (29, L, .int y :: .int x :: st, M) = some (30, L, .int (x + y) :: st, M) := st_iadd q90_29
theorem x90_29 {L : pj_Loc} {st : List Value} {M : pj_Mem} {x y : Int32} {o9 : Option Value × pj_Mem} : pj_Ends 90 (29, L, .int y :: .int x :: st, M) o9 = pj_Ends 90 (30, L, .int (x + y) :: st, M) o9 := pj_xs (s90_29)
theorem q90_30 : pj_row 90 30 = some (.iaload, 1, 0, 0, 0) := by decide +kernel
theorem s90_30 {L : pj_Loc} {st : List Value} {N S : Nat} {H : pj_Heap} {o : Nat} {i : Int32} : pj_step 90 (30, L, .int i :: .ref o :: st, (N, S, H)) = pj_pi 31 L st (N, S, H) (pj_arl (H o) 0 i) := st_iaload q90_30
theorem x90_30 {L : pj_Loc} {st : List Value} {N S : Nat} {H : pj_Heap} {o : Nat} {i : Int32} {o9 : Option Value × pj_Mem} : pj_Ends 90 (30, L, .int i :: .ref o :: st, (N, S, H)) o9 = pj_then 90 o9 (pj_pi 31 L st (N, S, H) (pj_arl (H o) 0 i)) := pj_xt q90_30 rfl (pj_cl_nc rfl) (s90_30)
theorem q90_31 : pj_row 90 31 = some (.iconst 1, 1, 0, 0, 0) := by decide +kernel
theorem s90_31 {L : pj_Loc} {st : List Value} {M : pj_Mem}  : pj_step 90 (31, L, st, M) = some (32, L, .int 1 :: st, M) := st_iconst q90_31 (by decide +kernel)
theorem x90_31 {L : pj_Loc} {st : List Value} {M : pj_Mem}  {o9 : Option Value × pj_Mem} : pj_Ends 90 (31, L, st, M) o9 = pj_Ends 90 (32, L, .int 1 :: st, M) o9 := pj_xs (s90_31)
theorem q90_32 : pj_row 90 32 = some (.if_icmp .ne 49, 3, 81, 0, 0) := by decide +kernel
theorem s90_32 {L : pj_Loc} {st : List Value} {M : pj_Mem} {x y : Int32} : pj_step 90 (32, L, .int y :: .int x :: st, M) = some (if ¬ x = y then 81 else 35, L, st, M) := st_icmp_ne q90_32
theorem x90_32 {L : pj_Loc} {st : List Value} {M : pj_Mem} {x y : Int32} {o9 : Option Value × pj_Mem} : pj_Ends 90 (32, L, .int y :: .int x :: st, M) o9 = pj_Ends 90 (if ¬ x = y then 81 else 35, L, st, M) o9 := pj_xs (s90_32)
theorem q90_35 : pj_row 90 35 = some (.aload_n 0, 1, 0, 0, 0) := by decide +kernel
theorem s90_35 {st : List Value} {M : pj_Mem} {l : pj_Loc} {x : Nat} : pj_step 90 (35, some (.ref x) :: l, st, M) = some (36, some (.ref x) :: l, .ref x :: st, M) := st_aload_n q90_35 rfl
theorem x90_35 {st : List Value} {M : pj_Mem} {l : pj_Loc} {x : Nat} {o9 : Option Value × pj_Mem} : pj_Ends 90 (35, some (.ref x) :: l, st, M) o9 = pj_Ends 90 (36, some (.ref x) :: l, .ref x :: st, M) o9 := pj_xs (s90_35)
theorem q90_36 : pj_row 90 36 = some (.getfield 25, 3, 6, 6, 0) := by decide +kernel
theorem s90_36 {L : pj_Loc} {st : List Value} {N S : Nat} {H : pj_Heap} {o : Nat} : pj_step 90 (36, L, .ref o :: st, (N, S, H)) = pj_pv 39 L st (N, S, H) (pj_fld (H o) 6 6) := st_getfield q90_36
theorem x90_36 {L : pj_Loc} {st : List Value} {N S : Nat} {H : pj_Heap} {o : Nat} {o9 : Option Value × pj_Mem} : pj_Ends 90 (36, L, .ref o :: st, (N, S, H)) o9 = pj_then 90 o9 (pj_pv 39 L st (N, S, H) (pj_fld (H o) 6 6)) := pj_xt q90_36 rfl (pj_cl_nc rfl) (s90_36)
theorem q90_39 : pj_row 90 39 = some (.iload_n 2, 1, 0, 0, 0) := by decide +kernel
theorem s90_39 {st : List Value} {M : pj_Mem} {l : pj_Loc} {a0 a1 : Option Value} {x : Int32} : pj_step 90 (39, a0 :: a1 :: some (.int x) :: l, st, M) = some (40, a0 :: a1 :: some (.int x) :: l, .int x :: st, M) := st_iload_n q90_39 rfl
theorem x90_39 {st : List Value} {M : pj_Mem} {l : pj_Loc} {a0 a1 : Option Value} {x : Int32} {o9 : Option Value × pj_Mem} : pj_Ends 90 (39, a0 :: a1 :: some (.int x) :: l, st, M) o9 = pj_Ends 90 (40, a0 :: a1 :: some (.int x) :: l, .int x :: st, M) o9 := pj_xs (s90_39)
theorem q90_40 : pj_row 90 40 = some (.iaload, 1, 0, 0, 0) := by decide +kernel
theorem s90_40 {L : pj_Loc} {st : List Value} {N S : Nat} {H : pj_Heap} {o : Nat} {i : Int32} : pj_step 90 (40, L, .int i :: .ref o :: st, (N, S, H)) = pj_pi 41 L st (N, S, H) (pj_arl (H o) 0 i) := st_iaload q90_40
theorem x90_40 {L : pj_Loc} {st : List Value} {N S : Nat} {H : pj_Heap} {o : Nat} {i : Int32} {o9 : Option Value × pj_Mem} : pj_Ends 90 (40, L, .int i :: .ref o :: st, (N, S, H)) o9 = pj_then 90 o9 (pj_pi 41 L st (N, S, H) (pj_arl (H o) 0 i)) := pj_xt q90_40 rfl (pj_cl_nc rfl) (s90_40)
theorem q90_41 : pj_row 90 41 = some (.aload_n 0, 1, 0, 0, 0) := by decide +kernel
theorem s90_41 {st : List Value} {M : pj_Mem} {l : pj_Loc} {x : Nat} : pj_step 90 (41, some (.ref x) :: l, st, M) = some (42, some (.ref x) :: l, .ref x :: st, M) := st_aload_n q90_41 rfl
theorem x90_41 {st : List Value} {M : pj_Mem} {l : pj_Loc} {x : Nat} {o9 : Option Value × pj_Mem} : pj_Ends 90 (41, some (.ref x) :: l, st, M) o9 = pj_Ends 90 (42, some (.ref x) :: l, .ref x :: st, M) o9 := pj_xs (s90_41)
theorem q90_42 : pj_row 90 42 = some (.getfield 7, 3, 6, 0, 0) := by decide +kernel
theorem s90_42 {L : pj_Loc} {st : List Value} {N S : Nat} {H : pj_Heap} {o : Nat} : pj_step 90 (42, L, .ref o :: st, (N, S, H)) = pj_pv 45 L st (N, S, H) (pj_fld (H o) 6 0) := st_getfield q90_42
theorem x90_42 {L : pj_Loc} {st : List Value} {N S : Nat} {H : pj_Heap} {o : Nat} {o9 : Option Value × pj_Mem} : pj_Ends 90 (42, L, .ref o :: st, (N, S, H)) o9 = pj_then 90 o9 (pj_pv 45 L st (N, S, H) (pj_fld (H o) 6 0)) := pj_xt q90_42 rfl (pj_cl_nc rfl) (s90_42)
theorem q90_45 : pj_row 90 45 = some (.bipush 8, 2, 0, 0, 0) := by decide +kernel
theorem s90_45 {L : pj_Loc} {st : List Value} {M : pj_Mem}  : pj_step 90 (45, L, st, M) = some (47, L, .int 8 :: st, M) := st_bipush q90_45 (by decide +kernel)
theorem x90_45 {L : pj_Loc} {st : List Value} {M : pj_Mem}  {o9 : Option Value × pj_Mem} : pj_Ends 90 (45, L, st, M) o9 = pj_Ends 90 (47, L, .int 8 :: st, M) o9 := pj_xs (s90_45)
theorem q90_47 : pj_row 90 47 = some (.iload_n 2, 1, 0, 0, 0) := by decide +kernel
theorem s90_47 {st : List Value} {M : pj_Mem} {l : pj_Loc} {a0 a1 : Option Value} {x : Int32} : pj_step 90 (47, a0 :: a1 :: some (.int x) :: l, st, M) = some (48, a0 :: a1 :: some (.int x) :: l, .int x :: st, M) := st_iload_n q90_47 rfl
theorem x90_47 {st : List Value} {M : pj_Mem} {l : pj_Loc} {a0 a1 : Option Value} {x : Int32} {o9 : Option Value × pj_Mem} : pj_Ends 90 (47, a0 :: a1 :: some (.int x) :: l, st, M) o9 = pj_Ends 90 (48, a0 :: a1 :: some (.int x) :: l, .int x :: st, M) o9 := pj_xs (s90_47)
theorem q90_48 : pj_row 90 48 = some (.iadd, 1, 0, 0, 0) := by decide +kernel
theorem s90_48 {L : pj_Loc} {st : List Value} {M : pj_Mem} {x y : Int32} : pj_step 90 (48, L, .int y :: .int x :: st, M) = some (49, L, .int (x + y) :: st, M) := st_iadd q90_48
theorem x90_48 {L : pj_Loc} {st : List Value} {M : pj_Mem} {x y : Int32} {o9 : Option Value × pj_Mem} : pj_Ends 90 (48, L, .int y :: .int x :: st, M) o9 = pj_Ends 90 (49, L, .int (x + y) :: st, M) o9 := pj_xs (s90_48)
theorem q90_49 : pj_row 90 49 = some (.iaload, 1, 0, 0, 0) := by decide +kernel
theorem s90_49 {L : pj_Loc} {st : List Value} {N S : Nat} {H : pj_Heap} {o : Nat} {i : Int32} : pj_step 90 (49, L, .int i :: .ref o :: st, (N, S, H)) = pj_pi 50 L st (N, S, H) (pj_arl (H o) 0 i) := st_iaload q90_49
theorem x90_49 {L : pj_Loc} {st : List Value} {N S : Nat} {H : pj_Heap} {o : Nat} {i : Int32} {o9 : Option Value × pj_Mem} : pj_Ends 90 (49, L, .int i :: .ref o :: st, (N, S, H)) o9 = pj_then 90 o9 (pj_pi 50 L st (N, S, H) (pj_arl (H o) 0 i)) := pj_xt q90_49 rfl (pj_cl_nc rfl) (s90_49)
theorem q90_50 : pj_row 90 50 = some (.isub, 1, 0, 0, 0) := by decide +kernel
theorem s90_50 {L : pj_Loc} {st : List Value} {M : pj_Mem} {x y : Int32} : pj_step 90 (50, L, .int y :: .int x :: st, M) = some (51, L, .int (x - y) :: st, M) := st_isub q90_50
theorem x90_50 {L : pj_Loc} {st : List Value} {M : pj_Mem} {x y : Int32} {o9 : Option Value × pj_Mem} : pj_Ends 90 (50, L, .int y :: .int x :: st, M) o9 = pj_Ends 90 (51, L, .int (x - y) :: st, M) o9 := pj_xs (s90_50)
theorem q90_51 : pj_row 90 51 = some (.istore_n 3, 1, 0, 0, 0) := by decide +kernel
theorem s90_51 {st : List Value} {M : pj_Mem} {l : pj_Loc} {a0 a1 a2 a3 : Option Value} {x : Int32} (h : pj_long a2 = false) : pj_step 90 (51, a0 :: a1 :: a2 :: a3 :: l, .int x :: st, M) = some (52, a0 :: a1 :: a2 :: some (.int x) :: l, st, M) := st_istore_n q90_51 (pj_st_3 h)
theorem x90_51 {st : List Value} {M : pj_Mem} {l : pj_Loc} {a0 a1 a2 a3 : Option Value} {x : Int32} (h : pj_long a2 = false) {o9 : Option Value × pj_Mem} : pj_Ends 90 (51, a0 :: a1 :: a2 :: a3 :: l, .int x :: st, M) o9 = pj_Ends 90 (52, a0 :: a1 :: a2 :: some (.int x) :: l, st, M) o9 := pj_xs (s90_51 h)
theorem q90_52 : pj_row 90 52 = some (.aload_n 0, 1, 0, 0, 0) := by decide +kernel
theorem s90_52 {st : List Value} {M : pj_Mem} {l : pj_Loc} {x : Nat} : pj_step 90 (52, some (.ref x) :: l, st, M) = some (53, some (.ref x) :: l, .ref x :: st, M) := st_aload_n q90_52 rfl
theorem x90_52 {st : List Value} {M : pj_Mem} {l : pj_Loc} {x : Nat} {o9 : Option Value × pj_Mem} : pj_Ends 90 (52, some (.ref x) :: l, st, M) o9 = pj_Ends 90 (53, some (.ref x) :: l, .ref x :: st, M) o9 := pj_xs (s90_52)
theorem q90_53 : pj_row 90 53 = some (.getfield 7, 3, 6, 0, 0) := by decide +kernel
theorem s90_53 {L : pj_Loc} {st : List Value} {N S : Nat} {H : pj_Heap} {o : Nat} : pj_step 90 (53, L, .ref o :: st, (N, S, H)) = pj_pv 56 L st (N, S, H) (pj_fld (H o) 6 0) := st_getfield q90_53
theorem x90_53 {L : pj_Loc} {st : List Value} {N S : Nat} {H : pj_Heap} {o : Nat} {o9 : Option Value × pj_Mem} : pj_Ends 90 (53, L, .ref o :: st, (N, S, H)) o9 = pj_then 90 o9 (pj_pv 56 L st (N, S, H) (pj_fld (H o) 6 0)) := pj_xt q90_53 rfl (pj_cl_nc rfl) (s90_53)
theorem q90_56 : pj_row 90 56 = some (.bipush 8, 2, 0, 0, 0) := by decide +kernel
theorem s90_56 {L : pj_Loc} {st : List Value} {M : pj_Mem}  : pj_step 90 (56, L, st, M) = some (58, L, .int 8 :: st, M) := st_bipush q90_56 (by decide +kernel)
theorem x90_56 {L : pj_Loc} {st : List Value} {M : pj_Mem}  {o9 : Option Value × pj_Mem} : pj_Ends 90 (56, L, st, M) o9 = pj_Ends 90 (58, L, .int 8 :: st, M) o9 := pj_xs (s90_56)
theorem q90_58 : pj_row 90 58 = some (.iload_n 2, 1, 0, 0, 0) := by decide +kernel
theorem s90_58 {st : List Value} {M : pj_Mem} {l : pj_Loc} {a0 a1 : Option Value} {x : Int32} : pj_step 90 (58, a0 :: a1 :: some (.int x) :: l, st, M) = some (59, a0 :: a1 :: some (.int x) :: l, .int x :: st, M) := st_iload_n q90_58 rfl
theorem x90_58 {st : List Value} {M : pj_Mem} {l : pj_Loc} {a0 a1 : Option Value} {x : Int32} {o9 : Option Value × pj_Mem} : pj_Ends 90 (58, a0 :: a1 :: some (.int x) :: l, st, M) o9 = pj_Ends 90 (59, a0 :: a1 :: some (.int x) :: l, .int x :: st, M) o9 := pj_xs (s90_58)
theorem q90_59 : pj_row 90 59 = some (.iadd, 1, 0, 0, 0) := by decide +kernel
theorem s90_59 {L : pj_Loc} {st : List Value} {M : pj_Mem} {x y : Int32} : pj_step 90 (59, L, .int y :: .int x :: st, M) = some (60, L, .int (x + y) :: st, M) := st_iadd q90_59
theorem x90_59 {L : pj_Loc} {st : List Value} {M : pj_Mem} {x y : Int32} {o9 : Option Value × pj_Mem} : pj_Ends 90 (59, L, .int y :: .int x :: st, M) o9 = pj_Ends 90 (60, L, .int (x + y) :: st, M) o9 := pj_xs (s90_59)
theorem q90_60 : pj_row 90 60 = some (.dup2, 1, 0, 0, 0) := by decide +kernel
theorem s90_60 {L : pj_Loc} {st : List Value} {M : pj_Mem} {x : Int32} {o : Nat} : pj_step 90 (60, L, .int x :: .ref o :: st, M) = some (61, L, .int x :: .ref o :: .int x :: .ref o :: st, M) := st_dup2 q90_60
theorem x90_60 {L : pj_Loc} {st : List Value} {M : pj_Mem} {x : Int32} {o : Nat} {o9 : Option Value × pj_Mem} : pj_Ends 90 (60, L, .int x :: .ref o :: st, M) o9 = pj_Ends 90 (61, L, .int x :: .ref o :: .int x :: .ref o :: st, M) o9 := pj_xs (s90_60)
theorem q90_61 : pj_row 90 61 = some (.iaload, 1, 0, 0, 0) := by decide +kernel
theorem s90_61 {L : pj_Loc} {st : List Value} {N S : Nat} {H : pj_Heap} {o : Nat} {i : Int32} : pj_step 90 (61, L, .int i :: .ref o :: st, (N, S, H)) = pj_pi 62 L st (N, S, H) (pj_arl (H o) 0 i) := st_iaload q90_61
theorem x90_61 {L : pj_Loc} {st : List Value} {N S : Nat} {H : pj_Heap} {o : Nat} {i : Int32} {o9 : Option Value × pj_Mem} : pj_Ends 90 (61, L, .int i :: .ref o :: st, (N, S, H)) o9 = pj_then 90 o9 (pj_pi 62 L st (N, S, H) (pj_arl (H o) 0 i)) := pj_xt q90_61 rfl (pj_cl_nc rfl) (s90_61)
theorem q90_62 : pj_row 90 62 = some (.iload_n 3, 1, 0, 0, 0) := by decide +kernel
theorem s90_62 {st : List Value} {M : pj_Mem} {l : pj_Loc} {a0 a1 a2 : Option Value} {x : Int32} : pj_step 90 (62, a0 :: a1 :: a2 :: some (.int x) :: l, st, M) = some (63, a0 :: a1 :: a2 :: some (.int x) :: l, .int x :: st, M) := st_iload_n q90_62 rfl
theorem x90_62 {st : List Value} {M : pj_Mem} {l : pj_Loc} {a0 a1 a2 : Option Value} {x : Int32} {o9 : Option Value × pj_Mem} : pj_Ends 90 (62, a0 :: a1 :: a2 :: some (.int x) :: l, st, M) o9 = pj_Ends 90 (63, a0 :: a1 :: a2 :: some (.int x) :: l, .int x :: st, M) o9 := pj_xs (s90_62)
theorem q90_63 : pj_row 90 63 = some (.ifCond .le 7, 3, 70, 0, 0) := by decide +kernel
theorem s90_63 {L : pj_Loc} {st : List Value} {M : pj_Mem} {x : Int32} : pj_step 90 (63, L, .int x :: st, M) = some (if x ≤ 0 then 70 else 66, L, st, M) := st_if_le q90_63
theorem x90_63 {L : pj_Loc} {st : List Value} {M : pj_Mem} {x : Int32} {o9 : Option Value × pj_Mem} : pj_Ends 90 (63, L, .int x :: st, M) o9 = pj_Ends 90 (if x ≤ 0 then 70 else 66, L, st, M) o9 := pj_xs (s90_63)
theorem q90_66 : pj_row 90 66 = some (.iconst 1, 1, 0, 0, 0) := by decide +kernel
theorem s90_66 {L : pj_Loc} {st : List Value} {M : pj_Mem}  : pj_step 90 (66, L, st, M) = some (67, L, .int 1 :: st, M) := st_iconst q90_66 (by decide +kernel)
theorem x90_66 {L : pj_Loc} {st : List Value} {M : pj_Mem}  {o9 : Option Value × pj_Mem} : pj_Ends 90 (66, L, st, M) o9 = pj_Ends 90 (67, L, .int 1 :: st, M) o9 := pj_xs (s90_66)
theorem q90_67 : pj_row 90 67 = some (.goto 12, 3, 79, 0, 0) := by decide +kernel
theorem s90_67 {L : pj_Loc} {st : List Value} {M : pj_Mem}  : pj_step 90 (67, L, st, M) = some (79, L, st, M) := st_goto q90_67
theorem x90_67 {L : pj_Loc} {st : List Value} {M : pj_Mem}  {o9 : Option Value × pj_Mem} : pj_Ends 90 (67, L, st, M) o9 = pj_Ends 90 (79, L, st, M) o9 := pj_xs (s90_67)
theorem q90_70 : pj_row 90 70 = some (.iload_n 3, 1, 0, 0, 0) := by decide +kernel
theorem s90_70 {st : List Value} {M : pj_Mem} {l : pj_Loc} {a0 a1 a2 : Option Value} {x : Int32} : pj_step 90 (70, a0 :: a1 :: a2 :: some (.int x) :: l, st, M) = some (71, a0 :: a1 :: a2 :: some (.int x) :: l, .int x :: st, M) := st_iload_n q90_70 rfl
theorem x90_70 {st : List Value} {M : pj_Mem} {l : pj_Loc} {a0 a1 a2 : Option Value} {x : Int32} {o9 : Option Value × pj_Mem} : pj_Ends 90 (70, a0 :: a1 :: a2 :: some (.int x) :: l, st, M) o9 = pj_Ends 90 (71, a0 :: a1 :: a2 :: some (.int x) :: l, .int x :: st, M) o9 := pj_xs (s90_70)
theorem q90_71 : pj_row 90 71 = some (.ifCond .ge 7, 3, 78, 0, 0) := by decide +kernel
theorem s90_71 {L : pj_Loc} {st : List Value} {M : pj_Mem} {x : Int32} : pj_step 90 (71, L, .int x :: st, M) = some (if 0 ≤ x then 78 else 74, L, st, M) := st_if_ge q90_71
theorem x90_71 {L : pj_Loc} {st : List Value} {M : pj_Mem} {x : Int32} {o9 : Option Value × pj_Mem} : pj_Ends 90 (71, L, .int x :: st, M) o9 = pj_Ends 90 (if 0 ≤ x then 78 else 74, L, st, M) o9 := pj_xs (s90_71)
theorem q90_74 : pj_row 90 74 = some (.iconst (-1), 1, 0, 0, 0) := by decide +kernel
theorem s90_74 {L : pj_Loc} {st : List Value} {M : pj_Mem}  : pj_step 90 (74, L, st, M) = some (75, L, .int (-1) :: st, M) := st_iconst q90_74 (by decide +kernel)
theorem x90_74 {L : pj_Loc} {st : List Value} {M : pj_Mem}  {o9 : Option Value × pj_Mem} : pj_Ends 90 (74, L, st, M) o9 = pj_Ends 90 (75, L, .int (-1) :: st, M) o9 := pj_xs (s90_74)
theorem q90_75 : pj_row 90 75 = some (.goto 4, 3, 79, 0, 0) := by decide +kernel
theorem s90_75 {L : pj_Loc} {st : List Value} {M : pj_Mem}  : pj_step 90 (75, L, st, M) = some (79, L, st, M) := st_goto q90_75
theorem x90_75 {L : pj_Loc} {st : List Value} {M : pj_Mem}  {o9 : Option Value × pj_Mem} : pj_Ends 90 (75, L, st, M) o9 = pj_Ends 90 (79, L, st, M) o9 := pj_xs (s90_75)
theorem q90_78 : pj_row 90 78 = some (.iconst 0, 1, 0, 0, 0) := by decide +kernel
theorem s90_78 {L : pj_Loc} {st : List Value} {M : pj_Mem}  : pj_step 90 (78, L, st, M) = some (79, L, .int 0 :: st, M) := st_iconst q90_78 (by decide +kernel)
theorem x90_78 {L : pj_Loc} {st : List Value} {M : pj_Mem}  {o9 : Option Value × pj_Mem} : pj_Ends 90 (78, L, st, M) o9 = pj_Ends 90 (79, L, .int 0 :: st, M) o9 := pj_xs (s90_78)
theorem q90_79 : pj_row 90 79 = some (.iadd, 1, 0, 0, 0) := by decide +kernel
theorem s90_79 {L : pj_Loc} {st : List Value} {M : pj_Mem} {x y : Int32} : pj_step 90 (79, L, .int y :: .int x :: st, M) = some (80, L, .int (x + y) :: st, M) := st_iadd q90_79
theorem x90_79 {L : pj_Loc} {st : List Value} {M : pj_Mem} {x y : Int32} {o9 : Option Value × pj_Mem} : pj_Ends 90 (79, L, .int y :: .int x :: st, M) o9 = pj_Ends 90 (80, L, .int (x + y) :: st, M) o9 := pj_xs (s90_79)
theorem q90_80 : pj_row 90 80 = some (.iastore, 1, 0, 0, 0) := by decide +kernel
theorem s90_80 {L : pj_Loc} {st : List Value} {N S : Nat} {H : pj_Heap} {o : Nat} {i x : Int32} : pj_step 90 (80, L, .int x :: .int i :: .ref o :: st, (N, S, H)) = pj_set 81 L st (N, S, H) o (pj_ars (H o) 0 i x) := st_iastore q90_80
theorem x90_80 {L : pj_Loc} {st : List Value} {N S : Nat} {H : pj_Heap} {o : Nat} {i x : Int32} {o9 : Option Value × pj_Mem} : pj_Ends 90 (80, L, .int x :: .int i :: .ref o :: st, (N, S, H)) o9 = pj_then 90 o9 (pj_set 81 L st (N, S, H) o (pj_ars (H o) 0 i x)) := pj_xt q90_80 rfl (pj_cl_nc rfl) (s90_80)
theorem q90_81 : pj_row 90 81 = some (.iinc 2 1, 3, 0, 0, 0) := by decide +kernel
theorem s90_81 {st : List Value} {M : pj_Mem} {l : pj_Loc} {a0 a1 : Option Value} {x : Int32} (h : pj_long a1 = false) : pj_step 90 (81, a0 :: a1 :: some (.int x) :: l, st, M) = some (84, a0 :: a1 :: some (.int (x + 1)) :: l, st, M) := st_iinc q90_81 rfl (congrArg (fun y => x + y) (show Int32.ofInt 1 = 1 by decide +kernel)) (pj_st_2 h)
theorem x90_81 {st : List Value} {M : pj_Mem} {l : pj_Loc} {a0 a1 : Option Value} {x : Int32} (h : pj_long a1 = false) {o9 : Option Value × pj_Mem} : pj_Ends 90 (81, a0 :: a1 :: some (.int x) :: l, st, M) o9 = pj_Ends 90 (84, a0 :: a1 :: some (.int (x + 1)) :: l, st, M) o9 := pj_xs (s90_81 h)
theorem q90_84 : pj_row 90 84 = some (.goto (-82), 3, 2, 0, 0) := by decide +kernel
theorem s90_84 {L : pj_Loc} {st : List Value} {M : pj_Mem}  : pj_step 90 (84, L, st, M) = some (2, L, st, M) := st_goto q90_84
theorem x90_84 {L : pj_Loc} {st : List Value} {M : pj_Mem}  {o9 : Option Value × pj_Mem} : pj_Ends 90 (84, L, st, M) o9 = pj_Ends 90 (2, L, st, M) o9 := pj_xs (s90_84)
theorem q90_87 : pj_row 90 87 = some (.return_, 1, 0, 0, 0) := by decide +kernel
theorem t90_87 {L : pj_Loc} {M : pj_Mem} : pj_Ends 90 (87, L, [], M) (none, M) := pj_Ends.ret q90_87 (pj_rtn_v rt90)
theorem rt91 : pj_rt 91 = none := rfl
theorem q91_0 : pj_row 91 0 = some (.iconst 0, 1, 0, 0, 0) := by decide +kernel
theorem s91_0 {L : pj_Loc} {st : List Value} {M : pj_Mem}  : pj_step 91 (0, L, st, M) = some (1, L, .int 0 :: st, M) := st_iconst q91_0 (by decide +kernel)
theorem x91_0 {L : pj_Loc} {st : List Value} {M : pj_Mem}  {o9 : Option Value × pj_Mem} : pj_Ends 91 (0, L, st, M) o9 = pj_Ends 91 (1, L, .int 0 :: st, M) o9 := pj_xs (s91_0)
theorem q91_1 : pj_row 91 1 = some (.istore_n 1, 1, 0, 0, 0) := by decide +kernel
theorem s91_1 {st : List Value} {M : pj_Mem} {l : pj_Loc} {a0 a1 : Option Value} {x : Int32} (h : pj_long a0 = false) : pj_step 91 (1, a0 :: a1 :: l, .int x :: st, M) = some (2, a0 :: some (.int x) :: l, st, M) := st_istore_n q91_1 (pj_st_1 h)
theorem x91_1 {st : List Value} {M : pj_Mem} {l : pj_Loc} {a0 a1 : Option Value} {x : Int32} (h : pj_long a0 = false) {o9 : Option Value × pj_Mem} : pj_Ends 91 (1, a0 :: a1 :: l, .int x :: st, M) o9 = pj_Ends 91 (2, a0 :: some (.int x) :: l, st, M) o9 := pj_xs (s91_1 h)
theorem q91_2 : pj_row 91 2 = some (.iload_n 1, 1, 0, 0, 0) := by decide +kernel
theorem s91_2 {st : List Value} {M : pj_Mem} {l : pj_Loc} {a0 : Option Value} {x : Int32} : pj_step 91 (2, a0 :: some (.int x) :: l, st, M) = some (3, a0 :: some (.int x) :: l, .int x :: st, M) := st_iload_n q91_2 rfl
theorem x91_2 {st : List Value} {M : pj_Mem} {l : pj_Loc} {a0 : Option Value} {x : Int32} {o9 : Option Value × pj_Mem} : pj_Ends 91 (2, a0 :: some (.int x) :: l, st, M) o9 = pj_Ends 91 (3, a0 :: some (.int x) :: l, .int x :: st, M) o9 := pj_xs (s91_2)
theorem q91_3 : pj_row 91 3 = some (.iconst 3, 1, 0, 0, 0) := by decide +kernel
theorem s91_3 {L : pj_Loc} {st : List Value} {M : pj_Mem}  : pj_step 91 (3, L, st, M) = some (4, L, .int 3 :: st, M) := st_iconst q91_3 (by decide +kernel)
theorem x91_3 {L : pj_Loc} {st : List Value} {M : pj_Mem}  {o9 : Option Value × pj_Mem} : pj_Ends 91 (3, L, st, M) o9 = pj_Ends 91 (4, L, .int 3 :: st, M) o9 := pj_xs (s91_3)
theorem q91_4 : pj_row 91 4 = some (.if_icmp .ge 57, 3, 61, 0, 0) := by decide +kernel
theorem s91_4 {L : pj_Loc} {st : List Value} {M : pj_Mem} {x y : Int32} : pj_step 91 (4, L, .int y :: .int x :: st, M) = some (if y ≤ x then 61 else 7, L, st, M) := st_icmp_ge q91_4
theorem x91_4 {L : pj_Loc} {st : List Value} {M : pj_Mem} {x y : Int32} {o9 : Option Value × pj_Mem} : pj_Ends 91 (4, L, .int y :: .int x :: st, M) o9 = pj_Ends 91 (if y ≤ x then 61 else 7, L, st, M) o9 := pj_xs (s91_4)
theorem q91_7 : pj_row 91 7 = some (.aload_n 0, 1, 0, 0, 0) := by decide +kernel
theorem s91_7 {st : List Value} {M : pj_Mem} {l : pj_Loc} {x : Nat} : pj_step 91 (7, some (.ref x) :: l, st, M) = some (8, some (.ref x) :: l, .ref x :: st, M) := st_aload_n q91_7 rfl
theorem x91_7 {st : List Value} {M : pj_Mem} {l : pj_Loc} {x : Nat} {o9 : Option Value × pj_Mem} : pj_Ends 91 (7, some (.ref x) :: l, st, M) o9 = pj_Ends 91 (8, some (.ref x) :: l, .ref x :: st, M) o9 := pj_xs (s91_7)
theorem q91_8 : pj_row 91 8 = some (.getfield 7, 3, 6, 0, 0) := by decide +kernel
theorem s91_8 {L : pj_Loc} {st : List Value} {N S : Nat} {H : pj_Heap} {o : Nat} : pj_step 91 (8, L, .ref o :: st, (N, S, H)) = pj_pv 11 L st (N, S, H) (pj_fld (H o) 6 0) := st_getfield q91_8
theorem x91_8 {L : pj_Loc} {st : List Value} {N S : Nat} {H : pj_Heap} {o : Nat} {o9 : Option Value × pj_Mem} : pj_Ends 91 (8, L, .ref o :: st, (N, S, H)) o9 = pj_then 91 o9 (pj_pv 11 L st (N, S, H) (pj_fld (H o) 6 0)) := pj_xt q91_8 rfl (pj_cl_nc rfl) (s91_8)
theorem q91_11 : pj_row 91 11 = some (.bipush 11, 2, 0, 0, 0) := by decide +kernel
theorem s91_11 {L : pj_Loc} {st : List Value} {M : pj_Mem}  : pj_step 91 (11, L, st, M) = some (13, L, .int 11 :: st, M) := st_bipush q91_11 (by decide +kernel)
theorem x91_11 {L : pj_Loc} {st : List Value} {M : pj_Mem}  {o9 : Option Value × pj_Mem} : pj_Ends 91 (11, L, st, M) o9 = pj_Ends 91 (13, L, .int 11 :: st, M) o9 := pj_xs (s91_11)
theorem q91_13 : pj_row 91 13 = some (.iload_n 1, 1, 0, 0, 0) := by decide +kernel
theorem s91_13 {st : List Value} {M : pj_Mem} {l : pj_Loc} {a0 : Option Value} {x : Int32} : pj_step 91 (13, a0 :: some (.int x) :: l, st, M) = some (14, a0 :: some (.int x) :: l, .int x :: st, M) := st_iload_n q91_13 rfl
theorem x91_13 {st : List Value} {M : pj_Mem} {l : pj_Loc} {a0 : Option Value} {x : Int32} {o9 : Option Value × pj_Mem} : pj_Ends 91 (13, a0 :: some (.int x) :: l, st, M) o9 = pj_Ends 91 (14, a0 :: some (.int x) :: l, .int x :: st, M) o9 := pj_xs (s91_13)
theorem q91_14 : pj_row 91 14 = some (.iadd, 1, 0, 0, 0) := by decide +kernel
theorem s91_14 {L : pj_Loc} {st : List Value} {M : pj_Mem} {x y : Int32} : pj_step 91 (14, L, .int y :: .int x :: st, M) = some (15, L, .int (x + y) :: st, M) := st_iadd q91_14
theorem x91_14 {L : pj_Loc} {st : List Value} {M : pj_Mem} {x y : Int32} {o9 : Option Value × pj_Mem} : pj_Ends 91 (14, L, .int y :: .int x :: st, M) o9 = pj_Ends 91 (15, L, .int (x + y) :: st, M) o9 := pj_xs (s91_14)
theorem q91_15 : pj_row 91 15 = some (.aload_n 0, 1, 0, 0, 0) := by decide +kernel
theorem s91_15 {st : List Value} {M : pj_Mem} {l : pj_Loc} {x : Nat} : pj_step 91 (15, some (.ref x) :: l, st, M) = some (16, some (.ref x) :: l, .ref x :: st, M) := st_aload_n q91_15 rfl
theorem x91_15 {st : List Value} {M : pj_Mem} {l : pj_Loc} {x : Nat} {o9 : Option Value × pj_Mem} : pj_Ends 91 (15, some (.ref x) :: l, st, M) o9 = pj_Ends 91 (16, some (.ref x) :: l, .ref x :: st, M) o9 := pj_xs (s91_15)
theorem q91_16 : pj_row 91 16 = some (.getfield 7, 3, 6, 0, 0) := by decide +kernel
theorem s91_16 {L : pj_Loc} {st : List Value} {N S : Nat} {H : pj_Heap} {o : Nat} : pj_step 91 (16, L, .ref o :: st, (N, S, H)) = pj_pv 19 L st (N, S, H) (pj_fld (H o) 6 0) := st_getfield q91_16
theorem x91_16 {L : pj_Loc} {st : List Value} {N S : Nat} {H : pj_Heap} {o : Nat} {o9 : Option Value × pj_Mem} : pj_Ends 91 (16, L, .ref o :: st, (N, S, H)) o9 = pj_then 91 o9 (pj_pv 19 L st (N, S, H) (pj_fld (H o) 6 0)) := pj_xt q91_16 rfl (pj_cl_nc rfl) (s91_16)
theorem q91_19 : pj_row 91 19 = some (.bipush 11, 2, 0, 0, 0) := by decide +kernel
theorem s91_19 {L : pj_Loc} {st : List Value} {M : pj_Mem}  : pj_step 91 (19, L, st, M) = some (21, L, .int 11 :: st, M) := st_bipush q91_19 (by decide +kernel)
theorem x91_19 {L : pj_Loc} {st : List Value} {M : pj_Mem}  {o9 : Option Value × pj_Mem} : pj_Ends 91 (19, L, st, M) o9 = pj_Ends 91 (21, L, .int 11 :: st, M) o9 := pj_xs (s91_19)
theorem q91_21 : pj_row 91 21 = some (.iload_n 1, 1, 0, 0, 0) := by decide +kernel
theorem s91_21 {st : List Value} {M : pj_Mem} {l : pj_Loc} {a0 : Option Value} {x : Int32} : pj_step 91 (21, a0 :: some (.int x) :: l, st, M) = some (22, a0 :: some (.int x) :: l, .int x :: st, M) := st_iload_n q91_21 rfl
theorem x91_21 {st : List Value} {M : pj_Mem} {l : pj_Loc} {a0 : Option Value} {x : Int32} {o9 : Option Value × pj_Mem} : pj_Ends 91 (21, a0 :: some (.int x) :: l, st, M) o9 = pj_Ends 91 (22, a0 :: some (.int x) :: l, .int x :: st, M) o9 := pj_xs (s91_21)
theorem q91_22 : pj_row 91 22 = some (.iadd, 1, 0, 0, 0) := by decide +kernel
theorem s91_22 {L : pj_Loc} {st : List Value} {M : pj_Mem} {x y : Int32} : pj_step 91 (22, L, .int y :: .int x :: st, M) = some (23, L, .int (x + y) :: st, M) := st_iadd q91_22
theorem x91_22 {L : pj_Loc} {st : List Value} {M : pj_Mem} {x y : Int32} {o9 : Option Value × pj_Mem} : pj_Ends 91 (22, L, .int y :: .int x :: st, M) o9 = pj_Ends 91 (23, L, .int (x + y) :: st, M) o9 := pj_xs (s91_22)
theorem q91_23 : pj_row 91 23 = some (.iaload, 1, 0, 0, 0) := by decide +kernel
theorem s91_23 {L : pj_Loc} {st : List Value} {N S : Nat} {H : pj_Heap} {o : Nat} {i : Int32} : pj_step 91 (23, L, .int i :: .ref o :: st, (N, S, H)) = pj_pi 24 L st (N, S, H) (pj_arl (H o) 0 i) := st_iaload q91_23
theorem x91_23 {L : pj_Loc} {st : List Value} {N S : Nat} {H : pj_Heap} {o : Nat} {i : Int32} {o9 : Option Value × pj_Mem} : pj_Ends 91 (23, L, .int i :: .ref o :: st, (N, S, H)) o9 = pj_then 91 o9 (pj_pi 24 L st (N, S, H) (pj_arl (H o) 0 i)) := pj_xt q91_23 rfl (pj_cl_nc rfl) (s91_23)
theorem q91_24 : pj_row 91 24 = some (.bipush 7, 2, 0, 0, 0) := by decide +kernel
theorem s91_24 {L : pj_Loc} {st : List Value} {M : pj_Mem}  : pj_step 91 (24, L, st, M) = some (26, L, .int 7 :: st, M) := st_bipush q91_24 (by decide +kernel)
theorem x91_24 {L : pj_Loc} {st : List Value} {M : pj_Mem}  {o9 : Option Value × pj_Mem} : pj_Ends 91 (24, L, st, M) o9 = pj_Ends 91 (26, L, .int 7 :: st, M) o9 := pj_xs (s91_24)
theorem q91_26 : pj_row 91 26 = some (.imul, 1, 0, 0, 0) := by decide +kernel
theorem s91_26 {L : pj_Loc} {st : List Value} {M : pj_Mem} {x y : Int32} : pj_step 91 (26, L, .int y :: .int x :: st, M) = some (27, L, .int (x * y) :: st, M) := st_imul q91_26
theorem x91_26 {L : pj_Loc} {st : List Value} {M : pj_Mem} {x y : Int32} {o9 : Option Value × pj_Mem} : pj_Ends 91 (26, L, .int y :: .int x :: st, M) o9 = pj_Ends 91 (27, L, .int (x * y) :: st, M) o9 := pj_xs (s91_26)
theorem q91_27 : pj_row 91 27 = some (.bipush 8, 2, 0, 0, 0) := by decide +kernel
theorem s91_27 {L : pj_Loc} {st : List Value} {M : pj_Mem}  : pj_step 91 (27, L, st, M) = some (29, L, .int 8 :: st, M) := st_bipush q91_27 (by decide +kernel)
theorem x91_27 {L : pj_Loc} {st : List Value} {M : pj_Mem}  {o9 : Option Value × pj_Mem} : pj_Ends 91 (27, L, st, M) o9 = pj_Ends 91 (29, L, .int 8 :: st, M) o9 := pj_xs (s91_27)
theorem q91_29 : pj_row 91 29 = some (.idiv, 1, 0, 0, 0) := by decide +kernel
theorem s91_29 {L : pj_Loc} {st : List Value} {M : pj_Mem} {x y : Int32} (hy : ¬ y = 0) : pj_step 91 (29, L, .int y :: .int x :: st, M) = some (30, L, .int (x / y) :: st, M) := st_idiv q91_29 hy
theorem x91_29 {L : pj_Loc} {st : List Value} {M : pj_Mem} {x y : Int32} (hy : ¬ y = 0) {o9 : Option Value × pj_Mem} : pj_Ends 91 (29, L, .int y :: .int x :: st, M) o9 = pj_Ends 91 (30, L, .int (x / y) :: st, M) o9 := pj_xs (s91_29 hy)
theorem q91_30 : pj_row 91 30 = some (.aload_n 0, 1, 0, 0, 0) := by decide +kernel
theorem s91_30 {st : List Value} {M : pj_Mem} {l : pj_Loc} {x : Nat} : pj_step 91 (30, some (.ref x) :: l, st, M) = some (31, some (.ref x) :: l, .ref x :: st, M) := st_aload_n q91_30 rfl
theorem x91_30 {st : List Value} {M : pj_Mem} {l : pj_Loc} {x : Nat} {o9 : Option Value × pj_Mem} : pj_Ends 91 (30, some (.ref x) :: l, st, M) o9 = pj_Ends 91 (31, some (.ref x) :: l, .ref x :: st, M) o9 := pj_xs (s91_30)
theorem q91_31 : pj_row 91 31 = some (.getfield 28, 3, 6, 7, 0) := by decide +kernel
theorem s91_31 {L : pj_Loc} {st : List Value} {N S : Nat} {H : pj_Heap} {o : Nat} : pj_step 91 (31, L, .ref o :: st, (N, S, H)) = pj_pv 34 L st (N, S, H) (pj_fld (H o) 6 7) := st_getfield q91_31
theorem x91_31 {L : pj_Loc} {st : List Value} {N S : Nat} {H : pj_Heap} {o : Nat} {o9 : Option Value × pj_Mem} : pj_Ends 91 (31, L, .ref o :: st, (N, S, H)) o9 = pj_then 91 o9 (pj_pv 34 L st (N, S, H) (pj_fld (H o) 6 7)) := pj_xt q91_31 rfl (pj_cl_nc rfl) (s91_31)
theorem q91_34 : pj_row 91 34 = some (.iload_n 1, 1, 0, 0, 0) := by decide +kernel
theorem s91_34 {st : List Value} {M : pj_Mem} {l : pj_Loc} {a0 : Option Value} {x : Int32} : pj_step 91 (34, a0 :: some (.int x) :: l, st, M) = some (35, a0 :: some (.int x) :: l, .int x :: st, M) := st_iload_n q91_34 rfl
theorem x91_34 {st : List Value} {M : pj_Mem} {l : pj_Loc} {a0 : Option Value} {x : Int32} {o9 : Option Value × pj_Mem} : pj_Ends 91 (34, a0 :: some (.int x) :: l, st, M) o9 = pj_Ends 91 (35, a0 :: some (.int x) :: l, .int x :: st, M) o9 := pj_xs (s91_34)
theorem q91_35 : pj_row 91 35 = some (.iaload, 1, 0, 0, 0) := by decide +kernel
theorem s91_35 {L : pj_Loc} {st : List Value} {N S : Nat} {H : pj_Heap} {o : Nat} {i : Int32} : pj_step 91 (35, L, .int i :: .ref o :: st, (N, S, H)) = pj_pi 36 L st (N, S, H) (pj_arl (H o) 0 i) := st_iaload q91_35
theorem x91_35 {L : pj_Loc} {st : List Value} {N S : Nat} {H : pj_Heap} {o : Nat} {i : Int32} {o9 : Option Value × pj_Mem} : pj_Ends 91 (35, L, .int i :: .ref o :: st, (N, S, H)) o9 = pj_then 91 o9 (pj_pi 36 L st (N, S, H) (pj_arl (H o) 0 i)) := pj_xt q91_35 rfl (pj_cl_nc rfl) (s91_35)
theorem q91_36 : pj_row 91 36 = some (.invokestatic 62, 3, 89, 1, 0) := by decide +kernel
theorem e91_36 {L : pj_Loc} {st : List Value} {N S : Nat} {H : pj_Heap} {o : Option Value × pj_Mem} {M' : pj_Mem} {x0 : Int32} {r : Int32} (h4 : pj_le4 st = true) (h1 : pj_Ends 89 (0, [some (.int x0)], [], (N, S, H)) (some (.int r), M')) (h2 : pj_Ends 91 (39, L, .int r :: st, M') o) : pj_Ends 91 (36, L, .int x0 :: st, (N, S, H)) o := ec_s1 q91_36 (Or.inl rfl) h4 rfl h1 h2
theorem q91_39 : pj_row 91 39 = some (.iconst 4, 1, 0, 0, 0) := by decide +kernel
theorem s91_39 {L : pj_Loc} {st : List Value} {M : pj_Mem}  : pj_step 91 (39, L, st, M) = some (40, L, .int 4 :: st, M) := st_iconst q91_39 (by decide +kernel)
theorem x91_39 {L : pj_Loc} {st : List Value} {M : pj_Mem}  {o9 : Option Value × pj_Mem} : pj_Ends 91 (39, L, st, M) o9 = pj_Ends 91 (40, L, .int 4 :: st, M) o9 := pj_xs (s91_39)
theorem q91_40 : pj_row 91 40 = some (.if_icmp .le 12, 3, 52, 0, 0) := by decide +kernel
theorem s91_40 {L : pj_Loc} {st : List Value} {M : pj_Mem} {x y : Int32} : pj_step 91 (40, L, .int y :: .int x :: st, M) = some (if x ≤ y then 52 else 43, L, st, M) := st_icmp_le q91_40
theorem x91_40 {L : pj_Loc} {st : List Value} {M : pj_Mem} {x y : Int32} {o9 : Option Value × pj_Mem} : pj_Ends 91 (40, L, .int y :: .int x :: st, M) o9 = pj_Ends 91 (if x ≤ y then 52 else 43, L, st, M) o9 := pj_xs (s91_40)
theorem q91_43 : pj_row 91 43 = some (.aload_n 0, 1, 0, 0, 0) := by decide +kernel
theorem s91_43 {st : List Value} {M : pj_Mem} {l : pj_Loc} {x : Nat} : pj_step 91 (43, some (.ref x) :: l, st, M) = some (44, some (.ref x) :: l, .ref x :: st, M) := st_aload_n q91_43 rfl
theorem x91_43 {st : List Value} {M : pj_Mem} {l : pj_Loc} {x : Nat} {o9 : Option Value × pj_Mem} : pj_Ends 91 (43, some (.ref x) :: l, st, M) o9 = pj_Ends 91 (44, some (.ref x) :: l, .ref x :: st, M) o9 := pj_xs (s91_43)
theorem q91_44 : pj_row 91 44 = some (.getfield 28, 3, 6, 7, 0) := by decide +kernel
theorem s91_44 {L : pj_Loc} {st : List Value} {N S : Nat} {H : pj_Heap} {o : Nat} : pj_step 91 (44, L, .ref o :: st, (N, S, H)) = pj_pv 47 L st (N, S, H) (pj_fld (H o) 6 7) := st_getfield q91_44
theorem x91_44 {L : pj_Loc} {st : List Value} {N S : Nat} {H : pj_Heap} {o : Nat} {o9 : Option Value × pj_Mem} : pj_Ends 91 (44, L, .ref o :: st, (N, S, H)) o9 = pj_then 91 o9 (pj_pv 47 L st (N, S, H) (pj_fld (H o) 6 7)) := pj_xt q91_44 rfl (pj_cl_nc rfl) (s91_44)
theorem q91_47 : pj_row 91 47 = some (.iload_n 1, 1, 0, 0, 0) := by decide +kernel
theorem s91_47 {st : List Value} {M : pj_Mem} {l : pj_Loc} {a0 : Option Value} {x : Int32} : pj_step 91 (47, a0 :: some (.int x) :: l, st, M) = some (48, a0 :: some (.int x) :: l, .int x :: st, M) := st_iload_n q91_47 rfl
theorem x91_47 {st : List Value} {M : pj_Mem} {l : pj_Loc} {a0 : Option Value} {x : Int32} {o9 : Option Value × pj_Mem} : pj_Ends 91 (47, a0 :: some (.int x) :: l, st, M) o9 = pj_Ends 91 (48, a0 :: some (.int x) :: l, .int x :: st, M) o9 := pj_xs (s91_47)
theorem q91_48 : pj_row 91 48 = some (.iaload, 1, 0, 0, 0) := by decide +kernel
theorem s91_48 {L : pj_Loc} {st : List Value} {N S : Nat} {H : pj_Heap} {o : Nat} {i : Int32} : pj_step 91 (48, L, .int i :: .ref o :: st, (N, S, H)) = pj_pi 49 L st (N, S, H) (pj_arl (H o) 0 i) := st_iaload q91_48
theorem x91_48 {L : pj_Loc} {st : List Value} {N S : Nat} {H : pj_Heap} {o : Nat} {i : Int32} {o9 : Option Value × pj_Mem} : pj_Ends 91 (48, L, .int i :: .ref o :: st, (N, S, H)) o9 = pj_then 91 o9 (pj_pi 49 L st (N, S, H) (pj_arl (H o) 0 i)) := pj_xt q91_48 rfl (pj_cl_nc rfl) (s91_48)
theorem q91_49 : pj_row 91 49 = some (.goto 4, 3, 53, 0, 0) := by decide +kernel
theorem s91_49 {L : pj_Loc} {st : List Value} {M : pj_Mem}  : pj_step 91 (49, L, st, M) = some (53, L, st, M) := st_goto q91_49
theorem x91_49 {L : pj_Loc} {st : List Value} {M : pj_Mem}  {o9 : Option Value × pj_Mem} : pj_Ends 91 (49, L, st, M) o9 = pj_Ends 91 (53, L, st, M) o9 := pj_xs (s91_49)
theorem q91_52 : pj_row 91 52 = some (.iconst 0, 1, 0, 0, 0) := by decide +kernel
theorem s91_52 {L : pj_Loc} {st : List Value} {M : pj_Mem}  : pj_step 91 (52, L, st, M) = some (53, L, .int 0 :: st, M) := st_iconst q91_52 (by decide +kernel)
theorem x91_52 {L : pj_Loc} {st : List Value} {M : pj_Mem}  {o9 : Option Value × pj_Mem} : pj_Ends 91 (52, L, st, M) o9 = pj_Ends 91 (53, L, .int 0 :: st, M) o9 := pj_xs (s91_52)
theorem q91_53 : pj_row 91 53 = some (.iadd, 1, 0, 0, 0) := by decide +kernel
theorem s91_53 {L : pj_Loc} {st : List Value} {M : pj_Mem} {x y : Int32} : pj_step 91 (53, L, .int y :: .int x :: st, M) = some (54, L, .int (x + y) :: st, M) := st_iadd q91_53
theorem x91_53 {L : pj_Loc} {st : List Value} {M : pj_Mem} {x y : Int32} {o9 : Option Value × pj_Mem} : pj_Ends 91 (53, L, .int y :: .int x :: st, M) o9 = pj_Ends 91 (54, L, .int (x + y) :: st, M) o9 := pj_xs (s91_53)
theorem q91_54 : pj_row 91 54 = some (.iastore, 1, 0, 0, 0) := by decide +kernel
theorem s91_54 {L : pj_Loc} {st : List Value} {N S : Nat} {H : pj_Heap} {o : Nat} {i x : Int32} : pj_step 91 (54, L, .int x :: .int i :: .ref o :: st, (N, S, H)) = pj_set 55 L st (N, S, H) o (pj_ars (H o) 0 i x) := st_iastore q91_54
theorem x91_54 {L : pj_Loc} {st : List Value} {N S : Nat} {H : pj_Heap} {o : Nat} {i x : Int32} {o9 : Option Value × pj_Mem} : pj_Ends 91 (54, L, .int x :: .int i :: .ref o :: st, (N, S, H)) o9 = pj_then 91 o9 (pj_set 55 L st (N, S, H) o (pj_ars (H o) 0 i x)) := pj_xt q91_54 rfl (pj_cl_nc rfl) (s91_54)
theorem q91_55 : pj_row 91 55 = some (.iinc 1 1, 3, 0, 0, 0) := by decide +kernel
theorem s91_55 {st : List Value} {M : pj_Mem} {l : pj_Loc} {a0 : Option Value} {x : Int32} (h : pj_long a0 = false) : pj_step 91 (55, a0 :: some (.int x) :: l, st, M) = some (58, a0 :: some (.int (x + 1)) :: l, st, M) := st_iinc q91_55 rfl (congrArg (fun y => x + y) (show Int32.ofInt 1 = 1 by decide +kernel)) (pj_st_1 h)
theorem x91_55 {st : List Value} {M : pj_Mem} {l : pj_Loc} {a0 : Option Value} {x : Int32} (h : pj_long a0 = false) {o9 : Option Value × pj_Mem} : pj_Ends 91 (55, a0 :: some (.int x) :: l, st, M) o9 = pj_Ends 91 (58, a0 :: some (.int (x + 1)) :: l, st, M) o9 := pj_xs (s91_55 h)
theorem q91_58 : pj_row 91 58 = some (.goto (-56), 3, 2, 0, 0) := by decide +kernel
theorem s91_58 {L : pj_Loc} {st : List Value} {M : pj_Mem}  : pj_step 91 (58, L, st, M) = some (2, L, st, M) := st_goto q91_58
theorem x91_58 {L : pj_Loc} {st : List Value} {M : pj_Mem}  {o9 : Option Value × pj_Mem} : pj_Ends 91 (58, L, st, M) o9 = pj_Ends 91 (2, L, st, M) o9 := pj_xs (s91_58)
theorem q91_61 : pj_row 91 61 = some (.return_, 1, 0, 0, 0) := by decide +kernel
theorem t91_61 {L : pj_Loc} {M : pj_Mem} : pj_Ends 91 (61, L, [], M) (none, M) := pj_Ends.ret q91_61 (pj_rtn_v rt91)
theorem rt92 : pj_rt 92 = some .int := rfl
theorem q92_0 : pj_row 92 0 = some (.iconst 0, 1, 0, 0, 0) := by decide +kernel
theorem s92_0 {L : pj_Loc} {st : List Value} {M : pj_Mem}  : pj_step 92 (0, L, st, M) = some (1, L, .int 0 :: st, M) := st_iconst q92_0 (by decide +kernel)
theorem x92_0 {L : pj_Loc} {st : List Value} {M : pj_Mem}  {o9 : Option Value × pj_Mem} : pj_Ends 92 (0, L, st, M) o9 = pj_Ends 92 (1, L, .int 0 :: st, M) o9 := pj_xs (s92_0)
theorem q92_1 : pj_row 92 1 = some (.istore_n 2, 1, 0, 0, 0) := by decide +kernel
theorem s92_1 {st : List Value} {M : pj_Mem} {l : pj_Loc} {a0 a1 a2 : Option Value} {x : Int32} (h : pj_long a1 = false) : pj_step 92 (1, a0 :: a1 :: a2 :: l, .int x :: st, M) = some (2, a0 :: a1 :: some (.int x) :: l, st, M) := st_istore_n q92_1 (pj_st_2 h)
theorem x92_1 {st : List Value} {M : pj_Mem} {l : pj_Loc} {a0 a1 a2 : Option Value} {x : Int32} (h : pj_long a1 = false) {o9 : Option Value × pj_Mem} : pj_Ends 92 (1, a0 :: a1 :: a2 :: l, .int x :: st, M) o9 = pj_Ends 92 (2, a0 :: a1 :: some (.int x) :: l, st, M) o9 := pj_xs (s92_1 h)
theorem q92_2 : pj_row 92 2 = some (.iconst 0, 1, 0, 0, 0) := by decide +kernel
theorem s92_2 {L : pj_Loc} {st : List Value} {M : pj_Mem}  : pj_step 92 (2, L, st, M) = some (3, L, .int 0 :: st, M) := st_iconst q92_2 (by decide +kernel)
theorem x92_2 {L : pj_Loc} {st : List Value} {M : pj_Mem}  {o9 : Option Value × pj_Mem} : pj_Ends 92 (2, L, st, M) o9 = pj_Ends 92 (3, L, .int 0 :: st, M) o9 := pj_xs (s92_2)
theorem q92_3 : pj_row 92 3 = some (.istore_n 3, 1, 0, 0, 0) := by decide +kernel
theorem s92_3 {st : List Value} {M : pj_Mem} {l : pj_Loc} {a0 a1 a2 a3 : Option Value} {x : Int32} (h : pj_long a2 = false) : pj_step 92 (3, a0 :: a1 :: a2 :: a3 :: l, .int x :: st, M) = some (4, a0 :: a1 :: a2 :: some (.int x) :: l, st, M) := st_istore_n q92_3 (pj_st_3 h)
theorem x92_3 {st : List Value} {M : pj_Mem} {l : pj_Loc} {a0 a1 a2 a3 : Option Value} {x : Int32} (h : pj_long a2 = false) {o9 : Option Value × pj_Mem} : pj_Ends 92 (3, a0 :: a1 :: a2 :: a3 :: l, .int x :: st, M) o9 = pj_Ends 92 (4, a0 :: a1 :: a2 :: some (.int x) :: l, st, M) o9 := pj_xs (s92_3 h)
theorem q92_4 : pj_row 92 4 = some (.iload_n 3, 1, 0, 0, 0) := by decide +kernel
theorem s92_4 {st : List Value} {M : pj_Mem} {l : pj_Loc} {a0 a1 a2 : Option Value} {x : Int32} : pj_step 92 (4, a0 :: a1 :: a2 :: some (.int x) :: l, st, M) = some (5, a0 :: a1 :: a2 :: some (.int x) :: l, .int x :: st, M) := st_iload_n q92_4 rfl
theorem x92_4 {st : List Value} {M : pj_Mem} {l : pj_Loc} {a0 a1 a2 : Option Value} {x : Int32} {o9 : Option Value × pj_Mem} : pj_Ends 92 (4, a0 :: a1 :: a2 :: some (.int x) :: l, st, M) o9 = pj_Ends 92 (5, a0 :: a1 :: a2 :: some (.int x) :: l, .int x :: st, M) o9 := pj_xs (s92_4)
theorem q92_5 : pj_row 92 5 = some (.iconst 3, 1, 0, 0, 0) := by decide +kernel
theorem s92_5 {L : pj_Loc} {st : List Value} {M : pj_Mem}  : pj_step 92 (5, L, st, M) = some (6, L, .int 3 :: st, M) := st_iconst q92_5 (by decide +kernel)
theorem x92_5 {L : pj_Loc} {st : List Value} {M : pj_Mem}  {o9 : Option Value × pj_Mem} : pj_Ends 92 (5, L, st, M) o9 = pj_Ends 92 (6, L, .int 3 :: st, M) o9 := pj_xs (s92_5)
theorem q92_6 : pj_row 92 6 = some (.if_icmp .ge 45, 3, 51, 0, 0) := by decide +kernel
theorem s92_6 {L : pj_Loc} {st : List Value} {M : pj_Mem} {x y : Int32} : pj_step 92 (6, L, .int y :: .int x :: st, M) = some (if y ≤ x then 51 else 9, L, st, M) := st_icmp_ge q92_6
theorem x92_6 {L : pj_Loc} {st : List Value} {M : pj_Mem} {x y : Int32} {o9 : Option Value × pj_Mem} : pj_Ends 92 (6, L, .int y :: .int x :: st, M) o9 = pj_Ends 92 (if y ≤ x then 51 else 9, L, st, M) o9 := pj_xs (s92_6)
theorem q92_9 : pj_row 92 9 = some (.iload_n 2, 1, 0, 0, 0) := by decide +kernel
theorem s92_9 {st : List Value} {M : pj_Mem} {l : pj_Loc} {a0 a1 : Option Value} {x : Int32} : pj_step 92 (9, a0 :: a1 :: some (.int x) :: l, st, M) = some (10, a0 :: a1 :: some (.int x) :: l, .int x :: st, M) := st_iload_n q92_9 rfl
theorem x92_9 {st : List Value} {M : pj_Mem} {l : pj_Loc} {a0 a1 : Option Value} {x : Int32} {o9 : Option Value × pj_Mem} : pj_Ends 92 (9, a0 :: a1 :: some (.int x) :: l, st, M) o9 = pj_Ends 92 (10, a0 :: a1 :: some (.int x) :: l, .int x :: st, M) o9 := pj_xs (s92_9)
theorem q92_10 : pj_row 92 10 = some (.aload_n 0, 1, 0, 0, 0) := by decide +kernel
theorem s92_10 {st : List Value} {M : pj_Mem} {l : pj_Loc} {x : Nat} : pj_step 92 (10, some (.ref x) :: l, st, M) = some (11, some (.ref x) :: l, .ref x :: st, M) := st_aload_n q92_10 rfl
theorem x92_10 {st : List Value} {M : pj_Mem} {l : pj_Loc} {x : Nat} {o9 : Option Value × pj_Mem} : pj_Ends 92 (10, some (.ref x) :: l, st, M) o9 = pj_Ends 92 (11, some (.ref x) :: l, .ref x :: st, M) o9 := pj_xs (s92_10)
theorem q92_11 : pj_row 92 11 = some (.getfield 7, 3, 6, 0, 0) := by decide +kernel
theorem s92_11 {L : pj_Loc} {st : List Value} {N S : Nat} {H : pj_Heap} {o : Nat} : pj_step 92 (11, L, .ref o :: st, (N, S, H)) = pj_pv 14 L st (N, S, H) (pj_fld (H o) 6 0) := st_getfield q92_11
theorem x92_11 {L : pj_Loc} {st : List Value} {N S : Nat} {H : pj_Heap} {o : Nat} {o9 : Option Value × pj_Mem} : pj_Ends 92 (11, L, .ref o :: st, (N, S, H)) o9 = pj_then 92 o9 (pj_pv 14 L st (N, S, H) (pj_fld (H o) 6 0)) := pj_xt q92_11 rfl (pj_cl_nc rfl) (s92_11)
theorem q92_14 : pj_row 92 14 = some (.bipush 14, 2, 0, 0, 0) := by decide +kernel
theorem s92_14 {L : pj_Loc} {st : List Value} {M : pj_Mem}  : pj_step 92 (14, L, st, M) = some (16, L, .int 14 :: st, M) := st_bipush q92_14 (by decide +kernel)
theorem x92_14 {L : pj_Loc} {st : List Value} {M : pj_Mem}  {o9 : Option Value × pj_Mem} : pj_Ends 92 (14, L, st, M) o9 = pj_Ends 92 (16, L, .int 14 :: st, M) o9 := pj_xs (s92_14)
theorem q92_16 : pj_row 92 16 = some (.iload_n 3, 1, 0, 0, 0) := by decide +kernel
theorem s92_16 {st : List Value} {M : pj_Mem} {l : pj_Loc} {a0 a1 a2 : Option Value} {x : Int32} : pj_step 92 (16, a0 :: a1 :: a2 :: some (.int x) :: l, st, M) = some (17, a0 :: a1 :: a2 :: some (.int x) :: l, .int x :: st, M) := st_iload_n q92_16 rfl
theorem x92_16 {st : List Value} {M : pj_Mem} {l : pj_Loc} {a0 a1 a2 : Option Value} {x : Int32} {o9 : Option Value × pj_Mem} : pj_Ends 92 (16, a0 :: a1 :: a2 :: some (.int x) :: l, st, M) o9 = pj_Ends 92 (17, a0 :: a1 :: a2 :: some (.int x) :: l, .int x :: st, M) o9 := pj_xs (s92_16)
theorem q92_17 : pj_row 92 17 = some (.iadd, 1, 0, 0, 0) := by decide +kernel
theorem s92_17 {L : pj_Loc} {st : List Value} {M : pj_Mem} {x y : Int32} : pj_step 92 (17, L, .int y :: .int x :: st, M) = some (18, L, .int (x + y) :: st, M) := st_iadd q92_17
theorem x92_17 {L : pj_Loc} {st : List Value} {M : pj_Mem} {x y : Int32} {o9 : Option Value × pj_Mem} : pj_Ends 92 (17, L, .int y :: .int x :: st, M) o9 = pj_Ends 92 (18, L, .int (x + y) :: st, M) o9 := pj_xs (s92_17)
theorem q92_18 : pj_row 92 18 = some (.iaload, 1, 0, 0, 0) := by decide +kernel
theorem s92_18 {L : pj_Loc} {st : List Value} {N S : Nat} {H : pj_Heap} {o : Nat} {i : Int32} : pj_step 92 (18, L, .int i :: .ref o :: st, (N, S, H)) = pj_pi 19 L st (N, S, H) (pj_arl (H o) 0 i) := st_iaload q92_18
theorem x92_18 {L : pj_Loc} {st : List Value} {N S : Nat} {H : pj_Heap} {o : Nat} {i : Int32} {o9 : Option Value × pj_Mem} : pj_Ends 92 (18, L, .int i :: .ref o :: st, (N, S, H)) o9 = pj_then 92 o9 (pj_pi 19 L st (N, S, H) (pj_arl (H o) 0 i)) := pj_xt q92_18 rfl (pj_cl_nc rfl) (s92_18)
theorem q92_19 : pj_row 92 19 = some (.iconst 1, 1, 0, 0, 0) := by decide +kernel
theorem s92_19 {L : pj_Loc} {st : List Value} {M : pj_Mem}  : pj_step 92 (19, L, st, M) = some (20, L, .int 1 :: st, M) := st_iconst q92_19 (by decide +kernel)
theorem x92_19 {L : pj_Loc} {st : List Value} {M : pj_Mem}  {o9 : Option Value × pj_Mem} : pj_Ends 92 (19, L, st, M) o9 = pj_Ends 92 (20, L, .int 1 :: st, M) o9 := pj_xs (s92_19)
theorem q92_20 : pj_row 92 20 = some (.if_icmp .ne 22, 3, 42, 0, 0) := by decide +kernel
theorem s92_20 {L : pj_Loc} {st : List Value} {M : pj_Mem} {x y : Int32} : pj_step 92 (20, L, .int y :: .int x :: st, M) = some (if ¬ x = y then 42 else 23, L, st, M) := st_icmp_ne q92_20
theorem x92_20 {L : pj_Loc} {st : List Value} {M : pj_Mem} {x y : Int32} {o9 : Option Value × pj_Mem} : pj_Ends 92 (20, L, .int y :: .int x :: st, M) o9 = pj_Ends 92 (if ¬ x = y then 42 else 23, L, st, M) o9 := pj_xs (s92_20)
theorem q92_23 : pj_row 92 23 = some (.aload_n 0, 1, 0, 0, 0) := by decide +kernel
theorem s92_23 {st : List Value} {M : pj_Mem} {l : pj_Loc} {x : Nat} : pj_step 92 (23, some (.ref x) :: l, st, M) = some (24, some (.ref x) :: l, .ref x :: st, M) := st_aload_n q92_23 rfl
theorem x92_23 {st : List Value} {M : pj_Mem} {l : pj_Loc} {x : Nat} {o9 : Option Value × pj_Mem} : pj_Ends 92 (23, some (.ref x) :: l, st, M) o9 = pj_Ends 92 (24, some (.ref x) :: l, .ref x :: st, M) o9 := pj_xs (s92_23)
theorem q92_24 : pj_row 92 24 = some (.getfield 7, 3, 6, 0, 0) := by decide +kernel
theorem s92_24 {L : pj_Loc} {st : List Value} {N S : Nat} {H : pj_Heap} {o : Nat} : pj_step 92 (24, L, .ref o :: st, (N, S, H)) = pj_pv 27 L st (N, S, H) (pj_fld (H o) 6 0) := st_getfield q92_24
theorem x92_24 {L : pj_Loc} {st : List Value} {N S : Nat} {H : pj_Heap} {o : Nat} {o9 : Option Value × pj_Mem} : pj_Ends 92 (24, L, .ref o :: st, (N, S, H)) o9 = pj_then 92 o9 (pj_pv 27 L st (N, S, H) (pj_fld (H o) 6 0)) := pj_xt q92_24 rfl (pj_cl_nc rfl) (s92_24)
theorem q92_27 : pj_row 92 27 = some (.bipush 11, 2, 0, 0, 0) := by decide +kernel
theorem s92_27 {L : pj_Loc} {st : List Value} {M : pj_Mem}  : pj_step 92 (27, L, st, M) = some (29, L, .int 11 :: st, M) := st_bipush q92_27 (by decide +kernel)
theorem x92_27 {L : pj_Loc} {st : List Value} {M : pj_Mem}  {o9 : Option Value × pj_Mem} : pj_Ends 92 (27, L, st, M) o9 = pj_Ends 92 (29, L, .int 11 :: st, M) o9 := pj_xs (s92_27)
theorem q92_29 : pj_row 92 29 = some (.iload_n 3, 1, 0, 0, 0) := by decide +kernel
theorem s92_29 {st : List Value} {M : pj_Mem} {l : pj_Loc} {a0 a1 a2 : Option Value} {x : Int32} : pj_step 92 (29, a0 :: a1 :: a2 :: some (.int x) :: l, st, M) = some (30, a0 :: a1 :: a2 :: some (.int x) :: l, .int x :: st, M) := st_iload_n q92_29 rfl
theorem x92_29 {st : List Value} {M : pj_Mem} {l : pj_Loc} {a0 a1 a2 : Option Value} {x : Int32} {o9 : Option Value × pj_Mem} : pj_Ends 92 (29, a0 :: a1 :: a2 :: some (.int x) :: l, st, M) o9 = pj_Ends 92 (30, a0 :: a1 :: a2 :: some (.int x) :: l, .int x :: st, M) o9 := pj_xs (s92_29)
theorem q92_30 : pj_row 92 30 = some (.iadd, 1, 0, 0, 0) := by decide +kernel
theorem s92_30 {L : pj_Loc} {st : List Value} {M : pj_Mem} {x y : Int32} : pj_step 92 (30, L, .int y :: .int x :: st, M) = some (31, L, .int (x + y) :: st, M) := st_iadd q92_30
theorem x92_30 {L : pj_Loc} {st : List Value} {M : pj_Mem} {x y : Int32} {o9 : Option Value × pj_Mem} : pj_Ends 92 (30, L, .int y :: .int x :: st, M) o9 = pj_Ends 92 (31, L, .int (x + y) :: st, M) o9 := pj_xs (s92_30)
theorem q92_31 : pj_row 92 31 = some (.iaload, 1, 0, 0, 0) := by decide +kernel
theorem s92_31 {L : pj_Loc} {st : List Value} {N S : Nat} {H : pj_Heap} {o : Nat} {i : Int32} : pj_step 92 (31, L, .int i :: .ref o :: st, (N, S, H)) = pj_pi 32 L st (N, S, H) (pj_arl (H o) 0 i) := st_iaload q92_31
theorem x92_31 {L : pj_Loc} {st : List Value} {N S : Nat} {H : pj_Heap} {o : Nat} {i : Int32} {o9 : Option Value × pj_Mem} : pj_Ends 92 (31, L, .int i :: .ref o :: st, (N, S, H)) o9 = pj_then 92 o9 (pj_pi 32 L st (N, S, H) (pj_arl (H o) 0 i)) := pj_xt q92_31 rfl (pj_cl_nc rfl) (s92_31)
theorem q92_32 : pj_row 92 32 = some (.iload_n 1, 1, 0, 0, 0) := by decide +kernel
theorem s92_32 {st : List Value} {M : pj_Mem} {l : pj_Loc} {a0 : Option Value} {x : Int32} : pj_step 92 (32, a0 :: some (.int x) :: l, st, M) = some (33, a0 :: some (.int x) :: l, .int x :: st, M) := st_iload_n q92_32 rfl
theorem x92_32 {st : List Value} {M : pj_Mem} {l : pj_Loc} {a0 : Option Value} {x : Int32} {o9 : Option Value × pj_Mem} : pj_Ends 92 (32, a0 :: some (.int x) :: l, st, M) o9 = pj_Ends 92 (33, a0 :: some (.int x) :: l, .int x :: st, M) o9 := pj_xs (s92_32)
theorem q92_33 : pj_row 92 33 = some (.if_icmp .lt 9, 3, 42, 0, 0) := by decide +kernel
theorem s92_33 {L : pj_Loc} {st : List Value} {M : pj_Mem} {x y : Int32} : pj_step 92 (33, L, .int y :: .int x :: st, M) = some (if x < y then 42 else 36, L, st, M) := st_icmp_lt q92_33
theorem x92_33 {L : pj_Loc} {st : List Value} {M : pj_Mem} {x y : Int32} {o9 : Option Value × pj_Mem} : pj_Ends 92 (33, L, .int y :: .int x :: st, M) o9 = pj_Ends 92 (if x < y then 42 else 36, L, st, M) o9 := pj_xs (s92_33)
theorem q92_36 : pj_row 92 36 = some (.iconst 1, 1, 0, 0, 0) := by decide +kernel
theorem s92_36 {L : pj_Loc} {st : List Value} {M : pj_Mem}  : pj_step 92 (36, L, st, M) = some (37, L, .int 1 :: st, M) := st_iconst q92_36 (by decide +kernel)
theorem x92_36 {L : pj_Loc} {st : List Value} {M : pj_Mem}  {o9 : Option Value × pj_Mem} : pj_Ends 92 (36, L, st, M) o9 = pj_Ends 92 (37, L, .int 1 :: st, M) o9 := pj_xs (s92_36)
theorem q92_37 : pj_row 92 37 = some (.iload_n 3, 1, 0, 0, 0) := by decide +kernel
theorem s92_37 {st : List Value} {M : pj_Mem} {l : pj_Loc} {a0 a1 a2 : Option Value} {x : Int32} : pj_step 92 (37, a0 :: a1 :: a2 :: some (.int x) :: l, st, M) = some (38, a0 :: a1 :: a2 :: some (.int x) :: l, .int x :: st, M) := st_iload_n q92_37 rfl
theorem x92_37 {st : List Value} {M : pj_Mem} {l : pj_Loc} {a0 a1 a2 : Option Value} {x : Int32} {o9 : Option Value × pj_Mem} : pj_Ends 92 (37, a0 :: a1 :: a2 :: some (.int x) :: l, st, M) o9 = pj_Ends 92 (38, a0 :: a1 :: a2 :: some (.int x) :: l, .int x :: st, M) o9 := pj_xs (s92_37)
theorem q92_38 : pj_row 92 38 = some (.ishl, 1, 0, 0, 0) := by decide +kernel
theorem s92_38 {L : pj_Loc} {st : List Value} {M : pj_Mem} {x y : Int32} : pj_step 92 (38, L, .int y :: .int x :: st, M) = some (39, L, .int (x <<< (y &&& 31)) :: st, M) := st_ishl q92_38
theorem x92_38 {L : pj_Loc} {st : List Value} {M : pj_Mem} {x y : Int32} {o9 : Option Value × pj_Mem} : pj_Ends 92 (38, L, .int y :: .int x :: st, M) o9 = pj_Ends 92 (39, L, .int (x <<< (y &&& 31)) :: st, M) o9 := pj_xs (s92_38)
theorem q92_39 : pj_row 92 39 = some (.goto 4, 3, 43, 0, 0) := by decide +kernel
theorem s92_39 {L : pj_Loc} {st : List Value} {M : pj_Mem}  : pj_step 92 (39, L, st, M) = some (43, L, st, M) := st_goto q92_39
theorem x92_39 {L : pj_Loc} {st : List Value} {M : pj_Mem}  {o9 : Option Value × pj_Mem} : pj_Ends 92 (39, L, st, M) o9 = pj_Ends 92 (43, L, st, M) o9 := pj_xs (s92_39)
theorem q92_42 : pj_row 92 42 = some (.iconst 0, 1, 0, 0, 0) := by decide +kernel
theorem s92_42 {L : pj_Loc} {st : List Value} {M : pj_Mem}  : pj_step 92 (42, L, st, M) = some (43, L, .int 0 :: st, M) := st_iconst q92_42 (by decide +kernel)
theorem x92_42 {L : pj_Loc} {st : List Value} {M : pj_Mem}  {o9 : Option Value × pj_Mem} : pj_Ends 92 (42, L, st, M) o9 = pj_Ends 92 (43, L, .int 0 :: st, M) o9 := pj_xs (s92_42)
theorem q92_43 : pj_row 92 43 = some (.ior, 1, 0, 0, 0) := by decide +kernel
theorem s92_43 {L : pj_Loc} {st : List Value} {M : pj_Mem} {x y : Int32} : pj_step 92 (43, L, .int y :: .int x :: st, M) = some (44, L, .int (x ||| y) :: st, M) := st_ior q92_43
theorem x92_43 {L : pj_Loc} {st : List Value} {M : pj_Mem} {x y : Int32} {o9 : Option Value × pj_Mem} : pj_Ends 92 (43, L, .int y :: .int x :: st, M) o9 = pj_Ends 92 (44, L, .int (x ||| y) :: st, M) o9 := pj_xs (s92_43)
theorem q92_44 : pj_row 92 44 = some (.istore_n 2, 1, 0, 0, 0) := by decide +kernel
theorem s92_44 {st : List Value} {M : pj_Mem} {l : pj_Loc} {a0 a1 a2 : Option Value} {x : Int32} (h : pj_long a1 = false) : pj_step 92 (44, a0 :: a1 :: a2 :: l, .int x :: st, M) = some (45, a0 :: a1 :: some (.int x) :: l, st, M) := st_istore_n q92_44 (pj_st_2 h)
theorem x92_44 {st : List Value} {M : pj_Mem} {l : pj_Loc} {a0 a1 a2 : Option Value} {x : Int32} (h : pj_long a1 = false) {o9 : Option Value × pj_Mem} : pj_Ends 92 (44, a0 :: a1 :: a2 :: l, .int x :: st, M) o9 = pj_Ends 92 (45, a0 :: a1 :: some (.int x) :: l, st, M) o9 := pj_xs (s92_44 h)
theorem q92_45 : pj_row 92 45 = some (.iinc 3 1, 3, 0, 0, 0) := by decide +kernel
theorem s92_45 {st : List Value} {M : pj_Mem} {l : pj_Loc} {a0 a1 a2 : Option Value} {x : Int32} (h : pj_long a2 = false) : pj_step 92 (45, a0 :: a1 :: a2 :: some (.int x) :: l, st, M) = some (48, a0 :: a1 :: a2 :: some (.int (x + 1)) :: l, st, M) := st_iinc q92_45 rfl (congrArg (fun y => x + y) (show Int32.ofInt 1 = 1 by decide +kernel)) (pj_st_3 h)
theorem x92_45 {st : List Value} {M : pj_Mem} {l : pj_Loc} {a0 a1 a2 : Option Value} {x : Int32} (h : pj_long a2 = false) {o9 : Option Value × pj_Mem} : pj_Ends 92 (45, a0 :: a1 :: a2 :: some (.int x) :: l, st, M) o9 = pj_Ends 92 (48, a0 :: a1 :: a2 :: some (.int (x + 1)) :: l, st, M) o9 := pj_xs (s92_45 h)
theorem q92_48 : pj_row 92 48 = some (.goto (-44), 3, 4, 0, 0) := by decide +kernel
theorem s92_48 {L : pj_Loc} {st : List Value} {M : pj_Mem}  : pj_step 92 (48, L, st, M) = some (4, L, st, M) := st_goto q92_48
theorem x92_48 {L : pj_Loc} {st : List Value} {M : pj_Mem}  {o9 : Option Value × pj_Mem} : pj_Ends 92 (48, L, st, M) o9 = pj_Ends 92 (4, L, st, M) o9 := pj_xs (s92_48)
theorem q92_51 : pj_row 92 51 = some (.iload_n 2, 1, 0, 0, 0) := by decide +kernel
theorem s92_51 {st : List Value} {M : pj_Mem} {l : pj_Loc} {a0 a1 : Option Value} {x : Int32} : pj_step 92 (51, a0 :: a1 :: some (.int x) :: l, st, M) = some (52, a0 :: a1 :: some (.int x) :: l, .int x :: st, M) := st_iload_n q92_51 rfl
theorem x92_51 {st : List Value} {M : pj_Mem} {l : pj_Loc} {a0 a1 : Option Value} {x : Int32} {o9 : Option Value × pj_Mem} : pj_Ends 92 (51, a0 :: a1 :: some (.int x) :: l, st, M) o9 = pj_Ends 92 (52, a0 :: a1 :: some (.int x) :: l, .int x :: st, M) o9 := pj_xs (s92_51)
theorem q92_52 : pj_row 92 52 = some (.ireturn, 1, 0, 0, 0) := by decide +kernel
theorem t92_52 {L : pj_Loc} {M : pj_Mem} {v : Int32} : pj_Ends 92 (52, L, [.int v], M) (some (.int v), M) := pj_Ends.ret q92_52 (pj_rtn_i rt92)
theorem rt93 : pj_rt 93 = none := rfl
theorem q93_0 : pj_row 93 0 = some (.aload_n 0, 1, 0, 0, 0) := by decide +kernel
theorem s93_0 {st : List Value} {M : pj_Mem} {l : pj_Loc} {x : Nat} : pj_step 93 (0, some (.ref x) :: l, st, M) = some (1, some (.ref x) :: l, .ref x :: st, M) := st_aload_n q93_0 rfl
theorem x93_0 {st : List Value} {M : pj_Mem} {l : pj_Loc} {x : Nat} {o9 : Option Value × pj_Mem} : pj_Ends 93 (0, some (.ref x) :: l, st, M) o9 = pj_Ends 93 (1, some (.ref x) :: l, .ref x :: st, M) o9 := pj_xs (s93_0)
theorem q93_1 : pj_row 93 1 = some (.iconst 0, 1, 0, 0, 0) := by decide +kernel
theorem s93_1 {L : pj_Loc} {st : List Value} {M : pj_Mem}  : pj_step 93 (1, L, st, M) = some (2, L, .int 0 :: st, M) := st_iconst q93_1 (by decide +kernel)
theorem x93_1 {L : pj_Loc} {st : List Value} {M : pj_Mem}  {o9 : Option Value × pj_Mem} : pj_Ends 93 (1, L, st, M) o9 = pj_Ends 93 (2, L, .int 0 :: st, M) o9 := pj_xs (s93_1)
theorem q93_2 : pj_row 93 2 = some (.putfield 75, 3, 6, 11, 0) := by decide +kernel
theorem s93_2 {L : pj_Loc} {st : List Value} {N S : Nat} {H : pj_Heap} {o : Nat} {v : Value} : pj_step 93 (2, L, v :: .ref o :: st, (N, S, H)) = pj_set 5 L st (N, S, H) o (pj_fset (H o) 6 11 v) := st_putfield q93_2
theorem x93_2 {L : pj_Loc} {st : List Value} {N S : Nat} {H : pj_Heap} {o : Nat} {v : Value} {o9 : Option Value × pj_Mem} : pj_Ends 93 (2, L, v :: .ref o :: st, (N, S, H)) o9 = pj_then 93 o9 (pj_set 5 L st (N, S, H) o (pj_fset (H o) 6 11 v)) := pj_xt q93_2 rfl (pj_cl_nc rfl) (s93_2)
theorem q93_5 : pj_row 93 5 = some (.iconst 0, 1, 0, 0, 0) := by decide +kernel
theorem s93_5 {L : pj_Loc} {st : List Value} {M : pj_Mem}  : pj_step 93 (5, L, st, M) = some (6, L, .int 0 :: st, M) := st_iconst q93_5 (by decide +kernel)
theorem x93_5 {L : pj_Loc} {st : List Value} {M : pj_Mem}  {o9 : Option Value × pj_Mem} : pj_Ends 93 (5, L, st, M) o9 = pj_Ends 93 (6, L, .int 0 :: st, M) o9 := pj_xs (s93_5)
theorem q93_6 : pj_row 93 6 = some (.istore_n 1, 1, 0, 0, 0) := by decide +kernel
theorem s93_6 {st : List Value} {M : pj_Mem} {l : pj_Loc} {a0 a1 : Option Value} {x : Int32} (h : pj_long a0 = false) : pj_step 93 (6, a0 :: a1 :: l, .int x :: st, M) = some (7, a0 :: some (.int x) :: l, st, M) := st_istore_n q93_6 (pj_st_1 h)
theorem x93_6 {st : List Value} {M : pj_Mem} {l : pj_Loc} {a0 a1 : Option Value} {x : Int32} (h : pj_long a0 = false) {o9 : Option Value × pj_Mem} : pj_Ends 93 (6, a0 :: a1 :: l, .int x :: st, M) o9 = pj_Ends 93 (7, a0 :: some (.int x) :: l, st, M) o9 := pj_xs (s93_6 h)
theorem q93_7 : pj_row 93 7 = some (.iload_n 1, 1, 0, 0, 0) := by decide +kernel
theorem s93_7 {st : List Value} {M : pj_Mem} {l : pj_Loc} {a0 : Option Value} {x : Int32} : pj_step 93 (7, a0 :: some (.int x) :: l, st, M) = some (8, a0 :: some (.int x) :: l, .int x :: st, M) := st_iload_n q93_7 rfl
theorem x93_7 {st : List Value} {M : pj_Mem} {l : pj_Loc} {a0 : Option Value} {x : Int32} {o9 : Option Value × pj_Mem} : pj_Ends 93 (7, a0 :: some (.int x) :: l, st, M) o9 = pj_Ends 93 (8, a0 :: some (.int x) :: l, .int x :: st, M) o9 := pj_xs (s93_7)
theorem q93_8 : pj_row 93 8 = some (.iconst 3, 1, 0, 0, 0) := by decide +kernel
theorem s93_8 {L : pj_Loc} {st : List Value} {M : pj_Mem}  : pj_step 93 (8, L, st, M) = some (9, L, .int 3 :: st, M) := st_iconst q93_8 (by decide +kernel)
theorem x93_8 {L : pj_Loc} {st : List Value} {M : pj_Mem}  {o9 : Option Value × pj_Mem} : pj_Ends 93 (8, L, st, M) o9 = pj_Ends 93 (9, L, .int 3 :: st, M) o9 := pj_xs (s93_8)
theorem q93_9 : pj_row 93 9 = some (.if_icmp .ge 45, 3, 54, 0, 0) := by decide +kernel
theorem s93_9 {L : pj_Loc} {st : List Value} {M : pj_Mem} {x y : Int32} : pj_step 93 (9, L, .int y :: .int x :: st, M) = some (if y ≤ x then 54 else 12, L, st, M) := st_icmp_ge q93_9
theorem x93_9 {L : pj_Loc} {st : List Value} {M : pj_Mem} {x y : Int32} {o9 : Option Value × pj_Mem} : pj_Ends 93 (9, L, .int y :: .int x :: st, M) o9 = pj_Ends 93 (if y ≤ x then 54 else 12, L, st, M) o9 := pj_xs (s93_9)
theorem q93_12 : pj_row 93 12 = some (.aload_n 0, 1, 0, 0, 0) := by decide +kernel
theorem s93_12 {st : List Value} {M : pj_Mem} {l : pj_Loc} {x : Nat} : pj_step 93 (12, some (.ref x) :: l, st, M) = some (13, some (.ref x) :: l, .ref x :: st, M) := st_aload_n q93_12 rfl
theorem x93_12 {st : List Value} {M : pj_Mem} {l : pj_Loc} {x : Nat} {o9 : Option Value × pj_Mem} : pj_Ends 93 (12, some (.ref x) :: l, st, M) o9 = pj_Ends 93 (13, some (.ref x) :: l, .ref x :: st, M) o9 := pj_xs (s93_12)
theorem q93_13 : pj_row 93 13 = some (.iload_n 1, 1, 0, 0, 0) := by decide +kernel
theorem s93_13 {st : List Value} {M : pj_Mem} {l : pj_Loc} {a0 : Option Value} {x : Int32} : pj_step 93 (13, a0 :: some (.int x) :: l, st, M) = some (14, a0 :: some (.int x) :: l, .int x :: st, M) := st_iload_n q93_13 rfl
theorem x93_13 {st : List Value} {M : pj_Mem} {l : pj_Loc} {a0 : Option Value} {x : Int32} {o9 : Option Value × pj_Mem} : pj_Ends 93 (13, a0 :: some (.int x) :: l, st, M) o9 = pj_Ends 93 (14, a0 :: some (.int x) :: l, .int x :: st, M) o9 := pj_xs (s93_13)
theorem q93_14 : pj_row 93 14 = some (.invokevirtual 78, 3, 94, 2, 0) := by decide +kernel
theorem e93_14 {L : pj_Loc} {st : List Value} {N S : Nat} {H : pj_Heap} {o : Option Value × pj_Mem} {M' : pj_Mem} {x0 : Nat} {x1 : Int32} {r : Int32} (h4 : pj_le4 st = true) (hu : pj_isU 6 (H x0) = true) (h1 : pj_Ends 94 (0, [some (.ref x0), some (.int x1)], [], (N, S, H)) (some (.int r), M')) (h2 : pj_Ends 93 (17, L, .int r :: st, M') o) : pj_Ends 93 (14, L, .int x1 :: .ref x0 :: st, (N, S, H)) o := ec_v2 q93_14 (Or.inl rfl) h4 hu rfl h1 h2
theorem q93_17 : pj_row 93 17 = some (.ifCond .eq 31, 3, 48, 0, 0) := by decide +kernel
theorem s93_17 {L : pj_Loc} {st : List Value} {M : pj_Mem} {x : Int32} : pj_step 93 (17, L, .int x :: st, M) = some (if x = 0 then 48 else 20, L, st, M) := st_if_eq q93_17
theorem x93_17 {L : pj_Loc} {st : List Value} {M : pj_Mem} {x : Int32} {o9 : Option Value × pj_Mem} : pj_Ends 93 (17, L, .int x :: st, M) o9 = pj_Ends 93 (if x = 0 then 48 else 20, L, st, M) o9 := pj_xs (s93_17)
theorem q93_20 : pj_row 93 20 = some (.aload_n 0, 1, 0, 0, 0) := by decide +kernel
theorem s93_20 {st : List Value} {M : pj_Mem} {l : pj_Loc} {x : Nat} : pj_step 93 (20, some (.ref x) :: l, st, M) = some (21, some (.ref x) :: l, .ref x :: st, M) := st_aload_n q93_20 rfl
theorem x93_20 {st : List Value} {M : pj_Mem} {l : pj_Loc} {x : Nat} {o9 : Option Value × pj_Mem} : pj_Ends 93 (20, some (.ref x) :: l, st, M) o9 = pj_Ends 93 (21, some (.ref x) :: l, .ref x :: st, M) o9 := pj_xs (s93_20)
theorem q93_21 : pj_row 93 21 = some (.getfield 7, 3, 6, 0, 0) := by decide +kernel
theorem s93_21 {L : pj_Loc} {st : List Value} {N S : Nat} {H : pj_Heap} {o : Nat} : pj_step 93 (21, L, .ref o :: st, (N, S, H)) = pj_pv 24 L st (N, S, H) (pj_fld (H o) 6 0) := st_getfield q93_21
theorem x93_21 {L : pj_Loc} {st : List Value} {N S : Nat} {H : pj_Heap} {o : Nat} {o9 : Option Value × pj_Mem} : pj_Ends 93 (21, L, .ref o :: st, (N, S, H)) o9 = pj_then 93 o9 (pj_pv 24 L st (N, S, H) (pj_fld (H o) 6 0)) := pj_xt q93_21 rfl (pj_cl_nc rfl) (s93_21)
theorem q93_24 : pj_row 93 24 = some (.bipush 23, 2, 0, 0, 0) := by decide +kernel
theorem s93_24 {L : pj_Loc} {st : List Value} {M : pj_Mem}  : pj_step 93 (24, L, st, M) = some (26, L, .int 23 :: st, M) := st_bipush q93_24 (by decide +kernel)
theorem x93_24 {L : pj_Loc} {st : List Value} {M : pj_Mem}  {o9 : Option Value × pj_Mem} : pj_Ends 93 (24, L, st, M) o9 = pj_Ends 93 (26, L, .int 23 :: st, M) o9 := pj_xs (s93_24)
theorem q93_26 : pj_row 93 26 = some (.iload_n 1, 1, 0, 0, 0) := by decide +kernel
theorem s93_26 {st : List Value} {M : pj_Mem} {l : pj_Loc} {a0 : Option Value} {x : Int32} : pj_step 93 (26, a0 :: some (.int x) :: l, st, M) = some (27, a0 :: some (.int x) :: l, .int x :: st, M) := st_iload_n q93_26 rfl
theorem x93_26 {st : List Value} {M : pj_Mem} {l : pj_Loc} {a0 : Option Value} {x : Int32} {o9 : Option Value × pj_Mem} : pj_Ends 93 (26, a0 :: some (.int x) :: l, st, M) o9 = pj_Ends 93 (27, a0 :: some (.int x) :: l, .int x :: st, M) o9 := pj_xs (s93_26)
theorem q93_27 : pj_row 93 27 = some (.iadd, 1, 0, 0, 0) := by decide +kernel
theorem s93_27 {L : pj_Loc} {st : List Value} {M : pj_Mem} {x y : Int32} : pj_step 93 (27, L, .int y :: .int x :: st, M) = some (28, L, .int (x + y) :: st, M) := st_iadd q93_27
theorem x93_27 {L : pj_Loc} {st : List Value} {M : pj_Mem} {x y : Int32} {o9 : Option Value × pj_Mem} : pj_Ends 93 (27, L, .int y :: .int x :: st, M) o9 = pj_Ends 93 (28, L, .int (x + y) :: st, M) o9 := pj_xs (s93_27)
theorem q93_28 : pj_row 93 28 = some (.aload_n 0, 1, 0, 0, 0) := by decide +kernel
theorem s93_28 {st : List Value} {M : pj_Mem} {l : pj_Loc} {x : Nat} : pj_step 93 (28, some (.ref x) :: l, st, M) = some (29, some (.ref x) :: l, .ref x :: st, M) := st_aload_n q93_28 rfl
theorem x93_28 {st : List Value} {M : pj_Mem} {l : pj_Loc} {x : Nat} {o9 : Option Value × pj_Mem} : pj_Ends 93 (28, some (.ref x) :: l, st, M) o9 = pj_Ends 93 (29, some (.ref x) :: l, .ref x :: st, M) o9 := pj_xs (s93_28)
theorem q93_29 : pj_row 93 29 = some (.getfield 7, 3, 6, 0, 0) := by decide +kernel
theorem s93_29 {L : pj_Loc} {st : List Value} {N S : Nat} {H : pj_Heap} {o : Nat} : pj_step 93 (29, L, .ref o :: st, (N, S, H)) = pj_pv 32 L st (N, S, H) (pj_fld (H o) 6 0) := st_getfield q93_29
theorem x93_29 {L : pj_Loc} {st : List Value} {N S : Nat} {H : pj_Heap} {o : Nat} {o9 : Option Value × pj_Mem} : pj_Ends 93 (29, L, .ref o :: st, (N, S, H)) o9 = pj_then 93 o9 (pj_pv 32 L st (N, S, H) (pj_fld (H o) 6 0)) := pj_xt q93_29 rfl (pj_cl_nc rfl) (s93_29)
theorem q93_32 : pj_row 93 32 = some (.bipush 6, 2, 0, 0, 0) := by decide +kernel
theorem s93_32 {L : pj_Loc} {st : List Value} {M : pj_Mem}  : pj_step 93 (32, L, st, M) = some (34, L, .int 6 :: st, M) := st_bipush q93_32 (by decide +kernel)
theorem x93_32 {L : pj_Loc} {st : List Value} {M : pj_Mem}  {o9 : Option Value × pj_Mem} : pj_Ends 93 (32, L, st, M) o9 = pj_Ends 93 (34, L, .int 6 :: st, M) o9 := pj_xs (s93_32)
theorem q93_34 : pj_row 93 34 = some (.iaload, 1, 0, 0, 0) := by decide +kernel
theorem s93_34 {L : pj_Loc} {st : List Value} {N S : Nat} {H : pj_Heap} {o : Nat} {i : Int32} : pj_step 93 (34, L, .int i :: .ref o :: st, (N, S, H)) = pj_pi 35 L st (N, S, H) (pj_arl (H o) 0 i) := st_iaload q93_34
theorem x93_34 {L : pj_Loc} {st : List Value} {N S : Nat} {H : pj_Heap} {o : Nat} {i : Int32} {o9 : Option Value × pj_Mem} : pj_Ends 93 (34, L, .int i :: .ref o :: st, (N, S, H)) o9 = pj_then 93 o9 (pj_pi 35 L st (N, S, H) (pj_arl (H o) 0 i)) := pj_xt q93_34 rfl (pj_cl_nc rfl) (s93_34)
theorem q93_35 : pj_row 93 35 = some (.iastore, 1, 0, 0, 0) := by decide +kernel
theorem s93_35 {L : pj_Loc} {st : List Value} {N S : Nat} {H : pj_Heap} {o : Nat} {i x : Int32} : pj_step 93 (35, L, .int x :: .int i :: .ref o :: st, (N, S, H)) = pj_set 36 L st (N, S, H) o (pj_ars (H o) 0 i x) := st_iastore q93_35
theorem x93_35 {L : pj_Loc} {st : List Value} {N S : Nat} {H : pj_Heap} {o : Nat} {i x : Int32} {o9 : Option Value × pj_Mem} : pj_Ends 93 (35, L, .int x :: .int i :: .ref o :: st, (N, S, H)) o9 = pj_then 93 o9 (pj_set 36 L st (N, S, H) o (pj_ars (H o) 0 i x)) := pj_xt q93_35 rfl (pj_cl_nc rfl) (s93_35)
theorem q93_36 : pj_row 93 36 = some (.aload_n 0, 1, 0, 0, 0) := by decide +kernel
theorem s93_36 {st : List Value} {M : pj_Mem} {l : pj_Loc} {x : Nat} : pj_step 93 (36, some (.ref x) :: l, st, M) = some (37, some (.ref x) :: l, .ref x :: st, M) := st_aload_n q93_36 rfl
theorem x93_36 {st : List Value} {M : pj_Mem} {l : pj_Loc} {x : Nat} {o9 : Option Value × pj_Mem} : pj_Ends 93 (36, some (.ref x) :: l, st, M) o9 = pj_Ends 93 (37, some (.ref x) :: l, .ref x :: st, M) o9 := pj_xs (s93_36)
theorem q93_37 : pj_row 93 37 = some (.dup, 1, 0, 0, 0) := by decide +kernel
theorem s93_37 {L : pj_Loc} {st : List Value} {M : pj_Mem} {x : Nat} : pj_step 93 (37, L, .ref x :: st, M) = some (38, L, .ref x :: .ref x :: st, M) := st_dup_ref q93_37
theorem x93_37 {L : pj_Loc} {st : List Value} {M : pj_Mem} {x : Nat} {o9 : Option Value × pj_Mem} : pj_Ends 93 (37, L, .ref x :: st, M) o9 = pj_Ends 93 (38, L, .ref x :: .ref x :: st, M) o9 := pj_xs (s93_37)
theorem s93_37i {L : pj_Loc} {st : List Value} {M : pj_Mem} {x : Int32} : pj_step 93 (37, L, .int x :: st, M) = some (38, L, .int x :: .int x :: st, M) := st_dup_int q93_37
theorem x93_37i {L : pj_Loc} {st : List Value} {M : pj_Mem} {x : Int32} {o9 : Option Value × pj_Mem} : pj_Ends 93 (37, L, .int x :: st, M) o9 = pj_Ends 93 (38, L, .int x :: .int x :: st, M) o9 := pj_xs (s93_37i)
theorem q93_38 : pj_row 93 38 = some (.getfield 75, 3, 6, 11, 0) := by decide +kernel
theorem s93_38 {L : pj_Loc} {st : List Value} {N S : Nat} {H : pj_Heap} {o : Nat} : pj_step 93 (38, L, .ref o :: st, (N, S, H)) = pj_pv 41 L st (N, S, H) (pj_fld (H o) 6 11) := st_getfield q93_38
theorem x93_38 {L : pj_Loc} {st : List Value} {N S : Nat} {H : pj_Heap} {o : Nat} {o9 : Option Value × pj_Mem} : pj_Ends 93 (38, L, .ref o :: st, (N, S, H)) o9 = pj_then 93 o9 (pj_pv 41 L st (N, S, H) (pj_fld (H o) 6 11)) := pj_xt q93_38 rfl (pj_cl_nc rfl) (s93_38)
theorem q93_41 : pj_row 93 41 = some (.iconst 1, 1, 0, 0, 0) := by decide +kernel
theorem s93_41 {L : pj_Loc} {st : List Value} {M : pj_Mem}  : pj_step 93 (41, L, st, M) = some (42, L, .int 1 :: st, M) := st_iconst q93_41 (by decide +kernel)
theorem x93_41 {L : pj_Loc} {st : List Value} {M : pj_Mem}  {o9 : Option Value × pj_Mem} : pj_Ends 93 (41, L, st, M) o9 = pj_Ends 93 (42, L, .int 1 :: st, M) o9 := pj_xs (s93_41)
theorem q93_42 : pj_row 93 42 = some (.iload_n 1, 1, 0, 0, 0) := by decide +kernel
theorem s93_42 {st : List Value} {M : pj_Mem} {l : pj_Loc} {a0 : Option Value} {x : Int32} : pj_step 93 (42, a0 :: some (.int x) :: l, st, M) = some (43, a0 :: some (.int x) :: l, .int x :: st, M) := st_iload_n q93_42 rfl
theorem x93_42 {st : List Value} {M : pj_Mem} {l : pj_Loc} {a0 : Option Value} {x : Int32} {o9 : Option Value × pj_Mem} : pj_Ends 93 (42, a0 :: some (.int x) :: l, st, M) o9 = pj_Ends 93 (43, a0 :: some (.int x) :: l, .int x :: st, M) o9 := pj_xs (s93_42)
theorem q93_43 : pj_row 93 43 = some (.ishl, 1, 0, 0, 0) := by decide +kernel
theorem s93_43 {L : pj_Loc} {st : List Value} {M : pj_Mem} {x y : Int32} : pj_step 93 (43, L, .int y :: .int x :: st, M) = some (44, L, .int (x <<< (y &&& 31)) :: st, M) := st_ishl q93_43
theorem x93_43 {L : pj_Loc} {st : List Value} {M : pj_Mem} {x y : Int32} {o9 : Option Value × pj_Mem} : pj_Ends 93 (43, L, .int y :: .int x :: st, M) o9 = pj_Ends 93 (44, L, .int (x <<< (y &&& 31)) :: st, M) o9 := pj_xs (s93_43)
theorem q93_44 : pj_row 93 44 = some (.ior, 1, 0, 0, 0) := by decide +kernel
theorem s93_44 {L : pj_Loc} {st : List Value} {M : pj_Mem} {x y : Int32} : pj_step 93 (44, L, .int y :: .int x :: st, M) = some (45, L, .int (x ||| y) :: st, M) := st_ior q93_44
theorem x93_44 {L : pj_Loc} {st : List Value} {M : pj_Mem} {x y : Int32} {o9 : Option Value × pj_Mem} : pj_Ends 93 (44, L, .int y :: .int x :: st, M) o9 = pj_Ends 93 (45, L, .int (x ||| y) :: st, M) o9 := pj_xs (s93_44)
theorem q93_45 : pj_row 93 45 = some (.putfield 75, 3, 6, 11, 0) := by decide +kernel
theorem s93_45 {L : pj_Loc} {st : List Value} {N S : Nat} {H : pj_Heap} {o : Nat} {v : Value} : pj_step 93 (45, L, v :: .ref o :: st, (N, S, H)) = pj_set 48 L st (N, S, H) o (pj_fset (H o) 6 11 v) := st_putfield q93_45
theorem x93_45 {L : pj_Loc} {st : List Value} {N S : Nat} {H : pj_Heap} {o : Nat} {v : Value} {o9 : Option Value × pj_Mem} : pj_Ends 93 (45, L, v :: .ref o :: st, (N, S, H)) o9 = pj_then 93 o9 (pj_set 48 L st (N, S, H) o (pj_fset (H o) 6 11 v)) := pj_xt q93_45 rfl (pj_cl_nc rfl) (s93_45)
theorem q93_48 : pj_row 93 48 = some (.iinc 1 1, 3, 0, 0, 0) := by decide +kernel
theorem s93_48 {st : List Value} {M : pj_Mem} {l : pj_Loc} {a0 : Option Value} {x : Int32} (h : pj_long a0 = false) : pj_step 93 (48, a0 :: some (.int x) :: l, st, M) = some (51, a0 :: some (.int (x + 1)) :: l, st, M) := st_iinc q93_48 rfl (congrArg (fun y => x + y) (show Int32.ofInt 1 = 1 by decide +kernel)) (pj_st_1 h)
theorem x93_48 {st : List Value} {M : pj_Mem} {l : pj_Loc} {a0 : Option Value} {x : Int32} (h : pj_long a0 = false) {o9 : Option Value × pj_Mem} : pj_Ends 93 (48, a0 :: some (.int x) :: l, st, M) o9 = pj_Ends 93 (51, a0 :: some (.int (x + 1)) :: l, st, M) o9 := pj_xs (s93_48 h)
theorem q93_51 : pj_row 93 51 = some (.goto (-44), 3, 7, 0, 0) := by decide +kernel
theorem s93_51 {L : pj_Loc} {st : List Value} {M : pj_Mem}  : pj_step 93 (51, L, st, M) = some (7, L, st, M) := st_goto q93_51
theorem x93_51 {L : pj_Loc} {st : List Value} {M : pj_Mem}  {o9 : Option Value × pj_Mem} : pj_Ends 93 (51, L, st, M) o9 = pj_Ends 93 (7, L, st, M) o9 := pj_xs (s93_51)
theorem q93_54 : pj_row 93 54 = some (.return_, 1, 0, 0, 0) := by decide +kernel
theorem t93_54 {L : pj_Loc} {M : pj_Mem} : pj_Ends 93 (54, L, [], M) (none, M) := pj_Ends.ret q93_54 (pj_rtn_v rt93)
theorem rt94 : pj_rt 94 = some .boolean := rfl
theorem q94_0 : pj_row 94 0 = some (.aload_n 0, 1, 0, 0, 0) := by decide +kernel
theorem s94_0 {st : List Value} {M : pj_Mem} {l : pj_Loc} {x : Nat} : pj_step 94 (0, some (.ref x) :: l, st, M) = some (1, some (.ref x) :: l, .ref x :: st, M) := st_aload_n q94_0 rfl
theorem x94_0 {st : List Value} {M : pj_Mem} {l : pj_Loc} {x : Nat} {o9 : Option Value × pj_Mem} : pj_Ends 94 (0, some (.ref x) :: l, st, M) o9 = pj_Ends 94 (1, some (.ref x) :: l, .ref x :: st, M) o9 := pj_xs (s94_0)
theorem q94_1 : pj_row 94 1 = some (.getfield 7, 3, 6, 0, 0) := by decide +kernel
theorem s94_1 {L : pj_Loc} {st : List Value} {N S : Nat} {H : pj_Heap} {o : Nat} : pj_step 94 (1, L, .ref o :: st, (N, S, H)) = pj_pv 4 L st (N, S, H) (pj_fld (H o) 6 0) := st_getfield q94_1
theorem x94_1 {L : pj_Loc} {st : List Value} {N S : Nat} {H : pj_Heap} {o : Nat} {o9 : Option Value × pj_Mem} : pj_Ends 94 (1, L, .ref o :: st, (N, S, H)) o9 = pj_then 94 o9 (pj_pv 4 L st (N, S, H) (pj_fld (H o) 6 0)) := pj_xt q94_1 rfl (pj_cl_nc rfl) (s94_1)
theorem q94_4 : pj_row 94 4 = some (.bipush 23, 2, 0, 0, 0) := by decide +kernel
theorem s94_4 {L : pj_Loc} {st : List Value} {M : pj_Mem}  : pj_step 94 (4, L, st, M) = some (6, L, .int 23 :: st, M) := st_bipush q94_4 (by decide +kernel)
theorem x94_4 {L : pj_Loc} {st : List Value} {M : pj_Mem}  {o9 : Option Value × pj_Mem} : pj_Ends 94 (4, L, st, M) o9 = pj_Ends 94 (6, L, .int 23 :: st, M) o9 := pj_xs (s94_4)
theorem q94_6 : pj_row 94 6 = some (.iload_n 1, 1, 0, 0, 0) := by decide +kernel
theorem s94_6 {st : List Value} {M : pj_Mem} {l : pj_Loc} {a0 : Option Value} {x : Int32} : pj_step 94 (6, a0 :: some (.int x) :: l, st, M) = some (7, a0 :: some (.int x) :: l, .int x :: st, M) := st_iload_n q94_6 rfl
theorem x94_6 {st : List Value} {M : pj_Mem} {l : pj_Loc} {a0 : Option Value} {x : Int32} {o9 : Option Value × pj_Mem} : pj_Ends 94 (6, a0 :: some (.int x) :: l, st, M) o9 = pj_Ends 94 (7, a0 :: some (.int x) :: l, .int x :: st, M) o9 := pj_xs (s94_6)
theorem q94_7 : pj_row 94 7 = some (.iadd, 1, 0, 0, 0) := by decide +kernel
theorem s94_7 {L : pj_Loc} {st : List Value} {M : pj_Mem} {x y : Int32} : pj_step 94 (7, L, .int y :: .int x :: st, M) = some (8, L, .int (x + y) :: st, M) := st_iadd q94_7
theorem x94_7 {L : pj_Loc} {st : List Value} {M : pj_Mem} {x y : Int32} {o9 : Option Value × pj_Mem} : pj_Ends 94 (7, L, .int y :: .int x :: st, M) o9 = pj_Ends 94 (8, L, .int (x + y) :: st, M) o9 := pj_xs (s94_7)
theorem q94_8 : pj_row 94 8 = some (.iaload, 1, 0, 0, 0) := by decide +kernel
theorem s94_8 {L : pj_Loc} {st : List Value} {N S : Nat} {H : pj_Heap} {o : Nat} {i : Int32} : pj_step 94 (8, L, .int i :: .ref o :: st, (N, S, H)) = pj_pi 9 L st (N, S, H) (pj_arl (H o) 0 i) := st_iaload q94_8
theorem x94_8 {L : pj_Loc} {st : List Value} {N S : Nat} {H : pj_Heap} {o : Nat} {i : Int32} {o9 : Option Value × pj_Mem} : pj_Ends 94 (8, L, .int i :: .ref o :: st, (N, S, H)) o9 = pj_then 94 o9 (pj_pi 9 L st (N, S, H) (pj_arl (H o) 0 i)) := pj_xt q94_8 rfl (pj_cl_nc rfl) (s94_8)
theorem q94_9 : pj_row 94 9 = some (.bipush (-6), 2, 0, 0, 0) := by decide +kernel
theorem s94_9 {L : pj_Loc} {st : List Value} {M : pj_Mem}  : pj_step 94 (9, L, st, M) = some (11, L, .int (-6) :: st, M) := st_bipush q94_9 (by decide +kernel)
theorem x94_9 {L : pj_Loc} {st : List Value} {M : pj_Mem}  {o9 : Option Value × pj_Mem} : pj_Ends 94 (9, L, st, M) o9 = pj_Ends 94 (11, L, .int (-6) :: st, M) o9 := pj_xs (s94_9)
theorem q94_11 : pj_row 94 11 = some (.if_icmp .ne 26, 3, 37, 0, 0) := by decide +kernel
theorem s94_11 {L : pj_Loc} {st : List Value} {M : pj_Mem} {x y : Int32} : pj_step 94 (11, L, .int y :: .int x :: st, M) = some (if ¬ x = y then 37 else 14, L, st, M) := st_icmp_ne q94_11
theorem x94_11 {L : pj_Loc} {st : List Value} {M : pj_Mem} {x y : Int32} {o9 : Option Value × pj_Mem} : pj_Ends 94 (11, L, .int y :: .int x :: st, M) o9 = pj_Ends 94 (if ¬ x = y then 37 else 14, L, st, M) o9 := pj_xs (s94_11)
theorem q94_14 : pj_row 94 14 = some (.aload_n 0, 1, 0, 0, 0) := by decide +kernel
theorem s94_14 {st : List Value} {M : pj_Mem} {l : pj_Loc} {x : Nat} : pj_step 94 (14, some (.ref x) :: l, st, M) = some (15, some (.ref x) :: l, .ref x :: st, M) := st_aload_n q94_14 rfl
theorem x94_14 {st : List Value} {M : pj_Mem} {l : pj_Loc} {x : Nat} {o9 : Option Value × pj_Mem} : pj_Ends 94 (14, some (.ref x) :: l, st, M) o9 = pj_Ends 94 (15, some (.ref x) :: l, .ref x :: st, M) o9 := pj_xs (s94_14)
theorem q94_15 : pj_row 94 15 = some (.getfield 7, 3, 6, 0, 0) := by decide +kernel
theorem s94_15 {L : pj_Loc} {st : List Value} {N S : Nat} {H : pj_Heap} {o : Nat} : pj_step 94 (15, L, .ref o :: st, (N, S, H)) = pj_pv 18 L st (N, S, H) (pj_fld (H o) 6 0) := st_getfield q94_15
theorem x94_15 {L : pj_Loc} {st : List Value} {N S : Nat} {H : pj_Heap} {o : Nat} {o9 : Option Value × pj_Mem} : pj_Ends 94 (15, L, .ref o :: st, (N, S, H)) o9 = pj_then 94 o9 (pj_pv 18 L st (N, S, H) (pj_fld (H o) 6 0)) := pj_xt q94_15 rfl (pj_cl_nc rfl) (s94_15)
theorem q94_18 : pj_row 94 18 = some (.bipush 26, 2, 0, 0, 0) := by decide +kernel
theorem s94_18 {L : pj_Loc} {st : List Value} {M : pj_Mem}  : pj_step 94 (18, L, st, M) = some (20, L, .int 26 :: st, M) := st_bipush q94_18 (by decide +kernel)
theorem x94_18 {L : pj_Loc} {st : List Value} {M : pj_Mem}  {o9 : Option Value × pj_Mem} : pj_Ends 94 (18, L, st, M) o9 = pj_Ends 94 (20, L, .int 26 :: st, M) o9 := pj_xs (s94_18)
theorem q94_20 : pj_row 94 20 = some (.iload_n 1, 1, 0, 0, 0) := by decide +kernel
theorem s94_20 {st : List Value} {M : pj_Mem} {l : pj_Loc} {a0 : Option Value} {x : Int32} : pj_step 94 (20, a0 :: some (.int x) :: l, st, M) = some (21, a0 :: some (.int x) :: l, .int x :: st, M) := st_iload_n q94_20 rfl
theorem x94_20 {st : List Value} {M : pj_Mem} {l : pj_Loc} {a0 : Option Value} {x : Int32} {o9 : Option Value × pj_Mem} : pj_Ends 94 (20, a0 :: some (.int x) :: l, st, M) o9 = pj_Ends 94 (21, a0 :: some (.int x) :: l, .int x :: st, M) o9 := pj_xs (s94_20)
theorem q94_21 : pj_row 94 21 = some (.iadd, 1, 0, 0, 0) := by decide +kernel
theorem s94_21 {L : pj_Loc} {st : List Value} {M : pj_Mem} {x y : Int32} : pj_step 94 (21, L, .int y :: .int x :: st, M) = some (22, L, .int (x + y) :: st, M) := st_iadd q94_21
theorem x94_21 {L : pj_Loc} {st : List Value} {M : pj_Mem} {x y : Int32} {o9 : Option Value × pj_Mem} : pj_Ends 94 (21, L, .int y :: .int x :: st, M) o9 = pj_Ends 94 (22, L, .int (x + y) :: st, M) o9 := pj_xs (s94_21)
theorem q94_22 : pj_row 94 22 = some (.iaload, 1, 0, 0, 0) := by decide +kernel
theorem s94_22 {L : pj_Loc} {st : List Value} {N S : Nat} {H : pj_Heap} {o : Nat} {i : Int32} : pj_step 94 (22, L, .int i :: .ref o :: st, (N, S, H)) = pj_pi 23 L st (N, S, H) (pj_arl (H o) 0 i) := st_iaload q94_22
theorem x94_22 {L : pj_Loc} {st : List Value} {N S : Nat} {H : pj_Heap} {o : Nat} {i : Int32} {o9 : Option Value × pj_Mem} : pj_Ends 94 (22, L, .int i :: .ref o :: st, (N, S, H)) o9 = pj_then 94 o9 (pj_pi 23 L st (N, S, H) (pj_arl (H o) 0 i)) := pj_xt q94_22 rfl (pj_cl_nc rfl) (s94_22)
theorem q94_23 : pj_row 94 23 = some (.iconst 1, 1, 0, 0, 0) := by decide +kernel
theorem s94_23 {L : pj_Loc} {st : List Value} {M : pj_Mem}  : pj_step 94 (23, L, st, M) = some (24, L, .int 1 :: st, M) := st_iconst q94_23 (by decide +kernel)
theorem x94_23 {L : pj_Loc} {st : List Value} {M : pj_Mem}  {o9 : Option Value × pj_Mem} : pj_Ends 94 (23, L, st, M) o9 = pj_Ends 94 (24, L, .int 1 :: st, M) o9 := pj_xs (s94_23)
theorem q94_24 : pj_row 94 24 = some (.if_icmp .eq 13, 3, 37, 0, 0) := by decide +kernel
theorem s94_24 {L : pj_Loc} {st : List Value} {M : pj_Mem} {x y : Int32} : pj_step 94 (24, L, .int y :: .int x :: st, M) = some (if x = y then 37 else 27, L, st, M) := st_icmp_eq q94_24
theorem x94_24 {L : pj_Loc} {st : List Value} {M : pj_Mem} {x y : Int32} {o9 : Option Value × pj_Mem} : pj_Ends 94 (24, L, .int y :: .int x :: st, M) o9 = pj_Ends 94 (if x = y then 37 else 27, L, st, M) o9 := pj_xs (s94_24)
theorem q94_27 : pj_row 94 27 = some (.aload_n 0, 1, 0, 0, 0) := by decide +kernel
theorem s94_27 {st : List Value} {M : pj_Mem} {l : pj_Loc} {x : Nat} : pj_step 94 (27, some (.ref x) :: l, st, M) = some (28, some (.ref x) :: l, .ref x :: st, M) := st_aload_n q94_27 rfl
theorem x94_27 {st : List Value} {M : pj_Mem} {l : pj_Loc} {x : Nat} {o9 : Option Value × pj_Mem} : pj_Ends 94 (27, some (.ref x) :: l, st, M) o9 = pj_Ends 94 (28, some (.ref x) :: l, .ref x :: st, M) o9 := pj_xs (s94_27)
theorem q94_28 : pj_row 94 28 = some (.getfield 7, 3, 6, 0, 0) := by decide +kernel
theorem s94_28 {L : pj_Loc} {st : List Value} {N S : Nat} {H : pj_Heap} {o : Nat} : pj_step 94 (28, L, .ref o :: st, (N, S, H)) = pj_pv 31 L st (N, S, H) (pj_fld (H o) 6 0) := st_getfield q94_28
theorem x94_28 {L : pj_Loc} {st : List Value} {N S : Nat} {H : pj_Heap} {o : Nat} {o9 : Option Value × pj_Mem} : pj_Ends 94 (28, L, .ref o :: st, (N, S, H)) o9 = pj_then 94 o9 (pj_pv 31 L st (N, S, H) (pj_fld (H o) 6 0)) := pj_xt q94_28 rfl (pj_cl_nc rfl) (s94_28)
theorem q94_31 : pj_row 94 31 = some (.bipush 7, 2, 0, 0, 0) := by decide +kernel
theorem s94_31 {L : pj_Loc} {st : List Value} {M : pj_Mem}  : pj_step 94 (31, L, st, M) = some (33, L, .int 7 :: st, M) := st_bipush q94_31 (by decide +kernel)
theorem x94_31 {L : pj_Loc} {st : List Value} {M : pj_Mem}  {o9 : Option Value × pj_Mem} : pj_Ends 94 (31, L, st, M) o9 = pj_Ends 94 (33, L, .int 7 :: st, M) o9 := pj_xs (s94_31)
theorem q94_33 : pj_row 94 33 = some (.iaload, 1, 0, 0, 0) := by decide +kernel
theorem s94_33 {L : pj_Loc} {st : List Value} {N S : Nat} {H : pj_Heap} {o : Nat} {i : Int32} : pj_step 94 (33, L, .int i :: .ref o :: st, (N, S, H)) = pj_pi 34 L st (N, S, H) (pj_arl (H o) 0 i) := st_iaload q94_33
theorem x94_33 {L : pj_Loc} {st : List Value} {N S : Nat} {H : pj_Heap} {o : Nat} {i : Int32} {o9 : Option Value × pj_Mem} : pj_Ends 94 (33, L, .int i :: .ref o :: st, (N, S, H)) o9 = pj_then 94 o9 (pj_pi 34 L st (N, S, H) (pj_arl (H o) 0 i)) := pj_xt q94_33 rfl (pj_cl_nc rfl) (s94_33)
theorem q94_34 : pj_row 94 34 = some (.ifCond .ne 5, 3, 39, 0, 0) := by decide +kernel
theorem s94_34 {L : pj_Loc} {st : List Value} {M : pj_Mem} {x : Int32} : pj_step 94 (34, L, .int x :: st, M) = some (if ¬ x = 0 then 39 else 37, L, st, M) := st_if_ne q94_34
theorem x94_34 {L : pj_Loc} {st : List Value} {M : pj_Mem} {x : Int32} {o9 : Option Value × pj_Mem} : pj_Ends 94 (34, L, .int x :: st, M) o9 = pj_Ends 94 (if ¬ x = 0 then 39 else 37, L, st, M) o9 := pj_xs (s94_34)
theorem q94_37 : pj_row 94 37 = some (.iconst 0, 1, 0, 0, 0) := by decide +kernel
theorem s94_37 {L : pj_Loc} {st : List Value} {M : pj_Mem}  : pj_step 94 (37, L, st, M) = some (38, L, .int 0 :: st, M) := st_iconst q94_37 (by decide +kernel)
theorem x94_37 {L : pj_Loc} {st : List Value} {M : pj_Mem}  {o9 : Option Value × pj_Mem} : pj_Ends 94 (37, L, st, M) o9 = pj_Ends 94 (38, L, .int 0 :: st, M) o9 := pj_xs (s94_37)
theorem q94_38 : pj_row 94 38 = some (.ireturn, 1, 0, 0, 0) := by decide +kernel
theorem t94_38 {L : pj_Loc} {M : pj_Mem} {v : Int32} (hv : v = 0 ∨ v = 1) : pj_Ends 94 (38, L, [.int v], M) (some (.int v), M) := pj_Ends.ret q94_38 (pj_rtn_z rt94 hv)
theorem q94_39 : pj_row 94 39 = some (.iload_n 1, 1, 0, 0, 0) := by decide +kernel
theorem s94_39 {st : List Value} {M : pj_Mem} {l : pj_Loc} {a0 : Option Value} {x : Int32} : pj_step 94 (39, a0 :: some (.int x) :: l, st, M) = some (40, a0 :: some (.int x) :: l, .int x :: st, M) := st_iload_n q94_39 rfl
theorem x94_39 {st : List Value} {M : pj_Mem} {l : pj_Loc} {a0 : Option Value} {x : Int32} {o9 : Option Value × pj_Mem} : pj_Ends 94 (39, a0 :: some (.int x) :: l, st, M) o9 = pj_Ends 94 (40, a0 :: some (.int x) :: l, .int x :: st, M) o9 := pj_xs (s94_39)
theorem q94_40 : pj_row 94 40 = some (.iconst 2, 1, 0, 0, 0) := by decide +kernel
theorem s94_40 {L : pj_Loc} {st : List Value} {M : pj_Mem}  : pj_step 94 (40, L, st, M) = some (41, L, .int 2 :: st, M) := st_iconst q94_40 (by decide +kernel)
theorem x94_40 {L : pj_Loc} {st : List Value} {M : pj_Mem}  {o9 : Option Value × pj_Mem} : pj_Ends 94 (40, L, st, M) o9 = pj_Ends 94 (41, L, .int 2 :: st, M) o9 := pj_xs (s94_40)
theorem q94_41 : pj_row 94 41 = some (.if_icmp .ne 30, 3, 71, 0, 0) := by decide +kernel
theorem s94_41 {L : pj_Loc} {st : List Value} {M : pj_Mem} {x y : Int32} : pj_step 94 (41, L, .int y :: .int x :: st, M) = some (if ¬ x = y then 71 else 44, L, st, M) := st_icmp_ne q94_41
theorem x94_41 {L : pj_Loc} {st : List Value} {M : pj_Mem} {x y : Int32} {o9 : Option Value × pj_Mem} : pj_Ends 94 (41, L, .int y :: .int x :: st, M) o9 = pj_Ends 94 (if ¬ x = y then 71 else 44, L, st, M) o9 := pj_xs (s94_41)
theorem q94_44 : pj_row 94 44 = some (.aload_n 0, 1, 0, 0, 0) := by decide +kernel
theorem s94_44 {st : List Value} {M : pj_Mem} {l : pj_Loc} {x : Nat} : pj_step 94 (44, some (.ref x) :: l, st, M) = some (45, some (.ref x) :: l, .ref x :: st, M) := st_aload_n q94_44 rfl
theorem x94_44 {st : List Value} {M : pj_Mem} {l : pj_Loc} {x : Nat} {o9 : Option Value × pj_Mem} : pj_Ends 94 (44, some (.ref x) :: l, st, M) o9 = pj_Ends 94 (45, some (.ref x) :: l, .ref x :: st, M) o9 := pj_xs (s94_44)
theorem q94_45 : pj_row 94 45 = some (.getfield 65, 3, 6, 10, 0) := by decide +kernel
theorem s94_45 {L : pj_Loc} {st : List Value} {N S : Nat} {H : pj_Heap} {o : Nat} : pj_step 94 (45, L, .ref o :: st, (N, S, H)) = pj_pv 48 L st (N, S, H) (pj_fld (H o) 6 10) := st_getfield q94_45
theorem x94_45 {L : pj_Loc} {st : List Value} {N S : Nat} {H : pj_Heap} {o : Nat} {o9 : Option Value × pj_Mem} : pj_Ends 94 (45, L, .ref o :: st, (N, S, H)) o9 = pj_then 94 o9 (pj_pv 48 L st (N, S, H) (pj_fld (H o) 6 10)) := pj_xt q94_45 rfl (pj_cl_nc rfl) (s94_45)
theorem q94_48 : pj_row 94 48 = some (.invokestatic 52, 3, 86, 1, 0) := by decide +kernel
theorem e94_48 {L : pj_Loc} {st : List Value} {N S : Nat} {H : pj_Heap} {o : Option Value × pj_Mem} {M' : pj_Mem} {x0 : Int32} {r : Int32} (h4 : pj_le4 st = true) (h1 : pj_Ends 86 (0, [some (.int x0)], [], (N, S, H)) (some (.int r), M')) (h2 : pj_Ends 94 (51, L, .int r :: st, M') o) : pj_Ends 94 (48, L, .int x0 :: st, (N, S, H)) o := ec_s1 q94_48 (Or.inl rfl) h4 rfl h1 h2
theorem q94_51 : pj_row 94 51 = some (.iconst 2, 1, 0, 0, 0) := by decide +kernel
theorem s94_51 {L : pj_Loc} {st : List Value} {M : pj_Mem}  : pj_step 94 (51, L, st, M) = some (52, L, .int 2 :: st, M) := st_iconst q94_51 (by decide +kernel)
theorem x94_51 {L : pj_Loc} {st : List Value} {M : pj_Mem}  {o9 : Option Value × pj_Mem} : pj_Ends 94 (51, L, st, M) o9 = pj_Ends 94 (52, L, .int 2 :: st, M) o9 := pj_xs (s94_51)
theorem q94_52 : pj_row 94 52 = some (.if_icmp .lt 15, 3, 67, 0, 0) := by decide +kernel
theorem s94_52 {L : pj_Loc} {st : List Value} {M : pj_Mem} {x y : Int32} : pj_step 94 (52, L, .int y :: .int x :: st, M) = some (if x < y then 67 else 55, L, st, M) := st_icmp_lt q94_52
theorem x94_52 {L : pj_Loc} {st : List Value} {M : pj_Mem} {x y : Int32} {o9 : Option Value × pj_Mem} : pj_Ends 94 (52, L, .int y :: .int x :: st, M) o9 = pj_Ends 94 (if x < y then 67 else 55, L, st, M) o9 := pj_xs (s94_52)
theorem q94_55 : pj_row 94 55 = some (.aload_n 0, 1, 0, 0, 0) := by decide +kernel
theorem s94_55 {st : List Value} {M : pj_Mem} {l : pj_Loc} {x : Nat} : pj_step 94 (55, some (.ref x) :: l, st, M) = some (56, some (.ref x) :: l, .ref x :: st, M) := st_aload_n q94_55 rfl
theorem x94_55 {st : List Value} {M : pj_Mem} {l : pj_Loc} {x : Nat} {o9 : Option Value × pj_Mem} : pj_Ends 94 (55, some (.ref x) :: l, st, M) o9 = pj_Ends 94 (56, some (.ref x) :: l, .ref x :: st, M) o9 := pj_xs (s94_55)
theorem q94_56 : pj_row 94 56 = some (.iconst 1, 1, 0, 0, 0) := by decide +kernel
theorem s94_56 {L : pj_Loc} {st : List Value} {M : pj_Mem}  : pj_step 94 (56, L, st, M) = some (57, L, .int 1 :: st, M) := st_iconst q94_56 (by decide +kernel)
theorem x94_56 {L : pj_Loc} {st : List Value} {M : pj_Mem}  {o9 : Option Value × pj_Mem} : pj_Ends 94 (56, L, st, M) o9 = pj_Ends 94 (57, L, .int 1 :: st, M) o9 := pj_xs (s94_56)
theorem q94_57 : pj_row 94 57 = some (.invokevirtual 68, 3, 95, 2, 0) := by decide +kernel
theorem e94_57 {L : pj_Loc} {st : List Value} {N S : Nat} {H : pj_Heap} {o : Option Value × pj_Mem} {M' : pj_Mem} {x0 : Nat} {x1 : Int32} {r : Int32} (h4 : pj_le4 st = true) (hu : pj_isU 6 (H x0) = true) (h1 : pj_Ends 95 (0, [some (.ref x0), some (.int x1)], [], (N, S, H)) (some (.int r), M')) (h2 : pj_Ends 94 (60, L, .int r :: st, M') o) : pj_Ends 94 (57, L, .int x1 :: .ref x0 :: st, (N, S, H)) o := ec_v2 q94_57 (Or.inl rfl) h4 hu rfl h1 h2
theorem q94_60 : pj_row 94 60 = some (.ifCond .eq 7, 3, 67, 0, 0) := by decide +kernel
theorem s94_60 {L : pj_Loc} {st : List Value} {M : pj_Mem} {x : Int32} : pj_step 94 (60, L, .int x :: st, M) = some (if x = 0 then 67 else 63, L, st, M) := st_if_eq q94_60
theorem x94_60 {L : pj_Loc} {st : List Value} {M : pj_Mem} {x : Int32} {o9 : Option Value × pj_Mem} : pj_Ends 94 (60, L, .int x :: st, M) o9 = pj_Ends 94 (if x = 0 then 67 else 63, L, st, M) o9 := pj_xs (s94_60)
theorem q94_63 : pj_row 94 63 = some (.iconst 1, 1, 0, 0, 0) := by decide +kernel
theorem s94_63 {L : pj_Loc} {st : List Value} {M : pj_Mem}  : pj_step 94 (63, L, st, M) = some (64, L, .int 1 :: st, M) := st_iconst q94_63 (by decide +kernel)
theorem x94_63 {L : pj_Loc} {st : List Value} {M : pj_Mem}  {o9 : Option Value × pj_Mem} : pj_Ends 94 (63, L, st, M) o9 = pj_Ends 94 (64, L, .int 1 :: st, M) o9 := pj_xs (s94_63)
theorem q94_64 : pj_row 94 64 = some (.goto 46, 3, 110, 0, 0) := by decide +kernel
theorem s94_64 {L : pj_Loc} {st : List Value} {M : pj_Mem}  : pj_step 94 (64, L, st, M) = some (110, L, st, M) := st_goto q94_64
theorem x94_64 {L : pj_Loc} {st : List Value} {M : pj_Mem}  {o9 : Option Value × pj_Mem} : pj_Ends 94 (64, L, st, M) o9 = pj_Ends 94 (110, L, st, M) o9 := pj_xs (s94_64)
theorem q94_67 : pj_row 94 67 = some (.iconst 0, 1, 0, 0, 0) := by decide +kernel
theorem s94_67 {L : pj_Loc} {st : List Value} {M : pj_Mem}  : pj_step 94 (67, L, st, M) = some (68, L, .int 0 :: st, M) := st_iconst q94_67 (by decide +kernel)
theorem x94_67 {L : pj_Loc} {st : List Value} {M : pj_Mem}  {o9 : Option Value × pj_Mem} : pj_Ends 94 (67, L, st, M) o9 = pj_Ends 94 (68, L, .int 0 :: st, M) o9 := pj_xs (s94_67)
theorem q94_68 : pj_row 94 68 = some (.goto 42, 3, 110, 0, 0) := by decide +kernel
theorem s94_68 {L : pj_Loc} {st : List Value} {M : pj_Mem}  : pj_step 94 (68, L, st, M) = some (110, L, st, M) := st_goto q94_68
theorem x94_68 {L : pj_Loc} {st : List Value} {M : pj_Mem}  {o9 : Option Value × pj_Mem} : pj_Ends 94 (68, L, st, M) o9 = pj_Ends 94 (110, L, st, M) o9 := pj_xs (s94_68)
theorem q94_71 : pj_row 94 71 = some (.aload_n 0, 1, 0, 0, 0) := by decide +kernel
theorem s94_71 {st : List Value} {M : pj_Mem} {l : pj_Loc} {x : Nat} : pj_step 94 (71, some (.ref x) :: l, st, M) = some (72, some (.ref x) :: l, .ref x :: st, M) := st_aload_n q94_71 rfl
theorem x94_71 {st : List Value} {M : pj_Mem} {l : pj_Loc} {x : Nat} {o9 : Option Value × pj_Mem} : pj_Ends 94 (71, some (.ref x) :: l, st, M) o9 = pj_Ends 94 (72, some (.ref x) :: l, .ref x :: st, M) o9 := pj_xs (s94_71)
theorem q94_72 : pj_row 94 72 = some (.getfield 72, 3, 6, 9, 0) := by decide +kernel
theorem s94_72 {L : pj_Loc} {st : List Value} {N S : Nat} {H : pj_Heap} {o : Nat} : pj_step 94 (72, L, .ref o :: st, (N, S, H)) = pj_pv 75 L st (N, S, H) (pj_fld (H o) 6 9) := st_getfield q94_72
theorem x94_72 {L : pj_Loc} {st : List Value} {N S : Nat} {H : pj_Heap} {o : Nat} {o9 : Option Value × pj_Mem} : pj_Ends 94 (72, L, .ref o :: st, (N, S, H)) o9 = pj_then 94 o9 (pj_pv 75 L st (N, S, H) (pj_fld (H o) 6 9)) := pj_xt q94_72 rfl (pj_cl_nc rfl) (s94_72)
theorem q94_75 : pj_row 94 75 = some (.invokestatic 52, 3, 86, 1, 0) := by decide +kernel
theorem e94_75 {L : pj_Loc} {st : List Value} {N S : Nat} {H : pj_Heap} {o : Option Value × pj_Mem} {M' : pj_Mem} {x0 : Int32} {r : Int32} (h4 : pj_le4 st = true) (h1 : pj_Ends 86 (0, [some (.int x0)], [], (N, S, H)) (some (.int r), M')) (h2 : pj_Ends 94 (78, L, .int r :: st, M') o) : pj_Ends 94 (75, L, .int x0 :: st, (N, S, H)) o := ec_s1 q94_75 (Or.inl rfl) h4 rfl h1 h2
theorem q94_78 : pj_row 94 78 = some (.iconst 2, 1, 0, 0, 0) := by decide +kernel
theorem s94_78 {L : pj_Loc} {st : List Value} {M : pj_Mem}  : pj_step 94 (78, L, st, M) = some (79, L, .int 2 :: st, M) := st_iconst q94_78 (by decide +kernel)
theorem x94_78 {L : pj_Loc} {st : List Value} {M : pj_Mem}  {o9 : Option Value × pj_Mem} : pj_Ends 94 (78, L, st, M) o9 = pj_Ends 94 (79, L, .int 2 :: st, M) o9 := pj_xs (s94_78)
theorem q94_79 : pj_row 94 79 = some (.if_icmp .lt 30, 3, 109, 0, 0) := by decide +kernel
theorem s94_79 {L : pj_Loc} {st : List Value} {M : pj_Mem} {x y : Int32} : pj_step 94 (79, L, .int y :: .int x :: st, M) = some (if x < y then 109 else 82, L, st, M) := st_icmp_lt q94_79
theorem x94_79 {L : pj_Loc} {st : List Value} {M : pj_Mem} {x y : Int32} {o9 : Option Value × pj_Mem} : pj_Ends 94 (79, L, .int y :: .int x :: st, M) o9 = pj_Ends 94 (if x < y then 109 else 82, L, st, M) o9 := pj_xs (s94_79)
theorem q94_82 : pj_row 94 82 = some (.iload_n 1, 1, 0, 0, 0) := by decide +kernel
theorem s94_82 {st : List Value} {M : pj_Mem} {l : pj_Loc} {a0 : Option Value} {x : Int32} : pj_step 94 (82, a0 :: some (.int x) :: l, st, M) = some (83, a0 :: some (.int x) :: l, .int x :: st, M) := st_iload_n q94_82 rfl
theorem x94_82 {st : List Value} {M : pj_Mem} {l : pj_Loc} {a0 : Option Value} {x : Int32} {o9 : Option Value × pj_Mem} : pj_Ends 94 (82, a0 :: some (.int x) :: l, st, M) o9 = pj_Ends 94 (83, a0 :: some (.int x) :: l, .int x :: st, M) o9 := pj_xs (s94_82)
theorem q94_83 : pj_row 94 83 = some (.ifCond .eq 22, 3, 105, 0, 0) := by decide +kernel
theorem s94_83 {L : pj_Loc} {st : List Value} {M : pj_Mem} {x : Int32} : pj_step 94 (83, L, .int x :: st, M) = some (if x = 0 then 105 else 86, L, st, M) := st_if_eq q94_83
theorem x94_83 {L : pj_Loc} {st : List Value} {M : pj_Mem} {x : Int32} {o9 : Option Value × pj_Mem} : pj_Ends 94 (83, L, .int x :: st, M) o9 = pj_Ends 94 (if x = 0 then 105 else 86, L, st, M) o9 := pj_xs (s94_83)
theorem q94_86 : pj_row 94 86 = some (.aload_n 0, 1, 0, 0, 0) := by decide +kernel
theorem s94_86 {st : List Value} {M : pj_Mem} {l : pj_Loc} {x : Nat} : pj_step 94 (86, some (.ref x) :: l, st, M) = some (87, some (.ref x) :: l, .ref x :: st, M) := st_aload_n q94_86 rfl
theorem x94_86 {st : List Value} {M : pj_Mem} {l : pj_Loc} {x : Nat} {o9 : Option Value × pj_Mem} : pj_Ends 94 (86, some (.ref x) :: l, st, M) o9 = pj_Ends 94 (87, some (.ref x) :: l, .ref x :: st, M) o9 := pj_xs (s94_86)
theorem q94_87 : pj_row 94 87 = some (.iconst 0, 1, 0, 0, 0) := by decide +kernel
theorem s94_87 {L : pj_Loc} {st : List Value} {M : pj_Mem}  : pj_step 94 (87, L, st, M) = some (88, L, .int 0 :: st, M) := st_iconst q94_87 (by decide +kernel)
theorem x94_87 {L : pj_Loc} {st : List Value} {M : pj_Mem}  {o9 : Option Value × pj_Mem} : pj_Ends 94 (87, L, st, M) o9 = pj_Ends 94 (88, L, .int 0 :: st, M) o9 := pj_xs (s94_87)
theorem q94_88 : pj_row 94 88 = some (.invokevirtual 68, 3, 95, 2, 0) := by decide +kernel
theorem e94_88 {L : pj_Loc} {st : List Value} {N S : Nat} {H : pj_Heap} {o : Option Value × pj_Mem} {M' : pj_Mem} {x0 : Nat} {x1 : Int32} {r : Int32} (h4 : pj_le4 st = true) (hu : pj_isU 6 (H x0) = true) (h1 : pj_Ends 95 (0, [some (.ref x0), some (.int x1)], [], (N, S, H)) (some (.int r), M')) (h2 : pj_Ends 94 (91, L, .int r :: st, M') o) : pj_Ends 94 (88, L, .int x1 :: .ref x0 :: st, (N, S, H)) o := ec_v2 q94_88 (Or.inl rfl) h4 hu rfl h1 h2
theorem q94_91 : pj_row 94 91 = some (.ifCond .ne 14, 3, 105, 0, 0) := by decide +kernel
theorem s94_91 {L : pj_Loc} {st : List Value} {M : pj_Mem} {x : Int32} : pj_step 94 (91, L, .int x :: st, M) = some (if ¬ x = 0 then 105 else 94, L, st, M) := st_if_ne q94_91
theorem x94_91 {L : pj_Loc} {st : List Value} {M : pj_Mem} {x : Int32} {o9 : Option Value × pj_Mem} : pj_Ends 94 (91, L, .int x :: st, M) o9 = pj_Ends 94 (if ¬ x = 0 then 105 else 94, L, st, M) o9 := pj_xs (s94_91)
theorem q94_94 : pj_row 94 94 = some (.aload_n 0, 1, 0, 0, 0) := by decide +kernel
theorem s94_94 {st : List Value} {M : pj_Mem} {l : pj_Loc} {x : Nat} : pj_step 94 (94, some (.ref x) :: l, st, M) = some (95, some (.ref x) :: l, .ref x :: st, M) := st_aload_n q94_94 rfl
theorem x94_94 {st : List Value} {M : pj_Mem} {l : pj_Loc} {x : Nat} {o9 : Option Value × pj_Mem} : pj_Ends 94 (94, some (.ref x) :: l, st, M) o9 = pj_Ends 94 (95, some (.ref x) :: l, .ref x :: st, M) o9 := pj_xs (s94_94)
theorem q94_95 : pj_row 94 95 = some (.getfield 7, 3, 6, 0, 0) := by decide +kernel
theorem s94_95 {L : pj_Loc} {st : List Value} {N S : Nat} {H : pj_Heap} {o : Nat} : pj_step 94 (95, L, .ref o :: st, (N, S, H)) = pj_pv 98 L st (N, S, H) (pj_fld (H o) 6 0) := st_getfield q94_95
theorem x94_95 {L : pj_Loc} {st : List Value} {N S : Nat} {H : pj_Heap} {o : Nat} {o9 : Option Value × pj_Mem} : pj_Ends 94 (95, L, .ref o :: st, (N, S, H)) o9 = pj_then 94 o9 (pj_pv 98 L st (N, S, H) (pj_fld (H o) 6 0)) := pj_xt q94_95 rfl (pj_cl_nc rfl) (s94_95)
theorem q94_98 : pj_row 94 98 = some (.bipush 26, 2, 0, 0, 0) := by decide +kernel
theorem s94_98 {L : pj_Loc} {st : List Value} {M : pj_Mem}  : pj_step 94 (98, L, st, M) = some (100, L, .int 26 :: st, M) := st_bipush q94_98 (by decide +kernel)
theorem x94_98 {L : pj_Loc} {st : List Value} {M : pj_Mem}  {o9 : Option Value × pj_Mem} : pj_Ends 94 (98, L, st, M) o9 = pj_Ends 94 (100, L, .int 26 :: st, M) o9 := pj_xs (s94_98)
theorem q94_100 : pj_row 94 100 = some (.iaload, 1, 0, 0, 0) := by decide +kernel
theorem s94_100 {L : pj_Loc} {st : List Value} {N S : Nat} {H : pj_Heap} {o : Nat} {i : Int32} : pj_step 94 (100, L, .int i :: .ref o :: st, (N, S, H)) = pj_pi 101 L st (N, S, H) (pj_arl (H o) 0 i) := st_iaload q94_100
theorem x94_100 {L : pj_Loc} {st : List Value} {N S : Nat} {H : pj_Heap} {o : Nat} {i : Int32} {o9 : Option Value × pj_Mem} : pj_Ends 94 (100, L, .int i :: .ref o :: st, (N, S, H)) o9 = pj_then 94 o9 (pj_pi 101 L st (N, S, H) (pj_arl (H o) 0 i)) := pj_xt q94_100 rfl (pj_cl_nc rfl) (s94_100)
theorem q94_101 : pj_row 94 101 = some (.iconst 1, 1, 0, 0, 0) := by decide +kernel
theorem s94_101 {L : pj_Loc} {st : List Value} {M : pj_Mem}  : pj_step 94 (101, L, st, M) = some (102, L, .int 1 :: st, M) := st_iconst q94_101 (by decide +kernel)
theorem x94_101 {L : pj_Loc} {st : List Value} {M : pj_Mem}  {o9 : Option Value × pj_Mem} : pj_Ends 94 (101, L, st, M) o9 = pj_Ends 94 (102, L, .int 1 :: st, M) o9 := pj_xs (s94_101)
theorem q94_102 : pj_row 94 102 = some (.if_icmp .ne 7, 3, 109, 0, 0) := by decide +kernel
theorem s94_102 {L : pj_Loc} {st : List Value} {M : pj_Mem} {x y : Int32} : pj_step 94 (102, L, .int y :: .int x :: st, M) = some (if ¬ x = y then 109 else 105, L, st, M) := st_icmp_ne q94_102
theorem x94_102 {L : pj_Loc} {st : List Value} {M : pj_Mem} {x y : Int32} {o9 : Option Value × pj_Mem} : pj_Ends 94 (102, L, .int y :: .int x :: st, M) o9 = pj_Ends 94 (if ¬ x = y then 109 else 105, L, st, M) o9 := pj_xs (s94_102)
theorem q94_105 : pj_row 94 105 = some (.iconst 1, 1, 0, 0, 0) := by decide +kernel
theorem s94_105 {L : pj_Loc} {st : List Value} {M : pj_Mem}  : pj_step 94 (105, L, st, M) = some (106, L, .int 1 :: st, M) := st_iconst q94_105 (by decide +kernel)
theorem x94_105 {L : pj_Loc} {st : List Value} {M : pj_Mem}  {o9 : Option Value × pj_Mem} : pj_Ends 94 (105, L, st, M) o9 = pj_Ends 94 (106, L, .int 1 :: st, M) o9 := pj_xs (s94_105)
theorem q94_106 : pj_row 94 106 = some (.goto 4, 3, 110, 0, 0) := by decide +kernel
theorem s94_106 {L : pj_Loc} {st : List Value} {M : pj_Mem}  : pj_step 94 (106, L, st, M) = some (110, L, st, M) := st_goto q94_106
theorem x94_106 {L : pj_Loc} {st : List Value} {M : pj_Mem}  {o9 : Option Value × pj_Mem} : pj_Ends 94 (106, L, st, M) o9 = pj_Ends 94 (110, L, st, M) o9 := pj_xs (s94_106)
theorem q94_109 : pj_row 94 109 = some (.iconst 0, 1, 0, 0, 0) := by decide +kernel
theorem s94_109 {L : pj_Loc} {st : List Value} {M : pj_Mem}  : pj_step 94 (109, L, st, M) = some (110, L, .int 0 :: st, M) := st_iconst q94_109 (by decide +kernel)
theorem x94_109 {L : pj_Loc} {st : List Value} {M : pj_Mem}  {o9 : Option Value × pj_Mem} : pj_Ends 94 (109, L, st, M) o9 = pj_Ends 94 (110, L, .int 0 :: st, M) o9 := pj_xs (s94_109)
theorem q94_110 : pj_row 94 110 = some (.ireturn, 1, 0, 0, 0) := by decide +kernel
theorem t94_110 {L : pj_Loc} {M : pj_Mem} {v : Int32} (hv : v = 0 ∨ v = 1) : pj_Ends 94 (110, L, [.int v], M) (some (.int v), M) := pj_Ends.ret q94_110 (pj_rtn_z rt94 hv)
theorem rt95 : pj_rt 95 = some .boolean := rfl
theorem q95_0 : pj_row 95 0 = some (.aload_n 0, 1, 0, 0, 0) := by decide +kernel
theorem s95_0 {st : List Value} {M : pj_Mem} {l : pj_Loc} {x : Nat} : pj_step 95 (0, some (.ref x) :: l, st, M) = some (1, some (.ref x) :: l, .ref x :: st, M) := st_aload_n q95_0 rfl
theorem x95_0 {st : List Value} {M : pj_Mem} {l : pj_Loc} {x : Nat} {o9 : Option Value × pj_Mem} : pj_Ends 95 (0, some (.ref x) :: l, st, M) o9 = pj_Ends 95 (1, some (.ref x) :: l, .ref x :: st, M) o9 := pj_xs (s95_0)
theorem q95_1 : pj_row 95 1 = some (.getfield 7, 3, 6, 0, 0) := by decide +kernel
theorem s95_1 {L : pj_Loc} {st : List Value} {N S : Nat} {H : pj_Heap} {o : Nat} : pj_step 95 (1, L, .ref o :: st, (N, S, H)) = pj_pv 4 L st (N, S, H) (pj_fld (H o) 6 0) := st_getfield q95_1
theorem x95_1 {L : pj_Loc} {st : List Value} {N S : Nat} {H : pj_Heap} {o : Nat} {o9 : Option Value × pj_Mem} : pj_Ends 95 (1, L, .ref o :: st, (N, S, H)) o9 = pj_then 95 o9 (pj_pv 4 L st (N, S, H) (pj_fld (H o) 6 0)) := pj_xt q95_1 rfl (pj_cl_nc rfl) (s95_1)
theorem q95_4 : pj_row 95 4 = some (.bipush 23, 2, 0, 0, 0) := by decide +kernel
theorem s95_4 {L : pj_Loc} {st : List Value} {M : pj_Mem}  : pj_step 95 (4, L, st, M) = some (6, L, .int 23 :: st, M) := st_bipush q95_4 (by decide +kernel)
theorem x95_4 {L : pj_Loc} {st : List Value} {M : pj_Mem}  {o9 : Option Value × pj_Mem} : pj_Ends 95 (4, L, st, M) o9 = pj_Ends 95 (6, L, .int 23 :: st, M) o9 := pj_xs (s95_4)
theorem q95_6 : pj_row 95 6 = some (.iload_n 1, 1, 0, 0, 0) := by decide +kernel
theorem s95_6 {st : List Value} {M : pj_Mem} {l : pj_Loc} {a0 : Option Value} {x : Int32} : pj_step 95 (6, a0 :: some (.int x) :: l, st, M) = some (7, a0 :: some (.int x) :: l, .int x :: st, M) := st_iload_n q95_6 rfl
theorem x95_6 {st : List Value} {M : pj_Mem} {l : pj_Loc} {a0 : Option Value} {x : Int32} {o9 : Option Value × pj_Mem} : pj_Ends 95 (6, a0 :: some (.int x) :: l, st, M) o9 = pj_Ends 95 (7, a0 :: some (.int x) :: l, .int x :: st, M) o9 := pj_xs (s95_6)
theorem q95_7 : pj_row 95 7 = some (.iadd, 1, 0, 0, 0) := by decide +kernel
theorem s95_7 {L : pj_Loc} {st : List Value} {M : pj_Mem} {x y : Int32} : pj_step 95 (7, L, .int y :: .int x :: st, M) = some (8, L, .int (x + y) :: st, M) := st_iadd q95_7
theorem x95_7 {L : pj_Loc} {st : List Value} {M : pj_Mem} {x y : Int32} {o9 : Option Value × pj_Mem} : pj_Ends 95 (7, L, .int y :: .int x :: st, M) o9 = pj_Ends 95 (8, L, .int (x + y) :: st, M) o9 := pj_xs (s95_7)
theorem q95_8 : pj_row 95 8 = some (.iaload, 1, 0, 0, 0) := by decide +kernel
theorem s95_8 {L : pj_Loc} {st : List Value} {N S : Nat} {H : pj_Heap} {o : Nat} {i : Int32} : pj_step 95 (8, L, .int i :: .ref o :: st, (N, S, H)) = pj_pi 9 L st (N, S, H) (pj_arl (H o) 0 i) := st_iaload q95_8
theorem x95_8 {L : pj_Loc} {st : List Value} {N S : Nat} {H : pj_Heap} {o : Nat} {i : Int32} {o9 : Option Value × pj_Mem} : pj_Ends 95 (8, L, .int i :: .ref o :: st, (N, S, H)) o9 = pj_then 95 o9 (pj_pi 9 L st (N, S, H) (pj_arl (H o) 0 i)) := pj_xt q95_8 rfl (pj_cl_nc rfl) (s95_8)
theorem q95_9 : pj_row 95 9 = some (.bipush (-6), 2, 0, 0, 0) := by decide +kernel
theorem s95_9 {L : pj_Loc} {st : List Value} {M : pj_Mem}  : pj_step 95 (9, L, st, M) = some (11, L, .int (-6) :: st, M) := st_bipush q95_9 (by decide +kernel)
theorem x95_9 {L : pj_Loc} {st : List Value} {M : pj_Mem}  {o9 : Option Value × pj_Mem} : pj_Ends 95 (9, L, st, M) o9 = pj_Ends 95 (11, L, .int (-6) :: st, M) o9 := pj_xs (s95_9)
theorem q95_11 : pj_row 95 11 = some (.if_icmp .eq 33, 3, 44, 0, 0) := by decide +kernel
theorem s95_11 {L : pj_Loc} {st : List Value} {M : pj_Mem} {x y : Int32} : pj_step 95 (11, L, .int y :: .int x :: st, M) = some (if x = y then 44 else 14, L, st, M) := st_icmp_eq q95_11
theorem x95_11 {L : pj_Loc} {st : List Value} {M : pj_Mem} {x y : Int32} {o9 : Option Value × pj_Mem} : pj_Ends 95 (11, L, .int y :: .int x :: st, M) o9 = pj_Ends 95 (if x = y then 44 else 14, L, st, M) o9 := pj_xs (s95_11)
theorem q95_14 : pj_row 95 14 = some (.aload_n 0, 1, 0, 0, 0) := by decide +kernel
theorem s95_14 {st : List Value} {M : pj_Mem} {l : pj_Loc} {x : Nat} : pj_step 95 (14, some (.ref x) :: l, st, M) = some (15, some (.ref x) :: l, .ref x :: st, M) := st_aload_n q95_14 rfl
theorem x95_14 {st : List Value} {M : pj_Mem} {l : pj_Loc} {x : Nat} {o9 : Option Value × pj_Mem} : pj_Ends 95 (14, some (.ref x) :: l, st, M) o9 = pj_Ends 95 (15, some (.ref x) :: l, .ref x :: st, M) o9 := pj_xs (s95_14)
theorem q95_15 : pj_row 95 15 = some (.getfield 7, 3, 6, 0, 0) := by decide +kernel
theorem s95_15 {L : pj_Loc} {st : List Value} {N S : Nat} {H : pj_Heap} {o : Nat} : pj_step 95 (15, L, .ref o :: st, (N, S, H)) = pj_pv 18 L st (N, S, H) (pj_fld (H o) 6 0) := st_getfield q95_15
theorem x95_15 {L : pj_Loc} {st : List Value} {N S : Nat} {H : pj_Heap} {o : Nat} {o9 : Option Value × pj_Mem} : pj_Ends 95 (15, L, .ref o :: st, (N, S, H)) o9 = pj_then 95 o9 (pj_pv 18 L st (N, S, H) (pj_fld (H o) 6 0)) := pj_xt q95_15 rfl (pj_cl_nc rfl) (s95_15)
theorem q95_18 : pj_row 95 18 = some (.bipush 6, 2, 0, 0, 0) := by decide +kernel
theorem s95_18 {L : pj_Loc} {st : List Value} {M : pj_Mem}  : pj_step 95 (18, L, st, M) = some (20, L, .int 6 :: st, M) := st_bipush q95_18 (by decide +kernel)
theorem x95_18 {L : pj_Loc} {st : List Value} {M : pj_Mem}  {o9 : Option Value × pj_Mem} : pj_Ends 95 (18, L, st, M) o9 = pj_Ends 95 (20, L, .int 6 :: st, M) o9 := pj_xs (s95_18)
theorem q95_20 : pj_row 95 20 = some (.iaload, 1, 0, 0, 0) := by decide +kernel
theorem s95_20 {L : pj_Loc} {st : List Value} {N S : Nat} {H : pj_Heap} {o : Nat} {i : Int32} : pj_step 95 (20, L, .int i :: .ref o :: st, (N, S, H)) = pj_pi 21 L st (N, S, H) (pj_arl (H o) 0 i) := st_iaload q95_20
theorem x95_20 {L : pj_Loc} {st : List Value} {N S : Nat} {H : pj_Heap} {o : Nat} {i : Int32} {o9 : Option Value × pj_Mem} : pj_Ends 95 (20, L, .int i :: .ref o :: st, (N, S, H)) o9 = pj_then 95 o9 (pj_pi 21 L st (N, S, H) (pj_arl (H o) 0 i)) := pj_xt q95_20 rfl (pj_cl_nc rfl) (s95_20)
theorem q95_21 : pj_row 95 21 = some (.aload_n 0, 1, 0, 0, 0) := by decide +kernel
theorem s95_21 {st : List Value} {M : pj_Mem} {l : pj_Loc} {x : Nat} : pj_step 95 (21, some (.ref x) :: l, st, M) = some (22, some (.ref x) :: l, .ref x :: st, M) := st_aload_n q95_21 rfl
theorem x95_21 {st : List Value} {M : pj_Mem} {l : pj_Loc} {x : Nat} {o9 : Option Value × pj_Mem} : pj_Ends 95 (21, some (.ref x) :: l, st, M) o9 = pj_Ends 95 (22, some (.ref x) :: l, .ref x :: st, M) o9 := pj_xs (s95_21)
theorem q95_22 : pj_row 95 22 = some (.getfield 7, 3, 6, 0, 0) := by decide +kernel
theorem s95_22 {L : pj_Loc} {st : List Value} {N S : Nat} {H : pj_Heap} {o : Nat} : pj_step 95 (22, L, .ref o :: st, (N, S, H)) = pj_pv 25 L st (N, S, H) (pj_fld (H o) 6 0) := st_getfield q95_22
theorem x95_22 {L : pj_Loc} {st : List Value} {N S : Nat} {H : pj_Heap} {o : Nat} {o9 : Option Value × pj_Mem} : pj_Ends 95 (22, L, .ref o :: st, (N, S, H)) o9 = pj_then 95 o9 (pj_pv 25 L st (N, S, H) (pj_fld (H o) 6 0)) := pj_xt q95_22 rfl (pj_cl_nc rfl) (s95_22)
theorem q95_25 : pj_row 95 25 = some (.bipush 23, 2, 0, 0, 0) := by decide +kernel
theorem s95_25 {L : pj_Loc} {st : List Value} {M : pj_Mem}  : pj_step 95 (25, L, st, M) = some (27, L, .int 23 :: st, M) := st_bipush q95_25 (by decide +kernel)
theorem x95_25 {L : pj_Loc} {st : List Value} {M : pj_Mem}  {o9 : Option Value × pj_Mem} : pj_Ends 95 (25, L, st, M) o9 = pj_Ends 95 (27, L, .int 23 :: st, M) o9 := pj_xs (s95_25)
theorem q95_27 : pj_row 95 27 = some (.iload_n 1, 1, 0, 0, 0) := by decide +kernel
theorem s95_27 {st : List Value} {M : pj_Mem} {l : pj_Loc} {a0 : Option Value} {x : Int32} : pj_step 95 (27, a0 :: some (.int x) :: l, st, M) = some (28, a0 :: some (.int x) :: l, .int x :: st, M) := st_iload_n q95_27 rfl
theorem x95_27 {st : List Value} {M : pj_Mem} {l : pj_Loc} {a0 : Option Value} {x : Int32} {o9 : Option Value × pj_Mem} : pj_Ends 95 (27, a0 :: some (.int x) :: l, st, M) o9 = pj_Ends 95 (28, a0 :: some (.int x) :: l, .int x :: st, M) o9 := pj_xs (s95_27)
theorem q95_28 : pj_row 95 28 = some (.iadd, 1, 0, 0, 0) := by decide +kernel
theorem s95_28 {L : pj_Loc} {st : List Value} {M : pj_Mem} {x y : Int32} : pj_step 95 (28, L, .int y :: .int x :: st, M) = some (29, L, .int (x + y) :: st, M) := st_iadd q95_28
theorem x95_28 {L : pj_Loc} {st : List Value} {M : pj_Mem} {x y : Int32} {o9 : Option Value × pj_Mem} : pj_Ends 95 (28, L, .int y :: .int x :: st, M) o9 = pj_Ends 95 (29, L, .int (x + y) :: st, M) o9 := pj_xs (s95_28)
theorem q95_29 : pj_row 95 29 = some (.iaload, 1, 0, 0, 0) := by decide +kernel
theorem s95_29 {L : pj_Loc} {st : List Value} {N S : Nat} {H : pj_Heap} {o : Nat} {i : Int32} : pj_step 95 (29, L, .int i :: .ref o :: st, (N, S, H)) = pj_pi 30 L st (N, S, H) (pj_arl (H o) 0 i) := st_iaload q95_29
theorem x95_29 {L : pj_Loc} {st : List Value} {N S : Nat} {H : pj_Heap} {o : Nat} {i : Int32} {o9 : Option Value × pj_Mem} : pj_Ends 95 (29, L, .int i :: .ref o :: st, (N, S, H)) o9 = pj_then 95 o9 (pj_pi 30 L st (N, S, H) (pj_arl (H o) 0 i)) := pj_xt q95_29 rfl (pj_cl_nc rfl) (s95_29)
theorem q95_30 : pj_row 95 30 = some (.isub, 1, 0, 0, 0) := by decide +kernel
theorem s95_30 {L : pj_Loc} {st : List Value} {M : pj_Mem} {x y : Int32} : pj_step 95 (30, L, .int y :: .int x :: st, M) = some (31, L, .int (x - y) :: st, M) := st_isub q95_30
theorem x95_30 {L : pj_Loc} {st : List Value} {M : pj_Mem} {x y : Int32} {o9 : Option Value × pj_Mem} : pj_Ends 95 (30, L, .int y :: .int x :: st, M) o9 = pj_Ends 95 (31, L, .int (x - y) :: st, M) o9 := pj_xs (s95_30)
theorem q95_31 : pj_row 95 31 = some (.aload_n 0, 1, 0, 0, 0) := by decide +kernel
theorem s95_31 {st : List Value} {M : pj_Mem} {l : pj_Loc} {x : Nat} : pj_step 95 (31, some (.ref x) :: l, st, M) = some (32, some (.ref x) :: l, .ref x :: st, M) := st_aload_n q95_31 rfl
theorem x95_31 {st : List Value} {M : pj_Mem} {l : pj_Loc} {x : Nat} {o9 : Option Value × pj_Mem} : pj_Ends 95 (31, some (.ref x) :: l, st, M) o9 = pj_Ends 95 (32, some (.ref x) :: l, .ref x :: st, M) o9 := pj_xs (s95_31)
theorem q95_32 : pj_row 95 32 = some (.getfield 7, 3, 6, 0, 0) := by decide +kernel
theorem s95_32 {L : pj_Loc} {st : List Value} {N S : Nat} {H : pj_Heap} {o : Nat} : pj_step 95 (32, L, .ref o :: st, (N, S, H)) = pj_pv 35 L st (N, S, H) (pj_fld (H o) 6 0) := st_getfield q95_32
theorem x95_32 {L : pj_Loc} {st : List Value} {N S : Nat} {H : pj_Heap} {o : Nat} {o9 : Option Value × pj_Mem} : pj_Ends 95 (32, L, .ref o :: st, (N, S, H)) o9 = pj_then 95 o9 (pj_pv 35 L st (N, S, H) (pj_fld (H o) 6 0)) := pj_xt q95_32 rfl (pj_cl_nc rfl) (s95_32)
theorem q95_35 : pj_row 95 35 = some (.iconst 5, 1, 0, 0, 0) := by decide +kernel
theorem s95_35 {L : pj_Loc} {st : List Value} {M : pj_Mem}  : pj_step 95 (35, L, st, M) = some (36, L, .int 5 :: st, M) := st_iconst q95_35 (by decide +kernel)
theorem x95_35 {L : pj_Loc} {st : List Value} {M : pj_Mem}  {o9 : Option Value × pj_Mem} : pj_Ends 95 (35, L, st, M) o9 = pj_Ends 95 (36, L, .int 5 :: st, M) o9 := pj_xs (s95_35)
theorem q95_36 : pj_row 95 36 = some (.iaload, 1, 0, 0, 0) := by decide +kernel
theorem s95_36 {L : pj_Loc} {st : List Value} {N S : Nat} {H : pj_Heap} {o : Nat} {i : Int32} : pj_step 95 (36, L, .int i :: .ref o :: st, (N, S, H)) = pj_pi 37 L st (N, S, H) (pj_arl (H o) 0 i) := st_iaload q95_36
theorem x95_36 {L : pj_Loc} {st : List Value} {N S : Nat} {H : pj_Heap} {o : Nat} {i : Int32} {o9 : Option Value × pj_Mem} : pj_Ends 95 (36, L, .int i :: .ref o :: st, (N, S, H)) o9 = pj_then 95 o9 (pj_pi 37 L st (N, S, H) (pj_arl (H o) 0 i)) := pj_xt q95_36 rfl (pj_cl_nc rfl) (s95_36)
theorem q95_37 : pj_row 95 37 = some (.if_icmp .lt 7, 3, 44, 0, 0) := by decide +kernel
theorem s95_37 {L : pj_Loc} {st : List Value} {M : pj_Mem} {x y : Int32} : pj_step 95 (37, L, .int y :: .int x :: st, M) = some (if x < y then 44 else 40, L, st, M) := st_icmp_lt q95_37
theorem x95_37 {L : pj_Loc} {st : List Value} {M : pj_Mem} {x y : Int32} {o9 : Option Value × pj_Mem} : pj_Ends 95 (37, L, .int y :: .int x :: st, M) o9 = pj_Ends 95 (if x < y then 44 else 40, L, st, M) o9 := pj_xs (s95_37)
theorem q95_40 : pj_row 95 40 = some (.iconst 1, 1, 0, 0, 0) := by decide +kernel
theorem s95_40 {L : pj_Loc} {st : List Value} {M : pj_Mem}  : pj_step 95 (40, L, st, M) = some (41, L, .int 1 :: st, M) := st_iconst q95_40 (by decide +kernel)
theorem x95_40 {L : pj_Loc} {st : List Value} {M : pj_Mem}  {o9 : Option Value × pj_Mem} : pj_Ends 95 (40, L, st, M) o9 = pj_Ends 95 (41, L, .int 1 :: st, M) o9 := pj_xs (s95_40)
theorem q95_41 : pj_row 95 41 = some (.goto 4, 3, 45, 0, 0) := by decide +kernel
theorem s95_41 {L : pj_Loc} {st : List Value} {M : pj_Mem}  : pj_step 95 (41, L, st, M) = some (45, L, st, M) := st_goto q95_41
theorem x95_41 {L : pj_Loc} {st : List Value} {M : pj_Mem}  {o9 : Option Value × pj_Mem} : pj_Ends 95 (41, L, st, M) o9 = pj_Ends 95 (45, L, st, M) o9 := pj_xs (s95_41)
theorem q95_44 : pj_row 95 44 = some (.iconst 0, 1, 0, 0, 0) := by decide +kernel
theorem s95_44 {L : pj_Loc} {st : List Value} {M : pj_Mem}  : pj_step 95 (44, L, st, M) = some (45, L, .int 0 :: st, M) := st_iconst q95_44 (by decide +kernel)
theorem x95_44 {L : pj_Loc} {st : List Value} {M : pj_Mem}  {o9 : Option Value × pj_Mem} : pj_Ends 95 (44, L, st, M) o9 = pj_Ends 95 (45, L, .int 0 :: st, M) o9 := pj_xs (s95_44)
theorem q95_45 : pj_row 95 45 = some (.ireturn, 1, 0, 0, 0) := by decide +kernel
theorem t95_45 {L : pj_Loc} {M : pj_Mem} {v : Int32} (hv : v = 0 ∨ v = 1) : pj_Ends 95 (45, L, [.int v], M) (some (.int v), M) := pj_Ends.ret q95_45 (pj_rtn_z rt95 hv)
theorem rt96 : pj_rt 96 = some .boolean := rfl
theorem q96_0 : pj_row 96 0 = some (.aload_n 0, 1, 0, 0, 0) := by decide +kernel
theorem s96_0 {st : List Value} {M : pj_Mem} {l : pj_Loc} {x : Nat} : pj_step 96 (0, some (.ref x) :: l, st, M) = some (1, some (.ref x) :: l, .ref x :: st, M) := st_aload_n q96_0 rfl
theorem x96_0 {st : List Value} {M : pj_Mem} {l : pj_Loc} {x : Nat} {o9 : Option Value × pj_Mem} : pj_Ends 96 (0, some (.ref x) :: l, st, M) o9 = pj_Ends 96 (1, some (.ref x) :: l, .ref x :: st, M) o9 := pj_xs (s96_0)
theorem q96_1 : pj_row 96 1 = some (.getfield 7, 3, 6, 0, 0) := by decide +kernel
theorem s96_1 {L : pj_Loc} {st : List Value} {N S : Nat} {H : pj_Heap} {o : Nat} : pj_step 96 (1, L, .ref o :: st, (N, S, H)) = pj_pv 4 L st (N, S, H) (pj_fld (H o) 6 0) := st_getfield q96_1
theorem x96_1 {L : pj_Loc} {st : List Value} {N S : Nat} {H : pj_Heap} {o : Nat} {o9 : Option Value × pj_Mem} : pj_Ends 96 (1, L, .ref o :: st, (N, S, H)) o9 = pj_then 96 o9 (pj_pv 4 L st (N, S, H) (pj_fld (H o) 6 0)) := pj_xt q96_1 rfl (pj_cl_nc rfl) (s96_1)
theorem q96_4 : pj_row 96 4 = some (.bipush 29, 2, 0, 0, 0) := by decide +kernel
theorem s96_4 {L : pj_Loc} {st : List Value} {M : pj_Mem}  : pj_step 96 (4, L, st, M) = some (6, L, .int 29 :: st, M) := st_bipush q96_4 (by decide +kernel)
theorem x96_4 {L : pj_Loc} {st : List Value} {M : pj_Mem}  {o9 : Option Value × pj_Mem} : pj_Ends 96 (4, L, st, M) o9 = pj_Ends 96 (6, L, .int 29 :: st, M) o9 := pj_xs (s96_4)
theorem q96_6 : pj_row 96 6 = some (.iaload, 1, 0, 0, 0) := by decide +kernel
theorem s96_6 {L : pj_Loc} {st : List Value} {N S : Nat} {H : pj_Heap} {o : Nat} {i : Int32} : pj_step 96 (6, L, .int i :: .ref o :: st, (N, S, H)) = pj_pi 7 L st (N, S, H) (pj_arl (H o) 0 i) := st_iaload q96_6
theorem x96_6 {L : pj_Loc} {st : List Value} {N S : Nat} {H : pj_Heap} {o : Nat} {i : Int32} {o9 : Option Value × pj_Mem} : pj_Ends 96 (6, L, .int i :: .ref o :: st, (N, S, H)) o9 = pj_then 96 o9 (pj_pi 7 L st (N, S, H) (pj_arl (H o) 0 i)) := pj_xt q96_6 rfl (pj_cl_nc rfl) (s96_6)
theorem q96_7 : pj_row 96 7 = some (.bipush (-6), 2, 0, 0, 0) := by decide +kernel
theorem s96_7 {L : pj_Loc} {st : List Value} {M : pj_Mem}  : pj_step 96 (7, L, st, M) = some (9, L, .int (-6) :: st, M) := st_bipush q96_7 (by decide +kernel)
theorem x96_7 {L : pj_Loc} {st : List Value} {M : pj_Mem}  {o9 : Option Value × pj_Mem} : pj_Ends 96 (7, L, st, M) o9 = pj_Ends 96 (9, L, .int (-6) :: st, M) o9 := pj_xs (s96_7)
theorem q96_9 : pj_row 96 9 = some (.if_icmp .eq 23, 3, 32, 0, 0) := by decide +kernel
theorem s96_9 {L : pj_Loc} {st : List Value} {M : pj_Mem} {x y : Int32} : pj_step 96 (9, L, .int y :: .int x :: st, M) = some (if x = y then 32 else 12, L, st, M) := st_icmp_eq q96_9
theorem x96_9 {L : pj_Loc} {st : List Value} {M : pj_Mem} {x y : Int32} {o9 : Option Value × pj_Mem} : pj_Ends 96 (9, L, .int y :: .int x :: st, M) o9 = pj_Ends 96 (if x = y then 32 else 12, L, st, M) o9 := pj_xs (s96_9)
theorem q96_12 : pj_row 96 12 = some (.aload_n 0, 1, 0, 0, 0) := by decide +kernel
theorem s96_12 {st : List Value} {M : pj_Mem} {l : pj_Loc} {x : Nat} : pj_step 96 (12, some (.ref x) :: l, st, M) = some (13, some (.ref x) :: l, .ref x :: st, M) := st_aload_n q96_12 rfl
theorem x96_12 {st : List Value} {M : pj_Mem} {l : pj_Loc} {x : Nat} {o9 : Option Value × pj_Mem} : pj_Ends 96 (12, some (.ref x) :: l, st, M) o9 = pj_Ends 96 (13, some (.ref x) :: l, .ref x :: st, M) o9 := pj_xs (s96_12)
theorem q96_13 : pj_row 96 13 = some (.getfield 7, 3, 6, 0, 0) := by decide +kernel
theorem s96_13 {L : pj_Loc} {st : List Value} {N S : Nat} {H : pj_Heap} {o : Nat} : pj_step 96 (13, L, .ref o :: st, (N, S, H)) = pj_pv 16 L st (N, S, H) (pj_fld (H o) 6 0) := st_getfield q96_13
theorem x96_13 {L : pj_Loc} {st : List Value} {N S : Nat} {H : pj_Heap} {o : Nat} {o9 : Option Value × pj_Mem} : pj_Ends 96 (13, L, .ref o :: st, (N, S, H)) o9 = pj_then 96 o9 (pj_pv 16 L st (N, S, H) (pj_fld (H o) 6 0)) := pj_xt q96_13 rfl (pj_cl_nc rfl) (s96_13)
theorem q96_16 : pj_row 96 16 = some (.bipush 6, 2, 0, 0, 0) := by decide +kernel
theorem s96_16 {L : pj_Loc} {st : List Value} {M : pj_Mem}  : pj_step 96 (16, L, st, M) = some (18, L, .int 6 :: st, M) := st_bipush q96_16 (by decide +kernel)
theorem x96_16 {L : pj_Loc} {st : List Value} {M : pj_Mem}  {o9 : Option Value × pj_Mem} : pj_Ends 96 (16, L, st, M) o9 = pj_Ends 96 (18, L, .int 6 :: st, M) o9 := pj_xs (s96_16)
theorem q96_18 : pj_row 96 18 = some (.iaload, 1, 0, 0, 0) := by decide +kernel
theorem s96_18 {L : pj_Loc} {st : List Value} {N S : Nat} {H : pj_Heap} {o : Nat} {i : Int32} : pj_step 96 (18, L, .int i :: .ref o :: st, (N, S, H)) = pj_pi 19 L st (N, S, H) (pj_arl (H o) 0 i) := st_iaload q96_18
theorem x96_18 {L : pj_Loc} {st : List Value} {N S : Nat} {H : pj_Heap} {o : Nat} {i : Int32} {o9 : Option Value × pj_Mem} : pj_Ends 96 (18, L, .int i :: .ref o :: st, (N, S, H)) o9 = pj_then 96 o9 (pj_pi 19 L st (N, S, H) (pj_arl (H o) 0 i)) := pj_xt q96_18 rfl (pj_cl_nc rfl) (s96_18)
theorem q96_19 : pj_row 96 19 = some (.aload_n 0, 1, 0, 0, 0) := by decide +kernel
theorem s96_19 {st : List Value} {M : pj_Mem} {l : pj_Loc} {x : Nat} : pj_step 96 (19, some (.ref x) :: l, st, M) = some (20, some (.ref x) :: l, .ref x :: st, M) := st_aload_n q96_19 rfl
theorem x96_19 {st : List Value} {M : pj_Mem} {l : pj_Loc} {x : Nat} {o9 : Option Value × pj_Mem} : pj_Ends 96 (19, some (.ref x) :: l, st, M) o9 = pj_Ends 96 (20, some (.ref x) :: l, .ref x :: st, M) o9 := pj_xs (s96_19)
theorem q96_20 : pj_row 96 20 = some (.getfield 7, 3, 6, 0, 0) := by decide +kernel
theorem s96_20 {L : pj_Loc} {st : List Value} {N S : Nat} {H : pj_Heap} {o : Nat} : pj_step 96 (20, L, .ref o :: st, (N, S, H)) = pj_pv 23 L st (N, S, H) (pj_fld (H o) 6 0) := st_getfield q96_20
theorem x96_20 {L : pj_Loc} {st : List Value} {N S : Nat} {H : pj_Heap} {o : Nat} {o9 : Option Value × pj_Mem} : pj_Ends 96 (20, L, .ref o :: st, (N, S, H)) o9 = pj_then 96 o9 (pj_pv 23 L st (N, S, H) (pj_fld (H o) 6 0)) := pj_xt q96_20 rfl (pj_cl_nc rfl) (s96_20)
theorem q96_23 : pj_row 96 23 = some (.bipush 29, 2, 0, 0, 0) := by decide +kernel
theorem s96_23 {L : pj_Loc} {st : List Value} {M : pj_Mem}  : pj_step 96 (23, L, st, M) = some (25, L, .int 29 :: st, M) := st_bipush q96_23 (by decide +kernel)
theorem x96_23 {L : pj_Loc} {st : List Value} {M : pj_Mem}  {o9 : Option Value × pj_Mem} : pj_Ends 96 (23, L, st, M) o9 = pj_Ends 96 (25, L, .int 29 :: st, M) o9 := pj_xs (s96_23)
theorem q96_25 : pj_row 96 25 = some (.iaload, 1, 0, 0, 0) := by decide +kernel
theorem s96_25 {L : pj_Loc} {st : List Value} {N S : Nat} {H : pj_Heap} {o : Nat} {i : Int32} : pj_step 96 (25, L, .int i :: .ref o :: st, (N, S, H)) = pj_pi 26 L st (N, S, H) (pj_arl (H o) 0 i) := st_iaload q96_25
theorem x96_25 {L : pj_Loc} {st : List Value} {N S : Nat} {H : pj_Heap} {o : Nat} {i : Int32} {o9 : Option Value × pj_Mem} : pj_Ends 96 (25, L, .int i :: .ref o :: st, (N, S, H)) o9 = pj_then 96 o9 (pj_pi 26 L st (N, S, H) (pj_arl (H o) 0 i)) := pj_xt q96_25 rfl (pj_cl_nc rfl) (s96_25)
theorem q96_26 : pj_row 96 26 = some (.bipush 6, 2, 0, 0, 0) := by decide +kernel
theorem s96_26 {L : pj_Loc} {st : List Value} {M : pj_Mem}  : pj_step 96 (26, L, st, M) = some (28, L, .int 6 :: st, M) := st_bipush q96_26 (by decide +kernel)
theorem x96_26 {L : pj_Loc} {st : List Value} {M : pj_Mem}  {o9 : Option Value × pj_Mem} : pj_Ends 96 (26, L, st, M) o9 = pj_Ends 96 (28, L, .int 6 :: st, M) o9 := pj_xs (s96_26)
theorem q96_28 : pj_row 96 28 = some (.iadd, 1, 0, 0, 0) := by decide +kernel
theorem s96_28 {L : pj_Loc} {st : List Value} {M : pj_Mem} {x y : Int32} : pj_step 96 (28, L, .int y :: .int x :: st, M) = some (29, L, .int (x + y) :: st, M) := st_iadd q96_28
theorem x96_28 {L : pj_Loc} {st : List Value} {M : pj_Mem} {x y : Int32} {o9 : Option Value × pj_Mem} : pj_Ends 96 (28, L, .int y :: .int x :: st, M) o9 = pj_Ends 96 (29, L, .int (x + y) :: st, M) o9 := pj_xs (s96_28)
theorem q96_29 : pj_row 96 29 = some (.if_icmp .gt 7, 3, 36, 0, 0) := by decide +kernel
theorem s96_29 {L : pj_Loc} {st : List Value} {M : pj_Mem} {x y : Int32} : pj_step 96 (29, L, .int y :: .int x :: st, M) = some (if y < x then 36 else 32, L, st, M) := st_icmp_gt q96_29
theorem x96_29 {L : pj_Loc} {st : List Value} {M : pj_Mem} {x y : Int32} {o9 : Option Value × pj_Mem} : pj_Ends 96 (29, L, .int y :: .int x :: st, M) o9 = pj_Ends 96 (if y < x then 36 else 32, L, st, M) o9 := pj_xs (s96_29)
theorem q96_32 : pj_row 96 32 = some (.iconst 1, 1, 0, 0, 0) := by decide +kernel
theorem s96_32 {L : pj_Loc} {st : List Value} {M : pj_Mem}  : pj_step 96 (32, L, st, M) = some (33, L, .int 1 :: st, M) := st_iconst q96_32 (by decide +kernel)
theorem x96_32 {L : pj_Loc} {st : List Value} {M : pj_Mem}  {o9 : Option Value × pj_Mem} : pj_Ends 96 (32, L, st, M) o9 = pj_Ends 96 (33, L, .int 1 :: st, M) o9 := pj_xs (s96_32)
theorem q96_33 : pj_row 96 33 = some (.goto 4, 3, 37, 0, 0) := by decide +kernel
theorem s96_33 {L : pj_Loc} {st : List Value} {M : pj_Mem}  : pj_step 96 (33, L, st, M) = some (37, L, st, M) := st_goto q96_33
theorem x96_33 {L : pj_Loc} {st : List Value} {M : pj_Mem}  {o9 : Option Value × pj_Mem} : pj_Ends 96 (33, L, st, M) o9 = pj_Ends 96 (37, L, st, M) o9 := pj_xs (s96_33)
theorem q96_36 : pj_row 96 36 = some (.iconst 0, 1, 0, 0, 0) := by decide +kernel
theorem s96_36 {L : pj_Loc} {st : List Value} {M : pj_Mem}  : pj_step 96 (36, L, st, M) = some (37, L, .int 0 :: st, M) := st_iconst q96_36 (by decide +kernel)
theorem x96_36 {L : pj_Loc} {st : List Value} {M : pj_Mem}  {o9 : Option Value × pj_Mem} : pj_Ends 96 (36, L, st, M) o9 = pj_Ends 96 (37, L, .int 0 :: st, M) o9 := pj_xs (s96_36)
theorem q96_37 : pj_row 96 37 = some (.ireturn, 1, 0, 0, 0) := by decide +kernel
theorem t96_37 {L : pj_Loc} {M : pj_Mem} {v : Int32} (hv : v = 0 ∨ v = 1) : pj_Ends 96 (37, L, [.int v], M) (some (.int v), M) := pj_Ends.ret q96_37 (pj_rtn_z rt96 hv)
theorem rt97 : pj_rt 97 = none := rfl
theorem q97_0 : pj_row 97 0 = some (.aload_n 0, 1, 0, 0, 0) := by decide +kernel
theorem s97_0 {st : List Value} {M : pj_Mem} {l : pj_Loc} {x : Nat} : pj_step 97 (0, some (.ref x) :: l, st, M) = some (1, some (.ref x) :: l, .ref x :: st, M) := st_aload_n q97_0 rfl
theorem x97_0 {st : List Value} {M : pj_Mem} {l : pj_Loc} {x : Nat} {o9 : Option Value × pj_Mem} : pj_Ends 97 (0, some (.ref x) :: l, st, M) o9 = pj_Ends 97 (1, some (.ref x) :: l, .ref x :: st, M) o9 := pj_xs (s97_0)
theorem q97_1 : pj_row 97 1 = some (.getfield 7, 3, 6, 0, 0) := by decide +kernel
theorem s97_1 {L : pj_Loc} {st : List Value} {N S : Nat} {H : pj_Heap} {o : Nat} : pj_step 97 (1, L, .ref o :: st, (N, S, H)) = pj_pv 4 L st (N, S, H) (pj_fld (H o) 6 0) := st_getfield q97_1
theorem x97_1 {L : pj_Loc} {st : List Value} {N S : Nat} {H : pj_Heap} {o : Nat} {o9 : Option Value × pj_Mem} : pj_Ends 97 (1, L, .ref o :: st, (N, S, H)) o9 = pj_then 97 o9 (pj_pv 4 L st (N, S, H) (pj_fld (H o) 6 0)) := pj_xt q97_1 rfl (pj_cl_nc rfl) (s97_1)
theorem q97_4 : pj_row 97 4 = some (.bipush 30, 2, 0, 0, 0) := by decide +kernel
theorem s97_4 {L : pj_Loc} {st : List Value} {M : pj_Mem}  : pj_step 97 (4, L, st, M) = some (6, L, .int 30 :: st, M) := st_bipush q97_4 (by decide +kernel)
theorem x97_4 {L : pj_Loc} {st : List Value} {M : pj_Mem}  {o9 : Option Value × pj_Mem} : pj_Ends 97 (4, L, st, M) o9 = pj_Ends 97 (6, L, .int 30 :: st, M) o9 := pj_xs (s97_4)
theorem q97_6 : pj_row 97 6 = some (.iaload, 1, 0, 0, 0) := by decide +kernel
theorem s97_6 {L : pj_Loc} {st : List Value} {N S : Nat} {H : pj_Heap} {o : Nat} {i : Int32} : pj_step 97 (6, L, .int i :: .ref o :: st, (N, S, H)) = pj_pi 7 L st (N, S, H) (pj_arl (H o) 0 i) := st_iaload q97_6
theorem x97_6 {L : pj_Loc} {st : List Value} {N S : Nat} {H : pj_Heap} {o : Nat} {i : Int32} {o9 : Option Value × pj_Mem} : pj_Ends 97 (6, L, .int i :: .ref o :: st, (N, S, H)) o9 = pj_then 97 o9 (pj_pi 7 L st (N, S, H) (pj_arl (H o) 0 i)) := pj_xt q97_6 rfl (pj_cl_nc rfl) (s97_6)
theorem q97_7 : pj_row 97 7 = some (.bipush 12, 2, 0, 0, 0) := by decide +kernel
theorem s97_7 {L : pj_Loc} {st : List Value} {M : pj_Mem}  : pj_step 97 (7, L, st, M) = some (9, L, .int 12 :: st, M) := st_bipush q97_7 (by decide +kernel)
theorem x97_7 {L : pj_Loc} {st : List Value} {M : pj_Mem}  {o9 : Option Value × pj_Mem} : pj_Ends 97 (7, L, st, M) o9 = pj_Ends 97 (9, L, .int 12 :: st, M) o9 := pj_xs (s97_7)
theorem q97_9 : pj_row 97 9 = some (.if_icmp .ne 49, 3, 58, 0, 0) := by decide +kernel
theorem s97_9 {L : pj_Loc} {st : List Value} {M : pj_Mem} {x y : Int32} : pj_step 97 (9, L, .int y :: .int x :: st, M) = some (if ¬ x = y then 58 else 12, L, st, M) := st_icmp_ne q97_9
theorem x97_9 {L : pj_Loc} {st : List Value} {M : pj_Mem} {x y : Int32} {o9 : Option Value × pj_Mem} : pj_Ends 97 (9, L, .int y :: .int x :: st, M) o9 = pj_Ends 97 (if ¬ x = y then 58 else 12, L, st, M) o9 := pj_xs (s97_9)
theorem q97_12 : pj_row 97 12 = some (.iconst 0, 1, 0, 0, 0) := by decide +kernel
theorem s97_12 {L : pj_Loc} {st : List Value} {M : pj_Mem}  : pj_step 97 (12, L, st, M) = some (13, L, .int 0 :: st, M) := st_iconst q97_12 (by decide +kernel)
theorem x97_12 {L : pj_Loc} {st : List Value} {M : pj_Mem}  {o9 : Option Value × pj_Mem} : pj_Ends 97 (12, L, st, M) o9 = pj_Ends 97 (13, L, .int 0 :: st, M) o9 := pj_xs (s97_12)
theorem q97_13 : pj_row 97 13 = some (.istore_n 2, 1, 0, 0, 0) := by decide +kernel
theorem s97_13 {st : List Value} {M : pj_Mem} {l : pj_Loc} {a0 a1 a2 : Option Value} {x : Int32} (h : pj_long a1 = false) : pj_step 97 (13, a0 :: a1 :: a2 :: l, .int x :: st, M) = some (14, a0 :: a1 :: some (.int x) :: l, st, M) := st_istore_n q97_13 (pj_st_2 h)
theorem x97_13 {st : List Value} {M : pj_Mem} {l : pj_Loc} {a0 a1 a2 : Option Value} {x : Int32} (h : pj_long a1 = false) {o9 : Option Value × pj_Mem} : pj_Ends 97 (13, a0 :: a1 :: a2 :: l, .int x :: st, M) o9 = pj_Ends 97 (14, a0 :: a1 :: some (.int x) :: l, st, M) o9 := pj_xs (s97_13 h)
theorem q97_14 : pj_row 97 14 = some (.iload_n 2, 1, 0, 0, 0) := by decide +kernel
theorem s97_14 {st : List Value} {M : pj_Mem} {l : pj_Loc} {a0 a1 : Option Value} {x : Int32} : pj_step 97 (14, a0 :: a1 :: some (.int x) :: l, st, M) = some (15, a0 :: a1 :: some (.int x) :: l, .int x :: st, M) := st_iload_n q97_14 rfl
theorem x97_14 {st : List Value} {M : pj_Mem} {l : pj_Loc} {a0 a1 : Option Value} {x : Int32} {o9 : Option Value × pj_Mem} : pj_Ends 97 (14, a0 :: a1 :: some (.int x) :: l, st, M) o9 = pj_Ends 97 (15, a0 :: a1 :: some (.int x) :: l, .int x :: st, M) o9 := pj_xs (s97_14)
theorem q97_15 : pj_row 97 15 = some (.bipush 110, 2, 0, 0, 0) := by decide +kernel
theorem s97_15 {L : pj_Loc} {st : List Value} {M : pj_Mem}  : pj_step 97 (15, L, st, M) = some (17, L, .int 110 :: st, M) := st_bipush q97_15 (by decide +kernel)
theorem x97_15 {L : pj_Loc} {st : List Value} {M : pj_Mem}  {o9 : Option Value × pj_Mem} : pj_Ends 97 (15, L, st, M) o9 = pj_Ends 97 (17, L, .int 110 :: st, M) o9 := pj_xs (s97_15)
theorem q97_17 : pj_row 97 17 = some (.if_icmp .ge 30, 3, 47, 0, 0) := by decide +kernel
theorem s97_17 {L : pj_Loc} {st : List Value} {M : pj_Mem} {x y : Int32} : pj_step 97 (17, L, .int y :: .int x :: st, M) = some (if y ≤ x then 47 else 20, L, st, M) := st_icmp_ge q97_17
theorem x97_17 {L : pj_Loc} {st : List Value} {M : pj_Mem} {x y : Int32} {o9 : Option Value × pj_Mem} : pj_Ends 97 (17, L, .int y :: .int x :: st, M) o9 = pj_Ends 97 (if y ≤ x then 47 else 20, L, st, M) o9 := pj_xs (s97_17)
theorem q97_20 : pj_row 97 20 = some (.aload_n 0, 1, 0, 0, 0) := by decide +kernel
theorem s97_20 {st : List Value} {M : pj_Mem} {l : pj_Loc} {x : Nat} : pj_step 97 (20, some (.ref x) :: l, st, M) = some (21, some (.ref x) :: l, .ref x :: st, M) := st_aload_n q97_20 rfl
theorem x97_20 {st : List Value} {M : pj_Mem} {l : pj_Loc} {x : Nat} {o9 : Option Value × pj_Mem} : pj_Ends 97 (20, some (.ref x) :: l, st, M) o9 = pj_Ends 97 (21, some (.ref x) :: l, .ref x :: st, M) o9 := pj_xs (s97_20)
theorem q97_21 : pj_row 97 21 = some (.getfield 7, 3, 6, 0, 0) := by decide +kernel
theorem s97_21 {L : pj_Loc} {st : List Value} {N S : Nat} {H : pj_Heap} {o : Nat} : pj_step 97 (21, L, .ref o :: st, (N, S, H)) = pj_pv 24 L st (N, S, H) (pj_fld (H o) 6 0) := st_getfield q97_21
theorem x97_21 {L : pj_Loc} {st : List Value} {N S : Nat} {H : pj_Heap} {o : Nat} {o9 : Option Value × pj_Mem} : pj_Ends 97 (21, L, .ref o :: st, (N, S, H)) o9 = pj_then 97 o9 (pj_pv 24 L st (N, S, H) (pj_fld (H o) 6 0)) := pj_xt q97_21 rfl (pj_cl_nc rfl) (s97_21)
theorem q97_24 : pj_row 97 24 = some (.bipush 31, 2, 0, 0, 0) := by decide +kernel
theorem s97_24 {L : pj_Loc} {st : List Value} {M : pj_Mem}  : pj_step 97 (24, L, st, M) = some (26, L, .int 31 :: st, M) := st_bipush q97_24 (by decide +kernel)
theorem x97_24 {L : pj_Loc} {st : List Value} {M : pj_Mem}  {o9 : Option Value × pj_Mem} : pj_Ends 97 (24, L, st, M) o9 = pj_Ends 97 (26, L, .int 31 :: st, M) o9 := pj_xs (s97_24)
theorem q97_26 : pj_row 97 26 = some (.iload_n 2, 1, 0, 0, 0) := by decide +kernel
theorem s97_26 {st : List Value} {M : pj_Mem} {l : pj_Loc} {a0 a1 : Option Value} {x : Int32} : pj_step 97 (26, a0 :: a1 :: some (.int x) :: l, st, M) = some (27, a0 :: a1 :: some (.int x) :: l, .int x :: st, M) := st_iload_n q97_26 rfl
theorem x97_26 {st : List Value} {M : pj_Mem} {l : pj_Loc} {a0 a1 : Option Value} {x : Int32} {o9 : Option Value × pj_Mem} : pj_Ends 97 (26, a0 :: a1 :: some (.int x) :: l, st, M) o9 = pj_Ends 97 (27, a0 :: a1 :: some (.int x) :: l, .int x :: st, M) o9 := pj_xs (s97_26)
theorem q97_27 : pj_row 97 27 = some (.iadd, 1, 0, 0, 0) := by decide +kernel
theorem s97_27 {L : pj_Loc} {st : List Value} {M : pj_Mem} {x y : Int32} : pj_step 97 (27, L, .int y :: .int x :: st, M) = some (28, L, .int (x + y) :: st, M) := st_iadd q97_27
theorem x97_27 {L : pj_Loc} {st : List Value} {M : pj_Mem} {x y : Int32} {o9 : Option Value × pj_Mem} : pj_Ends 97 (27, L, .int y :: .int x :: st, M) o9 = pj_Ends 97 (28, L, .int (x + y) :: st, M) o9 := pj_xs (s97_27)
theorem q97_28 : pj_row 97 28 = some (.aload_n 0, 1, 0, 0, 0) := by decide +kernel
theorem s97_28 {st : List Value} {M : pj_Mem} {l : pj_Loc} {x : Nat} : pj_step 97 (28, some (.ref x) :: l, st, M) = some (29, some (.ref x) :: l, .ref x :: st, M) := st_aload_n q97_28 rfl
theorem x97_28 {st : List Value} {M : pj_Mem} {l : pj_Loc} {x : Nat} {o9 : Option Value × pj_Mem} : pj_Ends 97 (28, some (.ref x) :: l, st, M) o9 = pj_Ends 97 (29, some (.ref x) :: l, .ref x :: st, M) o9 := pj_xs (s97_28)
theorem q97_29 : pj_row 97 29 = some (.getfield 7, 3, 6, 0, 0) := by decide +kernel
theorem s97_29 {L : pj_Loc} {st : List Value} {N S : Nat} {H : pj_Heap} {o : Nat} : pj_step 97 (29, L, .ref o :: st, (N, S, H)) = pj_pv 32 L st (N, S, H) (pj_fld (H o) 6 0) := st_getfield q97_29
theorem x97_29 {L : pj_Loc} {st : List Value} {N S : Nat} {H : pj_Heap} {o : Nat} {o9 : Option Value × pj_Mem} : pj_Ends 97 (29, L, .ref o :: st, (N, S, H)) o9 = pj_then 97 o9 (pj_pv 32 L st (N, S, H) (pj_fld (H o) 6 0)) := pj_xt q97_29 rfl (pj_cl_nc rfl) (s97_29)
theorem q97_32 : pj_row 97 32 = some (.bipush 31, 2, 0, 0, 0) := by decide +kernel
theorem s97_32 {L : pj_Loc} {st : List Value} {M : pj_Mem}  : pj_step 97 (32, L, st, M) = some (34, L, .int 31 :: st, M) := st_bipush q97_32 (by decide +kernel)
theorem x97_32 {L : pj_Loc} {st : List Value} {M : pj_Mem}  {o9 : Option Value × pj_Mem} : pj_Ends 97 (32, L, st, M) o9 = pj_Ends 97 (34, L, .int 31 :: st, M) o9 := pj_xs (s97_32)
theorem q97_34 : pj_row 97 34 = some (.iload_n 2, 1, 0, 0, 0) := by decide +kernel
theorem s97_34 {st : List Value} {M : pj_Mem} {l : pj_Loc} {a0 a1 : Option Value} {x : Int32} : pj_step 97 (34, a0 :: a1 :: some (.int x) :: l, st, M) = some (35, a0 :: a1 :: some (.int x) :: l, .int x :: st, M) := st_iload_n q97_34 rfl
theorem x97_34 {st : List Value} {M : pj_Mem} {l : pj_Loc} {a0 a1 : Option Value} {x : Int32} {o9 : Option Value × pj_Mem} : pj_Ends 97 (34, a0 :: a1 :: some (.int x) :: l, st, M) o9 = pj_Ends 97 (35, a0 :: a1 :: some (.int x) :: l, .int x :: st, M) o9 := pj_xs (s97_34)
theorem q97_35 : pj_row 97 35 = some (.iadd, 1, 0, 0, 0) := by decide +kernel
theorem s97_35 {L : pj_Loc} {st : List Value} {M : pj_Mem} {x y : Int32} : pj_step 97 (35, L, .int y :: .int x :: st, M) = some (36, L, .int (x + y) :: st, M) := st_iadd q97_35
theorem x97_35 {L : pj_Loc} {st : List Value} {M : pj_Mem} {x y : Int32} {o9 : Option Value × pj_Mem} : pj_Ends 97 (35, L, .int y :: .int x :: st, M) o9 = pj_Ends 97 (36, L, .int (x + y) :: st, M) o9 := pj_xs (s97_35)
theorem q97_36 : pj_row 97 36 = some (.bipush 10, 2, 0, 0, 0) := by decide +kernel
theorem s97_36 {L : pj_Loc} {st : List Value} {M : pj_Mem}  : pj_step 97 (36, L, st, M) = some (38, L, .int 10 :: st, M) := st_bipush q97_36 (by decide +kernel)
theorem x97_36 {L : pj_Loc} {st : List Value} {M : pj_Mem}  {o9 : Option Value × pj_Mem} : pj_Ends 97 (36, L, st, M) o9 = pj_Ends 97 (38, L, .int 10 :: st, M) o9 := pj_xs (s97_36)
theorem q97_38 : pj_row 97 38 = some (.iadd, 1, 0, 0, 0) := by decide +kernel
theorem s97_38 {L : pj_Loc} {st : List Value} {M : pj_Mem} {x y : Int32} : pj_step 97 (38, L, .int y :: .int x :: st, M) = some (39, L, .int (x + y) :: st, M) := st_iadd q97_38
theorem x97_38 {L : pj_Loc} {st : List Value} {M : pj_Mem} {x y : Int32} {o9 : Option Value × pj_Mem} : pj_Ends 97 (38, L, .int y :: .int x :: st, M) o9 = pj_Ends 97 (39, L, .int (x + y) :: st, M) o9 := pj_xs (s97_38)
theorem q97_39 : pj_row 97 39 = some (.iaload, 1, 0, 0, 0) := by decide +kernel
theorem s97_39 {L : pj_Loc} {st : List Value} {N S : Nat} {H : pj_Heap} {o : Nat} {i : Int32} : pj_step 97 (39, L, .int i :: .ref o :: st, (N, S, H)) = pj_pi 40 L st (N, S, H) (pj_arl (H o) 0 i) := st_iaload q97_39
theorem x97_39 {L : pj_Loc} {st : List Value} {N S : Nat} {H : pj_Heap} {o : Nat} {i : Int32} {o9 : Option Value × pj_Mem} : pj_Ends 97 (39, L, .int i :: .ref o :: st, (N, S, H)) o9 = pj_then 97 o9 (pj_pi 40 L st (N, S, H) (pj_arl (H o) 0 i)) := pj_xt q97_39 rfl (pj_cl_nc rfl) (s97_39)
theorem q97_40 : pj_row 97 40 = some (.iastore, 1, 0, 0, 0) := by decide +kernel
theorem s97_40 {L : pj_Loc} {st : List Value} {N S : Nat} {H : pj_Heap} {o : Nat} {i x : Int32} : pj_step 97 (40, L, .int x :: .int i :: .ref o :: st, (N, S, H)) = pj_set 41 L st (N, S, H) o (pj_ars (H o) 0 i x) := st_iastore q97_40
theorem x97_40 {L : pj_Loc} {st : List Value} {N S : Nat} {H : pj_Heap} {o : Nat} {i x : Int32} {o9 : Option Value × pj_Mem} : pj_Ends 97 (40, L, .int x :: .int i :: .ref o :: st, (N, S, H)) o9 = pj_then 97 o9 (pj_set 41 L st (N, S, H) o (pj_ars (H o) 0 i x)) := pj_xt q97_40 rfl (pj_cl_nc rfl) (s97_40)
theorem q97_41 : pj_row 97 41 = some (.iinc 2 1, 3, 0, 0, 0) := by decide +kernel
theorem s97_41 {st : List Value} {M : pj_Mem} {l : pj_Loc} {a0 a1 : Option Value} {x : Int32} (h : pj_long a1 = false) : pj_step 97 (41, a0 :: a1 :: some (.int x) :: l, st, M) = some (44, a0 :: a1 :: some (.int (x + 1)) :: l, st, M) := st_iinc q97_41 rfl (congrArg (fun y => x + y) (show Int32.ofInt 1 = 1 by decide +kernel)) (pj_st_2 h)
theorem x97_41 {st : List Value} {M : pj_Mem} {l : pj_Loc} {a0 a1 : Option Value} {x : Int32} (h : pj_long a1 = false) {o9 : Option Value × pj_Mem} : pj_Ends 97 (41, a0 :: a1 :: some (.int x) :: l, st, M) o9 = pj_Ends 97 (44, a0 :: a1 :: some (.int (x + 1)) :: l, st, M) o9 := pj_xs (s97_41 h)
theorem q97_44 : pj_row 97 44 = some (.goto (-30), 3, 14, 0, 0) := by decide +kernel
theorem s97_44 {L : pj_Loc} {st : List Value} {M : pj_Mem}  : pj_step 97 (44, L, st, M) = some (14, L, st, M) := st_goto q97_44
theorem x97_44 {L : pj_Loc} {st : List Value} {M : pj_Mem}  {o9 : Option Value × pj_Mem} : pj_Ends 97 (44, L, st, M) o9 = pj_Ends 97 (14, L, st, M) o9 := pj_xs (s97_44)
theorem q97_47 : pj_row 97 47 = some (.aload_n 0, 1, 0, 0, 0) := by decide +kernel
theorem s97_47 {st : List Value} {M : pj_Mem} {l : pj_Loc} {x : Nat} : pj_step 97 (47, some (.ref x) :: l, st, M) = some (48, some (.ref x) :: l, .ref x :: st, M) := st_aload_n q97_47 rfl
theorem x97_47 {st : List Value} {M : pj_Mem} {l : pj_Loc} {x : Nat} {o9 : Option Value × pj_Mem} : pj_Ends 97 (47, some (.ref x) :: l, st, M) o9 = pj_Ends 97 (48, some (.ref x) :: l, .ref x :: st, M) o9 := pj_xs (s97_47)
theorem q97_48 : pj_row 97 48 = some (.getfield 7, 3, 6, 0, 0) := by decide +kernel
theorem s97_48 {L : pj_Loc} {st : List Value} {N S : Nat} {H : pj_Heap} {o : Nat} : pj_step 97 (48, L, .ref o :: st, (N, S, H)) = pj_pv 51 L st (N, S, H) (pj_fld (H o) 6 0) := st_getfield q97_48
theorem x97_48 {L : pj_Loc} {st : List Value} {N S : Nat} {H : pj_Heap} {o : Nat} {o9 : Option Value × pj_Mem} : pj_Ends 97 (48, L, .ref o :: st, (N, S, H)) o9 = pj_then 97 o9 (pj_pv 51 L st (N, S, H) (pj_fld (H o) 6 0)) := pj_xt q97_48 rfl (pj_cl_nc rfl) (s97_48)
theorem q97_51 : pj_row 97 51 = some (.bipush 30, 2, 0, 0, 0) := by decide +kernel
theorem s97_51 {L : pj_Loc} {st : List Value} {M : pj_Mem}  : pj_step 97 (51, L, st, M) = some (53, L, .int 30 :: st, M) := st_bipush q97_51 (by decide +kernel)
theorem x97_51 {L : pj_Loc} {st : List Value} {M : pj_Mem}  {o9 : Option Value × pj_Mem} : pj_Ends 97 (51, L, st, M) o9 = pj_Ends 97 (53, L, .int 30 :: st, M) o9 := pj_xs (s97_51)
theorem q97_53 : pj_row 97 53 = some (.dup2, 1, 0, 0, 0) := by decide +kernel
theorem s97_53 {L : pj_Loc} {st : List Value} {M : pj_Mem} {x : Int32} {o : Nat} : pj_step 97 (53, L, .int x :: .ref o :: st, M) = some (54, L, .int x :: .ref o :: .int x :: .ref o :: st, M) := st_dup2 q97_53
theorem x97_53 {L : pj_Loc} {st : List Value} {M : pj_Mem} {x : Int32} {o : Nat} {o9 : Option Value × pj_Mem} : pj_Ends 97 (53, L, .int x :: .ref o :: st, M) o9 = pj_Ends 97 (54, L, .int x :: .ref o :: .int x :: .ref o :: st, M) o9 := pj_xs (s97_53)
theorem q97_54 : pj_row 97 54 = some (.iaload, 1, 0, 0, 0) := by decide +kernel
theorem s97_54 {L : pj_Loc} {st : List Value} {N S : Nat} {H : pj_Heap} {o : Nat} {i : Int32} : pj_step 97 (54, L, .int i :: .ref o :: st, (N, S, H)) = pj_pi 55 L st (N, S, H) (pj_arl (H o) 0 i) := st_iaload q97_54
theorem x97_54 {L : pj_Loc} {st : List Value} {N S : Nat} {H : pj_Heap} {o : Nat} {i : Int32} {o9 : Option Value × pj_Mem} : pj_Ends 97 (54, L, .int i :: .ref o :: st, (N, S, H)) o9 = pj_then 97 o9 (pj_pi 55 L st (N, S, H) (pj_arl (H o) 0 i)) := pj_xt q97_54 rfl (pj_cl_nc rfl) (s97_54)
theorem q97_55 : pj_row 97 55 = some (.iconst 1, 1, 0, 0, 0) := by decide +kernel
theorem s97_55 {L : pj_Loc} {st : List Value} {M : pj_Mem}  : pj_step 97 (55, L, st, M) = some (56, L, .int 1 :: st, M) := st_iconst q97_55 (by decide +kernel)
theorem x97_55 {L : pj_Loc} {st : List Value} {M : pj_Mem}  {o9 : Option Value × pj_Mem} : pj_Ends 97 (55, L, st, M) o9 = pj_Ends 97 (56, L, .int 1 :: st, M) o9 := pj_xs (s97_55)
theorem q97_56 : pj_row 97 56 = some (.isub, 1, 0, 0, 0) := by decide +kernel
theorem s97_56 {L : pj_Loc} {st : List Value} {M : pj_Mem} {x y : Int32} : pj_step 97 (56, L, .int y :: .int x :: st, M) = some (57, L, .int (x - y) :: st, M) := st_isub q97_56
theorem x97_56 {L : pj_Loc} {st : List Value} {M : pj_Mem} {x y : Int32} {o9 : Option Value × pj_Mem} : pj_Ends 97 (56, L, .int y :: .int x :: st, M) o9 = pj_Ends 97 (57, L, .int (x - y) :: st, M) o9 := pj_xs (s97_56)
theorem q97_57 : pj_row 97 57 = some (.iastore, 1, 0, 0, 0) := by decide +kernel
theorem s97_57 {L : pj_Loc} {st : List Value} {N S : Nat} {H : pj_Heap} {o : Nat} {i x : Int32} : pj_step 97 (57, L, .int x :: .int i :: .ref o :: st, (N, S, H)) = pj_set 58 L st (N, S, H) o (pj_ars (H o) 0 i x) := st_iastore q97_57
theorem x97_57 {L : pj_Loc} {st : List Value} {N S : Nat} {H : pj_Heap} {o : Nat} {i x : Int32} {o9 : Option Value × pj_Mem} : pj_Ends 97 (57, L, .int x :: .int i :: .ref o :: st, (N, S, H)) o9 = pj_then 97 o9 (pj_set 58 L st (N, S, H) o (pj_ars (H o) 0 i x)) := pj_xt q97_57 rfl (pj_cl_nc rfl) (s97_57)
theorem q97_58 : pj_row 97 58 = some (.bipush 31, 2, 0, 0, 0) := by decide +kernel
theorem s97_58 {L : pj_Loc} {st : List Value} {M : pj_Mem}  : pj_step 97 (58, L, st, M) = some (60, L, .int 31 :: st, M) := st_bipush q97_58 (by decide +kernel)
theorem x97_58 {L : pj_Loc} {st : List Value} {M : pj_Mem}  {o9 : Option Value × pj_Mem} : pj_Ends 97 (58, L, st, M) o9 = pj_Ends 97 (60, L, .int 31 :: st, M) o9 := pj_xs (s97_58)
theorem q97_60 : pj_row 97 60 = some (.bipush 10, 2, 0, 0, 0) := by decide +kernel
theorem s97_60 {L : pj_Loc} {st : List Value} {M : pj_Mem}  : pj_step 97 (60, L, st, M) = some (62, L, .int 10 :: st, M) := st_bipush q97_60 (by decide +kernel)
theorem x97_60 {L : pj_Loc} {st : List Value} {M : pj_Mem}  {o9 : Option Value × pj_Mem} : pj_Ends 97 (60, L, st, M) o9 = pj_Ends 97 (62, L, .int 10 :: st, M) o9 := pj_xs (s97_60)
theorem q97_62 : pj_row 97 62 = some (.aload_n 0, 1, 0, 0, 0) := by decide +kernel
theorem s97_62 {st : List Value} {M : pj_Mem} {l : pj_Loc} {x : Nat} : pj_step 97 (62, some (.ref x) :: l, st, M) = some (63, some (.ref x) :: l, .ref x :: st, M) := st_aload_n q97_62 rfl
theorem x97_62 {st : List Value} {M : pj_Mem} {l : pj_Loc} {x : Nat} {o9 : Option Value × pj_Mem} : pj_Ends 97 (62, some (.ref x) :: l, st, M) o9 = pj_Ends 97 (63, some (.ref x) :: l, .ref x :: st, M) o9 := pj_xs (s97_62)
theorem q97_63 : pj_row 97 63 = some (.getfield 7, 3, 6, 0, 0) := by decide +kernel
theorem s97_63 {L : pj_Loc} {st : List Value} {N S : Nat} {H : pj_Heap} {o : Nat} : pj_step 97 (63, L, .ref o :: st, (N, S, H)) = pj_pv 66 L st (N, S, H) (pj_fld (H o) 6 0) := st_getfield q97_63
theorem x97_63 {L : pj_Loc} {st : List Value} {N S : Nat} {H : pj_Heap} {o : Nat} {o9 : Option Value × pj_Mem} : pj_Ends 97 (63, L, .ref o :: st, (N, S, H)) o9 = pj_then 97 o9 (pj_pv 66 L st (N, S, H) (pj_fld (H o) 6 0)) := pj_xt q97_63 rfl (pj_cl_nc rfl) (s97_63)
theorem q97_66 : pj_row 97 66 = some (.bipush 30, 2, 0, 0, 0) := by decide +kernel
theorem s97_66 {L : pj_Loc} {st : List Value} {M : pj_Mem}  : pj_step 97 (66, L, st, M) = some (68, L, .int 30 :: st, M) := st_bipush q97_66 (by decide +kernel)
theorem x97_66 {L : pj_Loc} {st : List Value} {M : pj_Mem}  {o9 : Option Value × pj_Mem} : pj_Ends 97 (66, L, st, M) o9 = pj_Ends 97 (68, L, .int 30 :: st, M) o9 := pj_xs (s97_66)
theorem q97_68 : pj_row 97 68 = some (.iaload, 1, 0, 0, 0) := by decide +kernel
theorem s97_68 {L : pj_Loc} {st : List Value} {N S : Nat} {H : pj_Heap} {o : Nat} {i : Int32} : pj_step 97 (68, L, .int i :: .ref o :: st, (N, S, H)) = pj_pi 69 L st (N, S, H) (pj_arl (H o) 0 i) := st_iaload q97_68
theorem x97_68 {L : pj_Loc} {st : List Value} {N S : Nat} {H : pj_Heap} {o : Nat} {i : Int32} {o9 : Option Value × pj_Mem} : pj_Ends 97 (68, L, .int i :: .ref o :: st, (N, S, H)) o9 = pj_then 97 o9 (pj_pi 69 L st (N, S, H) (pj_arl (H o) 0 i)) := pj_xt q97_68 rfl (pj_cl_nc rfl) (s97_68)
theorem q97_69 : pj_row 97 69 = some (.imul, 1, 0, 0, 0) := by decide +kernel
theorem s97_69 {L : pj_Loc} {st : List Value} {M : pj_Mem} {x y : Int32} : pj_step 97 (69, L, .int y :: .int x :: st, M) = some (70, L, .int (x * y) :: st, M) := st_imul q97_69
theorem x97_69 {L : pj_Loc} {st : List Value} {M : pj_Mem} {x y : Int32} {o9 : Option Value × pj_Mem} : pj_Ends 97 (69, L, .int y :: .int x :: st, M) o9 = pj_Ends 97 (70, L, .int (x * y) :: st, M) o9 := pj_xs (s97_69)
theorem q97_70 : pj_row 97 70 = some (.iadd, 1, 0, 0, 0) := by decide +kernel
theorem s97_70 {L : pj_Loc} {st : List Value} {M : pj_Mem} {x y : Int32} : pj_step 97 (70, L, .int y :: .int x :: st, M) = some (71, L, .int (x + y) :: st, M) := st_iadd q97_70
theorem x97_70 {L : pj_Loc} {st : List Value} {M : pj_Mem} {x y : Int32} {o9 : Option Value × pj_Mem} : pj_Ends 97 (70, L, .int y :: .int x :: st, M) o9 = pj_Ends 97 (71, L, .int (x + y) :: st, M) o9 := pj_xs (s97_70)
theorem q97_71 : pj_row 97 71 = some (.istore_n 2, 1, 0, 0, 0) := by decide +kernel
theorem s97_71 {st : List Value} {M : pj_Mem} {l : pj_Loc} {a0 a1 a2 : Option Value} {x : Int32} (h : pj_long a1 = false) : pj_step 97 (71, a0 :: a1 :: a2 :: l, .int x :: st, M) = some (72, a0 :: a1 :: some (.int x) :: l, st, M) := st_istore_n q97_71 (pj_st_2 h)
theorem x97_71 {st : List Value} {M : pj_Mem} {l : pj_Loc} {a0 a1 a2 : Option Value} {x : Int32} (h : pj_long a1 = false) {o9 : Option Value × pj_Mem} : pj_Ends 97 (71, a0 :: a1 :: a2 :: l, .int x :: st, M) o9 = pj_Ends 97 (72, a0 :: a1 :: some (.int x) :: l, st, M) o9 := pj_xs (s97_71 h)
theorem q97_72 : pj_row 97 72 = some (.aload_n 0, 1, 0, 0, 0) := by decide +kernel
theorem s97_72 {st : List Value} {M : pj_Mem} {l : pj_Loc} {x : Nat} : pj_step 97 (72, some (.ref x) :: l, st, M) = some (73, some (.ref x) :: l, .ref x :: st, M) := st_aload_n q97_72 rfl
theorem x97_72 {st : List Value} {M : pj_Mem} {l : pj_Loc} {x : Nat} {o9 : Option Value × pj_Mem} : pj_Ends 97 (72, some (.ref x) :: l, st, M) o9 = pj_Ends 97 (73, some (.ref x) :: l, .ref x :: st, M) o9 := pj_xs (s97_72)
theorem q97_73 : pj_row 97 73 = some (.getfield 7, 3, 6, 0, 0) := by decide +kernel
theorem s97_73 {L : pj_Loc} {st : List Value} {N S : Nat} {H : pj_Heap} {o : Nat} : pj_step 97 (73, L, .ref o :: st, (N, S, H)) = pj_pv 76 L st (N, S, H) (pj_fld (H o) 6 0) := st_getfield q97_73
theorem x97_73 {L : pj_Loc} {st : List Value} {N S : Nat} {H : pj_Heap} {o : Nat} {o9 : Option Value × pj_Mem} : pj_Ends 97 (73, L, .ref o :: st, (N, S, H)) o9 = pj_then 97 o9 (pj_pv 76 L st (N, S, H) (pj_fld (H o) 6 0)) := pj_xt q97_73 rfl (pj_cl_nc rfl) (s97_73)
theorem q97_76 : pj_row 97 76 = some (.iload_n 2, 1, 0, 0, 0) := by decide +kernel
theorem s97_76 {st : List Value} {M : pj_Mem} {l : pj_Loc} {a0 a1 : Option Value} {x : Int32} : pj_step 97 (76, a0 :: a1 :: some (.int x) :: l, st, M) = some (77, a0 :: a1 :: some (.int x) :: l, .int x :: st, M) := st_iload_n q97_76 rfl
theorem x97_76 {st : List Value} {M : pj_Mem} {l : pj_Loc} {a0 a1 : Option Value} {x : Int32} {o9 : Option Value × pj_Mem} : pj_Ends 97 (76, a0 :: a1 :: some (.int x) :: l, st, M) o9 = pj_Ends 97 (77, a0 :: a1 :: some (.int x) :: l, .int x :: st, M) o9 := pj_xs (s97_76)
theorem q97_77 : pj_row 97 77 = some (.aload_n 0, 1, 0, 0, 0) := by decide +kernel
theorem s97_77 {st : List Value} {M : pj_Mem} {l : pj_Loc} {x : Nat} : pj_step 97 (77, some (.ref x) :: l, st, M) = some (78, some (.ref x) :: l, .ref x :: st, M) := st_aload_n q97_77 rfl
theorem x97_77 {st : List Value} {M : pj_Mem} {l : pj_Loc} {x : Nat} {o9 : Option Value × pj_Mem} : pj_Ends 97 (77, some (.ref x) :: l, st, M) o9 = pj_Ends 97 (78, some (.ref x) :: l, .ref x :: st, M) o9 := pj_xs (s97_77)
theorem q97_78 : pj_row 97 78 = some (.getfield 7, 3, 6, 0, 0) := by decide +kernel
theorem s97_78 {L : pj_Loc} {st : List Value} {N S : Nat} {H : pj_Heap} {o : Nat} : pj_step 97 (78, L, .ref o :: st, (N, S, H)) = pj_pv 81 L st (N, S, H) (pj_fld (H o) 6 0) := st_getfield q97_78
theorem x97_78 {L : pj_Loc} {st : List Value} {N S : Nat} {H : pj_Heap} {o : Nat} {o9 : Option Value × pj_Mem} : pj_Ends 97 (78, L, .ref o :: st, (N, S, H)) o9 = pj_then 97 o9 (pj_pv 81 L st (N, S, H) (pj_fld (H o) 6 0)) := pj_xt q97_78 rfl (pj_cl_nc rfl) (s97_78)
theorem q97_81 : pj_row 97 81 = some (.bipush 6, 2, 0, 0, 0) := by decide +kernel
theorem s97_81 {L : pj_Loc} {st : List Value} {M : pj_Mem}  : pj_step 97 (81, L, st, M) = some (83, L, .int 6 :: st, M) := st_bipush q97_81 (by decide +kernel)
theorem x97_81 {L : pj_Loc} {st : List Value} {M : pj_Mem}  {o9 : Option Value × pj_Mem} : pj_Ends 97 (81, L, st, M) o9 = pj_Ends 97 (83, L, .int 6 :: st, M) o9 := pj_xs (s97_81)
theorem q97_83 : pj_row 97 83 = some (.iaload, 1, 0, 0, 0) := by decide +kernel
theorem s97_83 {L : pj_Loc} {st : List Value} {N S : Nat} {H : pj_Heap} {o : Nat} {i : Int32} : pj_step 97 (83, L, .int i :: .ref o :: st, (N, S, H)) = pj_pi 84 L st (N, S, H) (pj_arl (H o) 0 i) := st_iaload q97_83
theorem x97_83 {L : pj_Loc} {st : List Value} {N S : Nat} {H : pj_Heap} {o : Nat} {i : Int32} {o9 : Option Value × pj_Mem} : pj_Ends 97 (83, L, .int i :: .ref o :: st, (N, S, H)) o9 = pj_then 97 o9 (pj_pi 84 L st (N, S, H) (pj_arl (H o) 0 i)) := pj_xt q97_83 rfl (pj_cl_nc rfl) (s97_83)
theorem q97_84 : pj_row 97 84 = some (.iastore, 1, 0, 0, 0) := by decide +kernel
theorem s97_84 {L : pj_Loc} {st : List Value} {N S : Nat} {H : pj_Heap} {o : Nat} {i x : Int32} : pj_step 97 (84, L, .int x :: .int i :: .ref o :: st, (N, S, H)) = pj_set 85 L st (N, S, H) o (pj_ars (H o) 0 i x) := st_iastore q97_84
theorem x97_84 {L : pj_Loc} {st : List Value} {N S : Nat} {H : pj_Heap} {o : Nat} {i x : Int32} {o9 : Option Value × pj_Mem} : pj_Ends 97 (84, L, .int x :: .int i :: .ref o :: st, (N, S, H)) o9 = pj_then 97 o9 (pj_set 85 L st (N, S, H) o (pj_ars (H o) 0 i x)) := pj_xt q97_84 rfl (pj_cl_nc rfl) (s97_84)
theorem q97_85 : pj_row 97 85 = some (.iconst 0, 1, 0, 0, 0) := by decide +kernel
theorem s97_85 {L : pj_Loc} {st : List Value} {M : pj_Mem}  : pj_step 97 (85, L, st, M) = some (86, L, .int 0 :: st, M) := st_iconst q97_85 (by decide +kernel)
theorem x97_85 {L : pj_Loc} {st : List Value} {M : pj_Mem}  {o9 : Option Value × pj_Mem} : pj_Ends 97 (85, L, st, M) o9 = pj_Ends 97 (86, L, .int 0 :: st, M) o9 := pj_xs (s97_85)
theorem q97_86 : pj_row 97 86 = some (.istore_n 3, 1, 0, 0, 0) := by decide +kernel
theorem s97_86 {st : List Value} {M : pj_Mem} {l : pj_Loc} {a0 a1 a2 a3 : Option Value} {x : Int32} (h : pj_long a2 = false) : pj_step 97 (86, a0 :: a1 :: a2 :: a3 :: l, .int x :: st, M) = some (87, a0 :: a1 :: a2 :: some (.int x) :: l, st, M) := st_istore_n q97_86 (pj_st_3 h)
theorem x97_86 {st : List Value} {M : pj_Mem} {l : pj_Loc} {a0 a1 a2 a3 : Option Value} {x : Int32} (h : pj_long a2 = false) {o9 : Option Value × pj_Mem} : pj_Ends 97 (86, a0 :: a1 :: a2 :: a3 :: l, .int x :: st, M) o9 = pj_Ends 97 (87, a0 :: a1 :: a2 :: some (.int x) :: l, st, M) o9 := pj_xs (s97_86 h)
theorem q97_87 : pj_row 97 87 = some (.iload_n 3, 1, 0, 0, 0) := by decide +kernel
theorem s97_87 {st : List Value} {M : pj_Mem} {l : pj_Loc} {a0 a1 a2 : Option Value} {x : Int32} : pj_step 97 (87, a0 :: a1 :: a2 :: some (.int x) :: l, st, M) = some (88, a0 :: a1 :: a2 :: some (.int x) :: l, .int x :: st, M) := st_iload_n q97_87 rfl
theorem x97_87 {st : List Value} {M : pj_Mem} {l : pj_Loc} {a0 a1 a2 : Option Value} {x : Int32} {o9 : Option Value × pj_Mem} : pj_Ends 97 (87, a0 :: a1 :: a2 :: some (.int x) :: l, st, M) o9 = pj_Ends 97 (88, a0 :: a1 :: a2 :: some (.int x) :: l, .int x :: st, M) o9 := pj_xs (s97_87)
theorem q97_88 : pj_row 97 88 = some (.iconst 3, 1, 0, 0, 0) := by decide +kernel
theorem s97_88 {L : pj_Loc} {st : List Value} {M : pj_Mem}  : pj_step 97 (88, L, st, M) = some (89, L, .int 3 :: st, M) := st_iconst q97_88 (by decide +kernel)
theorem x97_88 {L : pj_Loc} {st : List Value} {M : pj_Mem}  {o9 : Option Value × pj_Mem} : pj_Ends 97 (88, L, st, M) o9 = pj_Ends 97 (89, L, .int 3 :: st, M) o9 := pj_xs (s97_88)
theorem q97_89 : pj_row 97 89 = some (.if_icmp .ge 28, 3, 117, 0, 0) := by decide +kernel
theorem s97_89 {L : pj_Loc} {st : List Value} {M : pj_Mem} {x y : Int32} : pj_step 97 (89, L, .int y :: .int x :: st, M) = some (if y ≤ x then 117 else 92, L, st, M) := st_icmp_ge q97_89
theorem x97_89 {L : pj_Loc} {st : List Value} {M : pj_Mem} {x y : Int32} {o9 : Option Value × pj_Mem} : pj_Ends 97 (89, L, .int y :: .int x :: st, M) o9 = pj_Ends 97 (if y ≤ x then 117 else 92, L, st, M) o9 := pj_xs (s97_89)
theorem q97_92 : pj_row 97 92 = some (.aload_n 0, 1, 0, 0, 0) := by decide +kernel
theorem s97_92 {st : List Value} {M : pj_Mem} {l : pj_Loc} {x : Nat} : pj_step 97 (92, some (.ref x) :: l, st, M) = some (93, some (.ref x) :: l, .ref x :: st, M) := st_aload_n q97_92 rfl
theorem x97_92 {st : List Value} {M : pj_Mem} {l : pj_Loc} {x : Nat} {o9 : Option Value × pj_Mem} : pj_Ends 97 (92, some (.ref x) :: l, st, M) o9 = pj_Ends 97 (93, some (.ref x) :: l, .ref x :: st, M) o9 := pj_xs (s97_92)
theorem q97_93 : pj_row 97 93 = some (.getfield 7, 3, 6, 0, 0) := by decide +kernel
theorem s97_93 {L : pj_Loc} {st : List Value} {N S : Nat} {H : pj_Heap} {o : Nat} : pj_step 97 (93, L, .ref o :: st, (N, S, H)) = pj_pv 96 L st (N, S, H) (pj_fld (H o) 6 0) := st_getfield q97_93
theorem x97_93 {L : pj_Loc} {st : List Value} {N S : Nat} {H : pj_Heap} {o : Nat} {o9 : Option Value × pj_Mem} : pj_Ends 97 (93, L, .ref o :: st, (N, S, H)) o9 = pj_then 97 o9 (pj_pv 96 L st (N, S, H) (pj_fld (H o) 6 0)) := pj_xt q97_93 rfl (pj_cl_nc rfl) (s97_93)
theorem q97_96 : pj_row 97 96 = some (.iload_n 2, 1, 0, 0, 0) := by decide +kernel
theorem s97_96 {st : List Value} {M : pj_Mem} {l : pj_Loc} {a0 a1 : Option Value} {x : Int32} : pj_step 97 (96, a0 :: a1 :: some (.int x) :: l, st, M) = some (97, a0 :: a1 :: some (.int x) :: l, .int x :: st, M) := st_iload_n q97_96 rfl
theorem x97_96 {st : List Value} {M : pj_Mem} {l : pj_Loc} {a0 a1 : Option Value} {x : Int32} {o9 : Option Value × pj_Mem} : pj_Ends 97 (96, a0 :: a1 :: some (.int x) :: l, st, M) o9 = pj_Ends 97 (97, a0 :: a1 :: some (.int x) :: l, .int x :: st, M) o9 := pj_xs (s97_96)
theorem q97_97 : pj_row 97 97 = some (.iconst 1, 1, 0, 0, 0) := by decide +kernel
theorem s97_97 {L : pj_Loc} {st : List Value} {M : pj_Mem}  : pj_step 97 (97, L, st, M) = some (98, L, .int 1 :: st, M) := st_iconst q97_97 (by decide +kernel)
theorem x97_97 {L : pj_Loc} {st : List Value} {M : pj_Mem}  {o9 : Option Value × pj_Mem} : pj_Ends 97 (97, L, st, M) o9 = pj_Ends 97 (98, L, .int 1 :: st, M) o9 := pj_xs (s97_97)
theorem q97_98 : pj_row 97 98 = some (.iadd, 1, 0, 0, 0) := by decide +kernel
theorem s97_98 {L : pj_Loc} {st : List Value} {M : pj_Mem} {x y : Int32} : pj_step 97 (98, L, .int y :: .int x :: st, M) = some (99, L, .int (x + y) :: st, M) := st_iadd q97_98
theorem x97_98 {L : pj_Loc} {st : List Value} {M : pj_Mem} {x y : Int32} {o9 : Option Value × pj_Mem} : pj_Ends 97 (98, L, .int y :: .int x :: st, M) o9 = pj_Ends 97 (99, L, .int (x + y) :: st, M) o9 := pj_xs (s97_98)
theorem q97_99 : pj_row 97 99 = some (.iload_n 3, 1, 0, 0, 0) := by decide +kernel
theorem s97_99 {st : List Value} {M : pj_Mem} {l : pj_Loc} {a0 a1 a2 : Option Value} {x : Int32} : pj_step 97 (99, a0 :: a1 :: a2 :: some (.int x) :: l, st, M) = some (100, a0 :: a1 :: a2 :: some (.int x) :: l, .int x :: st, M) := st_iload_n q97_99 rfl
theorem x97_99 {st : List Value} {M : pj_Mem} {l : pj_Loc} {a0 a1 a2 : Option Value} {x : Int32} {o9 : Option Value × pj_Mem} : pj_Ends 97 (99, a0 :: a1 :: a2 :: some (.int x) :: l, st, M) o9 = pj_Ends 97 (100, a0 :: a1 :: a2 :: some (.int x) :: l, .int x :: st, M) o9 := pj_xs (s97_99)
theorem q97_100 : pj_row 97 100 = some (.iadd, 1, 0, 0, 0) := by decide +kernel
theorem s97_100 {L : pj_Loc} {st : List Value} {M : pj_Mem} {x y : Int32} : pj_step 97 (100, L, .int y :: .int x :: st, M) = some (101, L, .int (x + y) :: st, M) := st_iadd q97_100
theorem x97_100 {L : pj_Loc} {st : List Value} {M : pj_Mem} {x y : Int32} {o9 : Option Value × pj_Mem} : pj_Ends 97 (100, L, .int y :: .int x :: st, M) o9 = pj_Ends 97 (101, L, .int (x + y) :: st, M) o9 := pj_xs (s97_100)
theorem q97_101 : pj_row 97 101 = some (.aload_n 0, 1, 0, 0, 0) := by decide +kernel
theorem s97_101 {st : List Value} {M : pj_Mem} {l : pj_Loc} {x : Nat} : pj_step 97 (101, some (.ref x) :: l, st, M) = some (102, some (.ref x) :: l, .ref x :: st, M) := st_aload_n q97_101 rfl
theorem x97_101 {st : List Value} {M : pj_Mem} {l : pj_Loc} {x : Nat} {o9 : Option Value × pj_Mem} : pj_Ends 97 (101, some (.ref x) :: l, st, M) o9 = pj_Ends 97 (102, some (.ref x) :: l, .ref x :: st, M) o9 := pj_xs (s97_101)
theorem q97_102 : pj_row 97 102 = some (.getfield 25, 3, 6, 6, 0) := by decide +kernel
theorem s97_102 {L : pj_Loc} {st : List Value} {N S : Nat} {H : pj_Heap} {o : Nat} : pj_step 97 (102, L, .ref o :: st, (N, S, H)) = pj_pv 105 L st (N, S, H) (pj_fld (H o) 6 6) := st_getfield q97_102
theorem x97_102 {L : pj_Loc} {st : List Value} {N S : Nat} {H : pj_Heap} {o : Nat} {o9 : Option Value × pj_Mem} : pj_Ends 97 (102, L, .ref o :: st, (N, S, H)) o9 = pj_then 97 o9 (pj_pv 105 L st (N, S, H) (pj_fld (H o) 6 6)) := pj_xt q97_102 rfl (pj_cl_nc rfl) (s97_102)
theorem q97_105 : pj_row 97 105 = some (.iload_n 3, 1, 0, 0, 0) := by decide +kernel
theorem s97_105 {st : List Value} {M : pj_Mem} {l : pj_Loc} {a0 a1 a2 : Option Value} {x : Int32} : pj_step 97 (105, a0 :: a1 :: a2 :: some (.int x) :: l, st, M) = some (106, a0 :: a1 :: a2 :: some (.int x) :: l, .int x :: st, M) := st_iload_n q97_105 rfl
theorem x97_105 {st : List Value} {M : pj_Mem} {l : pj_Loc} {a0 a1 a2 : Option Value} {x : Int32} {o9 : Option Value × pj_Mem} : pj_Ends 97 (105, a0 :: a1 :: a2 :: some (.int x) :: l, st, M) o9 = pj_Ends 97 (106, a0 :: a1 :: a2 :: some (.int x) :: l, .int x :: st, M) o9 := pj_xs (s97_105)
theorem q97_106 : pj_row 97 106 = some (.iaload, 1, 0, 0, 0) := by decide +kernel
theorem s97_106 {L : pj_Loc} {st : List Value} {N S : Nat} {H : pj_Heap} {o : Nat} {i : Int32} : pj_step 97 (106, L, .int i :: .ref o :: st, (N, S, H)) = pj_pi 107 L st (N, S, H) (pj_arl (H o) 0 i) := st_iaload q97_106
theorem x97_106 {L : pj_Loc} {st : List Value} {N S : Nat} {H : pj_Heap} {o : Nat} {i : Int32} {o9 : Option Value × pj_Mem} : pj_Ends 97 (106, L, .int i :: .ref o :: st, (N, S, H)) o9 = pj_then 97 o9 (pj_pi 107 L st (N, S, H) (pj_arl (H o) 0 i)) := pj_xt q97_106 rfl (pj_cl_nc rfl) (s97_106)
theorem q97_107 : pj_row 97 107 = some (.ldc 81, 2, 0, 0, 100000) := by decide +kernel
theorem s97_107 {L : pj_Loc} {st : List Value} {M : pj_Mem}  : pj_step 97 (107, L, st, M) = some (109, L, .int 100000 :: st, M) := st_ldc q97_107 (by decide +kernel)
theorem x97_107 {L : pj_Loc} {st : List Value} {M : pj_Mem}  {o9 : Option Value × pj_Mem} : pj_Ends 97 (107, L, st, M) o9 = pj_Ends 97 (109, L, .int 100000 :: st, M) o9 := pj_xs (s97_107)
theorem q97_109 : pj_row 97 109 = some (.iadd, 1, 0, 0, 0) := by decide +kernel
theorem s97_109 {L : pj_Loc} {st : List Value} {M : pj_Mem} {x y : Int32} : pj_step 97 (109, L, .int y :: .int x :: st, M) = some (110, L, .int (x + y) :: st, M) := st_iadd q97_109
theorem x97_109 {L : pj_Loc} {st : List Value} {M : pj_Mem} {x y : Int32} {o9 : Option Value × pj_Mem} : pj_Ends 97 (109, L, .int y :: .int x :: st, M) o9 = pj_Ends 97 (110, L, .int (x + y) :: st, M) o9 := pj_xs (s97_109)
theorem q97_110 : pj_row 97 110 = some (.iastore, 1, 0, 0, 0) := by decide +kernel
theorem s97_110 {L : pj_Loc} {st : List Value} {N S : Nat} {H : pj_Heap} {o : Nat} {i x : Int32} : pj_step 97 (110, L, .int x :: .int i :: .ref o :: st, (N, S, H)) = pj_set 111 L st (N, S, H) o (pj_ars (H o) 0 i x) := st_iastore q97_110
theorem x97_110 {L : pj_Loc} {st : List Value} {N S : Nat} {H : pj_Heap} {o : Nat} {i x : Int32} {o9 : Option Value × pj_Mem} : pj_Ends 97 (110, L, .int x :: .int i :: .ref o :: st, (N, S, H)) o9 = pj_then 97 o9 (pj_set 111 L st (N, S, H) o (pj_ars (H o) 0 i x)) := pj_xt q97_110 rfl (pj_cl_nc rfl) (s97_110)
theorem q97_111 : pj_row 97 111 = some (.iinc 3 1, 3, 0, 0, 0) := by decide +kernel
theorem s97_111 {st : List Value} {M : pj_Mem} {l : pj_Loc} {a0 a1 a2 : Option Value} {x : Int32} (h : pj_long a2 = false) : pj_step 97 (111, a0 :: a1 :: a2 :: some (.int x) :: l, st, M) = some (114, a0 :: a1 :: a2 :: some (.int (x + 1)) :: l, st, M) := st_iinc q97_111 rfl (congrArg (fun y => x + y) (show Int32.ofInt 1 = 1 by decide +kernel)) (pj_st_3 h)
theorem x97_111 {st : List Value} {M : pj_Mem} {l : pj_Loc} {a0 a1 a2 : Option Value} {x : Int32} (h : pj_long a2 = false) {o9 : Option Value × pj_Mem} : pj_Ends 97 (111, a0 :: a1 :: a2 :: some (.int x) :: l, st, M) o9 = pj_Ends 97 (114, a0 :: a1 :: a2 :: some (.int (x + 1)) :: l, st, M) o9 := pj_xs (s97_111 h)
theorem q97_114 : pj_row 97 114 = some (.goto (-27), 3, 87, 0, 0) := by decide +kernel
theorem s97_114 {L : pj_Loc} {st : List Value} {M : pj_Mem}  : pj_step 97 (114, L, st, M) = some (87, L, st, M) := st_goto q97_114
theorem x97_114 {L : pj_Loc} {st : List Value} {M : pj_Mem}  {o9 : Option Value × pj_Mem} : pj_Ends 97 (114, L, st, M) o9 = pj_Ends 97 (87, L, st, M) o9 := pj_xs (s97_114)
theorem q97_117 : pj_row 97 117 = some (.aload_n 0, 1, 0, 0, 0) := by decide +kernel
theorem s97_117 {st : List Value} {M : pj_Mem} {l : pj_Loc} {x : Nat} : pj_step 97 (117, some (.ref x) :: l, st, M) = some (118, some (.ref x) :: l, .ref x :: st, M) := st_aload_n q97_117 rfl
theorem x97_117 {st : List Value} {M : pj_Mem} {l : pj_Loc} {x : Nat} {o9 : Option Value × pj_Mem} : pj_Ends 97 (117, some (.ref x) :: l, st, M) o9 = pj_Ends 97 (118, some (.ref x) :: l, .ref x :: st, M) o9 := pj_xs (s97_117)
theorem q97_118 : pj_row 97 118 = some (.getfield 7, 3, 6, 0, 0) := by decide +kernel
theorem s97_118 {L : pj_Loc} {st : List Value} {N S : Nat} {H : pj_Heap} {o : Nat} : pj_step 97 (118, L, .ref o :: st, (N, S, H)) = pj_pv 121 L st (N, S, H) (pj_fld (H o) 6 0) := st_getfield q97_118
theorem x97_118 {L : pj_Loc} {st : List Value} {N S : Nat} {H : pj_Heap} {o : Nat} {o9 : Option Value × pj_Mem} : pj_Ends 97 (118, L, .ref o :: st, (N, S, H)) o9 = pj_then 97 o9 (pj_pv 121 L st (N, S, H) (pj_fld (H o) 6 0)) := pj_xt q97_118 rfl (pj_cl_nc rfl) (s97_118)
theorem q97_121 : pj_row 97 121 = some (.iload_n 2, 1, 0, 0, 0) := by decide +kernel
theorem s97_121 {st : List Value} {M : pj_Mem} {l : pj_Loc} {a0 a1 : Option Value} {x : Int32} : pj_step 97 (121, a0 :: a1 :: some (.int x) :: l, st, M) = some (122, a0 :: a1 :: some (.int x) :: l, .int x :: st, M) := st_iload_n q97_121 rfl
theorem x97_121 {st : List Value} {M : pj_Mem} {l : pj_Loc} {a0 a1 : Option Value} {x : Int32} {o9 : Option Value × pj_Mem} : pj_Ends 97 (121, a0 :: a1 :: some (.int x) :: l, st, M) o9 = pj_Ends 97 (122, a0 :: a1 :: some (.int x) :: l, .int x :: st, M) o9 := pj_xs (s97_121)
theorem q97_122 : pj_row 97 122 = some (.iconst 4, 1, 0, 0, 0) := by decide +kernel
theorem s97_122 {L : pj_Loc} {st : List Value} {M : pj_Mem}  : pj_step 97 (122, L, st, M) = some (123, L, .int 4 :: st, M) := st_iconst q97_122 (by decide +kernel)
theorem x97_122 {L : pj_Loc} {st : List Value} {M : pj_Mem}  {o9 : Option Value × pj_Mem} : pj_Ends 97 (122, L, st, M) o9 = pj_Ends 97 (123, L, .int 4 :: st, M) o9 := pj_xs (s97_122)
theorem q97_123 : pj_row 97 123 = some (.iadd, 1, 0, 0, 0) := by decide +kernel
theorem s97_123 {L : pj_Loc} {st : List Value} {M : pj_Mem} {x y : Int32} : pj_step 97 (123, L, .int y :: .int x :: st, M) = some (124, L, .int (x + y) :: st, M) := st_iadd q97_123
theorem x97_123 {L : pj_Loc} {st : List Value} {M : pj_Mem} {x y : Int32} {o9 : Option Value × pj_Mem} : pj_Ends 97 (123, L, .int y :: .int x :: st, M) o9 = pj_Ends 97 (124, L, .int (x + y) :: st, M) o9 := pj_xs (s97_123)
theorem q97_124 : pj_row 97 124 = some (.iload_n 1, 1, 0, 0, 0) := by decide +kernel
theorem s97_124 {st : List Value} {M : pj_Mem} {l : pj_Loc} {a0 : Option Value} {x : Int32} : pj_step 97 (124, a0 :: some (.int x) :: l, st, M) = some (125, a0 :: some (.int x) :: l, .int x :: st, M) := st_iload_n q97_124 rfl
theorem x97_124 {st : List Value} {M : pj_Mem} {l : pj_Loc} {a0 : Option Value} {x : Int32} {o9 : Option Value × pj_Mem} : pj_Ends 97 (124, a0 :: some (.int x) :: l, st, M) o9 = pj_Ends 97 (125, a0 :: some (.int x) :: l, .int x :: st, M) o9 := pj_xs (s97_124)
theorem q97_125 : pj_row 97 125 = some (.ifCond .eq 7, 3, 132, 0, 0) := by decide +kernel
theorem s97_125 {L : pj_Loc} {st : List Value} {M : pj_Mem} {x : Int32} : pj_step 97 (125, L, .int x :: st, M) = some (if x = 0 then 132 else 128, L, st, M) := st_if_eq q97_125
theorem x97_125 {L : pj_Loc} {st : List Value} {M : pj_Mem} {x : Int32} {o9 : Option Value × pj_Mem} : pj_Ends 97 (125, L, .int x :: st, M) o9 = pj_Ends 97 (if x = 0 then 132 else 128, L, st, M) o9 := pj_xs (s97_125)
theorem q97_128 : pj_row 97 128 = some (.iconst 1, 1, 0, 0, 0) := by decide +kernel
theorem s97_128 {L : pj_Loc} {st : List Value} {M : pj_Mem}  : pj_step 97 (128, L, st, M) = some (129, L, .int 1 :: st, M) := st_iconst q97_128 (by decide +kernel)
theorem x97_128 {L : pj_Loc} {st : List Value} {M : pj_Mem}  {o9 : Option Value × pj_Mem} : pj_Ends 97 (128, L, st, M) o9 = pj_Ends 97 (129, L, .int 1 :: st, M) o9 := pj_xs (s97_128)
theorem q97_129 : pj_row 97 129 = some (.goto 4, 3, 133, 0, 0) := by decide +kernel
theorem s97_129 {L : pj_Loc} {st : List Value} {M : pj_Mem}  : pj_step 97 (129, L, st, M) = some (133, L, st, M) := st_goto q97_129
theorem x97_129 {L : pj_Loc} {st : List Value} {M : pj_Mem}  {o9 : Option Value × pj_Mem} : pj_Ends 97 (129, L, st, M) o9 = pj_Ends 97 (133, L, st, M) o9 := pj_xs (s97_129)
theorem q97_132 : pj_row 97 132 = some (.iconst 0, 1, 0, 0, 0) := by decide +kernel
theorem s97_132 {L : pj_Loc} {st : List Value} {M : pj_Mem}  : pj_step 97 (132, L, st, M) = some (133, L, .int 0 :: st, M) := st_iconst q97_132 (by decide +kernel)
theorem x97_132 {L : pj_Loc} {st : List Value} {M : pj_Mem}  {o9 : Option Value × pj_Mem} : pj_Ends 97 (132, L, st, M) o9 = pj_Ends 97 (133, L, .int 0 :: st, M) o9 := pj_xs (s97_132)
theorem q97_133 : pj_row 97 133 = some (.iastore, 1, 0, 0, 0) := by decide +kernel
theorem s97_133 {L : pj_Loc} {st : List Value} {N S : Nat} {H : pj_Heap} {o : Nat} {i x : Int32} : pj_step 97 (133, L, .int x :: .int i :: .ref o :: st, (N, S, H)) = pj_set 134 L st (N, S, H) o (pj_ars (H o) 0 i x) := st_iastore q97_133
theorem x97_133 {L : pj_Loc} {st : List Value} {N S : Nat} {H : pj_Heap} {o : Nat} {i x : Int32} {o9 : Option Value × pj_Mem} : pj_Ends 97 (133, L, .int x :: .int i :: .ref o :: st, (N, S, H)) o9 = pj_then 97 o9 (pj_set 134 L st (N, S, H) o (pj_ars (H o) 0 i x)) := pj_xt q97_133 rfl (pj_cl_nc rfl) (s97_133)
theorem q97_134 : pj_row 97 134 = some (.aload_n 0, 1, 0, 0, 0) := by decide +kernel
theorem s97_134 {st : List Value} {M : pj_Mem} {l : pj_Loc} {x : Nat} : pj_step 97 (134, some (.ref x) :: l, st, M) = some (135, some (.ref x) :: l, .ref x :: st, M) := st_aload_n q97_134 rfl
theorem x97_134 {st : List Value} {M : pj_Mem} {l : pj_Loc} {x : Nat} {o9 : Option Value × pj_Mem} : pj_Ends 97 (134, some (.ref x) :: l, st, M) o9 = pj_Ends 97 (135, some (.ref x) :: l, .ref x :: st, M) o9 := pj_xs (s97_134)
theorem q97_135 : pj_row 97 135 = some (.getfield 7, 3, 6, 0, 0) := by decide +kernel
theorem s97_135 {L : pj_Loc} {st : List Value} {N S : Nat} {H : pj_Heap} {o : Nat} : pj_step 97 (135, L, .ref o :: st, (N, S, H)) = pj_pv 138 L st (N, S, H) (pj_fld (H o) 6 0) := st_getfield q97_135
theorem x97_135 {L : pj_Loc} {st : List Value} {N S : Nat} {H : pj_Heap} {o : Nat} {o9 : Option Value × pj_Mem} : pj_Ends 97 (135, L, .ref o :: st, (N, S, H)) o9 = pj_then 97 o9 (pj_pv 138 L st (N, S, H) (pj_fld (H o) 6 0)) := pj_xt q97_135 rfl (pj_cl_nc rfl) (s97_135)
theorem q97_138 : pj_row 97 138 = some (.iload_n 2, 1, 0, 0, 0) := by decide +kernel
theorem s97_138 {st : List Value} {M : pj_Mem} {l : pj_Loc} {a0 a1 : Option Value} {x : Int32} : pj_step 97 (138, a0 :: a1 :: some (.int x) :: l, st, M) = some (139, a0 :: a1 :: some (.int x) :: l, .int x :: st, M) := st_iload_n q97_138 rfl
theorem x97_138 {st : List Value} {M : pj_Mem} {l : pj_Loc} {a0 a1 : Option Value} {x : Int32} {o9 : Option Value × pj_Mem} : pj_Ends 97 (138, a0 :: a1 :: some (.int x) :: l, st, M) o9 = pj_Ends 97 (139, a0 :: a1 :: some (.int x) :: l, .int x :: st, M) o9 := pj_xs (s97_138)
theorem q97_139 : pj_row 97 139 = some (.iconst 5, 1, 0, 0, 0) := by decide +kernel
theorem s97_139 {L : pj_Loc} {st : List Value} {M : pj_Mem}  : pj_step 97 (139, L, st, M) = some (140, L, .int 5 :: st, M) := st_iconst q97_139 (by decide +kernel)
theorem x97_139 {L : pj_Loc} {st : List Value} {M : pj_Mem}  {o9 : Option Value × pj_Mem} : pj_Ends 97 (139, L, st, M) o9 = pj_Ends 97 (140, L, .int 5 :: st, M) o9 := pj_xs (s97_139)
theorem q97_140 : pj_row 97 140 = some (.iadd, 1, 0, 0, 0) := by decide +kernel
theorem s97_140 {L : pj_Loc} {st : List Value} {M : pj_Mem} {x y : Int32} : pj_step 97 (140, L, .int y :: .int x :: st, M) = some (141, L, .int (x + y) :: st, M) := st_iadd q97_140
theorem x97_140 {L : pj_Loc} {st : List Value} {M : pj_Mem} {x y : Int32} {o9 : Option Value × pj_Mem} : pj_Ends 97 (140, L, .int y :: .int x :: st, M) o9 = pj_Ends 97 (141, L, .int (x + y) :: st, M) o9 := pj_xs (s97_140)
theorem q97_141 : pj_row 97 141 = some (.aload_n 0, 1, 0, 0, 0) := by decide +kernel
theorem s97_141 {st : List Value} {M : pj_Mem} {l : pj_Loc} {x : Nat} : pj_step 97 (141, some (.ref x) :: l, st, M) = some (142, some (.ref x) :: l, .ref x :: st, M) := st_aload_n q97_141 rfl
theorem x97_141 {st : List Value} {M : pj_Mem} {l : pj_Loc} {x : Nat} {o9 : Option Value × pj_Mem} : pj_Ends 97 (141, some (.ref x) :: l, st, M) o9 = pj_Ends 97 (142, some (.ref x) :: l, .ref x :: st, M) o9 := pj_xs (s97_141)
theorem q97_142 : pj_row 97 142 = some (.getfield 56, 3, 6, 8, 0) := by decide +kernel
theorem s97_142 {L : pj_Loc} {st : List Value} {N S : Nat} {H : pj_Heap} {o : Nat} : pj_step 97 (142, L, .ref o :: st, (N, S, H)) = pj_pv 145 L st (N, S, H) (pj_fld (H o) 6 8) := st_getfield q97_142
theorem x97_142 {L : pj_Loc} {st : List Value} {N S : Nat} {H : pj_Heap} {o : Nat} {o9 : Option Value × pj_Mem} : pj_Ends 97 (142, L, .ref o :: st, (N, S, H)) o9 = pj_then 97 o9 (pj_pv 145 L st (N, S, H) (pj_fld (H o) 6 8)) := pj_xt q97_142 rfl (pj_cl_nc rfl) (s97_142)
theorem q97_145 : pj_row 97 145 = some (.ldc 81, 2, 0, 0, 100000) := by decide +kernel
theorem s97_145 {L : pj_Loc} {st : List Value} {M : pj_Mem}  : pj_step 97 (145, L, st, M) = some (147, L, .int 100000 :: st, M) := st_ldc q97_145 (by decide +kernel)
theorem x97_145 {L : pj_Loc} {st : List Value} {M : pj_Mem}  {o9 : Option Value × pj_Mem} : pj_Ends 97 (145, L, st, M) o9 = pj_Ends 97 (147, L, .int 100000 :: st, M) o9 := pj_xs (s97_145)
theorem q97_147 : pj_row 97 147 = some (.iadd, 1, 0, 0, 0) := by decide +kernel
theorem s97_147 {L : pj_Loc} {st : List Value} {M : pj_Mem} {x y : Int32} : pj_step 97 (147, L, .int y :: .int x :: st, M) = some (148, L, .int (x + y) :: st, M) := st_iadd q97_147
theorem x97_147 {L : pj_Loc} {st : List Value} {M : pj_Mem} {x y : Int32} {o9 : Option Value × pj_Mem} : pj_Ends 97 (147, L, .int y :: .int x :: st, M) o9 = pj_Ends 97 (148, L, .int (x + y) :: st, M) o9 := pj_xs (s97_147)
theorem q97_148 : pj_row 97 148 = some (.iastore, 1, 0, 0, 0) := by decide +kernel
theorem s97_148 {L : pj_Loc} {st : List Value} {N S : Nat} {H : pj_Heap} {o : Nat} {i x : Int32} : pj_step 97 (148, L, .int x :: .int i :: .ref o :: st, (N, S, H)) = pj_set 149 L st (N, S, H) o (pj_ars (H o) 0 i x) := st_iastore q97_148
theorem x97_148 {L : pj_Loc} {st : List Value} {N S : Nat} {H : pj_Heap} {o : Nat} {i x : Int32} {o9 : Option Value × pj_Mem} : pj_Ends 97 (148, L, .int x :: .int i :: .ref o :: st, (N, S, H)) o9 = pj_then 97 o9 (pj_set 149 L st (N, S, H) o (pj_ars (H o) 0 i x)) := pj_xt q97_148 rfl (pj_cl_nc rfl) (s97_148)
theorem q97_149 : pj_row 97 149 = some (.aload_n 0, 1, 0, 0, 0) := by decide +kernel
theorem s97_149 {st : List Value} {M : pj_Mem} {l : pj_Loc} {x : Nat} : pj_step 97 (149, some (.ref x) :: l, st, M) = some (150, some (.ref x) :: l, .ref x :: st, M) := st_aload_n q97_149 rfl
theorem x97_149 {st : List Value} {M : pj_Mem} {l : pj_Loc} {x : Nat} {o9 : Option Value × pj_Mem} : pj_Ends 97 (149, some (.ref x) :: l, st, M) o9 = pj_Ends 97 (150, some (.ref x) :: l, .ref x :: st, M) o9 := pj_xs (s97_149)
theorem q97_150 : pj_row 97 150 = some (.getfield 7, 3, 6, 0, 0) := by decide +kernel
theorem s97_150 {L : pj_Loc} {st : List Value} {N S : Nat} {H : pj_Heap} {o : Nat} : pj_step 97 (150, L, .ref o :: st, (N, S, H)) = pj_pv 153 L st (N, S, H) (pj_fld (H o) 6 0) := st_getfield q97_150
theorem x97_150 {L : pj_Loc} {st : List Value} {N S : Nat} {H : pj_Heap} {o : Nat} {o9 : Option Value × pj_Mem} : pj_Ends 97 (150, L, .ref o :: st, (N, S, H)) o9 = pj_then 97 o9 (pj_pv 153 L st (N, S, H) (pj_fld (H o) 6 0)) := pj_xt q97_150 rfl (pj_cl_nc rfl) (s97_150)
theorem q97_153 : pj_row 97 153 = some (.iload_n 2, 1, 0, 0, 0) := by decide +kernel
theorem s97_153 {st : List Value} {M : pj_Mem} {l : pj_Loc} {a0 a1 : Option Value} {x : Int32} : pj_step 97 (153, a0 :: a1 :: some (.int x) :: l, st, M) = some (154, a0 :: a1 :: some (.int x) :: l, .int x :: st, M) := st_iload_n q97_153 rfl
theorem x97_153 {st : List Value} {M : pj_Mem} {l : pj_Loc} {a0 a1 : Option Value} {x : Int32} {o9 : Option Value × pj_Mem} : pj_Ends 97 (153, a0 :: a1 :: some (.int x) :: l, st, M) o9 = pj_Ends 97 (154, a0 :: a1 :: some (.int x) :: l, .int x :: st, M) o9 := pj_xs (s97_153)
theorem q97_154 : pj_row 97 154 = some (.bipush 6, 2, 0, 0, 0) := by decide +kernel
theorem s97_154 {L : pj_Loc} {st : List Value} {M : pj_Mem}  : pj_step 97 (154, L, st, M) = some (156, L, .int 6 :: st, M) := st_bipush q97_154 (by decide +kernel)
theorem x97_154 {L : pj_Loc} {st : List Value} {M : pj_Mem}  {o9 : Option Value × pj_Mem} : pj_Ends 97 (154, L, st, M) o9 = pj_Ends 97 (156, L, .int 6 :: st, M) o9 := pj_xs (s97_154)
theorem q97_156 : pj_row 97 156 = some (.iadd, 1, 0, 0, 0) := by decide +kernel
theorem s97_156 {L : pj_Loc} {st : List Value} {M : pj_Mem} {x y : Int32} : pj_step 97 (156, L, .int y :: .int x :: st, M) = some (157, L, .int (x + y) :: st, M) := st_iadd q97_156
theorem x97_156 {L : pj_Loc} {st : List Value} {M : pj_Mem} {x y : Int32} {o9 : Option Value × pj_Mem} : pj_Ends 97 (156, L, .int y :: .int x :: st, M) o9 = pj_Ends 97 (157, L, .int (x + y) :: st, M) o9 := pj_xs (s97_156)
theorem q97_157 : pj_row 97 157 = some (.aload_n 0, 1, 0, 0, 0) := by decide +kernel
theorem s97_157 {st : List Value} {M : pj_Mem} {l : pj_Loc} {x : Nat} : pj_step 97 (157, some (.ref x) :: l, st, M) = some (158, some (.ref x) :: l, .ref x :: st, M) := st_aload_n q97_157 rfl
theorem x97_157 {st : List Value} {M : pj_Mem} {l : pj_Loc} {x : Nat} {o9 : Option Value × pj_Mem} : pj_Ends 97 (157, some (.ref x) :: l, st, M) o9 = pj_Ends 97 (158, some (.ref x) :: l, .ref x :: st, M) o9 := pj_xs (s97_157)
theorem q97_158 : pj_row 97 158 = some (.getfield 72, 3, 6, 9, 0) := by decide +kernel
theorem s97_158 {L : pj_Loc} {st : List Value} {N S : Nat} {H : pj_Heap} {o : Nat} : pj_step 97 (158, L, .ref o :: st, (N, S, H)) = pj_pv 161 L st (N, S, H) (pj_fld (H o) 6 9) := st_getfield q97_158
theorem x97_158 {L : pj_Loc} {st : List Value} {N S : Nat} {H : pj_Heap} {o : Nat} {o9 : Option Value × pj_Mem} : pj_Ends 97 (158, L, .ref o :: st, (N, S, H)) o9 = pj_then 97 o9 (pj_pv 161 L st (N, S, H) (pj_fld (H o) 6 9)) := pj_xt q97_158 rfl (pj_cl_nc rfl) (s97_158)
theorem q97_161 : pj_row 97 161 = some (.iastore, 1, 0, 0, 0) := by decide +kernel
theorem s97_161 {L : pj_Loc} {st : List Value} {N S : Nat} {H : pj_Heap} {o : Nat} {i x : Int32} : pj_step 97 (161, L, .int x :: .int i :: .ref o :: st, (N, S, H)) = pj_set 162 L st (N, S, H) o (pj_ars (H o) 0 i x) := st_iastore q97_161
theorem x97_161 {L : pj_Loc} {st : List Value} {N S : Nat} {H : pj_Heap} {o : Nat} {i x : Int32} {o9 : Option Value × pj_Mem} : pj_Ends 97 (161, L, .int x :: .int i :: .ref o :: st, (N, S, H)) o9 = pj_then 97 o9 (pj_set 162 L st (N, S, H) o (pj_ars (H o) 0 i x)) := pj_xt q97_161 rfl (pj_cl_nc rfl) (s97_161)
theorem q97_162 : pj_row 97 162 = some (.aload_n 0, 1, 0, 0, 0) := by decide +kernel
theorem s97_162 {st : List Value} {M : pj_Mem} {l : pj_Loc} {x : Nat} : pj_step 97 (162, some (.ref x) :: l, st, M) = some (163, some (.ref x) :: l, .ref x :: st, M) := st_aload_n q97_162 rfl
theorem x97_162 {st : List Value} {M : pj_Mem} {l : pj_Loc} {x : Nat} {o9 : Option Value × pj_Mem} : pj_Ends 97 (162, some (.ref x) :: l, st, M) o9 = pj_Ends 97 (163, some (.ref x) :: l, .ref x :: st, M) o9 := pj_xs (s97_162)
theorem q97_163 : pj_row 97 163 = some (.getfield 7, 3, 6, 0, 0) := by decide +kernel
theorem s97_163 {L : pj_Loc} {st : List Value} {N S : Nat} {H : pj_Heap} {o : Nat} : pj_step 97 (163, L, .ref o :: st, (N, S, H)) = pj_pv 166 L st (N, S, H) (pj_fld (H o) 6 0) := st_getfield q97_163
theorem x97_163 {L : pj_Loc} {st : List Value} {N S : Nat} {H : pj_Heap} {o : Nat} {o9 : Option Value × pj_Mem} : pj_Ends 97 (163, L, .ref o :: st, (N, S, H)) o9 = pj_then 97 o9 (pj_pv 166 L st (N, S, H) (pj_fld (H o) 6 0)) := pj_xt q97_163 rfl (pj_cl_nc rfl) (s97_163)
theorem q97_166 : pj_row 97 166 = some (.iload_n 2, 1, 0, 0, 0) := by decide +kernel
theorem s97_166 {st : List Value} {M : pj_Mem} {l : pj_Loc} {a0 a1 : Option Value} {x : Int32} : pj_step 97 (166, a0 :: a1 :: some (.int x) :: l, st, M) = some (167, a0 :: a1 :: some (.int x) :: l, .int x :: st, M) := st_iload_n q97_166 rfl
theorem x97_166 {st : List Value} {M : pj_Mem} {l : pj_Loc} {a0 a1 : Option Value} {x : Int32} {o9 : Option Value × pj_Mem} : pj_Ends 97 (166, a0 :: a1 :: some (.int x) :: l, st, M) o9 = pj_Ends 97 (167, a0 :: a1 :: some (.int x) :: l, .int x :: st, M) o9 := pj_xs (s97_166)
theorem q97_167 : pj_row 97 167 = some (.bipush 7, 2, 0, 0, 0) := by decide +kernel
theorem s97_167 {L : pj_Loc} {st : List Value} {M : pj_Mem}  : pj_step 97 (167, L, st, M) = some (169, L, .int 7 :: st, M) := st_bipush q97_167 (by decide +kernel)
theorem x97_167 {L : pj_Loc} {st : List Value} {M : pj_Mem}  {o9 : Option Value × pj_Mem} : pj_Ends 97 (167, L, st, M) o9 = pj_Ends 97 (169, L, .int 7 :: st, M) o9 := pj_xs (s97_167)
theorem q97_169 : pj_row 97 169 = some (.iadd, 1, 0, 0, 0) := by decide +kernel
theorem s97_169 {L : pj_Loc} {st : List Value} {M : pj_Mem} {x y : Int32} : pj_step 97 (169, L, .int y :: .int x :: st, M) = some (170, L, .int (x + y) :: st, M) := st_iadd q97_169
theorem x97_169 {L : pj_Loc} {st : List Value} {M : pj_Mem} {x y : Int32} {o9 : Option Value × pj_Mem} : pj_Ends 97 (169, L, .int y :: .int x :: st, M) o9 = pj_Ends 97 (170, L, .int (x + y) :: st, M) o9 := pj_xs (s97_169)
theorem q97_170 : pj_row 97 170 = some (.aload_n 0, 1, 0, 0, 0) := by decide +kernel
theorem s97_170 {st : List Value} {M : pj_Mem} {l : pj_Loc} {x : Nat} : pj_step 97 (170, some (.ref x) :: l, st, M) = some (171, some (.ref x) :: l, .ref x :: st, M) := st_aload_n q97_170 rfl
theorem x97_170 {st : List Value} {M : pj_Mem} {l : pj_Loc} {x : Nat} {o9 : Option Value × pj_Mem} : pj_Ends 97 (170, some (.ref x) :: l, st, M) o9 = pj_Ends 97 (171, some (.ref x) :: l, .ref x :: st, M) o9 := pj_xs (s97_170)
theorem q97_171 : pj_row 97 171 = some (.getfield 65, 3, 6, 10, 0) := by decide +kernel
theorem s97_171 {L : pj_Loc} {st : List Value} {N S : Nat} {H : pj_Heap} {o : Nat} : pj_step 97 (171, L, .ref o :: st, (N, S, H)) = pj_pv 174 L st (N, S, H) (pj_fld (H o) 6 10) := st_getfield q97_171
theorem x97_171 {L : pj_Loc} {st : List Value} {N S : Nat} {H : pj_Heap} {o : Nat} {o9 : Option Value × pj_Mem} : pj_Ends 97 (171, L, .ref o :: st, (N, S, H)) o9 = pj_then 97 o9 (pj_pv 174 L st (N, S, H) (pj_fld (H o) 6 10)) := pj_xt q97_171 rfl (pj_cl_nc rfl) (s97_171)
theorem q97_174 : pj_row 97 174 = some (.iastore, 1, 0, 0, 0) := by decide +kernel
theorem s97_174 {L : pj_Loc} {st : List Value} {N S : Nat} {H : pj_Heap} {o : Nat} {i x : Int32} : pj_step 97 (174, L, .int x :: .int i :: .ref o :: st, (N, S, H)) = pj_set 175 L st (N, S, H) o (pj_ars (H o) 0 i x) := st_iastore q97_174
theorem x97_174 {L : pj_Loc} {st : List Value} {N S : Nat} {H : pj_Heap} {o : Nat} {i x : Int32} {o9 : Option Value × pj_Mem} : pj_Ends 97 (174, L, .int x :: .int i :: .ref o :: st, (N, S, H)) o9 = pj_then 97 o9 (pj_set 175 L st (N, S, H) o (pj_ars (H o) 0 i x)) := pj_xt q97_174 rfl (pj_cl_nc rfl) (s97_174)
theorem q97_175 : pj_row 97 175 = some (.aload_n 0, 1, 0, 0, 0) := by decide +kernel
theorem s97_175 {st : List Value} {M : pj_Mem} {l : pj_Loc} {x : Nat} : pj_step 97 (175, some (.ref x) :: l, st, M) = some (176, some (.ref x) :: l, .ref x :: st, M) := st_aload_n q97_175 rfl
theorem x97_175 {st : List Value} {M : pj_Mem} {l : pj_Loc} {x : Nat} {o9 : Option Value × pj_Mem} : pj_Ends 97 (175, some (.ref x) :: l, st, M) o9 = pj_Ends 97 (176, some (.ref x) :: l, .ref x :: st, M) o9 := pj_xs (s97_175)
theorem q97_176 : pj_row 97 176 = some (.getfield 7, 3, 6, 0, 0) := by decide +kernel
theorem s97_176 {L : pj_Loc} {st : List Value} {N S : Nat} {H : pj_Heap} {o : Nat} : pj_step 97 (176, L, .ref o :: st, (N, S, H)) = pj_pv 179 L st (N, S, H) (pj_fld (H o) 6 0) := st_getfield q97_176
theorem x97_176 {L : pj_Loc} {st : List Value} {N S : Nat} {H : pj_Heap} {o : Nat} {o9 : Option Value × pj_Mem} : pj_Ends 97 (176, L, .ref o :: st, (N, S, H)) o9 = pj_then 97 o9 (pj_pv 179 L st (N, S, H) (pj_fld (H o) 6 0)) := pj_xt q97_176 rfl (pj_cl_nc rfl) (s97_176)
theorem q97_179 : pj_row 97 179 = some (.iload_n 2, 1, 0, 0, 0) := by decide +kernel
theorem s97_179 {st : List Value} {M : pj_Mem} {l : pj_Loc} {a0 a1 : Option Value} {x : Int32} : pj_step 97 (179, a0 :: a1 :: some (.int x) :: l, st, M) = some (180, a0 :: a1 :: some (.int x) :: l, .int x :: st, M) := st_iload_n q97_179 rfl
theorem x97_179 {st : List Value} {M : pj_Mem} {l : pj_Loc} {a0 a1 : Option Value} {x : Int32} {o9 : Option Value × pj_Mem} : pj_Ends 97 (179, a0 :: a1 :: some (.int x) :: l, st, M) o9 = pj_Ends 97 (180, a0 :: a1 :: some (.int x) :: l, .int x :: st, M) o9 := pj_xs (s97_179)
theorem q97_180 : pj_row 97 180 = some (.bipush 8, 2, 0, 0, 0) := by decide +kernel
theorem s97_180 {L : pj_Loc} {st : List Value} {M : pj_Mem}  : pj_step 97 (180, L, st, M) = some (182, L, .int 8 :: st, M) := st_bipush q97_180 (by decide +kernel)
theorem x97_180 {L : pj_Loc} {st : List Value} {M : pj_Mem}  {o9 : Option Value × pj_Mem} : pj_Ends 97 (180, L, st, M) o9 = pj_Ends 97 (182, L, .int 8 :: st, M) o9 := pj_xs (s97_180)
theorem q97_182 : pj_row 97 182 = some (.iadd, 1, 0, 0, 0) := by decide +kernel
theorem s97_182 {L : pj_Loc} {st : List Value} {M : pj_Mem} {x y : Int32} : pj_step 97 (182, L, .int y :: .int x :: st, M) = some (183, L, .int (x + y) :: st, M) := st_iadd q97_182
theorem x97_182 {L : pj_Loc} {st : List Value} {M : pj_Mem} {x y : Int32} {o9 : Option Value × pj_Mem} : pj_Ends 97 (182, L, .int y :: .int x :: st, M) o9 = pj_Ends 97 (183, L, .int (x + y) :: st, M) o9 := pj_xs (s97_182)
theorem q97_183 : pj_row 97 183 = some (.aload_n 0, 1, 0, 0, 0) := by decide +kernel
theorem s97_183 {st : List Value} {M : pj_Mem} {l : pj_Loc} {x : Nat} : pj_step 97 (183, some (.ref x) :: l, st, M) = some (184, some (.ref x) :: l, .ref x :: st, M) := st_aload_n q97_183 rfl
theorem x97_183 {st : List Value} {M : pj_Mem} {l : pj_Loc} {x : Nat} {o9 : Option Value × pj_Mem} : pj_Ends 97 (183, some (.ref x) :: l, st, M) o9 = pj_Ends 97 (184, some (.ref x) :: l, .ref x :: st, M) o9 := pj_xs (s97_183)
theorem q97_184 : pj_row 97 184 = some (.getfield 7, 3, 6, 0, 0) := by decide +kernel
theorem s97_184 {L : pj_Loc} {st : List Value} {N S : Nat} {H : pj_Heap} {o : Nat} : pj_step 97 (184, L, .ref o :: st, (N, S, H)) = pj_pv 187 L st (N, S, H) (pj_fld (H o) 6 0) := st_getfield q97_184
theorem x97_184 {L : pj_Loc} {st : List Value} {N S : Nat} {H : pj_Heap} {o : Nat} {o9 : Option Value × pj_Mem} : pj_Ends 97 (184, L, .ref o :: st, (N, S, H)) o9 = pj_then 97 o9 (pj_pv 187 L st (N, S, H) (pj_fld (H o) 6 0)) := pj_xt q97_184 rfl (pj_cl_nc rfl) (s97_184)
theorem q97_187 : pj_row 97 187 = some (.bipush 7, 2, 0, 0, 0) := by decide +kernel
theorem s97_187 {L : pj_Loc} {st : List Value} {M : pj_Mem}  : pj_step 97 (187, L, st, M) = some (189, L, .int 7 :: st, M) := st_bipush q97_187 (by decide +kernel)
theorem x97_187 {L : pj_Loc} {st : List Value} {M : pj_Mem}  {o9 : Option Value × pj_Mem} : pj_Ends 97 (187, L, st, M) o9 = pj_Ends 97 (189, L, .int 7 :: st, M) o9 := pj_xs (s97_187)
theorem q97_189 : pj_row 97 189 = some (.iaload, 1, 0, 0, 0) := by decide +kernel
theorem s97_189 {L : pj_Loc} {st : List Value} {N S : Nat} {H : pj_Heap} {o : Nat} {i : Int32} : pj_step 97 (189, L, .int i :: .ref o :: st, (N, S, H)) = pj_pi 190 L st (N, S, H) (pj_arl (H o) 0 i) := st_iaload q97_189
theorem x97_189 {L : pj_Loc} {st : List Value} {N S : Nat} {H : pj_Heap} {o : Nat} {i : Int32} {o9 : Option Value × pj_Mem} : pj_Ends 97 (189, L, .int i :: .ref o :: st, (N, S, H)) o9 = pj_then 97 o9 (pj_pi 190 L st (N, S, H) (pj_arl (H o) 0 i)) := pj_xt q97_189 rfl (pj_cl_nc rfl) (s97_189)
theorem q97_190 : pj_row 97 190 = some (.ifCond .le 7, 3, 197, 0, 0) := by decide +kernel
theorem s97_190 {L : pj_Loc} {st : List Value} {M : pj_Mem} {x : Int32} : pj_step 97 (190, L, .int x :: st, M) = some (if x ≤ 0 then 197 else 193, L, st, M) := st_if_le q97_190
theorem x97_190 {L : pj_Loc} {st : List Value} {M : pj_Mem} {x : Int32} {o9 : Option Value × pj_Mem} : pj_Ends 97 (190, L, .int x :: st, M) o9 = pj_Ends 97 (if x ≤ 0 then 197 else 193, L, st, M) o9 := pj_xs (s97_190)
theorem q97_193 : pj_row 97 193 = some (.iconst 1, 1, 0, 0, 0) := by decide +kernel
theorem s97_193 {L : pj_Loc} {st : List Value} {M : pj_Mem}  : pj_step 97 (193, L, st, M) = some (194, L, .int 1 :: st, M) := st_iconst q97_193 (by decide +kernel)
theorem x97_193 {L : pj_Loc} {st : List Value} {M : pj_Mem}  {o9 : Option Value × pj_Mem} : pj_Ends 97 (193, L, st, M) o9 = pj_Ends 97 (194, L, .int 1 :: st, M) o9 := pj_xs (s97_193)
theorem q97_194 : pj_row 97 194 = some (.goto 4, 3, 198, 0, 0) := by decide +kernel
theorem s97_194 {L : pj_Loc} {st : List Value} {M : pj_Mem}  : pj_step 97 (194, L, st, M) = some (198, L, st, M) := st_goto q97_194
theorem x97_194 {L : pj_Loc} {st : List Value} {M : pj_Mem}  {o9 : Option Value × pj_Mem} : pj_Ends 97 (194, L, st, M) o9 = pj_Ends 97 (198, L, st, M) o9 := pj_xs (s97_194)
theorem q97_197 : pj_row 97 197 = some (.iconst 0, 1, 0, 0, 0) := by decide +kernel
theorem s97_197 {L : pj_Loc} {st : List Value} {M : pj_Mem}  : pj_step 97 (197, L, st, M) = some (198, L, .int 0 :: st, M) := st_iconst q97_197 (by decide +kernel)
theorem x97_197 {L : pj_Loc} {st : List Value} {M : pj_Mem}  {o9 : Option Value × pj_Mem} : pj_Ends 97 (197, L, st, M) o9 = pj_Ends 97 (198, L, .int 0 :: st, M) o9 := pj_xs (s97_197)
theorem q97_198 : pj_row 97 198 = some (.iastore, 1, 0, 0, 0) := by decide +kernel
theorem s97_198 {L : pj_Loc} {st : List Value} {N S : Nat} {H : pj_Heap} {o : Nat} {i x : Int32} : pj_step 97 (198, L, .int x :: .int i :: .ref o :: st, (N, S, H)) = pj_set 199 L st (N, S, H) o (pj_ars (H o) 0 i x) := st_iastore q97_198
theorem x97_198 {L : pj_Loc} {st : List Value} {N S : Nat} {H : pj_Heap} {o : Nat} {i x : Int32} {o9 : Option Value × pj_Mem} : pj_Ends 97 (198, L, .int x :: .int i :: .ref o :: st, (N, S, H)) o9 = pj_then 97 o9 (pj_set 199 L st (N, S, H) o (pj_ars (H o) 0 i x)) := pj_xt q97_198 rfl (pj_cl_nc rfl) (s97_198)
theorem q97_199 : pj_row 97 199 = some (.aload_n 0, 1, 0, 0, 0) := by decide +kernel
theorem s97_199 {st : List Value} {M : pj_Mem} {l : pj_Loc} {x : Nat} : pj_step 97 (199, some (.ref x) :: l, st, M) = some (200, some (.ref x) :: l, .ref x :: st, M) := st_aload_n q97_199 rfl
theorem x97_199 {st : List Value} {M : pj_Mem} {l : pj_Loc} {x : Nat} {o9 : Option Value × pj_Mem} : pj_Ends 97 (199, some (.ref x) :: l, st, M) o9 = pj_Ends 97 (200, some (.ref x) :: l, .ref x :: st, M) o9 := pj_xs (s97_199)
theorem q97_200 : pj_row 97 200 = some (.getfield 7, 3, 6, 0, 0) := by decide +kernel
theorem s97_200 {L : pj_Loc} {st : List Value} {N S : Nat} {H : pj_Heap} {o : Nat} : pj_step 97 (200, L, .ref o :: st, (N, S, H)) = pj_pv 203 L st (N, S, H) (pj_fld (H o) 6 0) := st_getfield q97_200
theorem x97_200 {L : pj_Loc} {st : List Value} {N S : Nat} {H : pj_Heap} {o : Nat} {o9 : Option Value × pj_Mem} : pj_Ends 97 (200, L, .ref o :: st, (N, S, H)) o9 = pj_then 97 o9 (pj_pv 203 L st (N, S, H) (pj_fld (H o) 6 0)) := pj_xt q97_200 rfl (pj_cl_nc rfl) (s97_200)
theorem q97_203 : pj_row 97 203 = some (.iload_n 2, 1, 0, 0, 0) := by decide +kernel
theorem s97_203 {st : List Value} {M : pj_Mem} {l : pj_Loc} {a0 a1 : Option Value} {x : Int32} : pj_step 97 (203, a0 :: a1 :: some (.int x) :: l, st, M) = some (204, a0 :: a1 :: some (.int x) :: l, .int x :: st, M) := st_iload_n q97_203 rfl
theorem x97_203 {st : List Value} {M : pj_Mem} {l : pj_Loc} {a0 a1 : Option Value} {x : Int32} {o9 : Option Value × pj_Mem} : pj_Ends 97 (203, a0 :: a1 :: some (.int x) :: l, st, M) o9 = pj_Ends 97 (204, a0 :: a1 :: some (.int x) :: l, .int x :: st, M) o9 := pj_xs (s97_203)
theorem q97_204 : pj_row 97 204 = some (.bipush 9, 2, 0, 0, 0) := by decide +kernel
theorem s97_204 {L : pj_Loc} {st : List Value} {M : pj_Mem}  : pj_step 97 (204, L, st, M) = some (206, L, .int 9 :: st, M) := st_bipush q97_204 (by decide +kernel)
theorem x97_204 {L : pj_Loc} {st : List Value} {M : pj_Mem}  {o9 : Option Value × pj_Mem} : pj_Ends 97 (204, L, st, M) o9 = pj_Ends 97 (206, L, .int 9 :: st, M) o9 := pj_xs (s97_204)
theorem q97_206 : pj_row 97 206 = some (.iadd, 1, 0, 0, 0) := by decide +kernel
theorem s97_206 {L : pj_Loc} {st : List Value} {M : pj_Mem} {x y : Int32} : pj_step 97 (206, L, .int y :: .int x :: st, M) = some (207, L, .int (x + y) :: st, M) := st_iadd q97_206
theorem x97_206 {L : pj_Loc} {st : List Value} {M : pj_Mem} {x y : Int32} {o9 : Option Value × pj_Mem} : pj_Ends 97 (206, L, .int y :: .int x :: st, M) o9 = pj_Ends 97 (207, L, .int (x + y) :: st, M) o9 := pj_xs (s97_206)
theorem q97_207 : pj_row 97 207 = some (.aload_n 0, 1, 0, 0, 0) := by decide +kernel
theorem s97_207 {st : List Value} {M : pj_Mem} {l : pj_Loc} {x : Nat} : pj_step 97 (207, some (.ref x) :: l, st, M) = some (208, some (.ref x) :: l, .ref x :: st, M) := st_aload_n q97_207 rfl
theorem x97_207 {st : List Value} {M : pj_Mem} {l : pj_Loc} {x : Nat} {o9 : Option Value × pj_Mem} : pj_Ends 97 (207, some (.ref x) :: l, st, M) o9 = pj_Ends 97 (208, some (.ref x) :: l, .ref x :: st, M) o9 := pj_xs (s97_207)
theorem q97_208 : pj_row 97 208 = some (.getfield 75, 3, 6, 11, 0) := by decide +kernel
theorem s97_208 {L : pj_Loc} {st : List Value} {N S : Nat} {H : pj_Heap} {o : Nat} : pj_step 97 (208, L, .ref o :: st, (N, S, H)) = pj_pv 211 L st (N, S, H) (pj_fld (H o) 6 11) := st_getfield q97_208
theorem x97_208 {L : pj_Loc} {st : List Value} {N S : Nat} {H : pj_Heap} {o : Nat} {o9 : Option Value × pj_Mem} : pj_Ends 97 (208, L, .ref o :: st, (N, S, H)) o9 = pj_then 97 o9 (pj_pv 211 L st (N, S, H) (pj_fld (H o) 6 11)) := pj_xt q97_208 rfl (pj_cl_nc rfl) (s97_208)
theorem q97_211 : pj_row 97 211 = some (.iastore, 1, 0, 0, 0) := by decide +kernel
theorem s97_211 {L : pj_Loc} {st : List Value} {N S : Nat} {H : pj_Heap} {o : Nat} {i x : Int32} : pj_step 97 (211, L, .int x :: .int i :: .ref o :: st, (N, S, H)) = pj_set 212 L st (N, S, H) o (pj_ars (H o) 0 i x) := st_iastore q97_211
theorem x97_211 {L : pj_Loc} {st : List Value} {N S : Nat} {H : pj_Heap} {o : Nat} {i x : Int32} {o9 : Option Value × pj_Mem} : pj_Ends 97 (211, L, .int x :: .int i :: .ref o :: st, (N, S, H)) o9 = pj_then 97 o9 (pj_set 212 L st (N, S, H) o (pj_ars (H o) 0 i x)) := pj_xt q97_211 rfl (pj_cl_nc rfl) (s97_211)
theorem q97_212 : pj_row 97 212 = some (.aload_n 0, 1, 0, 0, 0) := by decide +kernel
theorem s97_212 {st : List Value} {M : pj_Mem} {l : pj_Loc} {x : Nat} : pj_step 97 (212, some (.ref x) :: l, st, M) = some (213, some (.ref x) :: l, .ref x :: st, M) := st_aload_n q97_212 rfl
theorem x97_212 {st : List Value} {M : pj_Mem} {l : pj_Loc} {x : Nat} {o9 : Option Value × pj_Mem} : pj_Ends 97 (212, some (.ref x) :: l, st, M) o9 = pj_Ends 97 (213, some (.ref x) :: l, .ref x :: st, M) o9 := pj_xs (s97_212)
theorem q97_213 : pj_row 97 213 = some (.getfield 7, 3, 6, 0, 0) := by decide +kernel
theorem s97_213 {L : pj_Loc} {st : List Value} {N S : Nat} {H : pj_Heap} {o : Nat} : pj_step 97 (213, L, .ref o :: st, (N, S, H)) = pj_pv 216 L st (N, S, H) (pj_fld (H o) 6 0) := st_getfield q97_213
theorem x97_213 {L : pj_Loc} {st : List Value} {N S : Nat} {H : pj_Heap} {o : Nat} {o9 : Option Value × pj_Mem} : pj_Ends 97 (213, L, .ref o :: st, (N, S, H)) o9 = pj_then 97 o9 (pj_pv 216 L st (N, S, H) (pj_fld (H o) 6 0)) := pj_xt q97_213 rfl (pj_cl_nc rfl) (s97_213)
theorem q97_216 : pj_row 97 216 = some (.bipush 30, 2, 0, 0, 0) := by decide +kernel
theorem s97_216 {L : pj_Loc} {st : List Value} {M : pj_Mem}  : pj_step 97 (216, L, st, M) = some (218, L, .int 30 :: st, M) := st_bipush q97_216 (by decide +kernel)
theorem x97_216 {L : pj_Loc} {st : List Value} {M : pj_Mem}  {o9 : Option Value × pj_Mem} : pj_Ends 97 (216, L, st, M) o9 = pj_Ends 97 (218, L, .int 30 :: st, M) o9 := pj_xs (s97_216)
theorem q97_218 : pj_row 97 218 = some (.dup2, 1, 0, 0, 0) := by decide +kernel
theorem s97_218 {L : pj_Loc} {st : List Value} {M : pj_Mem} {x : Int32} {o : Nat} : pj_step 97 (218, L, .int x :: .ref o :: st, M) = some (219, L, .int x :: .ref o :: .int x :: .ref o :: st, M) := st_dup2 q97_218
theorem x97_218 {L : pj_Loc} {st : List Value} {M : pj_Mem} {x : Int32} {o : Nat} {o9 : Option Value × pj_Mem} : pj_Ends 97 (218, L, .int x :: .ref o :: st, M) o9 = pj_Ends 97 (219, L, .int x :: .ref o :: .int x :: .ref o :: st, M) o9 := pj_xs (s97_218)
theorem q97_219 : pj_row 97 219 = some (.iaload, 1, 0, 0, 0) := by decide +kernel
theorem s97_219 {L : pj_Loc} {st : List Value} {N S : Nat} {H : pj_Heap} {o : Nat} {i : Int32} : pj_step 97 (219, L, .int i :: .ref o :: st, (N, S, H)) = pj_pi 220 L st (N, S, H) (pj_arl (H o) 0 i) := st_iaload q97_219
theorem x97_219 {L : pj_Loc} {st : List Value} {N S : Nat} {H : pj_Heap} {o : Nat} {i : Int32} {o9 : Option Value × pj_Mem} : pj_Ends 97 (219, L, .int i :: .ref o :: st, (N, S, H)) o9 = pj_then 97 o9 (pj_pi 220 L st (N, S, H) (pj_arl (H o) 0 i)) := pj_xt q97_219 rfl (pj_cl_nc rfl) (s97_219)
theorem q97_220 : pj_row 97 220 = some (.iconst 1, 1, 0, 0, 0) := by decide +kernel
theorem s97_220 {L : pj_Loc} {st : List Value} {M : pj_Mem}  : pj_step 97 (220, L, st, M) = some (221, L, .int 1 :: st, M) := st_iconst q97_220 (by decide +kernel)
theorem x97_220 {L : pj_Loc} {st : List Value} {M : pj_Mem}  {o9 : Option Value × pj_Mem} : pj_Ends 97 (220, L, st, M) o9 = pj_Ends 97 (221, L, .int 1 :: st, M) o9 := pj_xs (s97_220)
theorem q97_221 : pj_row 97 221 = some (.iadd, 1, 0, 0, 0) := by decide +kernel
theorem s97_221 {L : pj_Loc} {st : List Value} {M : pj_Mem} {x y : Int32} : pj_step 97 (221, L, .int y :: .int x :: st, M) = some (222, L, .int (x + y) :: st, M) := st_iadd q97_221
theorem x97_221 {L : pj_Loc} {st : List Value} {M : pj_Mem} {x y : Int32} {o9 : Option Value × pj_Mem} : pj_Ends 97 (221, L, .int y :: .int x :: st, M) o9 = pj_Ends 97 (222, L, .int (x + y) :: st, M) o9 := pj_xs (s97_221)
theorem q97_222 : pj_row 97 222 = some (.iastore, 1, 0, 0, 0) := by decide +kernel
theorem s97_222 {L : pj_Loc} {st : List Value} {N S : Nat} {H : pj_Heap} {o : Nat} {i x : Int32} : pj_step 97 (222, L, .int x :: .int i :: .ref o :: st, (N, S, H)) = pj_set 223 L st (N, S, H) o (pj_ars (H o) 0 i x) := st_iastore q97_222
theorem x97_222 {L : pj_Loc} {st : List Value} {N S : Nat} {H : pj_Heap} {o : Nat} {i x : Int32} {o9 : Option Value × pj_Mem} : pj_Ends 97 (222, L, .int x :: .int i :: .ref o :: st, (N, S, H)) o9 = pj_then 97 o9 (pj_set 223 L st (N, S, H) o (pj_ars (H o) 0 i x)) := pj_xt q97_222 rfl (pj_cl_nc rfl) (s97_222)
theorem q97_223 : pj_row 97 223 = some (.return_, 1, 0, 0, 0) := by decide +kernel
theorem t97_223 {L : pj_Loc} {M : pj_Mem} : pj_Ends 97 (223, L, [], M) (none, M) := pj_Ends.ret q97_223 (pj_rtn_v rt97)
theorem rt98 : pj_rt 98 = some .int := rfl
theorem q98_0 : pj_row 98 0 = some (.iload_n 1, 1, 0, 0, 0) := by decide +kernel
theorem s98_0 {st : List Value} {M : pj_Mem} {l : pj_Loc} {a0 : Option Value} {x : Int32} : pj_step 98 (0, a0 :: some (.int x) :: l, st, M) = some (1, a0 :: some (.int x) :: l, .int x :: st, M) := st_iload_n q98_0 rfl
theorem x98_0 {st : List Value} {M : pj_Mem} {l : pj_Loc} {a0 : Option Value} {x : Int32} {o9 : Option Value × pj_Mem} : pj_Ends 98 (0, a0 :: some (.int x) :: l, st, M) o9 = pj_Ends 98 (1, a0 :: some (.int x) :: l, .int x :: st, M) o9 := pj_xs (s98_0)
theorem q98_1 : pj_row 98 1 = some (.invokestatic 137, 3, 99, 1, 0) := by decide +kernel
theorem e98_1 {L : pj_Loc} {st : List Value} {N S : Nat} {H : pj_Heap} {o : Option Value × pj_Mem} {M' : pj_Mem} {x0 : Int32} {r : Int32} (h4 : pj_le4 st = true) (h1 : pj_Ends 99 (0, [some (.int x0)], [], (N, S, H)) (some (.int r), M')) (h2 : pj_Ends 98 (4, L, .int r :: st, M') o) : pj_Ends 98 (1, L, .int x0 :: st, (N, S, H)) o := ec_s1 q98_1 (Or.inl rfl) h4 rfl h1 h2
theorem q98_4 : pj_row 98 4 = some (.ifCond .ne 5, 3, 9, 0, 0) := by decide +kernel
theorem s98_4 {L : pj_Loc} {st : List Value} {M : pj_Mem} {x : Int32} : pj_step 98 (4, L, .int x :: st, M) = some (if ¬ x = 0 then 9 else 7, L, st, M) := st_if_ne q98_4
theorem x98_4 {L : pj_Loc} {st : List Value} {M : pj_Mem} {x : Int32} {o9 : Option Value × pj_Mem} : pj_Ends 98 (4, L, .int x :: st, M) o9 = pj_Ends 98 (if ¬ x = 0 then 9 else 7, L, st, M) o9 := pj_xs (s98_4)
theorem q98_7 : pj_row 98 7 = some (.iconst (-1), 1, 0, 0, 0) := by decide +kernel
theorem s98_7 {L : pj_Loc} {st : List Value} {M : pj_Mem}  : pj_step 98 (7, L, st, M) = some (8, L, .int (-1) :: st, M) := st_iconst q98_7 (by decide +kernel)
theorem x98_7 {L : pj_Loc} {st : List Value} {M : pj_Mem}  {o9 : Option Value × pj_Mem} : pj_Ends 98 (7, L, st, M) o9 = pj_Ends 98 (8, L, .int (-1) :: st, M) o9 := pj_xs (s98_7)
theorem q98_8 : pj_row 98 8 = some (.ireturn, 1, 0, 0, 0) := by decide +kernel
theorem t98_8 {L : pj_Loc} {M : pj_Mem} {v : Int32} : pj_Ends 98 (8, L, [.int v], M) (some (.int v), M) := pj_Ends.ret q98_8 (pj_rtn_i rt98)
theorem q98_9 : pj_row 98 9 = some (.iload_n 2, 1, 0, 0, 0) := by decide +kernel
theorem s98_9 {st : List Value} {M : pj_Mem} {l : pj_Loc} {a0 a1 : Option Value} {x : Int32} : pj_step 98 (9, a0 :: a1 :: some (.int x) :: l, st, M) = some (10, a0 :: a1 :: some (.int x) :: l, .int x :: st, M) := st_iload_n q98_9 rfl
theorem x98_9 {st : List Value} {M : pj_Mem} {l : pj_Loc} {a0 a1 : Option Value} {x : Int32} {o9 : Option Value × pj_Mem} : pj_Ends 98 (9, a0 :: a1 :: some (.int x) :: l, st, M) o9 = pj_Ends 98 (10, a0 :: a1 :: some (.int x) :: l, .int x :: st, M) o9 := pj_xs (s98_9)
theorem q98_10 : pj_row 98 10 = some (.ifCond .eq 7, 3, 17, 0, 0) := by decide +kernel
theorem s98_10 {L : pj_Loc} {st : List Value} {M : pj_Mem} {x : Int32} : pj_step 98 (10, L, .int x :: st, M) = some (if x = 0 then 17 else 13, L, st, M) := st_if_eq q98_10
theorem x98_10 {L : pj_Loc} {st : List Value} {M : pj_Mem} {x : Int32} {o9 : Option Value × pj_Mem} : pj_Ends 98 (10, L, .int x :: st, M) o9 = pj_Ends 98 (if x = 0 then 17 else 13, L, st, M) o9 := pj_xs (s98_10)
theorem q98_13 : pj_row 98 13 = some (.iconst 1, 1, 0, 0, 0) := by decide +kernel
theorem s98_13 {L : pj_Loc} {st : List Value} {M : pj_Mem}  : pj_step 98 (13, L, st, M) = some (14, L, .int 1 :: st, M) := st_iconst q98_13 (by decide +kernel)
theorem x98_13 {L : pj_Loc} {st : List Value} {M : pj_Mem}  {o9 : Option Value × pj_Mem} : pj_Ends 98 (13, L, st, M) o9 = pj_Ends 98 (14, L, .int 1 :: st, M) o9 := pj_xs (s98_13)
theorem q98_14 : pj_row 98 14 = some (.goto 4, 3, 18, 0, 0) := by decide +kernel
theorem s98_14 {L : pj_Loc} {st : List Value} {M : pj_Mem}  : pj_step 98 (14, L, st, M) = some (18, L, st, M) := st_goto q98_14
theorem x98_14 {L : pj_Loc} {st : List Value} {M : pj_Mem}  {o9 : Option Value × pj_Mem} : pj_Ends 98 (14, L, st, M) o9 = pj_Ends 98 (18, L, st, M) o9 := pj_xs (s98_14)
theorem q98_17 : pj_row 98 17 = some (.iconst 0, 1, 0, 0, 0) := by decide +kernel
theorem s98_17 {L : pj_Loc} {st : List Value} {M : pj_Mem}  : pj_step 98 (17, L, st, M) = some (18, L, .int 0 :: st, M) := st_iconst q98_17 (by decide +kernel)
theorem x98_17 {L : pj_Loc} {st : List Value} {M : pj_Mem}  {o9 : Option Value × pj_Mem} : pj_Ends 98 (17, L, st, M) o9 = pj_Ends 98 (18, L, .int 0 :: st, M) o9 := pj_xs (s98_17)
theorem q98_18 : pj_row 98 18 = some (.istore_n 3, 1, 0, 0, 0) := by decide +kernel
theorem s98_18 {st : List Value} {M : pj_Mem} {l : pj_Loc} {a0 a1 a2 a3 : Option Value} {x : Int32} (h : pj_long a2 = false) : pj_step 98 (18, a0 :: a1 :: a2 :: a3 :: l, .int x :: st, M) = some (19, a0 :: a1 :: a2 :: some (.int x) :: l, st, M) := st_istore_n q98_18 (pj_st_3 h)
theorem x98_18 {st : List Value} {M : pj_Mem} {l : pj_Loc} {a0 a1 a2 a3 : Option Value} {x : Int32} (h : pj_long a2 = false) {o9 : Option Value × pj_Mem} : pj_Ends 98 (18, a0 :: a1 :: a2 :: a3 :: l, .int x :: st, M) o9 = pj_Ends 98 (19, a0 :: a1 :: a2 :: some (.int x) :: l, st, M) o9 := pj_xs (s98_18 h)
theorem q98_19 : pj_row 98 19 = some (.aload_n 0, 1, 0, 0, 0) := by decide +kernel
theorem s98_19 {st : List Value} {M : pj_Mem} {l : pj_Loc} {x : Nat} : pj_step 98 (19, some (.ref x) :: l, st, M) = some (20, some (.ref x) :: l, .ref x :: st, M) := st_aload_n q98_19 rfl
theorem x98_19 {st : List Value} {M : pj_Mem} {l : pj_Loc} {x : Nat} {o9 : Option Value × pj_Mem} : pj_Ends 98 (19, some (.ref x) :: l, st, M) o9 = pj_Ends 98 (20, some (.ref x) :: l, .ref x :: st, M) o9 := pj_xs (s98_19)
theorem q98_20 : pj_row 98 20 = some (.getfield 7, 3, 6, 0, 0) := by decide +kernel
theorem s98_20 {L : pj_Loc} {st : List Value} {N S : Nat} {H : pj_Heap} {o : Nat} : pj_step 98 (20, L, .ref o :: st, (N, S, H)) = pj_pv 23 L st (N, S, H) (pj_fld (H o) 6 0) := st_getfield q98_20
theorem x98_20 {L : pj_Loc} {st : List Value} {N S : Nat} {H : pj_Heap} {o : Nat} {o9 : Option Value × pj_Mem} : pj_Ends 98 (20, L, .ref o :: st, (N, S, H)) o9 = pj_then 98 o9 (pj_pv 23 L st (N, S, H) (pj_fld (H o) 6 0)) := pj_xt q98_20 rfl (pj_cl_nc rfl) (s98_20)
theorem q98_23 : pj_row 98 23 = some (.bipush 26, 2, 0, 0, 0) := by decide +kernel
theorem s98_23 {L : pj_Loc} {st : List Value} {M : pj_Mem}  : pj_step 98 (23, L, st, M) = some (25, L, .int 26 :: st, M) := st_bipush q98_23 (by decide +kernel)
theorem x98_23 {L : pj_Loc} {st : List Value} {M : pj_Mem}  {o9 : Option Value × pj_Mem} : pj_Ends 98 (23, L, st, M) o9 = pj_Ends 98 (25, L, .int 26 :: st, M) o9 := pj_xs (s98_23)
theorem q98_25 : pj_row 98 25 = some (.iload_n 1, 1, 0, 0, 0) := by decide +kernel
theorem s98_25 {st : List Value} {M : pj_Mem} {l : pj_Loc} {a0 : Option Value} {x : Int32} : pj_step 98 (25, a0 :: some (.int x) :: l, st, M) = some (26, a0 :: some (.int x) :: l, .int x :: st, M) := st_iload_n q98_25 rfl
theorem x98_25 {st : List Value} {M : pj_Mem} {l : pj_Loc} {a0 : Option Value} {x : Int32} {o9 : Option Value × pj_Mem} : pj_Ends 98 (25, a0 :: some (.int x) :: l, st, M) o9 = pj_Ends 98 (26, a0 :: some (.int x) :: l, .int x :: st, M) o9 := pj_xs (s98_25)
theorem q98_26 : pj_row 98 26 = some (.iadd, 1, 0, 0, 0) := by decide +kernel
theorem s98_26 {L : pj_Loc} {st : List Value} {M : pj_Mem} {x y : Int32} : pj_step 98 (26, L, .int y :: .int x :: st, M) = some (27, L, .int (x + y) :: st, M) := st_iadd q98_26
theorem x98_26 {L : pj_Loc} {st : List Value} {M : pj_Mem} {x y : Int32} {o9 : Option Value × pj_Mem} : pj_Ends 98 (26, L, .int y :: .int x :: st, M) o9 = pj_Ends 98 (27, L, .int (x + y) :: st, M) o9 := pj_xs (s98_26)
theorem q98_27 : pj_row 98 27 = some (.iaload, 1, 0, 0, 0) := by decide +kernel
theorem s98_27 {L : pj_Loc} {st : List Value} {N S : Nat} {H : pj_Heap} {o : Nat} {i : Int32} : pj_step 98 (27, L, .int i :: .ref o :: st, (N, S, H)) = pj_pi 28 L st (N, S, H) (pj_arl (H o) 0 i) := st_iaload q98_27
theorem x98_27 {L : pj_Loc} {st : List Value} {N S : Nat} {H : pj_Heap} {o : Nat} {i : Int32} {o9 : Option Value × pj_Mem} : pj_Ends 98 (27, L, .int i :: .ref o :: st, (N, S, H)) o9 = pj_then 98 o9 (pj_pi 28 L st (N, S, H) (pj_arl (H o) 0 i)) := pj_xt q98_27 rfl (pj_cl_nc rfl) (s98_27)
theorem q98_28 : pj_row 98 28 = some (.iload_n 3, 1, 0, 0, 0) := by decide +kernel
theorem s98_28 {st : List Value} {M : pj_Mem} {l : pj_Loc} {a0 a1 a2 : Option Value} {x : Int32} : pj_step 98 (28, a0 :: a1 :: a2 :: some (.int x) :: l, st, M) = some (29, a0 :: a1 :: a2 :: some (.int x) :: l, .int x :: st, M) := st_iload_n q98_28 rfl
theorem x98_28 {st : List Value} {M : pj_Mem} {l : pj_Loc} {a0 a1 a2 : Option Value} {x : Int32} {o9 : Option Value × pj_Mem} : pj_Ends 98 (28, a0 :: a1 :: a2 :: some (.int x) :: l, st, M) o9 = pj_Ends 98 (29, a0 :: a1 :: a2 :: some (.int x) :: l, .int x :: st, M) o9 := pj_xs (s98_28)
theorem q98_29 : pj_row 98 29 = some (.if_icmp .eq 17, 3, 46, 0, 0) := by decide +kernel
theorem s98_29 {L : pj_Loc} {st : List Value} {M : pj_Mem} {x y : Int32} : pj_step 98 (29, L, .int y :: .int x :: st, M) = some (if x = y then 46 else 32, L, st, M) := st_icmp_eq q98_29
theorem x98_29 {L : pj_Loc} {st : List Value} {M : pj_Mem} {x y : Int32} {o9 : Option Value × pj_Mem} : pj_Ends 98 (29, L, .int y :: .int x :: st, M) o9 = pj_Ends 98 (if x = y then 46 else 32, L, st, M) o9 := pj_xs (s98_29)
theorem q98_32 : pj_row 98 32 = some (.aload_n 0, 1, 0, 0, 0) := by decide +kernel
theorem s98_32 {st : List Value} {M : pj_Mem} {l : pj_Loc} {x : Nat} : pj_step 98 (32, some (.ref x) :: l, st, M) = some (33, some (.ref x) :: l, .ref x :: st, M) := st_aload_n q98_32 rfl
theorem x98_32 {st : List Value} {M : pj_Mem} {l : pj_Loc} {x : Nat} {o9 : Option Value × pj_Mem} : pj_Ends 98 (32, some (.ref x) :: l, st, M) o9 = pj_Ends 98 (33, some (.ref x) :: l, .ref x :: st, M) o9 := pj_xs (s98_32)
theorem q98_33 : pj_row 98 33 = some (.getfield 7, 3, 6, 0, 0) := by decide +kernel
theorem s98_33 {L : pj_Loc} {st : List Value} {N S : Nat} {H : pj_Heap} {o : Nat} : pj_step 98 (33, L, .ref o :: st, (N, S, H)) = pj_pv 36 L st (N, S, H) (pj_fld (H o) 6 0) := st_getfield q98_33
theorem x98_33 {L : pj_Loc} {st : List Value} {N S : Nat} {H : pj_Heap} {o : Nat} {o9 : Option Value × pj_Mem} : pj_Ends 98 (33, L, .ref o :: st, (N, S, H)) o9 = pj_then 98 o9 (pj_pv 36 L st (N, S, H) (pj_fld (H o) 6 0)) := pj_xt q98_33 rfl (pj_cl_nc rfl) (s98_33)
theorem q98_36 : pj_row 98 36 = some (.bipush 23, 2, 0, 0, 0) := by decide +kernel
theorem s98_36 {L : pj_Loc} {st : List Value} {M : pj_Mem}  : pj_step 98 (36, L, st, M) = some (38, L, .int 23 :: st, M) := st_bipush q98_36 (by decide +kernel)
theorem x98_36 {L : pj_Loc} {st : List Value} {M : pj_Mem}  {o9 : Option Value × pj_Mem} : pj_Ends 98 (36, L, st, M) o9 = pj_Ends 98 (38, L, .int 23 :: st, M) o9 := pj_xs (s98_36)
theorem q98_38 : pj_row 98 38 = some (.iload_n 1, 1, 0, 0, 0) := by decide +kernel
theorem s98_38 {st : List Value} {M : pj_Mem} {l : pj_Loc} {a0 : Option Value} {x : Int32} : pj_step 98 (38, a0 :: some (.int x) :: l, st, M) = some (39, a0 :: some (.int x) :: l, .int x :: st, M) := st_iload_n q98_38 rfl
theorem x98_38 {st : List Value} {M : pj_Mem} {l : pj_Loc} {a0 : Option Value} {x : Int32} {o9 : Option Value × pj_Mem} : pj_Ends 98 (38, a0 :: some (.int x) :: l, st, M) o9 = pj_Ends 98 (39, a0 :: some (.int x) :: l, .int x :: st, M) o9 := pj_xs (s98_38)
theorem q98_39 : pj_row 98 39 = some (.iadd, 1, 0, 0, 0) := by decide +kernel
theorem s98_39 {L : pj_Loc} {st : List Value} {M : pj_Mem} {x y : Int32} : pj_step 98 (39, L, .int y :: .int x :: st, M) = some (40, L, .int (x + y) :: st, M) := st_iadd q98_39
theorem x98_39 {L : pj_Loc} {st : List Value} {M : pj_Mem} {x y : Int32} {o9 : Option Value × pj_Mem} : pj_Ends 98 (39, L, .int y :: .int x :: st, M) o9 = pj_Ends 98 (40, L, .int (x + y) :: st, M) o9 := pj_xs (s98_39)
theorem q98_40 : pj_row 98 40 = some (.iaload, 1, 0, 0, 0) := by decide +kernel
theorem s98_40 {L : pj_Loc} {st : List Value} {N S : Nat} {H : pj_Heap} {o : Nat} {i : Int32} : pj_step 98 (40, L, .int i :: .ref o :: st, (N, S, H)) = pj_pi 41 L st (N, S, H) (pj_arl (H o) 0 i) := st_iaload q98_40
theorem x98_40 {L : pj_Loc} {st : List Value} {N S : Nat} {H : pj_Heap} {o : Nat} {i : Int32} {o9 : Option Value × pj_Mem} : pj_Ends 98 (40, L, .int i :: .ref o :: st, (N, S, H)) o9 = pj_then 98 o9 (pj_pi 41 L st (N, S, H) (pj_arl (H o) 0 i)) := pj_xt q98_40 rfl (pj_cl_nc rfl) (s98_40)
theorem q98_41 : pj_row 98 41 = some (.bipush (-6), 2, 0, 0, 0) := by decide +kernel
theorem s98_41 {L : pj_Loc} {st : List Value} {M : pj_Mem}  : pj_step 98 (41, L, st, M) = some (43, L, .int (-6) :: st, M) := st_bipush q98_41 (by decide +kernel)
theorem x98_41 {L : pj_Loc} {st : List Value} {M : pj_Mem}  {o9 : Option Value × pj_Mem} : pj_Ends 98 (41, L, st, M) o9 = pj_Ends 98 (43, L, .int (-6) :: st, M) o9 := pj_xs (s98_41)
theorem q98_43 : pj_row 98 43 = some (.if_icmp .eq 6, 3, 49, 0, 0) := by decide +kernel
theorem s98_43 {L : pj_Loc} {st : List Value} {M : pj_Mem} {x y : Int32} : pj_step 98 (43, L, .int y :: .int x :: st, M) = some (if x = y then 49 else 46, L, st, M) := st_icmp_eq q98_43
theorem x98_43 {L : pj_Loc} {st : List Value} {M : pj_Mem} {x y : Int32} {o9 : Option Value × pj_Mem} : pj_Ends 98 (43, L, .int y :: .int x :: st, M) o9 = pj_Ends 98 (if x = y then 49 else 46, L, st, M) o9 := pj_xs (s98_43)
theorem q98_46 : pj_row 98 46 = some (.bipush (-5), 2, 0, 0, 0) := by decide +kernel
theorem s98_46 {L : pj_Loc} {st : List Value} {M : pj_Mem}  : pj_step 98 (46, L, st, M) = some (48, L, .int (-5) :: st, M) := st_bipush q98_46 (by decide +kernel)
theorem x98_46 {L : pj_Loc} {st : List Value} {M : pj_Mem}  {o9 : Option Value × pj_Mem} : pj_Ends 98 (46, L, st, M) o9 = pj_Ends 98 (48, L, .int (-5) :: st, M) o9 := pj_xs (s98_46)
theorem q98_48 : pj_row 98 48 = some (.ireturn, 1, 0, 0, 0) := by decide +kernel
theorem t98_48 {L : pj_Loc} {M : pj_Mem} {v : Int32} : pj_Ends 98 (48, L, [.int v], M) (some (.int v), M) := pj_Ends.ret q98_48 (pj_rtn_i rt98)
theorem q98_49 : pj_row 98 49 = some (.aload_n 0, 1, 0, 0, 0) := by decide +kernel
theorem s98_49 {st : List Value} {M : pj_Mem} {l : pj_Loc} {x : Nat} : pj_step 98 (49, some (.ref x) :: l, st, M) = some (50, some (.ref x) :: l, .ref x :: st, M) := st_aload_n q98_49 rfl
theorem x98_49 {st : List Value} {M : pj_Mem} {l : pj_Loc} {x : Nat} {o9 : Option Value × pj_Mem} : pj_Ends 98 (49, some (.ref x) :: l, st, M) o9 = pj_Ends 98 (50, some (.ref x) :: l, .ref x :: st, M) o9 := pj_xs (s98_49)
theorem q98_50 : pj_row 98 50 = some (.invokevirtual 121, 3, 77, 1, 0) := by decide +kernel
theorem e98_50 {L : pj_Loc} {st : List Value} {N S : Nat} {H : pj_Heap} {o : Option Value × pj_Mem} {M' : pj_Mem} {x0 : Nat} (h4 : pj_le4 st = true) (hu : pj_isU 6 (H x0) = true) (h1 : pj_Ends 77 (0, [some (.ref x0), none], [], (N, S, H)) (none, M')) (h2 : pj_Ends 98 (53, L, st, M') o) : pj_Ends 98 (50, L, .ref x0 :: st, (N, S, H)) o := ec_v1 q98_50 (Or.inl rfl) h4 hu rfl h1 h2
theorem q98_53 : pj_row 98 53 = some (.aload_n 0, 1, 0, 0, 0) := by decide +kernel
theorem s98_53 {st : List Value} {M : pj_Mem} {l : pj_Loc} {x : Nat} : pj_step 98 (53, some (.ref x) :: l, st, M) = some (54, some (.ref x) :: l, .ref x :: st, M) := st_aload_n q98_53 rfl
theorem x98_53 {st : List Value} {M : pj_Mem} {l : pj_Loc} {x : Nat} {o9 : Option Value × pj_Mem} : pj_Ends 98 (53, some (.ref x) :: l, st, M) o9 = pj_Ends 98 (54, some (.ref x) :: l, .ref x :: st, M) o9 := pj_xs (s98_53)
theorem q98_54 : pj_row 98 54 = some (.getfield 7, 3, 6, 0, 0) := by decide +kernel
theorem s98_54 {L : pj_Loc} {st : List Value} {N S : Nat} {H : pj_Heap} {o : Nat} : pj_step 98 (54, L, .ref o :: st, (N, S, H)) = pj_pv 57 L st (N, S, H) (pj_fld (H o) 6 0) := st_getfield q98_54
theorem x98_54 {L : pj_Loc} {st : List Value} {N S : Nat} {H : pj_Heap} {o : Nat} {o9 : Option Value × pj_Mem} : pj_Ends 98 (54, L, .ref o :: st, (N, S, H)) o9 = pj_then 98 o9 (pj_pv 57 L st (N, S, H) (pj_fld (H o) 6 0)) := pj_xt q98_54 rfl (pj_cl_nc rfl) (s98_54)
theorem q98_57 : pj_row 98 57 = some (.bipush 26, 2, 0, 0, 0) := by decide +kernel
theorem s98_57 {L : pj_Loc} {st : List Value} {M : pj_Mem}  : pj_step 98 (57, L, st, M) = some (59, L, .int 26 :: st, M) := st_bipush q98_57 (by decide +kernel)
theorem x98_57 {L : pj_Loc} {st : List Value} {M : pj_Mem}  {o9 : Option Value × pj_Mem} : pj_Ends 98 (57, L, st, M) o9 = pj_Ends 98 (59, L, .int 26 :: st, M) o9 := pj_xs (s98_57)
theorem q98_59 : pj_row 98 59 = some (.iload_n 1, 1, 0, 0, 0) := by decide +kernel
theorem s98_59 {st : List Value} {M : pj_Mem} {l : pj_Loc} {a0 : Option Value} {x : Int32} : pj_step 98 (59, a0 :: some (.int x) :: l, st, M) = some (60, a0 :: some (.int x) :: l, .int x :: st, M) := st_iload_n q98_59 rfl
theorem x98_59 {st : List Value} {M : pj_Mem} {l : pj_Loc} {a0 : Option Value} {x : Int32} {o9 : Option Value × pj_Mem} : pj_Ends 98 (59, a0 :: some (.int x) :: l, st, M) o9 = pj_Ends 98 (60, a0 :: some (.int x) :: l, .int x :: st, M) o9 := pj_xs (s98_59)
theorem q98_60 : pj_row 98 60 = some (.iadd, 1, 0, 0, 0) := by decide +kernel
theorem s98_60 {L : pj_Loc} {st : List Value} {M : pj_Mem} {x y : Int32} : pj_step 98 (60, L, .int y :: .int x :: st, M) = some (61, L, .int (x + y) :: st, M) := st_iadd q98_60
theorem x98_60 {L : pj_Loc} {st : List Value} {M : pj_Mem} {x y : Int32} {o9 : Option Value × pj_Mem} : pj_Ends 98 (60, L, .int y :: .int x :: st, M) o9 = pj_Ends 98 (61, L, .int (x + y) :: st, M) o9 := pj_xs (s98_60)
theorem q98_61 : pj_row 98 61 = some (.iload_n 3, 1, 0, 0, 0) := by decide +kernel
theorem s98_61 {st : List Value} {M : pj_Mem} {l : pj_Loc} {a0 a1 a2 : Option Value} {x : Int32} : pj_step 98 (61, a0 :: a1 :: a2 :: some (.int x) :: l, st, M) = some (62, a0 :: a1 :: a2 :: some (.int x) :: l, .int x :: st, M) := st_iload_n q98_61 rfl
theorem x98_61 {st : List Value} {M : pj_Mem} {l : pj_Loc} {a0 a1 a2 : Option Value} {x : Int32} {o9 : Option Value × pj_Mem} : pj_Ends 98 (61, a0 :: a1 :: a2 :: some (.int x) :: l, st, M) o9 = pj_Ends 98 (62, a0 :: a1 :: a2 :: some (.int x) :: l, .int x :: st, M) o9 := pj_xs (s98_61)
theorem q98_62 : pj_row 98 62 = some (.iastore, 1, 0, 0, 0) := by decide +kernel
theorem s98_62 {L : pj_Loc} {st : List Value} {N S : Nat} {H : pj_Heap} {o : Nat} {i x : Int32} : pj_step 98 (62, L, .int x :: .int i :: .ref o :: st, (N, S, H)) = pj_set 63 L st (N, S, H) o (pj_ars (H o) 0 i x) := st_iastore q98_62
theorem x98_62 {L : pj_Loc} {st : List Value} {N S : Nat} {H : pj_Heap} {o : Nat} {i x : Int32} {o9 : Option Value × pj_Mem} : pj_Ends 98 (62, L, .int x :: .int i :: .ref o :: st, (N, S, H)) o9 = pj_then 98 o9 (pj_set 63 L st (N, S, H) o (pj_ars (H o) 0 i x)) := pj_xt q98_62 rfl (pj_cl_nc rfl) (s98_62)
theorem q98_63 : pj_row 98 63 = some (.aload_n 0, 1, 0, 0, 0) := by decide +kernel
theorem s98_63 {st : List Value} {M : pj_Mem} {l : pj_Loc} {x : Nat} : pj_step 98 (63, some (.ref x) :: l, st, M) = some (64, some (.ref x) :: l, .ref x :: st, M) := st_aload_n q98_63 rfl
theorem x98_63 {st : List Value} {M : pj_Mem} {l : pj_Loc} {x : Nat} {o9 : Option Value × pj_Mem} : pj_Ends 98 (63, some (.ref x) :: l, st, M) o9 = pj_Ends 98 (64, some (.ref x) :: l, .ref x :: st, M) o9 := pj_xs (s98_63)
theorem q98_64 : pj_row 98 64 = some (.aload_n 0, 1, 0, 0, 0) := by decide +kernel
theorem s98_64 {st : List Value} {M : pj_Mem} {l : pj_Loc} {x : Nat} : pj_step 98 (64, some (.ref x) :: l, st, M) = some (65, some (.ref x) :: l, .ref x :: st, M) := st_aload_n q98_64 rfl
theorem x98_64 {st : List Value} {M : pj_Mem} {l : pj_Loc} {x : Nat} {o9 : Option Value × pj_Mem} : pj_Ends 98 (64, some (.ref x) :: l, st, M) o9 = pj_Ends 98 (65, some (.ref x) :: l, .ref x :: st, M) o9 := pj_xs (s98_64)
theorem q98_65 : pj_row 98 65 = some (.invokevirtual 140, 3, 100, 1, 0) := by decide +kernel
theorem e98_65 {L : pj_Loc} {st : List Value} {N S : Nat} {H : pj_Heap} {o : Option Value × pj_Mem} {M' : pj_Mem} {x0 : Nat} {r : Int32} (h4 : pj_le4 st = true) (hu : pj_isU 6 (H x0) = true) (h1 : pj_Ends 100 (0, [some (.ref x0)], [], (N, S, H)) (some (.int r), M')) (h2 : pj_Ends 98 (68, L, .int r :: st, M') o) : pj_Ends 98 (65, L, .ref x0 :: st, (N, S, H)) o := ec_v1 q98_65 (Or.inl rfl) h4 hu rfl h1 h2
theorem q98_68 : pj_row 98 68 = some (.invokevirtual 124, 3, 78, 2, 0) := by decide +kernel
theorem e98_68 {L : pj_Loc} {st : List Value} {N S : Nat} {H : pj_Heap} {o : Option Value × pj_Mem} {M' : pj_Mem} {x0 : Nat} {x1 : Int32} {r : Int32} (h4 : pj_le4 st = true) (hu : pj_isU 6 (H x0) = true) (h1 : pj_Ends 78 (0, [some (.ref x0), some (.int x1), none], [], (N, S, H)) (some (.int r), M')) (h2 : pj_Ends 98 (71, L, .int r :: st, M') o) : pj_Ends 98 (68, L, .int x1 :: .ref x0 :: st, (N, S, H)) o := ec_v2 q98_68 (Or.inl rfl) h4 hu rfl h1 h2
theorem q98_71 : pj_row 98 71 = some (.ireturn, 1, 0, 0, 0) := by decide +kernel
theorem t98_71 {L : pj_Loc} {M : pj_Mem} {v : Int32} : pj_Ends 98 (71, L, [.int v], M) (some (.int v), M) := pj_Ends.ret q98_71 (pj_rtn_i rt98)
theorem rt99 : pj_rt 99 = some .boolean := rfl
theorem q99_0 : pj_row 99 0 = some (.iload_n 0, 1, 0, 0, 0) := by decide +kernel
theorem s99_0 {st : List Value} {M : pj_Mem} {l : pj_Loc} {x : Int32} : pj_step 99 (0, some (.int x) :: l, st, M) = some (1, some (.int x) :: l, .int x :: st, M) := st_iload_n q99_0 rfl
theorem x99_0 {st : List Value} {M : pj_Mem} {l : pj_Loc} {x : Int32} {o9 : Option Value × pj_Mem} : pj_Ends 99 (0, some (.int x) :: l, st, M) o9 = pj_Ends 99 (1, some (.int x) :: l, .int x :: st, M) o9 := pj_xs (s99_0)
theorem q99_1 : pj_row 99 1 = some (.i2l, 1, 0, 0, 0) := by decide +kernel
theorem s99_1 {L : pj_Loc} {st : List Value} {M : pj_Mem} {x : Int32} : pj_step 99 (1, L, .int x :: st, M) = some (2, L, .long x.toInt64 :: st, M) := st_i2l q99_1
theorem x99_1 {L : pj_Loc} {st : List Value} {M : pj_Mem} {x : Int32} {o9 : Option Value × pj_Mem} : pj_Ends 99 (1, L, .int x :: st, M) o9 = pj_Ends 99 (2, L, .long x.toInt64 :: st, M) o9 := pj_xs (s99_1)
theorem q99_2 : pj_row 99 2 = some (.lconst 0, 1, 0, 0, 0) := by decide +kernel
theorem s99_2 {L : pj_Loc} {st : List Value} {M : pj_Mem}  : pj_step 99 (2, L, st, M) = some (3, L, .long 0 :: st, M) := st_lconst q99_2 (by decide +kernel)
theorem x99_2 {L : pj_Loc} {st : List Value} {M : pj_Mem}  {o9 : Option Value × pj_Mem} : pj_Ends 99 (2, L, st, M) o9 = pj_Ends 99 (3, L, .long 0 :: st, M) o9 := pj_xs (s99_2)
theorem q99_3 : pj_row 99 3 = some (.ldc2_w 46, 3, 0, 0, 2) := by decide +kernel
theorem s99_3 {L : pj_Loc} {st : List Value} {M : pj_Mem}  : pj_step 99 (3, L, st, M) = some (6, L, .long 2 :: st, M) := st_ldc2_w q99_3 (by decide +kernel)
theorem x99_3 {L : pj_Loc} {st : List Value} {M : pj_Mem}  {o9 : Option Value × pj_Mem} : pj_Ends 99 (3, L, st, M) o9 = pj_Ends 99 (6, L, .long 2 :: st, M) o9 := pj_xs (s99_3)
theorem q99_6 : pj_row 99 6 = some (.invokestatic 42, 3, 76, 3, 0) := by decide +kernel
theorem e99_6 {L : pj_Loc} {st : List Value} {N S : Nat} {H : pj_Heap} {o : Option Value × pj_Mem} {M' : pj_Mem} {x0 : Int64} {x1 : Int64} {x2 : Int64} {r : Int32} (h4 : pj_le4 st = true) (h1 : pj_Ends 76 (0, [some (.long x0), none, some (.long x1), none, some (.long x2), none], [], (N, S, H)) (some (.int r), M')) (h2 : pj_Ends 99 (9, L, .int r :: st, M') o) : pj_Ends 99 (6, L, .long x2 :: .long x1 :: .long x0 :: st, (N, S, H)) o := ec_s3 q99_6 (Or.inl rfl) h4 rfl h1 h2
theorem q99_9 : pj_row 99 9 = some (.ireturn, 1, 0, 0, 0) := by decide +kernel
theorem t99_9 {L : pj_Loc} {M : pj_Mem} {v : Int32} (hv : v = 0 ∨ v = 1) : pj_Ends 99 (9, L, [.int v], M) (some (.int v), M) := pj_Ends.ret q99_9 (pj_rtn_z rt99 hv)
