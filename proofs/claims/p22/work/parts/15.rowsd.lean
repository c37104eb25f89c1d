/-! THE STEPS OF EACH METHOD, by program (wip/whole/gen/gen12.py) -/
theorem rt57 : pj_rt 57 = some .boolean := rfl
theorem q57_0 : pj_row 57 0 = some (.aload_n 0, 1, 0, 0, 0) := by decide +kernel
theorem s57_0 {st : List Value} {M : pj_Mem} {l : pj_Loc} {x : Nat} : pj_step 57 (0, some (.ref x) :: l, st, M) = some (1, some (.ref x) :: l, .ref x :: st, M) := st_aload_n q57_0 rfl
theorem x57_0 {st : List Value} {M : pj_Mem} {l : pj_Loc} {x : Nat} {o9 : Option Value × pj_Mem} : pj_Ends 57 (0, some (.ref x) :: l, st, M) o9 = pj_Ends 57 (1, some (.ref x) :: l, .ref x :: st, M) o9 := pj_xs (s57_0)
theorem q57_1 : pj_row 57 1 = some (.iconst 2, 1, 0, 0, 0) := by decide +kernel
theorem s57_1 {L : pj_Loc} {st : List Value} {M : pj_Mem}  : pj_step 57 (1, L, st, M) = some (2, L, .int 2 :: st, M) := st_iconst q57_1 (by decide +kernel)
theorem x57_1 {L : pj_Loc} {st : List Value} {M : pj_Mem}  {o9 : Option Value × pj_Mem} : pj_Ends 57 (1, L, st, M) o9 = pj_Ends 57 (2, L, .int 2 :: st, M) o9 := pj_xs (s57_1)
theorem q57_2 : pj_row 57 2 = some (.invokevirtual 28, 3, 10, 2, 0) := by decide +kernel
theorem e57_2 {L : pj_Loc} {st : List Value} {N S : Nat} {H : pj_Heap} {o : Option Value × pj_Mem} {M' : pj_Mem} {x0 : Nat} {x1 : Int32} {r : Int32} (h4 : pj_le4 st = true) (hu : pj_isU 5 (H x0) = true) (h1 : pj_Ends 10 (0, [some (.ref x0), some (.int x1)], [], (N, S, H)) (some (.int r), M')) (h2 : pj_Ends 57 (5, L, .int r :: st, M') o) : pj_Ends 57 (2, L, .int x1 :: .ref x0 :: st, (N, S, H)) o := ec_v2 q57_2 (Or.inl rfl) h4 hu rfl h1 h2
theorem q57_5 : pj_row 57 5 = some (.bipush 8, 2, 0, 0, 0) := by decide +kernel
theorem s57_5 {L : pj_Loc} {st : List Value} {M : pj_Mem}  : pj_step 57 (5, L, st, M) = some (7, L, .int 8 :: st, M) := st_bipush q57_5 (by decide +kernel)
theorem x57_5 {L : pj_Loc} {st : List Value} {M : pj_Mem}  {o9 : Option Value × pj_Mem} : pj_Ends 57 (5, L, st, M) o9 = pj_Ends 57 (7, L, .int 8 :: st, M) o9 := pj_xs (s57_5)
theorem q57_7 : pj_row 57 7 = some (.if_icmp .ge 24, 3, 31, 0, 0) := by decide +kernel
theorem s57_7 {L : pj_Loc} {st : List Value} {M : pj_Mem} {x y : Int32} : pj_step 57 (7, L, .int y :: .int x :: st, M) = some (if y ≤ x then 31 else 10, L, st, M) := st_icmp_ge q57_7
theorem x57_7 {L : pj_Loc} {st : List Value} {M : pj_Mem} {x y : Int32} {o9 : Option Value × pj_Mem} : pj_Ends 57 (7, L, .int y :: .int x :: st, M) o9 = pj_Ends 57 (if y ≤ x then 31 else 10, L, st, M) o9 := pj_xs (s57_7)
theorem q57_10 : pj_row 57 10 = some (.aload_n 1, 1, 0, 0, 0) := by decide +kernel
theorem s57_10 {st : List Value} {M : pj_Mem} {l : pj_Loc} {a0 : Option Value} {x : Nat} : pj_step 57 (10, a0 :: some (.ref x) :: l, st, M) = some (11, a0 :: some (.ref x) :: l, .ref x :: st, M) := st_aload_n q57_10 rfl
theorem x57_10 {st : List Value} {M : pj_Mem} {l : pj_Loc} {a0 : Option Value} {x : Nat} {o9 : Option Value × pj_Mem} : pj_Ends 57 (10, a0 :: some (.ref x) :: l, st, M) o9 = pj_Ends 57 (11, a0 :: some (.ref x) :: l, .ref x :: st, M) o9 := pj_xs (s57_10)
theorem q57_11 : pj_row 57 11 = some (.iconst 2, 1, 0, 0, 0) := by decide +kernel
theorem s57_11 {L : pj_Loc} {st : List Value} {M : pj_Mem}  : pj_step 57 (11, L, st, M) = some (12, L, .int 2 :: st, M) := st_iconst q57_11 (by decide +kernel)
theorem x57_11 {L : pj_Loc} {st : List Value} {M : pj_Mem}  {o9 : Option Value × pj_Mem} : pj_Ends 57 (11, L, st, M) o9 = pj_Ends 57 (12, L, .int 2 :: st, M) o9 := pj_xs (s57_11)
theorem q57_12 : pj_row 57 12 = some (.invokevirtual 28, 3, 10, 2, 0) := by decide +kernel
theorem e57_12 {L : pj_Loc} {st : List Value} {N S : Nat} {H : pj_Heap} {o : Option Value × pj_Mem} {M' : pj_Mem} {x0 : Nat} {x1 : Int32} {r : Int32} (h4 : pj_le4 st = true) (hu : pj_isU 5 (H x0) = true) (h1 : pj_Ends 10 (0, [some (.ref x0), some (.int x1)], [], (N, S, H)) (some (.int r), M')) (h2 : pj_Ends 57 (15, L, .int r :: st, M') o) : pj_Ends 57 (12, L, .int x1 :: .ref x0 :: st, (N, S, H)) o := ec_v2 q57_12 (Or.inl rfl) h4 hu rfl h1 h2
theorem q57_15 : pj_row 57 15 = some (.iload_n 2, 1, 0, 0, 0) := by decide +kernel
theorem s57_15 {st : List Value} {M : pj_Mem} {l : pj_Loc} {a0 a1 : Option Value} {x : Int32} : pj_step 57 (15, a0 :: a1 :: some (.int x) :: l, st, M) = some (16, a0 :: a1 :: some (.int x) :: l, .int x :: st, M) := st_iload_n q57_15 rfl
theorem x57_15 {st : List Value} {M : pj_Mem} {l : pj_Loc} {a0 a1 : Option Value} {x : Int32} {o9 : Option Value × pj_Mem} : pj_Ends 57 (15, a0 :: a1 :: some (.int x) :: l, st, M) o9 = pj_Ends 57 (16, a0 :: a1 :: some (.int x) :: l, .int x :: st, M) o9 := pj_xs (s57_15)
theorem q57_16 : pj_row 57 16 = some (.aload_n 0, 1, 0, 0, 0) := by decide +kernel
theorem s57_16 {st : List Value} {M : pj_Mem} {l : pj_Loc} {x : Nat} : pj_step 57 (16, some (.ref x) :: l, st, M) = some (17, some (.ref x) :: l, .ref x :: st, M) := st_aload_n q57_16 rfl
theorem x57_16 {st : List Value} {M : pj_Mem} {l : pj_Loc} {x : Nat} {o9 : Option Value × pj_Mem} : pj_Ends 57 (16, some (.ref x) :: l, st, M) o9 = pj_Ends 57 (17, some (.ref x) :: l, .ref x :: st, M) o9 := pj_xs (s57_16)
theorem q57_17 : pj_row 57 17 = some (.iconst 2, 1, 0, 0, 0) := by decide +kernel
theorem s57_17 {L : pj_Loc} {st : List Value} {M : pj_Mem}  : pj_step 57 (17, L, st, M) = some (18, L, .int 2 :: st, M) := st_iconst q57_17 (by decide +kernel)
theorem x57_17 {L : pj_Loc} {st : List Value} {M : pj_Mem}  {o9 : Option Value × pj_Mem} : pj_Ends 57 (17, L, st, M) o9 = pj_Ends 57 (18, L, .int 2 :: st, M) o9 := pj_xs (s57_17)
theorem q57_18 : pj_row 57 18 = some (.invokevirtual 28, 3, 10, 2, 0) := by decide +kernel
theorem e57_18 {L : pj_Loc} {st : List Value} {N S : Nat} {H : pj_Heap} {o : Option Value × pj_Mem} {M' : pj_Mem} {x0 : Nat} {x1 : Int32} {r : Int32} (h4 : pj_le4 st = true) (hu : pj_isU 5 (H x0) = true) (h1 : pj_Ends 10 (0, [some (.ref x0), some (.int x1)], [], (N, S, H)) (some (.int r), M')) (h2 : pj_Ends 57 (21, L, .int r :: st, M') o) : pj_Ends 57 (18, L, .int x1 :: .ref x0 :: st, (N, S, H)) o := ec_v2 q57_18 (Or.inl rfl) h4 hu rfl h1 h2
theorem q57_21 : pj_row 57 21 = some (.invokestatic 62, 3, 58, 2, 0) := by decide +kernel
theorem e57_21 {L : pj_Loc} {st : List Value} {N S : Nat} {H : pj_Heap} {o : Option Value × pj_Mem} {M' : pj_Mem} {x0 : Int32} {x1 : Int32} {r : Int32} (h4 : pj_le4 st = true) (h1 : pj_Ends 58 (0, [some (.int x0), some (.int x1), none, none], [], (N, S, H)) (some (.int r), M')) (h2 : pj_Ends 57 (24, L, .int r :: st, M') o) : pj_Ends 57 (21, L, .int x1 :: .int x0 :: st, (N, S, H)) o := ec_s2 q57_21 (Or.inl rfl) h4 rfl h1 h2
theorem q57_24 : pj_row 57 24 = some (.if_icmp .ne 7, 3, 31, 0, 0) := by decide +kernel
theorem s57_24 {L : pj_Loc} {st : List Value} {M : pj_Mem} {x y : Int32} : pj_step 57 (24, L, .int y :: .int x :: st, M) = some (if ¬ x = y then 31 else 27, L, st, M) := st_icmp_ne q57_24
theorem x57_24 {L : pj_Loc} {st : List Value} {M : pj_Mem} {x y : Int32} {o9 : Option Value × pj_Mem} : pj_Ends 57 (24, L, .int y :: .int x :: st, M) o9 = pj_Ends 57 (if ¬ x = y then 31 else 27, L, st, M) o9 := pj_xs (s57_24)
theorem q57_27 : pj_row 57 27 = some (.iconst 1, 1, 0, 0, 0) := by decide +kernel
theorem s57_27 {L : pj_Loc} {st : List Value} {M : pj_Mem}  : pj_step 57 (27, L, st, M) = some (28, L, .int 1 :: st, M) := st_iconst q57_27 (by decide +kernel)
theorem x57_27 {L : pj_Loc} {st : List Value} {M : pj_Mem}  {o9 : Option Value × pj_Mem} : pj_Ends 57 (27, L, st, M) o9 = pj_Ends 57 (28, L, .int 1 :: st, M) o9 := pj_xs (s57_27)
theorem q57_28 : pj_row 57 28 = some (.goto 4, 3, 32, 0, 0) := by decide +kernel
theorem s57_28 {L : pj_Loc} {st : List Value} {M : pj_Mem}  : pj_step 57 (28, L, st, M) = some (32, L, st, M) := st_goto q57_28
theorem x57_28 {L : pj_Loc} {st : List Value} {M : pj_Mem}  {o9 : Option Value × pj_Mem} : pj_Ends 57 (28, L, st, M) o9 = pj_Ends 57 (32, L, st, M) o9 := pj_xs (s57_28)
theorem q57_31 : pj_row 57 31 = some (.iconst 0, 1, 0, 0, 0) := by decide +kernel
theorem s57_31 {L : pj_Loc} {st : List Value} {M : pj_Mem}  : pj_step 57 (31, L, st, M) = some (32, L, .int 0 :: st, M) := st_iconst q57_31 (by decide +kernel)
theorem x57_31 {L : pj_Loc} {st : List Value} {M : pj_Mem}  {o9 : Option Value × pj_Mem} : pj_Ends 57 (31, L, st, M) o9 = pj_Ends 57 (32, L, .int 0 :: st, M) o9 := pj_xs (s57_31)
theorem q57_32 : pj_row 57 32 = some (.istore 4, 2, 0, 0, 0) := by decide +kernel
theorem s57_32 {st : List Value} {M : pj_Mem} {l : pj_Loc} {a0 a1 a2 a3 a4 : Option Value} {x : Int32} (h : pj_long a3 = false) : pj_step 57 (32, a0 :: a1 :: a2 :: a3 :: a4 :: l, .int x :: st, M) = some (34, a0 :: a1 :: a2 :: a3 :: some (.int x) :: l, st, M) := st_istore q57_32 (pj_st_4 h)
theorem x57_32 {st : List Value} {M : pj_Mem} {l : pj_Loc} {a0 a1 a2 a3 a4 : Option Value} {x : Int32} (h : pj_long a3 = false) {o9 : Option Value × pj_Mem} : pj_Ends 57 (32, a0 :: a1 :: a2 :: a3 :: a4 :: l, .int x :: st, M) o9 = pj_Ends 57 (34, a0 :: a1 :: a2 :: a3 :: some (.int x) :: l, st, M) o9 := pj_xs (s57_32 h)
theorem q57_34 : pj_row 57 34 = some (.iconst 0, 1, 0, 0, 0) := by decide +kernel
theorem s57_34 {L : pj_Loc} {st : List Value} {M : pj_Mem}  : pj_step 57 (34, L, st, M) = some (35, L, .int 0 :: st, M) := st_iconst q57_34 (by decide +kernel)
theorem x57_34 {L : pj_Loc} {st : List Value} {M : pj_Mem}  {o9 : Option Value × pj_Mem} : pj_Ends 57 (34, L, st, M) o9 = pj_Ends 57 (35, L, .int 0 :: st, M) o9 := pj_xs (s57_34)
theorem q57_35 : pj_row 57 35 = some (.istore 5, 2, 0, 0, 0) := by decide +kernel
theorem s57_35 {st : List Value} {M : pj_Mem} {l : pj_Loc} {a0 a1 a2 a3 a4 a5 : Option Value} {x : Int32} (h : pj_long a4 = false) : pj_step 57 (35, a0 :: a1 :: a2 :: a3 :: a4 :: a5 :: l, .int x :: st, M) = some (37, a0 :: a1 :: a2 :: a3 :: a4 :: some (.int x) :: l, st, M) := st_istore q57_35 (pj_st_5 h)
theorem x57_35 {st : List Value} {M : pj_Mem} {l : pj_Loc} {a0 a1 a2 a3 a4 a5 : Option Value} {x : Int32} (h : pj_long a4 = false) {o9 : Option Value × pj_Mem} : pj_Ends 57 (35, a0 :: a1 :: a2 :: a3 :: a4 :: a5 :: l, .int x :: st, M) o9 = pj_Ends 57 (37, a0 :: a1 :: a2 :: a3 :: a4 :: some (.int x) :: l, st, M) o9 := pj_xs (s57_35 h)
theorem q57_37 : pj_row 57 37 = some (.iload 5, 2, 0, 0, 0) := by decide +kernel
theorem s57_37 {st : List Value} {M : pj_Mem} {l : pj_Loc} {a0 a1 a2 a3 a4 : Option Value} {x : Int32} : pj_step 57 (37, a0 :: a1 :: a2 :: a3 :: a4 :: some (.int x) :: l, st, M) = some (39, a0 :: a1 :: a2 :: a3 :: a4 :: some (.int x) :: l, .int x :: st, M) := st_iload q57_37 rfl
theorem x57_37 {st : List Value} {M : pj_Mem} {l : pj_Loc} {a0 a1 a2 a3 a4 : Option Value} {x : Int32} {o9 : Option Value × pj_Mem} : pj_Ends 57 (37, a0 :: a1 :: a2 :: a3 :: a4 :: some (.int x) :: l, st, M) o9 = pj_Ends 57 (39, a0 :: a1 :: a2 :: a3 :: a4 :: some (.int x) :: l, .int x :: st, M) o9 := pj_xs (s57_37)
theorem q57_39 : pj_row 57 39 = some (.bipush 14, 2, 0, 0, 0) := by decide +kernel
theorem s57_39 {L : pj_Loc} {st : List Value} {M : pj_Mem}  : pj_step 57 (39, L, st, M) = some (41, L, .int 14 :: st, M) := st_bipush q57_39 (by decide +kernel)
theorem x57_39 {L : pj_Loc} {st : List Value} {M : pj_Mem}  {o9 : Option Value × pj_Mem} : pj_Ends 57 (39, L, st, M) o9 = pj_Ends 57 (41, L, .int 14 :: st, M) o9 := pj_xs (s57_39)
theorem q57_41 : pj_row 57 41 = some (.if_icmp .ge 42, 3, 83, 0, 0) := by decide +kernel
theorem s57_41 {L : pj_Loc} {st : List Value} {M : pj_Mem} {x y : Int32} : pj_step 57 (41, L, .int y :: .int x :: st, M) = some (if y ≤ x then 83 else 44, L, st, M) := st_icmp_ge q57_41
theorem x57_41 {L : pj_Loc} {st : List Value} {M : pj_Mem} {x y : Int32} {o9 : Option Value × pj_Mem} : pj_Ends 57 (41, L, .int y :: .int x :: st, M) o9 = pj_Ends 57 (if y ≤ x then 83 else 44, L, st, M) o9 := pj_xs (s57_41)
theorem q57_44 : pj_row 57 44 = some (.iload 4, 2, 0, 0, 0) := by decide +kernel
theorem s57_44 {st : List Value} {M : pj_Mem} {l : pj_Loc} {a0 a1 a2 a3 : Option Value} {x : Int32} : pj_step 57 (44, a0 :: a1 :: a2 :: a3 :: some (.int x) :: l, st, M) = some (46, a0 :: a1 :: a2 :: a3 :: some (.int x) :: l, .int x :: st, M) := st_iload q57_44 rfl
theorem x57_44 {st : List Value} {M : pj_Mem} {l : pj_Loc} {a0 a1 a2 a3 : Option Value} {x : Int32} {o9 : Option Value × pj_Mem} : pj_Ends 57 (44, a0 :: a1 :: a2 :: a3 :: some (.int x) :: l, st, M) o9 = pj_Ends 57 (46, a0 :: a1 :: a2 :: a3 :: some (.int x) :: l, .int x :: st, M) o9 := pj_xs (s57_44)
theorem q57_46 : pj_row 57 46 = some (.ifCond .eq 28, 3, 74, 0, 0) := by decide +kernel
theorem s57_46 {L : pj_Loc} {st : List Value} {M : pj_Mem} {x : Int32} : pj_step 57 (46, L, .int x :: st, M) = some (if x = 0 then 74 else 49, L, st, M) := st_if_eq q57_46
theorem x57_46 {L : pj_Loc} {st : List Value} {M : pj_Mem} {x : Int32} {o9 : Option Value × pj_Mem} : pj_Ends 57 (46, L, .int x :: st, M) o9 = pj_Ends 57 (if x = 0 then 74 else 49, L, st, M) o9 := pj_xs (s57_46)
theorem q57_49 : pj_row 57 49 = some (.iload 5, 2, 0, 0, 0) := by decide +kernel
theorem s57_49 {st : List Value} {M : pj_Mem} {l : pj_Loc} {a0 a1 a2 a3 a4 : Option Value} {x : Int32} : pj_step 57 (49, a0 :: a1 :: a2 :: a3 :: a4 :: some (.int x) :: l, st, M) = some (51, a0 :: a1 :: a2 :: a3 :: a4 :: some (.int x) :: l, .int x :: st, M) := st_iload q57_49 rfl
theorem x57_49 {st : List Value} {M : pj_Mem} {l : pj_Loc} {a0 a1 a2 a3 a4 : Option Value} {x : Int32} {o9 : Option Value × pj_Mem} : pj_Ends 57 (49, a0 :: a1 :: a2 :: a3 :: a4 :: some (.int x) :: l, st, M) o9 = pj_Ends 57 (51, a0 :: a1 :: a2 :: a3 :: a4 :: some (.int x) :: l, .int x :: st, M) o9 := pj_xs (s57_49)
theorem q57_51 : pj_row 57 51 = some (.iconst 2, 1, 0, 0, 0) := by decide +kernel
theorem s57_51 {L : pj_Loc} {st : List Value} {M : pj_Mem}  : pj_step 57 (51, L, st, M) = some (52, L, .int 2 :: st, M) := st_iconst q57_51 (by decide +kernel)
theorem x57_51 {L : pj_Loc} {st : List Value} {M : pj_Mem}  {o9 : Option Value × pj_Mem} : pj_Ends 57 (51, L, st, M) o9 = pj_Ends 57 (52, L, .int 2 :: st, M) o9 := pj_xs (s57_51)
theorem q57_52 : pj_row 57 52 = some (.if_icmp .eq 18, 3, 70, 0, 0) := by decide +kernel
theorem s57_52 {L : pj_Loc} {st : List Value} {M : pj_Mem} {x y : Int32} : pj_step 57 (52, L, .int y :: .int x :: st, M) = some (if x = y then 70 else 55, L, st, M) := st_icmp_eq q57_52
theorem x57_52 {L : pj_Loc} {st : List Value} {M : pj_Mem} {x y : Int32} {o9 : Option Value × pj_Mem} : pj_Ends 57 (52, L, .int y :: .int x :: st, M) o9 = pj_Ends 57 (if x = y then 70 else 55, L, st, M) o9 := pj_xs (s57_52)
theorem q57_55 : pj_row 57 55 = some (.aload_n 0, 1, 0, 0, 0) := by decide +kernel
theorem s57_55 {st : List Value} {M : pj_Mem} {l : pj_Loc} {x : Nat} : pj_step 57 (55, some (.ref x) :: l, st, M) = some (56, some (.ref x) :: l, .ref x :: st, M) := st_aload_n q57_55 rfl
theorem x57_55 {st : List Value} {M : pj_Mem} {l : pj_Loc} {x : Nat} {o9 : Option Value × pj_Mem} : pj_Ends 57 (55, some (.ref x) :: l, st, M) o9 = pj_Ends 57 (56, some (.ref x) :: l, .ref x :: st, M) o9 := pj_xs (s57_55)
theorem q57_56 : pj_row 57 56 = some (.iload 5, 2, 0, 0, 0) := by decide +kernel
theorem s57_56 {st : List Value} {M : pj_Mem} {l : pj_Loc} {a0 a1 a2 a3 a4 : Option Value} {x : Int32} : pj_step 57 (56, a0 :: a1 :: a2 :: a3 :: a4 :: some (.int x) :: l, st, M) = some (58, a0 :: a1 :: a2 :: a3 :: a4 :: some (.int x) :: l, .int x :: st, M) := st_iload q57_56 rfl
theorem x57_56 {st : List Value} {M : pj_Mem} {l : pj_Loc} {a0 a1 a2 a3 a4 : Option Value} {x : Int32} {o9 : Option Value × pj_Mem} : pj_Ends 57 (56, a0 :: a1 :: a2 :: a3 :: a4 :: some (.int x) :: l, st, M) o9 = pj_Ends 57 (58, a0 :: a1 :: a2 :: a3 :: a4 :: some (.int x) :: l, .int x :: st, M) o9 := pj_xs (s57_56)
theorem q57_58 : pj_row 57 58 = some (.invokevirtual 28, 3, 10, 2, 0) := by decide +kernel
theorem e57_58 {L : pj_Loc} {st : List Value} {N S : Nat} {H : pj_Heap} {o : Option Value × pj_Mem} {M' : pj_Mem} {x0 : Nat} {x1 : Int32} {r : Int32} (h4 : pj_le4 st = true) (hu : pj_isU 5 (H x0) = true) (h1 : pj_Ends 10 (0, [some (.ref x0), some (.int x1)], [], (N, S, H)) (some (.int r), M')) (h2 : pj_Ends 57 (61, L, .int r :: st, M') o) : pj_Ends 57 (58, L, .int x1 :: .ref x0 :: st, (N, S, H)) o := ec_v2 q57_58 (Or.inl rfl) h4 hu rfl h1 h2
theorem q57_61 : pj_row 57 61 = some (.aload_n 1, 1, 0, 0, 0) := by decide +kernel
theorem s57_61 {st : List Value} {M : pj_Mem} {l : pj_Loc} {a0 : Option Value} {x : Nat} : pj_step 57 (61, a0 :: some (.ref x) :: l, st, M) = some (62, a0 :: some (.ref x) :: l, .ref x :: st, M) := st_aload_n q57_61 rfl
theorem x57_61 {st : List Value} {M : pj_Mem} {l : pj_Loc} {a0 : Option Value} {x : Nat} {o9 : Option Value × pj_Mem} : pj_Ends 57 (61, a0 :: some (.ref x) :: l, st, M) o9 = pj_Ends 57 (62, a0 :: some (.ref x) :: l, .ref x :: st, M) o9 := pj_xs (s57_61)
theorem q57_62 : pj_row 57 62 = some (.iload 5, 2, 0, 0, 0) := by decide +kernel
theorem s57_62 {st : List Value} {M : pj_Mem} {l : pj_Loc} {a0 a1 a2 a3 a4 : Option Value} {x : Int32} : pj_step 57 (62, a0 :: a1 :: a2 :: a3 :: a4 :: some (.int x) :: l, st, M) = some (64, a0 :: a1 :: a2 :: a3 :: a4 :: some (.int x) :: l, .int x :: st, M) := st_iload q57_62 rfl
theorem x57_62 {st : List Value} {M : pj_Mem} {l : pj_Loc} {a0 a1 a2 a3 a4 : Option Value} {x : Int32} {o9 : Option Value × pj_Mem} : pj_Ends 57 (62, a0 :: a1 :: a2 :: a3 :: a4 :: some (.int x) :: l, st, M) o9 = pj_Ends 57 (64, a0 :: a1 :: a2 :: a3 :: a4 :: some (.int x) :: l, .int x :: st, M) o9 := pj_xs (s57_62)
theorem q57_64 : pj_row 57 64 = some (.invokevirtual 28, 3, 10, 2, 0) := by decide +kernel
theorem e57_64 {L : pj_Loc} {st : List Value} {N S : Nat} {H : pj_Heap} {o : Option Value × pj_Mem} {M' : pj_Mem} {x0 : Nat} {x1 : Int32} {r : Int32} (h4 : pj_le4 st = true) (hu : pj_isU 5 (H x0) = true) (h1 : pj_Ends 10 (0, [some (.ref x0), some (.int x1)], [], (N, S, H)) (some (.int r), M')) (h2 : pj_Ends 57 (67, L, .int r :: st, M') o) : pj_Ends 57 (64, L, .int x1 :: .ref x0 :: st, (N, S, H)) o := ec_v2 q57_64 (Or.inl rfl) h4 hu rfl h1 h2
theorem q57_67 : pj_row 57 67 = some (.if_icmp .ne 7, 3, 74, 0, 0) := by decide +kernel
theorem s57_67 {L : pj_Loc} {st : List Value} {M : pj_Mem} {x y : Int32} : pj_step 57 (67, L, .int y :: .int x :: st, M) = some (if ¬ x = y then 74 else 70, L, st, M) := st_icmp_ne q57_67
theorem x57_67 {L : pj_Loc} {st : List Value} {M : pj_Mem} {x y : Int32} {o9 : Option Value × pj_Mem} : pj_Ends 57 (67, L, .int y :: .int x :: st, M) o9 = pj_Ends 57 (if ¬ x = y then 74 else 70, L, st, M) o9 := pj_xs (s57_67)
theorem q57_70 : pj_row 57 70 = some (.iconst 1, 1, 0, 0, 0) := by decide +kernel
theorem s57_70 {L : pj_Loc} {st : List Value} {M : pj_Mem}  : pj_step 57 (70, L, st, M) = some (71, L, .int 1 :: st, M) := st_iconst q57_70 (by decide +kernel)
theorem x57_70 {L : pj_Loc} {st : List Value} {M : pj_Mem}  {o9 : Option Value × pj_Mem} : pj_Ends 57 (70, L, st, M) o9 = pj_Ends 57 (71, L, .int 1 :: st, M) o9 := pj_xs (s57_70)
theorem q57_71 : pj_row 57 71 = some (.goto 4, 3, 75, 0, 0) := by decide +kernel
theorem s57_71 {L : pj_Loc} {st : List Value} {M : pj_Mem}  : pj_step 57 (71, L, st, M) = some (75, L, st, M) := st_goto q57_71
theorem x57_71 {L : pj_Loc} {st : List Value} {M : pj_Mem}  {o9 : Option Value × pj_Mem} : pj_Ends 57 (71, L, st, M) o9 = pj_Ends 57 (75, L, st, M) o9 := pj_xs (s57_71)
theorem q57_74 : pj_row 57 74 = some (.iconst 0, 1, 0, 0, 0) := by decide +kernel
theorem s57_74 {L : pj_Loc} {st : List Value} {M : pj_Mem}  : pj_step 57 (74, L, st, M) = some (75, L, .int 0 :: st, M) := st_iconst q57_74 (by decide +kernel)
theorem x57_74 {L : pj_Loc} {st : List Value} {M : pj_Mem}  {o9 : Option Value × pj_Mem} : pj_Ends 57 (74, L, st, M) o9 = pj_Ends 57 (75, L, .int 0 :: st, M) o9 := pj_xs (s57_74)
theorem q57_75 : pj_row 57 75 = some (.istore 4, 2, 0, 0, 0) := by decide +kernel
theorem s57_75 {st : List Value} {M : pj_Mem} {l : pj_Loc} {a0 a1 a2 a3 a4 : Option Value} {x : Int32} (h : pj_long a3 = false) : pj_step 57 (75, a0 :: a1 :: a2 :: a3 :: a4 :: l, .int x :: st, M) = some (77, a0 :: a1 :: a2 :: a3 :: some (.int x) :: l, st, M) := st_istore q57_75 (pj_st_4 h)
theorem x57_75 {st : List Value} {M : pj_Mem} {l : pj_Loc} {a0 a1 a2 a3 a4 : Option Value} {x : Int32} (h : pj_long a3 = false) {o9 : Option Value × pj_Mem} : pj_Ends 57 (75, a0 :: a1 :: a2 :: a3 :: a4 :: l, .int x :: st, M) o9 = pj_Ends 57 (77, a0 :: a1 :: a2 :: a3 :: some (.int x) :: l, st, M) o9 := pj_xs (s57_75 h)
theorem q57_77 : pj_row 57 77 = some (.iinc 5 1, 3, 0, 0, 0) := by decide +kernel
theorem s57_77 {st : List Value} {M : pj_Mem} {l : pj_Loc} {a0 a1 a2 a3 a4 : Option Value} {x : Int32} (h : pj_long a4 = false) : pj_step 57 (77, a0 :: a1 :: a2 :: a3 :: a4 :: some (.int x) :: l, st, M) = some (80, a0 :: a1 :: a2 :: a3 :: a4 :: some (.int (x + 1)) :: l, st, M) := st_iinc q57_77 rfl (congrArg (fun y => x + y) (show Int32.ofInt 1 = 1 by decide +kernel)) (pj_st_5 h)
theorem x57_77 {st : List Value} {M : pj_Mem} {l : pj_Loc} {a0 a1 a2 a3 a4 : Option Value} {x : Int32} (h : pj_long a4 = false) {o9 : Option Value × pj_Mem} : pj_Ends 57 (77, a0 :: a1 :: a2 :: a3 :: a4 :: some (.int x) :: l, st, M) o9 = pj_Ends 57 (80, a0 :: a1 :: a2 :: a3 :: a4 :: some (.int (x + 1)) :: l, st, M) o9 := pj_xs (s57_77 h)
theorem q57_80 : pj_row 57 80 = some (.goto (-43), 3, 37, 0, 0) := by decide +kernel
theorem s57_80 {L : pj_Loc} {st : List Value} {M : pj_Mem}  : pj_step 57 (80, L, st, M) = some (37, L, st, M) := st_goto q57_80
theorem x57_80 {L : pj_Loc} {st : List Value} {M : pj_Mem}  {o9 : Option Value × pj_Mem} : pj_Ends 57 (80, L, st, M) o9 = pj_Ends 57 (37, L, st, M) o9 := pj_xs (s57_80)
theorem q57_83 : pj_row 57 83 = some (.iconst 0, 1, 0, 0, 0) := by decide +kernel
theorem s57_83 {L : pj_Loc} {st : List Value} {M : pj_Mem}  : pj_step 57 (83, L, st, M) = some (84, L, .int 0 :: st, M) := st_iconst q57_83 (by decide +kernel)
theorem x57_83 {L : pj_Loc} {st : List Value} {M : pj_Mem}  {o9 : Option Value × pj_Mem} : pj_Ends 57 (83, L, st, M) o9 = pj_Ends 57 (84, L, .int 0 :: st, M) o9 := pj_xs (s57_83)
theorem q57_84 : pj_row 57 84 = some (.istore 5, 2, 0, 0, 0) := by decide +kernel
theorem s57_84 {st : List Value} {M : pj_Mem} {l : pj_Loc} {a0 a1 a2 a3 a4 a5 : Option Value} {x : Int32} (h : pj_long a4 = false) : pj_step 57 (84, a0 :: a1 :: a2 :: a3 :: a4 :: a5 :: l, .int x :: st, M) = some (86, a0 :: a1 :: a2 :: a3 :: a4 :: some (.int x) :: l, st, M) := st_istore q57_84 (pj_st_5 h)
theorem x57_84 {st : List Value} {M : pj_Mem} {l : pj_Loc} {a0 a1 a2 a3 a4 a5 : Option Value} {x : Int32} (h : pj_long a4 = false) {o9 : Option Value × pj_Mem} : pj_Ends 57 (84, a0 :: a1 :: a2 :: a3 :: a4 :: a5 :: l, .int x :: st, M) o9 = pj_Ends 57 (86, a0 :: a1 :: a2 :: a3 :: a4 :: some (.int x) :: l, st, M) o9 := pj_xs (s57_84 h)
theorem q57_86 : pj_row 57 86 = some (.iload 5, 2, 0, 0, 0) := by decide +kernel
theorem s57_86 {st : List Value} {M : pj_Mem} {l : pj_Loc} {a0 a1 a2 a3 a4 : Option Value} {x : Int32} : pj_step 57 (86, a0 :: a1 :: a2 :: a3 :: a4 :: some (.int x) :: l, st, M) = some (88, a0 :: a1 :: a2 :: a3 :: a4 :: some (.int x) :: l, .int x :: st, M) := st_iload q57_86 rfl
theorem x57_86 {st : List Value} {M : pj_Mem} {l : pj_Loc} {a0 a1 a2 a3 a4 : Option Value} {x : Int32} {o9 : Option Value × pj_Mem} : pj_Ends 57 (86, a0 :: a1 :: a2 :: a3 :: a4 :: some (.int x) :: l, st, M) o9 = pj_Ends 57 (88, a0 :: a1 :: a2 :: a3 :: a4 :: some (.int x) :: l, .int x :: st, M) o9 := pj_xs (s57_86)
theorem q57_88 : pj_row 57 88 = some (.iconst 3, 1, 0, 0, 0) := by decide +kernel
theorem s57_88 {L : pj_Loc} {st : List Value} {M : pj_Mem}  : pj_step 57 (88, L, st, M) = some (89, L, .int 3 :: st, M) := st_iconst q57_88 (by decide +kernel)
theorem x57_88 {L : pj_Loc} {st : List Value} {M : pj_Mem}  {o9 : Option Value × pj_Mem} : pj_Ends 57 (88, L, st, M) o9 = pj_Ends 57 (89, L, .int 3 :: st, M) o9 := pj_xs (s57_88)
theorem q57_89 : pj_row 57 89 = some (.if_icmp .ge 139, 3, 228, 0, 0) := by decide +kernel
theorem s57_89 {L : pj_Loc} {st : List Value} {M : pj_Mem} {x y : Int32} : pj_step 57 (89, L, .int y :: .int x :: st, M) = some (if y ≤ x then 228 else 92, L, st, M) := st_icmp_ge q57_89
theorem x57_89 {L : pj_Loc} {st : List Value} {M : pj_Mem} {x y : Int32} {o9 : Option Value × pj_Mem} : pj_Ends 57 (89, L, .int y :: .int x :: st, M) o9 = pj_Ends 57 (if y ≤ x then 228 else 92, L, st, M) o9 := pj_xs (s57_89)
theorem q57_92 : pj_row 57 92 = some (.iconst 0, 1, 0, 0, 0) := by decide +kernel
theorem s57_92 {L : pj_Loc} {st : List Value} {M : pj_Mem}  : pj_step 57 (92, L, st, M) = some (93, L, .int 0 :: st, M) := st_iconst q57_92 (by decide +kernel)
theorem x57_92 {L : pj_Loc} {st : List Value} {M : pj_Mem}  {o9 : Option Value × pj_Mem} : pj_Ends 57 (92, L, st, M) o9 = pj_Ends 57 (93, L, .int 0 :: st, M) o9 := pj_xs (s57_92)
theorem q57_93 : pj_row 57 93 = some (.istore 6, 2, 0, 0, 0) := by decide +kernel
theorem s57_93 {st : List Value} {M : pj_Mem} {l : pj_Loc} {a0 a1 a2 a3 a4 a5 a6 : Option Value} {x : Int32} (h : pj_long a5 = false) : pj_step 57 (93, a0 :: a1 :: a2 :: a3 :: a4 :: a5 :: a6 :: l, .int x :: st, M) = some (95, a0 :: a1 :: a2 :: a3 :: a4 :: a5 :: some (.int x) :: l, st, M) := st_istore q57_93 (pj_st_6 h)
theorem x57_93 {st : List Value} {M : pj_Mem} {l : pj_Loc} {a0 a1 a2 a3 a4 a5 a6 : Option Value} {x : Int32} (h : pj_long a5 = false) {o9 : Option Value × pj_Mem} : pj_Ends 57 (93, a0 :: a1 :: a2 :: a3 :: a4 :: a5 :: a6 :: l, .int x :: st, M) o9 = pj_Ends 57 (95, a0 :: a1 :: a2 :: a3 :: a4 :: a5 :: some (.int x) :: l, st, M) o9 := pj_xs (s57_93 h)
theorem q57_95 : pj_row 57 95 = some (.iload 6, 2, 0, 0, 0) := by decide +kernel
theorem s57_95 {st : List Value} {M : pj_Mem} {l : pj_Loc} {a0 a1 a2 a3 a4 a5 : Option Value} {x : Int32} : pj_step 57 (95, a0 :: a1 :: a2 :: a3 :: a4 :: a5 :: some (.int x) :: l, st, M) = some (97, a0 :: a1 :: a2 :: a3 :: a4 :: a5 :: some (.int x) :: l, .int x :: st, M) := st_iload q57_95 rfl
theorem x57_95 {st : List Value} {M : pj_Mem} {l : pj_Loc} {a0 a1 a2 a3 a4 a5 : Option Value} {x : Int32} {o9 : Option Value × pj_Mem} : pj_Ends 57 (95, a0 :: a1 :: a2 :: a3 :: a4 :: a5 :: some (.int x) :: l, st, M) o9 = pj_Ends 57 (97, a0 :: a1 :: a2 :: a3 :: a4 :: a5 :: some (.int x) :: l, .int x :: st, M) o9 := pj_xs (s57_95)
theorem q57_97 : pj_row 57 97 = some (.iconst 5, 1, 0, 0, 0) := by decide +kernel
theorem s57_97 {L : pj_Loc} {st : List Value} {M : pj_Mem}  : pj_step 57 (97, L, st, M) = some (98, L, .int 5 :: st, M) := st_iconst q57_97 (by decide +kernel)
theorem x57_97 {L : pj_Loc} {st : List Value} {M : pj_Mem}  {o9 : Option Value × pj_Mem} : pj_Ends 57 (97, L, st, M) o9 = pj_Ends 57 (98, L, .int 5 :: st, M) o9 := pj_xs (s57_97)
theorem q57_98 : pj_row 57 98 = some (.if_icmp .ge 44, 3, 142, 0, 0) := by decide +kernel
theorem s57_98 {L : pj_Loc} {st : List Value} {M : pj_Mem} {x y : Int32} : pj_step 57 (98, L, .int y :: .int x :: st, M) = some (if y ≤ x then 142 else 101, L, st, M) := st_icmp_ge q57_98
theorem x57_98 {L : pj_Loc} {st : List Value} {M : pj_Mem} {x y : Int32} {o9 : Option Value × pj_Mem} : pj_Ends 57 (98, L, .int y :: .int x :: st, M) o9 = pj_Ends 57 (if y ≤ x then 142 else 101, L, st, M) o9 := pj_xs (s57_98)
theorem q57_101 : pj_row 57 101 = some (.iload 4, 2, 0, 0, 0) := by decide +kernel
theorem s57_101 {st : List Value} {M : pj_Mem} {l : pj_Loc} {a0 a1 a2 a3 : Option Value} {x : Int32} : pj_step 57 (101, a0 :: a1 :: a2 :: a3 :: some (.int x) :: l, st, M) = some (103, a0 :: a1 :: a2 :: a3 :: some (.int x) :: l, .int x :: st, M) := st_iload q57_101 rfl
theorem x57_101 {st : List Value} {M : pj_Mem} {l : pj_Loc} {a0 a1 a2 a3 : Option Value} {x : Int32} {o9 : Option Value × pj_Mem} : pj_Ends 57 (101, a0 :: a1 :: a2 :: a3 :: some (.int x) :: l, st, M) o9 = pj_Ends 57 (103, a0 :: a1 :: a2 :: a3 :: some (.int x) :: l, .int x :: st, M) o9 := pj_xs (s57_101)
theorem q57_103 : pj_row 57 103 = some (.ifCond .eq 30, 3, 133, 0, 0) := by decide +kernel
theorem s57_103 {L : pj_Loc} {st : List Value} {M : pj_Mem} {x : Int32} : pj_step 57 (103, L, .int x :: st, M) = some (if x = 0 then 133 else 106, L, st, M) := st_if_eq q57_103
theorem x57_103 {L : pj_Loc} {st : List Value} {M : pj_Mem} {x : Int32} {o9 : Option Value × pj_Mem} : pj_Ends 57 (103, L, .int x :: st, M) o9 = pj_Ends 57 (if x = 0 then 133 else 106, L, st, M) o9 := pj_xs (s57_103)
theorem q57_106 : pj_row 57 106 = some (.aload_n 0, 1, 0, 0, 0) := by decide +kernel
theorem s57_106 {st : List Value} {M : pj_Mem} {l : pj_Loc} {x : Nat} : pj_step 57 (106, some (.ref x) :: l, st, M) = some (107, some (.ref x) :: l, .ref x :: st, M) := st_aload_n q57_106 rfl
theorem x57_106 {st : List Value} {M : pj_Mem} {l : pj_Loc} {x : Nat} {o9 : Option Value × pj_Mem} : pj_Ends 57 (106, some (.ref x) :: l, st, M) o9 = pj_Ends 57 (107, some (.ref x) :: l, .ref x :: st, M) o9 := pj_xs (s57_106)
theorem q57_107 : pj_row 57 107 = some (.iload 5, 2, 0, 0, 0) := by decide +kernel
theorem s57_107 {st : List Value} {M : pj_Mem} {l : pj_Loc} {a0 a1 a2 a3 a4 : Option Value} {x : Int32} : pj_step 57 (107, a0 :: a1 :: a2 :: a3 :: a4 :: some (.int x) :: l, st, M) = some (109, a0 :: a1 :: a2 :: a3 :: a4 :: some (.int x) :: l, .int x :: st, M) := st_iload q57_107 rfl
theorem x57_107 {st : List Value} {M : pj_Mem} {l : pj_Loc} {a0 a1 a2 a3 a4 : Option Value} {x : Int32} {o9 : Option Value × pj_Mem} : pj_Ends 57 (107, a0 :: a1 :: a2 :: a3 :: a4 :: some (.int x) :: l, st, M) o9 = pj_Ends 57 (109, a0 :: a1 :: a2 :: a3 :: a4 :: some (.int x) :: l, .int x :: st, M) o9 := pj_xs (s57_107)
theorem q57_109 : pj_row 57 109 = some (.iload 6, 2, 0, 0, 0) := by decide +kernel
theorem s57_109 {st : List Value} {M : pj_Mem} {l : pj_Loc} {a0 a1 a2 a3 a4 a5 : Option Value} {x : Int32} : pj_step 57 (109, a0 :: a1 :: a2 :: a3 :: a4 :: a5 :: some (.int x) :: l, st, M) = some (111, a0 :: a1 :: a2 :: a3 :: a4 :: a5 :: some (.int x) :: l, .int x :: st, M) := st_iload q57_109 rfl
theorem x57_109 {st : List Value} {M : pj_Mem} {l : pj_Loc} {a0 a1 a2 a3 a4 a5 : Option Value} {x : Int32} {o9 : Option Value × pj_Mem} : pj_Ends 57 (109, a0 :: a1 :: a2 :: a3 :: a4 :: a5 :: some (.int x) :: l, st, M) o9 = pj_Ends 57 (111, a0 :: a1 :: a2 :: a3 :: a4 :: a5 :: some (.int x) :: l, .int x :: st, M) o9 := pj_xs (s57_109)
theorem q57_111 : pj_row 57 111 = some (.invokevirtual 63, 3, 59, 3, 0) := by decide +kernel
theorem e57_111 {L : pj_Loc} {st : List Value} {N S : Nat} {H : pj_Heap} {o : Option Value × pj_Mem} {M' : pj_Mem} {x0 : Nat} {x1 : Int32} {x2 : Int32} {r : Int32} (h4 : pj_le4 st = true) (hu : pj_isU 5 (H x0) = true) (h1 : pj_Ends 59 (0, [some (.ref x0), some (.int x1), some (.int x2)], [], (N, S, H)) (some (.int r), M')) (h2 : pj_Ends 57 (114, L, .int r :: st, M') o) : pj_Ends 57 (111, L, .int x2 :: .int x1 :: .ref x0 :: st, (N, S, H)) o := ec_v3 q57_111 (Or.inl rfl) h4 hu rfl h1 h2
theorem q57_114 : pj_row 57 114 = some (.aload_n 1, 1, 0, 0, 0) := by decide +kernel
theorem s57_114 {st : List Value} {M : pj_Mem} {l : pj_Loc} {a0 : Option Value} {x : Nat} : pj_step 57 (114, a0 :: some (.ref x) :: l, st, M) = some (115, a0 :: some (.ref x) :: l, .ref x :: st, M) := st_aload_n q57_114 rfl
theorem x57_114 {st : List Value} {M : pj_Mem} {l : pj_Loc} {a0 : Option Value} {x : Nat} {o9 : Option Value × pj_Mem} : pj_Ends 57 (114, a0 :: some (.ref x) :: l, st, M) o9 = pj_Ends 57 (115, a0 :: some (.ref x) :: l, .ref x :: st, M) o9 := pj_xs (s57_114)
theorem q57_115 : pj_row 57 115 = some (.iload_n 2, 1, 0, 0, 0) := by decide +kernel
theorem s57_115 {st : List Value} {M : pj_Mem} {l : pj_Loc} {a0 a1 : Option Value} {x : Int32} : pj_step 57 (115, a0 :: a1 :: some (.int x) :: l, st, M) = some (116, a0 :: a1 :: some (.int x) :: l, .int x :: st, M) := st_iload_n q57_115 rfl
theorem x57_115 {st : List Value} {M : pj_Mem} {l : pj_Loc} {a0 a1 : Option Value} {x : Int32} {o9 : Option Value × pj_Mem} : pj_Ends 57 (115, a0 :: a1 :: some (.int x) :: l, st, M) o9 = pj_Ends 57 (116, a0 :: a1 :: some (.int x) :: l, .int x :: st, M) o9 := pj_xs (s57_115)
theorem q57_116 : pj_row 57 116 = some (.iload 5, 2, 0, 0, 0) := by decide +kernel
theorem s57_116 {st : List Value} {M : pj_Mem} {l : pj_Loc} {a0 a1 a2 a3 a4 : Option Value} {x : Int32} : pj_step 57 (116, a0 :: a1 :: a2 :: a3 :: a4 :: some (.int x) :: l, st, M) = some (118, a0 :: a1 :: a2 :: a3 :: a4 :: some (.int x) :: l, .int x :: st, M) := st_iload q57_116 rfl
theorem x57_116 {st : List Value} {M : pj_Mem} {l : pj_Loc} {a0 a1 a2 a3 a4 : Option Value} {x : Int32} {o9 : Option Value × pj_Mem} : pj_Ends 57 (116, a0 :: a1 :: a2 :: a3 :: a4 :: some (.int x) :: l, st, M) o9 = pj_Ends 57 (118, a0 :: a1 :: a2 :: a3 :: a4 :: some (.int x) :: l, .int x :: st, M) o9 := pj_xs (s57_116)
theorem q57_118 : pj_row 57 118 = some (.invokestatic 9, 3, 46, 2, 0) := by decide +kernel
theorem e57_118 {L : pj_Loc} {st : List Value} {N S : Nat} {H : pj_Heap} {o : Option Value × pj_Mem} {M' : pj_Mem} {x0 : Int32} {x1 : Int32} {r : Int32} (h4 : pj_le4 st = true) (h1 : pj_Ends 46 (0, [some (.int x0), some (.int x1)], [], (N, S, H)) (some (.int r), M')) (h2 : pj_Ends 57 (121, L, .int r :: st, M') o) : pj_Ends 57 (118, L, .int x1 :: .int x0 :: st, (N, S, H)) o := ec_s2 q57_118 (Or.inl rfl) h4 rfl h1 h2
theorem q57_121 : pj_row 57 121 = some (.iload 6, 2, 0, 0, 0) := by decide +kernel
theorem s57_121 {st : List Value} {M : pj_Mem} {l : pj_Loc} {a0 a1 a2 a3 a4 a5 : Option Value} {x : Int32} : pj_step 57 (121, a0 :: a1 :: a2 :: a3 :: a4 :: a5 :: some (.int x) :: l, st, M) = some (123, a0 :: a1 :: a2 :: a3 :: a4 :: a5 :: some (.int x) :: l, .int x :: st, M) := st_iload q57_121 rfl
theorem x57_121 {st : List Value} {M : pj_Mem} {l : pj_Loc} {a0 a1 a2 a3 a4 a5 : Option Value} {x : Int32} {o9 : Option Value × pj_Mem} : pj_Ends 57 (121, a0 :: a1 :: a2 :: a3 :: a4 :: a5 :: some (.int x) :: l, st, M) o9 = pj_Ends 57 (123, a0 :: a1 :: a2 :: a3 :: a4 :: a5 :: some (.int x) :: l, .int x :: st, M) o9 := pj_xs (s57_121)
theorem q57_123 : pj_row 57 123 = some (.invokevirtual 63, 3, 59, 3, 0) := by decide +kernel
theorem e57_123 {L : pj_Loc} {st : List Value} {N S : Nat} {H : pj_Heap} {o : Option Value × pj_Mem} {M' : pj_Mem} {x0 : Nat} {x1 : Int32} {x2 : Int32} {r : Int32} (h4 : pj_le4 st = true) (hu : pj_isU 5 (H x0) = true) (h1 : pj_Ends 59 (0, [some (.ref x0), some (.int x1), some (.int x2)], [], (N, S, H)) (some (.int r), M')) (h2 : pj_Ends 57 (126, L, .int r :: st, M') o) : pj_Ends 57 (123, L, .int x2 :: .int x1 :: .ref x0 :: st, (N, S, H)) o := ec_v3 q57_123 (Or.inl rfl) h4 hu rfl h1 h2
theorem q57_126 : pj_row 57 126 = some (.if_icmp .ne 7, 3, 133, 0, 0) := by decide +kernel
theorem s57_126 {L : pj_Loc} {st : List Value} {M : pj_Mem} {x y : Int32} : pj_step 57 (126, L, .int y :: .int x :: st, M) = some (if ¬ x = y then 133 else 129, L, st, M) := st_icmp_ne q57_126
theorem x57_126 {L : pj_Loc} {st : List Value} {M : pj_Mem} {x y : Int32} {o9 : Option Value × pj_Mem} : pj_Ends 57 (126, L, .int y :: .int x :: st, M) o9 = pj_Ends 57 (if ¬ x = y then 133 else 129, L, st, M) o9 := pj_xs (s57_126)
theorem q57_129 : pj_row 57 129 = some (.iconst 1, 1, 0, 0, 0) := by decide +kernel
theorem s57_129 {L : pj_Loc} {st : List Value} {M : pj_Mem}  : pj_step 57 (129, L, st, M) = some (130, L, .int 1 :: st, M) := st_iconst q57_129 (by decide +kernel)
theorem x57_129 {L : pj_Loc} {st : List Value} {M : pj_Mem}  {o9 : Option Value × pj_Mem} : pj_Ends 57 (129, L, st, M) o9 = pj_Ends 57 (130, L, .int 1 :: st, M) o9 := pj_xs (s57_129)
theorem q57_130 : pj_row 57 130 = some (.goto 4, 3, 134, 0, 0) := by decide +kernel
theorem s57_130 {L : pj_Loc} {st : List Value} {M : pj_Mem}  : pj_step 57 (130, L, st, M) = some (134, L, st, M) := st_goto q57_130
theorem x57_130 {L : pj_Loc} {st : List Value} {M : pj_Mem}  {o9 : Option Value × pj_Mem} : pj_Ends 57 (130, L, st, M) o9 = pj_Ends 57 (134, L, st, M) o9 := pj_xs (s57_130)
theorem q57_133 : pj_row 57 133 = some (.iconst 0, 1, 0, 0, 0) := by decide +kernel
theorem s57_133 {L : pj_Loc} {st : List Value} {M : pj_Mem}  : pj_step 57 (133, L, st, M) = some (134, L, .int 0 :: st, M) := st_iconst q57_133 (by decide +kernel)
theorem x57_133 {L : pj_Loc} {st : List Value} {M : pj_Mem}  {o9 : Option Value × pj_Mem} : pj_Ends 57 (133, L, st, M) o9 = pj_Ends 57 (134, L, .int 0 :: st, M) o9 := pj_xs (s57_133)
theorem q57_134 : pj_row 57 134 = some (.istore 4, 2, 0, 0, 0) := by decide +kernel
theorem s57_134 {st : List Value} {M : pj_Mem} {l : pj_Loc} {a0 a1 a2 a3 a4 : Option Value} {x : Int32} (h : pj_long a3 = false) : pj_step 57 (134, a0 :: a1 :: a2 :: a3 :: a4 :: l, .int x :: st, M) = some (136, a0 :: a1 :: a2 :: a3 :: some (.int x) :: l, st, M) := st_istore q57_134 (pj_st_4 h)
theorem x57_134 {st : List Value} {M : pj_Mem} {l : pj_Loc} {a0 a1 a2 a3 a4 : Option Value} {x : Int32} (h : pj_long a3 = false) {o9 : Option Value × pj_Mem} : pj_Ends 57 (134, a0 :: a1 :: a2 :: a3 :: a4 :: l, .int x :: st, M) o9 = pj_Ends 57 (136, a0 :: a1 :: a2 :: a3 :: some (.int x) :: l, st, M) o9 := pj_xs (s57_134 h)
theorem q57_136 : pj_row 57 136 = some (.iinc 6 1, 3, 0, 0, 0) := by decide +kernel
theorem s57_136 {st : List Value} {M : pj_Mem} {l : pj_Loc} {a0 a1 a2 a3 a4 a5 : Option Value} {x : Int32} (h : pj_long a5 = false) : pj_step 57 (136, a0 :: a1 :: a2 :: a3 :: a4 :: a5 :: some (.int x) :: l, st, M) = some (139, a0 :: a1 :: a2 :: a3 :: a4 :: a5 :: some (.int (x + 1)) :: l, st, M) := st_iinc q57_136 rfl (congrArg (fun y => x + y) (show Int32.ofInt 1 = 1 by decide +kernel)) (pj_st_6 h)
theorem x57_136 {st : List Value} {M : pj_Mem} {l : pj_Loc} {a0 a1 a2 a3 a4 a5 : Option Value} {x : Int32} (h : pj_long a5 = false) {o9 : Option Value × pj_Mem} : pj_Ends 57 (136, a0 :: a1 :: a2 :: a3 :: a4 :: a5 :: some (.int x) :: l, st, M) o9 = pj_Ends 57 (139, a0 :: a1 :: a2 :: a3 :: a4 :: a5 :: some (.int (x + 1)) :: l, st, M) o9 := pj_xs (s57_136 h)
theorem q57_139 : pj_row 57 139 = some (.goto (-44), 3, 95, 0, 0) := by decide +kernel
theorem s57_139 {L : pj_Loc} {st : List Value} {M : pj_Mem}  : pj_step 57 (139, L, st, M) = some (95, L, st, M) := st_goto q57_139
theorem x57_139 {L : pj_Loc} {st : List Value} {M : pj_Mem}  {o9 : Option Value × pj_Mem} : pj_Ends 57 (139, L, st, M) o9 = pj_Ends 57 (95, L, st, M) o9 := pj_xs (s57_139)
theorem q57_142 : pj_row 57 142 = some (.iload 4, 2, 0, 0, 0) := by decide +kernel
theorem s57_142 {st : List Value} {M : pj_Mem} {l : pj_Loc} {a0 a1 a2 a3 : Option Value} {x : Int32} : pj_step 57 (142, a0 :: a1 :: a2 :: a3 :: some (.int x) :: l, st, M) = some (144, a0 :: a1 :: a2 :: a3 :: some (.int x) :: l, .int x :: st, M) := st_iload q57_142 rfl
theorem x57_142 {st : List Value} {M : pj_Mem} {l : pj_Loc} {a0 a1 a2 a3 : Option Value} {x : Int32} {o9 : Option Value × pj_Mem} : pj_Ends 57 (142, a0 :: a1 :: a2 :: a3 :: some (.int x) :: l, st, M) o9 = pj_Ends 57 (144, a0 :: a1 :: a2 :: a3 :: some (.int x) :: l, .int x :: st, M) o9 := pj_xs (s57_142)
theorem q57_144 : pj_row 57 144 = some (.ifCond .eq 75, 3, 219, 0, 0) := by decide +kernel
theorem s57_144 {L : pj_Loc} {st : List Value} {M : pj_Mem} {x : Int32} : pj_step 57 (144, L, .int x :: st, M) = some (if x = 0 then 219 else 147, L, st, M) := st_if_eq q57_144
theorem x57_144 {L : pj_Loc} {st : List Value} {M : pj_Mem} {x : Int32} {o9 : Option Value × pj_Mem} : pj_Ends 57 (144, L, .int x :: st, M) o9 = pj_Ends 57 (if x = 0 then 219 else 147, L, st, M) o9 := pj_xs (s57_144)
theorem q57_147 : pj_row 57 147 = some (.aload_n 0, 1, 0, 0, 0) := by decide +kernel
theorem s57_147 {st : List Value} {M : pj_Mem} {l : pj_Loc} {x : Nat} : pj_step 57 (147, some (.ref x) :: l, st, M) = some (148, some (.ref x) :: l, .ref x :: st, M) := st_aload_n q57_147 rfl
theorem x57_147 {st : List Value} {M : pj_Mem} {l : pj_Loc} {x : Nat} {o9 : Option Value × pj_Mem} : pj_Ends 57 (147, some (.ref x) :: l, st, M) o9 = pj_Ends 57 (148, some (.ref x) :: l, .ref x :: st, M) o9 := pj_xs (s57_147)
theorem q57_148 : pj_row 57 148 = some (.iload 5, 2, 0, 0, 0) := by decide +kernel
theorem s57_148 {st : List Value} {M : pj_Mem} {l : pj_Loc} {a0 a1 a2 a3 a4 : Option Value} {x : Int32} : pj_step 57 (148, a0 :: a1 :: a2 :: a3 :: a4 :: some (.int x) :: l, st, M) = some (150, a0 :: a1 :: a2 :: a3 :: a4 :: some (.int x) :: l, .int x :: st, M) := st_iload q57_148 rfl
theorem x57_148 {st : List Value} {M : pj_Mem} {l : pj_Loc} {a0 a1 a2 a3 a4 : Option Value} {x : Int32} {o9 : Option Value × pj_Mem} : pj_Ends 57 (148, a0 :: a1 :: a2 :: a3 :: a4 :: some (.int x) :: l, st, M) o9 = pj_Ends 57 (150, a0 :: a1 :: a2 :: a3 :: a4 :: some (.int x) :: l, .int x :: st, M) o9 := pj_xs (s57_148)
theorem q57_150 : pj_row 57 150 = some (.iconst 0, 1, 0, 0, 0) := by decide +kernel
theorem s57_150 {L : pj_Loc} {st : List Value} {M : pj_Mem}  : pj_step 57 (150, L, st, M) = some (151, L, .int 0 :: st, M) := st_iconst q57_150 (by decide +kernel)
theorem x57_150 {L : pj_Loc} {st : List Value} {M : pj_Mem}  {o9 : Option Value × pj_Mem} : pj_Ends 57 (150, L, st, M) o9 = pj_Ends 57 (151, L, .int 0 :: st, M) o9 := pj_xs (s57_150)
theorem q57_151 : pj_row 57 151 = some (.invokevirtual 66, 3, 7, 3, 0) := by decide +kernel
theorem e57_151 {L : pj_Loc} {st : List Value} {N S : Nat} {H : pj_Heap} {o : Option Value × pj_Mem} {M' : pj_Mem} {x0 : Nat} {x1 : Int32} {x2 : Int32} {r : Int32} (h4 : pj_le4 st = true) (hu : pj_isU 5 (H x0) = true) (h1 : pj_Ends 7 (0, [some (.ref x0), some (.int x1), some (.int x2)], [], (N, S, H)) (some (.int r), M')) (h2 : pj_Ends 57 (154, L, .int r :: st, M') o) : pj_Ends 57 (151, L, .int x2 :: .int x1 :: .ref x0 :: st, (N, S, H)) o := ec_v3 q57_151 (Or.inl rfl) h4 hu rfl h1 h2
theorem q57_154 : pj_row 57 154 = some (.aload_n 1, 1, 0, 0, 0) := by decide +kernel
theorem s57_154 {st : List Value} {M : pj_Mem} {l : pj_Loc} {a0 : Option Value} {x : Nat} : pj_step 57 (154, a0 :: some (.ref x) :: l, st, M) = some (155, a0 :: some (.ref x) :: l, .ref x :: st, M) := st_aload_n q57_154 rfl
theorem x57_154 {st : List Value} {M : pj_Mem} {l : pj_Loc} {a0 : Option Value} {x : Nat} {o9 : Option Value × pj_Mem} : pj_Ends 57 (154, a0 :: some (.ref x) :: l, st, M) o9 = pj_Ends 57 (155, a0 :: some (.ref x) :: l, .ref x :: st, M) o9 := pj_xs (s57_154)
theorem q57_155 : pj_row 57 155 = some (.iload 5, 2, 0, 0, 0) := by decide +kernel
theorem s57_155 {st : List Value} {M : pj_Mem} {l : pj_Loc} {a0 a1 a2 a3 a4 : Option Value} {x : Int32} : pj_step 57 (155, a0 :: a1 :: a2 :: a3 :: a4 :: some (.int x) :: l, st, M) = some (157, a0 :: a1 :: a2 :: a3 :: a4 :: some (.int x) :: l, .int x :: st, M) := st_iload q57_155 rfl
theorem x57_155 {st : List Value} {M : pj_Mem} {l : pj_Loc} {a0 a1 a2 a3 a4 : Option Value} {x : Int32} {o9 : Option Value × pj_Mem} : pj_Ends 57 (155, a0 :: a1 :: a2 :: a3 :: a4 :: some (.int x) :: l, st, M) o9 = pj_Ends 57 (157, a0 :: a1 :: a2 :: a3 :: a4 :: some (.int x) :: l, .int x :: st, M) o9 := pj_xs (s57_155)
theorem q57_157 : pj_row 57 157 = some (.iconst 0, 1, 0, 0, 0) := by decide +kernel
theorem s57_157 {L : pj_Loc} {st : List Value} {M : pj_Mem}  : pj_step 57 (157, L, st, M) = some (158, L, .int 0 :: st, M) := st_iconst q57_157 (by decide +kernel)
theorem x57_157 {L : pj_Loc} {st : List Value} {M : pj_Mem}  {o9 : Option Value × pj_Mem} : pj_Ends 57 (157, L, st, M) o9 = pj_Ends 57 (158, L, .int 0 :: st, M) o9 := pj_xs (s57_157)
theorem q57_158 : pj_row 57 158 = some (.invokevirtual 66, 3, 7, 3, 0) := by decide +kernel
theorem e57_158 {L : pj_Loc} {st : List Value} {N S : Nat} {H : pj_Heap} {o : Option Value × pj_Mem} {M' : pj_Mem} {x0 : Nat} {x1 : Int32} {x2 : Int32} {r : Int32} (h4 : pj_le4 st = true) (hu : pj_isU 5 (H x0) = true) (h1 : pj_Ends 7 (0, [some (.ref x0), some (.int x1), some (.int x2)], [], (N, S, H)) (some (.int r), M')) (h2 : pj_Ends 57 (161, L, .int r :: st, M') o) : pj_Ends 57 (158, L, .int x2 :: .int x1 :: .ref x0 :: st, (N, S, H)) o := ec_v3 q57_158 (Or.inl rfl) h4 hu rfl h1 h2
theorem q57_161 : pj_row 57 161 = some (.if_icmp .ne 58, 3, 219, 0, 0) := by decide +kernel
theorem s57_161 {L : pj_Loc} {st : List Value} {M : pj_Mem} {x y : Int32} : pj_step 57 (161, L, .int y :: .int x :: st, M) = some (if ¬ x = y then 219 else 164, L, st, M) := st_icmp_ne q57_161
theorem x57_161 {L : pj_Loc} {st : List Value} {M : pj_Mem} {x y : Int32} {o9 : Option Value × pj_Mem} : pj_Ends 57 (161, L, .int y :: .int x :: st, M) o9 = pj_Ends 57 (if ¬ x = y then 219 else 164, L, st, M) o9 := pj_xs (s57_161)
theorem q57_164 : pj_row 57 164 = some (.aload_n 0, 1, 0, 0, 0) := by decide +kernel
theorem s57_164 {st : List Value} {M : pj_Mem} {l : pj_Loc} {x : Nat} : pj_step 57 (164, some (.ref x) :: l, st, M) = some (165, some (.ref x) :: l, .ref x :: st, M) := st_aload_n q57_164 rfl
theorem x57_164 {st : List Value} {M : pj_Mem} {l : pj_Loc} {x : Nat} {o9 : Option Value × pj_Mem} : pj_Ends 57 (164, some (.ref x) :: l, st, M) o9 = pj_Ends 57 (165, some (.ref x) :: l, .ref x :: st, M) o9 := pj_xs (s57_164)
theorem q57_165 : pj_row 57 165 = some (.iload 5, 2, 0, 0, 0) := by decide +kernel
theorem s57_165 {st : List Value} {M : pj_Mem} {l : pj_Loc} {a0 a1 a2 a3 a4 : Option Value} {x : Int32} : pj_step 57 (165, a0 :: a1 :: a2 :: a3 :: a4 :: some (.int x) :: l, st, M) = some (167, a0 :: a1 :: a2 :: a3 :: a4 :: some (.int x) :: l, .int x :: st, M) := st_iload q57_165 rfl
theorem x57_165 {st : List Value} {M : pj_Mem} {l : pj_Loc} {a0 a1 a2 a3 a4 : Option Value} {x : Int32} {o9 : Option Value × pj_Mem} : pj_Ends 57 (165, a0 :: a1 :: a2 :: a3 :: a4 :: some (.int x) :: l, st, M) o9 = pj_Ends 57 (167, a0 :: a1 :: a2 :: a3 :: a4 :: some (.int x) :: l, .int x :: st, M) o9 := pj_xs (s57_165)
theorem q57_167 : pj_row 57 167 = some (.iconst 1, 1, 0, 0, 0) := by decide +kernel
theorem s57_167 {L : pj_Loc} {st : List Value} {M : pj_Mem}  : pj_step 57 (167, L, st, M) = some (168, L, .int 1 :: st, M) := st_iconst q57_167 (by decide +kernel)
theorem x57_167 {L : pj_Loc} {st : List Value} {M : pj_Mem}  {o9 : Option Value × pj_Mem} : pj_Ends 57 (167, L, st, M) o9 = pj_Ends 57 (168, L, .int 1 :: st, M) o9 := pj_xs (s57_167)
theorem q57_168 : pj_row 57 168 = some (.invokevirtual 66, 3, 7, 3, 0) := by decide +kernel
theorem e57_168 {L : pj_Loc} {st : List Value} {N S : Nat} {H : pj_Heap} {o : Option Value × pj_Mem} {M' : pj_Mem} {x0 : Nat} {x1 : Int32} {x2 : Int32} {r : Int32} (h4 : pj_le4 st = true) (hu : pj_isU 5 (H x0) = true) (h1 : pj_Ends 7 (0, [some (.ref x0), some (.int x1), some (.int x2)], [], (N, S, H)) (some (.int r), M')) (h2 : pj_Ends 57 (171, L, .int r :: st, M') o) : pj_Ends 57 (168, L, .int x2 :: .int x1 :: .ref x0 :: st, (N, S, H)) o := ec_v3 q57_168 (Or.inl rfl) h4 hu rfl h1 h2
theorem q57_171 : pj_row 57 171 = some (.aload_n 1, 1, 0, 0, 0) := by decide +kernel
theorem s57_171 {st : List Value} {M : pj_Mem} {l : pj_Loc} {a0 : Option Value} {x : Nat} : pj_step 57 (171, a0 :: some (.ref x) :: l, st, M) = some (172, a0 :: some (.ref x) :: l, .ref x :: st, M) := st_aload_n q57_171 rfl
theorem x57_171 {st : List Value} {M : pj_Mem} {l : pj_Loc} {a0 : Option Value} {x : Nat} {o9 : Option Value × pj_Mem} : pj_Ends 57 (171, a0 :: some (.ref x) :: l, st, M) o9 = pj_Ends 57 (172, a0 :: some (.ref x) :: l, .ref x :: st, M) o9 := pj_xs (s57_171)
theorem q57_172 : pj_row 57 172 = some (.iload 5, 2, 0, 0, 0) := by decide +kernel
theorem s57_172 {st : List Value} {M : pj_Mem} {l : pj_Loc} {a0 a1 a2 a3 a4 : Option Value} {x : Int32} : pj_step 57 (172, a0 :: a1 :: a2 :: a3 :: a4 :: some (.int x) :: l, st, M) = some (174, a0 :: a1 :: a2 :: a3 :: a4 :: some (.int x) :: l, .int x :: st, M) := st_iload q57_172 rfl
theorem x57_172 {st : List Value} {M : pj_Mem} {l : pj_Loc} {a0 a1 a2 a3 a4 : Option Value} {x : Int32} {o9 : Option Value × pj_Mem} : pj_Ends 57 (172, a0 :: a1 :: a2 :: a3 :: a4 :: some (.int x) :: l, st, M) o9 = pj_Ends 57 (174, a0 :: a1 :: a2 :: a3 :: a4 :: some (.int x) :: l, .int x :: st, M) o9 := pj_xs (s57_172)
theorem q57_174 : pj_row 57 174 = some (.iconst 1, 1, 0, 0, 0) := by decide +kernel
theorem s57_174 {L : pj_Loc} {st : List Value} {M : pj_Mem}  : pj_step 57 (174, L, st, M) = some (175, L, .int 1 :: st, M) := st_iconst q57_174 (by decide +kernel)
theorem x57_174 {L : pj_Loc} {st : List Value} {M : pj_Mem}  {o9 : Option Value × pj_Mem} : pj_Ends 57 (174, L, st, M) o9 = pj_Ends 57 (175, L, .int 1 :: st, M) o9 := pj_xs (s57_174)
theorem q57_175 : pj_row 57 175 = some (.invokevirtual 66, 3, 7, 3, 0) := by decide +kernel
theorem e57_175 {L : pj_Loc} {st : List Value} {N S : Nat} {H : pj_Heap} {o : Option Value × pj_Mem} {M' : pj_Mem} {x0 : Nat} {x1 : Int32} {x2 : Int32} {r : Int32} (h4 : pj_le4 st = true) (hu : pj_isU 5 (H x0) = true) (h1 : pj_Ends 7 (0, [some (.ref x0), some (.int x1), some (.int x2)], [], (N, S, H)) (some (.int r), M')) (h2 : pj_Ends 57 (178, L, .int r :: st, M') o) : pj_Ends 57 (175, L, .int x2 :: .int x1 :: .ref x0 :: st, (N, S, H)) o := ec_v3 q57_175 (Or.inl rfl) h4 hu rfl h1 h2
theorem q57_178 : pj_row 57 178 = some (.if_icmp .ne 41, 3, 219, 0, 0) := by decide +kernel
theorem s57_178 {L : pj_Loc} {st : List Value} {M : pj_Mem} {x y : Int32} : pj_step 57 (178, L, .int y :: .int x :: st, M) = some (if ¬ x = y then 219 else 181, L, st, M) := st_icmp_ne q57_178
theorem x57_178 {L : pj_Loc} {st : List Value} {M : pj_Mem} {x y : Int32} {o9 : Option Value × pj_Mem} : pj_Ends 57 (178, L, .int y :: .int x :: st, M) o9 = pj_Ends 57 (if ¬ x = y then 219 else 181, L, st, M) o9 := pj_xs (s57_178)
theorem q57_181 : pj_row 57 181 = some (.aload_n 0, 1, 0, 0, 0) := by decide +kernel
theorem s57_181 {st : List Value} {M : pj_Mem} {l : pj_Loc} {x : Nat} : pj_step 57 (181, some (.ref x) :: l, st, M) = some (182, some (.ref x) :: l, .ref x :: st, M) := st_aload_n q57_181 rfl
theorem x57_181 {st : List Value} {M : pj_Mem} {l : pj_Loc} {x : Nat} {o9 : Option Value × pj_Mem} : pj_Ends 57 (181, some (.ref x) :: l, st, M) o9 = pj_Ends 57 (182, some (.ref x) :: l, .ref x :: st, M) o9 := pj_xs (s57_181)
theorem q57_182 : pj_row 57 182 = some (.iload 5, 2, 0, 0, 0) := by decide +kernel
theorem s57_182 {st : List Value} {M : pj_Mem} {l : pj_Loc} {a0 a1 a2 a3 a4 : Option Value} {x : Int32} : pj_step 57 (182, a0 :: a1 :: a2 :: a3 :: a4 :: some (.int x) :: l, st, M) = some (184, a0 :: a1 :: a2 :: a3 :: a4 :: some (.int x) :: l, .int x :: st, M) := st_iload q57_182 rfl
theorem x57_182 {st : List Value} {M : pj_Mem} {l : pj_Loc} {a0 a1 a2 a3 a4 : Option Value} {x : Int32} {o9 : Option Value × pj_Mem} : pj_Ends 57 (182, a0 :: a1 :: a2 :: a3 :: a4 :: some (.int x) :: l, st, M) o9 = pj_Ends 57 (184, a0 :: a1 :: a2 :: a3 :: a4 :: some (.int x) :: l, .int x :: st, M) o9 := pj_xs (s57_182)
theorem q57_184 : pj_row 57 184 = some (.iconst 3, 1, 0, 0, 0) := by decide +kernel
theorem s57_184 {L : pj_Loc} {st : List Value} {M : pj_Mem}  : pj_step 57 (184, L, st, M) = some (185, L, .int 3 :: st, M) := st_iconst q57_184 (by decide +kernel)
theorem x57_184 {L : pj_Loc} {st : List Value} {M : pj_Mem}  {o9 : Option Value × pj_Mem} : pj_Ends 57 (184, L, st, M) o9 = pj_Ends 57 (185, L, .int 3 :: st, M) o9 := pj_xs (s57_184)
theorem q57_185 : pj_row 57 185 = some (.invokevirtual 63, 3, 59, 3, 0) := by decide +kernel
theorem e57_185 {L : pj_Loc} {st : List Value} {N S : Nat} {H : pj_Heap} {o : Option Value × pj_Mem} {M' : pj_Mem} {x0 : Nat} {x1 : Int32} {x2 : Int32} {r : Int32} (h4 : pj_le4 st = true) (hu : pj_isU 5 (H x0) = true) (h1 : pj_Ends 59 (0, [some (.ref x0), some (.int x1), some (.int x2)], [], (N, S, H)) (some (.int r), M')) (h2 : pj_Ends 57 (188, L, .int r :: st, M') o) : pj_Ends 57 (185, L, .int x2 :: .int x1 :: .ref x0 :: st, (N, S, H)) o := ec_v3 q57_185 (Or.inl rfl) h4 hu rfl h1 h2
theorem q57_188 : pj_row 57 188 = some (.aload_n 0, 1, 0, 0, 0) := by decide +kernel
theorem s57_188 {st : List Value} {M : pj_Mem} {l : pj_Loc} {x : Nat} : pj_step 57 (188, some (.ref x) :: l, st, M) = some (189, some (.ref x) :: l, .ref x :: st, M) := st_aload_n q57_188 rfl
theorem x57_188 {st : List Value} {M : pj_Mem} {l : pj_Loc} {x : Nat} {o9 : Option Value × pj_Mem} : pj_Ends 57 (188, some (.ref x) :: l, st, M) o9 = pj_Ends 57 (189, some (.ref x) :: l, .ref x :: st, M) o9 := pj_xs (s57_188)
theorem q57_189 : pj_row 57 189 = some (.bipush 11, 2, 0, 0, 0) := by decide +kernel
theorem s57_189 {L : pj_Loc} {st : List Value} {M : pj_Mem}  : pj_step 57 (189, L, st, M) = some (191, L, .int 11 :: st, M) := st_bipush q57_189 (by decide +kernel)
theorem x57_189 {L : pj_Loc} {st : List Value} {M : pj_Mem}  {o9 : Option Value × pj_Mem} : pj_Ends 57 (189, L, st, M) o9 = pj_Ends 57 (191, L, .int 11 :: st, M) o9 := pj_xs (s57_189)
theorem q57_191 : pj_row 57 191 = some (.invokevirtual 28, 3, 10, 2, 0) := by decide +kernel
theorem e57_191 {L : pj_Loc} {st : List Value} {N S : Nat} {H : pj_Heap} {o : Option Value × pj_Mem} {M' : pj_Mem} {x0 : Nat} {x1 : Int32} {r : Int32} (h4 : pj_le4 st = true) (hu : pj_isU 5 (H x0) = true) (h1 : pj_Ends 10 (0, [some (.ref x0), some (.int x1)], [], (N, S, H)) (some (.int r), M')) (h2 : pj_Ends 57 (194, L, .int r :: st, M') o) : pj_Ends 57 (191, L, .int x1 :: .ref x0 :: st, (N, S, H)) o := ec_v2 q57_191 (Or.inl rfl) h4 hu rfl h1 h2
theorem q57_194 : pj_row 57 194 = some (.if_icmp .lt 21, 3, 215, 0, 0) := by decide +kernel
theorem s57_194 {L : pj_Loc} {st : List Value} {M : pj_Mem} {x y : Int32} : pj_step 57 (194, L, .int y :: .int x :: st, M) = some (if x < y then 215 else 197, L, st, M) := st_icmp_lt q57_194
theorem x57_194 {L : pj_Loc} {st : List Value} {M : pj_Mem} {x y : Int32} {o9 : Option Value × pj_Mem} : pj_Ends 57 (194, L, .int y :: .int x :: st, M) o9 = pj_Ends 57 (if x < y then 215 else 197, L, st, M) o9 := pj_xs (s57_194)
theorem q57_197 : pj_row 57 197 = some (.aload_n 0, 1, 0, 0, 0) := by decide +kernel
theorem s57_197 {st : List Value} {M : pj_Mem} {l : pj_Loc} {x : Nat} : pj_step 57 (197, some (.ref x) :: l, st, M) = some (198, some (.ref x) :: l, .ref x :: st, M) := st_aload_n q57_197 rfl
theorem x57_197 {st : List Value} {M : pj_Mem} {l : pj_Loc} {x : Nat} {o9 : Option Value × pj_Mem} : pj_Ends 57 (197, some (.ref x) :: l, st, M) o9 = pj_Ends 57 (198, some (.ref x) :: l, .ref x :: st, M) o9 := pj_xs (s57_197)
theorem q57_198 : pj_row 57 198 = some (.iload 5, 2, 0, 0, 0) := by decide +kernel
theorem s57_198 {st : List Value} {M : pj_Mem} {l : pj_Loc} {a0 a1 a2 a3 a4 : Option Value} {x : Int32} : pj_step 57 (198, a0 :: a1 :: a2 :: a3 :: a4 :: some (.int x) :: l, st, M) = some (200, a0 :: a1 :: a2 :: a3 :: a4 :: some (.int x) :: l, .int x :: st, M) := st_iload q57_198 rfl
theorem x57_198 {st : List Value} {M : pj_Mem} {l : pj_Loc} {a0 a1 a2 a3 a4 : Option Value} {x : Int32} {o9 : Option Value × pj_Mem} : pj_Ends 57 (198, a0 :: a1 :: a2 :: a3 :: a4 :: some (.int x) :: l, st, M) o9 = pj_Ends 57 (200, a0 :: a1 :: a2 :: a3 :: a4 :: some (.int x) :: l, .int x :: st, M) o9 := pj_xs (s57_198)
theorem q57_200 : pj_row 57 200 = some (.iconst 2, 1, 0, 0, 0) := by decide +kernel
theorem s57_200 {L : pj_Loc} {st : List Value} {M : pj_Mem}  : pj_step 57 (200, L, st, M) = some (201, L, .int 2 :: st, M) := st_iconst q57_200 (by decide +kernel)
theorem x57_200 {L : pj_Loc} {st : List Value} {M : pj_Mem}  {o9 : Option Value × pj_Mem} : pj_Ends 57 (200, L, st, M) o9 = pj_Ends 57 (201, L, .int 2 :: st, M) o9 := pj_xs (s57_200)
theorem q57_201 : pj_row 57 201 = some (.invokevirtual 63, 3, 59, 3, 0) := by decide +kernel
theorem e57_201 {L : pj_Loc} {st : List Value} {N S : Nat} {H : pj_Heap} {o : Option Value × pj_Mem} {M' : pj_Mem} {x0 : Nat} {x1 : Int32} {x2 : Int32} {r : Int32} (h4 : pj_le4 st = true) (hu : pj_isU 5 (H x0) = true) (h1 : pj_Ends 59 (0, [some (.ref x0), some (.int x1), some (.int x2)], [], (N, S, H)) (some (.int r), M')) (h2 : pj_Ends 57 (204, L, .int r :: st, M') o) : pj_Ends 57 (201, L, .int x2 :: .int x1 :: .ref x0 :: st, (N, S, H)) o := ec_v3 q57_201 (Or.inl rfl) h4 hu rfl h1 h2
theorem q57_204 : pj_row 57 204 = some (.ifCond .eq 11, 3, 215, 0, 0) := by decide +kernel
theorem s57_204 {L : pj_Loc} {st : List Value} {M : pj_Mem} {x : Int32} : pj_step 57 (204, L, .int x :: st, M) = some (if x = 0 then 215 else 207, L, st, M) := st_if_eq q57_204
theorem x57_204 {L : pj_Loc} {st : List Value} {M : pj_Mem} {x : Int32} {o9 : Option Value × pj_Mem} : pj_Ends 57 (204, L, .int x :: st, M) o9 = pj_Ends 57 (if x = 0 then 215 else 207, L, st, M) o9 := pj_xs (s57_204)
theorem q57_207 : pj_row 57 207 = some (.aload_n 0, 1, 0, 0, 0) := by decide +kernel
theorem s57_207 {st : List Value} {M : pj_Mem} {l : pj_Loc} {x : Nat} : pj_step 57 (207, some (.ref x) :: l, st, M) = some (208, some (.ref x) :: l, .ref x :: st, M) := st_aload_n q57_207 rfl
theorem x57_207 {st : List Value} {M : pj_Mem} {l : pj_Loc} {x : Nat} {o9 : Option Value × pj_Mem} : pj_Ends 57 (207, some (.ref x) :: l, st, M) o9 = pj_Ends 57 (208, some (.ref x) :: l, .ref x :: st, M) o9 := pj_xs (s57_207)
theorem q57_208 : pj_row 57 208 = some (.iconst 0, 1, 0, 0, 0) := by decide +kernel
theorem s57_208 {L : pj_Loc} {st : List Value} {M : pj_Mem}  : pj_step 57 (208, L, st, M) = some (209, L, .int 0 :: st, M) := st_iconst q57_208 (by decide +kernel)
theorem x57_208 {L : pj_Loc} {st : List Value} {M : pj_Mem}  {o9 : Option Value × pj_Mem} : pj_Ends 57 (208, L, st, M) o9 = pj_Ends 57 (209, L, .int 0 :: st, M) o9 := pj_xs (s57_208)
theorem q57_209 : pj_row 57 209 = some (.invokevirtual 28, 3, 10, 2, 0) := by decide +kernel
theorem e57_209 {L : pj_Loc} {st : List Value} {N S : Nat} {H : pj_Heap} {o : Option Value × pj_Mem} {M' : pj_Mem} {x0 : Nat} {x1 : Int32} {r : Int32} (h4 : pj_le4 st = true) (hu : pj_isU 5 (H x0) = true) (h1 : pj_Ends 10 (0, [some (.ref x0), some (.int x1)], [], (N, S, H)) (some (.int r), M')) (h2 : pj_Ends 57 (212, L, .int r :: st, M') o) : pj_Ends 57 (209, L, .int x1 :: .ref x0 :: st, (N, S, H)) o := ec_v2 q57_209 (Or.inl rfl) h4 hu rfl h1 h2
theorem q57_212 : pj_row 57 212 = some (.ifCond .lt 7, 3, 219, 0, 0) := by decide +kernel
theorem s57_212 {L : pj_Loc} {st : List Value} {M : pj_Mem} {x : Int32} : pj_step 57 (212, L, .int x :: st, M) = some (if x < 0 then 219 else 215, L, st, M) := st_if_lt q57_212
theorem x57_212 {L : pj_Loc} {st : List Value} {M : pj_Mem} {x : Int32} {o9 : Option Value × pj_Mem} : pj_Ends 57 (212, L, .int x :: st, M) o9 = pj_Ends 57 (if x < 0 then 219 else 215, L, st, M) o9 := pj_xs (s57_212)
theorem q57_215 : pj_row 57 215 = some (.iconst 1, 1, 0, 0, 0) := by decide +kernel
theorem s57_215 {L : pj_Loc} {st : List Value} {M : pj_Mem}  : pj_step 57 (215, L, st, M) = some (216, L, .int 1 :: st, M) := st_iconst q57_215 (by decide +kernel)
theorem x57_215 {L : pj_Loc} {st : List Value} {M : pj_Mem}  {o9 : Option Value × pj_Mem} : pj_Ends 57 (215, L, st, M) o9 = pj_Ends 57 (216, L, .int 1 :: st, M) o9 := pj_xs (s57_215)
theorem q57_216 : pj_row 57 216 = some (.goto 4, 3, 220, 0, 0) := by decide +kernel
theorem s57_216 {L : pj_Loc} {st : List Value} {M : pj_Mem}  : pj_step 57 (216, L, st, M) = some (220, L, st, M) := st_goto q57_216
theorem x57_216 {L : pj_Loc} {st : List Value} {M : pj_Mem}  {o9 : Option Value × pj_Mem} : pj_Ends 57 (216, L, st, M) o9 = pj_Ends 57 (220, L, st, M) o9 := pj_xs (s57_216)
theorem q57_219 : pj_row 57 219 = some (.iconst 0, 1, 0, 0, 0) := by decide +kernel
theorem s57_219 {L : pj_Loc} {st : List Value} {M : pj_Mem}  : pj_step 57 (219, L, st, M) = some (220, L, .int 0 :: st, M) := st_iconst q57_219 (by decide +kernel)
theorem x57_219 {L : pj_Loc} {st : List Value} {M : pj_Mem}  {o9 : Option Value × pj_Mem} : pj_Ends 57 (219, L, st, M) o9 = pj_Ends 57 (220, L, .int 0 :: st, M) o9 := pj_xs (s57_219)
theorem q57_220 : pj_row 57 220 = some (.istore 4, 2, 0, 0, 0) := by decide +kernel
theorem s57_220 {st : List Value} {M : pj_Mem} {l : pj_Loc} {a0 a1 a2 a3 a4 : Option Value} {x : Int32} (h : pj_long a3 = false) : pj_step 57 (220, a0 :: a1 :: a2 :: a3 :: a4 :: l, .int x :: st, M) = some (222, a0 :: a1 :: a2 :: a3 :: some (.int x) :: l, st, M) := st_istore q57_220 (pj_st_4 h)
theorem x57_220 {st : List Value} {M : pj_Mem} {l : pj_Loc} {a0 a1 a2 a3 a4 : Option Value} {x : Int32} (h : pj_long a3 = false) {o9 : Option Value × pj_Mem} : pj_Ends 57 (220, a0 :: a1 :: a2 :: a3 :: a4 :: l, .int x :: st, M) o9 = pj_Ends 57 (222, a0 :: a1 :: a2 :: a3 :: some (.int x) :: l, st, M) o9 := pj_xs (s57_220 h)
theorem q57_222 : pj_row 57 222 = some (.iinc 5 1, 3, 0, 0, 0) := by decide +kernel
theorem s57_222 {st : List Value} {M : pj_Mem} {l : pj_Loc} {a0 a1 a2 a3 a4 : Option Value} {x : Int32} (h : pj_long a4 = false) : pj_step 57 (222, a0 :: a1 :: a2 :: a3 :: a4 :: some (.int x) :: l, st, M) = some (225, a0 :: a1 :: a2 :: a3 :: a4 :: some (.int (x + 1)) :: l, st, M) := st_iinc q57_222 rfl (congrArg (fun y => x + y) (show Int32.ofInt 1 = 1 by decide +kernel)) (pj_st_5 h)
theorem x57_222 {st : List Value} {M : pj_Mem} {l : pj_Loc} {a0 a1 a2 a3 a4 : Option Value} {x : Int32} (h : pj_long a4 = false) {o9 : Option Value × pj_Mem} : pj_Ends 57 (222, a0 :: a1 :: a2 :: a3 :: a4 :: some (.int x) :: l, st, M) o9 = pj_Ends 57 (225, a0 :: a1 :: a2 :: a3 :: a4 :: some (.int (x + 1)) :: l, st, M) o9 := pj_xs (s57_222 h)
theorem q57_225 : pj_row 57 225 = some (.goto (-139), 3, 86, 0, 0) := by decide +kernel
theorem s57_225 {L : pj_Loc} {st : List Value} {M : pj_Mem}  : pj_step 57 (225, L, st, M) = some (86, L, st, M) := st_goto q57_225
theorem x57_225 {L : pj_Loc} {st : List Value} {M : pj_Mem}  {o9 : Option Value × pj_Mem} : pj_Ends 57 (225, L, st, M) o9 = pj_Ends 57 (86, L, st, M) o9 := pj_xs (s57_225)
theorem q57_228 : pj_row 57 228 = some (.aload_n 0, 1, 0, 0, 0) := by decide +kernel
theorem s57_228 {st : List Value} {M : pj_Mem} {l : pj_Loc} {x : Nat} : pj_step 57 (228, some (.ref x) :: l, st, M) = some (229, some (.ref x) :: l, .ref x :: st, M) := st_aload_n q57_228 rfl
theorem x57_228 {st : List Value} {M : pj_Mem} {l : pj_Loc} {x : Nat} {o9 : Option Value × pj_Mem} : pj_Ends 57 (228, some (.ref x) :: l, st, M) o9 = pj_Ends 57 (229, some (.ref x) :: l, .ref x :: st, M) o9 := pj_xs (s57_228)
theorem q57_229 : pj_row 57 229 = some (.iconst 5, 1, 0, 0, 0) := by decide +kernel
theorem s57_229 {L : pj_Loc} {st : List Value} {M : pj_Mem}  : pj_step 57 (229, L, st, M) = some (230, L, .int 5 :: st, M) := st_iconst q57_229 (by decide +kernel)
theorem x57_229 {L : pj_Loc} {st : List Value} {M : pj_Mem}  {o9 : Option Value × pj_Mem} : pj_Ends 57 (229, L, st, M) o9 = pj_Ends 57 (230, L, .int 5 :: st, M) o9 := pj_xs (s57_229)
theorem q57_230 : pj_row 57 230 = some (.invokevirtual 28, 3, 10, 2, 0) := by decide +kernel
theorem e57_230 {L : pj_Loc} {st : List Value} {N S : Nat} {H : pj_Heap} {o : Option Value × pj_Mem} {M' : pj_Mem} {x0 : Nat} {x1 : Int32} {r : Int32} (h4 : pj_le4 st = true) (hu : pj_isU 5 (H x0) = true) (h1 : pj_Ends 10 (0, [some (.ref x0), some (.int x1)], [], (N, S, H)) (some (.int r), M')) (h2 : pj_Ends 57 (233, L, .int r :: st, M') o) : pj_Ends 57 (230, L, .int x1 :: .ref x0 :: st, (N, S, H)) o := ec_v2 q57_230 (Or.inl rfl) h4 hu rfl h1 h2
theorem q57_233 : pj_row 57 233 = some (.istore 5, 2, 0, 0, 0) := by decide +kernel
theorem s57_233 {st : List Value} {M : pj_Mem} {l : pj_Loc} {a0 a1 a2 a3 a4 a5 : Option Value} {x : Int32} (h : pj_long a4 = false) : pj_step 57 (233, a0 :: a1 :: a2 :: a3 :: a4 :: a5 :: l, .int x :: st, M) = some (235, a0 :: a1 :: a2 :: a3 :: a4 :: some (.int x) :: l, st, M) := st_istore q57_233 (pj_st_5 h)
theorem x57_233 {st : List Value} {M : pj_Mem} {l : pj_Loc} {a0 a1 a2 a3 a4 a5 : Option Value} {x : Int32} (h : pj_long a4 = false) {o9 : Option Value × pj_Mem} : pj_Ends 57 (233, a0 :: a1 :: a2 :: a3 :: a4 :: a5 :: l, .int x :: st, M) o9 = pj_Ends 57 (235, a0 :: a1 :: a2 :: a3 :: a4 :: some (.int x) :: l, st, M) o9 := pj_xs (s57_233 h)
theorem q57_235 : pj_row 57 235 = some (.iload 4, 2, 0, 0, 0) := by decide +kernel
theorem s57_235 {st : List Value} {M : pj_Mem} {l : pj_Loc} {a0 a1 a2 a3 : Option Value} {x : Int32} : pj_step 57 (235, a0 :: a1 :: a2 :: a3 :: some (.int x) :: l, st, M) = some (237, a0 :: a1 :: a2 :: a3 :: some (.int x) :: l, .int x :: st, M) := st_iload q57_235 rfl
theorem x57_235 {st : List Value} {M : pj_Mem} {l : pj_Loc} {a0 a1 a2 a3 : Option Value} {x : Int32} {o9 : Option Value × pj_Mem} : pj_Ends 57 (235, a0 :: a1 :: a2 :: a3 :: some (.int x) :: l, st, M) o9 = pj_Ends 57 (237, a0 :: a1 :: a2 :: a3 :: some (.int x) :: l, .int x :: st, M) o9 := pj_xs (s57_235)
theorem q57_237 : pj_row 57 237 = some (.ifCond .eq 46, 3, 283, 0, 0) := by decide +kernel
theorem s57_237 {L : pj_Loc} {st : List Value} {M : pj_Mem} {x : Int32} : pj_step 57 (237, L, .int x :: st, M) = some (if x = 0 then 283 else 240, L, st, M) := st_if_eq q57_237
theorem x57_237 {L : pj_Loc} {st : List Value} {M : pj_Mem} {x : Int32} {o9 : Option Value × pj_Mem} : pj_Ends 57 (237, L, .int x :: st, M) o9 = pj_Ends 57 (if x = 0 then 283 else 240, L, st, M) o9 := pj_xs (s57_237)
theorem q57_240 : pj_row 57 240 = some (.iload 5, 2, 0, 0, 0) := by decide +kernel
theorem s57_240 {st : List Value} {M : pj_Mem} {l : pj_Loc} {a0 a1 a2 a3 a4 : Option Value} {x : Int32} : pj_step 57 (240, a0 :: a1 :: a2 :: a3 :: a4 :: some (.int x) :: l, st, M) = some (242, a0 :: a1 :: a2 :: a3 :: a4 :: some (.int x) :: l, .int x :: st, M) := st_iload q57_240 rfl
theorem x57_240 {st : List Value} {M : pj_Mem} {l : pj_Loc} {a0 a1 a2 a3 a4 : Option Value} {x : Int32} {o9 : Option Value × pj_Mem} : pj_Ends 57 (240, a0 :: a1 :: a2 :: a3 :: a4 :: some (.int x) :: l, st, M) o9 = pj_Ends 57 (242, a0 :: a1 :: a2 :: a3 :: a4 :: some (.int x) :: l, .int x :: st, M) o9 := pj_xs (s57_240)
theorem q57_242 : pj_row 57 242 = some (.bipush 12, 2, 0, 0, 0) := by decide +kernel
theorem s57_242 {L : pj_Loc} {st : List Value} {M : pj_Mem}  : pj_step 57 (242, L, st, M) = some (244, L, .int 12 :: st, M) := st_bipush q57_242 (by decide +kernel)
theorem x57_242 {L : pj_Loc} {st : List Value} {M : pj_Mem}  {o9 : Option Value × pj_Mem} : pj_Ends 57 (242, L, st, M) o9 = pj_Ends 57 (244, L, .int 12 :: st, M) o9 := pj_xs (s57_242)
theorem q57_244 : pj_row 57 244 = some (.if_icmp .gt 39, 3, 283, 0, 0) := by decide +kernel
theorem s57_244 {L : pj_Loc} {st : List Value} {M : pj_Mem} {x y : Int32} : pj_step 57 (244, L, .int y :: .int x :: st, M) = some (if y < x then 283 else 247, L, st, M) := st_icmp_gt q57_244
theorem x57_244 {L : pj_Loc} {st : List Value} {M : pj_Mem} {x y : Int32} {o9 : Option Value × pj_Mem} : pj_Ends 57 (244, L, .int y :: .int x :: st, M) o9 = pj_Ends 57 (if y < x then 283 else 247, L, st, M) o9 := pj_xs (s57_244)
theorem q57_247 : pj_row 57 247 = some (.aload_n 0, 1, 0, 0, 0) := by decide +kernel
theorem s57_247 {st : List Value} {M : pj_Mem} {l : pj_Loc} {x : Nat} : pj_step 57 (247, some (.ref x) :: l, st, M) = some (248, some (.ref x) :: l, .ref x :: st, M) := st_aload_n q57_247 rfl
theorem x57_247 {st : List Value} {M : pj_Mem} {l : pj_Loc} {x : Nat} {o9 : Option Value × pj_Mem} : pj_Ends 57 (247, some (.ref x) :: l, st, M) o9 = pj_Ends 57 (248, some (.ref x) :: l, .ref x :: st, M) o9 := pj_xs (s57_247)
theorem q57_248 : pj_row 57 248 = some (.bipush 6, 2, 0, 0, 0) := by decide +kernel
theorem s57_248 {L : pj_Loc} {st : List Value} {M : pj_Mem}  : pj_step 57 (248, L, st, M) = some (250, L, .int 6 :: st, M) := st_bipush q57_248 (by decide +kernel)
theorem x57_248 {L : pj_Loc} {st : List Value} {M : pj_Mem}  {o9 : Option Value × pj_Mem} : pj_Ends 57 (248, L, st, M) o9 = pj_Ends 57 (250, L, .int 6 :: st, M) o9 := pj_xs (s57_248)
theorem q57_250 : pj_row 57 250 = some (.invokevirtual 28, 3, 10, 2, 0) := by decide +kernel
theorem e57_250 {L : pj_Loc} {st : List Value} {N S : Nat} {H : pj_Heap} {o : Option Value × pj_Mem} {M' : pj_Mem} {x0 : Nat} {x1 : Int32} {r : Int32} (h4 : pj_le4 st = true) (hu : pj_isU 5 (H x0) = true) (h1 : pj_Ends 10 (0, [some (.ref x0), some (.int x1)], [], (N, S, H)) (some (.int r), M')) (h2 : pj_Ends 57 (253, L, .int r :: st, M') o) : pj_Ends 57 (250, L, .int x1 :: .ref x0 :: st, (N, S, H)) o := ec_v2 q57_250 (Or.inl rfl) h4 hu rfl h1 h2
theorem q57_253 : pj_row 57 253 = some (.bipush (-6), 2, 0, 0, 0) := by decide +kernel
theorem s57_253 {L : pj_Loc} {st : List Value} {M : pj_Mem}  : pj_step 57 (253, L, st, M) = some (255, L, .int (-6) :: st, M) := st_bipush q57_253 (by decide +kernel)
theorem x57_253 {L : pj_Loc} {st : List Value} {M : pj_Mem}  {o9 : Option Value × pj_Mem} : pj_Ends 57 (253, L, st, M) o9 = pj_Ends 57 (255, L, .int (-6) :: st, M) o9 := pj_xs (s57_253)
theorem q57_255 : pj_row 57 255 = some (.if_icmp .ne 7, 3, 262, 0, 0) := by decide +kernel
theorem s57_255 {L : pj_Loc} {st : List Value} {M : pj_Mem} {x y : Int32} : pj_step 57 (255, L, .int y :: .int x :: st, M) = some (if ¬ x = y then 262 else 258, L, st, M) := st_icmp_ne q57_255
theorem x57_255 {L : pj_Loc} {st : List Value} {M : pj_Mem} {x y : Int32} {o9 : Option Value × pj_Mem} : pj_Ends 57 (255, L, .int y :: .int x :: st, M) o9 = pj_Ends 57 (if ¬ x = y then 262 else 258, L, st, M) o9 := pj_xs (s57_255)
theorem q57_258 : pj_row 57 258 = some (.iconst 1, 1, 0, 0, 0) := by decide +kernel
theorem s57_258 {L : pj_Loc} {st : List Value} {M : pj_Mem}  : pj_step 57 (258, L, st, M) = some (259, L, .int 1 :: st, M) := st_iconst q57_258 (by decide +kernel)
theorem x57_258 {L : pj_Loc} {st : List Value} {M : pj_Mem}  {o9 : Option Value × pj_Mem} : pj_Ends 57 (258, L, st, M) o9 = pj_Ends 57 (259, L, .int 1 :: st, M) o9 := pj_xs (s57_258)
theorem q57_259 : pj_row 57 259 = some (.goto 4, 3, 263, 0, 0) := by decide +kernel
theorem s57_259 {L : pj_Loc} {st : List Value} {M : pj_Mem}  : pj_step 57 (259, L, st, M) = some (263, L, st, M) := st_goto q57_259
theorem x57_259 {L : pj_Loc} {st : List Value} {M : pj_Mem}  {o9 : Option Value × pj_Mem} : pj_Ends 57 (259, L, st, M) o9 = pj_Ends 57 (263, L, st, M) o9 := pj_xs (s57_259)
theorem q57_262 : pj_row 57 262 = some (.iconst 0, 1, 0, 0, 0) := by decide +kernel
theorem s57_262 {L : pj_Loc} {st : List Value} {M : pj_Mem}  : pj_step 57 (262, L, st, M) = some (263, L, .int 0 :: st, M) := st_iconst q57_262 (by decide +kernel)
theorem x57_262 {L : pj_Loc} {st : List Value} {M : pj_Mem}  {o9 : Option Value × pj_Mem} : pj_Ends 57 (262, L, st, M) o9 = pj_Ends 57 (263, L, .int 0 :: st, M) o9 := pj_xs (s57_262)
theorem q57_263 : pj_row 57 263 = some (.aload_n 0, 1, 0, 0, 0) := by decide +kernel
theorem s57_263 {st : List Value} {M : pj_Mem} {l : pj_Loc} {x : Nat} : pj_step 57 (263, some (.ref x) :: l, st, M) = some (264, some (.ref x) :: l, .ref x :: st, M) := st_aload_n q57_263 rfl
theorem x57_263 {st : List Value} {M : pj_Mem} {l : pj_Loc} {x : Nat} {o9 : Option Value × pj_Mem} : pj_Ends 57 (263, some (.ref x) :: l, st, M) o9 = pj_Ends 57 (264, some (.ref x) :: l, .ref x :: st, M) o9 := pj_xs (s57_263)
theorem q57_264 : pj_row 57 264 = some (.iconst 3, 1, 0, 0, 0) := by decide +kernel
theorem s57_264 {L : pj_Loc} {st : List Value} {M : pj_Mem}  : pj_step 57 (264, L, st, M) = some (265, L, .int 3 :: st, M) := st_iconst q57_264 (by decide +kernel)
theorem x57_264 {L : pj_Loc} {st : List Value} {M : pj_Mem}  {o9 : Option Value × pj_Mem} : pj_Ends 57 (264, L, st, M) o9 = pj_Ends 57 (265, L, .int 3 :: st, M) o9 := pj_xs (s57_264)
theorem q57_265 : pj_row 57 265 = some (.invokevirtual 28, 3, 10, 2, 0) := by decide +kernel
theorem e57_265 {L : pj_Loc} {st : List Value} {N S : Nat} {H : pj_Heap} {o : Option Value × pj_Mem} {M' : pj_Mem} {x0 : Nat} {x1 : Int32} {r : Int32} (h4 : pj_le4 st = true) (hu : pj_isU 5 (H x0) = true) (h1 : pj_Ends 10 (0, [some (.ref x0), some (.int x1)], [], (N, S, H)) (some (.int r), M')) (h2 : pj_Ends 57 (268, L, .int r :: st, M') o) : pj_Ends 57 (265, L, .int x1 :: .ref x0 :: st, (N, S, H)) o := ec_v2 q57_265 (Or.inl rfl) h4 hu rfl h1 h2
theorem q57_268 : pj_row 57 268 = some (.ifCond .ne 7, 3, 275, 0, 0) := by decide +kernel
theorem s57_268 {L : pj_Loc} {st : List Value} {M : pj_Mem} {x : Int32} : pj_step 57 (268, L, .int x :: st, M) = some (if ¬ x = 0 then 275 else 271, L, st, M) := st_if_ne q57_268
theorem x57_268 {L : pj_Loc} {st : List Value} {M : pj_Mem} {x : Int32} {o9 : Option Value × pj_Mem} : pj_Ends 57 (268, L, .int x :: st, M) o9 = pj_Ends 57 (if ¬ x = 0 then 275 else 271, L, st, M) o9 := pj_xs (s57_268)
theorem q57_271 : pj_row 57 271 = some (.iconst 1, 1, 0, 0, 0) := by decide +kernel
theorem s57_271 {L : pj_Loc} {st : List Value} {M : pj_Mem}  : pj_step 57 (271, L, st, M) = some (272, L, .int 1 :: st, M) := st_iconst q57_271 (by decide +kernel)
theorem x57_271 {L : pj_Loc} {st : List Value} {M : pj_Mem}  {o9 : Option Value × pj_Mem} : pj_Ends 57 (271, L, st, M) o9 = pj_Ends 57 (272, L, .int 1 :: st, M) o9 := pj_xs (s57_271)
theorem q57_272 : pj_row 57 272 = some (.goto 4, 3, 276, 0, 0) := by decide +kernel
theorem s57_272 {L : pj_Loc} {st : List Value} {M : pj_Mem}  : pj_step 57 (272, L, st, M) = some (276, L, st, M) := st_goto q57_272
theorem x57_272 {L : pj_Loc} {st : List Value} {M : pj_Mem}  {o9 : Option Value × pj_Mem} : pj_Ends 57 (272, L, st, M) o9 = pj_Ends 57 (276, L, st, M) o9 := pj_xs (s57_272)
theorem q57_275 : pj_row 57 275 = some (.iconst 0, 1, 0, 0, 0) := by decide +kernel
theorem s57_275 {L : pj_Loc} {st : List Value} {M : pj_Mem}  : pj_step 57 (275, L, st, M) = some (276, L, .int 0 :: st, M) := st_iconst q57_275 (by decide +kernel)
theorem x57_275 {L : pj_Loc} {st : List Value} {M : pj_Mem}  {o9 : Option Value × pj_Mem} : pj_Ends 57 (275, L, st, M) o9 = pj_Ends 57 (276, L, .int 0 :: st, M) o9 := pj_xs (s57_275)
theorem q57_276 : pj_row 57 276 = some (.if_icmp .ne 7, 3, 283, 0, 0) := by decide +kernel
theorem s57_276 {L : pj_Loc} {st : List Value} {M : pj_Mem} {x y : Int32} : pj_step 57 (276, L, .int y :: .int x :: st, M) = some (if ¬ x = y then 283 else 279, L, st, M) := st_icmp_ne q57_276
theorem x57_276 {L : pj_Loc} {st : List Value} {M : pj_Mem} {x y : Int32} {o9 : Option Value × pj_Mem} : pj_Ends 57 (276, L, .int y :: .int x :: st, M) o9 = pj_Ends 57 (if ¬ x = y then 283 else 279, L, st, M) o9 := pj_xs (s57_276)
theorem q57_279 : pj_row 57 279 = some (.iconst 1, 1, 0, 0, 0) := by decide +kernel
theorem s57_279 {L : pj_Loc} {st : List Value} {M : pj_Mem}  : pj_step 57 (279, L, st, M) = some (280, L, .int 1 :: st, M) := st_iconst q57_279 (by decide +kernel)
theorem x57_279 {L : pj_Loc} {st : List Value} {M : pj_Mem}  {o9 : Option Value × pj_Mem} : pj_Ends 57 (279, L, st, M) o9 = pj_Ends 57 (280, L, .int 1 :: st, M) o9 := pj_xs (s57_279)
theorem q57_280 : pj_row 57 280 = some (.goto 4, 3, 284, 0, 0) := by decide +kernel
theorem s57_280 {L : pj_Loc} {st : List Value} {M : pj_Mem}  : pj_step 57 (280, L, st, M) = some (284, L, st, M) := st_goto q57_280
theorem x57_280 {L : pj_Loc} {st : List Value} {M : pj_Mem}  {o9 : Option Value × pj_Mem} : pj_Ends 57 (280, L, st, M) o9 = pj_Ends 57 (284, L, st, M) o9 := pj_xs (s57_280)
theorem q57_283 : pj_row 57 283 = some (.iconst 0, 1, 0, 0, 0) := by decide +kernel
theorem s57_283 {L : pj_Loc} {st : List Value} {M : pj_Mem}  : pj_step 57 (283, L, st, M) = some (284, L, .int 0 :: st, M) := st_iconst q57_283 (by decide +kernel)
theorem x57_283 {L : pj_Loc} {st : List Value} {M : pj_Mem}  {o9 : Option Value × pj_Mem} : pj_Ends 57 (283, L, st, M) o9 = pj_Ends 57 (284, L, .int 0 :: st, M) o9 := pj_xs (s57_283)
theorem q57_284 : pj_row 57 284 = some (.istore 4, 2, 0, 0, 0) := by decide +kernel
theorem s57_284 {st : List Value} {M : pj_Mem} {l : pj_Loc} {a0 a1 a2 a3 a4 : Option Value} {x : Int32} (h : pj_long a3 = false) : pj_step 57 (284, a0 :: a1 :: a2 :: a3 :: a4 :: l, .int x :: st, M) = some (286, a0 :: a1 :: a2 :: a3 :: some (.int x) :: l, st, M) := st_istore q57_284 (pj_st_4 h)
theorem x57_284 {st : List Value} {M : pj_Mem} {l : pj_Loc} {a0 a1 a2 a3 a4 : Option Value} {x : Int32} (h : pj_long a3 = false) {o9 : Option Value × pj_Mem} : pj_Ends 57 (284, a0 :: a1 :: a2 :: a3 :: a4 :: l, .int x :: st, M) o9 = pj_Ends 57 (286, a0 :: a1 :: a2 :: a3 :: some (.int x) :: l, st, M) o9 := pj_xs (s57_284 h)
theorem q57_286 : pj_row 57 286 = some (.iload 5, 2, 0, 0, 0) := by decide +kernel
theorem s57_286 {st : List Value} {M : pj_Mem} {l : pj_Loc} {a0 a1 a2 a3 a4 : Option Value} {x : Int32} : pj_step 57 (286, a0 :: a1 :: a2 :: a3 :: a4 :: some (.int x) :: l, st, M) = some (288, a0 :: a1 :: a2 :: a3 :: a4 :: some (.int x) :: l, .int x :: st, M) := st_iload q57_286 rfl
theorem x57_286 {st : List Value} {M : pj_Mem} {l : pj_Loc} {a0 a1 a2 a3 a4 : Option Value} {x : Int32} {o9 : Option Value × pj_Mem} : pj_Ends 57 (286, a0 :: a1 :: a2 :: a3 :: a4 :: some (.int x) :: l, st, M) o9 = pj_Ends 57 (288, a0 :: a1 :: a2 :: a3 :: a4 :: some (.int x) :: l, .int x :: st, M) o9 := pj_xs (s57_286)
theorem q57_288 : pj_row 57 288 = some (.ifCond .le 206, 3, 494, 0, 0) := by decide +kernel
theorem s57_288 {L : pj_Loc} {st : List Value} {M : pj_Mem} {x : Int32} : pj_step 57 (288, L, .int x :: st, M) = some (if x ≤ 0 then 494 else 291, L, st, M) := st_if_le q57_288
theorem x57_288 {L : pj_Loc} {st : List Value} {M : pj_Mem} {x : Int32} {o9 : Option Value × pj_Mem} : pj_Ends 57 (288, L, .int x :: st, M) o9 = pj_Ends 57 (if x ≤ 0 then 494 else 291, L, st, M) o9 := pj_xs (s57_288)
theorem q57_291 : pj_row 57 291 = some (.iload_n 3, 1, 0, 0, 0) := by decide +kernel
theorem s57_291 {st : List Value} {M : pj_Mem} {l : pj_Loc} {a0 a1 a2 : Option Value} {x : Int32} : pj_step 57 (291, a0 :: a1 :: a2 :: some (.int x) :: l, st, M) = some (292, a0 :: a1 :: a2 :: some (.int x) :: l, .int x :: st, M) := st_iload_n q57_291 rfl
theorem x57_291 {st : List Value} {M : pj_Mem} {l : pj_Loc} {a0 a1 a2 : Option Value} {x : Int32} {o9 : Option Value × pj_Mem} : pj_Ends 57 (291, a0 :: a1 :: a2 :: some (.int x) :: l, st, M) o9 = pj_Ends 57 (292, a0 :: a1 :: a2 :: some (.int x) :: l, .int x :: st, M) o9 := pj_xs (s57_291)
theorem q57_292 : pj_row 57 292 = some (.iload 5, 2, 0, 0, 0) := by decide +kernel
theorem s57_292 {st : List Value} {M : pj_Mem} {l : pj_Loc} {a0 a1 a2 a3 a4 : Option Value} {x : Int32} : pj_step 57 (292, a0 :: a1 :: a2 :: a3 :: a4 :: some (.int x) :: l, st, M) = some (294, a0 :: a1 :: a2 :: a3 :: a4 :: some (.int x) :: l, .int x :: st, M) := st_iload q57_292 rfl
theorem x57_292 {st : List Value} {M : pj_Mem} {l : pj_Loc} {a0 a1 a2 a3 a4 : Option Value} {x : Int32} {o9 : Option Value × pj_Mem} : pj_Ends 57 (292, a0 :: a1 :: a2 :: a3 :: a4 :: some (.int x) :: l, st, M) o9 = pj_Ends 57 (294, a0 :: a1 :: a2 :: a3 :: a4 :: some (.int x) :: l, .int x :: st, M) o9 := pj_xs (s57_292)
theorem q57_294 : pj_row 57 294 = some (.invokestatic 25, 3, 40, 2, 0) := by decide +kernel
theorem e57_294 {L : pj_Loc} {st : List Value} {N S : Nat} {H : pj_Heap} {o : Option Value × pj_Mem} {M' : pj_Mem} {x0 : Int32} {x1 : Int32} {r : Int32} (h4 : pj_le4 st = true) (h1 : pj_Ends 40 (0, [some (.int x0), some (.int x1)], [], (N, S, H)) (some (.int r), M')) (h2 : pj_Ends 57 (297, L, .int r :: st, M') o) : pj_Ends 57 (294, L, .int x1 :: .int x0 :: st, (N, S, H)) o := ec_s2 q57_294 (Or.inl rfl) h4 rfl h1 h2
theorem q57_297 : pj_row 57 297 = some (.istore 6, 2, 0, 0, 0) := by decide +kernel
theorem s57_297 {st : List Value} {M : pj_Mem} {l : pj_Loc} {a0 a1 a2 a3 a4 a5 a6 : Option Value} {x : Int32} (h : pj_long a5 = false) : pj_step 57 (297, a0 :: a1 :: a2 :: a3 :: a4 :: a5 :: a6 :: l, .int x :: st, M) = some (299, a0 :: a1 :: a2 :: a3 :: a4 :: a5 :: some (.int x) :: l, st, M) := st_istore q57_297 (pj_st_6 h)
theorem x57_297 {st : List Value} {M : pj_Mem} {l : pj_Loc} {a0 a1 a2 a3 a4 a5 a6 : Option Value} {x : Int32} (h : pj_long a5 = false) {o9 : Option Value × pj_Mem} : pj_Ends 57 (297, a0 :: a1 :: a2 :: a3 :: a4 :: a5 :: a6 :: l, .int x :: st, M) o9 = pj_Ends 57 (299, a0 :: a1 :: a2 :: a3 :: a4 :: a5 :: some (.int x) :: l, st, M) o9 := pj_xs (s57_297 h)
theorem q57_299 : pj_row 57 299 = some (.iload 4, 2, 0, 0, 0) := by decide +kernel
theorem s57_299 {st : List Value} {M : pj_Mem} {l : pj_Loc} {a0 a1 a2 a3 : Option Value} {x : Int32} : pj_step 57 (299, a0 :: a1 :: a2 :: a3 :: some (.int x) :: l, st, M) = some (301, a0 :: a1 :: a2 :: a3 :: some (.int x) :: l, .int x :: st, M) := st_iload q57_299 rfl
theorem x57_299 {st : List Value} {M : pj_Mem} {l : pj_Loc} {a0 a1 a2 a3 : Option Value} {x : Int32} {o9 : Option Value × pj_Mem} : pj_Ends 57 (299, a0 :: a1 :: a2 :: a3 :: some (.int x) :: l, st, M) o9 = pj_Ends 57 (301, a0 :: a1 :: a2 :: a3 :: some (.int x) :: l, .int x :: st, M) o9 := pj_xs (s57_299)
theorem q57_301 : pj_row 57 301 = some (.ifCond .eq 127, 3, 428, 0, 0) := by decide +kernel
theorem s57_301 {L : pj_Loc} {st : List Value} {M : pj_Mem} {x : Int32} : pj_step 57 (301, L, .int x :: st, M) = some (if x = 0 then 428 else 304, L, st, M) := st_if_eq q57_301
theorem x57_301 {L : pj_Loc} {st : List Value} {M : pj_Mem} {x : Int32} {o9 : Option Value × pj_Mem} : pj_Ends 57 (301, L, .int x :: st, M) o9 = pj_Ends 57 (if x = 0 then 428 else 304, L, st, M) o9 := pj_xs (s57_301)
theorem q57_304 : pj_row 57 304 = some (.aload_n 0, 1, 0, 0, 0) := by decide +kernel
theorem s57_304 {st : List Value} {M : pj_Mem} {l : pj_Loc} {x : Nat} : pj_step 57 (304, some (.ref x) :: l, st, M) = some (305, some (.ref x) :: l, .ref x :: st, M) := st_aload_n q57_304 rfl
theorem x57_304 {st : List Value} {M : pj_Mem} {l : pj_Loc} {x : Nat} {o9 : Option Value × pj_Mem} : pj_Ends 57 (304, some (.ref x) :: l, st, M) o9 = pj_Ends 57 (305, some (.ref x) :: l, .ref x :: st, M) o9 := pj_xs (s57_304)
theorem q57_305 : pj_row 57 305 = some (.iload 6, 2, 0, 0, 0) := by decide +kernel
theorem s57_305 {st : List Value} {M : pj_Mem} {l : pj_Loc} {a0 a1 a2 a3 a4 a5 : Option Value} {x : Int32} : pj_step 57 (305, a0 :: a1 :: a2 :: a3 :: a4 :: a5 :: some (.int x) :: l, st, M) = some (307, a0 :: a1 :: a2 :: a3 :: a4 :: a5 :: some (.int x) :: l, .int x :: st, M) := st_iload q57_305 rfl
theorem x57_305 {st : List Value} {M : pj_Mem} {l : pj_Loc} {a0 a1 a2 a3 a4 a5 : Option Value} {x : Int32} {o9 : Option Value × pj_Mem} : pj_Ends 57 (305, a0 :: a1 :: a2 :: a3 :: a4 :: a5 :: some (.int x) :: l, st, M) o9 = pj_Ends 57 (307, a0 :: a1 :: a2 :: a3 :: a4 :: a5 :: some (.int x) :: l, .int x :: st, M) o9 := pj_xs (s57_305)
theorem q57_307 : pj_row 57 307 = some (.iconst 0, 1, 0, 0, 0) := by decide +kernel
theorem s57_307 {L : pj_Loc} {st : List Value} {M : pj_Mem}  : pj_step 57 (307, L, st, M) = some (308, L, .int 0 :: st, M) := st_iconst q57_307 (by decide +kernel)
theorem x57_307 {L : pj_Loc} {st : List Value} {M : pj_Mem}  {o9 : Option Value × pj_Mem} : pj_Ends 57 (307, L, st, M) o9 = pj_Ends 57 (308, L, .int 0 :: st, M) o9 := pj_xs (s57_307)
theorem q57_308 : pj_row 57 308 = some (.invokevirtual 69, 3, 60, 3, 0) := by decide +kernel
theorem e57_308 {L : pj_Loc} {st : List Value} {N S : Nat} {H : pj_Heap} {o : Option Value × pj_Mem} {M' : pj_Mem} {x0 : Nat} {x1 : Int32} {x2 : Int32} {r : Int32} (h4 : pj_le4 st = true) (hu : pj_isU 5 (H x0) = true) (h1 : pj_Ends 60 (0, [some (.ref x0), some (.int x1), some (.int x2)], [], (N, S, H)) (some (.int r), M')) (h2 : pj_Ends 57 (311, L, .int r :: st, M') o) : pj_Ends 57 (308, L, .int x2 :: .int x1 :: .ref x0 :: st, (N, S, H)) o := ec_v3 q57_308 (Or.inl rfl) h4 hu rfl h1 h2
theorem q57_311 : pj_row 57 311 = some (.aload_n 0, 1, 0, 0, 0) := by decide +kernel
theorem s57_311 {st : List Value} {M : pj_Mem} {l : pj_Loc} {x : Nat} : pj_step 57 (311, some (.ref x) :: l, st, M) = some (312, some (.ref x) :: l, .ref x :: st, M) := st_aload_n q57_311 rfl
theorem x57_311 {st : List Value} {M : pj_Mem} {l : pj_Loc} {x : Nat} {o9 : Option Value × pj_Mem} : pj_Ends 57 (311, some (.ref x) :: l, st, M) o9 = pj_Ends 57 (312, some (.ref x) :: l, .ref x :: st, M) o9 := pj_xs (s57_311)
theorem q57_312 : pj_row 57 312 = some (.iconst 0, 1, 0, 0, 0) := by decide +kernel
theorem s57_312 {L : pj_Loc} {st : List Value} {M : pj_Mem}  : pj_step 57 (312, L, st, M) = some (313, L, .int 0 :: st, M) := st_iconst q57_312 (by decide +kernel)
theorem x57_312 {L : pj_Loc} {st : List Value} {M : pj_Mem}  {o9 : Option Value × pj_Mem} : pj_Ends 57 (312, L, st, M) o9 = pj_Ends 57 (313, L, .int 0 :: st, M) o9 := pj_xs (s57_312)
theorem q57_313 : pj_row 57 313 = some (.iconst 0, 1, 0, 0, 0) := by decide +kernel
theorem s57_313 {L : pj_Loc} {st : List Value} {M : pj_Mem}  : pj_step 57 (313, L, st, M) = some (314, L, .int 0 :: st, M) := st_iconst q57_313 (by decide +kernel)
theorem x57_313 {L : pj_Loc} {st : List Value} {M : pj_Mem}  {o9 : Option Value × pj_Mem} : pj_Ends 57 (313, L, st, M) o9 = pj_Ends 57 (314, L, .int 0 :: st, M) o9 := pj_xs (s57_313)
theorem q57_314 : pj_row 57 314 = some (.invokevirtual 69, 3, 60, 3, 0) := by decide +kernel
theorem e57_314 {L : pj_Loc} {st : List Value} {N S : Nat} {H : pj_Heap} {o : Option Value × pj_Mem} {M' : pj_Mem} {x0 : Nat} {x1 : Int32} {x2 : Int32} {r : Int32} (h4 : pj_le4 st = true) (hu : pj_isU 5 (H x0) = true) (h1 : pj_Ends 60 (0, [some (.ref x0), some (.int x1), some (.int x2)], [], (N, S, H)) (some (.int r), M')) (h2 : pj_Ends 57 (317, L, .int r :: st, M') o) : pj_Ends 57 (314, L, .int x2 :: .int x1 :: .ref x0 :: st, (N, S, H)) o := ec_v3 q57_314 (Or.inl rfl) h4 hu rfl h1 h2
theorem q57_317 : pj_row 57 317 = some (.iload 6, 2, 0, 0, 0) := by decide +kernel
theorem s57_317 {st : List Value} {M : pj_Mem} {l : pj_Loc} {a0 a1 a2 a3 a4 a5 : Option Value} {x : Int32} : pj_step 57 (317, a0 :: a1 :: a2 :: a3 :: a4 :: a5 :: some (.int x) :: l, st, M) = some (319, a0 :: a1 :: a2 :: a3 :: a4 :: a5 :: some (.int x) :: l, .int x :: st, M) := st_iload q57_317 rfl
theorem x57_317 {st : List Value} {M : pj_Mem} {l : pj_Loc} {a0 a1 a2 a3 a4 a5 : Option Value} {x : Int32} {o9 : Option Value × pj_Mem} : pj_Ends 57 (317, a0 :: a1 :: a2 :: a3 :: a4 :: a5 :: some (.int x) :: l, st, M) o9 = pj_Ends 57 (319, a0 :: a1 :: a2 :: a3 :: a4 :: a5 :: some (.int x) :: l, .int x :: st, M) o9 := pj_xs (s57_317)
theorem q57_319 : pj_row 57 319 = some (.iadd, 1, 0, 0, 0) := by decide +kernel
theorem s57_319 {L : pj_Loc} {st : List Value} {M : pj_Mem} {x y : Int32} : pj_step 57 (319, L, .int y :: .int x :: st, M) = some (320, L, .int (x + y) :: st, M) := st_iadd q57_319
theorem x57_319 {L : pj_Loc} {st : List Value} {M : pj_Mem} {x y : Int32} {o9 : Option Value × pj_Mem} : pj_Ends 57 (319, L, .int y :: .int x :: st, M) o9 = pj_Ends 57 (320, L, .int (x + y) :: st, M) o9 := pj_xs (s57_319)
theorem q57_320 : pj_row 57 320 = some (.if_icmp .ne 108, 3, 428, 0, 0) := by decide +kernel
theorem s57_320 {L : pj_Loc} {st : List Value} {M : pj_Mem} {x y : Int32} : pj_step 57 (320, L, .int y :: .int x :: st, M) = some (if ¬ x = y then 428 else 323, L, st, M) := st_icmp_ne q57_320
theorem x57_320 {L : pj_Loc} {st : List Value} {M : pj_Mem} {x y : Int32} {o9 : Option Value × pj_Mem} : pj_Ends 57 (320, L, .int y :: .int x :: st, M) o9 = pj_Ends 57 (if ¬ x = y then 428 else 323, L, st, M) o9 := pj_xs (s57_320)
theorem q57_323 : pj_row 57 323 = some (.iload_n 2, 1, 0, 0, 0) := by decide +kernel
theorem s57_323 {st : List Value} {M : pj_Mem} {l : pj_Loc} {a0 a1 : Option Value} {x : Int32} : pj_step 57 (323, a0 :: a1 :: some (.int x) :: l, st, M) = some (324, a0 :: a1 :: some (.int x) :: l, .int x :: st, M) := st_iload_n q57_323 rfl
theorem x57_323 {st : List Value} {M : pj_Mem} {l : pj_Loc} {a0 a1 : Option Value} {x : Int32} {o9 : Option Value × pj_Mem} : pj_Ends 57 (323, a0 :: a1 :: some (.int x) :: l, st, M) o9 = pj_Ends 57 (324, a0 :: a1 :: some (.int x) :: l, .int x :: st, M) o9 := pj_xs (s57_323)
theorem q57_324 : pj_row 57 324 = some (.aload_n 0, 1, 0, 0, 0) := by decide +kernel
theorem s57_324 {st : List Value} {M : pj_Mem} {l : pj_Loc} {x : Nat} : pj_step 57 (324, some (.ref x) :: l, st, M) = some (325, some (.ref x) :: l, .ref x :: st, M) := st_aload_n q57_324 rfl
theorem x57_324 {st : List Value} {M : pj_Mem} {l : pj_Loc} {x : Nat} {o9 : Option Value × pj_Mem} : pj_Ends 57 (324, some (.ref x) :: l, st, M) o9 = pj_Ends 57 (325, some (.ref x) :: l, .ref x :: st, M) o9 := pj_xs (s57_324)
theorem q57_325 : pj_row 57 325 = some (.iload 6, 2, 0, 0, 0) := by decide +kernel
theorem s57_325 {st : List Value} {M : pj_Mem} {l : pj_Loc} {a0 a1 a2 a3 a4 a5 : Option Value} {x : Int32} : pj_step 57 (325, a0 :: a1 :: a2 :: a3 :: a4 :: a5 :: some (.int x) :: l, st, M) = some (327, a0 :: a1 :: a2 :: a3 :: a4 :: a5 :: some (.int x) :: l, .int x :: st, M) := st_iload q57_325 rfl
theorem x57_325 {st : List Value} {M : pj_Mem} {l : pj_Loc} {a0 a1 a2 a3 a4 a5 : Option Value} {x : Int32} {o9 : Option Value × pj_Mem} : pj_Ends 57 (325, a0 :: a1 :: a2 :: a3 :: a4 :: a5 :: some (.int x) :: l, st, M) o9 = pj_Ends 57 (327, a0 :: a1 :: a2 :: a3 :: a4 :: a5 :: some (.int x) :: l, .int x :: st, M) o9 := pj_xs (s57_325)
theorem q57_327 : pj_row 57 327 = some (.bipush 6, 2, 0, 0, 0) := by decide +kernel
theorem s57_327 {L : pj_Loc} {st : List Value} {M : pj_Mem}  : pj_step 57 (327, L, st, M) = some (329, L, .int 6 :: st, M) := st_bipush q57_327 (by decide +kernel)
theorem x57_327 {L : pj_Loc} {st : List Value} {M : pj_Mem}  {o9 : Option Value × pj_Mem} : pj_Ends 57 (327, L, st, M) o9 = pj_Ends 57 (329, L, .int 6 :: st, M) o9 := pj_xs (s57_327)
theorem q57_329 : pj_row 57 329 = some (.invokevirtual 69, 3, 60, 3, 0) := by decide +kernel
theorem e57_329 {L : pj_Loc} {st : List Value} {N S : Nat} {H : pj_Heap} {o : Option Value × pj_Mem} {M' : pj_Mem} {x0 : Nat} {x1 : Int32} {x2 : Int32} {r : Int32} (h4 : pj_le4 st = true) (hu : pj_isU 5 (H x0) = true) (h1 : pj_Ends 60 (0, [some (.ref x0), some (.int x1), some (.int x2)], [], (N, S, H)) (some (.int r), M')) (h2 : pj_Ends 57 (332, L, .int r :: st, M') o) : pj_Ends 57 (329, L, .int x2 :: .int x1 :: .ref x0 :: st, (N, S, H)) o := ec_v3 q57_329 (Or.inl rfl) h4 hu rfl h1 h2
theorem q57_332 : pj_row 57 332 = some (.invokestatic 62, 3, 58, 2, 0) := by decide +kernel
theorem e57_332 {L : pj_Loc} {st : List Value} {N S : Nat} {H : pj_Heap} {o : Option Value × pj_Mem} {M' : pj_Mem} {x0 : Int32} {x1 : Int32} {r : Int32} (h4 : pj_le4 st = true) (h1 : pj_Ends 58 (0, [some (.int x0), some (.int x1), none, none], [], (N, S, H)) (some (.int r), M')) (h2 : pj_Ends 57 (335, L, .int r :: st, M') o) : pj_Ends 57 (332, L, .int x1 :: .int x0 :: st, (N, S, H)) o := ec_s2 q57_332 (Or.inl rfl) h4 rfl h1 h2
theorem q57_335 : pj_row 57 335 = some (.aload_n 1, 1, 0, 0, 0) := by decide +kernel
theorem s57_335 {st : List Value} {M : pj_Mem} {l : pj_Loc} {a0 : Option Value} {x : Nat} : pj_step 57 (335, a0 :: some (.ref x) :: l, st, M) = some (336, a0 :: some (.ref x) :: l, .ref x :: st, M) := st_aload_n q57_335 rfl
theorem x57_335 {st : List Value} {M : pj_Mem} {l : pj_Loc} {a0 : Option Value} {x : Nat} {o9 : Option Value × pj_Mem} : pj_Ends 57 (335, a0 :: some (.ref x) :: l, st, M) o9 = pj_Ends 57 (336, a0 :: some (.ref x) :: l, .ref x :: st, M) o9 := pj_xs (s57_335)
theorem q57_336 : pj_row 57 336 = some (.iload 6, 2, 0, 0, 0) := by decide +kernel
theorem s57_336 {st : List Value} {M : pj_Mem} {l : pj_Loc} {a0 a1 a2 a3 a4 a5 : Option Value} {x : Int32} : pj_step 57 (336, a0 :: a1 :: a2 :: a3 :: a4 :: a5 :: some (.int x) :: l, st, M) = some (338, a0 :: a1 :: a2 :: a3 :: a4 :: a5 :: some (.int x) :: l, .int x :: st, M) := st_iload q57_336 rfl
theorem x57_336 {st : List Value} {M : pj_Mem} {l : pj_Loc} {a0 a1 a2 a3 a4 a5 : Option Value} {x : Int32} {o9 : Option Value × pj_Mem} : pj_Ends 57 (336, a0 :: a1 :: a2 :: a3 :: a4 :: a5 :: some (.int x) :: l, st, M) o9 = pj_Ends 57 (338, a0 :: a1 :: a2 :: a3 :: a4 :: a5 :: some (.int x) :: l, .int x :: st, M) o9 := pj_xs (s57_336)
theorem q57_338 : pj_row 57 338 = some (.bipush 6, 2, 0, 0, 0) := by decide +kernel
theorem s57_338 {L : pj_Loc} {st : List Value} {M : pj_Mem}  : pj_step 57 (338, L, st, M) = some (340, L, .int 6 :: st, M) := st_bipush q57_338 (by decide +kernel)
theorem x57_338 {L : pj_Loc} {st : List Value} {M : pj_Mem}  {o9 : Option Value × pj_Mem} : pj_Ends 57 (338, L, st, M) o9 = pj_Ends 57 (340, L, .int 6 :: st, M) o9 := pj_xs (s57_338)
theorem q57_340 : pj_row 57 340 = some (.invokevirtual 69, 3, 60, 3, 0) := by decide +kernel
theorem e57_340 {L : pj_Loc} {st : List Value} {N S : Nat} {H : pj_Heap} {o : Option Value × pj_Mem} {M' : pj_Mem} {x0 : Nat} {x1 : Int32} {x2 : Int32} {r : Int32} (h4 : pj_le4 st = true) (hu : pj_isU 5 (H x0) = true) (h1 : pj_Ends 60 (0, [some (.ref x0), some (.int x1), some (.int x2)], [], (N, S, H)) (some (.int r), M')) (h2 : pj_Ends 57 (343, L, .int r :: st, M') o) : pj_Ends 57 (340, L, .int x2 :: .int x1 :: .ref x0 :: st, (N, S, H)) o := ec_v3 q57_340 (Or.inl rfl) h4 hu rfl h1 h2
theorem q57_343 : pj_row 57 343 = some (.if_icmp .ne 85, 3, 428, 0, 0) := by decide +kernel
theorem s57_343 {L : pj_Loc} {st : List Value} {M : pj_Mem} {x y : Int32} : pj_step 57 (343, L, .int y :: .int x :: st, M) = some (if ¬ x = y then 428 else 346, L, st, M) := st_icmp_ne q57_343
theorem x57_343 {L : pj_Loc} {st : List Value} {M : pj_Mem} {x y : Int32} {o9 : Option Value × pj_Mem} : pj_Ends 57 (343, L, .int y :: .int x :: st, M) o9 = pj_Ends 57 (if ¬ x = y then 428 else 346, L, st, M) o9 := pj_xs (s57_343)
theorem q57_346 : pj_row 57 346 = some (.iload_n 2, 1, 0, 0, 0) := by decide +kernel
theorem s57_346 {st : List Value} {M : pj_Mem} {l : pj_Loc} {a0 a1 : Option Value} {x : Int32} : pj_step 57 (346, a0 :: a1 :: some (.int x) :: l, st, M) = some (347, a0 :: a1 :: some (.int x) :: l, .int x :: st, M) := st_iload_n q57_346 rfl
theorem x57_346 {st : List Value} {M : pj_Mem} {l : pj_Loc} {a0 a1 : Option Value} {x : Int32} {o9 : Option Value × pj_Mem} : pj_Ends 57 (346, a0 :: a1 :: some (.int x) :: l, st, M) o9 = pj_Ends 57 (347, a0 :: a1 :: some (.int x) :: l, .int x :: st, M) o9 := pj_xs (s57_346)
theorem q57_347 : pj_row 57 347 = some (.aload_n 0, 1, 0, 0, 0) := by decide +kernel
theorem s57_347 {st : List Value} {M : pj_Mem} {l : pj_Loc} {x : Nat} : pj_step 57 (347, some (.ref x) :: l, st, M) = some (348, some (.ref x) :: l, .ref x :: st, M) := st_aload_n q57_347 rfl
theorem x57_347 {st : List Value} {M : pj_Mem} {l : pj_Loc} {x : Nat} {o9 : Option Value × pj_Mem} : pj_Ends 57 (347, some (.ref x) :: l, st, M) o9 = pj_Ends 57 (348, some (.ref x) :: l, .ref x :: st, M) o9 := pj_xs (s57_347)
theorem q57_348 : pj_row 57 348 = some (.iload 6, 2, 0, 0, 0) := by decide +kernel
theorem s57_348 {st : List Value} {M : pj_Mem} {l : pj_Loc} {a0 a1 a2 a3 a4 a5 : Option Value} {x : Int32} : pj_step 57 (348, a0 :: a1 :: a2 :: a3 :: a4 :: a5 :: some (.int x) :: l, st, M) = some (350, a0 :: a1 :: a2 :: a3 :: a4 :: a5 :: some (.int x) :: l, .int x :: st, M) := st_iload q57_348 rfl
theorem x57_348 {st : List Value} {M : pj_Mem} {l : pj_Loc} {a0 a1 a2 a3 a4 a5 : Option Value} {x : Int32} {o9 : Option Value × pj_Mem} : pj_Ends 57 (348, a0 :: a1 :: a2 :: a3 :: a4 :: a5 :: some (.int x) :: l, st, M) o9 = pj_Ends 57 (350, a0 :: a1 :: a2 :: a3 :: a4 :: a5 :: some (.int x) :: l, .int x :: st, M) o9 := pj_xs (s57_348)
theorem q57_350 : pj_row 57 350 = some (.bipush 7, 2, 0, 0, 0) := by decide +kernel
theorem s57_350 {L : pj_Loc} {st : List Value} {M : pj_Mem}  : pj_step 57 (350, L, st, M) = some (352, L, .int 7 :: st, M) := st_bipush q57_350 (by decide +kernel)
theorem x57_350 {L : pj_Loc} {st : List Value} {M : pj_Mem}  {o9 : Option Value × pj_Mem} : pj_Ends 57 (350, L, st, M) o9 = pj_Ends 57 (352, L, .int 7 :: st, M) o9 := pj_xs (s57_350)
theorem q57_352 : pj_row 57 352 = some (.invokevirtual 69, 3, 60, 3, 0) := by decide +kernel
theorem e57_352 {L : pj_Loc} {st : List Value} {N S : Nat} {H : pj_Heap} {o : Option Value × pj_Mem} {M' : pj_Mem} {x0 : Nat} {x1 : Int32} {x2 : Int32} {r : Int32} (h4 : pj_le4 st = true) (hu : pj_isU 5 (H x0) = true) (h1 : pj_Ends 60 (0, [some (.ref x0), some (.int x1), some (.int x2)], [], (N, S, H)) (some (.int r), M')) (h2 : pj_Ends 57 (355, L, .int r :: st, M') o) : pj_Ends 57 (352, L, .int x2 :: .int x1 :: .ref x0 :: st, (N, S, H)) o := ec_v3 q57_352 (Or.inl rfl) h4 hu rfl h1 h2
theorem q57_355 : pj_row 57 355 = some (.invokestatic 62, 3, 58, 2, 0) := by decide +kernel
theorem e57_355 {L : pj_Loc} {st : List Value} {N S : Nat} {H : pj_Heap} {o : Option Value × pj_Mem} {M' : pj_Mem} {x0 : Int32} {x1 : Int32} {r : Int32} (h4 : pj_le4 st = true) (h1 : pj_Ends 58 (0, [some (.int x0), some (.int x1), none, none], [], (N, S, H)) (some (.int r), M')) (h2 : pj_Ends 57 (358, L, .int r :: st, M') o) : pj_Ends 57 (355, L, .int x1 :: .int x0 :: st, (N, S, H)) o := ec_s2 q57_355 (Or.inl rfl) h4 rfl h1 h2
theorem q57_358 : pj_row 57 358 = some (.aload_n 1, 1, 0, 0, 0) := by decide +kernel
theorem s57_358 {st : List Value} {M : pj_Mem} {l : pj_Loc} {a0 : Option Value} {x : Nat} : pj_step 57 (358, a0 :: some (.ref x) :: l, st, M) = some (359, a0 :: some (.ref x) :: l, .ref x :: st, M) := st_aload_n q57_358 rfl
theorem x57_358 {st : List Value} {M : pj_Mem} {l : pj_Loc} {a0 : Option Value} {x : Nat} {o9 : Option Value × pj_Mem} : pj_Ends 57 (358, a0 :: some (.ref x) :: l, st, M) o9 = pj_Ends 57 (359, a0 :: some (.ref x) :: l, .ref x :: st, M) o9 := pj_xs (s57_358)
theorem q57_359 : pj_row 57 359 = some (.iload 6, 2, 0, 0, 0) := by decide +kernel
theorem s57_359 {st : List Value} {M : pj_Mem} {l : pj_Loc} {a0 a1 a2 a3 a4 a5 : Option Value} {x : Int32} : pj_step 57 (359, a0 :: a1 :: a2 :: a3 :: a4 :: a5 :: some (.int x) :: l, st, M) = some (361, a0 :: a1 :: a2 :: a3 :: a4 :: a5 :: some (.int x) :: l, .int x :: st, M) := st_iload q57_359 rfl
theorem x57_359 {st : List Value} {M : pj_Mem} {l : pj_Loc} {a0 a1 a2 a3 a4 a5 : Option Value} {x : Int32} {o9 : Option Value × pj_Mem} : pj_Ends 57 (359, a0 :: a1 :: a2 :: a3 :: a4 :: a5 :: some (.int x) :: l, st, M) o9 = pj_Ends 57 (361, a0 :: a1 :: a2 :: a3 :: a4 :: a5 :: some (.int x) :: l, .int x :: st, M) o9 := pj_xs (s57_359)
theorem q57_361 : pj_row 57 361 = some (.bipush 7, 2, 0, 0, 0) := by decide +kernel
theorem s57_361 {L : pj_Loc} {st : List Value} {M : pj_Mem}  : pj_step 57 (361, L, st, M) = some (363, L, .int 7 :: st, M) := st_bipush q57_361 (by decide +kernel)
theorem x57_361 {L : pj_Loc} {st : List Value} {M : pj_Mem}  {o9 : Option Value × pj_Mem} : pj_Ends 57 (361, L, st, M) o9 = pj_Ends 57 (363, L, .int 7 :: st, M) o9 := pj_xs (s57_361)
theorem q57_363 : pj_row 57 363 = some (.invokevirtual 69, 3, 60, 3, 0) := by decide +kernel
theorem e57_363 {L : pj_Loc} {st : List Value} {N S : Nat} {H : pj_Heap} {o : Option Value × pj_Mem} {M' : pj_Mem} {x0 : Nat} {x1 : Int32} {x2 : Int32} {r : Int32} (h4 : pj_le4 st = true) (hu : pj_isU 5 (H x0) = true) (h1 : pj_Ends 60 (0, [some (.ref x0), some (.int x1), some (.int x2)], [], (N, S, H)) (some (.int r), M')) (h2 : pj_Ends 57 (366, L, .int r :: st, M') o) : pj_Ends 57 (363, L, .int x2 :: .int x1 :: .ref x0 :: st, (N, S, H)) o := ec_v3 q57_363 (Or.inl rfl) h4 hu rfl h1 h2
theorem q57_366 : pj_row 57 366 = some (.if_icmp .ne 62, 3, 428, 0, 0) := by decide +kernel
theorem s57_366 {L : pj_Loc} {st : List Value} {M : pj_Mem} {x y : Int32} : pj_step 57 (366, L, .int y :: .int x :: st, M) = some (if ¬ x = y then 428 else 369, L, st, M) := st_icmp_ne q57_366
theorem x57_366 {L : pj_Loc} {st : List Value} {M : pj_Mem} {x y : Int32} {o9 : Option Value × pj_Mem} : pj_Ends 57 (366, L, .int y :: .int x :: st, M) o9 = pj_Ends 57 (if ¬ x = y then 428 else 369, L, st, M) o9 := pj_xs (s57_366)
theorem q57_369 : pj_row 57 369 = some (.aload_n 0, 1, 0, 0, 0) := by decide +kernel
theorem s57_369 {st : List Value} {M : pj_Mem} {l : pj_Loc} {x : Nat} : pj_step 57 (369, some (.ref x) :: l, st, M) = some (370, some (.ref x) :: l, .ref x :: st, M) := st_aload_n q57_369 rfl
theorem x57_369 {st : List Value} {M : pj_Mem} {l : pj_Loc} {x : Nat} {o9 : Option Value × pj_Mem} : pj_Ends 57 (369, some (.ref x) :: l, st, M) o9 = pj_Ends 57 (370, some (.ref x) :: l, .ref x :: st, M) o9 := pj_xs (s57_369)
theorem q57_370 : pj_row 57 370 = some (.iload 6, 2, 0, 0, 0) := by decide +kernel
theorem s57_370 {st : List Value} {M : pj_Mem} {l : pj_Loc} {a0 a1 a2 a3 a4 a5 : Option Value} {x : Int32} : pj_step 57 (370, a0 :: a1 :: a2 :: a3 :: a4 :: a5 :: some (.int x) :: l, st, M) = some (372, a0 :: a1 :: a2 :: a3 :: a4 :: a5 :: some (.int x) :: l, .int x :: st, M) := st_iload q57_370 rfl
theorem x57_370 {st : List Value} {M : pj_Mem} {l : pj_Loc} {a0 a1 a2 a3 a4 a5 : Option Value} {x : Int32} {o9 : Option Value × pj_Mem} : pj_Ends 57 (370, a0 :: a1 :: a2 :: a3 :: a4 :: a5 :: some (.int x) :: l, st, M) o9 = pj_Ends 57 (372, a0 :: a1 :: a2 :: a3 :: a4 :: a5 :: some (.int x) :: l, .int x :: st, M) o9 := pj_xs (s57_370)
theorem q57_372 : pj_row 57 372 = some (.iconst 5, 1, 0, 0, 0) := by decide +kernel
theorem s57_372 {L : pj_Loc} {st : List Value} {M : pj_Mem}  : pj_step 57 (372, L, st, M) = some (373, L, .int 5 :: st, M) := st_iconst q57_372 (by decide +kernel)
theorem x57_372 {L : pj_Loc} {st : List Value} {M : pj_Mem}  {o9 : Option Value × pj_Mem} : pj_Ends 57 (372, L, st, M) o9 = pj_Ends 57 (373, L, .int 5 :: st, M) o9 := pj_xs (s57_372)
theorem q57_373 : pj_row 57 373 = some (.invokevirtual 69, 3, 60, 3, 0) := by decide +kernel
theorem e57_373 {L : pj_Loc} {st : List Value} {N S : Nat} {H : pj_Heap} {o : Option Value × pj_Mem} {M' : pj_Mem} {x0 : Nat} {x1 : Int32} {x2 : Int32} {r : Int32} (h4 : pj_le4 st = true) (hu : pj_isU 5 (H x0) = true) (h1 : pj_Ends 60 (0, [some (.ref x0), some (.int x1), some (.int x2)], [], (N, S, H)) (some (.int r), M')) (h2 : pj_Ends 57 (376, L, .int r :: st, M') o) : pj_Ends 57 (373, L, .int x2 :: .int x1 :: .ref x0 :: st, (N, S, H)) o := ec_v3 q57_373 (Or.inl rfl) h4 hu rfl h1 h2
theorem q57_376 : pj_row 57 376 = some (.aload_n 1, 1, 0, 0, 0) := by decide +kernel
theorem s57_376 {st : List Value} {M : pj_Mem} {l : pj_Loc} {a0 : Option Value} {x : Nat} : pj_step 57 (376, a0 :: some (.ref x) :: l, st, M) = some (377, a0 :: some (.ref x) :: l, .ref x :: st, M) := st_aload_n q57_376 rfl
theorem x57_376 {st : List Value} {M : pj_Mem} {l : pj_Loc} {a0 : Option Value} {x : Nat} {o9 : Option Value × pj_Mem} : pj_Ends 57 (376, a0 :: some (.ref x) :: l, st, M) o9 = pj_Ends 57 (377, a0 :: some (.ref x) :: l, .ref x :: st, M) o9 := pj_xs (s57_376)
theorem q57_377 : pj_row 57 377 = some (.iload 6, 2, 0, 0, 0) := by decide +kernel
theorem s57_377 {st : List Value} {M : pj_Mem} {l : pj_Loc} {a0 a1 a2 a3 a4 a5 : Option Value} {x : Int32} : pj_step 57 (377, a0 :: a1 :: a2 :: a3 :: a4 :: a5 :: some (.int x) :: l, st, M) = some (379, a0 :: a1 :: a2 :: a3 :: a4 :: a5 :: some (.int x) :: l, .int x :: st, M) := st_iload q57_377 rfl
theorem x57_377 {st : List Value} {M : pj_Mem} {l : pj_Loc} {a0 a1 a2 a3 a4 a5 : Option Value} {x : Int32} {o9 : Option Value × pj_Mem} : pj_Ends 57 (377, a0 :: a1 :: a2 :: a3 :: a4 :: a5 :: some (.int x) :: l, st, M) o9 = pj_Ends 57 (379, a0 :: a1 :: a2 :: a3 :: a4 :: a5 :: some (.int x) :: l, .int x :: st, M) o9 := pj_xs (s57_377)
theorem q57_379 : pj_row 57 379 = some (.iconst 5, 1, 0, 0, 0) := by decide +kernel
theorem s57_379 {L : pj_Loc} {st : List Value} {M : pj_Mem}  : pj_step 57 (379, L, st, M) = some (380, L, .int 5 :: st, M) := st_iconst q57_379 (by decide +kernel)
theorem x57_379 {L : pj_Loc} {st : List Value} {M : pj_Mem}  {o9 : Option Value × pj_Mem} : pj_Ends 57 (379, L, st, M) o9 = pj_Ends 57 (380, L, .int 5 :: st, M) o9 := pj_xs (s57_379)
theorem q57_380 : pj_row 57 380 = some (.invokevirtual 69, 3, 60, 3, 0) := by decide +kernel
theorem e57_380 {L : pj_Loc} {st : List Value} {N S : Nat} {H : pj_Heap} {o : Option Value × pj_Mem} {M' : pj_Mem} {x0 : Nat} {x1 : Int32} {x2 : Int32} {r : Int32} (h4 : pj_le4 st = true) (hu : pj_isU 5 (H x0) = true) (h1 : pj_Ends 60 (0, [some (.ref x0), some (.int x1), some (.int x2)], [], (N, S, H)) (some (.int r), M')) (h2 : pj_Ends 57 (383, L, .int r :: st, M') o) : pj_Ends 57 (380, L, .int x2 :: .int x1 :: .ref x0 :: st, (N, S, H)) o := ec_v3 q57_380 (Or.inl rfl) h4 hu rfl h1 h2
theorem q57_383 : pj_row 57 383 = some (.if_icmp .ne 45, 3, 428, 0, 0) := by decide +kernel
theorem s57_383 {L : pj_Loc} {st : List Value} {M : pj_Mem} {x y : Int32} : pj_step 57 (383, L, .int y :: .int x :: st, M) = some (if ¬ x = y then 428 else 386, L, st, M) := st_icmp_ne q57_383
theorem x57_383 {L : pj_Loc} {st : List Value} {M : pj_Mem} {x y : Int32} {o9 : Option Value × pj_Mem} : pj_Ends 57 (383, L, .int y :: .int x :: st, M) o9 = pj_Ends 57 (if ¬ x = y then 428 else 386, L, st, M) o9 := pj_xs (s57_383)
theorem q57_386 : pj_row 57 386 = some (.aload_n 0, 1, 0, 0, 0) := by decide +kernel
theorem s57_386 {st : List Value} {M : pj_Mem} {l : pj_Loc} {x : Nat} : pj_step 57 (386, some (.ref x) :: l, st, M) = some (387, some (.ref x) :: l, .ref x :: st, M) := st_aload_n q57_386 rfl
theorem x57_386 {st : List Value} {M : pj_Mem} {l : pj_Loc} {x : Nat} {o9 : Option Value × pj_Mem} : pj_Ends 57 (386, some (.ref x) :: l, st, M) o9 = pj_Ends 57 (387, some (.ref x) :: l, .ref x :: st, M) o9 := pj_xs (s57_386)
theorem q57_387 : pj_row 57 387 = some (.iload 6, 2, 0, 0, 0) := by decide +kernel
theorem s57_387 {st : List Value} {M : pj_Mem} {l : pj_Loc} {a0 a1 a2 a3 a4 a5 : Option Value} {x : Int32} : pj_step 57 (387, a0 :: a1 :: a2 :: a3 :: a4 :: a5 :: some (.int x) :: l, st, M) = some (389, a0 :: a1 :: a2 :: a3 :: a4 :: a5 :: some (.int x) :: l, .int x :: st, M) := st_iload q57_387 rfl
theorem x57_387 {st : List Value} {M : pj_Mem} {l : pj_Loc} {a0 a1 a2 a3 a4 a5 : Option Value} {x : Int32} {o9 : Option Value × pj_Mem} : pj_Ends 57 (387, a0 :: a1 :: a2 :: a3 :: a4 :: a5 :: some (.int x) :: l, st, M) o9 = pj_Ends 57 (389, a0 :: a1 :: a2 :: a3 :: a4 :: a5 :: some (.int x) :: l, .int x :: st, M) o9 := pj_xs (s57_387)
theorem q57_389 : pj_row 57 389 = some (.bipush 8, 2, 0, 0, 0) := by decide +kernel
theorem s57_389 {L : pj_Loc} {st : List Value} {M : pj_Mem}  : pj_step 57 (389, L, st, M) = some (391, L, .int 8 :: st, M) := st_bipush q57_389 (by decide +kernel)
theorem x57_389 {L : pj_Loc} {st : List Value} {M : pj_Mem}  {o9 : Option Value × pj_Mem} : pj_Ends 57 (389, L, st, M) o9 = pj_Ends 57 (391, L, .int 8 :: st, M) o9 := pj_xs (s57_389)
theorem q57_391 : pj_row 57 391 = some (.invokevirtual 69, 3, 60, 3, 0) := by decide +kernel
theorem e57_391 {L : pj_Loc} {st : List Value} {N S : Nat} {H : pj_Heap} {o : Option Value × pj_Mem} {M' : pj_Mem} {x0 : Nat} {x1 : Int32} {x2 : Int32} {r : Int32} (h4 : pj_le4 st = true) (hu : pj_isU 5 (H x0) = true) (h1 : pj_Ends 60 (0, [some (.ref x0), some (.int x1), some (.int x2)], [], (N, S, H)) (some (.int r), M')) (h2 : pj_Ends 57 (394, L, .int r :: st, M') o) : pj_Ends 57 (391, L, .int x2 :: .int x1 :: .ref x0 :: st, (N, S, H)) o := ec_v3 q57_391 (Or.inl rfl) h4 hu rfl h1 h2
theorem q57_394 : pj_row 57 394 = some (.aload_n 1, 1, 0, 0, 0) := by decide +kernel
theorem s57_394 {st : List Value} {M : pj_Mem} {l : pj_Loc} {a0 : Option Value} {x : Nat} : pj_step 57 (394, a0 :: some (.ref x) :: l, st, M) = some (395, a0 :: some (.ref x) :: l, .ref x :: st, M) := st_aload_n q57_394 rfl
theorem x57_394 {st : List Value} {M : pj_Mem} {l : pj_Loc} {a0 : Option Value} {x : Nat} {o9 : Option Value × pj_Mem} : pj_Ends 57 (394, a0 :: some (.ref x) :: l, st, M) o9 = pj_Ends 57 (395, a0 :: some (.ref x) :: l, .ref x :: st, M) o9 := pj_xs (s57_394)
theorem q57_395 : pj_row 57 395 = some (.iload 6, 2, 0, 0, 0) := by decide +kernel
theorem s57_395 {st : List Value} {M : pj_Mem} {l : pj_Loc} {a0 a1 a2 a3 a4 a5 : Option Value} {x : Int32} : pj_step 57 (395, a0 :: a1 :: a2 :: a3 :: a4 :: a5 :: some (.int x) :: l, st, M) = some (397, a0 :: a1 :: a2 :: a3 :: a4 :: a5 :: some (.int x) :: l, .int x :: st, M) := st_iload q57_395 rfl
theorem x57_395 {st : List Value} {M : pj_Mem} {l : pj_Loc} {a0 a1 a2 a3 a4 a5 : Option Value} {x : Int32} {o9 : Option Value × pj_Mem} : pj_Ends 57 (395, a0 :: a1 :: a2 :: a3 :: a4 :: a5 :: some (.int x) :: l, st, M) o9 = pj_Ends 57 (397, a0 :: a1 :: a2 :: a3 :: a4 :: a5 :: some (.int x) :: l, .int x :: st, M) o9 := pj_xs (s57_395)
theorem q57_397 : pj_row 57 397 = some (.bipush 8, 2, 0, 0, 0) := by decide +kernel
theorem s57_397 {L : pj_Loc} {st : List Value} {M : pj_Mem}  : pj_step 57 (397, L, st, M) = some (399, L, .int 8 :: st, M) := st_bipush q57_397 (by decide +kernel)
theorem x57_397 {L : pj_Loc} {st : List Value} {M : pj_Mem}  {o9 : Option Value × pj_Mem} : pj_Ends 57 (397, L, st, M) o9 = pj_Ends 57 (399, L, .int 8 :: st, M) o9 := pj_xs (s57_397)
theorem q57_399 : pj_row 57 399 = some (.invokevirtual 69, 3, 60, 3, 0) := by decide +kernel
theorem e57_399 {L : pj_Loc} {st : List Value} {N S : Nat} {H : pj_Heap} {o : Option Value × pj_Mem} {M' : pj_Mem} {x0 : Nat} {x1 : Int32} {x2 : Int32} {r : Int32} (h4 : pj_le4 st = true) (hu : pj_isU 5 (H x0) = true) (h1 : pj_Ends 60 (0, [some (.ref x0), some (.int x1), some (.int x2)], [], (N, S, H)) (some (.int r), M')) (h2 : pj_Ends 57 (402, L, .int r :: st, M') o) : pj_Ends 57 (399, L, .int x2 :: .int x1 :: .ref x0 :: st, (N, S, H)) o := ec_v3 q57_399 (Or.inl rfl) h4 hu rfl h1 h2
theorem q57_402 : pj_row 57 402 = some (.if_icmp .ne 26, 3, 428, 0, 0) := by decide +kernel
theorem s57_402 {L : pj_Loc} {st : List Value} {M : pj_Mem} {x y : Int32} : pj_step 57 (402, L, .int y :: .int x :: st, M) = some (if ¬ x = y then 428 else 405, L, st, M) := st_icmp_ne q57_402
theorem x57_402 {L : pj_Loc} {st : List Value} {M : pj_Mem} {x y : Int32} {o9 : Option Value × pj_Mem} : pj_Ends 57 (402, L, .int y :: .int x :: st, M) o9 = pj_Ends 57 (if ¬ x = y then 428 else 405, L, st, M) o9 := pj_xs (s57_402)
theorem q57_405 : pj_row 57 405 = some (.aload_n 0, 1, 0, 0, 0) := by decide +kernel
theorem s57_405 {st : List Value} {M : pj_Mem} {l : pj_Loc} {x : Nat} : pj_step 57 (405, some (.ref x) :: l, st, M) = some (406, some (.ref x) :: l, .ref x :: st, M) := st_aload_n q57_405 rfl
theorem x57_405 {st : List Value} {M : pj_Mem} {l : pj_Loc} {x : Nat} {o9 : Option Value × pj_Mem} : pj_Ends 57 (405, some (.ref x) :: l, st, M) o9 = pj_Ends 57 (406, some (.ref x) :: l, .ref x :: st, M) o9 := pj_xs (s57_405)
theorem q57_406 : pj_row 57 406 = some (.iload 6, 2, 0, 0, 0) := by decide +kernel
theorem s57_406 {st : List Value} {M : pj_Mem} {l : pj_Loc} {a0 a1 a2 a3 a4 a5 : Option Value} {x : Int32} : pj_step 57 (406, a0 :: a1 :: a2 :: a3 :: a4 :: a5 :: some (.int x) :: l, st, M) = some (408, a0 :: a1 :: a2 :: a3 :: a4 :: a5 :: some (.int x) :: l, .int x :: st, M) := st_iload q57_406 rfl
theorem x57_406 {st : List Value} {M : pj_Mem} {l : pj_Loc} {a0 a1 a2 a3 a4 a5 : Option Value} {x : Int32} {o9 : Option Value × pj_Mem} : pj_Ends 57 (406, a0 :: a1 :: a2 :: a3 :: a4 :: a5 :: some (.int x) :: l, st, M) o9 = pj_Ends 57 (408, a0 :: a1 :: a2 :: a3 :: a4 :: a5 :: some (.int x) :: l, .int x :: st, M) o9 := pj_xs (s57_406)
theorem q57_408 : pj_row 57 408 = some (.bipush 9, 2, 0, 0, 0) := by decide +kernel
theorem s57_408 {L : pj_Loc} {st : List Value} {M : pj_Mem}  : pj_step 57 (408, L, st, M) = some (410, L, .int 9 :: st, M) := st_bipush q57_408 (by decide +kernel)
theorem x57_408 {L : pj_Loc} {st : List Value} {M : pj_Mem}  {o9 : Option Value × pj_Mem} : pj_Ends 57 (408, L, st, M) o9 = pj_Ends 57 (410, L, .int 9 :: st, M) o9 := pj_xs (s57_408)
theorem q57_410 : pj_row 57 410 = some (.invokevirtual 69, 3, 60, 3, 0) := by decide +kernel
theorem e57_410 {L : pj_Loc} {st : List Value} {N S : Nat} {H : pj_Heap} {o : Option Value × pj_Mem} {M' : pj_Mem} {x0 : Nat} {x1 : Int32} {x2 : Int32} {r : Int32} (h4 : pj_le4 st = true) (hu : pj_isU 5 (H x0) = true) (h1 : pj_Ends 60 (0, [some (.ref x0), some (.int x1), some (.int x2)], [], (N, S, H)) (some (.int r), M')) (h2 : pj_Ends 57 (413, L, .int r :: st, M') o) : pj_Ends 57 (410, L, .int x2 :: .int x1 :: .ref x0 :: st, (N, S, H)) o := ec_v3 q57_410 (Or.inl rfl) h4 hu rfl h1 h2
theorem q57_413 : pj_row 57 413 = some (.aload_n 1, 1, 0, 0, 0) := by decide +kernel
theorem s57_413 {st : List Value} {M : pj_Mem} {l : pj_Loc} {a0 : Option Value} {x : Nat} : pj_step 57 (413, a0 :: some (.ref x) :: l, st, M) = some (414, a0 :: some (.ref x) :: l, .ref x :: st, M) := st_aload_n q57_413 rfl
theorem x57_413 {st : List Value} {M : pj_Mem} {l : pj_Loc} {a0 : Option Value} {x : Nat} {o9 : Option Value × pj_Mem} : pj_Ends 57 (413, a0 :: some (.ref x) :: l, st, M) o9 = pj_Ends 57 (414, a0 :: some (.ref x) :: l, .ref x :: st, M) o9 := pj_xs (s57_413)
theorem q57_414 : pj_row 57 414 = some (.iload 6, 2, 0, 0, 0) := by decide +kernel
theorem s57_414 {st : List Value} {M : pj_Mem} {l : pj_Loc} {a0 a1 a2 a3 a4 a5 : Option Value} {x : Int32} : pj_step 57 (414, a0 :: a1 :: a2 :: a3 :: a4 :: a5 :: some (.int x) :: l, st, M) = some (416, a0 :: a1 :: a2 :: a3 :: a4 :: a5 :: some (.int x) :: l, .int x :: st, M) := st_iload q57_414 rfl
theorem x57_414 {st : List Value} {M : pj_Mem} {l : pj_Loc} {a0 a1 a2 a3 a4 a5 : Option Value} {x : Int32} {o9 : Option Value × pj_Mem} : pj_Ends 57 (414, a0 :: a1 :: a2 :: a3 :: a4 :: a5 :: some (.int x) :: l, st, M) o9 = pj_Ends 57 (416, a0 :: a1 :: a2 :: a3 :: a4 :: a5 :: some (.int x) :: l, .int x :: st, M) o9 := pj_xs (s57_414)
theorem q57_416 : pj_row 57 416 = some (.bipush 9, 2, 0, 0, 0) := by decide +kernel
theorem s57_416 {L : pj_Loc} {st : List Value} {M : pj_Mem}  : pj_step 57 (416, L, st, M) = some (418, L, .int 9 :: st, M) := st_bipush q57_416 (by decide +kernel)
theorem x57_416 {L : pj_Loc} {st : List Value} {M : pj_Mem}  {o9 : Option Value × pj_Mem} : pj_Ends 57 (416, L, st, M) o9 = pj_Ends 57 (418, L, .int 9 :: st, M) o9 := pj_xs (s57_416)
theorem q57_418 : pj_row 57 418 = some (.invokevirtual 69, 3, 60, 3, 0) := by decide +kernel
theorem e57_418 {L : pj_Loc} {st : List Value} {N S : Nat} {H : pj_Heap} {o : Option Value × pj_Mem} {M' : pj_Mem} {x0 : Nat} {x1 : Int32} {x2 : Int32} {r : Int32} (h4 : pj_le4 st = true) (hu : pj_isU 5 (H x0) = true) (h1 : pj_Ends 60 (0, [some (.ref x0), some (.int x1), some (.int x2)], [], (N, S, H)) (some (.int r), M')) (h2 : pj_Ends 57 (421, L, .int r :: st, M') o) : pj_Ends 57 (418, L, .int x2 :: .int x1 :: .ref x0 :: st, (N, S, H)) o := ec_v3 q57_418 (Or.inl rfl) h4 hu rfl h1 h2
theorem q57_421 : pj_row 57 421 = some (.if_icmp .ne 7, 3, 428, 0, 0) := by decide +kernel
theorem s57_421 {L : pj_Loc} {st : List Value} {M : pj_Mem} {x y : Int32} : pj_step 57 (421, L, .int y :: .int x :: st, M) = some (if ¬ x = y then 428 else 424, L, st, M) := st_icmp_ne q57_421
theorem x57_421 {L : pj_Loc} {st : List Value} {M : pj_Mem} {x y : Int32} {o9 : Option Value × pj_Mem} : pj_Ends 57 (421, L, .int y :: .int x :: st, M) o9 = pj_Ends 57 (if ¬ x = y then 428 else 424, L, st, M) o9 := pj_xs (s57_421)
theorem q57_424 : pj_row 57 424 = some (.iconst 1, 1, 0, 0, 0) := by decide +kernel
theorem s57_424 {L : pj_Loc} {st : List Value} {M : pj_Mem}  : pj_step 57 (424, L, st, M) = some (425, L, .int 1 :: st, M) := st_iconst q57_424 (by decide +kernel)
theorem x57_424 {L : pj_Loc} {st : List Value} {M : pj_Mem}  {o9 : Option Value × pj_Mem} : pj_Ends 57 (424, L, st, M) o9 = pj_Ends 57 (425, L, .int 1 :: st, M) o9 := pj_xs (s57_424)
theorem q57_425 : pj_row 57 425 = some (.goto 4, 3, 429, 0, 0) := by decide +kernel
theorem s57_425 {L : pj_Loc} {st : List Value} {M : pj_Mem}  : pj_step 57 (425, L, st, M) = some (429, L, st, M) := st_goto q57_425
theorem x57_425 {L : pj_Loc} {st : List Value} {M : pj_Mem}  {o9 : Option Value × pj_Mem} : pj_Ends 57 (425, L, st, M) o9 = pj_Ends 57 (429, L, st, M) o9 := pj_xs (s57_425)
theorem q57_428 : pj_row 57 428 = some (.iconst 0, 1, 0, 0, 0) := by decide +kernel
theorem s57_428 {L : pj_Loc} {st : List Value} {M : pj_Mem}  : pj_step 57 (428, L, st, M) = some (429, L, .int 0 :: st, M) := st_iconst q57_428 (by decide +kernel)
theorem x57_428 {L : pj_Loc} {st : List Value} {M : pj_Mem}  {o9 : Option Value × pj_Mem} : pj_Ends 57 (428, L, st, M) o9 = pj_Ends 57 (429, L, .int 0 :: st, M) o9 := pj_xs (s57_428)
theorem q57_429 : pj_row 57 429 = some (.istore 4, 2, 0, 0, 0) := by decide +kernel
theorem s57_429 {st : List Value} {M : pj_Mem} {l : pj_Loc} {a0 a1 a2 a3 a4 : Option Value} {x : Int32} (h : pj_long a3 = false) : pj_step 57 (429, a0 :: a1 :: a2 :: a3 :: a4 :: l, .int x :: st, M) = some (431, a0 :: a1 :: a2 :: a3 :: some (.int x) :: l, st, M) := st_istore q57_429 (pj_st_4 h)
theorem x57_429 {st : List Value} {M : pj_Mem} {l : pj_Loc} {a0 a1 a2 a3 a4 : Option Value} {x : Int32} (h : pj_long a3 = false) {o9 : Option Value × pj_Mem} : pj_Ends 57 (429, a0 :: a1 :: a2 :: a3 :: a4 :: l, .int x :: st, M) o9 = pj_Ends 57 (431, a0 :: a1 :: a2 :: a3 :: some (.int x) :: l, st, M) o9 := pj_xs (s57_429 h)
theorem q57_431 : pj_row 57 431 = some (.iload 4, 2, 0, 0, 0) := by decide +kernel
theorem s57_431 {st : List Value} {M : pj_Mem} {l : pj_Loc} {a0 a1 a2 a3 : Option Value} {x : Int32} : pj_step 57 (431, a0 :: a1 :: a2 :: a3 :: some (.int x) :: l, st, M) = some (433, a0 :: a1 :: a2 :: a3 :: some (.int x) :: l, .int x :: st, M) := st_iload q57_431 rfl
theorem x57_431 {st : List Value} {M : pj_Mem} {l : pj_Loc} {a0 a1 a2 a3 : Option Value} {x : Int32} {o9 : Option Value × pj_Mem} : pj_Ends 57 (431, a0 :: a1 :: a2 :: a3 :: some (.int x) :: l, st, M) o9 = pj_Ends 57 (433, a0 :: a1 :: a2 :: a3 :: some (.int x) :: l, .int x :: st, M) o9 := pj_xs (s57_431)
theorem q57_433 : pj_row 57 433 = some (.ifCond .eq 58, 3, 491, 0, 0) := by decide +kernel
theorem s57_433 {L : pj_Loc} {st : List Value} {M : pj_Mem} {x : Int32} : pj_step 57 (433, L, .int x :: st, M) = some (if x = 0 then 491 else 436, L, st, M) := st_if_eq q57_433
theorem x57_433 {L : pj_Loc} {st : List Value} {M : pj_Mem} {x : Int32} {o9 : Option Value × pj_Mem} : pj_Ends 57 (433, L, .int x :: st, M) o9 = pj_Ends 57 (if x = 0 then 491 else 436, L, st, M) o9 := pj_xs (s57_433)
theorem q57_436 : pj_row 57 436 = some (.aload_n 0, 1, 0, 0, 0) := by decide +kernel
theorem s57_436 {st : List Value} {M : pj_Mem} {l : pj_Loc} {x : Nat} : pj_step 57 (436, some (.ref x) :: l, st, M) = some (437, some (.ref x) :: l, .ref x :: st, M) := st_aload_n q57_436 rfl
theorem x57_436 {st : List Value} {M : pj_Mem} {l : pj_Loc} {x : Nat} {o9 : Option Value × pj_Mem} : pj_Ends 57 (436, some (.ref x) :: l, st, M) o9 = pj_Ends 57 (437, some (.ref x) :: l, .ref x :: st, M) o9 := pj_xs (s57_436)
theorem q57_437 : pj_row 57 437 = some (.iload 5, 2, 0, 0, 0) := by decide +kernel
theorem s57_437 {st : List Value} {M : pj_Mem} {l : pj_Loc} {a0 a1 a2 a3 a4 : Option Value} {x : Int32} : pj_step 57 (437, a0 :: a1 :: a2 :: a3 :: a4 :: some (.int x) :: l, st, M) = some (439, a0 :: a1 :: a2 :: a3 :: a4 :: some (.int x) :: l, .int x :: st, M) := st_iload q57_437 rfl
theorem x57_437 {st : List Value} {M : pj_Mem} {l : pj_Loc} {a0 a1 a2 a3 a4 : Option Value} {x : Int32} {o9 : Option Value × pj_Mem} : pj_Ends 57 (437, a0 :: a1 :: a2 :: a3 :: a4 :: some (.int x) :: l, st, M) o9 = pj_Ends 57 (439, a0 :: a1 :: a2 :: a3 :: a4 :: some (.int x) :: l, .int x :: st, M) o9 := pj_xs (s57_437)
theorem q57_439 : pj_row 57 439 = some (.iconst 1, 1, 0, 0, 0) := by decide +kernel
theorem s57_439 {L : pj_Loc} {st : List Value} {M : pj_Mem}  : pj_step 57 (439, L, st, M) = some (440, L, .int 1 :: st, M) := st_iconst q57_439 (by decide +kernel)
theorem x57_439 {L : pj_Loc} {st : List Value} {M : pj_Mem}  {o9 : Option Value × pj_Mem} : pj_Ends 57 (439, L, st, M) o9 = pj_Ends 57 (440, L, .int 1 :: st, M) o9 := pj_xs (s57_439)
theorem q57_440 : pj_row 57 440 = some (.isub, 1, 0, 0, 0) := by decide +kernel
theorem s57_440 {L : pj_Loc} {st : List Value} {M : pj_Mem} {x y : Int32} : pj_step 57 (440, L, .int y :: .int x :: st, M) = some (441, L, .int (x - y) :: st, M) := st_isub q57_440
theorem x57_440 {L : pj_Loc} {st : List Value} {M : pj_Mem} {x y : Int32} {o9 : Option Value × pj_Mem} : pj_Ends 57 (440, L, .int y :: .int x :: st, M) o9 = pj_Ends 57 (441, L, .int (x - y) :: st, M) o9 := pj_xs (s57_440)
theorem q57_441 : pj_row 57 441 = some (.iconst 0, 1, 0, 0, 0) := by decide +kernel
theorem s57_441 {L : pj_Loc} {st : List Value} {M : pj_Mem}  : pj_step 57 (441, L, st, M) = some (442, L, .int 0 :: st, M) := st_iconst q57_441 (by decide +kernel)
theorem x57_441 {L : pj_Loc} {st : List Value} {M : pj_Mem}  {o9 : Option Value × pj_Mem} : pj_Ends 57 (441, L, st, M) o9 = pj_Ends 57 (442, L, .int 0 :: st, M) o9 := pj_xs (s57_441)
theorem q57_442 : pj_row 57 442 = some (.invokevirtual 69, 3, 60, 3, 0) := by decide +kernel
theorem e57_442 {L : pj_Loc} {st : List Value} {N S : Nat} {H : pj_Heap} {o : Option Value × pj_Mem} {M' : pj_Mem} {x0 : Nat} {x1 : Int32} {x2 : Int32} {r : Int32} (h4 : pj_le4 st = true) (hu : pj_isU 5 (H x0) = true) (h1 : pj_Ends 60 (0, [some (.ref x0), some (.int x1), some (.int x2)], [], (N, S, H)) (some (.int r), M')) (h2 : pj_Ends 57 (445, L, .int r :: st, M') o) : pj_Ends 57 (442, L, .int x2 :: .int x1 :: .ref x0 :: st, (N, S, H)) o := ec_v3 q57_442 (Or.inl rfl) h4 hu rfl h1 h2
theorem q57_445 : pj_row 57 445 = some (.aload_n 0, 1, 0, 0, 0) := by decide +kernel
theorem s57_445 {st : List Value} {M : pj_Mem} {l : pj_Loc} {x : Nat} : pj_step 57 (445, some (.ref x) :: l, st, M) = some (446, some (.ref x) :: l, .ref x :: st, M) := st_aload_n q57_445 rfl
theorem x57_445 {st : List Value} {M : pj_Mem} {l : pj_Loc} {x : Nat} {o9 : Option Value × pj_Mem} : pj_Ends 57 (445, some (.ref x) :: l, st, M) o9 = pj_Ends 57 (446, some (.ref x) :: l, .ref x :: st, M) o9 := pj_xs (s57_445)
theorem q57_446 : pj_row 57 446 = some (.iconst 0, 1, 0, 0, 0) := by decide +kernel
theorem s57_446 {L : pj_Loc} {st : List Value} {M : pj_Mem}  : pj_step 57 (446, L, st, M) = some (447, L, .int 0 :: st, M) := st_iconst q57_446 (by decide +kernel)
theorem x57_446 {L : pj_Loc} {st : List Value} {M : pj_Mem}  {o9 : Option Value × pj_Mem} : pj_Ends 57 (446, L, st, M) o9 = pj_Ends 57 (447, L, .int 0 :: st, M) o9 := pj_xs (s57_446)
theorem q57_447 : pj_row 57 447 = some (.invokevirtual 28, 3, 10, 2, 0) := by decide +kernel
theorem e57_447 {L : pj_Loc} {st : List Value} {N S : Nat} {H : pj_Heap} {o : Option Value × pj_Mem} {M' : pj_Mem} {x0 : Nat} {x1 : Int32} {r : Int32} (h4 : pj_le4 st = true) (hu : pj_isU 5 (H x0) = true) (h1 : pj_Ends 10 (0, [some (.ref x0), some (.int x1)], [], (N, S, H)) (some (.int r), M')) (h2 : pj_Ends 57 (450, L, .int r :: st, M') o) : pj_Ends 57 (447, L, .int x1 :: .ref x0 :: st, (N, S, H)) o := ec_v2 q57_447 (Or.inl rfl) h4 hu rfl h1 h2
theorem q57_450 : pj_row 57 450 = some (.iconst 1, 1, 0, 0, 0) := by decide +kernel
theorem s57_450 {L : pj_Loc} {st : List Value} {M : pj_Mem}  : pj_step 57 (450, L, st, M) = some (451, L, .int 1 :: st, M) := st_iconst q57_450 (by decide +kernel)
theorem x57_450 {L : pj_Loc} {st : List Value} {M : pj_Mem}  {o9 : Option Value × pj_Mem} : pj_Ends 57 (450, L, st, M) o9 = pj_Ends 57 (451, L, .int 1 :: st, M) o9 := pj_xs (s57_450)
theorem q57_451 : pj_row 57 451 = some (.isub, 1, 0, 0, 0) := by decide +kernel
theorem s57_451 {L : pj_Loc} {st : List Value} {M : pj_Mem} {x y : Int32} : pj_step 57 (451, L, .int y :: .int x :: st, M) = some (452, L, .int (x - y) :: st, M) := st_isub q57_451
theorem x57_451 {L : pj_Loc} {st : List Value} {M : pj_Mem} {x y : Int32} {o9 : Option Value × pj_Mem} : pj_Ends 57 (451, L, .int y :: .int x :: st, M) o9 = pj_Ends 57 (452, L, .int (x - y) :: st, M) o9 := pj_xs (s57_451)
theorem q57_452 : pj_row 57 452 = some (.if_icmp .gt 39, 3, 491, 0, 0) := by decide +kernel
theorem s57_452 {L : pj_Loc} {st : List Value} {M : pj_Mem} {x y : Int32} : pj_step 57 (452, L, .int y :: .int x :: st, M) = some (if y < x then 491 else 455, L, st, M) := st_icmp_gt q57_452
theorem x57_452 {L : pj_Loc} {st : List Value} {M : pj_Mem} {x y : Int32} {o9 : Option Value × pj_Mem} : pj_Ends 57 (452, L, .int y :: .int x :: st, M) o9 = pj_Ends 57 (if y < x then 491 else 455, L, st, M) o9 := pj_xs (s57_452)
theorem q57_455 : pj_row 57 455 = some (.aload_n 0, 1, 0, 0, 0) := by decide +kernel
theorem s57_455 {st : List Value} {M : pj_Mem} {l : pj_Loc} {x : Nat} : pj_step 57 (455, some (.ref x) :: l, st, M) = some (456, some (.ref x) :: l, .ref x :: st, M) := st_aload_n q57_455 rfl
theorem x57_455 {st : List Value} {M : pj_Mem} {l : pj_Loc} {x : Nat} {o9 : Option Value × pj_Mem} : pj_Ends 57 (455, some (.ref x) :: l, st, M) o9 = pj_Ends 57 (456, some (.ref x) :: l, .ref x :: st, M) o9 := pj_xs (s57_455)
theorem q57_456 : pj_row 57 456 = some (.bipush 6, 2, 0, 0, 0) := by decide +kernel
theorem s57_456 {L : pj_Loc} {st : List Value} {M : pj_Mem}  : pj_step 57 (456, L, st, M) = some (458, L, .int 6 :: st, M) := st_bipush q57_456 (by decide +kernel)
theorem x57_456 {L : pj_Loc} {st : List Value} {M : pj_Mem}  {o9 : Option Value × pj_Mem} : pj_Ends 57 (456, L, st, M) o9 = pj_Ends 57 (458, L, .int 6 :: st, M) o9 := pj_xs (s57_456)
theorem q57_458 : pj_row 57 458 = some (.invokevirtual 28, 3, 10, 2, 0) := by decide +kernel
theorem e57_458 {L : pj_Loc} {st : List Value} {N S : Nat} {H : pj_Heap} {o : Option Value × pj_Mem} {M' : pj_Mem} {x0 : Nat} {x1 : Int32} {r : Int32} (h4 : pj_le4 st = true) (hu : pj_isU 5 (H x0) = true) (h1 : pj_Ends 10 (0, [some (.ref x0), some (.int x1)], [], (N, S, H)) (some (.int r), M')) (h2 : pj_Ends 57 (461, L, .int r :: st, M') o) : pj_Ends 57 (458, L, .int x1 :: .ref x0 :: st, (N, S, H)) o := ec_v2 q57_458 (Or.inl rfl) h4 hu rfl h1 h2
theorem q57_461 : pj_row 57 461 = some (.bipush (-6), 2, 0, 0, 0) := by decide +kernel
theorem s57_461 {L : pj_Loc} {st : List Value} {M : pj_Mem}  : pj_step 57 (461, L, st, M) = some (463, L, .int (-6) :: st, M) := st_bipush q57_461 (by decide +kernel)
theorem x57_461 {L : pj_Loc} {st : List Value} {M : pj_Mem}  {o9 : Option Value × pj_Mem} : pj_Ends 57 (461, L, st, M) o9 = pj_Ends 57 (463, L, .int (-6) :: st, M) o9 := pj_xs (s57_461)
theorem q57_463 : pj_row 57 463 = some (.if_icmp .eq 24, 3, 487, 0, 0) := by decide +kernel
theorem s57_463 {L : pj_Loc} {st : List Value} {M : pj_Mem} {x y : Int32} : pj_step 57 (463, L, .int y :: .int x :: st, M) = some (if x = y then 487 else 466, L, st, M) := st_icmp_eq q57_463
theorem x57_463 {L : pj_Loc} {st : List Value} {M : pj_Mem} {x y : Int32} {o9 : Option Value × pj_Mem} : pj_Ends 57 (463, L, .int y :: .int x :: st, M) o9 = pj_Ends 57 (if x = y then 487 else 466, L, st, M) o9 := pj_xs (s57_463)
theorem q57_466 : pj_row 57 466 = some (.aload_n 0, 1, 0, 0, 0) := by decide +kernel
theorem s57_466 {st : List Value} {M : pj_Mem} {l : pj_Loc} {x : Nat} : pj_step 57 (466, some (.ref x) :: l, st, M) = some (467, some (.ref x) :: l, .ref x :: st, M) := st_aload_n q57_466 rfl
theorem x57_466 {st : List Value} {M : pj_Mem} {l : pj_Loc} {x : Nat} {o9 : Option Value × pj_Mem} : pj_Ends 57 (466, some (.ref x) :: l, st, M) o9 = pj_Ends 57 (467, some (.ref x) :: l, .ref x :: st, M) o9 := pj_xs (s57_466)
theorem q57_467 : pj_row 57 467 = some (.iload 5, 2, 0, 0, 0) := by decide +kernel
theorem s57_467 {st : List Value} {M : pj_Mem} {l : pj_Loc} {a0 a1 a2 a3 a4 : Option Value} {x : Int32} : pj_step 57 (467, a0 :: a1 :: a2 :: a3 :: a4 :: some (.int x) :: l, st, M) = some (469, a0 :: a1 :: a2 :: a3 :: a4 :: some (.int x) :: l, .int x :: st, M) := st_iload q57_467 rfl
theorem x57_467 {st : List Value} {M : pj_Mem} {l : pj_Loc} {a0 a1 a2 a3 a4 : Option Value} {x : Int32} {o9 : Option Value × pj_Mem} : pj_Ends 57 (467, a0 :: a1 :: a2 :: a3 :: a4 :: some (.int x) :: l, st, M) o9 = pj_Ends 57 (469, a0 :: a1 :: a2 :: a3 :: a4 :: some (.int x) :: l, .int x :: st, M) o9 := pj_xs (s57_467)
theorem q57_469 : pj_row 57 469 = some (.iconst 1, 1, 0, 0, 0) := by decide +kernel
theorem s57_469 {L : pj_Loc} {st : List Value} {M : pj_Mem}  : pj_step 57 (469, L, st, M) = some (470, L, .int 1 :: st, M) := st_iconst q57_469 (by decide +kernel)
theorem x57_469 {L : pj_Loc} {st : List Value} {M : pj_Mem}  {o9 : Option Value × pj_Mem} : pj_Ends 57 (469, L, st, M) o9 = pj_Ends 57 (470, L, .int 1 :: st, M) o9 := pj_xs (s57_469)
theorem q57_470 : pj_row 57 470 = some (.isub, 1, 0, 0, 0) := by decide +kernel
theorem s57_470 {L : pj_Loc} {st : List Value} {M : pj_Mem} {x y : Int32} : pj_step 57 (470, L, .int y :: .int x :: st, M) = some (471, L, .int (x - y) :: st, M) := st_isub q57_470
theorem x57_470 {L : pj_Loc} {st : List Value} {M : pj_Mem} {x y : Int32} {o9 : Option Value × pj_Mem} : pj_Ends 57 (470, L, .int y :: .int x :: st, M) o9 = pj_Ends 57 (471, L, .int (x - y) :: st, M) o9 := pj_xs (s57_470)
theorem q57_471 : pj_row 57 471 = some (.iconst 0, 1, 0, 0, 0) := by decide +kernel
theorem s57_471 {L : pj_Loc} {st : List Value} {M : pj_Mem}  : pj_step 57 (471, L, st, M) = some (472, L, .int 0 :: st, M) := st_iconst q57_471 (by decide +kernel)
theorem x57_471 {L : pj_Loc} {st : List Value} {M : pj_Mem}  {o9 : Option Value × pj_Mem} : pj_Ends 57 (471, L, st, M) o9 = pj_Ends 57 (472, L, .int 0 :: st, M) o9 := pj_xs (s57_471)
theorem q57_472 : pj_row 57 472 = some (.invokevirtual 69, 3, 60, 3, 0) := by decide +kernel
theorem e57_472 {L : pj_Loc} {st : List Value} {N S : Nat} {H : pj_Heap} {o : Option Value × pj_Mem} {M' : pj_Mem} {x0 : Nat} {x1 : Int32} {x2 : Int32} {r : Int32} (h4 : pj_le4 st = true) (hu : pj_isU 5 (H x0) = true) (h1 : pj_Ends 60 (0, [some (.ref x0), some (.int x1), some (.int x2)], [], (N, S, H)) (some (.int r), M')) (h2 : pj_Ends 57 (475, L, .int r :: st, M') o) : pj_Ends 57 (472, L, .int x2 :: .int x1 :: .ref x0 :: st, (N, S, H)) o := ec_v3 q57_472 (Or.inl rfl) h4 hu rfl h1 h2
theorem q57_475 : pj_row 57 475 = some (.aload_n 0, 1, 0, 0, 0) := by decide +kernel
theorem s57_475 {st : List Value} {M : pj_Mem} {l : pj_Loc} {x : Nat} : pj_step 57 (475, some (.ref x) :: l, st, M) = some (476, some (.ref x) :: l, .ref x :: st, M) := st_aload_n q57_475 rfl
theorem x57_475 {st : List Value} {M : pj_Mem} {l : pj_Loc} {x : Nat} {o9 : Option Value × pj_Mem} : pj_Ends 57 (475, some (.ref x) :: l, st, M) o9 = pj_Ends 57 (476, some (.ref x) :: l, .ref x :: st, M) o9 := pj_xs (s57_475)
theorem q57_476 : pj_row 57 476 = some (.bipush 6, 2, 0, 0, 0) := by decide +kernel
theorem s57_476 {L : pj_Loc} {st : List Value} {M : pj_Mem}  : pj_step 57 (476, L, st, M) = some (478, L, .int 6 :: st, M) := st_bipush q57_476 (by decide +kernel)
theorem x57_476 {L : pj_Loc} {st : List Value} {M : pj_Mem}  {o9 : Option Value × pj_Mem} : pj_Ends 57 (476, L, st, M) o9 = pj_Ends 57 (478, L, .int 6 :: st, M) o9 := pj_xs (s57_476)
theorem q57_478 : pj_row 57 478 = some (.invokevirtual 28, 3, 10, 2, 0) := by decide +kernel
theorem e57_478 {L : pj_Loc} {st : List Value} {N S : Nat} {H : pj_Heap} {o : Option Value × pj_Mem} {M' : pj_Mem} {x0 : Nat} {x1 : Int32} {r : Int32} (h4 : pj_le4 st = true) (hu : pj_isU 5 (H x0) = true) (h1 : pj_Ends 10 (0, [some (.ref x0), some (.int x1)], [], (N, S, H)) (some (.int r), M')) (h2 : pj_Ends 57 (481, L, .int r :: st, M') o) : pj_Ends 57 (478, L, .int x1 :: .ref x0 :: st, (N, S, H)) o := ec_v2 q57_478 (Or.inl rfl) h4 hu rfl h1 h2
theorem q57_481 : pj_row 57 481 = some (.bipush 6, 2, 0, 0, 0) := by decide +kernel
theorem s57_481 {L : pj_Loc} {st : List Value} {M : pj_Mem}  : pj_step 57 (481, L, st, M) = some (483, L, .int 6 :: st, M) := st_bipush q57_481 (by decide +kernel)
theorem x57_481 {L : pj_Loc} {st : List Value} {M : pj_Mem}  {o9 : Option Value × pj_Mem} : pj_Ends 57 (481, L, st, M) o9 = pj_Ends 57 (483, L, .int 6 :: st, M) o9 := pj_xs (s57_481)
theorem q57_483 : pj_row 57 483 = some (.iadd, 1, 0, 0, 0) := by decide +kernel
theorem s57_483 {L : pj_Loc} {st : List Value} {M : pj_Mem} {x y : Int32} : pj_step 57 (483, L, .int y :: .int x :: st, M) = some (484, L, .int (x + y) :: st, M) := st_iadd q57_483
theorem x57_483 {L : pj_Loc} {st : List Value} {M : pj_Mem} {x y : Int32} {o9 : Option Value × pj_Mem} : pj_Ends 57 (483, L, .int y :: .int x :: st, M) o9 = pj_Ends 57 (484, L, .int (x + y) :: st, M) o9 := pj_xs (s57_483)
theorem q57_484 : pj_row 57 484 = some (.if_icmp .gt 7, 3, 491, 0, 0) := by decide +kernel
theorem s57_484 {L : pj_Loc} {st : List Value} {M : pj_Mem} {x y : Int32} : pj_step 57 (484, L, .int y :: .int x :: st, M) = some (if y < x then 491 else 487, L, st, M) := st_icmp_gt q57_484
theorem x57_484 {L : pj_Loc} {st : List Value} {M : pj_Mem} {x y : Int32} {o9 : Option Value × pj_Mem} : pj_Ends 57 (484, L, .int y :: .int x :: st, M) o9 = pj_Ends 57 (if y < x then 491 else 487, L, st, M) o9 := pj_xs (s57_484)
theorem q57_487 : pj_row 57 487 = some (.iconst 1, 1, 0, 0, 0) := by decide +kernel
theorem s57_487 {L : pj_Loc} {st : List Value} {M : pj_Mem}  : pj_step 57 (487, L, st, M) = some (488, L, .int 1 :: st, M) := st_iconst q57_487 (by decide +kernel)
theorem x57_487 {L : pj_Loc} {st : List Value} {M : pj_Mem}  {o9 : Option Value × pj_Mem} : pj_Ends 57 (487, L, st, M) o9 = pj_Ends 57 (488, L, .int 1 :: st, M) o9 := pj_xs (s57_487)
theorem q57_488 : pj_row 57 488 = some (.goto 4, 3, 492, 0, 0) := by decide +kernel
theorem s57_488 {L : pj_Loc} {st : List Value} {M : pj_Mem}  : pj_step 57 (488, L, st, M) = some (492, L, st, M) := st_goto q57_488
theorem x57_488 {L : pj_Loc} {st : List Value} {M : pj_Mem}  {o9 : Option Value × pj_Mem} : pj_Ends 57 (488, L, st, M) o9 = pj_Ends 57 (492, L, st, M) o9 := pj_xs (s57_488)
theorem q57_491 : pj_row 57 491 = some (.iconst 0, 1, 0, 0, 0) := by decide +kernel
theorem s57_491 {L : pj_Loc} {st : List Value} {M : pj_Mem}  : pj_step 57 (491, L, st, M) = some (492, L, .int 0 :: st, M) := st_iconst q57_491 (by decide +kernel)
theorem x57_491 {L : pj_Loc} {st : List Value} {M : pj_Mem}  {o9 : Option Value × pj_Mem} : pj_Ends 57 (491, L, st, M) o9 = pj_Ends 57 (492, L, .int 0 :: st, M) o9 := pj_xs (s57_491)
theorem q57_492 : pj_row 57 492 = some (.istore 4, 2, 0, 0, 0) := by decide +kernel
theorem s57_492 {st : List Value} {M : pj_Mem} {l : pj_Loc} {a0 a1 a2 a3 a4 : Option Value} {x : Int32} (h : pj_long a3 = false) : pj_step 57 (492, a0 :: a1 :: a2 :: a3 :: a4 :: l, .int x :: st, M) = some (494, a0 :: a1 :: a2 :: a3 :: some (.int x) :: l, st, M) := st_istore q57_492 (pj_st_4 h)
theorem x57_492 {st : List Value} {M : pj_Mem} {l : pj_Loc} {a0 a1 a2 a3 a4 : Option Value} {x : Int32} (h : pj_long a3 = false) {o9 : Option Value × pj_Mem} : pj_Ends 57 (492, a0 :: a1 :: a2 :: a3 :: a4 :: l, .int x :: st, M) o9 = pj_Ends 57 (494, a0 :: a1 :: a2 :: a3 :: some (.int x) :: l, st, M) o9 := pj_xs (s57_492 h)
theorem q57_494 : pj_row 57 494 = some (.iload 4, 2, 0, 0, 0) := by decide +kernel
theorem s57_494 {st : List Value} {M : pj_Mem} {l : pj_Loc} {a0 a1 a2 a3 : Option Value} {x : Int32} : pj_step 57 (494, a0 :: a1 :: a2 :: a3 :: some (.int x) :: l, st, M) = some (496, a0 :: a1 :: a2 :: a3 :: some (.int x) :: l, .int x :: st, M) := st_iload q57_494 rfl
theorem x57_494 {st : List Value} {M : pj_Mem} {l : pj_Loc} {a0 a1 a2 a3 : Option Value} {x : Int32} {o9 : Option Value × pj_Mem} : pj_Ends 57 (494, a0 :: a1 :: a2 :: a3 :: some (.int x) :: l, st, M) o9 = pj_Ends 57 (496, a0 :: a1 :: a2 :: a3 :: some (.int x) :: l, .int x :: st, M) o9 := pj_xs (s57_494)
theorem q57_496 : pj_row 57 496 = some (.ireturn, 1, 0, 0, 0) := by decide +kernel
theorem t57_496 {L : pj_Loc} {M : pj_Mem} {v : Int32} (hv : v = 0 ∨ v = 1) : pj_Ends 57 (496, L, [.int v], M) (some (.int v), M) := pj_Ends.ret q57_496 (pj_rtn_z rt57 hv)
