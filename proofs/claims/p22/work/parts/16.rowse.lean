/-! THE STEPS OF EACH METHOD, by program (wip/whole/gen/gen12.py) -/
theorem rt61 : pj_rt 61 = some .boolean := rfl
theorem q61_0 : pj_row 61 0 = some (.new 20, 3, 5, 0, 0) := by decide +kernel
theorem s61_0 {L : pj_Loc} {st : List Value} {N S : Nat} {H : pj_Heap}  : pj_step 61 (0, L, st, (N, S, H)) = some (3, L, .ref N :: st, (N + 1, S + 8, pj_up H N (.inl (5, [.null, .null, .null, .null, .null, .int 0, .null, .null])))) := (st_new q61_0).trans rfl
theorem x61_0 {L : pj_Loc} {st : List Value} {N S : Nat} {H : pj_Heap}  {o9 : Option Value × pj_Mem} : pj_Ends 61 (0, L, st, (N, S, H)) o9 = pj_Ends 61 (3, L, .ref N :: st, (N + 1, S + 8, pj_up H N (.inl (5, [.null, .null, .null, .null, .null, .int 0, .null, .null])))) o9 := pj_xs (s61_0)
theorem q61_3 : pj_row 61 3 = some (.dup, 1, 0, 0, 0) := by decide +kernel
theorem s61_3 {L : pj_Loc} {st : List Value} {M : pj_Mem} {x : Nat} : pj_step 61 (3, L, .ref x :: st, M) = some (4, L, .ref x :: .ref x :: st, M) := st_dup_ref q61_3
theorem x61_3 {L : pj_Loc} {st : List Value} {M : pj_Mem} {x : Nat} {o9 : Option Value × pj_Mem} : pj_Ends 61 (3, L, .ref x :: st, M) o9 = pj_Ends 61 (4, L, .ref x :: .ref x :: st, M) o9 := pj_xs (s61_3)
theorem s61_3i {L : pj_Loc} {st : List Value} {M : pj_Mem} {x : Int32} : pj_step 61 (3, L, .int x :: st, M) = some (4, L, .int x :: .int x :: st, M) := st_dup_int q61_3
theorem x61_3i {L : pj_Loc} {st : List Value} {M : pj_Mem} {x : Int32} {o9 : Option Value × pj_Mem} : pj_Ends 61 (3, L, .int x :: st, M) o9 = pj_Ends 61 (4, L, .int x :: .int x :: st, M) o9 := pj_xs (s61_3i)
theorem q61_4 : pj_row 61 4 = some (.invokespecial 72, 3, 0, 1, 0) := by decide +kernel
theorem e61_4 {L : pj_Loc} {st : List Value} {N S : Nat} {H : pj_Heap} {o : Option Value × pj_Mem} {M' : pj_Mem} {x0 : Nat} (h4 : pj_le4 st = true) (h1 : pj_Ends 0 (0, [some (.ref x0)], [], (N, S, H)) (none, M')) (h2 : pj_Ends 61 (7, L, st, M') o) : pj_Ends 61 (4, L, .ref x0 :: st, (N, S, H)) o := ec_i1 q61_4 (Or.inl rfl) h4 rfl h1 h2
theorem q61_7 : pj_row 61 7 = some (.astore_n 1, 1, 0, 0, 0) := by decide +kernel
theorem s61_7 {st : List Value} {M : pj_Mem} {l : pj_Loc} {a0 a1 : Option Value} {x : Nat} (h : pj_long a0 = false) : pj_step 61 (7, a0 :: a1 :: l, .ref x :: st, M) = some (8, a0 :: some (.ref x) :: l, st, M) := st_astore_n q61_7 (pj_st_1 h)
theorem x61_7 {st : List Value} {M : pj_Mem} {l : pj_Loc} {a0 a1 : Option Value} {x : Nat} (h : pj_long a0 = false) {o9 : Option Value × pj_Mem} : pj_Ends 61 (7, a0 :: a1 :: l, .ref x :: st, M) o9 = pj_Ends 61 (8, a0 :: some (.ref x) :: l, st, M) o9 := pj_xs (s61_7 h)
theorem q61_8 : pj_row 61 8 = some (.new 20, 3, 5, 0, 0) := by decide +kernel
theorem s61_8 {L : pj_Loc} {st : List Value} {N S : Nat} {H : pj_Heap}  : pj_step 61 (8, L, st, (N, S, H)) = some (11, L, .ref N :: st, (N + 1, S + 8, pj_up H N (.inl (5, [.null, .null, .null, .null, .null, .int 0, .null, .null])))) := (st_new q61_8).trans rfl
theorem x61_8 {L : pj_Loc} {st : List Value} {N S : Nat} {H : pj_Heap}  {o9 : Option Value × pj_Mem} : pj_Ends 61 (8, L, st, (N, S, H)) o9 = pj_Ends 61 (11, L, .ref N :: st, (N + 1, S + 8, pj_up H N (.inl (5, [.null, .null, .null, .null, .null, .int 0, .null, .null])))) o9 := pj_xs (s61_8)
theorem q61_11 : pj_row 61 11 = some (.dup, 1, 0, 0, 0) := by decide +kernel
theorem s61_11 {L : pj_Loc} {st : List Value} {M : pj_Mem} {x : Nat} : pj_step 61 (11, L, .ref x :: st, M) = some (12, L, .ref x :: .ref x :: st, M) := st_dup_ref q61_11
theorem x61_11 {L : pj_Loc} {st : List Value} {M : pj_Mem} {x : Nat} {o9 : Option Value × pj_Mem} : pj_Ends 61 (11, L, .ref x :: st, M) o9 = pj_Ends 61 (12, L, .ref x :: .ref x :: st, M) o9 := pj_xs (s61_11)
theorem s61_11i {L : pj_Loc} {st : List Value} {M : pj_Mem} {x : Int32} : pj_step 61 (11, L, .int x :: st, M) = some (12, L, .int x :: .int x :: st, M) := st_dup_int q61_11
theorem x61_11i {L : pj_Loc} {st : List Value} {M : pj_Mem} {x : Int32} {o9 : Option Value × pj_Mem} : pj_Ends 61 (11, L, .int x :: st, M) o9 = pj_Ends 61 (12, L, .int x :: .int x :: st, M) o9 := pj_xs (s61_11i)
theorem q61_12 : pj_row 61 12 = some (.invokespecial 72, 3, 0, 1, 0) := by decide +kernel
theorem e61_12 {L : pj_Loc} {st : List Value} {N S : Nat} {H : pj_Heap} {o : Option Value × pj_Mem} {M' : pj_Mem} {x0 : Nat} (h4 : pj_le4 st = true) (h1 : pj_Ends 0 (0, [some (.ref x0)], [], (N, S, H)) (none, M')) (h2 : pj_Ends 61 (15, L, st, M') o) : pj_Ends 61 (12, L, .ref x0 :: st, (N, S, H)) o := ec_i1 q61_12 (Or.inl rfl) h4 rfl h1 h2
theorem q61_15 : pj_row 61 15 = some (.astore_n 2, 1, 0, 0, 0) := by decide +kernel
theorem s61_15 {st : List Value} {M : pj_Mem} {l : pj_Loc} {a0 a1 a2 : Option Value} {x : Nat} (h : pj_long a1 = false) : pj_step 61 (15, a0 :: a1 :: a2 :: l, .ref x :: st, M) = some (16, a0 :: a1 :: some (.ref x) :: l, st, M) := st_astore_n q61_15 (pj_st_2 h)
theorem x61_15 {st : List Value} {M : pj_Mem} {l : pj_Loc} {a0 a1 a2 : Option Value} {x : Nat} (h : pj_long a1 = false) {o9 : Option Value × pj_Mem} : pj_Ends 61 (15, a0 :: a1 :: a2 :: l, .ref x :: st, M) o9 = pj_Ends 61 (16, a0 :: a1 :: some (.ref x) :: l, st, M) o9 := pj_xs (s61_15 h)
theorem q61_16 : pj_row 61 16 = some (.aload_n 0, 1, 0, 0, 0) := by decide +kernel
theorem s61_16 {st : List Value} {M : pj_Mem} {l : pj_Loc} {x : Nat} : pj_step 61 (16, some (.ref x) :: l, st, M) = some (17, some (.ref x) :: l, .ref x :: st, M) := st_aload_n q61_16 rfl
theorem x61_16 {st : List Value} {M : pj_Mem} {l : pj_Loc} {x : Nat} {o9 : Option Value × pj_Mem} : pj_Ends 61 (16, some (.ref x) :: l, st, M) o9 = pj_Ends 61 (17, some (.ref x) :: l, .ref x :: st, M) o9 := pj_xs (s61_16)
theorem q61_17 : pj_row 61 17 = some (.iconst 0, 1, 0, 0, 0) := by decide +kernel
theorem s61_17 {L : pj_Loc} {st : List Value} {M : pj_Mem}  : pj_step 61 (17, L, st, M) = some (18, L, .int 0 :: st, M) := st_iconst q61_17 (by decide +kernel)
theorem x61_17 {L : pj_Loc} {st : List Value} {M : pj_Mem}  {o9 : Option Value × pj_Mem} : pj_Ends 61 (17, L, st, M) o9 = pj_Ends 61 (18, L, .int 0 :: st, M) o9 := pj_xs (s61_17)
theorem q61_18 : pj_row 61 18 = some (.invokestatic 73, 3, 39, 2, 0) := by decide +kernel
theorem e61_18 {L : pj_Loc} {st : List Value} {N S : Nat} {H : pj_Heap} {o : Option Value × pj_Mem} {M' : pj_Mem} {x0 : Nat} {x1 : Int32} {r : Int32} (h4 : pj_le4 st = true) (h1 : pj_Ends 39 (0, [some (.ref x0), some (.int x1)], [], (N, S, H)) (some (.int r), M')) (h2 : pj_Ends 61 (21, L, .int r :: st, M') o) : pj_Ends 61 (18, L, .int x1 :: .ref x0 :: st, (N, S, H)) o := ec_s2 q61_18 (Or.inl rfl) h4 rfl h1 h2
theorem q61_21 : pj_row 61 21 = some (.bipush 6, 2, 0, 0, 0) := by decide +kernel
theorem s61_21 {L : pj_Loc} {st : List Value} {M : pj_Mem}  : pj_step 61 (21, L, st, M) = some (23, L, .int 6 :: st, M) := st_bipush q61_21 (by decide +kernel)
theorem x61_21 {L : pj_Loc} {st : List Value} {M : pj_Mem}  {o9 : Option Value × pj_Mem} : pj_Ends 61 (21, L, st, M) o9 = pj_Ends 61 (23, L, .int 6 :: st, M) o9 := pj_xs (s61_21)
theorem q61_23 : pj_row 61 23 = some (.invokestatic 25, 3, 40, 2, 0) := by decide +kernel
theorem e61_23 {L : pj_Loc} {st : List Value} {N S : Nat} {H : pj_Heap} {o : Option Value × pj_Mem} {M' : pj_Mem} {x0 : Int32} {x1 : Int32} {r : Int32} (h4 : pj_le4 st = true) (h1 : pj_Ends 40 (0, [some (.int x0), some (.int x1)], [], (N, S, H)) (some (.int r), M')) (h2 : pj_Ends 61 (26, L, .int r :: st, M') o) : pj_Ends 61 (23, L, .int x1 :: .int x0 :: st, (N, S, H)) o := ec_s2 q61_23 (Or.inl rfl) h4 rfl h1 h2
theorem q61_26 : pj_row 61 26 = some (.istore_n 3, 1, 0, 0, 0) := by decide +kernel
theorem s61_26 {st : List Value} {M : pj_Mem} {l : pj_Loc} {a0 a1 a2 a3 : Option Value} {x : Int32} (h : pj_long a2 = false) : pj_step 61 (26, a0 :: a1 :: a2 :: a3 :: l, .int x :: st, M) = some (27, a0 :: a1 :: a2 :: some (.int x) :: l, st, M) := st_istore_n q61_26 (pj_st_3 h)
theorem x61_26 {st : List Value} {M : pj_Mem} {l : pj_Loc} {a0 a1 a2 a3 : Option Value} {x : Int32} (h : pj_long a2 = false) {o9 : Option Value × pj_Mem} : pj_Ends 61 (26, a0 :: a1 :: a2 :: a3 :: l, .int x :: st, M) o9 = pj_Ends 61 (27, a0 :: a1 :: a2 :: some (.int x) :: l, st, M) o9 := pj_xs (s61_26 h)
theorem q61_27 : pj_row 61 27 = some (.iconst 1, 1, 0, 0, 0) := by decide +kernel
theorem s61_27 {L : pj_Loc} {st : List Value} {M : pj_Mem}  : pj_step 61 (27, L, st, M) = some (28, L, .int 1 :: st, M) := st_iconst q61_27 (by decide +kernel)
theorem x61_27 {L : pj_Loc} {st : List Value} {M : pj_Mem}  {o9 : Option Value × pj_Mem} : pj_Ends 61 (27, L, st, M) o9 = pj_Ends 61 (28, L, .int 1 :: st, M) o9 := pj_xs (s61_27)
theorem q61_28 : pj_row 61 28 = some (.istore 4, 2, 0, 0, 0) := by decide +kernel
theorem s61_28 {st : List Value} {M : pj_Mem} {l : pj_Loc} {a0 a1 a2 a3 a4 : Option Value} {x : Int32} (h : pj_long a3 = false) : pj_step 61 (28, a0 :: a1 :: a2 :: a3 :: a4 :: l, .int x :: st, M) = some (30, a0 :: a1 :: a2 :: a3 :: some (.int x) :: l, st, M) := st_istore q61_28 (pj_st_4 h)
theorem x61_28 {st : List Value} {M : pj_Mem} {l : pj_Loc} {a0 a1 a2 a3 a4 : Option Value} {x : Int32} (h : pj_long a3 = false) {o9 : Option Value × pj_Mem} : pj_Ends 61 (28, a0 :: a1 :: a2 :: a3 :: a4 :: l, .int x :: st, M) o9 = pj_Ends 61 (30, a0 :: a1 :: a2 :: a3 :: some (.int x) :: l, st, M) o9 := pj_xs (s61_28 h)
theorem q61_30 : pj_row 61 30 = some (.iconst 1, 1, 0, 0, 0) := by decide +kernel
theorem s61_30 {L : pj_Loc} {st : List Value} {M : pj_Mem}  : pj_step 61 (30, L, st, M) = some (31, L, .int 1 :: st, M) := st_iconst q61_30 (by decide +kernel)
theorem x61_30 {L : pj_Loc} {st : List Value} {M : pj_Mem}  {o9 : Option Value × pj_Mem} : pj_Ends 61 (30, L, st, M) o9 = pj_Ends 61 (31, L, .int 1 :: st, M) o9 := pj_xs (s61_30)
theorem q61_31 : pj_row 61 31 = some (.istore 5, 2, 0, 0, 0) := by decide +kernel
theorem s61_31 {st : List Value} {M : pj_Mem} {l : pj_Loc} {a0 a1 a2 a3 a4 a5 : Option Value} {x : Int32} (h : pj_long a4 = false) : pj_step 61 (31, a0 :: a1 :: a2 :: a3 :: a4 :: a5 :: l, .int x :: st, M) = some (33, a0 :: a1 :: a2 :: a3 :: a4 :: some (.int x) :: l, st, M) := st_istore q61_31 (pj_st_5 h)
theorem x61_31 {st : List Value} {M : pj_Mem} {l : pj_Loc} {a0 a1 a2 a3 a4 a5 : Option Value} {x : Int32} (h : pj_long a4 = false) {o9 : Option Value × pj_Mem} : pj_Ends 61 (31, a0 :: a1 :: a2 :: a3 :: a4 :: a5 :: l, .int x :: st, M) o9 = pj_Ends 61 (33, a0 :: a1 :: a2 :: a3 :: a4 :: some (.int x) :: l, st, M) o9 := pj_xs (s61_31 h)
theorem q61_33 : pj_row 61 33 = some (.iload 5, 2, 0, 0, 0) := by decide +kernel
theorem s61_33 {st : List Value} {M : pj_Mem} {l : pj_Loc} {a0 a1 a2 a3 a4 : Option Value} {x : Int32} : pj_step 61 (33, a0 :: a1 :: a2 :: a3 :: a4 :: some (.int x) :: l, st, M) = some (35, a0 :: a1 :: a2 :: a3 :: a4 :: some (.int x) :: l, .int x :: st, M) := st_iload q61_33 rfl
theorem x61_33 {st : List Value} {M : pj_Mem} {l : pj_Loc} {a0 a1 a2 a3 a4 : Option Value} {x : Int32} {o9 : Option Value × pj_Mem} : pj_Ends 61 (33, a0 :: a1 :: a2 :: a3 :: a4 :: some (.int x) :: l, st, M) o9 = pj_Ends 61 (35, a0 :: a1 :: a2 :: a3 :: a4 :: some (.int x) :: l, .int x :: st, M) o9 := pj_xs (s61_33)
theorem q61_35 : pj_row 61 35 = some (.bipush 56, 2, 0, 0, 0) := by decide +kernel
theorem s61_35 {L : pj_Loc} {st : List Value} {M : pj_Mem}  : pj_step 61 (35, L, st, M) = some (37, L, .int 56 :: st, M) := st_bipush q61_35 (by decide +kernel)
theorem x61_35 {L : pj_Loc} {st : List Value} {M : pj_Mem}  {o9 : Option Value × pj_Mem} : pj_Ends 61 (35, L, st, M) o9 = pj_Ends 61 (37, L, .int 56 :: st, M) o9 := pj_xs (s61_35)
theorem q61_37 : pj_row 61 37 = some (.if_icmp .ge 54, 3, 91, 0, 0) := by decide +kernel
theorem s61_37 {L : pj_Loc} {st : List Value} {M : pj_Mem} {x y : Int32} : pj_step 61 (37, L, .int y :: .int x :: st, M) = some (if y ≤ x then 91 else 40, L, st, M) := st_icmp_ge q61_37
theorem x61_37 {L : pj_Loc} {st : List Value} {M : pj_Mem} {x y : Int32} {o9 : Option Value × pj_Mem} : pj_Ends 61 (37, L, .int y :: .int x :: st, M) o9 = pj_Ends 61 (if y ≤ x then 91 else 40, L, st, M) o9 := pj_xs (s61_37)
theorem q61_40 : pj_row 61 40 = some (.iload 4, 2, 0, 0, 0) := by decide +kernel
theorem s61_40 {st : List Value} {M : pj_Mem} {l : pj_Loc} {a0 a1 a2 a3 : Option Value} {x : Int32} : pj_step 61 (40, a0 :: a1 :: a2 :: a3 :: some (.int x) :: l, st, M) = some (42, a0 :: a1 :: a2 :: a3 :: some (.int x) :: l, .int x :: st, M) := st_iload q61_40 rfl
theorem x61_40 {st : List Value} {M : pj_Mem} {l : pj_Loc} {a0 a1 a2 a3 : Option Value} {x : Int32} {o9 : Option Value × pj_Mem} : pj_Ends 61 (40, a0 :: a1 :: a2 :: a3 :: some (.int x) :: l, st, M) o9 = pj_Ends 61 (42, a0 :: a1 :: a2 :: a3 :: some (.int x) :: l, .int x :: st, M) o9 := pj_xs (s61_40)
theorem q61_42 : pj_row 61 42 = some (.ifCond .eq 49, 3, 91, 0, 0) := by decide +kernel
theorem s61_42 {L : pj_Loc} {st : List Value} {M : pj_Mem} {x : Int32} : pj_step 61 (42, L, .int x :: st, M) = some (if x = 0 then 91 else 45, L, st, M) := st_if_eq q61_42
theorem x61_42 {L : pj_Loc} {st : List Value} {M : pj_Mem} {x : Int32} {o9 : Option Value × pj_Mem} : pj_Ends 61 (42, L, .int x :: st, M) o9 = pj_Ends 61 (if x = 0 then 91 else 45, L, st, M) o9 := pj_xs (s61_42)
theorem q61_45 : pj_row 61 45 = some (.aload_n 1, 1, 0, 0, 0) := by decide +kernel
theorem s61_45 {st : List Value} {M : pj_Mem} {l : pj_Loc} {a0 : Option Value} {x : Nat} : pj_step 61 (45, a0 :: some (.ref x) :: l, st, M) = some (46, a0 :: some (.ref x) :: l, .ref x :: st, M) := st_aload_n q61_45 rfl
theorem x61_45 {st : List Value} {M : pj_Mem} {l : pj_Loc} {a0 : Option Value} {x : Nat} {o9 : Option Value × pj_Mem} : pj_Ends 61 (45, a0 :: some (.ref x) :: l, st, M) o9 = pj_Ends 61 (46, a0 :: some (.ref x) :: l, .ref x :: st, M) o9 := pj_xs (s61_45)
theorem q61_46 : pj_row 61 46 = some (.aload_n 2, 1, 0, 0, 0) := by decide +kernel
theorem s61_46 {st : List Value} {M : pj_Mem} {l : pj_Loc} {a0 a1 : Option Value} {x : Nat} : pj_step 61 (46, a0 :: a1 :: some (.ref x) :: l, st, M) = some (47, a0 :: a1 :: some (.ref x) :: l, .ref x :: st, M) := st_aload_n q61_46 rfl
theorem x61_46 {st : List Value} {M : pj_Mem} {l : pj_Loc} {a0 a1 : Option Value} {x : Nat} {o9 : Option Value × pj_Mem} : pj_Ends 61 (46, a0 :: a1 :: some (.ref x) :: l, st, M) o9 = pj_Ends 61 (47, a0 :: a1 :: some (.ref x) :: l, .ref x :: st, M) o9 := pj_xs (s61_46)
theorem q61_47 : pj_row 61 47 = some (.iload_n 3, 1, 0, 0, 0) := by decide +kernel
theorem s61_47 {st : List Value} {M : pj_Mem} {l : pj_Loc} {a0 a1 a2 : Option Value} {x : Int32} : pj_step 61 (47, a0 :: a1 :: a2 :: some (.int x) :: l, st, M) = some (48, a0 :: a1 :: a2 :: some (.int x) :: l, .int x :: st, M) := st_iload_n q61_47 rfl
theorem x61_47 {st : List Value} {M : pj_Mem} {l : pj_Loc} {a0 a1 a2 : Option Value} {x : Int32} {o9 : Option Value × pj_Mem} : pj_Ends 61 (47, a0 :: a1 :: a2 :: some (.int x) :: l, st, M) o9 = pj_Ends 61 (48, a0 :: a1 :: a2 :: some (.int x) :: l, .int x :: st, M) o9 := pj_xs (s61_47)
theorem q61_48 : pj_row 61 48 = some (.aload_n 0, 1, 0, 0, 0) := by decide +kernel
theorem s61_48 {st : List Value} {M : pj_Mem} {l : pj_Loc} {x : Nat} : pj_step 61 (48, some (.ref x) :: l, st, M) = some (49, some (.ref x) :: l, .ref x :: st, M) := st_aload_n q61_48 rfl
theorem x61_48 {st : List Value} {M : pj_Mem} {l : pj_Loc} {x : Nat} {o9 : Option Value × pj_Mem} : pj_Ends 61 (48, some (.ref x) :: l, st, M) o9 = pj_Ends 61 (49, some (.ref x) :: l, .ref x :: st, M) o9 := pj_xs (s61_48)
theorem q61_49 : pj_row 61 49 = some (.iload 5, 2, 0, 0, 0) := by decide +kernel
theorem s61_49 {st : List Value} {M : pj_Mem} {l : pj_Loc} {a0 a1 a2 a3 a4 : Option Value} {x : Int32} : pj_step 61 (49, a0 :: a1 :: a2 :: a3 :: a4 :: some (.int x) :: l, st, M) = some (51, a0 :: a1 :: a2 :: a3 :: a4 :: some (.int x) :: l, .int x :: st, M) := st_iload q61_49 rfl
theorem x61_49 {st : List Value} {M : pj_Mem} {l : pj_Loc} {a0 a1 a2 a3 a4 : Option Value} {x : Int32} {o9 : Option Value × pj_Mem} : pj_Ends 61 (49, a0 :: a1 :: a2 :: a3 :: a4 :: some (.int x) :: l, st, M) o9 = pj_Ends 61 (51, a0 :: a1 :: a2 :: a3 :: a4 :: some (.int x) :: l, .int x :: st, M) o9 := pj_xs (s61_49)
theorem q61_51 : pj_row 61 51 = some (.invokestatic 73, 3, 39, 2, 0) := by decide +kernel
theorem e61_51 {L : pj_Loc} {st : List Value} {N S : Nat} {H : pj_Heap} {o : Option Value × pj_Mem} {M' : pj_Mem} {x0 : Nat} {x1 : Int32} {r : Int32} (h4 : pj_le4 st = true) (h1 : pj_Ends 39 (0, [some (.ref x0), some (.int x1)], [], (N, S, H)) (some (.int r), M')) (h2 : pj_Ends 61 (54, L, .int r :: st, M') o) : pj_Ends 61 (51, L, .int x1 :: .ref x0 :: st, (N, S, H)) o := ec_s2 q61_51 (Or.inl rfl) h4 rfl h1 h2
theorem q61_54 : pj_row 61 54 = some (.invokestatic 77, 3, 41, 4, 0) := by decide +kernel
theorem e61_54 {L : pj_Loc} {st : List Value} {N S : Nat} {H : pj_Heap} {o : Option Value × pj_Mem} {M' : pj_Mem} {x0 : Nat} {x1 : Nat} {x2 : Int32} {x3 : Int32} {r : Int32} (h4 : pj_le4 st = true) (h1 : pj_Ends 41 (0, [some (.ref x0), some (.ref x1), some (.int x2), some (.int x3), none, none, none], [], (N, S, H)) (some (.int r), M')) (h2 : pj_Ends 61 (57, L, .int r :: st, M') o) : pj_Ends 61 (54, L, .int x3 :: .int x2 :: .ref x1 :: .ref x0 :: st, (N, S, H)) o := ec_s4 q61_54 (Or.inl rfl) h4 rfl h1 h2
theorem q61_57 : pj_row 61 57 = some (.ifCond .eq 25, 3, 82, 0, 0) := by decide +kernel
theorem s61_57 {L : pj_Loc} {st : List Value} {M : pj_Mem} {x : Int32} : pj_step 61 (57, L, .int x :: st, M) = some (if x = 0 then 82 else 60, L, st, M) := st_if_eq q61_57
theorem x61_57 {L : pj_Loc} {st : List Value} {M : pj_Mem} {x : Int32} {o9 : Option Value × pj_Mem} : pj_Ends 61 (57, L, .int x :: st, M) o9 = pj_Ends 61 (if x = 0 then 82 else 60, L, st, M) o9 := pj_xs (s61_57)
theorem q61_60 : pj_row 61 60 = some (.aload_n 1, 1, 0, 0, 0) := by decide +kernel
theorem s61_60 {st : List Value} {M : pj_Mem} {l : pj_Loc} {a0 : Option Value} {x : Nat} : pj_step 61 (60, a0 :: some (.ref x) :: l, st, M) = some (61, a0 :: some (.ref x) :: l, .ref x :: st, M) := st_aload_n q61_60 rfl
theorem x61_60 {st : List Value} {M : pj_Mem} {l : pj_Loc} {a0 : Option Value} {x : Nat} {o9 : Option Value × pj_Mem} : pj_Ends 61 (60, a0 :: some (.ref x) :: l, st, M) o9 = pj_Ends 61 (61, a0 :: some (.ref x) :: l, .ref x :: st, M) o9 := pj_xs (s61_60)
theorem q61_61 : pj_row 61 61 = some (.aload_n 2, 1, 0, 0, 0) := by decide +kernel
theorem s61_61 {st : List Value} {M : pj_Mem} {l : pj_Loc} {a0 a1 : Option Value} {x : Nat} : pj_step 61 (61, a0 :: a1 :: some (.ref x) :: l, st, M) = some (62, a0 :: a1 :: some (.ref x) :: l, .ref x :: st, M) := st_aload_n q61_61 rfl
theorem x61_61 {st : List Value} {M : pj_Mem} {l : pj_Loc} {a0 a1 : Option Value} {x : Nat} {o9 : Option Value × pj_Mem} : pj_Ends 61 (61, a0 :: a1 :: some (.ref x) :: l, st, M) o9 = pj_Ends 61 (62, a0 :: a1 :: some (.ref x) :: l, .ref x :: st, M) o9 := pj_xs (s61_61)
theorem q61_62 : pj_row 61 62 = some (.iload_n 3, 1, 0, 0, 0) := by decide +kernel
theorem s61_62 {st : List Value} {M : pj_Mem} {l : pj_Loc} {a0 a1 a2 : Option Value} {x : Int32} : pj_step 61 (62, a0 :: a1 :: a2 :: some (.int x) :: l, st, M) = some (63, a0 :: a1 :: a2 :: some (.int x) :: l, .int x :: st, M) := st_iload_n q61_62 rfl
theorem x61_62 {st : List Value} {M : pj_Mem} {l : pj_Loc} {a0 a1 a2 : Option Value} {x : Int32} {o9 : Option Value × pj_Mem} : pj_Ends 61 (62, a0 :: a1 :: a2 :: some (.int x) :: l, st, M) o9 = pj_Ends 61 (63, a0 :: a1 :: a2 :: some (.int x) :: l, .int x :: st, M) o9 := pj_xs (s61_62)
theorem q61_63 : pj_row 61 63 = some (.aload_n 0, 1, 0, 0, 0) := by decide +kernel
theorem s61_63 {st : List Value} {M : pj_Mem} {l : pj_Loc} {x : Nat} : pj_step 61 (63, some (.ref x) :: l, st, M) = some (64, some (.ref x) :: l, .ref x :: st, M) := st_aload_n q61_63 rfl
theorem x61_63 {st : List Value} {M : pj_Mem} {l : pj_Loc} {x : Nat} {o9 : Option Value × pj_Mem} : pj_Ends 61 (63, some (.ref x) :: l, st, M) o9 = pj_Ends 61 (64, some (.ref x) :: l, .ref x :: st, M) o9 := pj_xs (s61_63)
theorem q61_64 : pj_row 61 64 = some (.iload 5, 2, 0, 0, 0) := by decide +kernel
theorem s61_64 {st : List Value} {M : pj_Mem} {l : pj_Loc} {a0 a1 a2 a3 a4 : Option Value} {x : Int32} : pj_step 61 (64, a0 :: a1 :: a2 :: a3 :: a4 :: some (.int x) :: l, st, M) = some (66, a0 :: a1 :: a2 :: a3 :: a4 :: some (.int x) :: l, .int x :: st, M) := st_iload q61_64 rfl
theorem x61_64 {st : List Value} {M : pj_Mem} {l : pj_Loc} {a0 a1 a2 a3 a4 : Option Value} {x : Int32} {o9 : Option Value × pj_Mem} : pj_Ends 61 (64, a0 :: a1 :: a2 :: a3 :: a4 :: some (.int x) :: l, st, M) o9 = pj_Ends 61 (66, a0 :: a1 :: a2 :: a3 :: a4 :: some (.int x) :: l, .int x :: st, M) o9 := pj_xs (s61_64)
theorem q61_66 : pj_row 61 66 = some (.invokestatic 73, 3, 39, 2, 0) := by decide +kernel
theorem e61_66 {L : pj_Loc} {st : List Value} {N S : Nat} {H : pj_Heap} {o : Option Value × pj_Mem} {M' : pj_Mem} {x0 : Nat} {x1 : Int32} {r : Int32} (h4 : pj_le4 st = true) (h1 : pj_Ends 39 (0, [some (.ref x0), some (.int x1)], [], (N, S, H)) (some (.int r), M')) (h2 : pj_Ends 61 (69, L, .int r :: st, M') o) : pj_Ends 61 (66, L, .int x1 :: .ref x0 :: st, (N, S, H)) o := ec_s2 q61_66 (Or.inl rfl) h4 rfl h1 h2
theorem q61_69 : pj_row 61 69 = some (.bipush 9, 2, 0, 0, 0) := by decide +kernel
theorem s61_69 {L : pj_Loc} {st : List Value} {M : pj_Mem}  : pj_step 61 (69, L, st, M) = some (71, L, .int 9 :: st, M) := st_bipush q61_69 (by decide +kernel)
theorem x61_69 {L : pj_Loc} {st : List Value} {M : pj_Mem}  {o9 : Option Value × pj_Mem} : pj_Ends 61 (69, L, st, M) o9 = pj_Ends 61 (71, L, .int 9 :: st, M) o9 := pj_xs (s61_69)
theorem q61_71 : pj_row 61 71 = some (.ishr, 1, 0, 0, 0) := by decide +kernel
theorem s61_71 {L : pj_Loc} {st : List Value} {M : pj_Mem} {x y : Int32} : pj_step 61 (71, L, .int y :: .int x :: st, M) = some (72, L, .int (x >>> (y &&& 31)) :: st, M) := st_ishr q61_71
theorem x61_71 {L : pj_Loc} {st : List Value} {M : pj_Mem} {x y : Int32} {o9 : Option Value × pj_Mem} : pj_Ends 61 (71, L, .int y :: .int x :: st, M) o9 = pj_Ends 61 (72, L, .int (x >>> (y &&& 31)) :: st, M) o9 := pj_xs (s61_71)
theorem q61_72 : pj_row 61 72 = some (.invokestatic 80, 3, 57, 4, 0) := by decide +kernel
theorem e61_72 {L : pj_Loc} {st : List Value} {N S : Nat} {H : pj_Heap} {o : Option Value × pj_Mem} {M' : pj_Mem} {x0 : Nat} {x1 : Nat} {x2 : Int32} {x3 : Int32} {r : Int32} (h4 : pj_le4 st = true) (h1 : pj_Ends 57 (0, [some (.ref x0), some (.ref x1), some (.int x2), some (.int x3), none, none, none], [], (N, S, H)) (some (.int r), M')) (h2 : pj_Ends 61 (75, L, .int r :: st, M') o) : pj_Ends 61 (72, L, .int x3 :: .int x2 :: .ref x1 :: .ref x0 :: st, (N, S, H)) o := ec_s4 q61_72 (Or.inl rfl) h4 rfl h1 h2
theorem q61_75 : pj_row 61 75 = some (.ifCond .eq 7, 3, 82, 0, 0) := by decide +kernel
theorem s61_75 {L : pj_Loc} {st : List Value} {M : pj_Mem} {x : Int32} : pj_step 61 (75, L, .int x :: st, M) = some (if x = 0 then 82 else 78, L, st, M) := st_if_eq q61_75
theorem x61_75 {L : pj_Loc} {st : List Value} {M : pj_Mem} {x : Int32} {o9 : Option Value × pj_Mem} : pj_Ends 61 (75, L, .int x :: st, M) o9 = pj_Ends 61 (if x = 0 then 82 else 78, L, st, M) o9 := pj_xs (s61_75)
theorem q61_78 : pj_row 61 78 = some (.iconst 1, 1, 0, 0, 0) := by decide +kernel
theorem s61_78 {L : pj_Loc} {st : List Value} {M : pj_Mem}  : pj_step 61 (78, L, st, M) = some (79, L, .int 1 :: st, M) := st_iconst q61_78 (by decide +kernel)
theorem x61_78 {L : pj_Loc} {st : List Value} {M : pj_Mem}  {o9 : Option Value × pj_Mem} : pj_Ends 61 (78, L, st, M) o9 = pj_Ends 61 (79, L, .int 1 :: st, M) o9 := pj_xs (s61_78)
theorem q61_79 : pj_row 61 79 = some (.goto 4, 3, 83, 0, 0) := by decide +kernel
theorem s61_79 {L : pj_Loc} {st : List Value} {M : pj_Mem}  : pj_step 61 (79, L, st, M) = some (83, L, st, M) := st_goto q61_79
theorem x61_79 {L : pj_Loc} {st : List Value} {M : pj_Mem}  {o9 : Option Value × pj_Mem} : pj_Ends 61 (79, L, st, M) o9 = pj_Ends 61 (83, L, st, M) o9 := pj_xs (s61_79)
theorem q61_82 : pj_row 61 82 = some (.iconst 0, 1, 0, 0, 0) := by decide +kernel
theorem s61_82 {L : pj_Loc} {st : List Value} {M : pj_Mem}  : pj_step 61 (82, L, st, M) = some (83, L, .int 0 :: st, M) := st_iconst q61_82 (by decide +kernel)
theorem x61_82 {L : pj_Loc} {st : List Value} {M : pj_Mem}  {o9 : Option Value × pj_Mem} : pj_Ends 61 (82, L, st, M) o9 = pj_Ends 61 (83, L, .int 0 :: st, M) o9 := pj_xs (s61_82)
theorem q61_83 : pj_row 61 83 = some (.istore 4, 2, 0, 0, 0) := by decide +kernel
theorem s61_83 {st : List Value} {M : pj_Mem} {l : pj_Loc} {a0 a1 a2 a3 a4 : Option Value} {x : Int32} (h : pj_long a3 = false) : pj_step 61 (83, a0 :: a1 :: a2 :: a3 :: a4 :: l, .int x :: st, M) = some (85, a0 :: a1 :: a2 :: a3 :: some (.int x) :: l, st, M) := st_istore q61_83 (pj_st_4 h)
theorem x61_83 {st : List Value} {M : pj_Mem} {l : pj_Loc} {a0 a1 a2 a3 a4 : Option Value} {x : Int32} (h : pj_long a3 = false) {o9 : Option Value × pj_Mem} : pj_Ends 61 (83, a0 :: a1 :: a2 :: a3 :: a4 :: l, .int x :: st, M) o9 = pj_Ends 61 (85, a0 :: a1 :: a2 :: a3 :: some (.int x) :: l, st, M) o9 := pj_xs (s61_83 h)
theorem q61_85 : pj_row 61 85 = some (.iinc 5 1, 3, 0, 0, 0) := by decide +kernel
theorem s61_85 {st : List Value} {M : pj_Mem} {l : pj_Loc} {a0 a1 a2 a3 a4 : Option Value} {x : Int32} (h : pj_long a4 = false) : pj_step 61 (85, a0 :: a1 :: a2 :: a3 :: a4 :: some (.int x) :: l, st, M) = some (88, a0 :: a1 :: a2 :: a3 :: a4 :: some (.int (x + 1)) :: l, st, M) := st_iinc q61_85 rfl (congrArg (fun y => x + y) (show Int32.ofInt 1 = 1 by decide +kernel)) (pj_st_5 h)
theorem x61_85 {st : List Value} {M : pj_Mem} {l : pj_Loc} {a0 a1 a2 a3 a4 : Option Value} {x : Int32} (h : pj_long a4 = false) {o9 : Option Value × pj_Mem} : pj_Ends 61 (85, a0 :: a1 :: a2 :: a3 :: a4 :: some (.int x) :: l, st, M) o9 = pj_Ends 61 (88, a0 :: a1 :: a2 :: a3 :: a4 :: some (.int (x + 1)) :: l, st, M) o9 := pj_xs (s61_85 h)
theorem q61_88 : pj_row 61 88 = some (.goto (-55), 3, 33, 0, 0) := by decide +kernel
theorem s61_88 {L : pj_Loc} {st : List Value} {M : pj_Mem}  : pj_step 61 (88, L, st, M) = some (33, L, st, M) := st_goto q61_88
theorem x61_88 {L : pj_Loc} {st : List Value} {M : pj_Mem}  {o9 : Option Value × pj_Mem} : pj_Ends 61 (88, L, st, M) o9 = pj_Ends 61 (33, L, st, M) o9 := pj_xs (s61_88)
theorem q61_91 : pj_row 61 91 = some (.aload_n 0, 1, 0, 0, 0) := by decide +kernel
theorem s61_91 {st : List Value} {M : pj_Mem} {l : pj_Loc} {x : Nat} : pj_step 61 (91, some (.ref x) :: l, st, M) = some (92, some (.ref x) :: l, .ref x :: st, M) := st_aload_n q61_91 rfl
theorem x61_91 {st : List Value} {M : pj_Mem} {l : pj_Loc} {x : Nat} {o9 : Option Value × pj_Mem} : pj_Ends 61 (91, some (.ref x) :: l, st, M) o9 = pj_Ends 61 (92, some (.ref x) :: l, .ref x :: st, M) o9 := pj_xs (s61_91)
theorem q61_92 : pj_row 61 92 = some (.bipush 56, 2, 0, 0, 0) := by decide +kernel
theorem s61_92 {L : pj_Loc} {st : List Value} {M : pj_Mem}  : pj_step 61 (92, L, st, M) = some (94, L, .int 56 :: st, M) := st_bipush q61_92 (by decide +kernel)
theorem x61_92 {L : pj_Loc} {st : List Value} {M : pj_Mem}  {o9 : Option Value × pj_Mem} : pj_Ends 61 (92, L, st, M) o9 = pj_Ends 61 (94, L, .int 56 :: st, M) o9 := pj_xs (s61_92)
theorem q61_94 : pj_row 61 94 = some (.invokestatic 73, 3, 39, 2, 0) := by decide +kernel
theorem e61_94 {L : pj_Loc} {st : List Value} {N S : Nat} {H : pj_Heap} {o : Option Value × pj_Mem} {M' : pj_Mem} {x0 : Nat} {x1 : Int32} {r : Int32} (h4 : pj_le4 st = true) (h1 : pj_Ends 39 (0, [some (.ref x0), some (.int x1)], [], (N, S, H)) (some (.int r), M')) (h2 : pj_Ends 61 (97, L, .int r :: st, M') o) : pj_Ends 61 (94, L, .int x1 :: .ref x0 :: st, (N, S, H)) o := ec_s2 q61_94 (Or.inl rfl) h4 rfl h1 h2
theorem q61_97 : pj_row 61 97 = some (.iconst 3, 1, 0, 0, 0) := by decide +kernel
theorem s61_97 {L : pj_Loc} {st : List Value} {M : pj_Mem}  : pj_step 61 (97, L, st, M) = some (98, L, .int 3 :: st, M) := st_iconst q61_97 (by decide +kernel)
theorem x61_97 {L : pj_Loc} {st : List Value} {M : pj_Mem}  {o9 : Option Value × pj_Mem} : pj_Ends 61 (97, L, st, M) o9 = pj_Ends 61 (98, L, .int 3 :: st, M) o9 := pj_xs (s61_97)
theorem q61_98 : pj_row 61 98 = some (.invokestatic 25, 3, 40, 2, 0) := by decide +kernel
theorem e61_98 {L : pj_Loc} {st : List Value} {N S : Nat} {H : pj_Heap} {o : Option Value × pj_Mem} {M' : pj_Mem} {x0 : Int32} {x1 : Int32} {r : Int32} (h4 : pj_le4 st = true) (h1 : pj_Ends 40 (0, [some (.int x0), some (.int x1)], [], (N, S, H)) (some (.int r), M')) (h2 : pj_Ends 61 (101, L, .int r :: st, M') o) : pj_Ends 61 (98, L, .int x1 :: .int x0 :: st, (N, S, H)) o := ec_s2 q61_98 (Or.inl rfl) h4 rfl h1 h2
theorem q61_101 : pj_row 61 101 = some (.istore 5, 2, 0, 0, 0) := by decide +kernel
theorem s61_101 {st : List Value} {M : pj_Mem} {l : pj_Loc} {a0 a1 a2 a3 a4 a5 : Option Value} {x : Int32} (h : pj_long a4 = false) : pj_step 61 (101, a0 :: a1 :: a2 :: a3 :: a4 :: a5 :: l, .int x :: st, M) = some (103, a0 :: a1 :: a2 :: a3 :: a4 :: some (.int x) :: l, st, M) := st_istore q61_101 (pj_st_5 h)
theorem x61_101 {st : List Value} {M : pj_Mem} {l : pj_Loc} {a0 a1 a2 a3 a4 a5 : Option Value} {x : Int32} (h : pj_long a4 = false) {o9 : Option Value × pj_Mem} : pj_Ends 61 (101, a0 :: a1 :: a2 :: a3 :: a4 :: a5 :: l, .int x :: st, M) o9 = pj_Ends 61 (103, a0 :: a1 :: a2 :: a3 :: a4 :: some (.int x) :: l, st, M) o9 := pj_xs (s61_101 h)
theorem q61_103 : pj_row 61 103 = some (.aload_n 0, 1, 0, 0, 0) := by decide +kernel
theorem s61_103 {st : List Value} {M : pj_Mem} {l : pj_Loc} {x : Nat} : pj_step 61 (103, some (.ref x) :: l, st, M) = some (104, some (.ref x) :: l, .ref x :: st, M) := st_aload_n q61_103 rfl
theorem x61_103 {st : List Value} {M : pj_Mem} {l : pj_Loc} {x : Nat} {o9 : Option Value × pj_Mem} : pj_Ends 61 (103, some (.ref x) :: l, st, M) o9 = pj_Ends 61 (104, some (.ref x) :: l, .ref x :: st, M) o9 := pj_xs (s61_103)
theorem q61_104 : pj_row 61 104 = some (.bipush 57, 2, 0, 0, 0) := by decide +kernel
theorem s61_104 {L : pj_Loc} {st : List Value} {M : pj_Mem}  : pj_step 61 (104, L, st, M) = some (106, L, .int 57 :: st, M) := st_bipush q61_104 (by decide +kernel)
theorem x61_104 {L : pj_Loc} {st : List Value} {M : pj_Mem}  {o9 : Option Value × pj_Mem} : pj_Ends 61 (104, L, st, M) o9 = pj_Ends 61 (106, L, .int 57 :: st, M) o9 := pj_xs (s61_104)
theorem q61_106 : pj_row 61 106 = some (.invokestatic 73, 3, 39, 2, 0) := by decide +kernel
theorem e61_106 {L : pj_Loc} {st : List Value} {N S : Nat} {H : pj_Heap} {o : Option Value × pj_Mem} {M' : pj_Mem} {x0 : Nat} {x1 : Int32} {r : Int32} (h4 : pj_le4 st = true) (h1 : pj_Ends 39 (0, [some (.ref x0), some (.int x1)], [], (N, S, H)) (some (.int r), M')) (h2 : pj_Ends 61 (109, L, .int r :: st, M') o) : pj_Ends 61 (106, L, .int x1 :: .ref x0 :: st, (N, S, H)) o := ec_s2 q61_106 (Or.inl rfl) h4 rfl h1 h2
theorem q61_109 : pj_row 61 109 = some (.sipush 501, 3, 0, 0, 0) := by decide +kernel
theorem s61_109 {L : pj_Loc} {st : List Value} {M : pj_Mem}  : pj_step 61 (109, L, st, M) = some (112, L, .int 501 :: st, M) := st_sipush q61_109 (by decide +kernel)
theorem x61_109 {L : pj_Loc} {st : List Value} {M : pj_Mem}  {o9 : Option Value × pj_Mem} : pj_Ends 61 (109, L, st, M) o9 = pj_Ends 61 (112, L, .int 501 :: st, M) o9 := pj_xs (s61_109)
theorem q61_112 : pj_row 61 112 = some (.invokestatic 25, 3, 40, 2, 0) := by decide +kernel
theorem e61_112 {L : pj_Loc} {st : List Value} {N S : Nat} {H : pj_Heap} {o : Option Value × pj_Mem} {M' : pj_Mem} {x0 : Int32} {x1 : Int32} {r : Int32} (h4 : pj_le4 st = true) (h1 : pj_Ends 40 (0, [some (.int x0), some (.int x1)], [], (N, S, H)) (some (.int r), M')) (h2 : pj_Ends 61 (115, L, .int r :: st, M') o) : pj_Ends 61 (112, L, .int x1 :: .int x0 :: st, (N, S, H)) o := ec_s2 q61_112 (Or.inl rfl) h4 rfl h1 h2
theorem q61_115 : pj_row 61 115 = some (.istore 6, 2, 0, 0, 0) := by decide +kernel
theorem s61_115 {st : List Value} {M : pj_Mem} {l : pj_Loc} {a0 a1 a2 a3 a4 a5 a6 : Option Value} {x : Int32} (h : pj_long a5 = false) : pj_step 61 (115, a0 :: a1 :: a2 :: a3 :: a4 :: a5 :: a6 :: l, .int x :: st, M) = some (117, a0 :: a1 :: a2 :: a3 :: a4 :: a5 :: some (.int x) :: l, st, M) := st_istore q61_115 (pj_st_6 h)
theorem x61_115 {st : List Value} {M : pj_Mem} {l : pj_Loc} {a0 a1 a2 a3 a4 a5 a6 : Option Value} {x : Int32} (h : pj_long a5 = false) {o9 : Option Value × pj_Mem} : pj_Ends 61 (115, a0 :: a1 :: a2 :: a3 :: a4 :: a5 :: a6 :: l, .int x :: st, M) o9 = pj_Ends 61 (117, a0 :: a1 :: a2 :: a3 :: a4 :: a5 :: some (.int x) :: l, st, M) o9 := pj_xs (s61_115 h)
theorem q61_117 : pj_row 61 117 = some (.iload 4, 2, 0, 0, 0) := by decide +kernel
theorem s61_117 {st : List Value} {M : pj_Mem} {l : pj_Loc} {a0 a1 a2 a3 : Option Value} {x : Int32} : pj_step 61 (117, a0 :: a1 :: a2 :: a3 :: some (.int x) :: l, st, M) = some (119, a0 :: a1 :: a2 :: a3 :: some (.int x) :: l, .int x :: st, M) := st_iload q61_117 rfl
theorem x61_117 {st : List Value} {M : pj_Mem} {l : pj_Loc} {a0 a1 a2 a3 : Option Value} {x : Int32} {o9 : Option Value × pj_Mem} : pj_Ends 61 (117, a0 :: a1 :: a2 :: a3 :: some (.int x) :: l, st, M) o9 = pj_Ends 61 (119, a0 :: a1 :: a2 :: a3 :: some (.int x) :: l, .int x :: st, M) o9 := pj_xs (s61_117)
theorem q61_119 : pj_row 61 119 = some (.ifCond .eq 81, 3, 200, 0, 0) := by decide +kernel
theorem s61_119 {L : pj_Loc} {st : List Value} {M : pj_Mem} {x : Int32} : pj_step 61 (119, L, .int x :: st, M) = some (if x = 0 then 200 else 122, L, st, M) := st_if_eq q61_119
theorem x61_119 {L : pj_Loc} {st : List Value} {M : pj_Mem} {x : Int32} {o9 : Option Value × pj_Mem} : pj_Ends 61 (119, L, .int x :: st, M) o9 = pj_Ends 61 (if x = 0 then 200 else 122, L, st, M) o9 := pj_xs (s61_119)
theorem q61_122 : pj_row 61 122 = some (.aload_n 1, 1, 0, 0, 0) := by decide +kernel
theorem s61_122 {st : List Value} {M : pj_Mem} {l : pj_Loc} {a0 : Option Value} {x : Nat} : pj_step 61 (122, a0 :: some (.ref x) :: l, st, M) = some (123, a0 :: some (.ref x) :: l, .ref x :: st, M) := st_aload_n q61_122 rfl
theorem x61_122 {st : List Value} {M : pj_Mem} {l : pj_Loc} {a0 : Option Value} {x : Nat} {o9 : Option Value × pj_Mem} : pj_Ends 61 (122, a0 :: some (.ref x) :: l, st, M) o9 = pj_Ends 61 (123, a0 :: some (.ref x) :: l, .ref x :: st, M) o9 := pj_xs (s61_122)
theorem q61_123 : pj_row 61 123 = some (.iload 5, 2, 0, 0, 0) := by decide +kernel
theorem s61_123 {st : List Value} {M : pj_Mem} {l : pj_Loc} {a0 a1 a2 a3 a4 : Option Value} {x : Int32} : pj_step 61 (123, a0 :: a1 :: a2 :: a3 :: a4 :: some (.int x) :: l, st, M) = some (125, a0 :: a1 :: a2 :: a3 :: a4 :: some (.int x) :: l, .int x :: st, M) := st_iload q61_123 rfl
theorem x61_123 {st : List Value} {M : pj_Mem} {l : pj_Loc} {a0 a1 a2 a3 a4 : Option Value} {x : Int32} {o9 : Option Value × pj_Mem} : pj_Ends 61 (123, a0 :: a1 :: a2 :: a3 :: a4 :: some (.int x) :: l, st, M) o9 = pj_Ends 61 (125, a0 :: a1 :: a2 :: a3 :: a4 :: some (.int x) :: l, .int x :: st, M) o9 := pj_xs (s61_123)
theorem q61_125 : pj_row 61 125 = some (.iconst 1, 1, 0, 0, 0) := by decide +kernel
theorem s61_125 {L : pj_Loc} {st : List Value} {M : pj_Mem}  : pj_step 61 (125, L, st, M) = some (126, L, .int 1 :: st, M) := st_iconst q61_125 (by decide +kernel)
theorem x61_125 {L : pj_Loc} {st : List Value} {M : pj_Mem}  {o9 : Option Value × pj_Mem} : pj_Ends 61 (125, L, st, M) o9 = pj_Ends 61 (126, L, .int 1 :: st, M) o9 := pj_xs (s61_125)
theorem q61_126 : pj_row 61 126 = some (.invokevirtual 83, 3, 14, 3, 0) := by decide +kernel
theorem e61_126 {L : pj_Loc} {st : List Value} {N S : Nat} {H : pj_Heap} {o : Option Value × pj_Mem} {M' : pj_Mem} {x0 : Nat} {x1 : Int32} {x2 : Int32} {r : Int32} (h4 : pj_le4 st = true) (hu : pj_isU 5 (H x0) = true) (h1 : pj_Ends 14 (0, [some (.ref x0), some (.int x1), some (.int x2), none], [], (N, S, H)) (some (.int r), M')) (h2 : pj_Ends 61 (129, L, .int r :: st, M') o) : pj_Ends 61 (126, L, .int x2 :: .int x1 :: .ref x0 :: st, (N, S, H)) o := ec_v3 q61_126 (Or.inl rfl) h4 hu rfl h1 h2
theorem q61_129 : pj_row 61 129 = some (.aload_n 2, 1, 0, 0, 0) := by decide +kernel
theorem s61_129 {st : List Value} {M : pj_Mem} {l : pj_Loc} {a0 a1 : Option Value} {x : Nat} : pj_step 61 (129, a0 :: a1 :: some (.ref x) :: l, st, M) = some (130, a0 :: a1 :: some (.ref x) :: l, .ref x :: st, M) := st_aload_n q61_129 rfl
theorem x61_129 {st : List Value} {M : pj_Mem} {l : pj_Loc} {a0 a1 : Option Value} {x : Nat} {o9 : Option Value × pj_Mem} : pj_Ends 61 (129, a0 :: a1 :: some (.ref x) :: l, st, M) o9 = pj_Ends 61 (130, a0 :: a1 :: some (.ref x) :: l, .ref x :: st, M) o9 := pj_xs (s61_129)
theorem q61_130 : pj_row 61 130 = some (.iload 5, 2, 0, 0, 0) := by decide +kernel
theorem s61_130 {st : List Value} {M : pj_Mem} {l : pj_Loc} {a0 a1 a2 a3 a4 : Option Value} {x : Int32} : pj_step 61 (130, a0 :: a1 :: a2 :: a3 :: a4 :: some (.int x) :: l, st, M) = some (132, a0 :: a1 :: a2 :: a3 :: a4 :: some (.int x) :: l, .int x :: st, M) := st_iload q61_130 rfl
theorem x61_130 {st : List Value} {M : pj_Mem} {l : pj_Loc} {a0 a1 a2 a3 a4 : Option Value} {x : Int32} {o9 : Option Value × pj_Mem} : pj_Ends 61 (130, a0 :: a1 :: a2 :: a3 :: a4 :: some (.int x) :: l, st, M) o9 = pj_Ends 61 (132, a0 :: a1 :: a2 :: a3 :: a4 :: some (.int x) :: l, .int x :: st, M) o9 := pj_xs (s61_130)
theorem q61_132 : pj_row 61 132 = some (.iconst 1, 1, 0, 0, 0) := by decide +kernel
theorem s61_132 {L : pj_Loc} {st : List Value} {M : pj_Mem}  : pj_step 61 (132, L, st, M) = some (133, L, .int 1 :: st, M) := st_iconst q61_132 (by decide +kernel)
theorem x61_132 {L : pj_Loc} {st : List Value} {M : pj_Mem}  {o9 : Option Value × pj_Mem} : pj_Ends 61 (132, L, st, M) o9 = pj_Ends 61 (133, L, .int 1 :: st, M) o9 := pj_xs (s61_132)
theorem q61_133 : pj_row 61 133 = some (.invokevirtual 83, 3, 14, 3, 0) := by decide +kernel
theorem e61_133 {L : pj_Loc} {st : List Value} {N S : Nat} {H : pj_Heap} {o : Option Value × pj_Mem} {M' : pj_Mem} {x0 : Nat} {x1 : Int32} {x2 : Int32} {r : Int32} (h4 : pj_le4 st = true) (hu : pj_isU 5 (H x0) = true) (h1 : pj_Ends 14 (0, [some (.ref x0), some (.int x1), some (.int x2), none], [], (N, S, H)) (some (.int r), M')) (h2 : pj_Ends 61 (136, L, .int r :: st, M') o) : pj_Ends 61 (133, L, .int x2 :: .int x1 :: .ref x0 :: st, (N, S, H)) o := ec_v3 q61_133 (Or.inl rfl) h4 hu rfl h1 h2
theorem q61_136 : pj_row 61 136 = some (.if_icmp .ne 64, 3, 200, 0, 0) := by decide +kernel
theorem s61_136 {L : pj_Loc} {st : List Value} {M : pj_Mem} {x y : Int32} : pj_step 61 (136, L, .int y :: .int x :: st, M) = some (if ¬ x = y then 200 else 139, L, st, M) := st_icmp_ne q61_136
theorem x61_136 {L : pj_Loc} {st : List Value} {M : pj_Mem} {x y : Int32} {o9 : Option Value × pj_Mem} : pj_Ends 61 (136, L, .int y :: .int x :: st, M) o9 = pj_Ends 61 (if ¬ x = y then 200 else 139, L, st, M) o9 := pj_xs (s61_136)
theorem q61_139 : pj_row 61 139 = some (.aload_n 1, 1, 0, 0, 0) := by decide +kernel
theorem s61_139 {st : List Value} {M : pj_Mem} {l : pj_Loc} {a0 : Option Value} {x : Nat} : pj_step 61 (139, a0 :: some (.ref x) :: l, st, M) = some (140, a0 :: some (.ref x) :: l, .ref x :: st, M) := st_aload_n q61_139 rfl
theorem x61_139 {st : List Value} {M : pj_Mem} {l : pj_Loc} {a0 : Option Value} {x : Nat} {o9 : Option Value × pj_Mem} : pj_Ends 61 (139, a0 :: some (.ref x) :: l, st, M) o9 = pj_Ends 61 (140, a0 :: some (.ref x) :: l, .ref x :: st, M) o9 := pj_xs (s61_139)
theorem q61_140 : pj_row 61 140 = some (.iload 5, 2, 0, 0, 0) := by decide +kernel
theorem s61_140 {st : List Value} {M : pj_Mem} {l : pj_Loc} {a0 a1 a2 a3 a4 : Option Value} {x : Int32} : pj_step 61 (140, a0 :: a1 :: a2 :: a3 :: a4 :: some (.int x) :: l, st, M) = some (142, a0 :: a1 :: a2 :: a3 :: a4 :: some (.int x) :: l, .int x :: st, M) := st_iload q61_140 rfl
theorem x61_140 {st : List Value} {M : pj_Mem} {l : pj_Loc} {a0 a1 a2 a3 a4 : Option Value} {x : Int32} {o9 : Option Value × pj_Mem} : pj_Ends 61 (140, a0 :: a1 :: a2 :: a3 :: a4 :: some (.int x) :: l, st, M) o9 = pj_Ends 61 (142, a0 :: a1 :: a2 :: a3 :: a4 :: some (.int x) :: l, .int x :: st, M) o9 := pj_xs (s61_140)
theorem q61_142 : pj_row 61 142 = some (.iload 6, 2, 0, 0, 0) := by decide +kernel
theorem s61_142 {st : List Value} {M : pj_Mem} {l : pj_Loc} {a0 a1 a2 a3 a4 a5 : Option Value} {x : Int32} : pj_step 61 (142, a0 :: a1 :: a2 :: a3 :: a4 :: a5 :: some (.int x) :: l, st, M) = some (144, a0 :: a1 :: a2 :: a3 :: a4 :: a5 :: some (.int x) :: l, .int x :: st, M) := st_iload q61_142 rfl
theorem x61_142 {st : List Value} {M : pj_Mem} {l : pj_Loc} {a0 a1 a2 a3 a4 a5 : Option Value} {x : Int32} {o9 : Option Value × pj_Mem} : pj_Ends 61 (142, a0 :: a1 :: a2 :: a3 :: a4 :: a5 :: some (.int x) :: l, st, M) o9 = pj_Ends 61 (144, a0 :: a1 :: a2 :: a3 :: a4 :: a5 :: some (.int x) :: l, .int x :: st, M) o9 := pj_xs (s61_142)
theorem q61_144 : pj_row 61 144 = some (.invokevirtual 86, 3, 30, 3, 0) := by decide +kernel
theorem e61_144 {L : pj_Loc} {st : List Value} {N S : Nat} {H : pj_Heap} {o : Option Value × pj_Mem} {M' : pj_Mem} {x0 : Nat} {x1 : Int32} {x2 : Int32} {r : Int32} (h4 : pj_le4 st = true) (hu : pj_isU 5 (H x0) = true) (h1 : pj_Ends 30 (0, [some (.ref x0), some (.int x1), some (.int x2), none], [], (N, S, H)) (some (.int r), M')) (h2 : pj_Ends 61 (147, L, .int r :: st, M') o) : pj_Ends 61 (144, L, .int x2 :: .int x1 :: .ref x0 :: st, (N, S, H)) o := ec_v3 q61_144 (Or.inl rfl) h4 hu rfl h1 h2
theorem q61_147 : pj_row 61 147 = some (.aload_n 2, 1, 0, 0, 0) := by decide +kernel
theorem s61_147 {st : List Value} {M : pj_Mem} {l : pj_Loc} {a0 a1 : Option Value} {x : Nat} : pj_step 61 (147, a0 :: a1 :: some (.ref x) :: l, st, M) = some (148, a0 :: a1 :: some (.ref x) :: l, .ref x :: st, M) := st_aload_n q61_147 rfl
theorem x61_147 {st : List Value} {M : pj_Mem} {l : pj_Loc} {a0 a1 : Option Value} {x : Nat} {o9 : Option Value × pj_Mem} : pj_Ends 61 (147, a0 :: a1 :: some (.ref x) :: l, st, M) o9 = pj_Ends 61 (148, a0 :: a1 :: some (.ref x) :: l, .ref x :: st, M) o9 := pj_xs (s61_147)
theorem q61_148 : pj_row 61 148 = some (.iload 5, 2, 0, 0, 0) := by decide +kernel
theorem s61_148 {st : List Value} {M : pj_Mem} {l : pj_Loc} {a0 a1 a2 a3 a4 : Option Value} {x : Int32} : pj_step 61 (148, a0 :: a1 :: a2 :: a3 :: a4 :: some (.int x) :: l, st, M) = some (150, a0 :: a1 :: a2 :: a3 :: a4 :: some (.int x) :: l, .int x :: st, M) := st_iload q61_148 rfl
theorem x61_148 {st : List Value} {M : pj_Mem} {l : pj_Loc} {a0 a1 a2 a3 a4 : Option Value} {x : Int32} {o9 : Option Value × pj_Mem} : pj_Ends 61 (148, a0 :: a1 :: a2 :: a3 :: a4 :: some (.int x) :: l, st, M) o9 = pj_Ends 61 (150, a0 :: a1 :: a2 :: a3 :: a4 :: some (.int x) :: l, .int x :: st, M) o9 := pj_xs (s61_148)
theorem q61_150 : pj_row 61 150 = some (.iload 6, 2, 0, 0, 0) := by decide +kernel
theorem s61_150 {st : List Value} {M : pj_Mem} {l : pj_Loc} {a0 a1 a2 a3 a4 a5 : Option Value} {x : Int32} : pj_step 61 (150, a0 :: a1 :: a2 :: a3 :: a4 :: a5 :: some (.int x) :: l, st, M) = some (152, a0 :: a1 :: a2 :: a3 :: a4 :: a5 :: some (.int x) :: l, .int x :: st, M) := st_iload q61_150 rfl
theorem x61_150 {st : List Value} {M : pj_Mem} {l : pj_Loc} {a0 a1 a2 a3 a4 a5 : Option Value} {x : Int32} {o9 : Option Value × pj_Mem} : pj_Ends 61 (150, a0 :: a1 :: a2 :: a3 :: a4 :: a5 :: some (.int x) :: l, st, M) o9 = pj_Ends 61 (152, a0 :: a1 :: a2 :: a3 :: a4 :: a5 :: some (.int x) :: l, .int x :: st, M) o9 := pj_xs (s61_150)
theorem q61_152 : pj_row 61 152 = some (.invokevirtual 86, 3, 30, 3, 0) := by decide +kernel
theorem e61_152 {L : pj_Loc} {st : List Value} {N S : Nat} {H : pj_Heap} {o : Option Value × pj_Mem} {M' : pj_Mem} {x0 : Nat} {x1 : Int32} {x2 : Int32} {r : Int32} (h4 : pj_le4 st = true) (hu : pj_isU 5 (H x0) = true) (h1 : pj_Ends 30 (0, [some (.ref x0), some (.int x1), some (.int x2), none], [], (N, S, H)) (some (.int r), M')) (h2 : pj_Ends 61 (155, L, .int r :: st, M') o) : pj_Ends 61 (152, L, .int x2 :: .int x1 :: .ref x0 :: st, (N, S, H)) o := ec_v3 q61_152 (Or.inl rfl) h4 hu rfl h1 h2
theorem q61_155 : pj_row 61 155 = some (.if_icmp .ne 45, 3, 200, 0, 0) := by decide +kernel
theorem s61_155 {L : pj_Loc} {st : List Value} {M : pj_Mem} {x y : Int32} : pj_step 61 (155, L, .int y :: .int x :: st, M) = some (if ¬ x = y then 200 else 158, L, st, M) := st_icmp_ne q61_155
theorem x61_155 {L : pj_Loc} {st : List Value} {M : pj_Mem} {x y : Int32} {o9 : Option Value × pj_Mem} : pj_Ends 61 (155, L, .int y :: .int x :: st, M) o9 = pj_Ends 61 (if ¬ x = y then 200 else 158, L, st, M) o9 := pj_xs (s61_155)
theorem q61_158 : pj_row 61 158 = some (.aload_n 1, 1, 0, 0, 0) := by decide +kernel
theorem s61_158 {st : List Value} {M : pj_Mem} {l : pj_Loc} {a0 : Option Value} {x : Nat} : pj_step 61 (158, a0 :: some (.ref x) :: l, st, M) = some (159, a0 :: some (.ref x) :: l, .ref x :: st, M) := st_aload_n q61_158 rfl
theorem x61_158 {st : List Value} {M : pj_Mem} {l : pj_Loc} {a0 : Option Value} {x : Nat} {o9 : Option Value × pj_Mem} : pj_Ends 61 (158, a0 :: some (.ref x) :: l, st, M) o9 = pj_Ends 61 (159, a0 :: some (.ref x) :: l, .ref x :: st, M) o9 := pj_xs (s61_158)
theorem q61_159 : pj_row 61 159 = some (.iload 5, 2, 0, 0, 0) := by decide +kernel
theorem s61_159 {st : List Value} {M : pj_Mem} {l : pj_Loc} {a0 a1 a2 a3 a4 : Option Value} {x : Int32} : pj_step 61 (159, a0 :: a1 :: a2 :: a3 :: a4 :: some (.int x) :: l, st, M) = some (161, a0 :: a1 :: a2 :: a3 :: a4 :: some (.int x) :: l, .int x :: st, M) := st_iload q61_159 rfl
theorem x61_159 {st : List Value} {M : pj_Mem} {l : pj_Loc} {a0 a1 a2 a3 a4 : Option Value} {x : Int32} {o9 : Option Value × pj_Mem} : pj_Ends 61 (159, a0 :: a1 :: a2 :: a3 :: a4 :: some (.int x) :: l, st, M) o9 = pj_Ends 61 (161, a0 :: a1 :: a2 :: a3 :: a4 :: some (.int x) :: l, .int x :: st, M) o9 := pj_xs (s61_159)
theorem q61_161 : pj_row 61 161 = some (.iload 6, 2, 0, 0, 0) := by decide +kernel
theorem s61_161 {st : List Value} {M : pj_Mem} {l : pj_Loc} {a0 a1 a2 a3 a4 a5 : Option Value} {x : Int32} : pj_step 61 (161, a0 :: a1 :: a2 :: a3 :: a4 :: a5 :: some (.int x) :: l, st, M) = some (163, a0 :: a1 :: a2 :: a3 :: a4 :: a5 :: some (.int x) :: l, .int x :: st, M) := st_iload q61_161 rfl
theorem x61_161 {st : List Value} {M : pj_Mem} {l : pj_Loc} {a0 a1 a2 a3 a4 a5 : Option Value} {x : Int32} {o9 : Option Value × pj_Mem} : pj_Ends 61 (161, a0 :: a1 :: a2 :: a3 :: a4 :: a5 :: some (.int x) :: l, st, M) o9 = pj_Ends 61 (163, a0 :: a1 :: a2 :: a3 :: a4 :: a5 :: some (.int x) :: l, .int x :: st, M) o9 := pj_xs (s61_161)
theorem q61_163 : pj_row 61 163 = some (.invokevirtual 86, 3, 30, 3, 0) := by decide +kernel
theorem e61_163 {L : pj_Loc} {st : List Value} {N S : Nat} {H : pj_Heap} {o : Option Value × pj_Mem} {M' : pj_Mem} {x0 : Nat} {x1 : Int32} {x2 : Int32} {r : Int32} (h4 : pj_le4 st = true) (hu : pj_isU 5 (H x0) = true) (h1 : pj_Ends 30 (0, [some (.ref x0), some (.int x1), some (.int x2), none], [], (N, S, H)) (some (.int r), M')) (h2 : pj_Ends 61 (166, L, .int r :: st, M') o) : pj_Ends 61 (163, L, .int x2 :: .int x1 :: .ref x0 :: st, (N, S, H)) o := ec_v3 q61_163 (Or.inl rfl) h4 hu rfl h1 h2
theorem q61_166 : pj_row 61 166 = some (.ifCond .ne 7, 3, 173, 0, 0) := by decide +kernel
theorem s61_166 {L : pj_Loc} {st : List Value} {M : pj_Mem} {x : Int32} : pj_step 61 (166, L, .int x :: st, M) = some (if ¬ x = 0 then 173 else 169, L, st, M) := st_if_ne q61_166
theorem x61_166 {L : pj_Loc} {st : List Value} {M : pj_Mem} {x : Int32} {o9 : Option Value × pj_Mem} : pj_Ends 61 (166, L, .int x :: st, M) o9 = pj_Ends 61 (if ¬ x = 0 then 173 else 169, L, st, M) o9 := pj_xs (s61_166)
theorem q61_169 : pj_row 61 169 = some (.iconst 1, 1, 0, 0, 0) := by decide +kernel
theorem s61_169 {L : pj_Loc} {st : List Value} {M : pj_Mem}  : pj_step 61 (169, L, st, M) = some (170, L, .int 1 :: st, M) := st_iconst q61_169 (by decide +kernel)
theorem x61_169 {L : pj_Loc} {st : List Value} {M : pj_Mem}  {o9 : Option Value × pj_Mem} : pj_Ends 61 (169, L, st, M) o9 = pj_Ends 61 (170, L, .int 1 :: st, M) o9 := pj_xs (s61_169)
theorem q61_170 : pj_row 61 170 = some (.goto 4, 3, 174, 0, 0) := by decide +kernel
theorem s61_170 {L : pj_Loc} {st : List Value} {M : pj_Mem}  : pj_step 61 (170, L, st, M) = some (174, L, st, M) := st_goto q61_170
theorem x61_170 {L : pj_Loc} {st : List Value} {M : pj_Mem}  {o9 : Option Value × pj_Mem} : pj_Ends 61 (170, L, st, M) o9 = pj_Ends 61 (174, L, st, M) o9 := pj_xs (s61_170)
theorem q61_173 : pj_row 61 173 = some (.iconst 0, 1, 0, 0, 0) := by decide +kernel
theorem s61_173 {L : pj_Loc} {st : List Value} {M : pj_Mem}  : pj_step 61 (173, L, st, M) = some (174, L, .int 0 :: st, M) := st_iconst q61_173 (by decide +kernel)
theorem x61_173 {L : pj_Loc} {st : List Value} {M : pj_Mem}  {o9 : Option Value × pj_Mem} : pj_Ends 61 (173, L, st, M) o9 = pj_Ends 61 (174, L, .int 0 :: st, M) o9 := pj_xs (s61_173)
theorem q61_174 : pj_row 61 174 = some (.aload_n 1, 1, 0, 0, 0) := by decide +kernel
theorem s61_174 {st : List Value} {M : pj_Mem} {l : pj_Loc} {a0 : Option Value} {x : Nat} : pj_step 61 (174, a0 :: some (.ref x) :: l, st, M) = some (175, a0 :: some (.ref x) :: l, .ref x :: st, M) := st_aload_n q61_174 rfl
theorem x61_174 {st : List Value} {M : pj_Mem} {l : pj_Loc} {a0 : Option Value} {x : Nat} {o9 : Option Value × pj_Mem} : pj_Ends 61 (174, a0 :: some (.ref x) :: l, st, M) o9 = pj_Ends 61 (175, a0 :: some (.ref x) :: l, .ref x :: st, M) o9 := pj_xs (s61_174)
theorem q61_175 : pj_row 61 175 = some (.iconst 3, 1, 0, 0, 0) := by decide +kernel
theorem s61_175 {L : pj_Loc} {st : List Value} {M : pj_Mem}  : pj_step 61 (175, L, st, M) = some (176, L, .int 3 :: st, M) := st_iconst q61_175 (by decide +kernel)
theorem x61_175 {L : pj_Loc} {st : List Value} {M : pj_Mem}  {o9 : Option Value × pj_Mem} : pj_Ends 61 (175, L, st, M) o9 = pj_Ends 61 (176, L, .int 3 :: st, M) o9 := pj_xs (s61_175)
theorem q61_176 : pj_row 61 176 = some (.invokevirtual 28, 3, 10, 2, 0) := by decide +kernel
theorem e61_176 {L : pj_Loc} {st : List Value} {N S : Nat} {H : pj_Heap} {o : Option Value × pj_Mem} {M' : pj_Mem} {x0 : Nat} {x1 : Int32} {r : Int32} (h4 : pj_le4 st = true) (hu : pj_isU 5 (H x0) = true) (h1 : pj_Ends 10 (0, [some (.ref x0), some (.int x1)], [], (N, S, H)) (some (.int r), M')) (h2 : pj_Ends 61 (179, L, .int r :: st, M') o) : pj_Ends 61 (176, L, .int x1 :: .ref x0 :: st, (N, S, H)) o := ec_v2 q61_176 (Or.inl rfl) h4 hu rfl h1 h2
theorem q61_179 : pj_row 61 179 = some (.iload 5, 2, 0, 0, 0) := by decide +kernel
theorem s61_179 {st : List Value} {M : pj_Mem} {l : pj_Loc} {a0 a1 a2 a3 a4 : Option Value} {x : Int32} : pj_step 61 (179, a0 :: a1 :: a2 :: a3 :: a4 :: some (.int x) :: l, st, M) = some (181, a0 :: a1 :: a2 :: a3 :: a4 :: some (.int x) :: l, .int x :: st, M) := st_iload q61_179 rfl
theorem x61_179 {st : List Value} {M : pj_Mem} {l : pj_Loc} {a0 a1 a2 a3 a4 : Option Value} {x : Int32} {o9 : Option Value × pj_Mem} : pj_Ends 61 (179, a0 :: a1 :: a2 :: a3 :: a4 :: some (.int x) :: l, st, M) o9 = pj_Ends 61 (181, a0 :: a1 :: a2 :: a3 :: a4 :: some (.int x) :: l, .int x :: st, M) o9 := pj_xs (s61_179)
theorem q61_181 : pj_row 61 181 = some (.ishr, 1, 0, 0, 0) := by decide +kernel
theorem s61_181 {L : pj_Loc} {st : List Value} {M : pj_Mem} {x y : Int32} : pj_step 61 (181, L, .int y :: .int x :: st, M) = some (182, L, .int (x >>> (y &&& 31)) :: st, M) := st_ishr q61_181
theorem x61_181 {L : pj_Loc} {st : List Value} {M : pj_Mem} {x y : Int32} {o9 : Option Value × pj_Mem} : pj_Ends 61 (181, L, .int y :: .int x :: st, M) o9 = pj_Ends 61 (182, L, .int (x >>> (y &&& 31)) :: st, M) o9 := pj_xs (s61_181)
theorem q61_182 : pj_row 61 182 = some (.iconst 1, 1, 0, 0, 0) := by decide +kernel
theorem s61_182 {L : pj_Loc} {st : List Value} {M : pj_Mem}  : pj_step 61 (182, L, st, M) = some (183, L, .int 1 :: st, M) := st_iconst q61_182 (by decide +kernel)
theorem x61_182 {L : pj_Loc} {st : List Value} {M : pj_Mem}  {o9 : Option Value × pj_Mem} : pj_Ends 61 (182, L, st, M) o9 = pj_Ends 61 (183, L, .int 1 :: st, M) o9 := pj_xs (s61_182)
theorem q61_183 : pj_row 61 183 = some (.iand, 1, 0, 0, 0) := by decide +kernel
theorem s61_183 {L : pj_Loc} {st : List Value} {M : pj_Mem} {x y : Int32} : pj_step 61 (183, L, .int y :: .int x :: st, M) = some (184, L, .int (x &&& y) :: st, M) := st_iand q61_183
theorem x61_183 {L : pj_Loc} {st : List Value} {M : pj_Mem} {x y : Int32} {o9 : Option Value × pj_Mem} : pj_Ends 61 (183, L, .int y :: .int x :: st, M) o9 = pj_Ends 61 (184, L, .int (x &&& y) :: st, M) o9 := pj_xs (s61_183)
theorem q61_184 : pj_row 61 184 = some (.iconst 1, 1, 0, 0, 0) := by decide +kernel
theorem s61_184 {L : pj_Loc} {st : List Value} {M : pj_Mem}  : pj_step 61 (184, L, st, M) = some (185, L, .int 1 :: st, M) := st_iconst q61_184 (by decide +kernel)
theorem x61_184 {L : pj_Loc} {st : List Value} {M : pj_Mem}  {o9 : Option Value × pj_Mem} : pj_Ends 61 (184, L, st, M) o9 = pj_Ends 61 (185, L, .int 1 :: st, M) o9 := pj_xs (s61_184)
theorem q61_185 : pj_row 61 185 = some (.if_icmp .ne 7, 3, 192, 0, 0) := by decide +kernel
theorem s61_185 {L : pj_Loc} {st : List Value} {M : pj_Mem} {x y : Int32} : pj_step 61 (185, L, .int y :: .int x :: st, M) = some (if ¬ x = y then 192 else 188, L, st, M) := st_icmp_ne q61_185
theorem x61_185 {L : pj_Loc} {st : List Value} {M : pj_Mem} {x y : Int32} {o9 : Option Value × pj_Mem} : pj_Ends 61 (185, L, .int y :: .int x :: st, M) o9 = pj_Ends 61 (if ¬ x = y then 192 else 188, L, st, M) o9 := pj_xs (s61_185)
theorem q61_188 : pj_row 61 188 = some (.iconst 1, 1, 0, 0, 0) := by decide +kernel
theorem s61_188 {L : pj_Loc} {st : List Value} {M : pj_Mem}  : pj_step 61 (188, L, st, M) = some (189, L, .int 1 :: st, M) := st_iconst q61_188 (by decide +kernel)
theorem x61_188 {L : pj_Loc} {st : List Value} {M : pj_Mem}  {o9 : Option Value × pj_Mem} : pj_Ends 61 (188, L, st, M) o9 = pj_Ends 61 (189, L, .int 1 :: st, M) o9 := pj_xs (s61_188)
theorem q61_189 : pj_row 61 189 = some (.goto 4, 3, 193, 0, 0) := by decide +kernel
theorem s61_189 {L : pj_Loc} {st : List Value} {M : pj_Mem}  : pj_step 61 (189, L, st, M) = some (193, L, st, M) := st_goto q61_189
theorem x61_189 {L : pj_Loc} {st : List Value} {M : pj_Mem}  {o9 : Option Value × pj_Mem} : pj_Ends 61 (189, L, st, M) o9 = pj_Ends 61 (193, L, st, M) o9 := pj_xs (s61_189)
theorem q61_192 : pj_row 61 192 = some (.iconst 0, 1, 0, 0, 0) := by decide +kernel
theorem s61_192 {L : pj_Loc} {st : List Value} {M : pj_Mem}  : pj_step 61 (192, L, st, M) = some (193, L, .int 0 :: st, M) := st_iconst q61_192 (by decide +kernel)
theorem x61_192 {L : pj_Loc} {st : List Value} {M : pj_Mem}  {o9 : Option Value × pj_Mem} : pj_Ends 61 (192, L, st, M) o9 = pj_Ends 61 (193, L, .int 0 :: st, M) o9 := pj_xs (s61_192)
theorem q61_193 : pj_row 61 193 = some (.if_icmp .ne 7, 3, 200, 0, 0) := by decide +kernel
theorem s61_193 {L : pj_Loc} {st : List Value} {M : pj_Mem} {x y : Int32} : pj_step 61 (193, L, .int y :: .int x :: st, M) = some (if ¬ x = y then 200 else 196, L, st, M) := st_icmp_ne q61_193
theorem x61_193 {L : pj_Loc} {st : List Value} {M : pj_Mem} {x y : Int32} {o9 : Option Value × pj_Mem} : pj_Ends 61 (193, L, .int y :: .int x :: st, M) o9 = pj_Ends 61 (if ¬ x = y then 200 else 196, L, st, M) o9 := pj_xs (s61_193)
theorem q61_196 : pj_row 61 196 = some (.iconst 1, 1, 0, 0, 0) := by decide +kernel
theorem s61_196 {L : pj_Loc} {st : List Value} {M : pj_Mem}  : pj_step 61 (196, L, st, M) = some (197, L, .int 1 :: st, M) := st_iconst q61_196 (by decide +kernel)
theorem x61_196 {L : pj_Loc} {st : List Value} {M : pj_Mem}  {o9 : Option Value × pj_Mem} : pj_Ends 61 (196, L, st, M) o9 = pj_Ends 61 (197, L, .int 1 :: st, M) o9 := pj_xs (s61_196)
theorem q61_197 : pj_row 61 197 = some (.goto 4, 3, 201, 0, 0) := by decide +kernel
theorem s61_197 {L : pj_Loc} {st : List Value} {M : pj_Mem}  : pj_step 61 (197, L, st, M) = some (201, L, st, M) := st_goto q61_197
theorem x61_197 {L : pj_Loc} {st : List Value} {M : pj_Mem}  {o9 : Option Value × pj_Mem} : pj_Ends 61 (197, L, st, M) o9 = pj_Ends 61 (201, L, st, M) o9 := pj_xs (s61_197)
theorem q61_200 : pj_row 61 200 = some (.iconst 0, 1, 0, 0, 0) := by decide +kernel
theorem s61_200 {L : pj_Loc} {st : List Value} {M : pj_Mem}  : pj_step 61 (200, L, st, M) = some (201, L, .int 0 :: st, M) := st_iconst q61_200 (by decide +kernel)
theorem x61_200 {L : pj_Loc} {st : List Value} {M : pj_Mem}  {o9 : Option Value × pj_Mem} : pj_Ends 61 (200, L, st, M) o9 = pj_Ends 61 (201, L, .int 0 :: st, M) o9 := pj_xs (s61_200)
theorem q61_201 : pj_row 61 201 = some (.istore 4, 2, 0, 0, 0) := by decide +kernel
theorem s61_201 {st : List Value} {M : pj_Mem} {l : pj_Loc} {a0 a1 a2 a3 a4 : Option Value} {x : Int32} (h : pj_long a3 = false) : pj_step 61 (201, a0 :: a1 :: a2 :: a3 :: a4 :: l, .int x :: st, M) = some (203, a0 :: a1 :: a2 :: a3 :: some (.int x) :: l, st, M) := st_istore q61_201 (pj_st_4 h)
theorem x61_201 {st : List Value} {M : pj_Mem} {l : pj_Loc} {a0 a1 a2 a3 a4 : Option Value} {x : Int32} (h : pj_long a3 = false) {o9 : Option Value × pj_Mem} : pj_Ends 61 (201, a0 :: a1 :: a2 :: a3 :: a4 :: l, .int x :: st, M) o9 = pj_Ends 61 (203, a0 :: a1 :: a2 :: a3 :: some (.int x) :: l, st, M) o9 := pj_xs (s61_201 h)
theorem q61_203 : pj_row 61 203 = some (.iload 4, 2, 0, 0, 0) := by decide +kernel
theorem s61_203 {st : List Value} {M : pj_Mem} {l : pj_Loc} {a0 a1 a2 a3 : Option Value} {x : Int32} : pj_step 61 (203, a0 :: a1 :: a2 :: a3 :: some (.int x) :: l, st, M) = some (205, a0 :: a1 :: a2 :: a3 :: some (.int x) :: l, .int x :: st, M) := st_iload q61_203 rfl
theorem x61_203 {st : List Value} {M : pj_Mem} {l : pj_Loc} {a0 a1 a2 a3 : Option Value} {x : Int32} {o9 : Option Value × pj_Mem} : pj_Ends 61 (203, a0 :: a1 :: a2 :: a3 :: some (.int x) :: l, st, M) o9 = pj_Ends 61 (205, a0 :: a1 :: a2 :: a3 :: some (.int x) :: l, .int x :: st, M) o9 := pj_xs (s61_203)
theorem q61_205 : pj_row 61 205 = some (.ifCond .eq 41, 3, 246, 0, 0) := by decide +kernel
theorem s61_205 {L : pj_Loc} {st : List Value} {M : pj_Mem} {x : Int32} : pj_step 61 (205, L, .int x :: st, M) = some (if x = 0 then 246 else 208, L, st, M) := st_if_eq q61_205
theorem x61_205 {L : pj_Loc} {st : List Value} {M : pj_Mem} {x : Int32} {o9 : Option Value × pj_Mem} : pj_Ends 61 (205, L, .int x :: st, M) o9 = pj_Ends 61 (if x = 0 then 246 else 208, L, st, M) o9 := pj_xs (s61_205)
theorem q61_208 : pj_row 61 208 = some (.aload_n 1, 1, 0, 0, 0) := by decide +kernel
theorem s61_208 {st : List Value} {M : pj_Mem} {l : pj_Loc} {a0 : Option Value} {x : Nat} : pj_step 61 (208, a0 :: some (.ref x) :: l, st, M) = some (209, a0 :: some (.ref x) :: l, .ref x :: st, M) := st_aload_n q61_208 rfl
theorem x61_208 {st : List Value} {M : pj_Mem} {l : pj_Loc} {a0 : Option Value} {x : Nat} {o9 : Option Value × pj_Mem} : pj_Ends 61 (208, a0 :: some (.ref x) :: l, st, M) o9 = pj_Ends 61 (209, a0 :: some (.ref x) :: l, .ref x :: st, M) o9 := pj_xs (s61_208)
theorem q61_209 : pj_row 61 209 = some (.iload 5, 2, 0, 0, 0) := by decide +kernel
theorem s61_209 {st : List Value} {M : pj_Mem} {l : pj_Loc} {a0 a1 a2 a3 a4 : Option Value} {x : Int32} : pj_step 61 (209, a0 :: a1 :: a2 :: a3 :: a4 :: some (.int x) :: l, st, M) = some (211, a0 :: a1 :: a2 :: a3 :: a4 :: some (.int x) :: l, .int x :: st, M) := st_iload q61_209 rfl
theorem x61_209 {st : List Value} {M : pj_Mem} {l : pj_Loc} {a0 a1 a2 a3 a4 : Option Value} {x : Int32} {o9 : Option Value × pj_Mem} : pj_Ends 61 (209, a0 :: a1 :: a2 :: a3 :: a4 :: some (.int x) :: l, st, M) o9 = pj_Ends 61 (211, a0 :: a1 :: a2 :: a3 :: a4 :: some (.int x) :: l, .int x :: st, M) o9 := pj_xs (s61_209)
theorem q61_211 : pj_row 61 211 = some (.iconst 1, 1, 0, 0, 0) := by decide +kernel
theorem s61_211 {L : pj_Loc} {st : List Value} {M : pj_Mem}  : pj_step 61 (211, L, st, M) = some (212, L, .int 1 :: st, M) := st_iconst q61_211 (by decide +kernel)
theorem x61_211 {L : pj_Loc} {st : List Value} {M : pj_Mem}  {o9 : Option Value × pj_Mem} : pj_Ends 61 (211, L, st, M) o9 = pj_Ends 61 (212, L, .int 1 :: st, M) o9 := pj_xs (s61_211)
theorem q61_212 : pj_row 61 212 = some (.invokevirtual 66, 3, 7, 3, 0) := by decide +kernel
theorem e61_212 {L : pj_Loc} {st : List Value} {N S : Nat} {H : pj_Heap} {o : Option Value × pj_Mem} {M' : pj_Mem} {x0 : Nat} {x1 : Int32} {x2 : Int32} {r : Int32} (h4 : pj_le4 st = true) (hu : pj_isU 5 (H x0) = true) (h1 : pj_Ends 7 (0, [some (.ref x0), some (.int x1), some (.int x2)], [], (N, S, H)) (some (.int r), M')) (h2 : pj_Ends 61 (215, L, .int r :: st, M') o) : pj_Ends 61 (212, L, .int x2 :: .int x1 :: .ref x0 :: st, (N, S, H)) o := ec_v3 q61_212 (Or.inl rfl) h4 hu rfl h1 h2
theorem q61_215 : pj_row 61 215 = some (.ifCond .eq 27, 3, 242, 0, 0) := by decide +kernel
theorem s61_215 {L : pj_Loc} {st : List Value} {M : pj_Mem} {x : Int32} : pj_step 61 (215, L, .int x :: st, M) = some (if x = 0 then 242 else 218, L, st, M) := st_if_eq q61_215
theorem x61_215 {L : pj_Loc} {st : List Value} {M : pj_Mem} {x : Int32} {o9 : Option Value × pj_Mem} : pj_Ends 61 (215, L, .int x :: st, M) o9 = pj_Ends 61 (if x = 0 then 242 else 218, L, st, M) o9 := pj_xs (s61_215)
theorem q61_218 : pj_row 61 218 = some (.aload_n 1, 1, 0, 0, 0) := by decide +kernel
theorem s61_218 {st : List Value} {M : pj_Mem} {l : pj_Loc} {a0 : Option Value} {x : Nat} : pj_step 61 (218, a0 :: some (.ref x) :: l, st, M) = some (219, a0 :: some (.ref x) :: l, .ref x :: st, M) := st_aload_n q61_218 rfl
theorem x61_218 {st : List Value} {M : pj_Mem} {l : pj_Loc} {a0 : Option Value} {x : Nat} {o9 : Option Value × pj_Mem} : pj_Ends 61 (218, a0 :: some (.ref x) :: l, st, M) o9 = pj_Ends 61 (219, a0 :: some (.ref x) :: l, .ref x :: st, M) o9 := pj_xs (s61_218)
theorem q61_219 : pj_row 61 219 = some (.iload 5, 2, 0, 0, 0) := by decide +kernel
theorem s61_219 {st : List Value} {M : pj_Mem} {l : pj_Loc} {a0 a1 a2 a3 a4 : Option Value} {x : Int32} : pj_step 61 (219, a0 :: a1 :: a2 :: a3 :: a4 :: some (.int x) :: l, st, M) = some (221, a0 :: a1 :: a2 :: a3 :: a4 :: some (.int x) :: l, .int x :: st, M) := st_iload q61_219 rfl
theorem x61_219 {st : List Value} {M : pj_Mem} {l : pj_Loc} {a0 a1 a2 a3 a4 : Option Value} {x : Int32} {o9 : Option Value × pj_Mem} : pj_Ends 61 (219, a0 :: a1 :: a2 :: a3 :: a4 :: some (.int x) :: l, st, M) o9 = pj_Ends 61 (221, a0 :: a1 :: a2 :: a3 :: a4 :: some (.int x) :: l, .int x :: st, M) o9 := pj_xs (s61_219)
theorem q61_221 : pj_row 61 221 = some (.iconst 1, 1, 0, 0, 0) := by decide +kernel
theorem s61_221 {L : pj_Loc} {st : List Value} {M : pj_Mem}  : pj_step 61 (221, L, st, M) = some (222, L, .int 1 :: st, M) := st_iconst q61_221 (by decide +kernel)
theorem x61_221 {L : pj_Loc} {st : List Value} {M : pj_Mem}  {o9 : Option Value × pj_Mem} : pj_Ends 61 (221, L, st, M) o9 = pj_Ends 61 (222, L, .int 1 :: st, M) o9 := pj_xs (s61_221)
theorem q61_222 : pj_row 61 222 = some (.invokevirtual 83, 3, 14, 3, 0) := by decide +kernel
theorem e61_222 {L : pj_Loc} {st : List Value} {N S : Nat} {H : pj_Heap} {o : Option Value × pj_Mem} {M' : pj_Mem} {x0 : Nat} {x1 : Int32} {x2 : Int32} {r : Int32} (h4 : pj_le4 st = true) (hu : pj_isU 5 (H x0) = true) (h1 : pj_Ends 14 (0, [some (.ref x0), some (.int x1), some (.int x2), none], [], (N, S, H)) (some (.int r), M')) (h2 : pj_Ends 61 (225, L, .int r :: st, M') o) : pj_Ends 61 (222, L, .int x2 :: .int x1 :: .ref x0 :: st, (N, S, H)) o := ec_v3 q61_222 (Or.inl rfl) h4 hu rfl h1 h2
theorem q61_225 : pj_row 61 225 = some (.bipush (-6), 2, 0, 0, 0) := by decide +kernel
theorem s61_225 {L : pj_Loc} {st : List Value} {M : pj_Mem}  : pj_step 61 (225, L, st, M) = some (227, L, .int (-6) :: st, M) := st_bipush q61_225 (by decide +kernel)
theorem x61_225 {L : pj_Loc} {st : List Value} {M : pj_Mem}  {o9 : Option Value × pj_Mem} : pj_Ends 61 (225, L, st, M) o9 = pj_Ends 61 (227, L, .int (-6) :: st, M) o9 := pj_xs (s61_225)
theorem q61_227 : pj_row 61 227 = some (.if_icmp .ne 19, 3, 246, 0, 0) := by decide +kernel
theorem s61_227 {L : pj_Loc} {st : List Value} {M : pj_Mem} {x y : Int32} : pj_step 61 (227, L, .int y :: .int x :: st, M) = some (if ¬ x = y then 246 else 230, L, st, M) := st_icmp_ne q61_227
theorem x61_227 {L : pj_Loc} {st : List Value} {M : pj_Mem} {x y : Int32} {o9 : Option Value × pj_Mem} : pj_Ends 61 (227, L, .int y :: .int x :: st, M) o9 = pj_Ends 61 (if ¬ x = y then 246 else 230, L, st, M) o9 := pj_xs (s61_227)
theorem q61_230 : pj_row 61 230 = some (.aload_n 1, 1, 0, 0, 0) := by decide +kernel
theorem s61_230 {st : List Value} {M : pj_Mem} {l : pj_Loc} {a0 : Option Value} {x : Nat} : pj_step 61 (230, a0 :: some (.ref x) :: l, st, M) = some (231, a0 :: some (.ref x) :: l, .ref x :: st, M) := st_aload_n q61_230 rfl
theorem x61_230 {st : List Value} {M : pj_Mem} {l : pj_Loc} {a0 : Option Value} {x : Nat} {o9 : Option Value × pj_Mem} : pj_Ends 61 (230, a0 :: some (.ref x) :: l, st, M) o9 = pj_Ends 61 (231, a0 :: some (.ref x) :: l, .ref x :: st, M) o9 := pj_xs (s61_230)
theorem q61_231 : pj_row 61 231 = some (.iload 5, 2, 0, 0, 0) := by decide +kernel
theorem s61_231 {st : List Value} {M : pj_Mem} {l : pj_Loc} {a0 a1 a2 a3 a4 : Option Value} {x : Int32} : pj_step 61 (231, a0 :: a1 :: a2 :: a3 :: a4 :: some (.int x) :: l, st, M) = some (233, a0 :: a1 :: a2 :: a3 :: a4 :: some (.int x) :: l, .int x :: st, M) := st_iload q61_231 rfl
theorem x61_231 {st : List Value} {M : pj_Mem} {l : pj_Loc} {a0 a1 a2 a3 a4 : Option Value} {x : Int32} {o9 : Option Value × pj_Mem} : pj_Ends 61 (231, a0 :: a1 :: a2 :: a3 :: a4 :: some (.int x) :: l, st, M) o9 = pj_Ends 61 (233, a0 :: a1 :: a2 :: a3 :: a4 :: some (.int x) :: l, .int x :: st, M) o9 := pj_xs (s61_231)
theorem q61_233 : pj_row 61 233 = some (.iload 6, 2, 0, 0, 0) := by decide +kernel
theorem s61_233 {st : List Value} {M : pj_Mem} {l : pj_Loc} {a0 a1 a2 a3 a4 a5 : Option Value} {x : Int32} : pj_step 61 (233, a0 :: a1 :: a2 :: a3 :: a4 :: a5 :: some (.int x) :: l, st, M) = some (235, a0 :: a1 :: a2 :: a3 :: a4 :: a5 :: some (.int x) :: l, .int x :: st, M) := st_iload q61_233 rfl
theorem x61_233 {st : List Value} {M : pj_Mem} {l : pj_Loc} {a0 a1 a2 a3 a4 a5 : Option Value} {x : Int32} {o9 : Option Value × pj_Mem} : pj_Ends 61 (233, a0 :: a1 :: a2 :: a3 :: a4 :: a5 :: some (.int x) :: l, st, M) o9 = pj_Ends 61 (235, a0 :: a1 :: a2 :: a3 :: a4 :: a5 :: some (.int x) :: l, .int x :: st, M) o9 := pj_xs (s61_233)
theorem q61_235 : pj_row 61 235 = some (.invokevirtual 86, 3, 30, 3, 0) := by decide +kernel
theorem e61_235 {L : pj_Loc} {st : List Value} {N S : Nat} {H : pj_Heap} {o : Option Value × pj_Mem} {M' : pj_Mem} {x0 : Nat} {x1 : Int32} {x2 : Int32} {r : Int32} (h4 : pj_le4 st = true) (hu : pj_isU 5 (H x0) = true) (h1 : pj_Ends 30 (0, [some (.ref x0), some (.int x1), some (.int x2), none], [], (N, S, H)) (some (.int r), M')) (h2 : pj_Ends 61 (238, L, .int r :: st, M') o) : pj_Ends 61 (235, L, .int x2 :: .int x1 :: .ref x0 :: st, (N, S, H)) o := ec_v3 q61_235 (Or.inl rfl) h4 hu rfl h1 h2
theorem q61_238 : pj_row 61 238 = some (.iconst 1, 1, 0, 0, 0) := by decide +kernel
theorem s61_238 {L : pj_Loc} {st : List Value} {M : pj_Mem}  : pj_step 61 (238, L, st, M) = some (239, L, .int 1 :: st, M) := st_iconst q61_238 (by decide +kernel)
theorem x61_238 {L : pj_Loc} {st : List Value} {M : pj_Mem}  {o9 : Option Value × pj_Mem} : pj_Ends 61 (238, L, st, M) o9 = pj_Ends 61 (239, L, .int 1 :: st, M) o9 := pj_xs (s61_238)
theorem q61_239 : pj_row 61 239 = some (.if_icmp .eq 7, 3, 246, 0, 0) := by decide +kernel
theorem s61_239 {L : pj_Loc} {st : List Value} {M : pj_Mem} {x y : Int32} : pj_step 61 (239, L, .int y :: .int x :: st, M) = some (if x = y then 246 else 242, L, st, M) := st_icmp_eq q61_239
theorem x61_239 {L : pj_Loc} {st : List Value} {M : pj_Mem} {x y : Int32} {o9 : Option Value × pj_Mem} : pj_Ends 61 (239, L, .int y :: .int x :: st, M) o9 = pj_Ends 61 (if x = y then 246 else 242, L, st, M) o9 := pj_xs (s61_239)
theorem q61_242 : pj_row 61 242 = some (.iconst 1, 1, 0, 0, 0) := by decide +kernel
theorem s61_242 {L : pj_Loc} {st : List Value} {M : pj_Mem}  : pj_step 61 (242, L, st, M) = some (243, L, .int 1 :: st, M) := st_iconst q61_242 (by decide +kernel)
theorem x61_242 {L : pj_Loc} {st : List Value} {M : pj_Mem}  {o9 : Option Value × pj_Mem} : pj_Ends 61 (242, L, st, M) o9 = pj_Ends 61 (243, L, .int 1 :: st, M) o9 := pj_xs (s61_242)
theorem q61_243 : pj_row 61 243 = some (.goto 4, 3, 247, 0, 0) := by decide +kernel
theorem s61_243 {L : pj_Loc} {st : List Value} {M : pj_Mem}  : pj_step 61 (243, L, st, M) = some (247, L, st, M) := st_goto q61_243
theorem x61_243 {L : pj_Loc} {st : List Value} {M : pj_Mem}  {o9 : Option Value × pj_Mem} : pj_Ends 61 (243, L, st, M) o9 = pj_Ends 61 (247, L, st, M) o9 := pj_xs (s61_243)
theorem q61_246 : pj_row 61 246 = some (.iconst 0, 1, 0, 0, 0) := by decide +kernel
theorem s61_246 {L : pj_Loc} {st : List Value} {M : pj_Mem}  : pj_step 61 (246, L, st, M) = some (247, L, .int 0 :: st, M) := st_iconst q61_246 (by decide +kernel)
theorem x61_246 {L : pj_Loc} {st : List Value} {M : pj_Mem}  {o9 : Option Value × pj_Mem} : pj_Ends 61 (246, L, st, M) o9 = pj_Ends 61 (247, L, .int 0 :: st, M) o9 := pj_xs (s61_246)
theorem q61_247 : pj_row 61 247 = some (.ireturn, 1, 0, 0, 0) := by decide +kernel
theorem t61_247 {L : pj_Loc} {M : pj_Mem} {v : Int32} (hv : v = 0 ∨ v = 1) : pj_Ends 61 (247, L, [.int v], M) (some (.int v), M) := pj_Ends.ret q61_247 (pj_rtn_z rt61 hv)
