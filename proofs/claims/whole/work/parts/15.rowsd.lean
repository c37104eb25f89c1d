/-! THE STEPS OF EACH METHOD, by program (wip/whole/gen/gen12.py) -/
theorem rt100 : pj_rt 100 = some .boolean := rfl
theorem q100_0 : pj_row 100 0 = some (.iload_n 0, 1, 0, 0, 0) := by decide +kernel
theorem s100_0 {st : List Value} {M : pj_Mem} {l : pj_Loc} {x : Int32} : pj_step 100 (0, some (.int x) :: l, st, M) = some (1, some (.int x) :: l, .int x :: st, M) := st_iload_n q100_0 rfl
theorem x100_0 {st : List Value} {M : pj_Mem} {l : pj_Loc} {x : Int32} {o9 : Option Value × pj_Mem} : pj_Ends 100 (0, some (.int x) :: l, st, M) o9 = pj_Ends 100 (1, some (.int x) :: l, .int x :: st, M) o9 := pj_xs (s100_0)
theorem q100_1 : pj_row 100 1 = some (.i2l, 1, 0, 0, 0) := by decide +kernel
theorem s100_1 {L : pj_Loc} {st : List Value} {M : pj_Mem} {x : Int32} : pj_step 100 (1, L, .int x :: st, M) = some (2, L, .long x.toInt64 :: st, M) := st_i2l q100_1
theorem x100_1 {L : pj_Loc} {st : List Value} {M : pj_Mem} {x : Int32} {o9 : Option Value × pj_Mem} : pj_Ends 100 (1, L, .int x :: st, M) o9 = pj_Ends 100 (2, L, .long x.toInt64 :: st, M) o9 := pj_xs (s100_1)
theorem q100_2 : pj_row 100 2 = some (.lconst 0, 1, 0, 0, 0) := by decide +kernel
theorem s100_2 {L : pj_Loc} {st : List Value} {M : pj_Mem}  : pj_step 100 (2, L, st, M) = some (3, L, .long 0 :: st, M) := st_lconst q100_2 (by decide +kernel)
theorem x100_2 {L : pj_Loc} {st : List Value} {M : pj_Mem}  {o9 : Option Value × pj_Mem} : pj_Ends 100 (2, L, st, M) o9 = pj_Ends 100 (3, L, .long 0 :: st, M) o9 := pj_xs (s100_2)
theorem q100_3 : pj_row 100 3 = some (.ldc2_w 46, 3, 0, 0, 2) := by decide +kernel
theorem s100_3 {L : pj_Loc} {st : List Value} {M : pj_Mem}  : pj_step 100 (3, L, st, M) = some (6, L, .long 2 :: st, M) := st_ldc2_w q100_3 (by decide +kernel)
theorem x100_3 {L : pj_Loc} {st : List Value} {M : pj_Mem}  {o9 : Option Value × pj_Mem} : pj_Ends 100 (3, L, st, M) o9 = pj_Ends 100 (6, L, .long 2 :: st, M) o9 := pj_xs (s100_3)
theorem q100_6 : pj_row 100 6 = some (.invokestatic 42, 3, 77, 3, 0) := by decide +kernel
theorem e100_6 {L : pj_Loc} {st : List Value} {N S : Nat} {H : pj_Heap} {o : Option Value × pj_Mem} {M' : pj_Mem} {x0 : Int64} {x1 : Int64} {x2 : Int64} {r : Int32} (h4 : pj_le4 st = true) (h1 : pj_Ends 77 (0, [some (.long x0), none, some (.long x1), none, some (.long x2), none], [], (N, S, H)) (some (.int r), M')) (h2 : pj_Ends 100 (9, L, .int r :: st, M') o) : pj_Ends 100 (6, L, .long x2 :: .long x1 :: .long x0 :: st, (N, S, H)) o := ec_s3 q100_6 (Or.inl rfl) h4 rfl h1 h2
theorem q100_9 : pj_row 100 9 = some (.ireturn, 1, 0, 0, 0) := by decide +kernel
theorem t100_9 {L : pj_Loc} {M : pj_Mem} {v : Int32} (hv : v = 0 ∨ v = 1) : pj_Ends 100 (9, L, [.int v], M) (some (.int v), M) := pj_Ends.ret q100_9 (pj_rtn_z rt100 hv)
theorem rt101 : pj_rt 101 = some .int := rfl
theorem q101_0 : pj_row 101 0 = some (.aload_n 0, 1, 0, 0, 0) := by decide +kernel
theorem s101_0 {st : List Value} {M : pj_Mem} {l : pj_Loc} {x : Nat} : pj_step 101 (0, some (.ref x) :: l, st, M) = some (1, some (.ref x) :: l, .ref x :: st, M) := st_aload_n q101_0 rfl
theorem x101_0 {st : List Value} {M : pj_Mem} {l : pj_Loc} {x : Nat} {o9 : Option Value × pj_Mem} : pj_Ends 101 (0, some (.ref x) :: l, st, M) o9 = pj_Ends 101 (1, some (.ref x) :: l, .ref x :: st, M) o9 := pj_xs (s101_0)
theorem q101_1 : pj_row 101 1 = some (.getfield 7, 3, 6, 0, 0) := by decide +kernel
theorem s101_1 {L : pj_Loc} {st : List Value} {N S : Nat} {H : pj_Heap} {o : Nat} : pj_step 101 (1, L, .ref o :: st, (N, S, H)) = pj_pv 4 L st (N, S, H) (pj_fld (H o) 6 0) := st_getfield q101_1
theorem x101_1 {L : pj_Loc} {st : List Value} {N S : Nat} {H : pj_Heap} {o : Nat} {o9 : Option Value × pj_Mem} : pj_Ends 101 (1, L, .ref o :: st, (N, S, H)) o9 = pj_then 101 o9 (pj_pv 4 L st (N, S, H) (pj_fld (H o) 6 0)) := pj_xt q101_1 rfl (pj_cl_nc rfl) (s101_1)
theorem q101_4 : pj_row 101 4 = some (.bipush 26, 2, 0, 0, 0) := by decide +kernel
theorem s101_4 {L : pj_Loc} {st : List Value} {M : pj_Mem}  : pj_step 101 (4, L, st, M) = some (6, L, .int 26 :: st, M) := st_bipush q101_4 (by decide +kernel)
theorem x101_4 {L : pj_Loc} {st : List Value} {M : pj_Mem}  {o9 : Option Value × pj_Mem} : pj_Ends 101 (4, L, st, M) o9 = pj_Ends 101 (6, L, .int 26 :: st, M) o9 := pj_xs (s101_4)
theorem q101_6 : pj_row 101 6 = some (.iaload, 1, 0, 0, 0) := by decide +kernel
theorem s101_6 {L : pj_Loc} {st : List Value} {N S : Nat} {H : pj_Heap} {o : Nat} {i : Int32} : pj_step 101 (6, L, .int i :: .ref o :: st, (N, S, H)) = pj_pi 7 L st (N, S, H) (pj_arl (H o) 0 i) := st_iaload q101_6
theorem x101_6 {L : pj_Loc} {st : List Value} {N S : Nat} {H : pj_Heap} {o : Nat} {i : Int32} {o9 : Option Value × pj_Mem} : pj_Ends 101 (6, L, .int i :: .ref o :: st, (N, S, H)) o9 = pj_then 101 o9 (pj_pi 7 L st (N, S, H) (pj_arl (H o) 0 i)) := pj_xt q101_6 rfl (pj_cl_nc rfl) (s101_6)
theorem q101_7 : pj_row 101 7 = some (.iconst 2, 1, 0, 0, 0) := by decide +kernel
theorem s101_7 {L : pj_Loc} {st : List Value} {M : pj_Mem}  : pj_step 101 (7, L, st, M) = some (8, L, .int 2 :: st, M) := st_iconst q101_7 (by decide +kernel)
theorem x101_7 {L : pj_Loc} {st : List Value} {M : pj_Mem}  {o9 : Option Value × pj_Mem} : pj_Ends 101 (7, L, st, M) o9 = pj_Ends 101 (8, L, .int 2 :: st, M) o9 := pj_xs (s101_7)
theorem q101_8 : pj_row 101 8 = some (.aload_n 0, 1, 0, 0, 0) := by decide +kernel
theorem s101_8 {st : List Value} {M : pj_Mem} {l : pj_Loc} {x : Nat} : pj_step 101 (8, some (.ref x) :: l, st, M) = some (9, some (.ref x) :: l, .ref x :: st, M) := st_aload_n q101_8 rfl
theorem x101_8 {st : List Value} {M : pj_Mem} {l : pj_Loc} {x : Nat} {o9 : Option Value × pj_Mem} : pj_Ends 101 (8, some (.ref x) :: l, st, M) o9 = pj_Ends 101 (9, some (.ref x) :: l, .ref x :: st, M) o9 := pj_xs (s101_8)
theorem q101_9 : pj_row 101 9 = some (.getfield 7, 3, 6, 0, 0) := by decide +kernel
theorem s101_9 {L : pj_Loc} {st : List Value} {N S : Nat} {H : pj_Heap} {o : Nat} : pj_step 101 (9, L, .ref o :: st, (N, S, H)) = pj_pv 12 L st (N, S, H) (pj_fld (H o) 6 0) := st_getfield q101_9
theorem x101_9 {L : pj_Loc} {st : List Value} {N S : Nat} {H : pj_Heap} {o : Nat} {o9 : Option Value × pj_Mem} : pj_Ends 101 (9, L, .ref o :: st, (N, S, H)) o9 = pj_then 101 o9 (pj_pv 12 L st (N, S, H) (pj_fld (H o) 6 0)) := pj_xt q101_9 rfl (pj_cl_nc rfl) (s101_9)
theorem q101_12 : pj_row 101 12 = some (.bipush 27, 2, 0, 0, 0) := by decide +kernel
theorem s101_12 {L : pj_Loc} {st : List Value} {M : pj_Mem}  : pj_step 101 (12, L, st, M) = some (14, L, .int 27 :: st, M) := st_bipush q101_12 (by decide +kernel)
theorem x101_12 {L : pj_Loc} {st : List Value} {M : pj_Mem}  {o9 : Option Value × pj_Mem} : pj_Ends 101 (12, L, st, M) o9 = pj_Ends 101 (14, L, .int 27 :: st, M) o9 := pj_xs (s101_12)
theorem q101_14 : pj_row 101 14 = some (.iaload, 1, 0, 0, 0) := by decide +kernel
theorem s101_14 {L : pj_Loc} {st : List Value} {N S : Nat} {H : pj_Heap} {o : Nat} {i : Int32} : pj_step 101 (14, L, .int i :: .ref o :: st, (N, S, H)) = pj_pi 15 L st (N, S, H) (pj_arl (H o) 0 i) := st_iaload q101_14
theorem x101_14 {L : pj_Loc} {st : List Value} {N S : Nat} {H : pj_Heap} {o : Nat} {i : Int32} {o9 : Option Value × pj_Mem} : pj_Ends 101 (14, L, .int i :: .ref o :: st, (N, S, H)) o9 = pj_then 101 o9 (pj_pi 15 L st (N, S, H) (pj_arl (H o) 0 i)) := pj_xt q101_14 rfl (pj_cl_nc rfl) (s101_14)
theorem q101_15 : pj_row 101 15 = some (.imul, 1, 0, 0, 0) := by decide +kernel
theorem s101_15 {L : pj_Loc} {st : List Value} {M : pj_Mem} {x y : Int32} : pj_step 101 (15, L, .int y :: .int x :: st, M) = some (16, L, .int (x * y) :: st, M) := st_imul q101_15
theorem x101_15 {L : pj_Loc} {st : List Value} {M : pj_Mem} {x y : Int32} {o9 : Option Value × pj_Mem} : pj_Ends 101 (15, L, .int y :: .int x :: st, M) o9 = pj_Ends 101 (16, L, .int (x * y) :: st, M) o9 := pj_xs (s101_15)
theorem q101_16 : pj_row 101 16 = some (.iadd, 1, 0, 0, 0) := by decide +kernel
theorem s101_16 {L : pj_Loc} {st : List Value} {M : pj_Mem} {x y : Int32} : pj_step 101 (16, L, .int y :: .int x :: st, M) = some (17, L, .int (x + y) :: st, M) := st_iadd q101_16
theorem x101_16 {L : pj_Loc} {st : List Value} {M : pj_Mem} {x y : Int32} {o9 : Option Value × pj_Mem} : pj_Ends 101 (16, L, .int y :: .int x :: st, M) o9 = pj_Ends 101 (17, L, .int (x + y) :: st, M) o9 := pj_xs (s101_16)
theorem q101_17 : pj_row 101 17 = some (.iconst 4, 1, 0, 0, 0) := by decide +kernel
theorem s101_17 {L : pj_Loc} {st : List Value} {M : pj_Mem}  : pj_step 101 (17, L, st, M) = some (18, L, .int 4 :: st, M) := st_iconst q101_17 (by decide +kernel)
theorem x101_17 {L : pj_Loc} {st : List Value} {M : pj_Mem}  {o9 : Option Value × pj_Mem} : pj_Ends 101 (17, L, st, M) o9 = pj_Ends 101 (18, L, .int 4 :: st, M) o9 := pj_xs (s101_17)
theorem q101_18 : pj_row 101 18 = some (.aload_n 0, 1, 0, 0, 0) := by decide +kernel
theorem s101_18 {st : List Value} {M : pj_Mem} {l : pj_Loc} {x : Nat} : pj_step 101 (18, some (.ref x) :: l, st, M) = some (19, some (.ref x) :: l, .ref x :: st, M) := st_aload_n q101_18 rfl
theorem x101_18 {st : List Value} {M : pj_Mem} {l : pj_Loc} {x : Nat} {o9 : Option Value × pj_Mem} : pj_Ends 101 (18, some (.ref x) :: l, st, M) o9 = pj_Ends 101 (19, some (.ref x) :: l, .ref x :: st, M) o9 := pj_xs (s101_18)
theorem q101_19 : pj_row 101 19 = some (.getfield 7, 3, 6, 0, 0) := by decide +kernel
theorem s101_19 {L : pj_Loc} {st : List Value} {N S : Nat} {H : pj_Heap} {o : Nat} : pj_step 101 (19, L, .ref o :: st, (N, S, H)) = pj_pv 22 L st (N, S, H) (pj_fld (H o) 6 0) := st_getfield q101_19
theorem x101_19 {L : pj_Loc} {st : List Value} {N S : Nat} {H : pj_Heap} {o : Nat} {o9 : Option Value × pj_Mem} : pj_Ends 101 (19, L, .ref o :: st, (N, S, H)) o9 = pj_then 101 o9 (pj_pv 22 L st (N, S, H) (pj_fld (H o) 6 0)) := pj_xt q101_19 rfl (pj_cl_nc rfl) (s101_19)
theorem q101_22 : pj_row 101 22 = some (.bipush 28, 2, 0, 0, 0) := by decide +kernel
theorem s101_22 {L : pj_Loc} {st : List Value} {M : pj_Mem}  : pj_step 101 (22, L, st, M) = some (24, L, .int 28 :: st, M) := st_bipush q101_22 (by decide +kernel)
theorem x101_22 {L : pj_Loc} {st : List Value} {M : pj_Mem}  {o9 : Option Value × pj_Mem} : pj_Ends 101 (22, L, st, M) o9 = pj_Ends 101 (24, L, .int 28 :: st, M) o9 := pj_xs (s101_22)
theorem q101_24 : pj_row 101 24 = some (.iaload, 1, 0, 0, 0) := by decide +kernel
theorem s101_24 {L : pj_Loc} {st : List Value} {N S : Nat} {H : pj_Heap} {o : Nat} {i : Int32} : pj_step 101 (24, L, .int i :: .ref o :: st, (N, S, H)) = pj_pi 25 L st (N, S, H) (pj_arl (H o) 0 i) := st_iaload q101_24
theorem x101_24 {L : pj_Loc} {st : List Value} {N S : Nat} {H : pj_Heap} {o : Nat} {i : Int32} {o9 : Option Value × pj_Mem} : pj_Ends 101 (24, L, .int i :: .ref o :: st, (N, S, H)) o9 = pj_then 101 o9 (pj_pi 25 L st (N, S, H) (pj_arl (H o) 0 i)) := pj_xt q101_24 rfl (pj_cl_nc rfl) (s101_24)
theorem q101_25 : pj_row 101 25 = some (.imul, 1, 0, 0, 0) := by decide +kernel
theorem s101_25 {L : pj_Loc} {st : List Value} {M : pj_Mem} {x y : Int32} : pj_step 101 (25, L, .int y :: .int x :: st, M) = some (26, L, .int (x * y) :: st, M) := st_imul q101_25
theorem x101_25 {L : pj_Loc} {st : List Value} {M : pj_Mem} {x y : Int32} {o9 : Option Value × pj_Mem} : pj_Ends 101 (25, L, .int y :: .int x :: st, M) o9 = pj_Ends 101 (26, L, .int (x * y) :: st, M) o9 := pj_xs (s101_25)
theorem q101_26 : pj_row 101 26 = some (.iadd, 1, 0, 0, 0) := by decide +kernel
theorem s101_26 {L : pj_Loc} {st : List Value} {M : pj_Mem} {x y : Int32} : pj_step 101 (26, L, .int y :: .int x :: st, M) = some (27, L, .int (x + y) :: st, M) := st_iadd q101_26
theorem x101_26 {L : pj_Loc} {st : List Value} {M : pj_Mem} {x y : Int32} {o9 : Option Value × pj_Mem} : pj_Ends 101 (26, L, .int y :: .int x :: st, M) o9 = pj_Ends 101 (27, L, .int (x + y) :: st, M) o9 := pj_xs (s101_26)
theorem q101_27 : pj_row 101 27 = some (.ireturn, 1, 0, 0, 0) := by decide +kernel
theorem t101_27 {L : pj_Loc} {M : pj_Mem} {v : Int32} : pj_Ends 101 (27, L, [.int v], M) (some (.int v), M) := pj_Ends.ret q101_27 (pj_rtn_i rt101)
theorem rt102 : pj_rt 102 = some .int := rfl
theorem q102_0 : pj_row 102 0 = some (.iload_n 1, 1, 0, 0, 0) := by decide +kernel
theorem s102_0 {st : List Value} {M : pj_Mem} {l : pj_Loc} {a0 : Option Value} {x : Int32} : pj_step 102 (0, a0 :: some (.int x) :: l, st, M) = some (1, a0 :: some (.int x) :: l, .int x :: st, M) := st_iload_n q102_0 rfl
theorem x102_0 {st : List Value} {M : pj_Mem} {l : pj_Loc} {a0 : Option Value} {x : Int32} {o9 : Option Value × pj_Mem} : pj_Ends 102 (0, a0 :: some (.int x) :: l, st, M) o9 = pj_Ends 102 (1, a0 :: some (.int x) :: l, .int x :: st, M) o9 := pj_xs (s102_0)
theorem q102_1 : pj_row 102 1 = some (.invokestatic 137, 3, 100, 1, 0) := by decide +kernel
theorem e102_1 {L : pj_Loc} {st : List Value} {N S : Nat} {H : pj_Heap} {o : Option Value × pj_Mem} {M' : pj_Mem} {x0 : Int32} {r : Int32} (h4 : pj_le4 st = true) (h1 : pj_Ends 100 (0, [some (.int x0)], [], (N, S, H)) (some (.int r), M')) (h2 : pj_Ends 102 (4, L, .int r :: st, M') o) : pj_Ends 102 (1, L, .int x0 :: st, (N, S, H)) o := ec_s1 q102_1 (Or.inl rfl) h4 rfl h1 h2
theorem q102_4 : pj_row 102 4 = some (.ifCond .ne 5, 3, 9, 0, 0) := by decide +kernel
theorem s102_4 {L : pj_Loc} {st : List Value} {M : pj_Mem} {x : Int32} : pj_step 102 (4, L, .int x :: st, M) = some (if ¬ x = 0 then 9 else 7, L, st, M) := st_if_ne q102_4
theorem x102_4 {L : pj_Loc} {st : List Value} {M : pj_Mem} {x : Int32} {o9 : Option Value × pj_Mem} : pj_Ends 102 (4, L, .int x :: st, M) o9 = pj_Ends 102 (if ¬ x = 0 then 9 else 7, L, st, M) o9 := pj_xs (s102_4)
theorem q102_7 : pj_row 102 7 = some (.iconst (-1), 1, 0, 0, 0) := by decide +kernel
theorem s102_7 {L : pj_Loc} {st : List Value} {M : pj_Mem}  : pj_step 102 (7, L, st, M) = some (8, L, .int (-1) :: st, M) := st_iconst q102_7 (by decide +kernel)
theorem x102_7 {L : pj_Loc} {st : List Value} {M : pj_Mem}  {o9 : Option Value × pj_Mem} : pj_Ends 102 (7, L, st, M) o9 = pj_Ends 102 (8, L, .int (-1) :: st, M) o9 := pj_xs (s102_7)
theorem q102_8 : pj_row 102 8 = some (.ireturn, 1, 0, 0, 0) := by decide +kernel
theorem t102_8 {L : pj_Loc} {M : pj_Mem} {v : Int32} : pj_Ends 102 (8, L, [.int v], M) (some (.int v), M) := pj_Ends.ret q102_8 (pj_rtn_i rt102)
theorem q102_9 : pj_row 102 9 = some (.aload_n 0, 1, 0, 0, 0) := by decide +kernel
theorem s102_9 {st : List Value} {M : pj_Mem} {l : pj_Loc} {x : Nat} : pj_step 102 (9, some (.ref x) :: l, st, M) = some (10, some (.ref x) :: l, .ref x :: st, M) := st_aload_n q102_9 rfl
theorem x102_9 {st : List Value} {M : pj_Mem} {l : pj_Loc} {x : Nat} {o9 : Option Value × pj_Mem} : pj_Ends 102 (9, some (.ref x) :: l, st, M) o9 = pj_Ends 102 (10, some (.ref x) :: l, .ref x :: st, M) o9 := pj_xs (s102_9)
theorem q102_10 : pj_row 102 10 = some (.invokevirtual 143, 3, 103, 1, 0) := by decide +kernel
theorem e102_10 {L : pj_Loc} {st : List Value} {N S : Nat} {H : pj_Heap} {o : Option Value × pj_Mem} {M' : pj_Mem} {x0 : Nat} {r : Int32} (h4 : pj_le4 st = true) (hu : pj_isU 6 (H x0) = true) (h1 : pj_Ends 103 (0, [some (.ref x0), none, none], [], (N, S, H)) (some (.int r), M')) (h2 : pj_Ends 102 (13, L, .int r :: st, M') o) : pj_Ends 102 (10, L, .ref x0 :: st, (N, S, H)) o := ec_v1 q102_10 (Or.inl rfl) h4 hu rfl h1 h2
theorem q102_13 : pj_row 102 13 = some (.ifCond .eq 6, 3, 19, 0, 0) := by decide +kernel
theorem s102_13 {L : pj_Loc} {st : List Value} {M : pj_Mem} {x : Int32} : pj_step 102 (13, L, .int x :: st, M) = some (if x = 0 then 19 else 16, L, st, M) := st_if_eq q102_13
theorem x102_13 {L : pj_Loc} {st : List Value} {M : pj_Mem} {x : Int32} {o9 : Option Value × pj_Mem} : pj_Ends 102 (13, L, .int x :: st, M) o9 = pj_Ends 102 (if x = 0 then 19 else 16, L, st, M) o9 := pj_xs (s102_13)
theorem q102_16 : pj_row 102 16 = some (.bipush (-5), 2, 0, 0, 0) := by decide +kernel
theorem s102_16 {L : pj_Loc} {st : List Value} {M : pj_Mem}  : pj_step 102 (16, L, st, M) = some (18, L, .int (-5) :: st, M) := st_bipush q102_16 (by decide +kernel)
theorem x102_16 {L : pj_Loc} {st : List Value} {M : pj_Mem}  {o9 : Option Value × pj_Mem} : pj_Ends 102 (16, L, st, M) o9 = pj_Ends 102 (18, L, .int (-5) :: st, M) o9 := pj_xs (s102_16)
theorem q102_18 : pj_row 102 18 = some (.ireturn, 1, 0, 0, 0) := by decide +kernel
theorem t102_18 {L : pj_Loc} {M : pj_Mem} {v : Int32} : pj_Ends 102 (18, L, [.int v], M) (some (.int v), M) := pj_Ends.ret q102_18 (pj_rtn_i rt102)
theorem q102_19 : pj_row 102 19 = some (.aload_n 0, 1, 0, 0, 0) := by decide +kernel
theorem s102_19 {st : List Value} {M : pj_Mem} {l : pj_Loc} {x : Nat} : pj_step 102 (19, some (.ref x) :: l, st, M) = some (20, some (.ref x) :: l, .ref x :: st, M) := st_aload_n q102_19 rfl
theorem x102_19 {st : List Value} {M : pj_Mem} {l : pj_Loc} {x : Nat} {o9 : Option Value × pj_Mem} : pj_Ends 102 (19, some (.ref x) :: l, st, M) o9 = pj_Ends 102 (20, some (.ref x) :: l, .ref x :: st, M) o9 := pj_xs (s102_19)
theorem q102_20 : pj_row 102 20 = some (.invokevirtual 121, 3, 78, 1, 0) := by decide +kernel
theorem e102_20 {L : pj_Loc} {st : List Value} {N S : Nat} {H : pj_Heap} {o : Option Value × pj_Mem} {M' : pj_Mem} {x0 : Nat} (h4 : pj_le4 st = true) (hu : pj_isU 6 (H x0) = true) (h1 : pj_Ends 78 (0, [some (.ref x0), none], [], (N, S, H)) (none, M')) (h2 : pj_Ends 102 (23, L, st, M') o) : pj_Ends 102 (20, L, .ref x0 :: st, (N, S, H)) o := ec_v1 q102_20 (Or.inl rfl) h4 hu rfl h1 h2
theorem q102_23 : pj_row 102 23 = some (.iconst 1, 1, 0, 0, 0) := by decide +kernel
theorem s102_23 {L : pj_Loc} {st : List Value} {M : pj_Mem}  : pj_step 102 (23, L, st, M) = some (24, L, .int 1 :: st, M) := st_iconst q102_23 (by decide +kernel)
theorem x102_23 {L : pj_Loc} {st : List Value} {M : pj_Mem}  {o9 : Option Value × pj_Mem} : pj_Ends 102 (23, L, st, M) o9 = pj_Ends 102 (24, L, .int 1 :: st, M) o9 := pj_xs (s102_23)
theorem q102_24 : pj_row 102 24 = some (.aload_n 0, 1, 0, 0, 0) := by decide +kernel
theorem s102_24 {st : List Value} {M : pj_Mem} {l : pj_Loc} {x : Nat} : pj_step 102 (24, some (.ref x) :: l, st, M) = some (25, some (.ref x) :: l, .ref x :: st, M) := st_aload_n q102_24 rfl
theorem x102_24 {st : List Value} {M : pj_Mem} {l : pj_Loc} {x : Nat} {o9 : Option Value × pj_Mem} : pj_Ends 102 (24, some (.ref x) :: l, st, M) o9 = pj_Ends 102 (25, some (.ref x) :: l, .ref x :: st, M) o9 := pj_xs (s102_24)
theorem q102_25 : pj_row 102 25 = some (.getfield 7, 3, 6, 0, 0) := by decide +kernel
theorem s102_25 {L : pj_Loc} {st : List Value} {N S : Nat} {H : pj_Heap} {o : Nat} : pj_step 102 (25, L, .ref o :: st, (N, S, H)) = pj_pv 28 L st (N, S, H) (pj_fld (H o) 6 0) := st_getfield q102_25
theorem x102_25 {L : pj_Loc} {st : List Value} {N S : Nat} {H : pj_Heap} {o : Nat} {o9 : Option Value × pj_Mem} : pj_Ends 102 (25, L, .ref o :: st, (N, S, H)) o9 = pj_then 102 o9 (pj_pv 28 L st (N, S, H) (pj_fld (H o) 6 0)) := pj_xt q102_25 rfl (pj_cl_nc rfl) (s102_25)
theorem q102_28 : pj_row 102 28 = some (.bipush 14, 2, 0, 0, 0) := by decide +kernel
theorem s102_28 {L : pj_Loc} {st : List Value} {M : pj_Mem}  : pj_step 102 (28, L, st, M) = some (30, L, .int 14 :: st, M) := st_bipush q102_28 (by decide +kernel)
theorem x102_28 {L : pj_Loc} {st : List Value} {M : pj_Mem}  {o9 : Option Value × pj_Mem} : pj_Ends 102 (28, L, st, M) o9 = pj_Ends 102 (30, L, .int 14 :: st, M) o9 := pj_xs (s102_28)
theorem q102_30 : pj_row 102 30 = some (.iload_n 1, 1, 0, 0, 0) := by decide +kernel
theorem s102_30 {st : List Value} {M : pj_Mem} {l : pj_Loc} {a0 : Option Value} {x : Int32} : pj_step 102 (30, a0 :: some (.int x) :: l, st, M) = some (31, a0 :: some (.int x) :: l, .int x :: st, M) := st_iload_n q102_30 rfl
theorem x102_30 {st : List Value} {M : pj_Mem} {l : pj_Loc} {a0 : Option Value} {x : Int32} {o9 : Option Value × pj_Mem} : pj_Ends 102 (30, a0 :: some (.int x) :: l, st, M) o9 = pj_Ends 102 (31, a0 :: some (.int x) :: l, .int x :: st, M) o9 := pj_xs (s102_30)
theorem q102_31 : pj_row 102 31 = some (.iadd, 1, 0, 0, 0) := by decide +kernel
theorem s102_31 {L : pj_Loc} {st : List Value} {M : pj_Mem} {x y : Int32} : pj_step 102 (31, L, .int y :: .int x :: st, M) = some (32, L, .int (x + y) :: st, M) := st_iadd q102_31
theorem x102_31 {L : pj_Loc} {st : List Value} {M : pj_Mem} {x y : Int32} {o9 : Option Value × pj_Mem} : pj_Ends 102 (31, L, .int y :: .int x :: st, M) o9 = pj_Ends 102 (32, L, .int (x + y) :: st, M) o9 := pj_xs (s102_31)
theorem q102_32 : pj_row 102 32 = some (.iaload, 1, 0, 0, 0) := by decide +kernel
theorem s102_32 {L : pj_Loc} {st : List Value} {N S : Nat} {H : pj_Heap} {o : Nat} {i : Int32} : pj_step 102 (32, L, .int i :: .ref o :: st, (N, S, H)) = pj_pi 33 L st (N, S, H) (pj_arl (H o) 0 i) := st_iaload q102_32
theorem x102_32 {L : pj_Loc} {st : List Value} {N S : Nat} {H : pj_Heap} {o : Nat} {i : Int32} {o9 : Option Value × pj_Mem} : pj_Ends 102 (32, L, .int i :: .ref o :: st, (N, S, H)) o9 = pj_then 102 o9 (pj_pi 33 L st (N, S, H) (pj_arl (H o) 0 i)) := pj_xt q102_32 rfl (pj_cl_nc rfl) (s102_32)
theorem q102_33 : pj_row 102 33 = some (.isub, 1, 0, 0, 0) := by decide +kernel
theorem s102_33 {L : pj_Loc} {st : List Value} {M : pj_Mem} {x y : Int32} : pj_step 102 (33, L, .int y :: .int x :: st, M) = some (34, L, .int (x - y) :: st, M) := st_isub q102_33
theorem x102_33 {L : pj_Loc} {st : List Value} {M : pj_Mem} {x y : Int32} {o9 : Option Value × pj_Mem} : pj_Ends 102 (33, L, .int y :: .int x :: st, M) o9 = pj_Ends 102 (34, L, .int (x - y) :: st, M) o9 := pj_xs (s102_33)
theorem q102_34 : pj_row 102 34 = some (.istore_n 2, 1, 0, 0, 0) := by decide +kernel
theorem s102_34 {st : List Value} {M : pj_Mem} {l : pj_Loc} {a0 a1 a2 : Option Value} {x : Int32} (h : pj_long a1 = false) : pj_step 102 (34, a0 :: a1 :: a2 :: l, .int x :: st, M) = some (35, a0 :: a1 :: some (.int x) :: l, st, M) := st_istore_n q102_34 (pj_st_2 h)
theorem x102_34 {st : List Value} {M : pj_Mem} {l : pj_Loc} {a0 a1 a2 : Option Value} {x : Int32} (h : pj_long a1 = false) {o9 : Option Value × pj_Mem} : pj_Ends 102 (34, a0 :: a1 :: a2 :: l, .int x :: st, M) o9 = pj_Ends 102 (35, a0 :: a1 :: some (.int x) :: l, st, M) o9 := pj_xs (s102_34 h)
theorem q102_35 : pj_row 102 35 = some (.aload_n 0, 1, 0, 0, 0) := by decide +kernel
theorem s102_35 {st : List Value} {M : pj_Mem} {l : pj_Loc} {x : Nat} : pj_step 102 (35, some (.ref x) :: l, st, M) = some (36, some (.ref x) :: l, .ref x :: st, M) := st_aload_n q102_35 rfl
theorem x102_35 {st : List Value} {M : pj_Mem} {l : pj_Loc} {x : Nat} {o9 : Option Value × pj_Mem} : pj_Ends 102 (35, some (.ref x) :: l, st, M) o9 = pj_Ends 102 (36, some (.ref x) :: l, .ref x :: st, M) o9 := pj_xs (s102_35)
theorem q102_36 : pj_row 102 36 = some (.getfield 7, 3, 6, 0, 0) := by decide +kernel
theorem s102_36 {L : pj_Loc} {st : List Value} {N S : Nat} {H : pj_Heap} {o : Nat} : pj_step 102 (36, L, .ref o :: st, (N, S, H)) = pj_pv 39 L st (N, S, H) (pj_fld (H o) 6 0) := st_getfield q102_36
theorem x102_36 {L : pj_Loc} {st : List Value} {N S : Nat} {H : pj_Heap} {o : Nat} {o9 : Option Value × pj_Mem} : pj_Ends 102 (36, L, .ref o :: st, (N, S, H)) o9 = pj_then 102 o9 (pj_pv 39 L st (N, S, H) (pj_fld (H o) 6 0)) := pj_xt q102_36 rfl (pj_cl_nc rfl) (s102_36)
theorem q102_39 : pj_row 102 39 = some (.bipush 14, 2, 0, 0, 0) := by decide +kernel
theorem s102_39 {L : pj_Loc} {st : List Value} {M : pj_Mem}  : pj_step 102 (39, L, st, M) = some (41, L, .int 14 :: st, M) := st_bipush q102_39 (by decide +kernel)
theorem x102_39 {L : pj_Loc} {st : List Value} {M : pj_Mem}  {o9 : Option Value × pj_Mem} : pj_Ends 102 (39, L, st, M) o9 = pj_Ends 102 (41, L, .int 14 :: st, M) o9 := pj_xs (s102_39)
theorem q102_41 : pj_row 102 41 = some (.iload_n 1, 1, 0, 0, 0) := by decide +kernel
theorem s102_41 {st : List Value} {M : pj_Mem} {l : pj_Loc} {a0 : Option Value} {x : Int32} : pj_step 102 (41, a0 :: some (.int x) :: l, st, M) = some (42, a0 :: some (.int x) :: l, .int x :: st, M) := st_iload_n q102_41 rfl
theorem x102_41 {st : List Value} {M : pj_Mem} {l : pj_Loc} {a0 : Option Value} {x : Int32} {o9 : Option Value × pj_Mem} : pj_Ends 102 (41, a0 :: some (.int x) :: l, st, M) o9 = pj_Ends 102 (42, a0 :: some (.int x) :: l, .int x :: st, M) o9 := pj_xs (s102_41)
theorem q102_42 : pj_row 102 42 = some (.iadd, 1, 0, 0, 0) := by decide +kernel
theorem s102_42 {L : pj_Loc} {st : List Value} {M : pj_Mem} {x y : Int32} : pj_step 102 (42, L, .int y :: .int x :: st, M) = some (43, L, .int (x + y) :: st, M) := st_iadd q102_42
theorem x102_42 {L : pj_Loc} {st : List Value} {M : pj_Mem} {x y : Int32} {o9 : Option Value × pj_Mem} : pj_Ends 102 (42, L, .int y :: .int x :: st, M) o9 = pj_Ends 102 (43, L, .int (x + y) :: st, M) o9 := pj_xs (s102_42)
theorem q102_43 : pj_row 102 43 = some (.iconst 1, 1, 0, 0, 0) := by decide +kernel
theorem s102_43 {L : pj_Loc} {st : List Value} {M : pj_Mem}  : pj_step 102 (43, L, st, M) = some (44, L, .int 1 :: st, M) := st_iconst q102_43 (by decide +kernel)
theorem x102_43 {L : pj_Loc} {st : List Value} {M : pj_Mem}  {o9 : Option Value × pj_Mem} : pj_Ends 102 (43, L, st, M) o9 = pj_Ends 102 (44, L, .int 1 :: st, M) o9 := pj_xs (s102_43)
theorem q102_44 : pj_row 102 44 = some (.iastore, 1, 0, 0, 0) := by decide +kernel
theorem s102_44 {L : pj_Loc} {st : List Value} {N S : Nat} {H : pj_Heap} {o : Nat} {i x : Int32} : pj_step 102 (44, L, .int x :: .int i :: .ref o :: st, (N, S, H)) = pj_set 45 L st (N, S, H) o (pj_ars (H o) 0 i x) := st_iastore q102_44
theorem x102_44 {L : pj_Loc} {st : List Value} {N S : Nat} {H : pj_Heap} {o : Nat} {i x : Int32} {o9 : Option Value × pj_Mem} : pj_Ends 102 (44, L, .int x :: .int i :: .ref o :: st, (N, S, H)) o9 = pj_then 102 o9 (pj_set 45 L st (N, S, H) o (pj_ars (H o) 0 i x)) := pj_xt q102_44 rfl (pj_cl_nc rfl) (s102_44)
theorem q102_45 : pj_row 102 45 = some (.aload_n 0, 1, 0, 0, 0) := by decide +kernel
theorem s102_45 {st : List Value} {M : pj_Mem} {l : pj_Loc} {x : Nat} : pj_step 102 (45, some (.ref x) :: l, st, M) = some (46, some (.ref x) :: l, .ref x :: st, M) := st_aload_n q102_45 rfl
theorem x102_45 {st : List Value} {M : pj_Mem} {l : pj_Loc} {x : Nat} {o9 : Option Value × pj_Mem} : pj_Ends 102 (45, some (.ref x) :: l, st, M) o9 = pj_Ends 102 (46, some (.ref x) :: l, .ref x :: st, M) o9 := pj_xs (s102_45)
theorem q102_46 : pj_row 102 46 = some (.getfield 7, 3, 6, 0, 0) := by decide +kernel
theorem s102_46 {L : pj_Loc} {st : List Value} {N S : Nat} {H : pj_Heap} {o : Nat} : pj_step 102 (46, L, .ref o :: st, (N, S, H)) = pj_pv 49 L st (N, S, H) (pj_fld (H o) 6 0) := st_getfield q102_46
theorem x102_46 {L : pj_Loc} {st : List Value} {N S : Nat} {H : pj_Heap} {o : Nat} {o9 : Option Value × pj_Mem} : pj_Ends 102 (46, L, .ref o :: st, (N, S, H)) o9 = pj_then 102 o9 (pj_pv 49 L st (N, S, H) (pj_fld (H o) 6 0)) := pj_xt q102_46 rfl (pj_cl_nc rfl) (s102_46)
theorem q102_49 : pj_row 102 49 = some (.bipush 8, 2, 0, 0, 0) := by decide +kernel
theorem s102_49 {L : pj_Loc} {st : List Value} {M : pj_Mem}  : pj_step 102 (49, L, st, M) = some (51, L, .int 8 :: st, M) := st_bipush q102_49 (by decide +kernel)
theorem x102_49 {L : pj_Loc} {st : List Value} {M : pj_Mem}  {o9 : Option Value × pj_Mem} : pj_Ends 102 (49, L, st, M) o9 = pj_Ends 102 (51, L, .int 8 :: st, M) o9 := pj_xs (s102_49)
theorem q102_51 : pj_row 102 51 = some (.iload_n 1, 1, 0, 0, 0) := by decide +kernel
theorem s102_51 {st : List Value} {M : pj_Mem} {l : pj_Loc} {a0 : Option Value} {x : Int32} : pj_step 102 (51, a0 :: some (.int x) :: l, st, M) = some (52, a0 :: some (.int x) :: l, .int x :: st, M) := st_iload_n q102_51 rfl
theorem x102_51 {st : List Value} {M : pj_Mem} {l : pj_Loc} {a0 : Option Value} {x : Int32} {o9 : Option Value × pj_Mem} : pj_Ends 102 (51, a0 :: some (.int x) :: l, st, M) o9 = pj_Ends 102 (52, a0 :: some (.int x) :: l, .int x :: st, M) o9 := pj_xs (s102_51)
theorem q102_52 : pj_row 102 52 = some (.iadd, 1, 0, 0, 0) := by decide +kernel
theorem s102_52 {L : pj_Loc} {st : List Value} {M : pj_Mem} {x y : Int32} : pj_step 102 (52, L, .int y :: .int x :: st, M) = some (53, L, .int (x + y) :: st, M) := st_iadd q102_52
theorem x102_52 {L : pj_Loc} {st : List Value} {M : pj_Mem} {x y : Int32} {o9 : Option Value × pj_Mem} : pj_Ends 102 (52, L, .int y :: .int x :: st, M) o9 = pj_Ends 102 (53, L, .int (x + y) :: st, M) o9 := pj_xs (s102_52)
theorem q102_53 : pj_row 102 53 = some (.iconst 0, 1, 0, 0, 0) := by decide +kernel
theorem s102_53 {L : pj_Loc} {st : List Value} {M : pj_Mem}  : pj_step 102 (53, L, st, M) = some (54, L, .int 0 :: st, M) := st_iconst q102_53 (by decide +kernel)
theorem x102_53 {L : pj_Loc} {st : List Value} {M : pj_Mem}  {o9 : Option Value × pj_Mem} : pj_Ends 102 (53, L, st, M) o9 = pj_Ends 102 (54, L, .int 0 :: st, M) o9 := pj_xs (s102_53)
theorem q102_54 : pj_row 102 54 = some (.iastore, 1, 0, 0, 0) := by decide +kernel
theorem s102_54 {L : pj_Loc} {st : List Value} {N S : Nat} {H : pj_Heap} {o : Nat} {i x : Int32} : pj_step 102 (54, L, .int x :: .int i :: .ref o :: st, (N, S, H)) = pj_set 55 L st (N, S, H) o (pj_ars (H o) 0 i x) := st_iastore q102_54
theorem x102_54 {L : pj_Loc} {st : List Value} {N S : Nat} {H : pj_Heap} {o : Nat} {i x : Int32} {o9 : Option Value × pj_Mem} : pj_Ends 102 (54, L, .int x :: .int i :: .ref o :: st, (N, S, H)) o9 = pj_then 102 o9 (pj_set 55 L st (N, S, H) o (pj_ars (H o) 0 i x)) := pj_xt q102_54 rfl (pj_cl_nc rfl) (s102_54)
theorem q102_55 : pj_row 102 55 = some (.aload_n 0, 1, 0, 0, 0) := by decide +kernel
theorem s102_55 {st : List Value} {M : pj_Mem} {l : pj_Loc} {x : Nat} : pj_step 102 (55, some (.ref x) :: l, st, M) = some (56, some (.ref x) :: l, .ref x :: st, M) := st_aload_n q102_55 rfl
theorem x102_55 {st : List Value} {M : pj_Mem} {l : pj_Loc} {x : Nat} {o9 : Option Value × pj_Mem} : pj_Ends 102 (55, some (.ref x) :: l, st, M) o9 = pj_Ends 102 (56, some (.ref x) :: l, .ref x :: st, M) o9 := pj_xs (s102_55)
theorem q102_56 : pj_row 102 56 = some (.getfield 7, 3, 6, 0, 0) := by decide +kernel
theorem s102_56 {L : pj_Loc} {st : List Value} {N S : Nat} {H : pj_Heap} {o : Nat} : pj_step 102 (56, L, .ref o :: st, (N, S, H)) = pj_pv 59 L st (N, S, H) (pj_fld (H o) 6 0) := st_getfield q102_56
theorem x102_56 {L : pj_Loc} {st : List Value} {N S : Nat} {H : pj_Heap} {o : Nat} {o9 : Option Value × pj_Mem} : pj_Ends 102 (56, L, .ref o :: st, (N, S, H)) o9 = pj_then 102 o9 (pj_pv 59 L st (N, S, H) (pj_fld (H o) 6 0)) := pj_xt q102_56 rfl (pj_cl_nc rfl) (s102_56)
theorem q102_59 : pj_row 102 59 = some (.bipush 11, 2, 0, 0, 0) := by decide +kernel
theorem s102_59 {L : pj_Loc} {st : List Value} {M : pj_Mem}  : pj_step 102 (59, L, st, M) = some (61, L, .int 11 :: st, M) := st_bipush q102_59 (by decide +kernel)
theorem x102_59 {L : pj_Loc} {st : List Value} {M : pj_Mem}  {o9 : Option Value × pj_Mem} : pj_Ends 102 (59, L, st, M) o9 = pj_Ends 102 (61, L, .int 11 :: st, M) o9 := pj_xs (s102_59)
theorem q102_61 : pj_row 102 61 = some (.iload_n 1, 1, 0, 0, 0) := by decide +kernel
theorem s102_61 {st : List Value} {M : pj_Mem} {l : pj_Loc} {a0 : Option Value} {x : Int32} : pj_step 102 (61, a0 :: some (.int x) :: l, st, M) = some (62, a0 :: some (.int x) :: l, .int x :: st, M) := st_iload_n q102_61 rfl
theorem x102_61 {st : List Value} {M : pj_Mem} {l : pj_Loc} {a0 : Option Value} {x : Int32} {o9 : Option Value × pj_Mem} : pj_Ends 102 (61, a0 :: some (.int x) :: l, st, M) o9 = pj_Ends 102 (62, a0 :: some (.int x) :: l, .int x :: st, M) o9 := pj_xs (s102_61)
theorem q102_62 : pj_row 102 62 = some (.iadd, 1, 0, 0, 0) := by decide +kernel
theorem s102_62 {L : pj_Loc} {st : List Value} {M : pj_Mem} {x y : Int32} : pj_step 102 (62, L, .int y :: .int x :: st, M) = some (63, L, .int (x + y) :: st, M) := st_iadd q102_62
theorem x102_62 {L : pj_Loc} {st : List Value} {M : pj_Mem} {x y : Int32} {o9 : Option Value × pj_Mem} : pj_Ends 102 (62, L, .int y :: .int x :: st, M) o9 = pj_Ends 102 (63, L, .int (x + y) :: st, M) o9 := pj_xs (s102_62)
theorem q102_63 : pj_row 102 63 = some (.iconst 0, 1, 0, 0, 0) := by decide +kernel
theorem s102_63 {L : pj_Loc} {st : List Value} {M : pj_Mem}  : pj_step 102 (63, L, st, M) = some (64, L, .int 0 :: st, M) := st_iconst q102_63 (by decide +kernel)
theorem x102_63 {L : pj_Loc} {st : List Value} {M : pj_Mem}  {o9 : Option Value × pj_Mem} : pj_Ends 102 (63, L, st, M) o9 = pj_Ends 102 (64, L, .int 0 :: st, M) o9 := pj_xs (s102_63)
theorem q102_64 : pj_row 102 64 = some (.iastore, 1, 0, 0, 0) := by decide +kernel
theorem s102_64 {L : pj_Loc} {st : List Value} {N S : Nat} {H : pj_Heap} {o : Nat} {i x : Int32} : pj_step 102 (64, L, .int x :: .int i :: .ref o :: st, (N, S, H)) = pj_set 65 L st (N, S, H) o (pj_ars (H o) 0 i x) := st_iastore q102_64
theorem x102_64 {L : pj_Loc} {st : List Value} {N S : Nat} {H : pj_Heap} {o : Nat} {i x : Int32} {o9 : Option Value × pj_Mem} : pj_Ends 102 (64, L, .int x :: .int i :: .ref o :: st, (N, S, H)) o9 = pj_then 102 o9 (pj_set 65 L st (N, S, H) o (pj_ars (H o) 0 i x)) := pj_xt q102_64 rfl (pj_cl_nc rfl) (s102_64)
theorem q102_65 : pj_row 102 65 = some (.aload_n 0, 1, 0, 0, 0) := by decide +kernel
theorem s102_65 {st : List Value} {M : pj_Mem} {l : pj_Loc} {x : Nat} : pj_step 102 (65, some (.ref x) :: l, st, M) = some (66, some (.ref x) :: l, .ref x :: st, M) := st_aload_n q102_65 rfl
theorem x102_65 {st : List Value} {M : pj_Mem} {l : pj_Loc} {x : Nat} {o9 : Option Value × pj_Mem} : pj_Ends 102 (65, some (.ref x) :: l, st, M) o9 = pj_Ends 102 (66, some (.ref x) :: l, .ref x :: st, M) o9 := pj_xs (s102_65)
theorem q102_66 : pj_row 102 66 = some (.getfield 7, 3, 6, 0, 0) := by decide +kernel
theorem s102_66 {L : pj_Loc} {st : List Value} {N S : Nat} {H : pj_Heap} {o : Nat} : pj_step 102 (66, L, .ref o :: st, (N, S, H)) = pj_pv 69 L st (N, S, H) (pj_fld (H o) 6 0) := st_getfield q102_66
theorem x102_66 {L : pj_Loc} {st : List Value} {N S : Nat} {H : pj_Heap} {o : Nat} {o9 : Option Value × pj_Mem} : pj_Ends 102 (66, L, .ref o :: st, (N, S, H)) o9 = pj_then 102 o9 (pj_pv 69 L st (N, S, H) (pj_fld (H o) 6 0)) := pj_xt q102_66 rfl (pj_cl_nc rfl) (s102_66)
theorem q102_69 : pj_row 102 69 = some (.bipush 17, 2, 0, 0, 0) := by decide +kernel
theorem s102_69 {L : pj_Loc} {st : List Value} {M : pj_Mem}  : pj_step 102 (69, L, st, M) = some (71, L, .int 17 :: st, M) := st_bipush q102_69 (by decide +kernel)
theorem x102_69 {L : pj_Loc} {st : List Value} {M : pj_Mem}  {o9 : Option Value × pj_Mem} : pj_Ends 102 (69, L, st, M) o9 = pj_Ends 102 (71, L, .int 17 :: st, M) o9 := pj_xs (s102_69)
theorem q102_71 : pj_row 102 71 = some (.iload_n 1, 1, 0, 0, 0) := by decide +kernel
theorem s102_71 {st : List Value} {M : pj_Mem} {l : pj_Loc} {a0 : Option Value} {x : Int32} : pj_step 102 (71, a0 :: some (.int x) :: l, st, M) = some (72, a0 :: some (.int x) :: l, .int x :: st, M) := st_iload_n q102_71 rfl
theorem x102_71 {st : List Value} {M : pj_Mem} {l : pj_Loc} {a0 : Option Value} {x : Int32} {o9 : Option Value × pj_Mem} : pj_Ends 102 (71, a0 :: some (.int x) :: l, st, M) o9 = pj_Ends 102 (72, a0 :: some (.int x) :: l, .int x :: st, M) o9 := pj_xs (s102_71)
theorem q102_72 : pj_row 102 72 = some (.iadd, 1, 0, 0, 0) := by decide +kernel
theorem s102_72 {L : pj_Loc} {st : List Value} {M : pj_Mem} {x y : Int32} : pj_step 102 (72, L, .int y :: .int x :: st, M) = some (73, L, .int (x + y) :: st, M) := st_iadd q102_72
theorem x102_72 {L : pj_Loc} {st : List Value} {M : pj_Mem} {x y : Int32} {o9 : Option Value × pj_Mem} : pj_Ends 102 (72, L, .int y :: .int x :: st, M) o9 = pj_Ends 102 (73, L, .int (x + y) :: st, M) o9 := pj_xs (s102_72)
theorem q102_73 : pj_row 102 73 = some (.iconst 0, 1, 0, 0, 0) := by decide +kernel
theorem s102_73 {L : pj_Loc} {st : List Value} {M : pj_Mem}  : pj_step 102 (73, L, st, M) = some (74, L, .int 0 :: st, M) := st_iconst q102_73 (by decide +kernel)
theorem x102_73 {L : pj_Loc} {st : List Value} {M : pj_Mem}  {o9 : Option Value × pj_Mem} : pj_Ends 102 (73, L, st, M) o9 = pj_Ends 102 (74, L, .int 0 :: st, M) o9 := pj_xs (s102_73)
theorem q102_74 : pj_row 102 74 = some (.iastore, 1, 0, 0, 0) := by decide +kernel
theorem s102_74 {L : pj_Loc} {st : List Value} {N S : Nat} {H : pj_Heap} {o : Nat} {i x : Int32} : pj_step 102 (74, L, .int x :: .int i :: .ref o :: st, (N, S, H)) = pj_set 75 L st (N, S, H) o (pj_ars (H o) 0 i x) := st_iastore q102_74
theorem x102_74 {L : pj_Loc} {st : List Value} {N S : Nat} {H : pj_Heap} {o : Nat} {i x : Int32} {o9 : Option Value × pj_Mem} : pj_Ends 102 (74, L, .int x :: .int i :: .ref o :: st, (N, S, H)) o9 = pj_then 102 o9 (pj_set 75 L st (N, S, H) o (pj_ars (H o) 0 i x)) := pj_xt q102_74 rfl (pj_cl_nc rfl) (s102_74)
theorem q102_75 : pj_row 102 75 = some (.aload_n 0, 1, 0, 0, 0) := by decide +kernel
theorem s102_75 {st : List Value} {M : pj_Mem} {l : pj_Loc} {x : Nat} : pj_step 102 (75, some (.ref x) :: l, st, M) = some (76, some (.ref x) :: l, .ref x :: st, M) := st_aload_n q102_75 rfl
theorem x102_75 {st : List Value} {M : pj_Mem} {l : pj_Loc} {x : Nat} {o9 : Option Value × pj_Mem} : pj_Ends 102 (75, some (.ref x) :: l, st, M) o9 = pj_Ends 102 (76, some (.ref x) :: l, .ref x :: st, M) o9 := pj_xs (s102_75)
theorem q102_76 : pj_row 102 76 = some (.iload_n 2, 1, 0, 0, 0) := by decide +kernel
theorem s102_76 {st : List Value} {M : pj_Mem} {l : pj_Loc} {a0 a1 : Option Value} {x : Int32} : pj_step 102 (76, a0 :: a1 :: some (.int x) :: l, st, M) = some (77, a0 :: a1 :: some (.int x) :: l, .int x :: st, M) := st_iload_n q102_76 rfl
theorem x102_76 {st : List Value} {M : pj_Mem} {l : pj_Loc} {a0 a1 : Option Value} {x : Int32} {o9 : Option Value × pj_Mem} : pj_Ends 102 (76, a0 :: a1 :: some (.int x) :: l, st, M) o9 = pj_Ends 102 (77, a0 :: a1 :: some (.int x) :: l, .int x :: st, M) o9 := pj_xs (s102_76)
theorem q102_77 : pj_row 102 77 = some (.invokevirtual 124, 3, 79, 2, 0) := by decide +kernel
theorem e102_77 {L : pj_Loc} {st : List Value} {N S : Nat} {H : pj_Heap} {o : Option Value × pj_Mem} {M' : pj_Mem} {x0 : Nat} {x1 : Int32} {r : Int32} (h4 : pj_le4 st = true) (hu : pj_isU 6 (H x0) = true) (h1 : pj_Ends 79 (0, [some (.ref x0), some (.int x1), none], [], (N, S, H)) (some (.int r), M')) (h2 : pj_Ends 102 (80, L, .int r :: st, M') o) : pj_Ends 102 (77, L, .int x1 :: .ref x0 :: st, (N, S, H)) o := ec_v2 q102_77 (Or.inl rfl) h4 hu rfl h1 h2
theorem q102_80 : pj_row 102 80 = some (.ireturn, 1, 0, 0, 0) := by decide +kernel
theorem t102_80 {L : pj_Loc} {M : pj_Mem} {v : Int32} : pj_Ends 102 (80, L, [.int v], M) (some (.int v), M) := pj_Ends.ret q102_80 (pj_rtn_i rt102)
theorem rt103 : pj_rt 103 = some .int := rfl
theorem q103_0 : pj_row 103 0 = some (.iconst 0, 1, 0, 0, 0) := by decide +kernel
theorem s103_0 {L : pj_Loc} {st : List Value} {M : pj_Mem}  : pj_step 103 (0, L, st, M) = some (1, L, .int 0 :: st, M) := st_iconst q103_0 (by decide +kernel)
theorem x103_0 {L : pj_Loc} {st : List Value} {M : pj_Mem}  {o9 : Option Value × pj_Mem} : pj_Ends 103 (0, L, st, M) o9 = pj_Ends 103 (1, L, .int 0 :: st, M) o9 := pj_xs (s103_0)
theorem q103_1 : pj_row 103 1 = some (.istore_n 1, 1, 0, 0, 0) := by decide +kernel
theorem s103_1 {st : List Value} {M : pj_Mem} {l : pj_Loc} {a0 a1 : Option Value} {x : Int32} (h : pj_long a0 = false) : pj_step 103 (1, a0 :: a1 :: l, .int x :: st, M) = some (2, a0 :: some (.int x) :: l, st, M) := st_istore_n q103_1 (pj_st_1 h)
theorem x103_1 {st : List Value} {M : pj_Mem} {l : pj_Loc} {a0 a1 : Option Value} {x : Int32} (h : pj_long a0 = false) {o9 : Option Value × pj_Mem} : pj_Ends 103 (1, a0 :: a1 :: l, .int x :: st, M) o9 = pj_Ends 103 (2, a0 :: some (.int x) :: l, st, M) o9 := pj_xs (s103_1 h)
theorem q103_2 : pj_row 103 2 = some (.iconst 0, 1, 0, 0, 0) := by decide +kernel
theorem s103_2 {L : pj_Loc} {st : List Value} {M : pj_Mem}  : pj_step 103 (2, L, st, M) = some (3, L, .int 0 :: st, M) := st_iconst q103_2 (by decide +kernel)
theorem x103_2 {L : pj_Loc} {st : List Value} {M : pj_Mem}  {o9 : Option Value × pj_Mem} : pj_Ends 103 (2, L, st, M) o9 = pj_Ends 103 (3, L, .int 0 :: st, M) o9 := pj_xs (s103_2)
theorem q103_3 : pj_row 103 3 = some (.istore_n 2, 1, 0, 0, 0) := by decide +kernel
theorem s103_3 {st : List Value} {M : pj_Mem} {l : pj_Loc} {a0 a1 a2 : Option Value} {x : Int32} (h : pj_long a1 = false) : pj_step 103 (3, a0 :: a1 :: a2 :: l, .int x :: st, M) = some (4, a0 :: a1 :: some (.int x) :: l, st, M) := st_istore_n q103_3 (pj_st_2 h)
theorem x103_3 {st : List Value} {M : pj_Mem} {l : pj_Loc} {a0 a1 a2 : Option Value} {x : Int32} (h : pj_long a1 = false) {o9 : Option Value × pj_Mem} : pj_Ends 103 (3, a0 :: a1 :: a2 :: l, .int x :: st, M) o9 = pj_Ends 103 (4, a0 :: a1 :: some (.int x) :: l, st, M) o9 := pj_xs (s103_3 h)
theorem q103_4 : pj_row 103 4 = some (.iload_n 2, 1, 0, 0, 0) := by decide +kernel
theorem s103_4 {st : List Value} {M : pj_Mem} {l : pj_Loc} {a0 a1 : Option Value} {x : Int32} : pj_step 103 (4, a0 :: a1 :: some (.int x) :: l, st, M) = some (5, a0 :: a1 :: some (.int x) :: l, .int x :: st, M) := st_iload_n q103_4 rfl
theorem x103_4 {st : List Value} {M : pj_Mem} {l : pj_Loc} {a0 a1 : Option Value} {x : Int32} {o9 : Option Value × pj_Mem} : pj_Ends 103 (4, a0 :: a1 :: some (.int x) :: l, st, M) o9 = pj_Ends 103 (5, a0 :: a1 :: some (.int x) :: l, .int x :: st, M) o9 := pj_xs (s103_4)
theorem q103_5 : pj_row 103 5 = some (.iconst 3, 1, 0, 0, 0) := by decide +kernel
theorem s103_5 {L : pj_Loc} {st : List Value} {M : pj_Mem}  : pj_step 103 (5, L, st, M) = some (6, L, .int 3 :: st, M) := st_iconst q103_5 (by decide +kernel)
theorem x103_5 {L : pj_Loc} {st : List Value} {M : pj_Mem}  {o9 : Option Value × pj_Mem} : pj_Ends 103 (5, L, st, M) o9 = pj_Ends 103 (6, L, .int 3 :: st, M) o9 := pj_xs (s103_5)
theorem q103_6 : pj_row 103 6 = some (.if_icmp .ge 33, 3, 39, 0, 0) := by decide +kernel
theorem s103_6 {L : pj_Loc} {st : List Value} {M : pj_Mem} {x y : Int32} : pj_step 103 (6, L, .int y :: .int x :: st, M) = some (if y ≤ x then 39 else 9, L, st, M) := st_icmp_ge q103_6
theorem x103_6 {L : pj_Loc} {st : List Value} {M : pj_Mem} {x y : Int32} {o9 : Option Value × pj_Mem} : pj_Ends 103 (6, L, .int y :: .int x :: st, M) o9 = pj_Ends 103 (if y ≤ x then 39 else 9, L, st, M) o9 := pj_xs (s103_6)
theorem q103_9 : pj_row 103 9 = some (.iload_n 1, 1, 0, 0, 0) := by decide +kernel
theorem s103_9 {st : List Value} {M : pj_Mem} {l : pj_Loc} {a0 : Option Value} {x : Int32} : pj_step 103 (9, a0 :: some (.int x) :: l, st, M) = some (10, a0 :: some (.int x) :: l, .int x :: st, M) := st_iload_n q103_9 rfl
theorem x103_9 {st : List Value} {M : pj_Mem} {l : pj_Loc} {a0 : Option Value} {x : Int32} {o9 : Option Value × pj_Mem} : pj_Ends 103 (9, a0 :: some (.int x) :: l, st, M) o9 = pj_Ends 103 (10, a0 :: some (.int x) :: l, .int x :: st, M) o9 := pj_xs (s103_9)
theorem q103_10 : pj_row 103 10 = some (.aload_n 0, 1, 0, 0, 0) := by decide +kernel
theorem s103_10 {st : List Value} {M : pj_Mem} {l : pj_Loc} {x : Nat} : pj_step 103 (10, some (.ref x) :: l, st, M) = some (11, some (.ref x) :: l, .ref x :: st, M) := st_aload_n q103_10 rfl
theorem x103_10 {st : List Value} {M : pj_Mem} {l : pj_Loc} {x : Nat} {o9 : Option Value × pj_Mem} : pj_Ends 103 (10, some (.ref x) :: l, st, M) o9 = pj_Ends 103 (11, some (.ref x) :: l, .ref x :: st, M) o9 := pj_xs (s103_10)
theorem q103_11 : pj_row 103 11 = some (.getfield 7, 3, 6, 0, 0) := by decide +kernel
theorem s103_11 {L : pj_Loc} {st : List Value} {N S : Nat} {H : pj_Heap} {o : Nat} : pj_step 103 (11, L, .ref o :: st, (N, S, H)) = pj_pv 14 L st (N, S, H) (pj_fld (H o) 6 0) := st_getfield q103_11
theorem x103_11 {L : pj_Loc} {st : List Value} {N S : Nat} {H : pj_Heap} {o : Nat} {o9 : Option Value × pj_Mem} : pj_Ends 103 (11, L, .ref o :: st, (N, S, H)) o9 = pj_then 103 o9 (pj_pv 14 L st (N, S, H) (pj_fld (H o) 6 0)) := pj_xt q103_11 rfl (pj_cl_nc rfl) (s103_11)
theorem q103_14 : pj_row 103 14 = some (.bipush 23, 2, 0, 0, 0) := by decide +kernel
theorem s103_14 {L : pj_Loc} {st : List Value} {M : pj_Mem}  : pj_step 103 (14, L, st, M) = some (16, L, .int 23 :: st, M) := st_bipush q103_14 (by decide +kernel)
theorem x103_14 {L : pj_Loc} {st : List Value} {M : pj_Mem}  {o9 : Option Value × pj_Mem} : pj_Ends 103 (14, L, st, M) o9 = pj_Ends 103 (16, L, .int 23 :: st, M) o9 := pj_xs (s103_14)
theorem q103_16 : pj_row 103 16 = some (.iload_n 2, 1, 0, 0, 0) := by decide +kernel
theorem s103_16 {st : List Value} {M : pj_Mem} {l : pj_Loc} {a0 a1 : Option Value} {x : Int32} : pj_step 103 (16, a0 :: a1 :: some (.int x) :: l, st, M) = some (17, a0 :: a1 :: some (.int x) :: l, .int x :: st, M) := st_iload_n q103_16 rfl
theorem x103_16 {st : List Value} {M : pj_Mem} {l : pj_Loc} {a0 a1 : Option Value} {x : Int32} {o9 : Option Value × pj_Mem} : pj_Ends 103 (16, a0 :: a1 :: some (.int x) :: l, st, M) o9 = pj_Ends 103 (17, a0 :: a1 :: some (.int x) :: l, .int x :: st, M) o9 := pj_xs (s103_16)
theorem q103_17 : pj_row 103 17 = some (.iadd, 1, 0, 0, 0) := by decide +kernel
theorem s103_17 {L : pj_Loc} {st : List Value} {M : pj_Mem} {x y : Int32} : pj_step 103 (17, L, .int y :: .int x :: st, M) = some (18, L, .int (x + y) :: st, M) := st_iadd q103_17
theorem x103_17 {L : pj_Loc} {st : List Value} {M : pj_Mem} {x y : Int32} {o9 : Option Value × pj_Mem} : pj_Ends 103 (17, L, .int y :: .int x :: st, M) o9 = pj_Ends 103 (18, L, .int (x + y) :: st, M) o9 := pj_xs (s103_17)
theorem q103_18 : pj_row 103 18 = some (.iaload, 1, 0, 0, 0) := by decide +kernel
theorem s103_18 {L : pj_Loc} {st : List Value} {N S : Nat} {H : pj_Heap} {o : Nat} {i : Int32} : pj_step 103 (18, L, .int i :: .ref o :: st, (N, S, H)) = pj_pi 19 L st (N, S, H) (pj_arl (H o) 0 i) := st_iaload q103_18
theorem x103_18 {L : pj_Loc} {st : List Value} {N S : Nat} {H : pj_Heap} {o : Nat} {i : Int32} {o9 : Option Value × pj_Mem} : pj_Ends 103 (18, L, .int i :: .ref o :: st, (N, S, H)) o9 = pj_then 103 o9 (pj_pi 19 L st (N, S, H) (pj_arl (H o) 0 i)) := pj_xt q103_18 rfl (pj_cl_nc rfl) (s103_18)
theorem q103_19 : pj_row 103 19 = some (.bipush (-6), 2, 0, 0, 0) := by decide +kernel
theorem s103_19 {L : pj_Loc} {st : List Value} {M : pj_Mem}  : pj_step 103 (19, L, st, M) = some (21, L, .int (-6) :: st, M) := st_bipush q103_19 (by decide +kernel)
theorem x103_19 {L : pj_Loc} {st : List Value} {M : pj_Mem}  {o9 : Option Value × pj_Mem} : pj_Ends 103 (19, L, st, M) o9 = pj_Ends 103 (21, L, .int (-6) :: st, M) o9 := pj_xs (s103_19)
theorem q103_21 : pj_row 103 21 = some (.if_icmp .ne 7, 3, 28, 0, 0) := by decide +kernel
theorem s103_21 {L : pj_Loc} {st : List Value} {M : pj_Mem} {x y : Int32} : pj_step 103 (21, L, .int y :: .int x :: st, M) = some (if ¬ x = y then 28 else 24, L, st, M) := st_icmp_ne q103_21
theorem x103_21 {L : pj_Loc} {st : List Value} {M : pj_Mem} {x y : Int32} {o9 : Option Value × pj_Mem} : pj_Ends 103 (21, L, .int y :: .int x :: st, M) o9 = pj_Ends 103 (if ¬ x = y then 28 else 24, L, st, M) o9 := pj_xs (s103_21)
theorem q103_24 : pj_row 103 24 = some (.iconst 0, 1, 0, 0, 0) := by decide +kernel
theorem s103_24 {L : pj_Loc} {st : List Value} {M : pj_Mem}  : pj_step 103 (24, L, st, M) = some (25, L, .int 0 :: st, M) := st_iconst q103_24 (by decide +kernel)
theorem x103_24 {L : pj_Loc} {st : List Value} {M : pj_Mem}  {o9 : Option Value × pj_Mem} : pj_Ends 103 (24, L, st, M) o9 = pj_Ends 103 (25, L, .int 0 :: st, M) o9 := pj_xs (s103_24)
theorem q103_25 : pj_row 103 25 = some (.goto 6, 3, 31, 0, 0) := by decide +kernel
theorem s103_25 {L : pj_Loc} {st : List Value} {M : pj_Mem}  : pj_step 103 (25, L, st, M) = some (31, L, st, M) := st_goto q103_25
theorem x103_25 {L : pj_Loc} {st : List Value} {M : pj_Mem}  {o9 : Option Value × pj_Mem} : pj_Ends 103 (25, L, st, M) o9 = pj_Ends 103 (31, L, st, M) o9 := pj_xs (s103_25)
theorem q103_28 : pj_row 103 28 = some (.iconst 1, 1, 0, 0, 0) := by decide +kernel
theorem s103_28 {L : pj_Loc} {st : List Value} {M : pj_Mem}  : pj_step 103 (28, L, st, M) = some (29, L, .int 1 :: st, M) := st_iconst q103_28 (by decide +kernel)
theorem x103_28 {L : pj_Loc} {st : List Value} {M : pj_Mem}  {o9 : Option Value × pj_Mem} : pj_Ends 103 (28, L, st, M) o9 = pj_Ends 103 (29, L, .int 1 :: st, M) o9 := pj_xs (s103_28)
theorem q103_29 : pj_row 103 29 = some (.iload_n 2, 1, 0, 0, 0) := by decide +kernel
theorem s103_29 {st : List Value} {M : pj_Mem} {l : pj_Loc} {a0 a1 : Option Value} {x : Int32} : pj_step 103 (29, a0 :: a1 :: some (.int x) :: l, st, M) = some (30, a0 :: a1 :: some (.int x) :: l, .int x :: st, M) := st_iload_n q103_29 rfl
theorem x103_29 {st : List Value} {M : pj_Mem} {l : pj_Loc} {a0 a1 : Option Value} {x : Int32} {o9 : Option Value × pj_Mem} : pj_Ends 103 (29, a0 :: a1 :: some (.int x) :: l, st, M) o9 = pj_Ends 103 (30, a0 :: a1 :: some (.int x) :: l, .int x :: st, M) o9 := pj_xs (s103_29)
theorem q103_30 : pj_row 103 30 = some (.ishl, 1, 0, 0, 0) := by decide +kernel
theorem s103_30 {L : pj_Loc} {st : List Value} {M : pj_Mem} {x y : Int32} : pj_step 103 (30, L, .int y :: .int x :: st, M) = some (31, L, .int (x <<< (y &&& 31)) :: st, M) := st_ishl q103_30
theorem x103_30 {L : pj_Loc} {st : List Value} {M : pj_Mem} {x y : Int32} {o9 : Option Value × pj_Mem} : pj_Ends 103 (30, L, .int y :: .int x :: st, M) o9 = pj_Ends 103 (31, L, .int (x <<< (y &&& 31)) :: st, M) o9 := pj_xs (s103_30)
theorem q103_31 : pj_row 103 31 = some (.ior, 1, 0, 0, 0) := by decide +kernel
theorem s103_31 {L : pj_Loc} {st : List Value} {M : pj_Mem} {x y : Int32} : pj_step 103 (31, L, .int y :: .int x :: st, M) = some (32, L, .int (x ||| y) :: st, M) := st_ior q103_31
theorem x103_31 {L : pj_Loc} {st : List Value} {M : pj_Mem} {x y : Int32} {o9 : Option Value × pj_Mem} : pj_Ends 103 (31, L, .int y :: .int x :: st, M) o9 = pj_Ends 103 (32, L, .int (x ||| y) :: st, M) o9 := pj_xs (s103_31)
theorem q103_32 : pj_row 103 32 = some (.istore_n 1, 1, 0, 0, 0) := by decide +kernel
theorem s103_32 {st : List Value} {M : pj_Mem} {l : pj_Loc} {a0 a1 : Option Value} {x : Int32} (h : pj_long a0 = false) : pj_step 103 (32, a0 :: a1 :: l, .int x :: st, M) = some (33, a0 :: some (.int x) :: l, st, M) := st_istore_n q103_32 (pj_st_1 h)
theorem x103_32 {st : List Value} {M : pj_Mem} {l : pj_Loc} {a0 a1 : Option Value} {x : Int32} (h : pj_long a0 = false) {o9 : Option Value × pj_Mem} : pj_Ends 103 (32, a0 :: a1 :: l, .int x :: st, M) o9 = pj_Ends 103 (33, a0 :: some (.int x) :: l, st, M) o9 := pj_xs (s103_32 h)
theorem q103_33 : pj_row 103 33 = some (.iinc 2 1, 3, 0, 0, 0) := by decide +kernel
theorem s103_33 {st : List Value} {M : pj_Mem} {l : pj_Loc} {a0 a1 : Option Value} {x : Int32} (h : pj_long a1 = false) : pj_step 103 (33, a0 :: a1 :: some (.int x) :: l, st, M) = some (36, a0 :: a1 :: some (.int (x + 1)) :: l, st, M) := st_iinc q103_33 rfl (congrArg (fun y => x + y) (show Int32.ofInt 1 = 1 by decide +kernel)) (pj_st_2 h)
theorem x103_33 {st : List Value} {M : pj_Mem} {l : pj_Loc} {a0 a1 : Option Value} {x : Int32} (h : pj_long a1 = false) {o9 : Option Value × pj_Mem} : pj_Ends 103 (33, a0 :: a1 :: some (.int x) :: l, st, M) o9 = pj_Ends 103 (36, a0 :: a1 :: some (.int (x + 1)) :: l, st, M) o9 := pj_xs (s103_33 h)
theorem q103_36 : pj_row 103 36 = some (.goto (-32), 3, 4, 0, 0) := by decide +kernel
theorem s103_36 {L : pj_Loc} {st : List Value} {M : pj_Mem}  : pj_step 103 (36, L, st, M) = some (4, L, st, M) := st_goto q103_36
theorem x103_36 {L : pj_Loc} {st : List Value} {M : pj_Mem}  {o9 : Option Value × pj_Mem} : pj_Ends 103 (36, L, st, M) o9 = pj_Ends 103 (4, L, st, M) o9 := pj_xs (s103_36)
theorem q103_39 : pj_row 103 39 = some (.iload_n 1, 1, 0, 0, 0) := by decide +kernel
theorem s103_39 {st : List Value} {M : pj_Mem} {l : pj_Loc} {a0 : Option Value} {x : Int32} : pj_step 103 (39, a0 :: some (.int x) :: l, st, M) = some (40, a0 :: some (.int x) :: l, .int x :: st, M) := st_iload_n q103_39 rfl
theorem x103_39 {st : List Value} {M : pj_Mem} {l : pj_Loc} {a0 : Option Value} {x : Int32} {o9 : Option Value × pj_Mem} : pj_Ends 103 (39, a0 :: some (.int x) :: l, st, M) o9 = pj_Ends 103 (40, a0 :: some (.int x) :: l, .int x :: st, M) o9 := pj_xs (s103_39)
theorem q103_40 : pj_row 103 40 = some (.ireturn, 1, 0, 0, 0) := by decide +kernel
theorem t103_40 {L : pj_Loc} {M : pj_Mem} {v : Int32} : pj_Ends 103 (40, L, [.int v], M) (some (.int v), M) := pj_Ends.ret q103_40 (pj_rtn_i rt103)
theorem rt104 : pj_rt 104 = some .int := rfl
theorem q104_0 : pj_row 104 0 = some (.aload_n 0, 1, 0, 0, 0) := by decide +kernel
theorem s104_0 {st : List Value} {M : pj_Mem} {l : pj_Loc} {x : Nat} : pj_step 104 (0, some (.ref x) :: l, st, M) = some (1, some (.ref x) :: l, .ref x :: st, M) := st_aload_n q104_0 rfl
theorem x104_0 {st : List Value} {M : pj_Mem} {l : pj_Loc} {x : Nat} {o9 : Option Value × pj_Mem} : pj_Ends 104 (0, some (.ref x) :: l, st, M) o9 = pj_Ends 104 (1, some (.ref x) :: l, .ref x :: st, M) o9 := pj_xs (s104_0)
theorem q104_1 : pj_row 104 1 = some (.invokevirtual 121, 3, 78, 1, 0) := by decide +kernel
theorem e104_1 {L : pj_Loc} {st : List Value} {N S : Nat} {H : pj_Heap} {o : Option Value × pj_Mem} {M' : pj_Mem} {x0 : Nat} (h4 : pj_le4 st = true) (hu : pj_isU 6 (H x0) = true) (h1 : pj_Ends 78 (0, [some (.ref x0), none], [], (N, S, H)) (none, M')) (h2 : pj_Ends 104 (4, L, st, M') o) : pj_Ends 104 (1, L, .ref x0 :: st, (N, S, H)) o := ec_v1 q104_1 (Or.inl rfl) h4 hu rfl h1 h2
theorem q104_4 : pj_row 104 4 = some (.aload_n 0, 1, 0, 0, 0) := by decide +kernel
theorem s104_4 {st : List Value} {M : pj_Mem} {l : pj_Loc} {x : Nat} : pj_step 104 (4, some (.ref x) :: l, st, M) = some (5, some (.ref x) :: l, .ref x :: st, M) := st_aload_n q104_4 rfl
theorem x104_4 {st : List Value} {M : pj_Mem} {l : pj_Loc} {x : Nat} {o9 : Option Value × pj_Mem} : pj_Ends 104 (4, some (.ref x) :: l, st, M) o9 = pj_Ends 104 (5, some (.ref x) :: l, .ref x :: st, M) o9 := pj_xs (s104_4)
theorem q104_5 : pj_row 104 5 = some (.invokevirtual 143, 3, 103, 1, 0) := by decide +kernel
theorem e104_5 {L : pj_Loc} {st : List Value} {N S : Nat} {H : pj_Heap} {o : Option Value × pj_Mem} {M' : pj_Mem} {x0 : Nat} {r : Int32} (h4 : pj_le4 st = true) (hu : pj_isU 6 (H x0) = true) (h1 : pj_Ends 103 (0, [some (.ref x0), none, none], [], (N, S, H)) (some (.int r), M')) (h2 : pj_Ends 104 (8, L, .int r :: st, M') o) : pj_Ends 104 (5, L, .ref x0 :: st, (N, S, H)) o := ec_v1 q104_5 (Or.inl rfl) h4 hu rfl h1 h2
theorem q104_8 : pj_row 104 8 = some (.invokestatic 52, 3, 87, 1, 0) := by decide +kernel
theorem e104_8 {L : pj_Loc} {st : List Value} {N S : Nat} {H : pj_Heap} {o : Option Value × pj_Mem} {M' : pj_Mem} {x0 : Int32} {r : Int32} (h4 : pj_le4 st = true) (h1 : pj_Ends 87 (0, [some (.int x0)], [], (N, S, H)) (some (.int r), M')) (h2 : pj_Ends 104 (11, L, .int r :: st, M') o) : pj_Ends 104 (8, L, .int x0 :: st, (N, S, H)) o := ec_s1 q104_8 (Or.inl rfl) h4 rfl h1 h2
theorem q104_11 : pj_row 104 11 = some (.istore_n 1, 1, 0, 0, 0) := by decide +kernel
theorem s104_11 {st : List Value} {M : pj_Mem} {l : pj_Loc} {a0 a1 : Option Value} {x : Int32} (h : pj_long a0 = false) : pj_step 104 (11, a0 :: a1 :: l, .int x :: st, M) = some (12, a0 :: some (.int x) :: l, st, M) := st_istore_n q104_11 (pj_st_1 h)
theorem x104_11 {st : List Value} {M : pj_Mem} {l : pj_Loc} {a0 a1 : Option Value} {x : Int32} (h : pj_long a0 = false) {o9 : Option Value × pj_Mem} : pj_Ends 104 (11, a0 :: a1 :: l, .int x :: st, M) o9 = pj_Ends 104 (12, a0 :: some (.int x) :: l, st, M) o9 := pj_xs (s104_11 h)
theorem q104_12 : pj_row 104 12 = some (.iconst 0, 1, 0, 0, 0) := by decide +kernel
theorem s104_12 {L : pj_Loc} {st : List Value} {M : pj_Mem}  : pj_step 104 (12, L, st, M) = some (13, L, .int 0 :: st, M) := st_iconst q104_12 (by decide +kernel)
theorem x104_12 {L : pj_Loc} {st : List Value} {M : pj_Mem}  {o9 : Option Value × pj_Mem} : pj_Ends 104 (12, L, st, M) o9 = pj_Ends 104 (13, L, .int 0 :: st, M) o9 := pj_xs (s104_12)
theorem q104_13 : pj_row 104 13 = some (.istore_n 2, 1, 0, 0, 0) := by decide +kernel
theorem s104_13 {st : List Value} {M : pj_Mem} {l : pj_Loc} {a0 a1 a2 : Option Value} {x : Int32} (h : pj_long a1 = false) : pj_step 104 (13, a0 :: a1 :: a2 :: l, .int x :: st, M) = some (14, a0 :: a1 :: some (.int x) :: l, st, M) := st_istore_n q104_13 (pj_st_2 h)
theorem x104_13 {st : List Value} {M : pj_Mem} {l : pj_Loc} {a0 a1 a2 : Option Value} {x : Int32} (h : pj_long a1 = false) {o9 : Option Value × pj_Mem} : pj_Ends 104 (13, a0 :: a1 :: a2 :: l, .int x :: st, M) o9 = pj_Ends 104 (14, a0 :: a1 :: some (.int x) :: l, st, M) o9 := pj_xs (s104_13 h)
theorem q104_14 : pj_row 104 14 = some (.iload_n 2, 1, 0, 0, 0) := by decide +kernel
theorem s104_14 {st : List Value} {M : pj_Mem} {l : pj_Loc} {a0 a1 : Option Value} {x : Int32} : pj_step 104 (14, a0 :: a1 :: some (.int x) :: l, st, M) = some (15, a0 :: a1 :: some (.int x) :: l, .int x :: st, M) := st_iload_n q104_14 rfl
theorem x104_14 {st : List Value} {M : pj_Mem} {l : pj_Loc} {a0 a1 : Option Value} {x : Int32} {o9 : Option Value × pj_Mem} : pj_Ends 104 (14, a0 :: a1 :: some (.int x) :: l, st, M) o9 = pj_Ends 104 (15, a0 :: a1 :: some (.int x) :: l, .int x :: st, M) o9 := pj_xs (s104_14)
theorem q104_15 : pj_row 104 15 = some (.iconst 3, 1, 0, 0, 0) := by decide +kernel
theorem s104_15 {L : pj_Loc} {st : List Value} {M : pj_Mem}  : pj_step 104 (15, L, st, M) = some (16, L, .int 3 :: st, M) := st_iconst q104_15 (by decide +kernel)
theorem x104_15 {L : pj_Loc} {st : List Value} {M : pj_Mem}  {o9 : Option Value × pj_Mem} : pj_Ends 104 (15, L, st, M) o9 = pj_Ends 104 (16, L, .int 3 :: st, M) o9 := pj_xs (s104_15)
theorem q104_16 : pj_row 104 16 = some (.if_icmp .ge 30, 3, 46, 0, 0) := by decide +kernel
theorem s104_16 {L : pj_Loc} {st : List Value} {M : pj_Mem} {x y : Int32} : pj_step 104 (16, L, .int y :: .int x :: st, M) = some (if y ≤ x then 46 else 19, L, st, M) := st_icmp_ge q104_16
theorem x104_16 {L : pj_Loc} {st : List Value} {M : pj_Mem} {x y : Int32} {o9 : Option Value × pj_Mem} : pj_Ends 104 (16, L, .int y :: .int x :: st, M) o9 = pj_Ends 104 (if y ≤ x then 46 else 19, L, st, M) o9 := pj_xs (s104_16)
theorem q104_19 : pj_row 104 19 = some (.aload_n 0, 1, 0, 0, 0) := by decide +kernel
theorem s104_19 {st : List Value} {M : pj_Mem} {l : pj_Loc} {x : Nat} : pj_step 104 (19, some (.ref x) :: l, st, M) = some (20, some (.ref x) :: l, .ref x :: st, M) := st_aload_n q104_19 rfl
theorem x104_19 {st : List Value} {M : pj_Mem} {l : pj_Loc} {x : Nat} {o9 : Option Value × pj_Mem} : pj_Ends 104 (19, some (.ref x) :: l, st, M) o9 = pj_Ends 104 (20, some (.ref x) :: l, .ref x :: st, M) o9 := pj_xs (s104_19)
theorem q104_20 : pj_row 104 20 = some (.getfield 7, 3, 6, 0, 0) := by decide +kernel
theorem s104_20 {L : pj_Loc} {st : List Value} {N S : Nat} {H : pj_Heap} {o : Nat} : pj_step 104 (20, L, .ref o :: st, (N, S, H)) = pj_pv 23 L st (N, S, H) (pj_fld (H o) 6 0) := st_getfield q104_20
theorem x104_20 {L : pj_Loc} {st : List Value} {N S : Nat} {H : pj_Heap} {o : Nat} {o9 : Option Value × pj_Mem} : pj_Ends 104 (20, L, .ref o :: st, (N, S, H)) o9 = pj_then 104 o9 (pj_pv 23 L st (N, S, H) (pj_fld (H o) 6 0)) := pj_xt q104_20 rfl (pj_cl_nc rfl) (s104_20)
theorem q104_23 : pj_row 104 23 = some (.bipush 23, 2, 0, 0, 0) := by decide +kernel
theorem s104_23 {L : pj_Loc} {st : List Value} {M : pj_Mem}  : pj_step 104 (23, L, st, M) = some (25, L, .int 23 :: st, M) := st_bipush q104_23 (by decide +kernel)
theorem x104_23 {L : pj_Loc} {st : List Value} {M : pj_Mem}  {o9 : Option Value × pj_Mem} : pj_Ends 104 (23, L, st, M) o9 = pj_Ends 104 (25, L, .int 23 :: st, M) o9 := pj_xs (s104_23)
theorem q104_25 : pj_row 104 25 = some (.iload_n 2, 1, 0, 0, 0) := by decide +kernel
theorem s104_25 {st : List Value} {M : pj_Mem} {l : pj_Loc} {a0 a1 : Option Value} {x : Int32} : pj_step 104 (25, a0 :: a1 :: some (.int x) :: l, st, M) = some (26, a0 :: a1 :: some (.int x) :: l, .int x :: st, M) := st_iload_n q104_25 rfl
theorem x104_25 {st : List Value} {M : pj_Mem} {l : pj_Loc} {a0 a1 : Option Value} {x : Int32} {o9 : Option Value × pj_Mem} : pj_Ends 104 (25, a0 :: a1 :: some (.int x) :: l, st, M) o9 = pj_Ends 104 (26, a0 :: a1 :: some (.int x) :: l, .int x :: st, M) o9 := pj_xs (s104_25)
theorem q104_26 : pj_row 104 26 = some (.iadd, 1, 0, 0, 0) := by decide +kernel
theorem s104_26 {L : pj_Loc} {st : List Value} {M : pj_Mem} {x y : Int32} : pj_step 104 (26, L, .int y :: .int x :: st, M) = some (27, L, .int (x + y) :: st, M) := st_iadd q104_26
theorem x104_26 {L : pj_Loc} {st : List Value} {M : pj_Mem} {x y : Int32} {o9 : Option Value × pj_Mem} : pj_Ends 104 (26, L, .int y :: .int x :: st, M) o9 = pj_Ends 104 (27, L, .int (x + y) :: st, M) o9 := pj_xs (s104_26)
theorem q104_27 : pj_row 104 27 = some (.bipush (-6), 2, 0, 0, 0) := by decide +kernel
theorem s104_27 {L : pj_Loc} {st : List Value} {M : pj_Mem}  : pj_step 104 (27, L, st, M) = some (29, L, .int (-6) :: st, M) := st_bipush q104_27 (by decide +kernel)
theorem x104_27 {L : pj_Loc} {st : List Value} {M : pj_Mem}  {o9 : Option Value × pj_Mem} : pj_Ends 104 (27, L, st, M) o9 = pj_Ends 104 (29, L, .int (-6) :: st, M) o9 := pj_xs (s104_27)
theorem q104_29 : pj_row 104 29 = some (.iastore, 1, 0, 0, 0) := by decide +kernel
theorem s104_29 {L : pj_Loc} {st : List Value} {N S : Nat} {H : pj_Heap} {o : Nat} {i x : Int32} : pj_step 104 (29, L, .int x :: .int i :: .ref o :: st, (N, S, H)) = pj_set 30 L st (N, S, H) o (pj_ars (H o) 0 i x) := st_iastore q104_29
theorem x104_29 {L : pj_Loc} {st : List Value} {N S : Nat} {H : pj_Heap} {o : Nat} {i x : Int32} {o9 : Option Value × pj_Mem} : pj_Ends 104 (29, L, .int x :: .int i :: .ref o :: st, (N, S, H)) o9 = pj_then 104 o9 (pj_set 30 L st (N, S, H) o (pj_ars (H o) 0 i x)) := pj_xt q104_29 rfl (pj_cl_nc rfl) (s104_29)
theorem q104_30 : pj_row 104 30 = some (.aload_n 0, 1, 0, 0, 0) := by decide +kernel
theorem s104_30 {st : List Value} {M : pj_Mem} {l : pj_Loc} {x : Nat} : pj_step 104 (30, some (.ref x) :: l, st, M) = some (31, some (.ref x) :: l, .ref x :: st, M) := st_aload_n q104_30 rfl
theorem x104_30 {st : List Value} {M : pj_Mem} {l : pj_Loc} {x : Nat} {o9 : Option Value × pj_Mem} : pj_Ends 104 (30, some (.ref x) :: l, st, M) o9 = pj_Ends 104 (31, some (.ref x) :: l, .ref x :: st, M) o9 := pj_xs (s104_30)
theorem q104_31 : pj_row 104 31 = some (.getfield 7, 3, 6, 0, 0) := by decide +kernel
theorem s104_31 {L : pj_Loc} {st : List Value} {N S : Nat} {H : pj_Heap} {o : Nat} : pj_step 104 (31, L, .ref o :: st, (N, S, H)) = pj_pv 34 L st (N, S, H) (pj_fld (H o) 6 0) := st_getfield q104_31
theorem x104_31 {L : pj_Loc} {st : List Value} {N S : Nat} {H : pj_Heap} {o : Nat} {o9 : Option Value × pj_Mem} : pj_Ends 104 (31, L, .ref o :: st, (N, S, H)) o9 = pj_then 104 o9 (pj_pv 34 L st (N, S, H) (pj_fld (H o) 6 0)) := pj_xt q104_31 rfl (pj_cl_nc rfl) (s104_31)
theorem q104_34 : pj_row 104 34 = some (.bipush 11, 2, 0, 0, 0) := by decide +kernel
theorem s104_34 {L : pj_Loc} {st : List Value} {M : pj_Mem}  : pj_step 104 (34, L, st, M) = some (36, L, .int 11 :: st, M) := st_bipush q104_34 (by decide +kernel)
theorem x104_34 {L : pj_Loc} {st : List Value} {M : pj_Mem}  {o9 : Option Value × pj_Mem} : pj_Ends 104 (34, L, st, M) o9 = pj_Ends 104 (36, L, .int 11 :: st, M) o9 := pj_xs (s104_34)
theorem q104_36 : pj_row 104 36 = some (.iload_n 2, 1, 0, 0, 0) := by decide +kernel
theorem s104_36 {st : List Value} {M : pj_Mem} {l : pj_Loc} {a0 a1 : Option Value} {x : Int32} : pj_step 104 (36, a0 :: a1 :: some (.int x) :: l, st, M) = some (37, a0 :: a1 :: some (.int x) :: l, .int x :: st, M) := st_iload_n q104_36 rfl
theorem x104_36 {st : List Value} {M : pj_Mem} {l : pj_Loc} {a0 a1 : Option Value} {x : Int32} {o9 : Option Value × pj_Mem} : pj_Ends 104 (36, a0 :: a1 :: some (.int x) :: l, st, M) o9 = pj_Ends 104 (37, a0 :: a1 :: some (.int x) :: l, .int x :: st, M) o9 := pj_xs (s104_36)
theorem q104_37 : pj_row 104 37 = some (.iadd, 1, 0, 0, 0) := by decide +kernel
theorem s104_37 {L : pj_Loc} {st : List Value} {M : pj_Mem} {x y : Int32} : pj_step 104 (37, L, .int y :: .int x :: st, M) = some (38, L, .int (x + y) :: st, M) := st_iadd q104_37
theorem x104_37 {L : pj_Loc} {st : List Value} {M : pj_Mem} {x y : Int32} {o9 : Option Value × pj_Mem} : pj_Ends 104 (37, L, .int y :: .int x :: st, M) o9 = pj_Ends 104 (38, L, .int (x + y) :: st, M) o9 := pj_xs (s104_37)
theorem q104_38 : pj_row 104 38 = some (.iconst 0, 1, 0, 0, 0) := by decide +kernel
theorem s104_38 {L : pj_Loc} {st : List Value} {M : pj_Mem}  : pj_step 104 (38, L, st, M) = some (39, L, .int 0 :: st, M) := st_iconst q104_38 (by decide +kernel)
theorem x104_38 {L : pj_Loc} {st : List Value} {M : pj_Mem}  {o9 : Option Value × pj_Mem} : pj_Ends 104 (38, L, st, M) o9 = pj_Ends 104 (39, L, .int 0 :: st, M) o9 := pj_xs (s104_38)
theorem q104_39 : pj_row 104 39 = some (.iastore, 1, 0, 0, 0) := by decide +kernel
theorem s104_39 {L : pj_Loc} {st : List Value} {N S : Nat} {H : pj_Heap} {o : Nat} {i x : Int32} : pj_step 104 (39, L, .int x :: .int i :: .ref o :: st, (N, S, H)) = pj_set 40 L st (N, S, H) o (pj_ars (H o) 0 i x) := st_iastore q104_39
theorem x104_39 {L : pj_Loc} {st : List Value} {N S : Nat} {H : pj_Heap} {o : Nat} {i x : Int32} {o9 : Option Value × pj_Mem} : pj_Ends 104 (39, L, .int x :: .int i :: .ref o :: st, (N, S, H)) o9 = pj_then 104 o9 (pj_set 40 L st (N, S, H) o (pj_ars (H o) 0 i x)) := pj_xt q104_39 rfl (pj_cl_nc rfl) (s104_39)
theorem q104_40 : pj_row 104 40 = some (.iinc 2 1, 3, 0, 0, 0) := by decide +kernel
theorem s104_40 {st : List Value} {M : pj_Mem} {l : pj_Loc} {a0 a1 : Option Value} {x : Int32} (h : pj_long a1 = false) : pj_step 104 (40, a0 :: a1 :: some (.int x) :: l, st, M) = some (43, a0 :: a1 :: some (.int (x + 1)) :: l, st, M) := st_iinc q104_40 rfl (congrArg (fun y => x + y) (show Int32.ofInt 1 = 1 by decide +kernel)) (pj_st_2 h)
theorem x104_40 {st : List Value} {M : pj_Mem} {l : pj_Loc} {a0 a1 : Option Value} {x : Int32} (h : pj_long a1 = false) {o9 : Option Value × pj_Mem} : pj_Ends 104 (40, a0 :: a1 :: some (.int x) :: l, st, M) o9 = pj_Ends 104 (43, a0 :: a1 :: some (.int (x + 1)) :: l, st, M) o9 := pj_xs (s104_40 h)
theorem q104_43 : pj_row 104 43 = some (.goto (-29), 3, 14, 0, 0) := by decide +kernel
theorem s104_43 {L : pj_Loc} {st : List Value} {M : pj_Mem}  : pj_step 104 (43, L, st, M) = some (14, L, st, M) := st_goto q104_43
theorem x104_43 {L : pj_Loc} {st : List Value} {M : pj_Mem}  {o9 : Option Value × pj_Mem} : pj_Ends 104 (43, L, st, M) o9 = pj_Ends 104 (14, L, st, M) o9 := pj_xs (s104_43)
theorem q104_46 : pj_row 104 46 = some (.aload_n 0, 1, 0, 0, 0) := by decide +kernel
theorem s104_46 {st : List Value} {M : pj_Mem} {l : pj_Loc} {x : Nat} : pj_step 104 (46, some (.ref x) :: l, st, M) = some (47, some (.ref x) :: l, .ref x :: st, M) := st_aload_n q104_46 rfl
theorem x104_46 {st : List Value} {M : pj_Mem} {l : pj_Loc} {x : Nat} {o9 : Option Value × pj_Mem} : pj_Ends 104 (46, some (.ref x) :: l, st, M) o9 = pj_Ends 104 (47, some (.ref x) :: l, .ref x :: st, M) o9 := pj_xs (s104_46)
theorem q104_47 : pj_row 104 47 = some (.getfield 7, 3, 6, 0, 0) := by decide +kernel
theorem s104_47 {L : pj_Loc} {st : List Value} {N S : Nat} {H : pj_Heap} {o : Nat} : pj_step 104 (47, L, .ref o :: st, (N, S, H)) = pj_pv 50 L st (N, S, H) (pj_fld (H o) 6 0) := st_getfield q104_47
theorem x104_47 {L : pj_Loc} {st : List Value} {N S : Nat} {H : pj_Heap} {o : Nat} {o9 : Option Value × pj_Mem} : pj_Ends 104 (47, L, .ref o :: st, (N, S, H)) o9 = pj_then 104 o9 (pj_pv 50 L st (N, S, H) (pj_fld (H o) 6 0)) := pj_xt q104_47 rfl (pj_cl_nc rfl) (s104_47)
theorem q104_50 : pj_row 104 50 = some (.bipush 7, 2, 0, 0, 0) := by decide +kernel
theorem s104_50 {L : pj_Loc} {st : List Value} {M : pj_Mem}  : pj_step 104 (50, L, st, M) = some (52, L, .int 7 :: st, M) := st_bipush q104_50 (by decide +kernel)
theorem x104_50 {L : pj_Loc} {st : List Value} {M : pj_Mem}  {o9 : Option Value × pj_Mem} : pj_Ends 104 (50, L, st, M) o9 = pj_Ends 104 (52, L, .int 7 :: st, M) o9 := pj_xs (s104_50)
theorem q104_52 : pj_row 104 52 = some (.iconst 0, 1, 0, 0, 0) := by decide +kernel
theorem s104_52 {L : pj_Loc} {st : List Value} {M : pj_Mem}  : pj_step 104 (52, L, st, M) = some (53, L, .int 0 :: st, M) := st_iconst q104_52 (by decide +kernel)
theorem x104_52 {L : pj_Loc} {st : List Value} {M : pj_Mem}  {o9 : Option Value × pj_Mem} : pj_Ends 104 (52, L, st, M) o9 = pj_Ends 104 (53, L, .int 0 :: st, M) o9 := pj_xs (s104_52)
theorem q104_53 : pj_row 104 53 = some (.iastore, 1, 0, 0, 0) := by decide +kernel
theorem s104_53 {L : pj_Loc} {st : List Value} {N S : Nat} {H : pj_Heap} {o : Nat} {i x : Int32} : pj_step 104 (53, L, .int x :: .int i :: .ref o :: st, (N, S, H)) = pj_set 54 L st (N, S, H) o (pj_ars (H o) 0 i x) := st_iastore q104_53
theorem x104_53 {L : pj_Loc} {st : List Value} {N S : Nat} {H : pj_Heap} {o : Nat} {i x : Int32} {o9 : Option Value × pj_Mem} : pj_Ends 104 (53, L, .int x :: .int i :: .ref o :: st, (N, S, H)) o9 = pj_then 104 o9 (pj_set 54 L st (N, S, H) o (pj_ars (H o) 0 i x)) := pj_xt q104_53 rfl (pj_cl_nc rfl) (s104_53)
theorem q104_54 : pj_row 104 54 = some (.aload_n 0, 1, 0, 0, 0) := by decide +kernel
theorem s104_54 {st : List Value} {M : pj_Mem} {l : pj_Loc} {x : Nat} : pj_step 104 (54, some (.ref x) :: l, st, M) = some (55, some (.ref x) :: l, .ref x :: st, M) := st_aload_n q104_54 rfl
theorem x104_54 {st : List Value} {M : pj_Mem} {l : pj_Loc} {x : Nat} {o9 : Option Value × pj_Mem} : pj_Ends 104 (54, some (.ref x) :: l, st, M) o9 = pj_Ends 104 (55, some (.ref x) :: l, .ref x :: st, M) o9 := pj_xs (s104_54)
theorem q104_55 : pj_row 104 55 = some (.getfield 7, 3, 6, 0, 0) := by decide +kernel
theorem s104_55 {L : pj_Loc} {st : List Value} {N S : Nat} {H : pj_Heap} {o : Nat} : pj_step 104 (55, L, .ref o :: st, (N, S, H)) = pj_pv 58 L st (N, S, H) (pj_fld (H o) 6 0) := st_getfield q104_55
theorem x104_55 {L : pj_Loc} {st : List Value} {N S : Nat} {H : pj_Heap} {o : Nat} {o9 : Option Value × pj_Mem} : pj_Ends 104 (55, L, .ref o :: st, (N, S, H)) o9 = pj_then 104 o9 (pj_pv 58 L st (N, S, H) (pj_fld (H o) 6 0)) := pj_xt q104_55 rfl (pj_cl_nc rfl) (s104_55)
theorem q104_58 : pj_row 104 58 = some (.bipush 29, 2, 0, 0, 0) := by decide +kernel
theorem s104_58 {L : pj_Loc} {st : List Value} {M : pj_Mem}  : pj_step 104 (58, L, st, M) = some (60, L, .int 29 :: st, M) := st_bipush q104_58 (by decide +kernel)
theorem x104_58 {L : pj_Loc} {st : List Value} {M : pj_Mem}  {o9 : Option Value × pj_Mem} : pj_Ends 104 (58, L, st, M) o9 = pj_Ends 104 (60, L, .int 29 :: st, M) o9 := pj_xs (s104_58)
theorem q104_60 : pj_row 104 60 = some (.bipush (-6), 2, 0, 0, 0) := by decide +kernel
theorem s104_60 {L : pj_Loc} {st : List Value} {M : pj_Mem}  : pj_step 104 (60, L, st, M) = some (62, L, .int (-6) :: st, M) := st_bipush q104_60 (by decide +kernel)
theorem x104_60 {L : pj_Loc} {st : List Value} {M : pj_Mem}  {o9 : Option Value × pj_Mem} : pj_Ends 104 (60, L, st, M) o9 = pj_Ends 104 (62, L, .int (-6) :: st, M) o9 := pj_xs (s104_60)
theorem q104_62 : pj_row 104 62 = some (.iastore, 1, 0, 0, 0) := by decide +kernel
theorem s104_62 {L : pj_Loc} {st : List Value} {N S : Nat} {H : pj_Heap} {o : Nat} {i x : Int32} : pj_step 104 (62, L, .int x :: .int i :: .ref o :: st, (N, S, H)) = pj_set 63 L st (N, S, H) o (pj_ars (H o) 0 i x) := st_iastore q104_62
theorem x104_62 {L : pj_Loc} {st : List Value} {N S : Nat} {H : pj_Heap} {o : Nat} {i x : Int32} {o9 : Option Value × pj_Mem} : pj_Ends 104 (62, L, .int x :: .int i :: .ref o :: st, (N, S, H)) o9 = pj_then 104 o9 (pj_set 63 L st (N, S, H) o (pj_ars (H o) 0 i x)) := pj_xt q104_62 rfl (pj_cl_nc rfl) (s104_62)
theorem q104_63 : pj_row 104 63 = some (.aload_n 0, 1, 0, 0, 0) := by decide +kernel
theorem s104_63 {st : List Value} {M : pj_Mem} {l : pj_Loc} {x : Nat} : pj_step 104 (63, some (.ref x) :: l, st, M) = some (64, some (.ref x) :: l, .ref x :: st, M) := st_aload_n q104_63 rfl
theorem x104_63 {st : List Value} {M : pj_Mem} {l : pj_Loc} {x : Nat} {o9 : Option Value × pj_Mem} : pj_Ends 104 (63, some (.ref x) :: l, st, M) o9 = pj_Ends 104 (64, some (.ref x) :: l, .ref x :: st, M) o9 := pj_xs (s104_63)
theorem q104_64 : pj_row 104 64 = some (.getfield 7, 3, 6, 0, 0) := by decide +kernel
theorem s104_64 {L : pj_Loc} {st : List Value} {N S : Nat} {H : pj_Heap} {o : Nat} : pj_step 104 (64, L, .ref o :: st, (N, S, H)) = pj_pv 67 L st (N, S, H) (pj_fld (H o) 6 0) := st_getfield q104_64
theorem x104_64 {L : pj_Loc} {st : List Value} {N S : Nat} {H : pj_Heap} {o : Nat} {o9 : Option Value × pj_Mem} : pj_Ends 104 (64, L, .ref o :: st, (N, S, H)) o9 = pj_then 104 o9 (pj_pv 67 L st (N, S, H) (pj_fld (H o) 6 0)) := pj_xt q104_64 rfl (pj_cl_nc rfl) (s104_64)
theorem q104_67 : pj_row 104 67 = some (.bipush 30, 2, 0, 0, 0) := by decide +kernel
theorem s104_67 {L : pj_Loc} {st : List Value} {M : pj_Mem}  : pj_step 104 (67, L, st, M) = some (69, L, .int 30 :: st, M) := st_bipush q104_67 (by decide +kernel)
theorem x104_67 {L : pj_Loc} {st : List Value} {M : pj_Mem}  {o9 : Option Value × pj_Mem} : pj_Ends 104 (67, L, st, M) o9 = pj_Ends 104 (69, L, .int 30 :: st, M) o9 := pj_xs (s104_67)
theorem q104_69 : pj_row 104 69 = some (.iconst 0, 1, 0, 0, 0) := by decide +kernel
theorem s104_69 {L : pj_Loc} {st : List Value} {M : pj_Mem}  : pj_step 104 (69, L, st, M) = some (70, L, .int 0 :: st, M) := st_iconst q104_69 (by decide +kernel)
theorem x104_69 {L : pj_Loc} {st : List Value} {M : pj_Mem}  {o9 : Option Value × pj_Mem} : pj_Ends 104 (69, L, st, M) o9 = pj_Ends 104 (70, L, .int 0 :: st, M) o9 := pj_xs (s104_69)
theorem q104_70 : pj_row 104 70 = some (.iastore, 1, 0, 0, 0) := by decide +kernel
theorem s104_70 {L : pj_Loc} {st : List Value} {N S : Nat} {H : pj_Heap} {o : Nat} {i x : Int32} : pj_step 104 (70, L, .int x :: .int i :: .ref o :: st, (N, S, H)) = pj_set 71 L st (N, S, H) o (pj_ars (H o) 0 i x) := st_iastore q104_70
theorem x104_70 {L : pj_Loc} {st : List Value} {N S : Nat} {H : pj_Heap} {o : Nat} {i x : Int32} {o9 : Option Value × pj_Mem} : pj_Ends 104 (70, L, .int x :: .int i :: .ref o :: st, (N, S, H)) o9 = pj_then 104 o9 (pj_set 71 L st (N, S, H) o (pj_ars (H o) 0 i x)) := pj_xt q104_70 rfl (pj_cl_nc rfl) (s104_70)
theorem q104_71 : pj_row 104 71 = some (.aload_n 0, 1, 0, 0, 0) := by decide +kernel
theorem s104_71 {st : List Value} {M : pj_Mem} {l : pj_Loc} {x : Nat} : pj_step 104 (71, some (.ref x) :: l, st, M) = some (72, some (.ref x) :: l, .ref x :: st, M) := st_aload_n q104_71 rfl
theorem x104_71 {st : List Value} {M : pj_Mem} {l : pj_Loc} {x : Nat} {o9 : Option Value × pj_Mem} : pj_Ends 104 (71, some (.ref x) :: l, st, M) o9 = pj_Ends 104 (72, some (.ref x) :: l, .ref x :: st, M) o9 := pj_xs (s104_71)
theorem q104_72 : pj_row 104 72 = some (.iload_n 1, 1, 0, 0, 0) := by decide +kernel
theorem s104_72 {st : List Value} {M : pj_Mem} {l : pj_Loc} {a0 : Option Value} {x : Int32} : pj_step 104 (72, a0 :: some (.int x) :: l, st, M) = some (73, a0 :: some (.int x) :: l, .int x :: st, M) := st_iload_n q104_72 rfl
theorem x104_72 {st : List Value} {M : pj_Mem} {l : pj_Loc} {a0 : Option Value} {x : Int32} {o9 : Option Value × pj_Mem} : pj_Ends 104 (72, a0 :: some (.int x) :: l, st, M) o9 = pj_Ends 104 (73, a0 :: some (.int x) :: l, .int x :: st, M) o9 := pj_xs (s104_72)
theorem q104_73 : pj_row 104 73 = some (.invokevirtual 124, 3, 79, 2, 0) := by decide +kernel
theorem e104_73 {L : pj_Loc} {st : List Value} {N S : Nat} {H : pj_Heap} {o : Option Value × pj_Mem} {M' : pj_Mem} {x0 : Nat} {x1 : Int32} {r : Int32} (h4 : pj_le4 st = true) (hu : pj_isU 6 (H x0) = true) (h1 : pj_Ends 79 (0, [some (.ref x0), some (.int x1), none], [], (N, S, H)) (some (.int r), M')) (h2 : pj_Ends 104 (76, L, .int r :: st, M') o) : pj_Ends 104 (73, L, .int x1 :: .ref x0 :: st, (N, S, H)) o := ec_v2 q104_73 (Or.inl rfl) h4 hu rfl h1 h2
theorem q104_76 : pj_row 104 76 = some (.ireturn, 1, 0, 0, 0) := by decide +kernel
theorem t104_76 {L : pj_Loc} {M : pj_Mem} {v : Int32} : pj_Ends 104 (76, L, [.int v], M) (some (.int v), M) := pj_Ends.ret q104_76 (pj_rtn_i rt104)
theorem rt105 : pj_rt 105 = some .int := rfl
theorem q105_0 : pj_row 105 0 = some (.iload_n 1, 1, 0, 0, 0) := by decide +kernel
theorem s105_0 {st : List Value} {M : pj_Mem} {l : pj_Loc} {a0 : Option Value} {x : Int32} : pj_step 105 (0, a0 :: some (.int x) :: l, st, M) = some (1, a0 :: some (.int x) :: l, .int x :: st, M) := st_iload_n q105_0 rfl
theorem x105_0 {st : List Value} {M : pj_Mem} {l : pj_Loc} {a0 : Option Value} {x : Int32} {o9 : Option Value × pj_Mem} : pj_Ends 105 (0, a0 :: some (.int x) :: l, st, M) o9 = pj_Ends 105 (1, a0 :: some (.int x) :: l, .int x :: st, M) o9 := pj_xs (s105_0)
theorem q105_1 : pj_row 105 1 = some (.invokestatic 137, 3, 100, 1, 0) := by decide +kernel
theorem e105_1 {L : pj_Loc} {st : List Value} {N S : Nat} {H : pj_Heap} {o : Option Value × pj_Mem} {M' : pj_Mem} {x0 : Int32} {r : Int32} (h4 : pj_le4 st = true) (h1 : pj_Ends 100 (0, [some (.int x0)], [], (N, S, H)) (some (.int r), M')) (h2 : pj_Ends 105 (4, L, .int r :: st, M') o) : pj_Ends 105 (1, L, .int x0 :: st, (N, S, H)) o := ec_s1 q105_1 (Or.inl rfl) h4 rfl h1 h2
theorem q105_4 : pj_row 105 4 = some (.ifCond .ne 5, 3, 9, 0, 0) := by decide +kernel
theorem s105_4 {L : pj_Loc} {st : List Value} {M : pj_Mem} {x : Int32} : pj_step 105 (4, L, .int x :: st, M) = some (if ¬ x = 0 then 9 else 7, L, st, M) := st_if_ne q105_4
theorem x105_4 {L : pj_Loc} {st : List Value} {M : pj_Mem} {x : Int32} {o9 : Option Value × pj_Mem} : pj_Ends 105 (4, L, .int x :: st, M) o9 = pj_Ends 105 (if ¬ x = 0 then 9 else 7, L, st, M) o9 := pj_xs (s105_4)
theorem q105_7 : pj_row 105 7 = some (.iconst (-1), 1, 0, 0, 0) := by decide +kernel
theorem s105_7 {L : pj_Loc} {st : List Value} {M : pj_Mem}  : pj_step 105 (7, L, st, M) = some (8, L, .int (-1) :: st, M) := st_iconst q105_7 (by decide +kernel)
theorem x105_7 {L : pj_Loc} {st : List Value} {M : pj_Mem}  {o9 : Option Value × pj_Mem} : pj_Ends 105 (7, L, st, M) o9 = pj_Ends 105 (8, L, .int (-1) :: st, M) o9 := pj_xs (s105_7)
theorem q105_8 : pj_row 105 8 = some (.ireturn, 1, 0, 0, 0) := by decide +kernel
theorem t105_8 {L : pj_Loc} {M : pj_Mem} {v : Int32} : pj_Ends 105 (8, L, [.int v], M) (some (.int v), M) := pj_Ends.ret q105_8 (pj_rtn_i rt105)
theorem q105_9 : pj_row 105 9 = some (.iload_n 2, 1, 0, 0, 0) := by decide +kernel
theorem s105_9 {st : List Value} {M : pj_Mem} {l : pj_Loc} {a0 a1 : Option Value} {x : Int32} : pj_step 105 (9, a0 :: a1 :: some (.int x) :: l, st, M) = some (10, a0 :: a1 :: some (.int x) :: l, .int x :: st, M) := st_iload_n q105_9 rfl
theorem x105_9 {st : List Value} {M : pj_Mem} {l : pj_Loc} {a0 a1 : Option Value} {x : Int32} {o9 : Option Value × pj_Mem} : pj_Ends 105 (9, a0 :: a1 :: some (.int x) :: l, st, M) o9 = pj_Ends 105 (10, a0 :: a1 :: some (.int x) :: l, .int x :: st, M) o9 := pj_xs (s105_9)
theorem q105_10 : pj_row 105 10 = some (.tableswitch 108 0 4 #[34, 47, 60, 70, 80], 34, 0, 0, 0) := by decide +kernel
theorem s105_10 {L : pj_Loc} {st : List Value} {M : pj_Mem} {x : Int32} : pj_step 105 (10, L, .int x :: st, M) = some (if x = 0 then 44 else if x = 1 then 57 else if x = 2 then 70 else if x = 3 then 80 else if x = 4 then 90 else 118, L, st, M) := by
  rw [st_tsw q105_10]
  unfold pj_tsw
  by_cases hr : x.toInt < 0 ∨ 4 < x.toInt
  · simp only
    rw [if_pos hr]
    rw [if_neg (show ¬ x = 0 from fun e => by rw [e] at hr; revert hr; decide)]
    rw [if_neg (show ¬ x = 1 from fun e => by rw [e] at hr; revert hr; decide)]
    rw [if_neg (show ¬ x = 2 from fun e => by rw [e] at hr; revert hr; decide)]
    rw [if_neg (show ¬ x = 3 from fun e => by rw [e] at hr; revert hr; decide)]
    rw [if_neg (show ¬ x = 4 from fun e => by rw [e] at hr; revert hr; decide)]
    rfl
  · have h3 : x.toInt = 0 ∨ x.toInt = 1 ∨ x.toInt = 2 ∨ x.toInt = 3 ∨ x.toInt = 4 := by omega
    rcases h3 with h3 | h3 | h3 | h3 | h3
    · have e : x = 0 := Int32.toInt_inj.mp (h3.trans (by decide))
      subst e
      rfl
    · have e : x = 1 := Int32.toInt_inj.mp (h3.trans (by decide))
      subst e
      rfl
    · have e : x = 2 := Int32.toInt_inj.mp (h3.trans (by decide))
      subst e
      rfl
    · have e : x = 3 := Int32.toInt_inj.mp (h3.trans (by decide))
      subst e
      rfl
    · have e : x = 4 := Int32.toInt_inj.mp (h3.trans (by decide))
      subst e
      rfl
theorem x105_10 {L : pj_Loc} {st : List Value} {M : pj_Mem} {x : Int32} {o9 : Option Value × pj_Mem} : pj_Ends 105 (10, L, .int x :: st, M) o9 = pj_Ends 105 (if x = 0 then 44 else if x = 1 then 57 else if x = 2 then 70 else if x = 3 then 80 else if x = 4 then 90 else 118, L, st, M) o9 := pj_xs (s105_10)
theorem q105_44 : pj_row 105 44 = some (.aload_n 0, 1, 0, 0, 0) := by decide +kernel
theorem s105_44 {st : List Value} {M : pj_Mem} {l : pj_Loc} {x : Nat} : pj_step 105 (44, some (.ref x) :: l, st, M) = some (45, some (.ref x) :: l, .ref x :: st, M) := st_aload_n q105_44 rfl
theorem x105_44 {st : List Value} {M : pj_Mem} {l : pj_Loc} {x : Nat} {o9 : Option Value × pj_Mem} : pj_Ends 105 (44, some (.ref x) :: l, st, M) o9 = pj_Ends 105 (45, some (.ref x) :: l, .ref x :: st, M) o9 := pj_xs (s105_44)
theorem q105_45 : pj_row 105 45 = some (.getfield 7, 3, 6, 0, 0) := by decide +kernel
theorem s105_45 {L : pj_Loc} {st : List Value} {N S : Nat} {H : pj_Heap} {o : Nat} : pj_step 105 (45, L, .ref o :: st, (N, S, H)) = pj_pv 48 L st (N, S, H) (pj_fld (H o) 6 0) := st_getfield q105_45
theorem x105_45 {L : pj_Loc} {st : List Value} {N S : Nat} {H : pj_Heap} {o : Nat} {o9 : Option Value × pj_Mem} : pj_Ends 105 (45, L, .ref o :: st, (N, S, H)) o9 = pj_then 105 o9 (pj_pv 48 L st (N, S, H) (pj_fld (H o) 6 0)) := pj_xt q105_45 rfl (pj_cl_nc rfl) (s105_45)
theorem q105_48 : pj_row 105 48 = some (.bipush 8, 2, 0, 0, 0) := by decide +kernel
theorem s105_48 {L : pj_Loc} {st : List Value} {M : pj_Mem}  : pj_step 105 (48, L, st, M) = some (50, L, .int 8 :: st, M) := st_bipush q105_48 (by decide +kernel)
theorem x105_48 {L : pj_Loc} {st : List Value} {M : pj_Mem}  {o9 : Option Value × pj_Mem} : pj_Ends 105 (48, L, st, M) o9 = pj_Ends 105 (50, L, .int 8 :: st, M) o9 := pj_xs (s105_48)
theorem q105_50 : pj_row 105 50 = some (.iload_n 1, 1, 0, 0, 0) := by decide +kernel
theorem s105_50 {st : List Value} {M : pj_Mem} {l : pj_Loc} {a0 : Option Value} {x : Int32} : pj_step 105 (50, a0 :: some (.int x) :: l, st, M) = some (51, a0 :: some (.int x) :: l, .int x :: st, M) := st_iload_n q105_50 rfl
theorem x105_50 {st : List Value} {M : pj_Mem} {l : pj_Loc} {a0 : Option Value} {x : Int32} {o9 : Option Value × pj_Mem} : pj_Ends 105 (50, a0 :: some (.int x) :: l, st, M) o9 = pj_Ends 105 (51, a0 :: some (.int x) :: l, .int x :: st, M) o9 := pj_xs (s105_50)
theorem q105_51 : pj_row 105 51 = some (.iadd, 1, 0, 0, 0) := by decide +kernel
theorem s105_51 {L : pj_Loc} {st : List Value} {M : pj_Mem} {x y : Int32} : pj_step 105 (51, L, .int y :: .int x :: st, M) = some (52, L, .int (x + y) :: st, M) := st_iadd q105_51
theorem x105_51 {L : pj_Loc} {st : List Value} {M : pj_Mem} {x y : Int32} {o9 : Option Value × pj_Mem} : pj_Ends 105 (51, L, .int y :: .int x :: st, M) o9 = pj_Ends 105 (52, L, .int (x + y) :: st, M) o9 := pj_xs (s105_51)
theorem q105_52 : pj_row 105 52 = some (.iaload, 1, 0, 0, 0) := by decide +kernel
theorem s105_52 {L : pj_Loc} {st : List Value} {N S : Nat} {H : pj_Heap} {o : Nat} {i : Int32} : pj_step 105 (52, L, .int i :: .ref o :: st, (N, S, H)) = pj_pi 53 L st (N, S, H) (pj_arl (H o) 0 i) := st_iaload q105_52
theorem x105_52 {L : pj_Loc} {st : List Value} {N S : Nat} {H : pj_Heap} {o : Nat} {i : Int32} {o9 : Option Value × pj_Mem} : pj_Ends 105 (52, L, .int i :: .ref o :: st, (N, S, H)) o9 = pj_then 105 o9 (pj_pi 53 L st (N, S, H) (pj_arl (H o) 0 i)) := pj_xt q105_52 rfl (pj_cl_nc rfl) (s105_52)
theorem q105_53 : pj_row 105 53 = some (.ldc 81, 2, 0, 0, 100000) := by decide +kernel
theorem s105_53 {L : pj_Loc} {st : List Value} {M : pj_Mem}  : pj_step 105 (53, L, st, M) = some (55, L, .int 100000 :: st, M) := st_ldc q105_53 (by decide +kernel)
theorem x105_53 {L : pj_Loc} {st : List Value} {M : pj_Mem}  {o9 : Option Value × pj_Mem} : pj_Ends 105 (53, L, st, M) o9 = pj_Ends 105 (55, L, .int 100000 :: st, M) o9 := pj_xs (s105_53)
theorem q105_55 : pj_row 105 55 = some (.iadd, 1, 0, 0, 0) := by decide +kernel
theorem s105_55 {L : pj_Loc} {st : List Value} {M : pj_Mem} {x y : Int32} : pj_step 105 (55, L, .int y :: .int x :: st, M) = some (56, L, .int (x + y) :: st, M) := st_iadd q105_55
theorem x105_55 {L : pj_Loc} {st : List Value} {M : pj_Mem} {x y : Int32} {o9 : Option Value × pj_Mem} : pj_Ends 105 (55, L, .int y :: .int x :: st, M) o9 = pj_Ends 105 (56, L, .int (x + y) :: st, M) o9 := pj_xs (s105_55)
theorem q105_56 : pj_row 105 56 = some (.ireturn, 1, 0, 0, 0) := by decide +kernel
theorem t105_56 {L : pj_Loc} {M : pj_Mem} {v : Int32} : pj_Ends 105 (56, L, [.int v], M) (some (.int v), M) := pj_Ends.ret q105_56 (pj_rtn_i rt105)
theorem q105_57 : pj_row 105 57 = some (.aload_n 0, 1, 0, 0, 0) := by decide +kernel
theorem s105_57 {st : List Value} {M : pj_Mem} {l : pj_Loc} {x : Nat} : pj_step 105 (57, some (.ref x) :: l, st, M) = some (58, some (.ref x) :: l, .ref x :: st, M) := st_aload_n q105_57 rfl
theorem x105_57 {st : List Value} {M : pj_Mem} {l : pj_Loc} {x : Nat} {o9 : Option Value × pj_Mem} : pj_Ends 105 (57, some (.ref x) :: l, st, M) o9 = pj_Ends 105 (58, some (.ref x) :: l, .ref x :: st, M) o9 := pj_xs (s105_57)
theorem q105_58 : pj_row 105 58 = some (.getfield 7, 3, 6, 0, 0) := by decide +kernel
theorem s105_58 {L : pj_Loc} {st : List Value} {N S : Nat} {H : pj_Heap} {o : Nat} : pj_step 105 (58, L, .ref o :: st, (N, S, H)) = pj_pv 61 L st (N, S, H) (pj_fld (H o) 6 0) := st_getfield q105_58
theorem x105_58 {L : pj_Loc} {st : List Value} {N S : Nat} {H : pj_Heap} {o : Nat} {o9 : Option Value × pj_Mem} : pj_Ends 105 (58, L, .ref o :: st, (N, S, H)) o9 = pj_then 105 o9 (pj_pv 61 L st (N, S, H) (pj_fld (H o) 6 0)) := pj_xt q105_58 rfl (pj_cl_nc rfl) (s105_58)
theorem q105_61 : pj_row 105 61 = some (.bipush 11, 2, 0, 0, 0) := by decide +kernel
theorem s105_61 {L : pj_Loc} {st : List Value} {M : pj_Mem}  : pj_step 105 (61, L, st, M) = some (63, L, .int 11 :: st, M) := st_bipush q105_61 (by decide +kernel)
theorem x105_61 {L : pj_Loc} {st : List Value} {M : pj_Mem}  {o9 : Option Value × pj_Mem} : pj_Ends 105 (61, L, st, M) o9 = pj_Ends 105 (63, L, .int 11 :: st, M) o9 := pj_xs (s105_61)
theorem q105_63 : pj_row 105 63 = some (.iload_n 1, 1, 0, 0, 0) := by decide +kernel
theorem s105_63 {st : List Value} {M : pj_Mem} {l : pj_Loc} {a0 : Option Value} {x : Int32} : pj_step 105 (63, a0 :: some (.int x) :: l, st, M) = some (64, a0 :: some (.int x) :: l, .int x :: st, M) := st_iload_n q105_63 rfl
theorem x105_63 {st : List Value} {M : pj_Mem} {l : pj_Loc} {a0 : Option Value} {x : Int32} {o9 : Option Value × pj_Mem} : pj_Ends 105 (63, a0 :: some (.int x) :: l, st, M) o9 = pj_Ends 105 (64, a0 :: some (.int x) :: l, .int x :: st, M) o9 := pj_xs (s105_63)
theorem q105_64 : pj_row 105 64 = some (.iadd, 1, 0, 0, 0) := by decide +kernel
theorem s105_64 {L : pj_Loc} {st : List Value} {M : pj_Mem} {x y : Int32} : pj_step 105 (64, L, .int y :: .int x :: st, M) = some (65, L, .int (x + y) :: st, M) := st_iadd q105_64
theorem x105_64 {L : pj_Loc} {st : List Value} {M : pj_Mem} {x y : Int32} {o9 : Option Value × pj_Mem} : pj_Ends 105 (64, L, .int y :: .int x :: st, M) o9 = pj_Ends 105 (65, L, .int (x + y) :: st, M) o9 := pj_xs (s105_64)
theorem q105_65 : pj_row 105 65 = some (.iaload, 1, 0, 0, 0) := by decide +kernel
theorem s105_65 {L : pj_Loc} {st : List Value} {N S : Nat} {H : pj_Heap} {o : Nat} {i : Int32} : pj_step 105 (65, L, .int i :: .ref o :: st, (N, S, H)) = pj_pi 66 L st (N, S, H) (pj_arl (H o) 0 i) := st_iaload q105_65
theorem x105_65 {L : pj_Loc} {st : List Value} {N S : Nat} {H : pj_Heap} {o : Nat} {i : Int32} {o9 : Option Value × pj_Mem} : pj_Ends 105 (65, L, .int i :: .ref o :: st, (N, S, H)) o9 = pj_then 105 o9 (pj_pi 66 L st (N, S, H) (pj_arl (H o) 0 i)) := pj_xt q105_65 rfl (pj_cl_nc rfl) (s105_65)
theorem q105_66 : pj_row 105 66 = some (.ldc 81, 2, 0, 0, 100000) := by decide +kernel
theorem s105_66 {L : pj_Loc} {st : List Value} {M : pj_Mem}  : pj_step 105 (66, L, st, M) = some (68, L, .int 100000 :: st, M) := st_ldc q105_66 (by decide +kernel)
theorem x105_66 {L : pj_Loc} {st : List Value} {M : pj_Mem}  {o9 : Option Value × pj_Mem} : pj_Ends 105 (66, L, st, M) o9 = pj_Ends 105 (68, L, .int 100000 :: st, M) o9 := pj_xs (s105_66)
theorem q105_68 : pj_row 105 68 = some (.iadd, 1, 0, 0, 0) := by decide +kernel
theorem s105_68 {L : pj_Loc} {st : List Value} {M : pj_Mem} {x y : Int32} : pj_step 105 (68, L, .int y :: .int x :: st, M) = some (69, L, .int (x + y) :: st, M) := st_iadd q105_68
theorem x105_68 {L : pj_Loc} {st : List Value} {M : pj_Mem} {x y : Int32} {o9 : Option Value × pj_Mem} : pj_Ends 105 (68, L, .int y :: .int x :: st, M) o9 = pj_Ends 105 (69, L, .int (x + y) :: st, M) o9 := pj_xs (s105_68)
theorem q105_69 : pj_row 105 69 = some (.ireturn, 1, 0, 0, 0) := by decide +kernel
theorem t105_69 {L : pj_Loc} {M : pj_Mem} {v : Int32} : pj_Ends 105 (69, L, [.int v], M) (some (.int v), M) := pj_Ends.ret q105_69 (pj_rtn_i rt105)
theorem q105_70 : pj_row 105 70 = some (.aload_n 0, 1, 0, 0, 0) := by decide +kernel
theorem s105_70 {st : List Value} {M : pj_Mem} {l : pj_Loc} {x : Nat} : pj_step 105 (70, some (.ref x) :: l, st, M) = some (71, some (.ref x) :: l, .ref x :: st, M) := st_aload_n q105_70 rfl
theorem x105_70 {st : List Value} {M : pj_Mem} {l : pj_Loc} {x : Nat} {o9 : Option Value × pj_Mem} : pj_Ends 105 (70, some (.ref x) :: l, st, M) o9 = pj_Ends 105 (71, some (.ref x) :: l, .ref x :: st, M) o9 := pj_xs (s105_70)
theorem q105_71 : pj_row 105 71 = some (.getfield 7, 3, 6, 0, 0) := by decide +kernel
theorem s105_71 {L : pj_Loc} {st : List Value} {N S : Nat} {H : pj_Heap} {o : Nat} : pj_step 105 (71, L, .ref o :: st, (N, S, H)) = pj_pv 74 L st (N, S, H) (pj_fld (H o) 6 0) := st_getfield q105_71
theorem x105_71 {L : pj_Loc} {st : List Value} {N S : Nat} {H : pj_Heap} {o : Nat} {o9 : Option Value × pj_Mem} : pj_Ends 105 (71, L, .ref o :: st, (N, S, H)) o9 = pj_then 105 o9 (pj_pv 74 L st (N, S, H) (pj_fld (H o) 6 0)) := pj_xt q105_71 rfl (pj_cl_nc rfl) (s105_71)
theorem q105_74 : pj_row 105 74 = some (.bipush 14, 2, 0, 0, 0) := by decide +kernel
theorem s105_74 {L : pj_Loc} {st : List Value} {M : pj_Mem}  : pj_step 105 (74, L, st, M) = some (76, L, .int 14 :: st, M) := st_bipush q105_74 (by decide +kernel)
theorem x105_74 {L : pj_Loc} {st : List Value} {M : pj_Mem}  {o9 : Option Value × pj_Mem} : pj_Ends 105 (74, L, st, M) o9 = pj_Ends 105 (76, L, .int 14 :: st, M) o9 := pj_xs (s105_74)
theorem q105_76 : pj_row 105 76 = some (.iload_n 1, 1, 0, 0, 0) := by decide +kernel
theorem s105_76 {st : List Value} {M : pj_Mem} {l : pj_Loc} {a0 : Option Value} {x : Int32} : pj_step 105 (76, a0 :: some (.int x) :: l, st, M) = some (77, a0 :: some (.int x) :: l, .int x :: st, M) := st_iload_n q105_76 rfl
theorem x105_76 {st : List Value} {M : pj_Mem} {l : pj_Loc} {a0 : Option Value} {x : Int32} {o9 : Option Value × pj_Mem} : pj_Ends 105 (76, a0 :: some (.int x) :: l, st, M) o9 = pj_Ends 105 (77, a0 :: some (.int x) :: l, .int x :: st, M) o9 := pj_xs (s105_76)
theorem q105_77 : pj_row 105 77 = some (.iadd, 1, 0, 0, 0) := by decide +kernel
theorem s105_77 {L : pj_Loc} {st : List Value} {M : pj_Mem} {x y : Int32} : pj_step 105 (77, L, .int y :: .int x :: st, M) = some (78, L, .int (x + y) :: st, M) := st_iadd q105_77
theorem x105_77 {L : pj_Loc} {st : List Value} {M : pj_Mem} {x y : Int32} {o9 : Option Value × pj_Mem} : pj_Ends 105 (77, L, .int y :: .int x :: st, M) o9 = pj_Ends 105 (78, L, .int (x + y) :: st, M) o9 := pj_xs (s105_77)
theorem q105_78 : pj_row 105 78 = some (.iaload, 1, 0, 0, 0) := by decide +kernel
theorem s105_78 {L : pj_Loc} {st : List Value} {N S : Nat} {H : pj_Heap} {o : Nat} {i : Int32} : pj_step 105 (78, L, .int i :: .ref o :: st, (N, S, H)) = pj_pi 79 L st (N, S, H) (pj_arl (H o) 0 i) := st_iaload q105_78
theorem x105_78 {L : pj_Loc} {st : List Value} {N S : Nat} {H : pj_Heap} {o : Nat} {i : Int32} {o9 : Option Value × pj_Mem} : pj_Ends 105 (78, L, .int i :: .ref o :: st, (N, S, H)) o9 = pj_then 105 o9 (pj_pi 79 L st (N, S, H) (pj_arl (H o) 0 i)) := pj_xt q105_78 rfl (pj_cl_nc rfl) (s105_78)
theorem q105_79 : pj_row 105 79 = some (.ireturn, 1, 0, 0, 0) := by decide +kernel
theorem t105_79 {L : pj_Loc} {M : pj_Mem} {v : Int32} : pj_Ends 105 (79, L, [.int v], M) (some (.int v), M) := pj_Ends.ret q105_79 (pj_rtn_i rt105)
theorem q105_80 : pj_row 105 80 = some (.aload_n 0, 1, 0, 0, 0) := by decide +kernel
theorem s105_80 {st : List Value} {M : pj_Mem} {l : pj_Loc} {x : Nat} : pj_step 105 (80, some (.ref x) :: l, st, M) = some (81, some (.ref x) :: l, .ref x :: st, M) := st_aload_n q105_80 rfl
theorem x105_80 {st : List Value} {M : pj_Mem} {l : pj_Loc} {x : Nat} {o9 : Option Value × pj_Mem} : pj_Ends 105 (80, some (.ref x) :: l, st, M) o9 = pj_Ends 105 (81, some (.ref x) :: l, .ref x :: st, M) o9 := pj_xs (s105_80)
theorem q105_81 : pj_row 105 81 = some (.getfield 7, 3, 6, 0, 0) := by decide +kernel
theorem s105_81 {L : pj_Loc} {st : List Value} {N S : Nat} {H : pj_Heap} {o : Nat} : pj_step 105 (81, L, .ref o :: st, (N, S, H)) = pj_pv 84 L st (N, S, H) (pj_fld (H o) 6 0) := st_getfield q105_81
theorem x105_81 {L : pj_Loc} {st : List Value} {N S : Nat} {H : pj_Heap} {o : Nat} {o9 : Option Value × pj_Mem} : pj_Ends 105 (81, L, .ref o :: st, (N, S, H)) o9 = pj_then 105 o9 (pj_pv 84 L st (N, S, H) (pj_fld (H o) 6 0)) := pj_xt q105_81 rfl (pj_cl_nc rfl) (s105_81)
theorem q105_84 : pj_row 105 84 = some (.bipush 17, 2, 0, 0, 0) := by decide +kernel
theorem s105_84 {L : pj_Loc} {st : List Value} {M : pj_Mem}  : pj_step 105 (84, L, st, M) = some (86, L, .int 17 :: st, M) := st_bipush q105_84 (by decide +kernel)
theorem x105_84 {L : pj_Loc} {st : List Value} {M : pj_Mem}  {o9 : Option Value × pj_Mem} : pj_Ends 105 (84, L, st, M) o9 = pj_Ends 105 (86, L, .int 17 :: st, M) o9 := pj_xs (s105_84)
theorem q105_86 : pj_row 105 86 = some (.iload_n 1, 1, 0, 0, 0) := by decide +kernel
theorem s105_86 {st : List Value} {M : pj_Mem} {l : pj_Loc} {a0 : Option Value} {x : Int32} : pj_step 105 (86, a0 :: some (.int x) :: l, st, M) = some (87, a0 :: some (.int x) :: l, .int x :: st, M) := st_iload_n q105_86 rfl
theorem x105_86 {st : List Value} {M : pj_Mem} {l : pj_Loc} {a0 : Option Value} {x : Int32} {o9 : Option Value × pj_Mem} : pj_Ends 105 (86, a0 :: some (.int x) :: l, st, M) o9 = pj_Ends 105 (87, a0 :: some (.int x) :: l, .int x :: st, M) o9 := pj_xs (s105_86)
theorem q105_87 : pj_row 105 87 = some (.iadd, 1, 0, 0, 0) := by decide +kernel
theorem s105_87 {L : pj_Loc} {st : List Value} {M : pj_Mem} {x y : Int32} : pj_step 105 (87, L, .int y :: .int x :: st, M) = some (88, L, .int (x + y) :: st, M) := st_iadd q105_87
theorem x105_87 {L : pj_Loc} {st : List Value} {M : pj_Mem} {x y : Int32} {o9 : Option Value × pj_Mem} : pj_Ends 105 (87, L, .int y :: .int x :: st, M) o9 = pj_Ends 105 (88, L, .int (x + y) :: st, M) o9 := pj_xs (s105_87)
theorem q105_88 : pj_row 105 88 = some (.iaload, 1, 0, 0, 0) := by decide +kernel
theorem s105_88 {L : pj_Loc} {st : List Value} {N S : Nat} {H : pj_Heap} {o : Nat} {i : Int32} : pj_step 105 (88, L, .int i :: .ref o :: st, (N, S, H)) = pj_pi 89 L st (N, S, H) (pj_arl (H o) 0 i) := st_iaload q105_88
theorem x105_88 {L : pj_Loc} {st : List Value} {N S : Nat} {H : pj_Heap} {o : Nat} {i : Int32} {o9 : Option Value × pj_Mem} : pj_Ends 105 (88, L, .int i :: .ref o :: st, (N, S, H)) o9 = pj_then 105 o9 (pj_pi 89 L st (N, S, H) (pj_arl (H o) 0 i)) := pj_xt q105_88 rfl (pj_cl_nc rfl) (s105_88)
theorem q105_89 : pj_row 105 89 = some (.ireturn, 1, 0, 0, 0) := by decide +kernel
theorem t105_89 {L : pj_Loc} {M : pj_Mem} {v : Int32} : pj_Ends 105 (89, L, [.int v], M) (some (.int v), M) := pj_Ends.ret q105_89 (pj_rtn_i rt105)
theorem q105_90 : pj_row 105 90 = some (.aload_n 0, 1, 0, 0, 0) := by decide +kernel
theorem s105_90 {st : List Value} {M : pj_Mem} {l : pj_Loc} {x : Nat} : pj_step 105 (90, some (.ref x) :: l, st, M) = some (91, some (.ref x) :: l, .ref x :: st, M) := st_aload_n q105_90 rfl
theorem x105_90 {st : List Value} {M : pj_Mem} {l : pj_Loc} {x : Nat} {o9 : Option Value × pj_Mem} : pj_Ends 105 (90, some (.ref x) :: l, st, M) o9 = pj_Ends 105 (91, some (.ref x) :: l, .ref x :: st, M) o9 := pj_xs (s105_90)
theorem q105_91 : pj_row 105 91 = some (.getfield 7, 3, 6, 0, 0) := by decide +kernel
theorem s105_91 {L : pj_Loc} {st : List Value} {N S : Nat} {H : pj_Heap} {o : Nat} : pj_step 105 (91, L, .ref o :: st, (N, S, H)) = pj_pv 94 L st (N, S, H) (pj_fld (H o) 6 0) := st_getfield q105_91
theorem x105_91 {L : pj_Loc} {st : List Value} {N S : Nat} {H : pj_Heap} {o : Nat} {o9 : Option Value × pj_Mem} : pj_Ends 105 (91, L, .ref o :: st, (N, S, H)) o9 = pj_then 105 o9 (pj_pv 94 L st (N, S, H) (pj_fld (H o) 6 0)) := pj_xt q105_91 rfl (pj_cl_nc rfl) (s105_91)
theorem q105_94 : pj_row 105 94 = some (.bipush 6, 2, 0, 0, 0) := by decide +kernel
theorem s105_94 {L : pj_Loc} {st : List Value} {M : pj_Mem}  : pj_step 105 (94, L, st, M) = some (96, L, .int 6 :: st, M) := st_bipush q105_94 (by decide +kernel)
theorem x105_94 {L : pj_Loc} {st : List Value} {M : pj_Mem}  {o9 : Option Value × pj_Mem} : pj_Ends 105 (94, L, st, M) o9 = pj_Ends 105 (96, L, .int 6 :: st, M) o9 := pj_xs (s105_94)
theorem q105_96 : pj_row 105 96 = some (.iaload, 1, 0, 0, 0) := by decide +kernel
theorem s105_96 {L : pj_Loc} {st : List Value} {N S : Nat} {H : pj_Heap} {o : Nat} {i : Int32} : pj_step 105 (96, L, .int i :: .ref o :: st, (N, S, H)) = pj_pi 97 L st (N, S, H) (pj_arl (H o) 0 i) := st_iaload q105_96
theorem x105_96 {L : pj_Loc} {st : List Value} {N S : Nat} {H : pj_Heap} {o : Nat} {i : Int32} {o9 : Option Value × pj_Mem} : pj_Ends 105 (96, L, .int i :: .ref o :: st, (N, S, H)) o9 = pj_then 105 o9 (pj_pi 97 L st (N, S, H) (pj_arl (H o) 0 i)) := pj_xt q105_96 rfl (pj_cl_nc rfl) (s105_96)
theorem q105_97 : pj_row 105 97 = some (.ifCond .ne 8, 3, 105, 0, 0) := by decide +kernel
theorem s105_97 {L : pj_Loc} {st : List Value} {M : pj_Mem} {x : Int32} : pj_step 105 (97, L, .int x :: st, M) = some (if ¬ x = 0 then 105 else 100, L, st, M) := st_if_ne q105_97
theorem x105_97 {L : pj_Loc} {st : List Value} {M : pj_Mem} {x : Int32} {o9 : Option Value × pj_Mem} : pj_Ends 105 (97, L, .int x :: st, M) o9 = pj_Ends 105 (if ¬ x = 0 then 105 else 100, L, st, M) o9 := pj_xs (s105_97)
theorem q105_100 : pj_row 105 100 = some (.bipush (-6), 2, 0, 0, 0) := by decide +kernel
theorem s105_100 {L : pj_Loc} {st : List Value} {M : pj_Mem}  : pj_step 105 (100, L, st, M) = some (102, L, .int (-6) :: st, M) := st_bipush q105_100 (by decide +kernel)
theorem x105_100 {L : pj_Loc} {st : List Value} {M : pj_Mem}  {o9 : Option Value × pj_Mem} : pj_Ends 105 (100, L, st, M) o9 = pj_Ends 105 (102, L, .int (-6) :: st, M) o9 := pj_xs (s105_100)
theorem q105_102 : pj_row 105 102 = some (.goto 15, 3, 117, 0, 0) := by decide +kernel
theorem s105_102 {L : pj_Loc} {st : List Value} {M : pj_Mem}  : pj_step 105 (102, L, st, M) = some (117, L, st, M) := st_goto q105_102
theorem x105_102 {L : pj_Loc} {st : List Value} {M : pj_Mem}  {o9 : Option Value × pj_Mem} : pj_Ends 105 (102, L, st, M) o9 = pj_Ends 105 (117, L, st, M) o9 := pj_xs (s105_102)
theorem q105_105 : pj_row 105 105 = some (.aload_n 0, 1, 0, 0, 0) := by decide +kernel
theorem s105_105 {st : List Value} {M : pj_Mem} {l : pj_Loc} {x : Nat} : pj_step 105 (105, some (.ref x) :: l, st, M) = some (106, some (.ref x) :: l, .ref x :: st, M) := st_aload_n q105_105 rfl
theorem x105_105 {st : List Value} {M : pj_Mem} {l : pj_Loc} {x : Nat} {o9 : Option Value × pj_Mem} : pj_Ends 105 (105, some (.ref x) :: l, st, M) o9 = pj_Ends 105 (106, some (.ref x) :: l, .ref x :: st, M) o9 := pj_xs (s105_105)
theorem q105_106 : pj_row 105 106 = some (.getfield 7, 3, 6, 0, 0) := by decide +kernel
theorem s105_106 {L : pj_Loc} {st : List Value} {N S : Nat} {H : pj_Heap} {o : Nat} : pj_step 105 (106, L, .ref o :: st, (N, S, H)) = pj_pv 109 L st (N, S, H) (pj_fld (H o) 6 0) := st_getfield q105_106
theorem x105_106 {L : pj_Loc} {st : List Value} {N S : Nat} {H : pj_Heap} {o : Nat} {o9 : Option Value × pj_Mem} : pj_Ends 105 (106, L, .ref o :: st, (N, S, H)) o9 = pj_then 105 o9 (pj_pv 109 L st (N, S, H) (pj_fld (H o) 6 0)) := pj_xt q105_106 rfl (pj_cl_nc rfl) (s105_106)
theorem q105_109 : pj_row 105 109 = some (.bipush 20, 2, 0, 0, 0) := by decide +kernel
theorem s105_109 {L : pj_Loc} {st : List Value} {M : pj_Mem}  : pj_step 105 (109, L, st, M) = some (111, L, .int 20 :: st, M) := st_bipush q105_109 (by decide +kernel)
theorem x105_109 {L : pj_Loc} {st : List Value} {M : pj_Mem}  {o9 : Option Value × pj_Mem} : pj_Ends 105 (109, L, st, M) o9 = pj_Ends 105 (111, L, .int 20 :: st, M) o9 := pj_xs (s105_109)
theorem q105_111 : pj_row 105 111 = some (.iload_n 1, 1, 0, 0, 0) := by decide +kernel
theorem s105_111 {st : List Value} {M : pj_Mem} {l : pj_Loc} {a0 : Option Value} {x : Int32} : pj_step 105 (111, a0 :: some (.int x) :: l, st, M) = some (112, a0 :: some (.int x) :: l, .int x :: st, M) := st_iload_n q105_111 rfl
theorem x105_111 {st : List Value} {M : pj_Mem} {l : pj_Loc} {a0 : Option Value} {x : Int32} {o9 : Option Value × pj_Mem} : pj_Ends 105 (111, a0 :: some (.int x) :: l, st, M) o9 = pj_Ends 105 (112, a0 :: some (.int x) :: l, .int x :: st, M) o9 := pj_xs (s105_111)
theorem q105_112 : pj_row 105 112 = some (.iadd, 1, 0, 0, 0) := by decide +kernel
theorem s105_112 {L : pj_Loc} {st : List Value} {M : pj_Mem} {x y : Int32} : pj_step 105 (112, L, .int y :: .int x :: st, M) = some (113, L, .int (x + y) :: st, M) := st_iadd q105_112
theorem x105_112 {L : pj_Loc} {st : List Value} {M : pj_Mem} {x y : Int32} {o9 : Option Value × pj_Mem} : pj_Ends 105 (112, L, .int y :: .int x :: st, M) o9 = pj_Ends 105 (113, L, .int (x + y) :: st, M) o9 := pj_xs (s105_112)
theorem q105_113 : pj_row 105 113 = some (.iaload, 1, 0, 0, 0) := by decide +kernel
theorem s105_113 {L : pj_Loc} {st : List Value} {N S : Nat} {H : pj_Heap} {o : Nat} {i : Int32} : pj_step 105 (113, L, .int i :: .ref o :: st, (N, S, H)) = pj_pi 114 L st (N, S, H) (pj_arl (H o) 0 i) := st_iaload q105_113
theorem x105_113 {L : pj_Loc} {st : List Value} {N S : Nat} {H : pj_Heap} {o : Nat} {i : Int32} {o9 : Option Value × pj_Mem} : pj_Ends 105 (113, L, .int i :: .ref o :: st, (N, S, H)) o9 = pj_then 105 o9 (pj_pi 114 L st (N, S, H) (pj_arl (H o) 0 i)) := pj_xt q105_113 rfl (pj_cl_nc rfl) (s105_113)
theorem q105_114 : pj_row 105 114 = some (.ldc 81, 2, 0, 0, 100000) := by decide +kernel
theorem s105_114 {L : pj_Loc} {st : List Value} {M : pj_Mem}  : pj_step 105 (114, L, st, M) = some (116, L, .int 100000 :: st, M) := st_ldc q105_114 (by decide +kernel)
theorem x105_114 {L : pj_Loc} {st : List Value} {M : pj_Mem}  {o9 : Option Value × pj_Mem} : pj_Ends 105 (114, L, st, M) o9 = pj_Ends 105 (116, L, .int 100000 :: st, M) o9 := pj_xs (s105_114)
theorem q105_116 : pj_row 105 116 = some (.iadd, 1, 0, 0, 0) := by decide +kernel
theorem s105_116 {L : pj_Loc} {st : List Value} {M : pj_Mem} {x y : Int32} : pj_step 105 (116, L, .int y :: .int x :: st, M) = some (117, L, .int (x + y) :: st, M) := st_iadd q105_116
theorem x105_116 {L : pj_Loc} {st : List Value} {M : pj_Mem} {x y : Int32} {o9 : Option Value × pj_Mem} : pj_Ends 105 (116, L, .int y :: .int x :: st, M) o9 = pj_Ends 105 (117, L, .int (x + y) :: st, M) o9 := pj_xs (s105_116)
theorem q105_117 : pj_row 105 117 = some (.ireturn, 1, 0, 0, 0) := by decide +kernel
theorem t105_117 {L : pj_Loc} {M : pj_Mem} {v : Int32} : pj_Ends 105 (117, L, [.int v], M) (some (.int v), M) := pj_Ends.ret q105_117 (pj_rtn_i rt105)
theorem q105_118 : pj_row 105 118 = some (.bipush (-2), 2, 0, 0, 0) := by decide +kernel
theorem s105_118 {L : pj_Loc} {st : List Value} {M : pj_Mem}  : pj_step 105 (118, L, st, M) = some (120, L, .int (-2) :: st, M) := st_bipush q105_118 (by decide +kernel)
theorem x105_118 {L : pj_Loc} {st : List Value} {M : pj_Mem}  {o9 : Option Value × pj_Mem} : pj_Ends 105 (118, L, st, M) o9 = pj_Ends 105 (120, L, .int (-2) :: st, M) o9 := pj_xs (s105_118)
theorem q105_120 : pj_row 105 120 = some (.ireturn, 1, 0, 0, 0) := by decide +kernel
theorem t105_120 {L : pj_Loc} {M : pj_Mem} {v : Int32} : pj_Ends 105 (120, L, [.int v], M) (some (.int v), M) := pj_Ends.ret q105_120 (pj_rtn_i rt105)
theorem rt106 : pj_rt 106 = some .int := rfl
theorem q106_0 : pj_row 106 0 = some (.iload_n 1, 1, 0, 0, 0) := by decide +kernel
theorem s106_0 {st : List Value} {M : pj_Mem} {l : pj_Loc} {a0 : Option Value} {x : Int32} : pj_step 106 (0, a0 :: some (.int x) :: l, st, M) = some (1, a0 :: some (.int x) :: l, .int x :: st, M) := st_iload_n q106_0 rfl
theorem x106_0 {st : List Value} {M : pj_Mem} {l : pj_Loc} {a0 : Option Value} {x : Int32} {o9 : Option Value × pj_Mem} : pj_Ends 106 (0, a0 :: some (.int x) :: l, st, M) o9 = pj_Ends 106 (1, a0 :: some (.int x) :: l, .int x :: st, M) o9 := pj_xs (s106_0)
theorem q106_1 : pj_row 106 1 = some (.invokestatic 137, 3, 100, 1, 0) := by decide +kernel
theorem e106_1 {L : pj_Loc} {st : List Value} {N S : Nat} {H : pj_Heap} {o : Option Value × pj_Mem} {M' : pj_Mem} {x0 : Int32} {r : Int32} (h4 : pj_le4 st = true) (h1 : pj_Ends 100 (0, [some (.int x0)], [], (N, S, H)) (some (.int r), M')) (h2 : pj_Ends 106 (4, L, .int r :: st, M') o) : pj_Ends 106 (1, L, .int x0 :: st, (N, S, H)) o := ec_s1 q106_1 (Or.inl rfl) h4 rfl h1 h2
theorem q106_4 : pj_row 106 4 = some (.ifCond .ne 5, 3, 9, 0, 0) := by decide +kernel
theorem s106_4 {L : pj_Loc} {st : List Value} {M : pj_Mem} {x : Int32} : pj_step 106 (4, L, .int x :: st, M) = some (if ¬ x = 0 then 9 else 7, L, st, M) := st_if_ne q106_4
theorem x106_4 {L : pj_Loc} {st : List Value} {M : pj_Mem} {x : Int32} {o9 : Option Value × pj_Mem} : pj_Ends 106 (4, L, .int x :: st, M) o9 = pj_Ends 106 (if ¬ x = 0 then 9 else 7, L, st, M) o9 := pj_xs (s106_4)
theorem q106_7 : pj_row 106 7 = some (.iconst (-1), 1, 0, 0, 0) := by decide +kernel
theorem s106_7 {L : pj_Loc} {st : List Value} {M : pj_Mem}  : pj_step 106 (7, L, st, M) = some (8, L, .int (-1) :: st, M) := st_iconst q106_7 (by decide +kernel)
theorem x106_7 {L : pj_Loc} {st : List Value} {M : pj_Mem}  {o9 : Option Value × pj_Mem} : pj_Ends 106 (7, L, st, M) o9 = pj_Ends 106 (8, L, .int (-1) :: st, M) o9 := pj_xs (s106_7)
theorem q106_8 : pj_row 106 8 = some (.ireturn, 1, 0, 0, 0) := by decide +kernel
theorem t106_8 {L : pj_Loc} {M : pj_Mem} {v : Int32} : pj_Ends 106 (8, L, [.int v], M) (some (.int v), M) := pj_Ends.ret q106_8 (pj_rtn_i rt106)
theorem q106_9 : pj_row 106 9 = some (.iload_n 2, 1, 0, 0, 0) := by decide +kernel
theorem s106_9 {st : List Value} {M : pj_Mem} {l : pj_Loc} {a0 a1 : Option Value} {x : Int32} : pj_step 106 (9, a0 :: a1 :: some (.int x) :: l, st, M) = some (10, a0 :: a1 :: some (.int x) :: l, .int x :: st, M) := st_iload_n q106_9 rfl
theorem x106_9 {st : List Value} {M : pj_Mem} {l : pj_Loc} {a0 a1 : Option Value} {x : Int32} {o9 : Option Value × pj_Mem} : pj_Ends 106 (9, a0 :: a1 :: some (.int x) :: l, st, M) o9 = pj_Ends 106 (10, a0 :: a1 :: some (.int x) :: l, .int x :: st, M) o9 := pj_xs (s106_9)
theorem q106_10 : pj_row 106 10 = some (.ifCond .ne 15, 3, 25, 0, 0) := by decide +kernel
theorem s106_10 {L : pj_Loc} {st : List Value} {M : pj_Mem} {x : Int32} : pj_step 106 (10, L, .int x :: st, M) = some (if ¬ x = 0 then 25 else 13, L, st, M) := st_if_ne q106_10
theorem x106_10 {L : pj_Loc} {st : List Value} {M : pj_Mem} {x : Int32} {o9 : Option Value × pj_Mem} : pj_Ends 106 (10, L, .int x :: st, M) o9 = pj_Ends 106 (if ¬ x = 0 then 25 else 13, L, st, M) o9 := pj_xs (s106_10)
theorem q106_13 : pj_row 106 13 = some (.aload_n 0, 1, 0, 0, 0) := by decide +kernel
theorem s106_13 {st : List Value} {M : pj_Mem} {l : pj_Loc} {x : Nat} : pj_step 106 (13, some (.ref x) :: l, st, M) = some (14, some (.ref x) :: l, .ref x :: st, M) := st_aload_n q106_13 rfl
theorem x106_13 {st : List Value} {M : pj_Mem} {l : pj_Loc} {x : Nat} {o9 : Option Value × pj_Mem} : pj_Ends 106 (13, some (.ref x) :: l, st, M) o9 = pj_Ends 106 (14, some (.ref x) :: l, .ref x :: st, M) o9 := pj_xs (s106_13)
theorem q106_14 : pj_row 106 14 = some (.getfield 7, 3, 6, 0, 0) := by decide +kernel
theorem s106_14 {L : pj_Loc} {st : List Value} {N S : Nat} {H : pj_Heap} {o : Nat} : pj_step 106 (14, L, .ref o :: st, (N, S, H)) = pj_pv 17 L st (N, S, H) (pj_fld (H o) 6 0) := st_getfield q106_14
theorem x106_14 {L : pj_Loc} {st : List Value} {N S : Nat} {H : pj_Heap} {o : Nat} {o9 : Option Value × pj_Mem} : pj_Ends 106 (14, L, .ref o :: st, (N, S, H)) o9 = pj_then 106 o9 (pj_pv 17 L st (N, S, H) (pj_fld (H o) 6 0)) := pj_xt q106_14 rfl (pj_cl_nc rfl) (s106_14)
theorem q106_17 : pj_row 106 17 = some (.bipush 23, 2, 0, 0, 0) := by decide +kernel
theorem s106_17 {L : pj_Loc} {st : List Value} {M : pj_Mem}  : pj_step 106 (17, L, st, M) = some (19, L, .int 23 :: st, M) := st_bipush q106_17 (by decide +kernel)
theorem x106_17 {L : pj_Loc} {st : List Value} {M : pj_Mem}  {o9 : Option Value × pj_Mem} : pj_Ends 106 (17, L, st, M) o9 = pj_Ends 106 (19, L, .int 23 :: st, M) o9 := pj_xs (s106_17)
theorem q106_19 : pj_row 106 19 = some (.iload_n 1, 1, 0, 0, 0) := by decide +kernel
theorem s106_19 {st : List Value} {M : pj_Mem} {l : pj_Loc} {a0 : Option Value} {x : Int32} : pj_step 106 (19, a0 :: some (.int x) :: l, st, M) = some (20, a0 :: some (.int x) :: l, .int x :: st, M) := st_iload_n q106_19 rfl
theorem x106_19 {st : List Value} {M : pj_Mem} {l : pj_Loc} {a0 : Option Value} {x : Int32} {o9 : Option Value × pj_Mem} : pj_Ends 106 (19, a0 :: some (.int x) :: l, st, M) o9 = pj_Ends 106 (20, a0 :: some (.int x) :: l, .int x :: st, M) o9 := pj_xs (s106_19)
theorem q106_20 : pj_row 106 20 = some (.iadd, 1, 0, 0, 0) := by decide +kernel
theorem s106_20 {L : pj_Loc} {st : List Value} {M : pj_Mem} {x y : Int32} : pj_step 106 (20, L, .int y :: .int x :: st, M) = some (21, L, .int (x + y) :: st, M) := st_iadd q106_20
theorem x106_20 {L : pj_Loc} {st : List Value} {M : pj_Mem} {x y : Int32} {o9 : Option Value × pj_Mem} : pj_Ends 106 (20, L, .int y :: .int x :: st, M) o9 = pj_Ends 106 (21, L, .int (x + y) :: st, M) o9 := pj_xs (s106_20)
theorem q106_21 : pj_row 106 21 = some (.iaload, 1, 0, 0, 0) := by decide +kernel
theorem s106_21 {L : pj_Loc} {st : List Value} {N S : Nat} {H : pj_Heap} {o : Nat} {i : Int32} : pj_step 106 (21, L, .int i :: .ref o :: st, (N, S, H)) = pj_pi 22 L st (N, S, H) (pj_arl (H o) 0 i) := st_iaload q106_21
theorem x106_21 {L : pj_Loc} {st : List Value} {N S : Nat} {H : pj_Heap} {o : Nat} {i : Int32} {o9 : Option Value × pj_Mem} : pj_Ends 106 (21, L, .int i :: .ref o :: st, (N, S, H)) o9 = pj_then 106 o9 (pj_pi 22 L st (N, S, H) (pj_arl (H o) 0 i)) := pj_xt q106_21 rfl (pj_cl_nc rfl) (s106_21)
theorem q106_22 : pj_row 106 22 = some (.goto 22, 3, 44, 0, 0) := by decide +kernel
theorem s106_22 {L : pj_Loc} {st : List Value} {M : pj_Mem}  : pj_step 106 (22, L, st, M) = some (44, L, st, M) := st_goto q106_22
theorem x106_22 {L : pj_Loc} {st : List Value} {M : pj_Mem}  {o9 : Option Value × pj_Mem} : pj_Ends 106 (22, L, st, M) o9 = pj_Ends 106 (44, L, st, M) o9 := pj_xs (s106_22)
theorem q106_25 : pj_row 106 25 = some (.iload_n 2, 1, 0, 0, 0) := by decide +kernel
theorem s106_25 {st : List Value} {M : pj_Mem} {l : pj_Loc} {a0 a1 : Option Value} {x : Int32} : pj_step 106 (25, a0 :: a1 :: some (.int x) :: l, st, M) = some (26, a0 :: a1 :: some (.int x) :: l, .int x :: st, M) := st_iload_n q106_25 rfl
theorem x106_25 {st : List Value} {M : pj_Mem} {l : pj_Loc} {a0 a1 : Option Value} {x : Int32} {o9 : Option Value × pj_Mem} : pj_Ends 106 (25, a0 :: a1 :: some (.int x) :: l, st, M) o9 = pj_Ends 106 (26, a0 :: a1 :: some (.int x) :: l, .int x :: st, M) o9 := pj_xs (s106_25)
theorem q106_26 : pj_row 106 26 = some (.iconst 1, 1, 0, 0, 0) := by decide +kernel
theorem s106_26 {L : pj_Loc} {st : List Value} {M : pj_Mem}  : pj_step 106 (26, L, st, M) = some (27, L, .int 1 :: st, M) := st_iconst q106_26 (by decide +kernel)
theorem x106_26 {L : pj_Loc} {st : List Value} {M : pj_Mem}  {o9 : Option Value × pj_Mem} : pj_Ends 106 (26, L, st, M) o9 = pj_Ends 106 (27, L, .int 1 :: st, M) o9 := pj_xs (s106_26)
theorem q106_27 : pj_row 106 27 = some (.if_icmp .ne 15, 3, 42, 0, 0) := by decide +kernel
theorem s106_27 {L : pj_Loc} {st : List Value} {M : pj_Mem} {x y : Int32} : pj_step 106 (27, L, .int y :: .int x :: st, M) = some (if ¬ x = y then 42 else 30, L, st, M) := st_icmp_ne q106_27
theorem x106_27 {L : pj_Loc} {st : List Value} {M : pj_Mem} {x y : Int32} {o9 : Option Value × pj_Mem} : pj_Ends 106 (27, L, .int y :: .int x :: st, M) o9 = pj_Ends 106 (if ¬ x = y then 42 else 30, L, st, M) o9 := pj_xs (s106_27)
theorem q106_30 : pj_row 106 30 = some (.aload_n 0, 1, 0, 0, 0) := by decide +kernel
theorem s106_30 {st : List Value} {M : pj_Mem} {l : pj_Loc} {x : Nat} : pj_step 106 (30, some (.ref x) :: l, st, M) = some (31, some (.ref x) :: l, .ref x :: st, M) := st_aload_n q106_30 rfl
theorem x106_30 {st : List Value} {M : pj_Mem} {l : pj_Loc} {x : Nat} {o9 : Option Value × pj_Mem} : pj_Ends 106 (30, some (.ref x) :: l, st, M) o9 = pj_Ends 106 (31, some (.ref x) :: l, .ref x :: st, M) o9 := pj_xs (s106_30)
theorem q106_31 : pj_row 106 31 = some (.getfield 7, 3, 6, 0, 0) := by decide +kernel
theorem s106_31 {L : pj_Loc} {st : List Value} {N S : Nat} {H : pj_Heap} {o : Nat} : pj_step 106 (31, L, .ref o :: st, (N, S, H)) = pj_pv 34 L st (N, S, H) (pj_fld (H o) 6 0) := st_getfield q106_31
theorem x106_31 {L : pj_Loc} {st : List Value} {N S : Nat} {H : pj_Heap} {o : Nat} {o9 : Option Value × pj_Mem} : pj_Ends 106 (31, L, .ref o :: st, (N, S, H)) o9 = pj_then 106 o9 (pj_pv 34 L st (N, S, H) (pj_fld (H o) 6 0)) := pj_xt q106_31 rfl (pj_cl_nc rfl) (s106_31)
theorem q106_34 : pj_row 106 34 = some (.bipush 26, 2, 0, 0, 0) := by decide +kernel
theorem s106_34 {L : pj_Loc} {st : List Value} {M : pj_Mem}  : pj_step 106 (34, L, st, M) = some (36, L, .int 26 :: st, M) := st_bipush q106_34 (by decide +kernel)
theorem x106_34 {L : pj_Loc} {st : List Value} {M : pj_Mem}  {o9 : Option Value × pj_Mem} : pj_Ends 106 (34, L, st, M) o9 = pj_Ends 106 (36, L, .int 26 :: st, M) o9 := pj_xs (s106_34)
theorem q106_36 : pj_row 106 36 = some (.iload_n 1, 1, 0, 0, 0) := by decide +kernel
theorem s106_36 {st : List Value} {M : pj_Mem} {l : pj_Loc} {a0 : Option Value} {x : Int32} : pj_step 106 (36, a0 :: some (.int x) :: l, st, M) = some (37, a0 :: some (.int x) :: l, .int x :: st, M) := st_iload_n q106_36 rfl
theorem x106_36 {st : List Value} {M : pj_Mem} {l : pj_Loc} {a0 : Option Value} {x : Int32} {o9 : Option Value × pj_Mem} : pj_Ends 106 (36, a0 :: some (.int x) :: l, st, M) o9 = pj_Ends 106 (37, a0 :: some (.int x) :: l, .int x :: st, M) o9 := pj_xs (s106_36)
theorem q106_37 : pj_row 106 37 = some (.iadd, 1, 0, 0, 0) := by decide +kernel
theorem s106_37 {L : pj_Loc} {st : List Value} {M : pj_Mem} {x y : Int32} : pj_step 106 (37, L, .int y :: .int x :: st, M) = some (38, L, .int (x + y) :: st, M) := st_iadd q106_37
theorem x106_37 {L : pj_Loc} {st : List Value} {M : pj_Mem} {x y : Int32} {o9 : Option Value × pj_Mem} : pj_Ends 106 (37, L, .int y :: .int x :: st, M) o9 = pj_Ends 106 (38, L, .int (x + y) :: st, M) o9 := pj_xs (s106_37)
theorem q106_38 : pj_row 106 38 = some (.iaload, 1, 0, 0, 0) := by decide +kernel
theorem s106_38 {L : pj_Loc} {st : List Value} {N S : Nat} {H : pj_Heap} {o : Nat} {i : Int32} : pj_step 106 (38, L, .int i :: .ref o :: st, (N, S, H)) = pj_pi 39 L st (N, S, H) (pj_arl (H o) 0 i) := st_iaload q106_38
theorem x106_38 {L : pj_Loc} {st : List Value} {N S : Nat} {H : pj_Heap} {o : Nat} {i : Int32} {o9 : Option Value × pj_Mem} : pj_Ends 106 (38, L, .int i :: .ref o :: st, (N, S, H)) o9 = pj_then 106 o9 (pj_pi 39 L st (N, S, H) (pj_arl (H o) 0 i)) := pj_xt q106_38 rfl (pj_cl_nc rfl) (s106_38)
theorem q106_39 : pj_row 106 39 = some (.goto 5, 3, 44, 0, 0) := by decide +kernel
theorem s106_39 {L : pj_Loc} {st : List Value} {M : pj_Mem}  : pj_step 106 (39, L, st, M) = some (44, L, st, M) := st_goto q106_39
theorem x106_39 {L : pj_Loc} {st : List Value} {M : pj_Mem}  {o9 : Option Value × pj_Mem} : pj_Ends 106 (39, L, st, M) o9 = pj_Ends 106 (44, L, st, M) o9 := pj_xs (s106_39)
theorem q106_42 : pj_row 106 42 = some (.bipush (-2), 2, 0, 0, 0) := by decide +kernel
theorem s106_42 {L : pj_Loc} {st : List Value} {M : pj_Mem}  : pj_step 106 (42, L, st, M) = some (44, L, .int (-2) :: st, M) := st_bipush q106_42 (by decide +kernel)
theorem x106_42 {L : pj_Loc} {st : List Value} {M : pj_Mem}  {o9 : Option Value × pj_Mem} : pj_Ends 106 (42, L, st, M) o9 = pj_Ends 106 (44, L, .int (-2) :: st, M) o9 := pj_xs (s106_42)
theorem q106_44 : pj_row 106 44 = some (.ireturn, 1, 0, 0, 0) := by decide +kernel
theorem t106_44 {L : pj_Loc} {M : pj_Mem} {v : Int32} : pj_Ends 106 (44, L, [.int v], M) (some (.int v), M) := pj_Ends.ret q106_44 (pj_rtn_i rt106)
theorem rt107 : pj_rt 107 = some .int := rfl
theorem q107_0 : pj_row 107 0 = some (.iload_n 1, 1, 0, 0, 0) := by decide +kernel
theorem s107_0 {st : List Value} {M : pj_Mem} {l : pj_Loc} {a0 : Option Value} {x : Int32} : pj_step 107 (0, a0 :: some (.int x) :: l, st, M) = some (1, a0 :: some (.int x) :: l, .int x :: st, M) := st_iload_n q107_0 rfl
theorem x107_0 {st : List Value} {M : pj_Mem} {l : pj_Loc} {a0 : Option Value} {x : Int32} {o9 : Option Value × pj_Mem} : pj_Ends 107 (0, a0 :: some (.int x) :: l, st, M) o9 = pj_Ends 107 (1, a0 :: some (.int x) :: l, .int x :: st, M) o9 := pj_xs (s107_0)
theorem q107_1 : pj_row 107 1 = some (.i2l, 1, 0, 0, 0) := by decide +kernel
theorem s107_1 {L : pj_Loc} {st : List Value} {M : pj_Mem} {x : Int32} : pj_step 107 (1, L, .int x :: st, M) = some (2, L, .long x.toInt64 :: st, M) := st_i2l q107_1
theorem x107_1 {L : pj_Loc} {st : List Value} {M : pj_Mem} {x : Int32} {o9 : Option Value × pj_Mem} : pj_Ends 107 (1, L, .int x :: st, M) o9 = pj_Ends 107 (2, L, .long x.toInt64 :: st, M) o9 := pj_xs (s107_1)
theorem q107_2 : pj_row 107 2 = some (.lconst 0, 1, 0, 0, 0) := by decide +kernel
theorem s107_2 {L : pj_Loc} {st : List Value} {M : pj_Mem}  : pj_step 107 (2, L, st, M) = some (3, L, .long 0 :: st, M) := st_lconst q107_2 (by decide +kernel)
theorem x107_2 {L : pj_Loc} {st : List Value} {M : pj_Mem}  {o9 : Option Value × pj_Mem} : pj_Ends 107 (2, L, st, M) o9 = pj_Ends 107 (3, L, .long 0 :: st, M) o9 := pj_xs (s107_2)
theorem q107_3 : pj_row 107 3 = some (.aload_n 0, 1, 0, 0, 0) := by decide +kernel
theorem s107_3 {st : List Value} {M : pj_Mem} {l : pj_Loc} {x : Nat} : pj_step 107 (3, some (.ref x) :: l, st, M) = some (4, some (.ref x) :: l, .ref x :: st, M) := st_aload_n q107_3 rfl
theorem x107_3 {st : List Value} {M : pj_Mem} {l : pj_Loc} {x : Nat} {o9 : Option Value × pj_Mem} : pj_Ends 107 (3, some (.ref x) :: l, st, M) o9 = pj_Ends 107 (4, some (.ref x) :: l, .ref x :: st, M) o9 := pj_xs (s107_3)
theorem q107_4 : pj_row 107 4 = some (.getfield 7, 3, 6, 0, 0) := by decide +kernel
theorem s107_4 {L : pj_Loc} {st : List Value} {N S : Nat} {H : pj_Heap} {o : Nat} : pj_step 107 (4, L, .ref o :: st, (N, S, H)) = pj_pv 7 L st (N, S, H) (pj_fld (H o) 6 0) := st_getfield q107_4
theorem x107_4 {L : pj_Loc} {st : List Value} {N S : Nat} {H : pj_Heap} {o : Nat} {o9 : Option Value × pj_Mem} : pj_Ends 107 (4, L, .ref o :: st, (N, S, H)) o9 = pj_then 107 o9 (pj_pv 7 L st (N, S, H) (pj_fld (H o) 6 0)) := pj_xt q107_4 rfl (pj_cl_nc rfl) (s107_4)
theorem q107_7 : pj_row 107 7 = some (.bipush 30, 2, 0, 0, 0) := by decide +kernel
theorem s107_7 {L : pj_Loc} {st : List Value} {M : pj_Mem}  : pj_step 107 (7, L, st, M) = some (9, L, .int 30 :: st, M) := st_bipush q107_7 (by decide +kernel)
theorem x107_7 {L : pj_Loc} {st : List Value} {M : pj_Mem}  {o9 : Option Value × pj_Mem} : pj_Ends 107 (7, L, st, M) o9 = pj_Ends 107 (9, L, .int 30 :: st, M) o9 := pj_xs (s107_7)
theorem q107_9 : pj_row 107 9 = some (.iaload, 1, 0, 0, 0) := by decide +kernel
theorem s107_9 {L : pj_Loc} {st : List Value} {N S : Nat} {H : pj_Heap} {o : Nat} {i : Int32} : pj_step 107 (9, L, .int i :: .ref o :: st, (N, S, H)) = pj_pi 10 L st (N, S, H) (pj_arl (H o) 0 i) := st_iaload q107_9
theorem x107_9 {L : pj_Loc} {st : List Value} {N S : Nat} {H : pj_Heap} {o : Nat} {i : Int32} {o9 : Option Value × pj_Mem} : pj_Ends 107 (9, L, .int i :: .ref o :: st, (N, S, H)) o9 = pj_then 107 o9 (pj_pi 10 L st (N, S, H) (pj_arl (H o) 0 i)) := pj_xt q107_9 rfl (pj_cl_nc rfl) (s107_9)
theorem q107_10 : pj_row 107 10 = some (.i2l, 1, 0, 0, 0) := by decide +kernel
theorem s107_10 {L : pj_Loc} {st : List Value} {M : pj_Mem} {x : Int32} : pj_step 107 (10, L, .int x :: st, M) = some (11, L, .long x.toInt64 :: st, M) := st_i2l q107_10
theorem x107_10 {L : pj_Loc} {st : List Value} {M : pj_Mem} {x : Int32} {o9 : Option Value × pj_Mem} : pj_Ends 107 (10, L, .int x :: st, M) o9 = pj_Ends 107 (11, L, .long x.toInt64 :: st, M) o9 := pj_xs (s107_10)
theorem q107_11 : pj_row 107 11 = some (.lconst 1, 1, 0, 0, 0) := by decide +kernel
theorem s107_11 {L : pj_Loc} {st : List Value} {M : pj_Mem}  : pj_step 107 (11, L, st, M) = some (12, L, .long 1 :: st, M) := st_lconst q107_11 (by decide +kernel)
theorem x107_11 {L : pj_Loc} {st : List Value} {M : pj_Mem}  {o9 : Option Value × pj_Mem} : pj_Ends 107 (11, L, st, M) o9 = pj_Ends 107 (12, L, .long 1 :: st, M) o9 := pj_xs (s107_11)
theorem q107_12 : pj_row 107 12 = some (.lsub, 1, 0, 0, 0) := by decide +kernel
theorem s107_12 {L : pj_Loc} {st : List Value} {M : pj_Mem} {x y : Int64} : pj_step 107 (12, L, .long y :: .long x :: st, M) = some (13, L, .long (x - y) :: st, M) := st_lsub q107_12
theorem x107_12 {L : pj_Loc} {st : List Value} {M : pj_Mem} {x y : Int64} {o9 : Option Value × pj_Mem} : pj_Ends 107 (12, L, .long y :: .long x :: st, M) o9 = pj_Ends 107 (13, L, .long (x - y) :: st, M) o9 := pj_xs (s107_12)
theorem q107_13 : pj_row 107 13 = some (.invokestatic 42, 3, 77, 3, 0) := by decide +kernel
theorem e107_13 {L : pj_Loc} {st : List Value} {N S : Nat} {H : pj_Heap} {o : Option Value × pj_Mem} {M' : pj_Mem} {x0 : Int64} {x1 : Int64} {x2 : Int64} {r : Int32} (h4 : pj_le4 st = true) (h1 : pj_Ends 77 (0, [some (.long x0), none, some (.long x1), none, some (.long x2), none], [], (N, S, H)) (some (.int r), M')) (h2 : pj_Ends 107 (16, L, .int r :: st, M') o) : pj_Ends 107 (13, L, .long x2 :: .long x1 :: .long x0 :: st, (N, S, H)) o := ec_s3 q107_13 (Or.inl rfl) h4 rfl h1 h2
theorem q107_16 : pj_row 107 16 = some (.ifCond .ne 5, 3, 21, 0, 0) := by decide +kernel
theorem s107_16 {L : pj_Loc} {st : List Value} {M : pj_Mem} {x : Int32} : pj_step 107 (16, L, .int x :: st, M) = some (if ¬ x = 0 then 21 else 19, L, st, M) := st_if_ne q107_16
theorem x107_16 {L : pj_Loc} {st : List Value} {M : pj_Mem} {x : Int32} {o9 : Option Value × pj_Mem} : pj_Ends 107 (16, L, .int x :: st, M) o9 = pj_Ends 107 (if ¬ x = 0 then 21 else 19, L, st, M) o9 := pj_xs (s107_16)
theorem q107_19 : pj_row 107 19 = some (.iconst (-1), 1, 0, 0, 0) := by decide +kernel
theorem s107_19 {L : pj_Loc} {st : List Value} {M : pj_Mem}  : pj_step 107 (19, L, st, M) = some (20, L, .int (-1) :: st, M) := st_iconst q107_19 (by decide +kernel)
theorem x107_19 {L : pj_Loc} {st : List Value} {M : pj_Mem}  {o9 : Option Value × pj_Mem} : pj_Ends 107 (19, L, st, M) o9 = pj_Ends 107 (20, L, .int (-1) :: st, M) o9 := pj_xs (s107_19)
theorem q107_20 : pj_row 107 20 = some (.ireturn, 1, 0, 0, 0) := by decide +kernel
theorem t107_20 {L : pj_Loc} {M : pj_Mem} {v : Int32} : pj_Ends 107 (20, L, [.int v], M) (some (.int v), M) := pj_Ends.ret q107_20 (pj_rtn_i rt107)
theorem q107_21 : pj_row 107 21 = some (.iload_n 2, 1, 0, 0, 0) := by decide +kernel
theorem s107_21 {st : List Value} {M : pj_Mem} {l : pj_Loc} {a0 a1 : Option Value} {x : Int32} : pj_step 107 (21, a0 :: a1 :: some (.int x) :: l, st, M) = some (22, a0 :: a1 :: some (.int x) :: l, .int x :: st, M) := st_iload_n q107_21 rfl
theorem x107_21 {st : List Value} {M : pj_Mem} {l : pj_Loc} {a0 a1 : Option Value} {x : Int32} {o9 : Option Value × pj_Mem} : pj_Ends 107 (21, a0 :: a1 :: some (.int x) :: l, st, M) o9 = pj_Ends 107 (22, a0 :: a1 :: some (.int x) :: l, .int x :: st, M) o9 := pj_xs (s107_21)
theorem q107_22 : pj_row 107 22 = some (.i2l, 1, 0, 0, 0) := by decide +kernel
theorem s107_22 {L : pj_Loc} {st : List Value} {M : pj_Mem} {x : Int32} : pj_step 107 (22, L, .int x :: st, M) = some (23, L, .long x.toInt64 :: st, M) := st_i2l q107_22
theorem x107_22 {L : pj_Loc} {st : List Value} {M : pj_Mem} {x : Int32} {o9 : Option Value × pj_Mem} : pj_Ends 107 (22, L, .int x :: st, M) o9 = pj_Ends 107 (23, L, .long x.toInt64 :: st, M) o9 := pj_xs (s107_22)
theorem q107_23 : pj_row 107 23 = some (.lconst 0, 1, 0, 0, 0) := by decide +kernel
theorem s107_23 {L : pj_Loc} {st : List Value} {M : pj_Mem}  : pj_step 107 (23, L, st, M) = some (24, L, .long 0 :: st, M) := st_lconst q107_23 (by decide +kernel)
theorem x107_23 {L : pj_Loc} {st : List Value} {M : pj_Mem}  {o9 : Option Value × pj_Mem} : pj_Ends 107 (23, L, st, M) o9 = pj_Ends 107 (24, L, .long 0 :: st, M) o9 := pj_xs (s107_23)
theorem q107_24 : pj_row 107 24 = some (.ldc2_w 146, 3, 0, 0, 9) := by decide +kernel
theorem s107_24 {L : pj_Loc} {st : List Value} {M : pj_Mem}  : pj_step 107 (24, L, st, M) = some (27, L, .long 9 :: st, M) := st_ldc2_w q107_24 (by decide +kernel)
theorem x107_24 {L : pj_Loc} {st : List Value} {M : pj_Mem}  {o9 : Option Value × pj_Mem} : pj_Ends 107 (24, L, st, M) o9 = pj_Ends 107 (27, L, .long 9 :: st, M) o9 := pj_xs (s107_24)
theorem q107_27 : pj_row 107 27 = some (.invokestatic 42, 3, 77, 3, 0) := by decide +kernel
theorem e107_27 {L : pj_Loc} {st : List Value} {N S : Nat} {H : pj_Heap} {o : Option Value × pj_Mem} {M' : pj_Mem} {x0 : Int64} {x1 : Int64} {x2 : Int64} {r : Int32} (h4 : pj_le4 st = true) (h1 : pj_Ends 77 (0, [some (.long x0), none, some (.long x1), none, some (.long x2), none], [], (N, S, H)) (some (.int r), M')) (h2 : pj_Ends 107 (30, L, .int r :: st, M') o) : pj_Ends 107 (27, L, .long x2 :: .long x1 :: .long x0 :: st, (N, S, H)) o := ec_s3 q107_27 (Or.inl rfl) h4 rfl h1 h2
theorem q107_30 : pj_row 107 30 = some (.ifCond .eq 20, 3, 50, 0, 0) := by decide +kernel
theorem s107_30 {L : pj_Loc} {st : List Value} {M : pj_Mem} {x : Int32} : pj_step 107 (30, L, .int x :: st, M) = some (if x = 0 then 50 else 33, L, st, M) := st_if_eq q107_30
theorem x107_30 {L : pj_Loc} {st : List Value} {M : pj_Mem} {x : Int32} {o9 : Option Value × pj_Mem} : pj_Ends 107 (30, L, .int x :: st, M) o9 = pj_Ends 107 (if x = 0 then 50 else 33, L, st, M) o9 := pj_xs (s107_30)
theorem q107_33 : pj_row 107 33 = some (.aload_n 0, 1, 0, 0, 0) := by decide +kernel
theorem s107_33 {st : List Value} {M : pj_Mem} {l : pj_Loc} {x : Nat} : pj_step 107 (33, some (.ref x) :: l, st, M) = some (34, some (.ref x) :: l, .ref x :: st, M) := st_aload_n q107_33 rfl
theorem x107_33 {st : List Value} {M : pj_Mem} {l : pj_Loc} {x : Nat} {o9 : Option Value × pj_Mem} : pj_Ends 107 (33, some (.ref x) :: l, st, M) o9 = pj_Ends 107 (34, some (.ref x) :: l, .ref x :: st, M) o9 := pj_xs (s107_33)
theorem q107_34 : pj_row 107 34 = some (.getfield 7, 3, 6, 0, 0) := by decide +kernel
theorem s107_34 {L : pj_Loc} {st : List Value} {N S : Nat} {H : pj_Heap} {o : Nat} : pj_step 107 (34, L, .ref o :: st, (N, S, H)) = pj_pv 37 L st (N, S, H) (pj_fld (H o) 6 0) := st_getfield q107_34
theorem x107_34 {L : pj_Loc} {st : List Value} {N S : Nat} {H : pj_Heap} {o : Nat} {o9 : Option Value × pj_Mem} : pj_Ends 107 (34, L, .ref o :: st, (N, S, H)) o9 = pj_then 107 o9 (pj_pv 37 L st (N, S, H) (pj_fld (H o) 6 0)) := pj_xt q107_34 rfl (pj_cl_nc rfl) (s107_34)
theorem q107_37 : pj_row 107 37 = some (.bipush 31, 2, 0, 0, 0) := by decide +kernel
theorem s107_37 {L : pj_Loc} {st : List Value} {M : pj_Mem}  : pj_step 107 (37, L, st, M) = some (39, L, .int 31 :: st, M) := st_bipush q107_37 (by decide +kernel)
theorem x107_37 {L : pj_Loc} {st : List Value} {M : pj_Mem}  {o9 : Option Value × pj_Mem} : pj_Ends 107 (37, L, st, M) o9 = pj_Ends 107 (39, L, .int 31 :: st, M) o9 := pj_xs (s107_37)
theorem q107_39 : pj_row 107 39 = some (.bipush 10, 2, 0, 0, 0) := by decide +kernel
theorem s107_39 {L : pj_Loc} {st : List Value} {M : pj_Mem}  : pj_step 107 (39, L, st, M) = some (41, L, .int 10 :: st, M) := st_bipush q107_39 (by decide +kernel)
theorem x107_39 {L : pj_Loc} {st : List Value} {M : pj_Mem}  {o9 : Option Value × pj_Mem} : pj_Ends 107 (39, L, st, M) o9 = pj_Ends 107 (41, L, .int 10 :: st, M) o9 := pj_xs (s107_39)
theorem q107_41 : pj_row 107 41 = some (.iload_n 1, 1, 0, 0, 0) := by decide +kernel
theorem s107_41 {st : List Value} {M : pj_Mem} {l : pj_Loc} {a0 : Option Value} {x : Int32} : pj_step 107 (41, a0 :: some (.int x) :: l, st, M) = some (42, a0 :: some (.int x) :: l, .int x :: st, M) := st_iload_n q107_41 rfl
theorem x107_41 {st : List Value} {M : pj_Mem} {l : pj_Loc} {a0 : Option Value} {x : Int32} {o9 : Option Value × pj_Mem} : pj_Ends 107 (41, a0 :: some (.int x) :: l, st, M) o9 = pj_Ends 107 (42, a0 :: some (.int x) :: l, .int x :: st, M) o9 := pj_xs (s107_41)
theorem q107_42 : pj_row 107 42 = some (.imul, 1, 0, 0, 0) := by decide +kernel
theorem s107_42 {L : pj_Loc} {st : List Value} {M : pj_Mem} {x y : Int32} : pj_step 107 (42, L, .int y :: .int x :: st, M) = some (43, L, .int (x * y) :: st, M) := st_imul q107_42
theorem x107_42 {L : pj_Loc} {st : List Value} {M : pj_Mem} {x y : Int32} {o9 : Option Value × pj_Mem} : pj_Ends 107 (42, L, .int y :: .int x :: st, M) o9 = pj_Ends 107 (43, L, .int (x * y) :: st, M) o9 := pj_xs (s107_42)
theorem q107_43 : pj_row 107 43 = some (.iadd, 1, 0, 0, 0) := by decide +kernel
theorem s107_43 {L : pj_Loc} {st : List Value} {M : pj_Mem} {x y : Int32} : pj_step 107 (43, L, .int y :: .int x :: st, M) = some (44, L, .int (x + y) :: st, M) := st_iadd q107_43
theorem x107_43 {L : pj_Loc} {st : List Value} {M : pj_Mem} {x y : Int32} {o9 : Option Value × pj_Mem} : pj_Ends 107 (43, L, .int y :: .int x :: st, M) o9 = pj_Ends 107 (44, L, .int (x + y) :: st, M) o9 := pj_xs (s107_43)
theorem q107_44 : pj_row 107 44 = some (.iload_n 2, 1, 0, 0, 0) := by decide +kernel
theorem s107_44 {st : List Value} {M : pj_Mem} {l : pj_Loc} {a0 a1 : Option Value} {x : Int32} : pj_step 107 (44, a0 :: a1 :: some (.int x) :: l, st, M) = some (45, a0 :: a1 :: some (.int x) :: l, .int x :: st, M) := st_iload_n q107_44 rfl
theorem x107_44 {st : List Value} {M : pj_Mem} {l : pj_Loc} {a0 a1 : Option Value} {x : Int32} {o9 : Option Value × pj_Mem} : pj_Ends 107 (44, a0 :: a1 :: some (.int x) :: l, st, M) o9 = pj_Ends 107 (45, a0 :: a1 :: some (.int x) :: l, .int x :: st, M) o9 := pj_xs (s107_44)
theorem q107_45 : pj_row 107 45 = some (.iadd, 1, 0, 0, 0) := by decide +kernel
theorem s107_45 {L : pj_Loc} {st : List Value} {M : pj_Mem} {x y : Int32} : pj_step 107 (45, L, .int y :: .int x :: st, M) = some (46, L, .int (x + y) :: st, M) := st_iadd q107_45
theorem x107_45 {L : pj_Loc} {st : List Value} {M : pj_Mem} {x y : Int32} {o9 : Option Value × pj_Mem} : pj_Ends 107 (45, L, .int y :: .int x :: st, M) o9 = pj_Ends 107 (46, L, .int (x + y) :: st, M) o9 := pj_xs (s107_45)
theorem q107_46 : pj_row 107 46 = some (.iaload, 1, 0, 0, 0) := by decide +kernel
theorem s107_46 {L : pj_Loc} {st : List Value} {N S : Nat} {H : pj_Heap} {o : Nat} {i : Int32} : pj_step 107 (46, L, .int i :: .ref o :: st, (N, S, H)) = pj_pi 47 L st (N, S, H) (pj_arl (H o) 0 i) := st_iaload q107_46
theorem x107_46 {L : pj_Loc} {st : List Value} {N S : Nat} {H : pj_Heap} {o : Nat} {i : Int32} {o9 : Option Value × pj_Mem} : pj_Ends 107 (46, L, .int i :: .ref o :: st, (N, S, H)) o9 = pj_then 107 o9 (pj_pi 47 L st (N, S, H) (pj_arl (H o) 0 i)) := pj_xt q107_46 rfl (pj_cl_nc rfl) (s107_46)
theorem q107_47 : pj_row 107 47 = some (.goto 5, 3, 52, 0, 0) := by decide +kernel
theorem s107_47 {L : pj_Loc} {st : List Value} {M : pj_Mem}  : pj_step 107 (47, L, st, M) = some (52, L, st, M) := st_goto q107_47
theorem x107_47 {L : pj_Loc} {st : List Value} {M : pj_Mem}  {o9 : Option Value × pj_Mem} : pj_Ends 107 (47, L, st, M) o9 = pj_Ends 107 (52, L, st, M) o9 := pj_xs (s107_47)
theorem q107_50 : pj_row 107 50 = some (.bipush (-2), 2, 0, 0, 0) := by decide +kernel
theorem s107_50 {L : pj_Loc} {st : List Value} {M : pj_Mem}  : pj_step 107 (50, L, st, M) = some (52, L, .int (-2) :: st, M) := st_bipush q107_50 (by decide +kernel)
theorem x107_50 {L : pj_Loc} {st : List Value} {M : pj_Mem}  {o9 : Option Value × pj_Mem} : pj_Ends 107 (50, L, st, M) o9 = pj_Ends 107 (52, L, .int (-2) :: st, M) o9 := pj_xs (s107_50)
theorem q107_52 : pj_row 107 52 = some (.ireturn, 1, 0, 0, 0) := by decide +kernel
theorem t107_52 {L : pj_Loc} {M : pj_Mem} {v : Int32} : pj_Ends 107 (52, L, [.int v], M) (some (.int v), M) := pj_Ends.ret q107_52 (pj_rtn_i rt107)
theorem rt108 : pj_rt 108 = some .int := rfl
theorem q108_0 : pj_row 108 0 = some (.iload_n 1, 1, 0, 0, 0) := by decide +kernel
theorem s108_0 {st : List Value} {M : pj_Mem} {l : pj_Loc} {a0 : Option Value} {x : Int32} : pj_step 108 (0, a0 :: some (.int x) :: l, st, M) = some (1, a0 :: some (.int x) :: l, .int x :: st, M) := st_iload_n q108_0 rfl
theorem x108_0 {st : List Value} {M : pj_Mem} {l : pj_Loc} {a0 : Option Value} {x : Int32} {o9 : Option Value × pj_Mem} : pj_Ends 108 (0, a0 :: some (.int x) :: l, st, M) o9 = pj_Ends 108 (1, a0 :: some (.int x) :: l, .int x :: st, M) o9 := pj_xs (s108_0)
theorem q108_1 : pj_row 108 1 = some (.i2l, 1, 0, 0, 0) := by decide +kernel
theorem s108_1 {L : pj_Loc} {st : List Value} {M : pj_Mem} {x : Int32} : pj_step 108 (1, L, .int x :: st, M) = some (2, L, .long x.toInt64 :: st, M) := st_i2l q108_1
theorem x108_1 {L : pj_Loc} {st : List Value} {M : pj_Mem} {x : Int32} {o9 : Option Value × pj_Mem} : pj_Ends 108 (1, L, .int x :: st, M) o9 = pj_Ends 108 (2, L, .long x.toInt64 :: st, M) o9 := pj_xs (s108_1)
theorem q108_2 : pj_row 108 2 = some (.ldc2_w 148, 3, 0, 0, 8) := by decide +kernel
theorem s108_2 {L : pj_Loc} {st : List Value} {M : pj_Mem}  : pj_step 108 (2, L, st, M) = some (5, L, .long 8 :: st, M) := st_ldc2_w q108_2 (by decide +kernel)
theorem x108_2 {L : pj_Loc} {st : List Value} {M : pj_Mem}  {o9 : Option Value × pj_Mem} : pj_Ends 108 (2, L, st, M) o9 = pj_Ends 108 (5, L, .long 8 :: st, M) o9 := pj_xs (s108_2)
theorem q108_5 : pj_row 108 5 = some (.ldc2_w 150, 3, 0, 0, 13) := by decide +kernel
theorem s108_5 {L : pj_Loc} {st : List Value} {M : pj_Mem}  : pj_step 108 (5, L, st, M) = some (8, L, .long 13 :: st, M) := st_ldc2_w q108_5 (by decide +kernel)
theorem x108_5 {L : pj_Loc} {st : List Value} {M : pj_Mem}  {o9 : Option Value × pj_Mem} : pj_Ends 108 (5, L, st, M) o9 = pj_Ends 108 (8, L, .long 13 :: st, M) o9 := pj_xs (s108_5)
theorem q108_8 : pj_row 108 8 = some (.invokestatic 42, 3, 77, 3, 0) := by decide +kernel
theorem e108_8 {L : pj_Loc} {st : List Value} {N S : Nat} {H : pj_Heap} {o : Option Value × pj_Mem} {M' : pj_Mem} {x0 : Int64} {x1 : Int64} {x2 : Int64} {r : Int32} (h4 : pj_le4 st = true) (h1 : pj_Ends 77 (0, [some (.long x0), none, some (.long x1), none, some (.long x2), none], [], (N, S, H)) (some (.int r), M')) (h2 : pj_Ends 108 (11, L, .int r :: st, M') o) : pj_Ends 108 (8, L, .long x2 :: .long x1 :: .long x0 :: st, (N, S, H)) o := ec_s3 q108_8 (Or.inl rfl) h4 rfl h1 h2
theorem q108_11 : pj_row 108 11 = some (.ifCond .eq 13, 3, 24, 0, 0) := by decide +kernel
theorem s108_11 {L : pj_Loc} {st : List Value} {M : pj_Mem} {x : Int32} : pj_step 108 (11, L, .int x :: st, M) = some (if x = 0 then 24 else 14, L, st, M) := st_if_eq q108_11
theorem x108_11 {L : pj_Loc} {st : List Value} {M : pj_Mem} {x : Int32} {o9 : Option Value × pj_Mem} : pj_Ends 108 (11, L, .int x :: st, M) o9 = pj_Ends 108 (if x = 0 then 24 else 14, L, st, M) o9 := pj_xs (s108_11)
theorem q108_14 : pj_row 108 14 = some (.aload_n 0, 1, 0, 0, 0) := by decide +kernel
theorem s108_14 {st : List Value} {M : pj_Mem} {l : pj_Loc} {x : Nat} : pj_step 108 (14, some (.ref x) :: l, st, M) = some (15, some (.ref x) :: l, .ref x :: st, M) := st_aload_n q108_14 rfl
theorem x108_14 {st : List Value} {M : pj_Mem} {l : pj_Loc} {x : Nat} {o9 : Option Value × pj_Mem} : pj_Ends 108 (14, some (.ref x) :: l, st, M) o9 = pj_Ends 108 (15, some (.ref x) :: l, .ref x :: st, M) o9 := pj_xs (s108_14)
theorem q108_15 : pj_row 108 15 = some (.getfield 7, 3, 6, 0, 0) := by decide +kernel
theorem s108_15 {L : pj_Loc} {st : List Value} {N S : Nat} {H : pj_Heap} {o : Nat} : pj_step 108 (15, L, .ref o :: st, (N, S, H)) = pj_pv 18 L st (N, S, H) (pj_fld (H o) 6 0) := st_getfield q108_15
theorem x108_15 {L : pj_Loc} {st : List Value} {N S : Nat} {H : pj_Heap} {o : Nat} {o9 : Option Value × pj_Mem} : pj_Ends 108 (15, L, .ref o :: st, (N, S, H)) o9 = pj_then 108 o9 (pj_pv 18 L st (N, S, H) (pj_fld (H o) 6 0)) := pj_xt q108_15 rfl (pj_cl_nc rfl) (s108_15)
theorem q108_18 : pj_row 108 18 = some (.iload_n 1, 1, 0, 0, 0) := by decide +kernel
theorem s108_18 {st : List Value} {M : pj_Mem} {l : pj_Loc} {a0 : Option Value} {x : Int32} : pj_step 108 (18, a0 :: some (.int x) :: l, st, M) = some (19, a0 :: some (.int x) :: l, .int x :: st, M) := st_iload_n q108_18 rfl
theorem x108_18 {st : List Value} {M : pj_Mem} {l : pj_Loc} {a0 : Option Value} {x : Int32} {o9 : Option Value × pj_Mem} : pj_Ends 108 (18, a0 :: some (.int x) :: l, st, M) o9 = pj_Ends 108 (19, a0 :: some (.int x) :: l, .int x :: st, M) o9 := pj_xs (s108_18)
theorem q108_19 : pj_row 108 19 = some (.bipush 8, 2, 0, 0, 0) := by decide +kernel
theorem s108_19 {L : pj_Loc} {st : List Value} {M : pj_Mem}  : pj_step 108 (19, L, st, M) = some (21, L, .int 8 :: st, M) := st_bipush q108_19 (by decide +kernel)
theorem x108_19 {L : pj_Loc} {st : List Value} {M : pj_Mem}  {o9 : Option Value × pj_Mem} : pj_Ends 108 (19, L, st, M) o9 = pj_Ends 108 (21, L, .int 8 :: st, M) o9 := pj_xs (s108_19)
theorem q108_21 : pj_row 108 21 = some (.isub, 1, 0, 0, 0) := by decide +kernel
theorem s108_21 {L : pj_Loc} {st : List Value} {M : pj_Mem} {x y : Int32} : pj_step 108 (21, L, .int y :: .int x :: st, M) = some (22, L, .int (x - y) :: st, M) := st_isub q108_21
theorem x108_21 {L : pj_Loc} {st : List Value} {M : pj_Mem} {x y : Int32} {o9 : Option Value × pj_Mem} : pj_Ends 108 (21, L, .int y :: .int x :: st, M) o9 = pj_Ends 108 (22, L, .int (x - y) :: st, M) o9 := pj_xs (s108_21)
theorem q108_22 : pj_row 108 22 = some (.iaload, 1, 0, 0, 0) := by decide +kernel
theorem s108_22 {L : pj_Loc} {st : List Value} {N S : Nat} {H : pj_Heap} {o : Nat} {i : Int32} : pj_step 108 (22, L, .int i :: .ref o :: st, (N, S, H)) = pj_pi 23 L st (N, S, H) (pj_arl (H o) 0 i) := st_iaload q108_22
theorem x108_22 {L : pj_Loc} {st : List Value} {N S : Nat} {H : pj_Heap} {o : Nat} {i : Int32} {o9 : Option Value × pj_Mem} : pj_Ends 108 (22, L, .int i :: .ref o :: st, (N, S, H)) o9 = pj_then 108 o9 (pj_pi 23 L st (N, S, H) (pj_arl (H o) 0 i)) := pj_xt q108_22 rfl (pj_cl_nc rfl) (s108_22)
theorem q108_23 : pj_row 108 23 = some (.ireturn, 1, 0, 0, 0) := by decide +kernel
theorem t108_23 {L : pj_Loc} {M : pj_Mem} {v : Int32} : pj_Ends 108 (23, L, [.int v], M) (some (.int v), M) := pj_Ends.ret q108_23 (pj_rtn_i rt108)
theorem q108_24 : pj_row 108 24 = some (.iload_n 1, 1, 0, 0, 0) := by decide +kernel
theorem s108_24 {st : List Value} {M : pj_Mem} {l : pj_Loc} {a0 : Option Value} {x : Int32} : pj_step 108 (24, a0 :: some (.int x) :: l, st, M) = some (25, a0 :: some (.int x) :: l, .int x :: st, M) := st_iload_n q108_24 rfl
theorem x108_24 {st : List Value} {M : pj_Mem} {l : pj_Loc} {a0 : Option Value} {x : Int32} {o9 : Option Value × pj_Mem} : pj_Ends 108 (24, a0 :: some (.int x) :: l, st, M) o9 = pj_Ends 108 (25, a0 :: some (.int x) :: l, .int x :: st, M) o9 := pj_xs (s108_24)
theorem q108_25 : pj_row 108 25 = some (.tableswitch 149 0 15 #[79, 87, 95, 100, 105, 110, 118, 126, 149, 149, 149, 149, 149, 149, 139, 144], 79, 0, 0, 0) := by decide +kernel
theorem s108_25 {L : pj_Loc} {st : List Value} {M : pj_Mem} {x : Int32} : pj_step 108 (25, L, .int x :: st, M) = some (if x = 0 then 104 else if x = 1 then 112 else if x = 2 then 120 else if x = 3 then 125 else if x = 4 then 130 else if x = 5 then 135 else if x = 6 then 143 else if x = 7 then 151 else if x = 8 then 174 else if x = 9 then 174 else if x = 10 then 174 else if x = 11 then 174 else if x = 12 then 174 else if x = 13 then 174 else if x = 14 then 164 else if x = 15 then 169 else 174, L, st, M) := by
  rw [st_tsw q108_25]
  unfold pj_tsw
  by_cases hr : x.toInt < 0 ∨ 15 < x.toInt
  · simp only
    rw [if_pos hr]
    rw [if_neg (show ¬ x = 0 from fun e => by rw [e] at hr; revert hr; decide)]
    rw [if_neg (show ¬ x = 1 from fun e => by rw [e] at hr; revert hr; decide)]
    rw [if_neg (show ¬ x = 2 from fun e => by rw [e] at hr; revert hr; decide)]
    rw [if_neg (show ¬ x = 3 from fun e => by rw [e] at hr; revert hr; decide)]
    rw [if_neg (show ¬ x = 4 from fun e => by rw [e] at hr; revert hr; decide)]
    rw [if_neg (show ¬ x = 5 from fun e => by rw [e] at hr; revert hr; decide)]
    rw [if_neg (show ¬ x = 6 from fun e => by rw [e] at hr; revert hr; decide)]
    rw [if_neg (show ¬ x = 7 from fun e => by rw [e] at hr; revert hr; decide)]
    rw [if_neg (show ¬ x = 8 from fun e => by rw [e] at hr; revert hr; decide)]
    rw [if_neg (show ¬ x = 9 from fun e => by rw [e] at hr; revert hr; decide)]
    rw [if_neg (show ¬ x = 10 from fun e => by rw [e] at hr; revert hr; decide)]
    rw [if_neg (show ¬ x = 11 from fun e => by rw [e] at hr; revert hr; decide)]
    rw [if_neg (show ¬ x = 12 from fun e => by rw [e] at hr; revert hr; decide)]
    rw [if_neg (show ¬ x = 13 from fun e => by rw [e] at hr; revert hr; decide)]
    rw [if_neg (show ¬ x = 14 from fun e => by rw [e] at hr; revert hr; decide)]
    rw [if_neg (show ¬ x = 15 from fun e => by rw [e] at hr; revert hr; decide)]
    rfl
  · have h3 : x.toInt = 0 ∨ x.toInt = 1 ∨ x.toInt = 2 ∨ x.toInt = 3 ∨ x.toInt = 4 ∨ x.toInt = 5 ∨ x.toInt = 6 ∨ x.toInt = 7 ∨ x.toInt = 8 ∨ x.toInt = 9 ∨ x.toInt = 10 ∨ x.toInt = 11 ∨ x.toInt = 12 ∨ x.toInt = 13 ∨ x.toInt = 14 ∨ x.toInt = 15 := by omega
    rcases h3 with h3 | h3 | h3 | h3 | h3 | h3 | h3 | h3 | h3 | h3 | h3 | h3 | h3 | h3 | h3 | h3
    · have e : x = 0 := Int32.toInt_inj.mp (h3.trans (by decide))
      subst e
      rfl
    · have e : x = 1 := Int32.toInt_inj.mp (h3.trans (by decide))
      subst e
      rfl
    · have e : x = 2 := Int32.toInt_inj.mp (h3.trans (by decide))
      subst e
      rfl
    · have e : x = 3 := Int32.toInt_inj.mp (h3.trans (by decide))
      subst e
      rfl
    · have e : x = 4 := Int32.toInt_inj.mp (h3.trans (by decide))
      subst e
      rfl
    · have e : x = 5 := Int32.toInt_inj.mp (h3.trans (by decide))
      subst e
      rfl
    · have e : x = 6 := Int32.toInt_inj.mp (h3.trans (by decide))
      subst e
      rfl
    · have e : x = 7 := Int32.toInt_inj.mp (h3.trans (by decide))
      subst e
      rfl
    · have e : x = 8 := Int32.toInt_inj.mp (h3.trans (by decide))
      subst e
      rfl
    · have e : x = 9 := Int32.toInt_inj.mp (h3.trans (by decide))
      subst e
      rfl
    · have e : x = 10 := Int32.toInt_inj.mp (h3.trans (by decide))
      subst e
      rfl
    · have e : x = 11 := Int32.toInt_inj.mp (h3.trans (by decide))
      subst e
      rfl
    · have e : x = 12 := Int32.toInt_inj.mp (h3.trans (by decide))
      subst e
      rfl
    · have e : x = 13 := Int32.toInt_inj.mp (h3.trans (by decide))
      subst e
      rfl
    · have e : x = 14 := Int32.toInt_inj.mp (h3.trans (by decide))
      subst e
      rfl
    · have e : x = 15 := Int32.toInt_inj.mp (h3.trans (by decide))
      subst e
      rfl
theorem x108_25 {L : pj_Loc} {st : List Value} {M : pj_Mem} {x : Int32} {o9 : Option Value × pj_Mem} : pj_Ends 108 (25, L, .int x :: st, M) o9 = pj_Ends 108 (if x = 0 then 104 else if x = 1 then 112 else if x = 2 then 120 else if x = 3 then 125 else if x = 4 then 130 else if x = 5 then 135 else if x = 6 then 143 else if x = 7 then 151 else if x = 8 then 174 else if x = 9 then 174 else if x = 10 then 174 else if x = 11 then 174 else if x = 12 then 174 else if x = 13 then 174 else if x = 14 then 164 else if x = 15 then 169 else 174, L, st, M) o9 := pj_xs (s108_25)
theorem q108_104 : pj_row 108 104 = some (.aload_n 0, 1, 0, 0, 0) := by decide +kernel
theorem s108_104 {st : List Value} {M : pj_Mem} {l : pj_Loc} {x : Nat} : pj_step 108 (104, some (.ref x) :: l, st, M) = some (105, some (.ref x) :: l, .ref x :: st, M) := st_aload_n q108_104 rfl
theorem x108_104 {st : List Value} {M : pj_Mem} {l : pj_Loc} {x : Nat} {o9 : Option Value × pj_Mem} : pj_Ends 108 (104, some (.ref x) :: l, st, M) o9 = pj_Ends 108 (105, some (.ref x) :: l, .ref x :: st, M) o9 := pj_xs (s108_104)
theorem q108_105 : pj_row 108 105 = some (.getfield 7, 3, 6, 0, 0) := by decide +kernel
theorem s108_105 {L : pj_Loc} {st : List Value} {N S : Nat} {H : pj_Heap} {o : Nat} : pj_step 108 (105, L, .ref o :: st, (N, S, H)) = pj_pv 108 L st (N, S, H) (pj_fld (H o) 6 0) := st_getfield q108_105
theorem x108_105 {L : pj_Loc} {st : List Value} {N S : Nat} {H : pj_Heap} {o : Nat} {o9 : Option Value × pj_Mem} : pj_Ends 108 (105, L, .ref o :: st, (N, S, H)) o9 = pj_then 108 o9 (pj_pv 108 L st (N, S, H) (pj_fld (H o) 6 0)) := pj_xt q108_105 rfl (pj_cl_nc rfl) (s108_105)
theorem q108_108 : pj_row 108 108 = some (.bipush 6, 2, 0, 0, 0) := by decide +kernel
theorem s108_108 {L : pj_Loc} {st : List Value} {M : pj_Mem}  : pj_step 108 (108, L, st, M) = some (110, L, .int 6 :: st, M) := st_bipush q108_108 (by decide +kernel)
theorem x108_108 {L : pj_Loc} {st : List Value} {M : pj_Mem}  {o9 : Option Value × pj_Mem} : pj_Ends 108 (108, L, st, M) o9 = pj_Ends 108 (110, L, .int 6 :: st, M) o9 := pj_xs (s108_108)
theorem q108_110 : pj_row 108 110 = some (.iaload, 1, 0, 0, 0) := by decide +kernel
theorem s108_110 {L : pj_Loc} {st : List Value} {N S : Nat} {H : pj_Heap} {o : Nat} {i : Int32} : pj_step 108 (110, L, .int i :: .ref o :: st, (N, S, H)) = pj_pi 111 L st (N, S, H) (pj_arl (H o) 0 i) := st_iaload q108_110
theorem x108_110 {L : pj_Loc} {st : List Value} {N S : Nat} {H : pj_Heap} {o : Nat} {i : Int32} {o9 : Option Value × pj_Mem} : pj_Ends 108 (110, L, .int i :: .ref o :: st, (N, S, H)) o9 = pj_then 108 o9 (pj_pi 111 L st (N, S, H) (pj_arl (H o) 0 i)) := pj_xt q108_110 rfl (pj_cl_nc rfl) (s108_110)
theorem q108_111 : pj_row 108 111 = some (.ireturn, 1, 0, 0, 0) := by decide +kernel
theorem t108_111 {L : pj_Loc} {M : pj_Mem} {v : Int32} : pj_Ends 108 (111, L, [.int v], M) (some (.int v), M) := pj_Ends.ret q108_111 (pj_rtn_i rt108)
theorem q108_112 : pj_row 108 112 = some (.aload_n 0, 1, 0, 0, 0) := by decide +kernel
theorem s108_112 {st : List Value} {M : pj_Mem} {l : pj_Loc} {x : Nat} : pj_step 108 (112, some (.ref x) :: l, st, M) = some (113, some (.ref x) :: l, .ref x :: st, M) := st_aload_n q108_112 rfl
theorem x108_112 {st : List Value} {M : pj_Mem} {l : pj_Loc} {x : Nat} {o9 : Option Value × pj_Mem} : pj_Ends 108 (112, some (.ref x) :: l, st, M) o9 = pj_Ends 108 (113, some (.ref x) :: l, .ref x :: st, M) o9 := pj_xs (s108_112)
theorem q108_113 : pj_row 108 113 = some (.getfield 7, 3, 6, 0, 0) := by decide +kernel
theorem s108_113 {L : pj_Loc} {st : List Value} {N S : Nat} {H : pj_Heap} {o : Nat} : pj_step 108 (113, L, .ref o :: st, (N, S, H)) = pj_pv 116 L st (N, S, H) (pj_fld (H o) 6 0) := st_getfield q108_113
theorem x108_113 {L : pj_Loc} {st : List Value} {N S : Nat} {H : pj_Heap} {o : Nat} {o9 : Option Value × pj_Mem} : pj_Ends 108 (113, L, .ref o :: st, (N, S, H)) o9 = pj_then 108 o9 (pj_pv 116 L st (N, S, H) (pj_fld (H o) 6 0)) := pj_xt q108_113 rfl (pj_cl_nc rfl) (s108_113)
theorem q108_116 : pj_row 108 116 = some (.bipush 7, 2, 0, 0, 0) := by decide +kernel
theorem s108_116 {L : pj_Loc} {st : List Value} {M : pj_Mem}  : pj_step 108 (116, L, st, M) = some (118, L, .int 7 :: st, M) := st_bipush q108_116 (by decide +kernel)
theorem x108_116 {L : pj_Loc} {st : List Value} {M : pj_Mem}  {o9 : Option Value × pj_Mem} : pj_Ends 108 (116, L, st, M) o9 = pj_Ends 108 (118, L, .int 7 :: st, M) o9 := pj_xs (s108_116)
theorem q108_118 : pj_row 108 118 = some (.iaload, 1, 0, 0, 0) := by decide +kernel
theorem s108_118 {L : pj_Loc} {st : List Value} {N S : Nat} {H : pj_Heap} {o : Nat} {i : Int32} : pj_step 108 (118, L, .int i :: .ref o :: st, (N, S, H)) = pj_pi 119 L st (N, S, H) (pj_arl (H o) 0 i) := st_iaload q108_118
theorem x108_118 {L : pj_Loc} {st : List Value} {N S : Nat} {H : pj_Heap} {o : Nat} {i : Int32} {o9 : Option Value × pj_Mem} : pj_Ends 108 (118, L, .int i :: .ref o :: st, (N, S, H)) o9 = pj_then 108 o9 (pj_pi 119 L st (N, S, H) (pj_arl (H o) 0 i)) := pj_xt q108_118 rfl (pj_cl_nc rfl) (s108_118)
theorem q108_119 : pj_row 108 119 = some (.ireturn, 1, 0, 0, 0) := by decide +kernel
theorem t108_119 {L : pj_Loc} {M : pj_Mem} {v : Int32} : pj_Ends 108 (119, L, [.int v], M) (some (.int v), M) := pj_Ends.ret q108_119 (pj_rtn_i rt108)
theorem q108_120 : pj_row 108 120 = some (.aload_n 0, 1, 0, 0, 0) := by decide +kernel
theorem s108_120 {st : List Value} {M : pj_Mem} {l : pj_Loc} {x : Nat} : pj_step 108 (120, some (.ref x) :: l, st, M) = some (121, some (.ref x) :: l, .ref x :: st, M) := st_aload_n q108_120 rfl
theorem x108_120 {st : List Value} {M : pj_Mem} {l : pj_Loc} {x : Nat} {o9 : Option Value × pj_Mem} : pj_Ends 108 (120, some (.ref x) :: l, st, M) o9 = pj_Ends 108 (121, some (.ref x) :: l, .ref x :: st, M) o9 := pj_xs (s108_120)
theorem q108_121 : pj_row 108 121 = some (.invokevirtual 48, 3, 86, 1, 0) := by decide +kernel
theorem e108_121 {L : pj_Loc} {st : List Value} {N S : Nat} {H : pj_Heap} {o : Option Value × pj_Mem} {M' : pj_Mem} {x0 : Nat} {r : Int32} (h4 : pj_le4 st = true) (hu : pj_isU 6 (H x0) = true) (h1 : pj_Ends 86 (0, [some (.ref x0)], [], (N, S, H)) (some (.int r), M')) (h2 : pj_Ends 108 (124, L, .int r :: st, M') o) : pj_Ends 108 (121, L, .ref x0 :: st, (N, S, H)) o := ec_v1 q108_121 (Or.inl rfl) h4 hu rfl h1 h2
theorem q108_124 : pj_row 108 124 = some (.ireturn, 1, 0, 0, 0) := by decide +kernel
theorem t108_124 {L : pj_Loc} {M : pj_Mem} {v : Int32} : pj_Ends 108 (124, L, [.int v], M) (some (.int v), M) := pj_Ends.ret q108_124 (pj_rtn_i rt108)
theorem q108_125 : pj_row 108 125 = some (.aload_n 0, 1, 0, 0, 0) := by decide +kernel
theorem s108_125 {st : List Value} {M : pj_Mem} {l : pj_Loc} {x : Nat} : pj_step 108 (125, some (.ref x) :: l, st, M) = some (126, some (.ref x) :: l, .ref x :: st, M) := st_aload_n q108_125 rfl
theorem x108_125 {st : List Value} {M : pj_Mem} {l : pj_Loc} {x : Nat} {o9 : Option Value × pj_Mem} : pj_Ends 108 (125, some (.ref x) :: l, st, M) o9 = pj_Ends 108 (126, some (.ref x) :: l, .ref x :: st, M) o9 := pj_xs (s108_125)
theorem q108_126 : pj_row 108 126 = some (.invokevirtual 143, 3, 103, 1, 0) := by decide +kernel
theorem e108_126 {L : pj_Loc} {st : List Value} {N S : Nat} {H : pj_Heap} {o : Option Value × pj_Mem} {M' : pj_Mem} {x0 : Nat} {r : Int32} (h4 : pj_le4 st = true) (hu : pj_isU 6 (H x0) = true) (h1 : pj_Ends 103 (0, [some (.ref x0), none, none], [], (N, S, H)) (some (.int r), M')) (h2 : pj_Ends 108 (129, L, .int r :: st, M') o) : pj_Ends 108 (126, L, .ref x0 :: st, (N, S, H)) o := ec_v1 q108_126 (Or.inl rfl) h4 hu rfl h1 h2
theorem q108_129 : pj_row 108 129 = some (.ireturn, 1, 0, 0, 0) := by decide +kernel
theorem t108_129 {L : pj_Loc} {M : pj_Mem} {v : Int32} : pj_Ends 108 (129, L, [.int v], M) (some (.int v), M) := pj_Ends.ret q108_129 (pj_rtn_i rt108)
theorem q108_130 : pj_row 108 130 = some (.aload_n 0, 1, 0, 0, 0) := by decide +kernel
theorem s108_130 {st : List Value} {M : pj_Mem} {l : pj_Loc} {x : Nat} : pj_step 108 (130, some (.ref x) :: l, st, M) = some (131, some (.ref x) :: l, .ref x :: st, M) := st_aload_n q108_130 rfl
theorem x108_130 {st : List Value} {M : pj_Mem} {l : pj_Loc} {x : Nat} {o9 : Option Value × pj_Mem} : pj_Ends 108 (130, some (.ref x) :: l, st, M) o9 = pj_Ends 108 (131, some (.ref x) :: l, .ref x :: st, M) o9 := pj_xs (s108_130)
theorem q108_131 : pj_row 108 131 = some (.invokevirtual 140, 3, 101, 1, 0) := by decide +kernel
theorem e108_131 {L : pj_Loc} {st : List Value} {N S : Nat} {H : pj_Heap} {o : Option Value × pj_Mem} {M' : pj_Mem} {x0 : Nat} {r : Int32} (h4 : pj_le4 st = true) (hu : pj_isU 6 (H x0) = true) (h1 : pj_Ends 101 (0, [some (.ref x0)], [], (N, S, H)) (some (.int r), M')) (h2 : pj_Ends 108 (134, L, .int r :: st, M') o) : pj_Ends 108 (131, L, .ref x0 :: st, (N, S, H)) o := ec_v1 q108_131 (Or.inl rfl) h4 hu rfl h1 h2
theorem q108_134 : pj_row 108 134 = some (.ireturn, 1, 0, 0, 0) := by decide +kernel
theorem t108_134 {L : pj_Loc} {M : pj_Mem} {v : Int32} : pj_Ends 108 (134, L, [.int v], M) (some (.int v), M) := pj_Ends.ret q108_134 (pj_rtn_i rt108)
theorem q108_135 : pj_row 108 135 = some (.aload_n 0, 1, 0, 0, 0) := by decide +kernel
theorem s108_135 {st : List Value} {M : pj_Mem} {l : pj_Loc} {x : Nat} : pj_step 108 (135, some (.ref x) :: l, st, M) = some (136, some (.ref x) :: l, .ref x :: st, M) := st_aload_n q108_135 rfl
theorem x108_135 {st : List Value} {M : pj_Mem} {l : pj_Loc} {x : Nat} {o9 : Option Value × pj_Mem} : pj_Ends 108 (135, some (.ref x) :: l, st, M) o9 = pj_Ends 108 (136, some (.ref x) :: l, .ref x :: st, M) o9 := pj_xs (s108_135)
theorem q108_136 : pj_row 108 136 = some (.getfield 7, 3, 6, 0, 0) := by decide +kernel
theorem s108_136 {L : pj_Loc} {st : List Value} {N S : Nat} {H : pj_Heap} {o : Nat} : pj_step 108 (136, L, .ref o :: st, (N, S, H)) = pj_pv 139 L st (N, S, H) (pj_fld (H o) 6 0) := st_getfield q108_136
theorem x108_136 {L : pj_Loc} {st : List Value} {N S : Nat} {H : pj_Heap} {o : Nat} {o9 : Option Value × pj_Mem} : pj_Ends 108 (136, L, .ref o :: st, (N, S, H)) o9 = pj_then 108 o9 (pj_pv 139 L st (N, S, H) (pj_fld (H o) 6 0)) := pj_xt q108_136 rfl (pj_cl_nc rfl) (s108_136)
theorem q108_139 : pj_row 108 139 = some (.bipush 30, 2, 0, 0, 0) := by decide +kernel
theorem s108_139 {L : pj_Loc} {st : List Value} {M : pj_Mem}  : pj_step 108 (139, L, st, M) = some (141, L, .int 30 :: st, M) := st_bipush q108_139 (by decide +kernel)
theorem x108_139 {L : pj_Loc} {st : List Value} {M : pj_Mem}  {o9 : Option Value × pj_Mem} : pj_Ends 108 (139, L, st, M) o9 = pj_Ends 108 (141, L, .int 30 :: st, M) o9 := pj_xs (s108_139)
theorem q108_141 : pj_row 108 141 = some (.iaload, 1, 0, 0, 0) := by decide +kernel
theorem s108_141 {L : pj_Loc} {st : List Value} {N S : Nat} {H : pj_Heap} {o : Nat} {i : Int32} : pj_step 108 (141, L, .int i :: .ref o :: st, (N, S, H)) = pj_pi 142 L st (N, S, H) (pj_arl (H o) 0 i) := st_iaload q108_141
theorem x108_141 {L : pj_Loc} {st : List Value} {N S : Nat} {H : pj_Heap} {o : Nat} {i : Int32} {o9 : Option Value × pj_Mem} : pj_Ends 108 (141, L, .int i :: .ref o :: st, (N, S, H)) o9 = pj_then 108 o9 (pj_pi 142 L st (N, S, H) (pj_arl (H o) 0 i)) := pj_xt q108_141 rfl (pj_cl_nc rfl) (s108_141)
theorem q108_142 : pj_row 108 142 = some (.ireturn, 1, 0, 0, 0) := by decide +kernel
theorem t108_142 {L : pj_Loc} {M : pj_Mem} {v : Int32} : pj_Ends 108 (142, L, [.int v], M) (some (.int v), M) := pj_Ends.ret q108_142 (pj_rtn_i rt108)
theorem q108_143 : pj_row 108 143 = some (.aload_n 0, 1, 0, 0, 0) := by decide +kernel
theorem s108_143 {st : List Value} {M : pj_Mem} {l : pj_Loc} {x : Nat} : pj_step 108 (143, some (.ref x) :: l, st, M) = some (144, some (.ref x) :: l, .ref x :: st, M) := st_aload_n q108_143 rfl
theorem x108_143 {st : List Value} {M : pj_Mem} {l : pj_Loc} {x : Nat} {o9 : Option Value × pj_Mem} : pj_Ends 108 (143, some (.ref x) :: l, st, M) o9 = pj_Ends 108 (144, some (.ref x) :: l, .ref x :: st, M) o9 := pj_xs (s108_143)
theorem q108_144 : pj_row 108 144 = some (.getfield 7, 3, 6, 0, 0) := by decide +kernel
theorem s108_144 {L : pj_Loc} {st : List Value} {N S : Nat} {H : pj_Heap} {o : Nat} : pj_step 108 (144, L, .ref o :: st, (N, S, H)) = pj_pv 147 L st (N, S, H) (pj_fld (H o) 6 0) := st_getfield q108_144
theorem x108_144 {L : pj_Loc} {st : List Value} {N S : Nat} {H : pj_Heap} {o : Nat} {o9 : Option Value × pj_Mem} : pj_Ends 108 (144, L, .ref o :: st, (N, S, H)) o9 = pj_then 108 o9 (pj_pv 147 L st (N, S, H) (pj_fld (H o) 6 0)) := pj_xt q108_144 rfl (pj_cl_nc rfl) (s108_144)
theorem q108_147 : pj_row 108 147 = some (.bipush 29, 2, 0, 0, 0) := by decide +kernel
theorem s108_147 {L : pj_Loc} {st : List Value} {M : pj_Mem}  : pj_step 108 (147, L, st, M) = some (149, L, .int 29 :: st, M) := st_bipush q108_147 (by decide +kernel)
theorem x108_147 {L : pj_Loc} {st : List Value} {M : pj_Mem}  {o9 : Option Value × pj_Mem} : pj_Ends 108 (147, L, st, M) o9 = pj_Ends 108 (149, L, .int 29 :: st, M) o9 := pj_xs (s108_147)
theorem q108_149 : pj_row 108 149 = some (.iaload, 1, 0, 0, 0) := by decide +kernel
theorem s108_149 {L : pj_Loc} {st : List Value} {N S : Nat} {H : pj_Heap} {o : Nat} {i : Int32} : pj_step 108 (149, L, .int i :: .ref o :: st, (N, S, H)) = pj_pi 150 L st (N, S, H) (pj_arl (H o) 0 i) := st_iaload q108_149
theorem x108_149 {L : pj_Loc} {st : List Value} {N S : Nat} {H : pj_Heap} {o : Nat} {i : Int32} {o9 : Option Value × pj_Mem} : pj_Ends 108 (149, L, .int i :: .ref o :: st, (N, S, H)) o9 = pj_then 108 o9 (pj_pi 150 L st (N, S, H) (pj_arl (H o) 0 i)) := pj_xt q108_149 rfl (pj_cl_nc rfl) (s108_149)
theorem q108_150 : pj_row 108 150 = some (.ireturn, 1, 0, 0, 0) := by decide +kernel
theorem t108_150 {L : pj_Loc} {M : pj_Mem} {v : Int32} : pj_Ends 108 (150, L, [.int v], M) (some (.int v), M) := pj_Ends.ret q108_150 (pj_rtn_i rt108)
theorem q108_151 : pj_row 108 151 = some (.aload_n 0, 1, 0, 0, 0) := by decide +kernel
theorem s108_151 {st : List Value} {M : pj_Mem} {l : pj_Loc} {x : Nat} : pj_step 108 (151, some (.ref x) :: l, st, M) = some (152, some (.ref x) :: l, .ref x :: st, M) := st_aload_n q108_151 rfl
theorem x108_151 {st : List Value} {M : pj_Mem} {l : pj_Loc} {x : Nat} {o9 : Option Value × pj_Mem} : pj_Ends 108 (151, some (.ref x) :: l, st, M) o9 = pj_Ends 108 (152, some (.ref x) :: l, .ref x :: st, M) o9 := pj_xs (s108_151)
theorem q108_152 : pj_row 108 152 = some (.invokevirtual 104, 3, 97, 1, 0) := by decide +kernel
theorem e108_152 {L : pj_Loc} {st : List Value} {N S : Nat} {H : pj_Heap} {o : Option Value × pj_Mem} {M' : pj_Mem} {x0 : Nat} {r : Int32} (h4 : pj_le4 st = true) (hu : pj_isU 6 (H x0) = true) (h1 : pj_Ends 97 (0, [some (.ref x0)], [], (N, S, H)) (some (.int r), M')) (h2 : pj_Ends 108 (155, L, .int r :: st, M') o) : pj_Ends 108 (152, L, .ref x0 :: st, (N, S, H)) o := ec_v1 q108_152 (Or.inl rfl) h4 hu rfl h1 h2
theorem q108_155 : pj_row 108 155 = some (.ifCond .eq 7, 3, 162, 0, 0) := by decide +kernel
theorem s108_155 {L : pj_Loc} {st : List Value} {M : pj_Mem} {x : Int32} : pj_step 108 (155, L, .int x :: st, M) = some (if x = 0 then 162 else 158, L, st, M) := st_if_eq q108_155
theorem x108_155 {L : pj_Loc} {st : List Value} {M : pj_Mem} {x : Int32} {o9 : Option Value × pj_Mem} : pj_Ends 108 (155, L, .int x :: st, M) o9 = pj_Ends 108 (if x = 0 then 162 else 158, L, st, M) o9 := pj_xs (s108_155)
theorem q108_158 : pj_row 108 158 = some (.iconst 1, 1, 0, 0, 0) := by decide +kernel
theorem s108_158 {L : pj_Loc} {st : List Value} {M : pj_Mem}  : pj_step 108 (158, L, st, M) = some (159, L, .int 1 :: st, M) := st_iconst q108_158 (by decide +kernel)
theorem x108_158 {L : pj_Loc} {st : List Value} {M : pj_Mem}  {o9 : Option Value × pj_Mem} : pj_Ends 108 (158, L, st, M) o9 = pj_Ends 108 (159, L, .int 1 :: st, M) o9 := pj_xs (s108_158)
theorem q108_159 : pj_row 108 159 = some (.goto 4, 3, 163, 0, 0) := by decide +kernel
theorem s108_159 {L : pj_Loc} {st : List Value} {M : pj_Mem}  : pj_step 108 (159, L, st, M) = some (163, L, st, M) := st_goto q108_159
theorem x108_159 {L : pj_Loc} {st : List Value} {M : pj_Mem}  {o9 : Option Value × pj_Mem} : pj_Ends 108 (159, L, st, M) o9 = pj_Ends 108 (163, L, st, M) o9 := pj_xs (s108_159)
theorem q108_162 : pj_row 108 162 = some (.iconst 0, 1, 0, 0, 0) := by decide +kernel
theorem s108_162 {L : pj_Loc} {st : List Value} {M : pj_Mem}  : pj_step 108 (162, L, st, M) = some (163, L, .int 0 :: st, M) := st_iconst q108_162 (by decide +kernel)
theorem x108_162 {L : pj_Loc} {st : List Value} {M : pj_Mem}  {o9 : Option Value × pj_Mem} : pj_Ends 108 (162, L, st, M) o9 = pj_Ends 108 (163, L, .int 0 :: st, M) o9 := pj_xs (s108_162)
theorem q108_163 : pj_row 108 163 = some (.ireturn, 1, 0, 0, 0) := by decide +kernel
theorem t108_163 {L : pj_Loc} {M : pj_Mem} {v : Int32} : pj_Ends 108 (163, L, [.int v], M) (some (.int v), M) := pj_Ends.ret q108_163 (pj_rtn_i rt108)
theorem q108_164 : pj_row 108 164 = some (.aload_n 0, 1, 0, 0, 0) := by decide +kernel
theorem s108_164 {st : List Value} {M : pj_Mem} {l : pj_Loc} {x : Nat} : pj_step 108 (164, some (.ref x) :: l, st, M) = some (165, some (.ref x) :: l, .ref x :: st, M) := st_aload_n q108_164 rfl
theorem x108_164 {st : List Value} {M : pj_Mem} {l : pj_Loc} {x : Nat} {o9 : Option Value × pj_Mem} : pj_Ends 108 (164, some (.ref x) :: l, st, M) o9 = pj_Ends 108 (165, some (.ref x) :: l, .ref x :: st, M) o9 := pj_xs (s108_164)
theorem q108_165 : pj_row 108 165 = some (.getfield 152, 3, 6, 13, 0) := by decide +kernel
theorem s108_165 {L : pj_Loc} {st : List Value} {N S : Nat} {H : pj_Heap} {o : Nat} : pj_step 108 (165, L, .ref o :: st, (N, S, H)) = pj_pv 168 L st (N, S, H) (pj_fld (H o) 6 13) := st_getfield q108_165
theorem x108_165 {L : pj_Loc} {st : List Value} {N S : Nat} {H : pj_Heap} {o : Nat} {o9 : Option Value × pj_Mem} : pj_Ends 108 (165, L, .ref o :: st, (N, S, H)) o9 = pj_then 108 o9 (pj_pv 168 L st (N, S, H) (pj_fld (H o) 6 13)) := pj_xt q108_165 rfl (pj_cl_nc rfl) (s108_165)
theorem q108_168 : pj_row 108 168 = some (.ireturn, 1, 0, 0, 0) := by decide +kernel
theorem t108_168 {L : pj_Loc} {M : pj_Mem} {v : Int32} : pj_Ends 108 (168, L, [.int v], M) (some (.int v), M) := pj_Ends.ret q108_168 (pj_rtn_i rt108)
theorem q108_169 : pj_row 108 169 = some (.aload_n 0, 1, 0, 0, 0) := by decide +kernel
theorem s108_169 {st : List Value} {M : pj_Mem} {l : pj_Loc} {x : Nat} : pj_step 108 (169, some (.ref x) :: l, st, M) = some (170, some (.ref x) :: l, .ref x :: st, M) := st_aload_n q108_169 rfl
theorem x108_169 {st : List Value} {M : pj_Mem} {l : pj_Loc} {x : Nat} {o9 : Option Value × pj_Mem} : pj_Ends 108 (169, some (.ref x) :: l, st, M) o9 = pj_Ends 108 (170, some (.ref x) :: l, .ref x :: st, M) o9 := pj_xs (s108_169)
theorem q108_170 : pj_row 108 170 = some (.getfield 34, 3, 6, 3, 0) := by decide +kernel
theorem s108_170 {L : pj_Loc} {st : List Value} {N S : Nat} {H : pj_Heap} {o : Nat} : pj_step 108 (170, L, .ref o :: st, (N, S, H)) = pj_pv 173 L st (N, S, H) (pj_fld (H o) 6 3) := st_getfield q108_170
theorem x108_170 {L : pj_Loc} {st : List Value} {N S : Nat} {H : pj_Heap} {o : Nat} {o9 : Option Value × pj_Mem} : pj_Ends 108 (170, L, .ref o :: st, (N, S, H)) o9 = pj_then 108 o9 (pj_pv 173 L st (N, S, H) (pj_fld (H o) 6 3)) := pj_xt q108_170 rfl (pj_cl_nc rfl) (s108_170)
theorem q108_173 : pj_row 108 173 = some (.ireturn, 1, 0, 0, 0) := by decide +kernel
theorem t108_173 {L : pj_Loc} {M : pj_Mem} {v : Int32} : pj_Ends 108 (173, L, [.int v], M) (some (.int v), M) := pj_Ends.ret q108_173 (pj_rtn_i rt108)
theorem q108_174 : pj_row 108 174 = some (.bipush (-2), 2, 0, 0, 0) := by decide +kernel
theorem s108_174 {L : pj_Loc} {st : List Value} {M : pj_Mem}  : pj_step 108 (174, L, st, M) = some (176, L, .int (-2) :: st, M) := st_bipush q108_174 (by decide +kernel)
theorem x108_174 {L : pj_Loc} {st : List Value} {M : pj_Mem}  {o9 : Option Value × pj_Mem} : pj_Ends 108 (174, L, st, M) o9 = pj_Ends 108 (176, L, .int (-2) :: st, M) o9 := pj_xs (s108_174)
theorem q108_176 : pj_row 108 176 = some (.ireturn, 1, 0, 0, 0) := by decide +kernel
theorem t108_176 {L : pj_Loc} {M : pj_Mem} {v : Int32} : pj_Ends 108 (176, L, [.int v], M) (some (.int v), M) := pj_Ends.ret q108_176 (pj_rtn_i rt108)
theorem rt109 : pj_rt 109 = some .int := rfl
theorem q109_0 : pj_row 109 0 = some (.iload_n 1, 1, 0, 0, 0) := by decide +kernel
theorem s109_0 {st : List Value} {M : pj_Mem} {l : pj_Loc} {a0 : Option Value} {x : Int32} : pj_step 109 (0, a0 :: some (.int x) :: l, st, M) = some (1, a0 :: some (.int x) :: l, .int x :: st, M) := st_iload_n q109_0 rfl
theorem x109_0 {st : List Value} {M : pj_Mem} {l : pj_Loc} {a0 : Option Value} {x : Int32} {o9 : Option Value × pj_Mem} : pj_Ends 109 (0, a0 :: some (.int x) :: l, st, M) o9 = pj_Ends 109 (1, a0 :: some (.int x) :: l, .int x :: st, M) o9 := pj_xs (s109_0)
theorem q109_1 : pj_row 109 1 = some (.invokestatic 127, 3, 81, 1, 0) := by decide +kernel
theorem e109_1 {L : pj_Loc} {st : List Value} {N S : Nat} {H : pj_Heap} {o : Option Value × pj_Mem} {M' : pj_Mem} {x0 : Int32} {r : Int32} (h4 : pj_le4 st = true) (h1 : pj_Ends 81 (0, [some (.int x0)], [], (N, S, H)) (some (.int r), M')) (h2 : pj_Ends 109 (4, L, .int r :: st, M') o) : pj_Ends 109 (1, L, .int x0 :: st, (N, S, H)) o := ec_s1 q109_1 (Or.inl rfl) h4 rfl h1 h2
theorem q109_4 : pj_row 109 4 = some (.ifCond .eq 30, 3, 34, 0, 0) := by decide +kernel
theorem s109_4 {L : pj_Loc} {st : List Value} {M : pj_Mem} {x : Int32} : pj_step 109 (4, L, .int x :: st, M) = some (if x = 0 then 34 else 7, L, st, M) := st_if_eq q109_4
theorem x109_4 {L : pj_Loc} {st : List Value} {M : pj_Mem} {x : Int32} {o9 : Option Value × pj_Mem} : pj_Ends 109 (4, L, .int x :: st, M) o9 = pj_Ends 109 (if x = 0 then 34 else 7, L, st, M) o9 := pj_xs (s109_4)
theorem q109_7 : pj_row 109 7 = some (.iload_n 2, 1, 0, 0, 0) := by decide +kernel
theorem s109_7 {st : List Value} {M : pj_Mem} {l : pj_Loc} {a0 a1 : Option Value} {x : Int32} : pj_step 109 (7, a0 :: a1 :: some (.int x) :: l, st, M) = some (8, a0 :: a1 :: some (.int x) :: l, .int x :: st, M) := st_iload_n q109_7 rfl
theorem x109_7 {st : List Value} {M : pj_Mem} {l : pj_Loc} {a0 a1 : Option Value} {x : Int32} {o9 : Option Value × pj_Mem} : pj_Ends 109 (7, a0 :: a1 :: some (.int x) :: l, st, M) o9 = pj_Ends 109 (8, a0 :: a1 :: some (.int x) :: l, .int x :: st, M) o9 := pj_xs (s109_7)
theorem q109_8 : pj_row 109 8 = some (.invokestatic 127, 3, 81, 1, 0) := by decide +kernel
theorem e109_8 {L : pj_Loc} {st : List Value} {N S : Nat} {H : pj_Heap} {o : Option Value × pj_Mem} {M' : pj_Mem} {x0 : Int32} {r : Int32} (h4 : pj_le4 st = true) (h1 : pj_Ends 81 (0, [some (.int x0)], [], (N, S, H)) (some (.int r), M')) (h2 : pj_Ends 109 (11, L, .int r :: st, M') o) : pj_Ends 109 (8, L, .int x0 :: st, (N, S, H)) o := ec_s1 q109_8 (Or.inl rfl) h4 rfl h1 h2
theorem q109_11 : pj_row 109 11 = some (.ifCond .eq 23, 3, 34, 0, 0) := by decide +kernel
theorem s109_11 {L : pj_Loc} {st : List Value} {M : pj_Mem} {x : Int32} : pj_step 109 (11, L, .int x :: st, M) = some (if x = 0 then 34 else 14, L, st, M) := st_if_eq q109_11
theorem x109_11 {L : pj_Loc} {st : List Value} {M : pj_Mem} {x : Int32} {o9 : Option Value × pj_Mem} : pj_Ends 109 (11, L, .int x :: st, M) o9 = pj_Ends 109 (if x = 0 then 34 else 14, L, st, M) o9 := pj_xs (s109_11)
theorem q109_14 : pj_row 109 14 = some (.iload_n 3, 1, 0, 0, 0) := by decide +kernel
theorem s109_14 {st : List Value} {M : pj_Mem} {l : pj_Loc} {a0 a1 a2 : Option Value} {x : Int32} : pj_step 109 (14, a0 :: a1 :: a2 :: some (.int x) :: l, st, M) = some (15, a0 :: a1 :: a2 :: some (.int x) :: l, .int x :: st, M) := st_iload_n q109_14 rfl
theorem x109_14 {st : List Value} {M : pj_Mem} {l : pj_Loc} {a0 a1 a2 : Option Value} {x : Int32} {o9 : Option Value × pj_Mem} : pj_Ends 109 (14, a0 :: a1 :: a2 :: some (.int x) :: l, st, M) o9 = pj_Ends 109 (15, a0 :: a1 :: a2 :: some (.int x) :: l, .int x :: st, M) o9 := pj_xs (s109_14)
theorem q109_15 : pj_row 109 15 = some (.invokestatic 127, 3, 81, 1, 0) := by decide +kernel
theorem e109_15 {L : pj_Loc} {st : List Value} {N S : Nat} {H : pj_Heap} {o : Option Value × pj_Mem} {M' : pj_Mem} {x0 : Int32} {r : Int32} (h4 : pj_le4 st = true) (h1 : pj_Ends 81 (0, [some (.int x0)], [], (N, S, H)) (some (.int r), M')) (h2 : pj_Ends 109 (18, L, .int r :: st, M') o) : pj_Ends 109 (15, L, .int x0 :: st, (N, S, H)) o := ec_s1 q109_15 (Or.inl rfl) h4 rfl h1 h2
theorem q109_18 : pj_row 109 18 = some (.ifCond .eq 16, 3, 34, 0, 0) := by decide +kernel
theorem s109_18 {L : pj_Loc} {st : List Value} {M : pj_Mem} {x : Int32} : pj_step 109 (18, L, .int x :: st, M) = some (if x = 0 then 34 else 21, L, st, M) := st_if_eq q109_18
theorem x109_18 {L : pj_Loc} {st : List Value} {M : pj_Mem} {x : Int32} {o9 : Option Value × pj_Mem} : pj_Ends 109 (18, L, .int x :: st, M) o9 = pj_Ends 109 (if x = 0 then 34 else 21, L, st, M) o9 := pj_xs (s109_18)
theorem q109_21 : pj_row 109 21 = some (.iload 5, 2, 0, 0, 0) := by decide +kernel
theorem s109_21 {st : List Value} {M : pj_Mem} {l : pj_Loc} {a0 a1 a2 a3 a4 : Option Value} {x : Int32} : pj_step 109 (21, a0 :: a1 :: a2 :: a3 :: a4 :: some (.int x) :: l, st, M) = some (23, a0 :: a1 :: a2 :: a3 :: a4 :: some (.int x) :: l, .int x :: st, M) := st_iload q109_21 rfl
theorem x109_21 {st : List Value} {M : pj_Mem} {l : pj_Loc} {a0 a1 a2 a3 a4 : Option Value} {x : Int32} {o9 : Option Value × pj_Mem} : pj_Ends 109 (21, a0 :: a1 :: a2 :: a3 :: a4 :: some (.int x) :: l, st, M) o9 = pj_Ends 109 (23, a0 :: a1 :: a2 :: a3 :: a4 :: some (.int x) :: l, .int x :: st, M) o9 := pj_xs (s109_21)
theorem q109_23 : pj_row 109 23 = some (.i2l, 1, 0, 0, 0) := by decide +kernel
theorem s109_23 {L : pj_Loc} {st : List Value} {M : pj_Mem} {x : Int32} : pj_step 109 (23, L, .int x :: st, M) = some (24, L, .long x.toInt64 :: st, M) := st_i2l q109_23
theorem x109_23 {L : pj_Loc} {st : List Value} {M : pj_Mem} {x : Int32} {o9 : Option Value × pj_Mem} : pj_Ends 109 (23, L, .int x :: st, M) o9 = pj_Ends 109 (24, L, .long x.toInt64 :: st, M) o9 := pj_xs (s109_23)
theorem q109_24 : pj_row 109 24 = some (.lconst 0, 1, 0, 0, 0) := by decide +kernel
theorem s109_24 {L : pj_Loc} {st : List Value} {M : pj_Mem}  : pj_step 109 (24, L, st, M) = some (25, L, .long 0 :: st, M) := st_lconst q109_24 (by decide +kernel)
theorem x109_24 {L : pj_Loc} {st : List Value} {M : pj_Mem}  {o9 : Option Value × pj_Mem} : pj_Ends 109 (24, L, st, M) o9 = pj_Ends 109 (25, L, .long 0 :: st, M) o9 := pj_xs (s109_24)
theorem q109_25 : pj_row 109 25 = some (.ldc2_w 155, 3, 0, 0, 5) := by decide +kernel
theorem s109_25 {L : pj_Loc} {st : List Value} {M : pj_Mem}  : pj_step 109 (25, L, st, M) = some (28, L, .long 5 :: st, M) := st_ldc2_w q109_25 (by decide +kernel)
theorem x109_25 {L : pj_Loc} {st : List Value} {M : pj_Mem}  {o9 : Option Value × pj_Mem} : pj_Ends 109 (25, L, st, M) o9 = pj_Ends 109 (28, L, .long 5 :: st, M) o9 := pj_xs (s109_25)
theorem q109_28 : pj_row 109 28 = some (.invokestatic 42, 3, 77, 3, 0) := by decide +kernel
theorem e109_28 {L : pj_Loc} {st : List Value} {N S : Nat} {H : pj_Heap} {o : Option Value × pj_Mem} {M' : pj_Mem} {x0 : Int64} {x1 : Int64} {x2 : Int64} {r : Int32} (h4 : pj_le4 st = true) (h1 : pj_Ends 77 (0, [some (.long x0), none, some (.long x1), none, some (.long x2), none], [], (N, S, H)) (some (.int r), M')) (h2 : pj_Ends 109 (31, L, .int r :: st, M') o) : pj_Ends 109 (28, L, .long x2 :: .long x1 :: .long x0 :: st, (N, S, H)) o := ec_s3 q109_28 (Or.inl rfl) h4 rfl h1 h2
theorem q109_31 : pj_row 109 31 = some (.ifCond .ne 6, 3, 37, 0, 0) := by decide +kernel
theorem s109_31 {L : pj_Loc} {st : List Value} {M : pj_Mem} {x : Int32} : pj_step 109 (31, L, .int x :: st, M) = some (if ¬ x = 0 then 37 else 34, L, st, M) := st_if_ne q109_31
theorem x109_31 {L : pj_Loc} {st : List Value} {M : pj_Mem} {x : Int32} {o9 : Option Value × pj_Mem} : pj_Ends 109 (31, L, .int x :: st, M) o9 = pj_Ends 109 (if ¬ x = 0 then 37 else 34, L, st, M) o9 := pj_xs (s109_31)
theorem q109_34 : pj_row 109 34 = some (.bipush (-2), 2, 0, 0, 0) := by decide +kernel
theorem s109_34 {L : pj_Loc} {st : List Value} {M : pj_Mem}  : pj_step 109 (34, L, st, M) = some (36, L, .int (-2) :: st, M) := st_bipush q109_34 (by decide +kernel)
theorem x109_34 {L : pj_Loc} {st : List Value} {M : pj_Mem}  {o9 : Option Value × pj_Mem} : pj_Ends 109 (34, L, st, M) o9 = pj_Ends 109 (36, L, .int (-2) :: st, M) o9 := pj_xs (s109_34)
theorem q109_36 : pj_row 109 36 = some (.ireturn, 1, 0, 0, 0) := by decide +kernel
theorem t109_36 {L : pj_Loc} {M : pj_Mem} {v : Int32} : pj_Ends 109 (36, L, [.int v], M) (some (.int v), M) := pj_Ends.ret q109_36 (pj_rtn_i rt109)
theorem q109_37 : pj_row 109 37 = some (.aload_n 0, 1, 0, 0, 0) := by decide +kernel
theorem s109_37 {st : List Value} {M : pj_Mem} {l : pj_Loc} {x : Nat} : pj_step 109 (37, some (.ref x) :: l, st, M) = some (38, some (.ref x) :: l, .ref x :: st, M) := st_aload_n q109_37 rfl
theorem x109_37 {st : List Value} {M : pj_Mem} {l : pj_Loc} {x : Nat} {o9 : Option Value × pj_Mem} : pj_Ends 109 (37, some (.ref x) :: l, st, M) o9 = pj_Ends 109 (38, some (.ref x) :: l, .ref x :: st, M) o9 := pj_xs (s109_37)
theorem q109_38 : pj_row 109 38 = some (.invokevirtual 121, 3, 78, 1, 0) := by decide +kernel
theorem e109_38 {L : pj_Loc} {st : List Value} {N S : Nat} {H : pj_Heap} {o : Option Value × pj_Mem} {M' : pj_Mem} {x0 : Nat} (h4 : pj_le4 st = true) (hu : pj_isU 6 (H x0) = true) (h1 : pj_Ends 78 (0, [some (.ref x0), none], [], (N, S, H)) (none, M')) (h2 : pj_Ends 109 (41, L, st, M') o) : pj_Ends 109 (38, L, .ref x0 :: st, (N, S, H)) o := ec_v1 q109_38 (Or.inl rfl) h4 hu rfl h1 h2
theorem q109_41 : pj_row 109 41 = some (.aload_n 0, 1, 0, 0, 0) := by decide +kernel
theorem s109_41 {st : List Value} {M : pj_Mem} {l : pj_Loc} {x : Nat} : pj_step 109 (41, some (.ref x) :: l, st, M) = some (42, some (.ref x) :: l, .ref x :: st, M) := st_aload_n q109_41 rfl
theorem x109_41 {st : List Value} {M : pj_Mem} {l : pj_Loc} {x : Nat} {o9 : Option Value × pj_Mem} : pj_Ends 109 (41, some (.ref x) :: l, st, M) o9 = pj_Ends 109 (42, some (.ref x) :: l, .ref x :: st, M) o9 := pj_xs (s109_41)
theorem q109_42 : pj_row 109 42 = some (.iload_n 1, 1, 0, 0, 0) := by decide +kernel
theorem s109_42 {st : List Value} {M : pj_Mem} {l : pj_Loc} {a0 : Option Value} {x : Int32} : pj_step 109 (42, a0 :: some (.int x) :: l, st, M) = some (43, a0 :: some (.int x) :: l, .int x :: st, M) := st_iload_n q109_42 rfl
theorem x109_42 {st : List Value} {M : pj_Mem} {l : pj_Loc} {a0 : Option Value} {x : Int32} {o9 : Option Value × pj_Mem} : pj_Ends 109 (42, a0 :: some (.int x) :: l, st, M) o9 = pj_Ends 109 (43, a0 :: some (.int x) :: l, .int x :: st, M) o9 := pj_xs (s109_42)
theorem q109_43 : pj_row 109 43 = some (.iload_n 2, 1, 0, 0, 0) := by decide +kernel
theorem s109_43 {st : List Value} {M : pj_Mem} {l : pj_Loc} {a0 a1 : Option Value} {x : Int32} : pj_step 109 (43, a0 :: a1 :: some (.int x) :: l, st, M) = some (44, a0 :: a1 :: some (.int x) :: l, .int x :: st, M) := st_iload_n q109_43 rfl
theorem x109_43 {st : List Value} {M : pj_Mem} {l : pj_Loc} {a0 a1 : Option Value} {x : Int32} {o9 : Option Value × pj_Mem} : pj_Ends 109 (43, a0 :: a1 :: some (.int x) :: l, st, M) o9 = pj_Ends 109 (44, a0 :: a1 :: some (.int x) :: l, .int x :: st, M) o9 := pj_xs (s109_43)
theorem q109_44 : pj_row 109 44 = some (.iload_n 3, 1, 0, 0, 0) := by decide +kernel
theorem s109_44 {st : List Value} {M : pj_Mem} {l : pj_Loc} {a0 a1 a2 : Option Value} {x : Int32} : pj_step 109 (44, a0 :: a1 :: a2 :: some (.int x) :: l, st, M) = some (45, a0 :: a1 :: a2 :: some (.int x) :: l, .int x :: st, M) := st_iload_n q109_44 rfl
theorem x109_44 {st : List Value} {M : pj_Mem} {l : pj_Loc} {a0 a1 a2 : Option Value} {x : Int32} {o9 : Option Value × pj_Mem} : pj_Ends 109 (44, a0 :: a1 :: a2 :: some (.int x) :: l, st, M) o9 = pj_Ends 109 (45, a0 :: a1 :: a2 :: some (.int x) :: l, .int x :: st, M) o9 := pj_xs (s109_44)
theorem q109_45 : pj_row 109 45 = some (.invokevirtual 130, 3, 82, 4, 0) := by decide +kernel
theorem e109_45 {L : pj_Loc} {st : List Value} {N S : Nat} {H : pj_Heap} {o : Option Value × pj_Mem} {M' : pj_Mem} {x0 : Nat} {x1 : Int32} {x2 : Int32} {x3 : Int32} (h4 : pj_le4 st = true) (hu : pj_isU 6 (H x0) = true) (h1 : pj_Ends 82 (0, [some (.ref x0), some (.int x1), some (.int x2), some (.int x3)], [], (N, S, H)) (none, M')) (h2 : pj_Ends 109 (48, L, st, M') o) : pj_Ends 109 (45, L, .int x3 :: .int x2 :: .int x1 :: .ref x0 :: st, (N, S, H)) o := ec_v4 q109_45 (Or.inl rfl) h4 hu rfl h1 h2
theorem q109_48 : pj_row 109 48 = some (.aload_n 0, 1, 0, 0, 0) := by decide +kernel
theorem s109_48 {st : List Value} {M : pj_Mem} {l : pj_Loc} {x : Nat} : pj_step 109 (48, some (.ref x) :: l, st, M) = some (49, some (.ref x) :: l, .ref x :: st, M) := st_aload_n q109_48 rfl
theorem x109_48 {st : List Value} {M : pj_Mem} {l : pj_Loc} {x : Nat} {o9 : Option Value × pj_Mem} : pj_Ends 109 (48, some (.ref x) :: l, st, M) o9 = pj_Ends 109 (49, some (.ref x) :: l, .ref x :: st, M) o9 := pj_xs (s109_48)
theorem q109_49 : pj_row 109 49 = some (.iload 4, 2, 0, 0, 0) := by decide +kernel
theorem s109_49 {st : List Value} {M : pj_Mem} {l : pj_Loc} {a0 a1 a2 a3 : Option Value} {x : Int32} : pj_step 109 (49, a0 :: a1 :: a2 :: a3 :: some (.int x) :: l, st, M) = some (51, a0 :: a1 :: a2 :: a3 :: some (.int x) :: l, .int x :: st, M) := st_iload q109_49 rfl
theorem x109_49 {st : List Value} {M : pj_Mem} {l : pj_Loc} {a0 a1 a2 a3 : Option Value} {x : Int32} {o9 : Option Value × pj_Mem} : pj_Ends 109 (49, a0 :: a1 :: a2 :: a3 :: some (.int x) :: l, st, M) o9 = pj_Ends 109 (51, a0 :: a1 :: a2 :: a3 :: some (.int x) :: l, .int x :: st, M) o9 := pj_xs (s109_49)
theorem q109_51 : pj_row 109 51 = some (.invokevirtual 134, 3, 83, 2, 0) := by decide +kernel
theorem e109_51 {L : pj_Loc} {st : List Value} {N S : Nat} {H : pj_Heap} {o : Option Value × pj_Mem} {M' : pj_Mem} {x0 : Nat} {x1 : Int32} (h4 : pj_le4 st = true) (hu : pj_isU 6 (H x0) = true) (h1 : pj_Ends 83 (0, [some (.ref x0), some (.int x1)], [], (N, S, H)) (none, M')) (h2 : pj_Ends 109 (54, L, st, M') o) : pj_Ends 109 (51, L, .int x1 :: .ref x0 :: st, (N, S, H)) o := ec_v2 q109_51 (Or.inl rfl) h4 hu rfl h1 h2
theorem q109_54 : pj_row 109 54 = some (.aload_n 0, 1, 0, 0, 0) := by decide +kernel
theorem s109_54 {st : List Value} {M : pj_Mem} {l : pj_Loc} {x : Nat} : pj_step 109 (54, some (.ref x) :: l, st, M) = some (55, some (.ref x) :: l, .ref x :: st, M) := st_aload_n q109_54 rfl
theorem x109_54 {st : List Value} {M : pj_Mem} {l : pj_Loc} {x : Nat} {o9 : Option Value × pj_Mem} : pj_Ends 109 (54, some (.ref x) :: l, st, M) o9 = pj_Ends 109 (55, some (.ref x) :: l, .ref x :: st, M) o9 := pj_xs (s109_54)
theorem q109_55 : pj_row 109 55 = some (.invokevirtual 48, 3, 86, 1, 0) := by decide +kernel
theorem e109_55 {L : pj_Loc} {st : List Value} {N S : Nat} {H : pj_Heap} {o : Option Value × pj_Mem} {M' : pj_Mem} {x0 : Nat} {r : Int32} (h4 : pj_le4 st = true) (hu : pj_isU 6 (H x0) = true) (h1 : pj_Ends 86 (0, [some (.ref x0)], [], (N, S, H)) (some (.int r), M')) (h2 : pj_Ends 109 (58, L, .int r :: st, M') o) : pj_Ends 109 (55, L, .ref x0 :: st, (N, S, H)) o := ec_v1 q109_55 (Or.inl rfl) h4 hu rfl h1 h2
theorem q109_58 : pj_row 109 58 = some (.istore 6, 2, 0, 0, 0) := by decide +kernel
theorem s109_58 {st : List Value} {M : pj_Mem} {l : pj_Loc} {a0 a1 a2 a3 a4 a5 a6 : Option Value} {x : Int32} (h : pj_long a5 = false) : pj_step 109 (58, a0 :: a1 :: a2 :: a3 :: a4 :: a5 :: a6 :: l, .int x :: st, M) = some (60, a0 :: a1 :: a2 :: a3 :: a4 :: a5 :: some (.int x) :: l, st, M) := st_istore q109_58 (pj_st_6 h)
theorem x109_58 {st : List Value} {M : pj_Mem} {l : pj_Loc} {a0 a1 a2 a3 a4 a5 a6 : Option Value} {x : Int32} (h : pj_long a5 = false) {o9 : Option Value × pj_Mem} : pj_Ends 109 (58, a0 :: a1 :: a2 :: a3 :: a4 :: a5 :: a6 :: l, .int x :: st, M) o9 = pj_Ends 109 (60, a0 :: a1 :: a2 :: a3 :: a4 :: a5 :: some (.int x) :: l, st, M) o9 := pj_xs (s109_58 h)
theorem q109_60 : pj_row 109 60 = some (.aload_n 0, 1, 0, 0, 0) := by decide +kernel
theorem s109_60 {st : List Value} {M : pj_Mem} {l : pj_Loc} {x : Nat} : pj_step 109 (60, some (.ref x) :: l, st, M) = some (61, some (.ref x) :: l, .ref x :: st, M) := st_aload_n q109_60 rfl
theorem x109_60 {st : List Value} {M : pj_Mem} {l : pj_Loc} {x : Nat} {o9 : Option Value × pj_Mem} : pj_Ends 109 (60, some (.ref x) :: l, st, M) o9 = pj_Ends 109 (61, some (.ref x) :: l, .ref x :: st, M) o9 := pj_xs (s109_60)
theorem q109_61 : pj_row 109 61 = some (.getfield 7, 3, 6, 0, 0) := by decide +kernel
theorem s109_61 {L : pj_Loc} {st : List Value} {N S : Nat} {H : pj_Heap} {o : Nat} : pj_step 109 (61, L, .ref o :: st, (N, S, H)) = pj_pv 64 L st (N, S, H) (pj_fld (H o) 6 0) := st_getfield q109_61
theorem x109_61 {L : pj_Loc} {st : List Value} {N S : Nat} {H : pj_Heap} {o : Nat} {o9 : Option Value × pj_Mem} : pj_Ends 109 (61, L, .ref o :: st, (N, S, H)) o9 = pj_then 109 o9 (pj_pv 64 L st (N, S, H) (pj_fld (H o) 6 0)) := pj_xt q109_61 rfl (pj_cl_nc rfl) (s109_61)
theorem q109_64 : pj_row 109 64 = some (.bipush 7, 2, 0, 0, 0) := by decide +kernel
theorem s109_64 {L : pj_Loc} {st : List Value} {M : pj_Mem}  : pj_step 109 (64, L, st, M) = some (66, L, .int 7 :: st, M) := st_bipush q109_64 (by decide +kernel)
theorem x109_64 {L : pj_Loc} {st : List Value} {M : pj_Mem}  {o9 : Option Value × pj_Mem} : pj_Ends 109 (64, L, st, M) o9 = pj_Ends 109 (66, L, .int 7 :: st, M) o9 := pj_xs (s109_64)
theorem q109_66 : pj_row 109 66 = some (.iaload, 1, 0, 0, 0) := by decide +kernel
theorem s109_66 {L : pj_Loc} {st : List Value} {N S : Nat} {H : pj_Heap} {o : Nat} {i : Int32} : pj_step 109 (66, L, .int i :: .ref o :: st, (N, S, H)) = pj_pi 67 L st (N, S, H) (pj_arl (H o) 0 i) := st_iaload q109_66
theorem x109_66 {L : pj_Loc} {st : List Value} {N S : Nat} {H : pj_Heap} {o : Nat} {i : Int32} {o9 : Option Value × pj_Mem} : pj_Ends 109 (66, L, .int i :: .ref o :: st, (N, S, H)) o9 = pj_then 109 o9 (pj_pi 67 L st (N, S, H) (pj_arl (H o) 0 i)) := pj_xt q109_66 rfl (pj_cl_nc rfl) (s109_66)
theorem q109_67 : pj_row 109 67 = some (.ifCond .le 7, 3, 74, 0, 0) := by decide +kernel
theorem s109_67 {L : pj_Loc} {st : List Value} {M : pj_Mem} {x : Int32} : pj_step 109 (67, L, .int x :: st, M) = some (if x ≤ 0 then 74 else 70, L, st, M) := st_if_le q109_67
theorem x109_67 {L : pj_Loc} {st : List Value} {M : pj_Mem} {x : Int32} {o9 : Option Value × pj_Mem} : pj_Ends 109 (67, L, .int x :: st, M) o9 = pj_Ends 109 (if x ≤ 0 then 74 else 70, L, st, M) o9 := pj_xs (s109_67)
theorem q109_70 : pj_row 109 70 = some (.iconst 1, 1, 0, 0, 0) := by decide +kernel
theorem s109_70 {L : pj_Loc} {st : List Value} {M : pj_Mem}  : pj_step 109 (70, L, st, M) = some (71, L, .int 1 :: st, M) := st_iconst q109_70 (by decide +kernel)
theorem x109_70 {L : pj_Loc} {st : List Value} {M : pj_Mem}  {o9 : Option Value × pj_Mem} : pj_Ends 109 (70, L, st, M) o9 = pj_Ends 109 (71, L, .int 1 :: st, M) o9 := pj_xs (s109_70)
theorem q109_71 : pj_row 109 71 = some (.goto 4, 3, 75, 0, 0) := by decide +kernel
theorem s109_71 {L : pj_Loc} {st : List Value} {M : pj_Mem}  : pj_step 109 (71, L, st, M) = some (75, L, st, M) := st_goto q109_71
theorem x109_71 {L : pj_Loc} {st : List Value} {M : pj_Mem}  {o9 : Option Value × pj_Mem} : pj_Ends 109 (71, L, st, M) o9 = pj_Ends 109 (75, L, st, M) o9 := pj_xs (s109_71)
theorem q109_74 : pj_row 109 74 = some (.iconst 0, 1, 0, 0, 0) := by decide +kernel
theorem s109_74 {L : pj_Loc} {st : List Value} {M : pj_Mem}  : pj_step 109 (74, L, st, M) = some (75, L, .int 0 :: st, M) := st_iconst q109_74 (by decide +kernel)
theorem x109_74 {L : pj_Loc} {st : List Value} {M : pj_Mem}  {o9 : Option Value × pj_Mem} : pj_Ends 109 (74, L, st, M) o9 = pj_Ends 109 (75, L, .int 0 :: st, M) o9 := pj_xs (s109_74)
theorem q109_75 : pj_row 109 75 = some (.istore 7, 2, 0, 0, 0) := by decide +kernel
theorem s109_75 {st : List Value} {M : pj_Mem} {l : pj_Loc} {a0 a1 a2 a3 a4 a5 a6 a7 : Option Value} {x : Int32} (h : pj_long a6 = false) : pj_step 109 (75, a0 :: a1 :: a2 :: a3 :: a4 :: a5 :: a6 :: a7 :: l, .int x :: st, M) = some (77, a0 :: a1 :: a2 :: a3 :: a4 :: a5 :: a6 :: some (.int x) :: l, st, M) := st_istore q109_75 (pj_st_7 h)
theorem x109_75 {st : List Value} {M : pj_Mem} {l : pj_Loc} {a0 a1 a2 a3 a4 a5 a6 a7 : Option Value} {x : Int32} (h : pj_long a6 = false) {o9 : Option Value × pj_Mem} : pj_Ends 109 (75, a0 :: a1 :: a2 :: a3 :: a4 :: a5 :: a6 :: a7 :: l, .int x :: st, M) o9 = pj_Ends 109 (77, a0 :: a1 :: a2 :: a3 :: a4 :: a5 :: a6 :: some (.int x) :: l, st, M) o9 := pj_xs (s109_75 h)
theorem q109_77 : pj_row 109 77 = some (.aload_n 0, 1, 0, 0, 0) := by decide +kernel
theorem s109_77 {st : List Value} {M : pj_Mem} {l : pj_Loc} {x : Nat} : pj_step 109 (77, some (.ref x) :: l, st, M) = some (78, some (.ref x) :: l, .ref x :: st, M) := st_aload_n q109_77 rfl
theorem x109_77 {st : List Value} {M : pj_Mem} {l : pj_Loc} {x : Nat} {o9 : Option Value × pj_Mem} : pj_Ends 109 (77, some (.ref x) :: l, st, M) o9 = pj_Ends 109 (78, some (.ref x) :: l, .ref x :: st, M) o9 := pj_xs (s109_77)
theorem q109_78 : pj_row 109 78 = some (.invokevirtual 157, 3, 110, 1, 0) := by decide +kernel
theorem e109_78 {L : pj_Loc} {st : List Value} {N S : Nat} {H : pj_Heap} {o : Option Value × pj_Mem} {M' : pj_Mem} {x0 : Nat} (h4 : pj_le4 st = true) (hu : pj_isU 6 (H x0) = true) (h1 : pj_Ends 110 (0, [some (.ref x0), none], [], (N, S, H)) (none, M')) (h2 : pj_Ends 109 (81, L, st, M') o) : pj_Ends 109 (78, L, .ref x0 :: st, (N, S, H)) o := ec_v1 q109_78 (Or.inl rfl) h4 hu rfl h1 h2
theorem q109_81 : pj_row 109 81 = some (.iload 5, 2, 0, 0, 0) := by decide +kernel
theorem s109_81 {st : List Value} {M : pj_Mem} {l : pj_Loc} {a0 a1 a2 a3 a4 : Option Value} {x : Int32} : pj_step 109 (81, a0 :: a1 :: a2 :: a3 :: a4 :: some (.int x) :: l, st, M) = some (83, a0 :: a1 :: a2 :: a3 :: a4 :: some (.int x) :: l, .int x :: st, M) := st_iload q109_81 rfl
theorem x109_81 {st : List Value} {M : pj_Mem} {l : pj_Loc} {a0 a1 a2 a3 a4 : Option Value} {x : Int32} {o9 : Option Value × pj_Mem} : pj_Ends 109 (81, a0 :: a1 :: a2 :: a3 :: a4 :: some (.int x) :: l, st, M) o9 = pj_Ends 109 (83, a0 :: a1 :: a2 :: a3 :: a4 :: some (.int x) :: l, .int x :: st, M) o9 := pj_xs (s109_81)
theorem q109_83 : pj_row 109 83 = some (.ifCond .ne 10, 3, 93, 0, 0) := by decide +kernel
theorem s109_83 {L : pj_Loc} {st : List Value} {M : pj_Mem} {x : Int32} : pj_step 109 (83, L, .int x :: st, M) = some (if ¬ x = 0 then 93 else 86, L, st, M) := st_if_ne q109_83
theorem x109_83 {L : pj_Loc} {st : List Value} {M : pj_Mem} {x : Int32} {o9 : Option Value × pj_Mem} : pj_Ends 109 (83, L, .int x :: st, M) o9 = pj_Ends 109 (if ¬ x = 0 then 93 else 86, L, st, M) o9 := pj_xs (s109_83)
theorem q109_86 : pj_row 109 86 = some (.aload_n 0, 1, 0, 0, 0) := by decide +kernel
theorem s109_86 {st : List Value} {M : pj_Mem} {l : pj_Loc} {x : Nat} : pj_step 109 (86, some (.ref x) :: l, st, M) = some (87, some (.ref x) :: l, .ref x :: st, M) := st_aload_n q109_86 rfl
theorem x109_86 {st : List Value} {M : pj_Mem} {l : pj_Loc} {x : Nat} {o9 : Option Value × pj_Mem} : pj_Ends 109 (86, some (.ref x) :: l, st, M) o9 = pj_Ends 109 (87, some (.ref x) :: l, .ref x :: st, M) o9 := pj_xs (s109_86)
theorem q109_87 : pj_row 109 87 = some (.getfield 75, 3, 6, 11, 0) := by decide +kernel
theorem s109_87 {L : pj_Loc} {st : List Value} {N S : Nat} {H : pj_Heap} {o : Nat} : pj_step 109 (87, L, .ref o :: st, (N, S, H)) = pj_pv 90 L st (N, S, H) (pj_fld (H o) 6 11) := st_getfield q109_87
theorem x109_87 {L : pj_Loc} {st : List Value} {N S : Nat} {H : pj_Heap} {o : Nat} {o9 : Option Value × pj_Mem} : pj_Ends 109 (87, L, .ref o :: st, (N, S, H)) o9 = pj_then 109 o9 (pj_pv 90 L st (N, S, H) (pj_fld (H o) 6 11)) := pj_xt q109_87 rfl (pj_cl_nc rfl) (s109_87)
theorem q109_90 : pj_row 109 90 = some (.goto 58, 3, 148, 0, 0) := by decide +kernel
theorem s109_90 {L : pj_Loc} {st : List Value} {M : pj_Mem}  : pj_step 109 (90, L, st, M) = some (148, L, st, M) := st_goto q109_90
theorem x109_90 {L : pj_Loc} {st : List Value} {M : pj_Mem}  {o9 : Option Value × pj_Mem} : pj_Ends 109 (90, L, st, M) o9 = pj_Ends 109 (148, L, st, M) o9 := pj_xs (s109_90)
theorem q109_93 : pj_row 109 93 = some (.iload 5, 2, 0, 0, 0) := by decide +kernel
theorem s109_93 {st : List Value} {M : pj_Mem} {l : pj_Loc} {a0 a1 a2 a3 a4 : Option Value} {x : Int32} : pj_step 109 (93, a0 :: a1 :: a2 :: a3 :: a4 :: some (.int x) :: l, st, M) = some (95, a0 :: a1 :: a2 :: a3 :: a4 :: some (.int x) :: l, .int x :: st, M) := st_iload q109_93 rfl
theorem x109_93 {st : List Value} {M : pj_Mem} {l : pj_Loc} {a0 a1 a2 a3 a4 : Option Value} {x : Int32} {o9 : Option Value × pj_Mem} : pj_Ends 109 (93, a0 :: a1 :: a2 :: a3 :: a4 :: some (.int x) :: l, st, M) o9 = pj_Ends 109 (95, a0 :: a1 :: a2 :: a3 :: a4 :: some (.int x) :: l, .int x :: st, M) o9 := pj_xs (s109_93)
theorem q109_95 : pj_row 109 95 = some (.iconst 1, 1, 0, 0, 0) := by decide +kernel
theorem s109_95 {L : pj_Loc} {st : List Value} {M : pj_Mem}  : pj_step 109 (95, L, st, M) = some (96, L, .int 1 :: st, M) := st_iconst q109_95 (by decide +kernel)
theorem x109_95 {L : pj_Loc} {st : List Value} {M : pj_Mem}  {o9 : Option Value × pj_Mem} : pj_Ends 109 (95, L, st, M) o9 = pj_Ends 109 (96, L, .int 1 :: st, M) o9 := pj_xs (s109_95)
theorem q109_96 : pj_row 109 96 = some (.if_icmp .ne 13, 3, 109, 0, 0) := by decide +kernel
theorem s109_96 {L : pj_Loc} {st : List Value} {M : pj_Mem} {x y : Int32} : pj_step 109 (96, L, .int y :: .int x :: st, M) = some (if ¬ x = y then 109 else 99, L, st, M) := st_icmp_ne q109_96
theorem x109_96 {L : pj_Loc} {st : List Value} {M : pj_Mem} {x y : Int32} {o9 : Option Value × pj_Mem} : pj_Ends 109 (96, L, .int y :: .int x :: st, M) o9 = pj_Ends 109 (if ¬ x = y then 109 else 99, L, st, M) o9 := pj_xs (s109_96)
theorem q109_99 : pj_row 109 99 = some (.aload_n 0, 1, 0, 0, 0) := by decide +kernel
theorem s109_99 {st : List Value} {M : pj_Mem} {l : pj_Loc} {x : Nat} : pj_step 109 (99, some (.ref x) :: l, st, M) = some (100, some (.ref x) :: l, .ref x :: st, M) := st_aload_n q109_99 rfl
theorem x109_99 {st : List Value} {M : pj_Mem} {l : pj_Loc} {x : Nat} {o9 : Option Value × pj_Mem} : pj_Ends 109 (99, some (.ref x) :: l, st, M) o9 = pj_Ends 109 (100, some (.ref x) :: l, .ref x :: st, M) o9 := pj_xs (s109_99)
theorem q109_100 : pj_row 109 100 = some (.getfield 56, 3, 6, 8, 0) := by decide +kernel
theorem s109_100 {L : pj_Loc} {st : List Value} {N S : Nat} {H : pj_Heap} {o : Nat} : pj_step 109 (100, L, .ref o :: st, (N, S, H)) = pj_pv 103 L st (N, S, H) (pj_fld (H o) 6 8) := st_getfield q109_100
theorem x109_100 {L : pj_Loc} {st : List Value} {N S : Nat} {H : pj_Heap} {o : Nat} {o9 : Option Value × pj_Mem} : pj_Ends 109 (100, L, .ref o :: st, (N, S, H)) o9 = pj_then 109 o9 (pj_pv 103 L st (N, S, H) (pj_fld (H o) 6 8)) := pj_xt q109_100 rfl (pj_cl_nc rfl) (s109_100)
theorem q109_103 : pj_row 109 103 = some (.ldc 81, 2, 0, 0, 100000) := by decide +kernel
theorem s109_103 {L : pj_Loc} {st : List Value} {M : pj_Mem}  : pj_step 109 (103, L, st, M) = some (105, L, .int 100000 :: st, M) := st_ldc q109_103 (by decide +kernel)
theorem x109_103 {L : pj_Loc} {st : List Value} {M : pj_Mem}  {o9 : Option Value × pj_Mem} : pj_Ends 109 (103, L, st, M) o9 = pj_Ends 109 (105, L, .int 100000 :: st, M) o9 := pj_xs (s109_103)
theorem q109_105 : pj_row 109 105 = some (.iadd, 1, 0, 0, 0) := by decide +kernel
theorem s109_105 {L : pj_Loc} {st : List Value} {M : pj_Mem} {x y : Int32} : pj_step 109 (105, L, .int y :: .int x :: st, M) = some (106, L, .int (x + y) :: st, M) := st_iadd q109_105
theorem x109_105 {L : pj_Loc} {st : List Value} {M : pj_Mem} {x y : Int32} {o9 : Option Value × pj_Mem} : pj_Ends 109 (105, L, .int y :: .int x :: st, M) o9 = pj_Ends 109 (106, L, .int (x + y) :: st, M) o9 := pj_xs (s109_105)
theorem q109_106 : pj_row 109 106 = some (.goto 42, 3, 148, 0, 0) := by decide +kernel
theorem s109_106 {L : pj_Loc} {st : List Value} {M : pj_Mem}  : pj_step 109 (106, L, st, M) = some (148, L, st, M) := st_goto q109_106
theorem x109_106 {L : pj_Loc} {st : List Value} {M : pj_Mem}  {o9 : Option Value × pj_Mem} : pj_Ends 109 (106, L, st, M) o9 = pj_Ends 109 (148, L, st, M) o9 := pj_xs (s109_106)
theorem q109_109 : pj_row 109 109 = some (.iload 5, 2, 0, 0, 0) := by decide +kernel
theorem s109_109 {st : List Value} {M : pj_Mem} {l : pj_Loc} {a0 a1 a2 a3 a4 : Option Value} {x : Int32} : pj_step 109 (109, a0 :: a1 :: a2 :: a3 :: a4 :: some (.int x) :: l, st, M) = some (111, a0 :: a1 :: a2 :: a3 :: a4 :: some (.int x) :: l, .int x :: st, M) := st_iload q109_109 rfl
theorem x109_109 {st : List Value} {M : pj_Mem} {l : pj_Loc} {a0 a1 a2 a3 a4 : Option Value} {x : Int32} {o9 : Option Value × pj_Mem} : pj_Ends 109 (109, a0 :: a1 :: a2 :: a3 :: a4 :: some (.int x) :: l, st, M) o9 = pj_Ends 109 (111, a0 :: a1 :: a2 :: a3 :: a4 :: some (.int x) :: l, .int x :: st, M) o9 := pj_xs (s109_109)
theorem q109_111 : pj_row 109 111 = some (.iconst 2, 1, 0, 0, 0) := by decide +kernel
theorem s109_111 {L : pj_Loc} {st : List Value} {M : pj_Mem}  : pj_step 109 (111, L, st, M) = some (112, L, .int 2 :: st, M) := st_iconst q109_111 (by decide +kernel)
theorem x109_111 {L : pj_Loc} {st : List Value} {M : pj_Mem}  {o9 : Option Value × pj_Mem} : pj_Ends 109 (111, L, st, M) o9 = pj_Ends 109 (112, L, .int 2 :: st, M) o9 := pj_xs (s109_111)
theorem q109_112 : pj_row 109 112 = some (.if_icmp .ne 8, 3, 120, 0, 0) := by decide +kernel
theorem s109_112 {L : pj_Loc} {st : List Value} {M : pj_Mem} {x y : Int32} : pj_step 109 (112, L, .int y :: .int x :: st, M) = some (if ¬ x = y then 120 else 115, L, st, M) := st_icmp_ne q109_112
theorem x109_112 {L : pj_Loc} {st : List Value} {M : pj_Mem} {x y : Int32} {o9 : Option Value × pj_Mem} : pj_Ends 109 (112, L, .int y :: .int x :: st, M) o9 = pj_Ends 109 (if ¬ x = y then 120 else 115, L, st, M) o9 := pj_xs (s109_112)
theorem q109_115 : pj_row 109 115 = some (.iload 6, 2, 0, 0, 0) := by decide +kernel
theorem s109_115 {st : List Value} {M : pj_Mem} {l : pj_Loc} {a0 a1 a2 a3 a4 a5 : Option Value} {x : Int32} : pj_step 109 (115, a0 :: a1 :: a2 :: a3 :: a4 :: a5 :: some (.int x) :: l, st, M) = some (117, a0 :: a1 :: a2 :: a3 :: a4 :: a5 :: some (.int x) :: l, .int x :: st, M) := st_iload q109_115 rfl
theorem x109_115 {st : List Value} {M : pj_Mem} {l : pj_Loc} {a0 a1 a2 a3 a4 a5 : Option Value} {x : Int32} {o9 : Option Value × pj_Mem} : pj_Ends 109 (115, a0 :: a1 :: a2 :: a3 :: a4 :: a5 :: some (.int x) :: l, st, M) o9 = pj_Ends 109 (117, a0 :: a1 :: a2 :: a3 :: a4 :: a5 :: some (.int x) :: l, .int x :: st, M) o9 := pj_xs (s109_115)
theorem q109_117 : pj_row 109 117 = some (.goto 31, 3, 148, 0, 0) := by decide +kernel
theorem s109_117 {L : pj_Loc} {st : List Value} {M : pj_Mem}  : pj_step 109 (117, L, st, M) = some (148, L, st, M) := st_goto q109_117
theorem x109_117 {L : pj_Loc} {st : List Value} {M : pj_Mem}  {o9 : Option Value × pj_Mem} : pj_Ends 109 (117, L, st, M) o9 = pj_Ends 109 (148, L, st, M) o9 := pj_xs (s109_117)
theorem q109_120 : pj_row 109 120 = some (.iload 5, 2, 0, 0, 0) := by decide +kernel
theorem s109_120 {st : List Value} {M : pj_Mem} {l : pj_Loc} {a0 a1 a2 a3 a4 : Option Value} {x : Int32} : pj_step 109 (120, a0 :: a1 :: a2 :: a3 :: a4 :: some (.int x) :: l, st, M) = some (122, a0 :: a1 :: a2 :: a3 :: a4 :: some (.int x) :: l, .int x :: st, M) := st_iload q109_120 rfl
theorem x109_120 {st : List Value} {M : pj_Mem} {l : pj_Loc} {a0 a1 a2 a3 a4 : Option Value} {x : Int32} {o9 : Option Value × pj_Mem} : pj_Ends 109 (120, a0 :: a1 :: a2 :: a3 :: a4 :: some (.int x) :: l, st, M) o9 = pj_Ends 109 (122, a0 :: a1 :: a2 :: a3 :: a4 :: some (.int x) :: l, .int x :: st, M) o9 := pj_xs (s109_120)
theorem q109_122 : pj_row 109 122 = some (.iconst 3, 1, 0, 0, 0) := by decide +kernel
theorem s109_122 {L : pj_Loc} {st : List Value} {M : pj_Mem}  : pj_step 109 (122, L, st, M) = some (123, L, .int 3 :: st, M) := st_iconst q109_122 (by decide +kernel)
theorem x109_122 {L : pj_Loc} {st : List Value} {M : pj_Mem}  {o9 : Option Value × pj_Mem} : pj_Ends 109 (122, L, st, M) o9 = pj_Ends 109 (123, L, .int 3 :: st, M) o9 := pj_xs (s109_122)
theorem q109_123 : pj_row 109 123 = some (.if_icmp .ne 10, 3, 133, 0, 0) := by decide +kernel
theorem s109_123 {L : pj_Loc} {st : List Value} {M : pj_Mem} {x y : Int32} : pj_step 109 (123, L, .int y :: .int x :: st, M) = some (if ¬ x = y then 133 else 126, L, st, M) := st_icmp_ne q109_123
theorem x109_123 {L : pj_Loc} {st : List Value} {M : pj_Mem} {x y : Int32} {o9 : Option Value × pj_Mem} : pj_Ends 109 (123, L, .int y :: .int x :: st, M) o9 = pj_Ends 109 (if ¬ x = y then 133 else 126, L, st, M) o9 := pj_xs (s109_123)
theorem q109_126 : pj_row 109 126 = some (.aload_n 0, 1, 0, 0, 0) := by decide +kernel
theorem s109_126 {st : List Value} {M : pj_Mem} {l : pj_Loc} {x : Nat} : pj_step 109 (126, some (.ref x) :: l, st, M) = some (127, some (.ref x) :: l, .ref x :: st, M) := st_aload_n q109_126 rfl
theorem x109_126 {st : List Value} {M : pj_Mem} {l : pj_Loc} {x : Nat} {o9 : Option Value × pj_Mem} : pj_Ends 109 (126, some (.ref x) :: l, st, M) o9 = pj_Ends 109 (127, some (.ref x) :: l, .ref x :: st, M) o9 := pj_xs (s109_126)
theorem q109_127 : pj_row 109 127 = some (.getfield 72, 3, 6, 9, 0) := by decide +kernel
theorem s109_127 {L : pj_Loc} {st : List Value} {N S : Nat} {H : pj_Heap} {o : Nat} : pj_step 109 (127, L, .ref o :: st, (N, S, H)) = pj_pv 130 L st (N, S, H) (pj_fld (H o) 6 9) := st_getfield q109_127
theorem x109_127 {L : pj_Loc} {st : List Value} {N S : Nat} {H : pj_Heap} {o : Nat} {o9 : Option Value × pj_Mem} : pj_Ends 109 (127, L, .ref o :: st, (N, S, H)) o9 = pj_then 109 o9 (pj_pv 130 L st (N, S, H) (pj_fld (H o) 6 9)) := pj_xt q109_127 rfl (pj_cl_nc rfl) (s109_127)
theorem q109_130 : pj_row 109 130 = some (.goto 18, 3, 148, 0, 0) := by decide +kernel
theorem s109_130 {L : pj_Loc} {st : List Value} {M : pj_Mem}  : pj_step 109 (130, L, st, M) = some (148, L, st, M) := st_goto q109_130
theorem x109_130 {L : pj_Loc} {st : List Value} {M : pj_Mem}  {o9 : Option Value × pj_Mem} : pj_Ends 109 (130, L, st, M) o9 = pj_Ends 109 (148, L, st, M) o9 := pj_xs (s109_130)
theorem q109_133 : pj_row 109 133 = some (.iload 5, 2, 0, 0, 0) := by decide +kernel
theorem s109_133 {st : List Value} {M : pj_Mem} {l : pj_Loc} {a0 a1 a2 a3 a4 : Option Value} {x : Int32} : pj_step 109 (133, a0 :: a1 :: a2 :: a3 :: a4 :: some (.int x) :: l, st, M) = some (135, a0 :: a1 :: a2 :: a3 :: a4 :: some (.int x) :: l, .int x :: st, M) := st_iload q109_133 rfl
theorem x109_133 {st : List Value} {M : pj_Mem} {l : pj_Loc} {a0 a1 a2 a3 a4 : Option Value} {x : Int32} {o9 : Option Value × pj_Mem} : pj_Ends 109 (133, a0 :: a1 :: a2 :: a3 :: a4 :: some (.int x) :: l, st, M) o9 = pj_Ends 109 (135, a0 :: a1 :: a2 :: a3 :: a4 :: some (.int x) :: l, .int x :: st, M) o9 := pj_xs (s109_133)
theorem q109_135 : pj_row 109 135 = some (.iconst 4, 1, 0, 0, 0) := by decide +kernel
theorem s109_135 {L : pj_Loc} {st : List Value} {M : pj_Mem}  : pj_step 109 (135, L, st, M) = some (136, L, .int 4 :: st, M) := st_iconst q109_135 (by decide +kernel)
theorem x109_135 {L : pj_Loc} {st : List Value} {M : pj_Mem}  {o9 : Option Value × pj_Mem} : pj_Ends 109 (135, L, st, M) o9 = pj_Ends 109 (136, L, .int 4 :: st, M) o9 := pj_xs (s109_135)
theorem q109_136 : pj_row 109 136 = some (.if_icmp .ne 10, 3, 146, 0, 0) := by decide +kernel
theorem s109_136 {L : pj_Loc} {st : List Value} {M : pj_Mem} {x y : Int32} : pj_step 109 (136, L, .int y :: .int x :: st, M) = some (if ¬ x = y then 146 else 139, L, st, M) := st_icmp_ne q109_136
theorem x109_136 {L : pj_Loc} {st : List Value} {M : pj_Mem} {x y : Int32} {o9 : Option Value × pj_Mem} : pj_Ends 109 (136, L, .int y :: .int x :: st, M) o9 = pj_Ends 109 (if ¬ x = y then 146 else 139, L, st, M) o9 := pj_xs (s109_136)
theorem q109_139 : pj_row 109 139 = some (.aload_n 0, 1, 0, 0, 0) := by decide +kernel
theorem s109_139 {st : List Value} {M : pj_Mem} {l : pj_Loc} {x : Nat} : pj_step 109 (139, some (.ref x) :: l, st, M) = some (140, some (.ref x) :: l, .ref x :: st, M) := st_aload_n q109_139 rfl
theorem x109_139 {st : List Value} {M : pj_Mem} {l : pj_Loc} {x : Nat} {o9 : Option Value × pj_Mem} : pj_Ends 109 (139, some (.ref x) :: l, st, M) o9 = pj_Ends 109 (140, some (.ref x) :: l, .ref x :: st, M) o9 := pj_xs (s109_139)
theorem q109_140 : pj_row 109 140 = some (.getfield 65, 3, 6, 10, 0) := by decide +kernel
theorem s109_140 {L : pj_Loc} {st : List Value} {N S : Nat} {H : pj_Heap} {o : Nat} : pj_step 109 (140, L, .ref o :: st, (N, S, H)) = pj_pv 143 L st (N, S, H) (pj_fld (H o) 6 10) := st_getfield q109_140
theorem x109_140 {L : pj_Loc} {st : List Value} {N S : Nat} {H : pj_Heap} {o : Nat} {o9 : Option Value × pj_Mem} : pj_Ends 109 (140, L, .ref o :: st, (N, S, H)) o9 = pj_then 109 o9 (pj_pv 143 L st (N, S, H) (pj_fld (H o) 6 10)) := pj_xt q109_140 rfl (pj_cl_nc rfl) (s109_140)
theorem q109_143 : pj_row 109 143 = some (.goto 5, 3, 148, 0, 0) := by decide +kernel
theorem s109_143 {L : pj_Loc} {st : List Value} {M : pj_Mem}  : pj_step 109 (143, L, st, M) = some (148, L, st, M) := st_goto q109_143
theorem x109_143 {L : pj_Loc} {st : List Value} {M : pj_Mem}  {o9 : Option Value × pj_Mem} : pj_Ends 109 (143, L, st, M) o9 = pj_Ends 109 (148, L, st, M) o9 := pj_xs (s109_143)
theorem q109_146 : pj_row 109 146 = some (.iload 7, 2, 0, 0, 0) := by decide +kernel
theorem s109_146 {st : List Value} {M : pj_Mem} {l : pj_Loc} {a0 a1 a2 a3 a4 a5 a6 : Option Value} {x : Int32} : pj_step 109 (146, a0 :: a1 :: a2 :: a3 :: a4 :: a5 :: a6 :: some (.int x) :: l, st, M) = some (148, a0 :: a1 :: a2 :: a3 :: a4 :: a5 :: a6 :: some (.int x) :: l, .int x :: st, M) := st_iload q109_146 rfl
theorem x109_146 {st : List Value} {M : pj_Mem} {l : pj_Loc} {a0 a1 a2 a3 a4 a5 a6 : Option Value} {x : Int32} {o9 : Option Value × pj_Mem} : pj_Ends 109 (146, a0 :: a1 :: a2 :: a3 :: a4 :: a5 :: a6 :: some (.int x) :: l, st, M) o9 = pj_Ends 109 (148, a0 :: a1 :: a2 :: a3 :: a4 :: a5 :: a6 :: some (.int x) :: l, .int x :: st, M) o9 := pj_xs (s109_146)
theorem q109_148 : pj_row 109 148 = some (.ireturn, 1, 0, 0, 0) := by decide +kernel
theorem t109_148 {L : pj_Loc} {M : pj_Mem} {v : Int32} : pj_Ends 109 (148, L, [.int v], M) (some (.int v), M) := pj_Ends.ret q109_148 (pj_rtn_i rt109)
theorem rt110 : pj_rt 110 = none := rfl
theorem q110_0 : pj_row 110 0 = some (.iconst 0, 1, 0, 0, 0) := by decide +kernel
theorem s110_0 {L : pj_Loc} {st : List Value} {M : pj_Mem}  : pj_step 110 (0, L, st, M) = some (1, L, .int 0 :: st, M) := st_iconst q110_0 (by decide +kernel)
theorem x110_0 {L : pj_Loc} {st : List Value} {M : pj_Mem}  {o9 : Option Value × pj_Mem} : pj_Ends 110 (0, L, st, M) o9 = pj_Ends 110 (1, L, .int 0 :: st, M) o9 := pj_xs (s110_0)
theorem q110_1 : pj_row 110 1 = some (.istore_n 1, 1, 0, 0, 0) := by decide +kernel
theorem s110_1 {st : List Value} {M : pj_Mem} {l : pj_Loc} {a0 a1 : Option Value} {x : Int32} (h : pj_long a0 = false) : pj_step 110 (1, a0 :: a1 :: l, .int x :: st, M) = some (2, a0 :: some (.int x) :: l, st, M) := st_istore_n q110_1 (pj_st_1 h)
theorem x110_1 {st : List Value} {M : pj_Mem} {l : pj_Loc} {a0 a1 : Option Value} {x : Int32} (h : pj_long a0 = false) {o9 : Option Value × pj_Mem} : pj_Ends 110 (1, a0 :: a1 :: l, .int x :: st, M) o9 = pj_Ends 110 (2, a0 :: some (.int x) :: l, st, M) o9 := pj_xs (s110_1 h)
theorem q110_2 : pj_row 110 2 = some (.iload_n 1, 1, 0, 0, 0) := by decide +kernel
theorem s110_2 {st : List Value} {M : pj_Mem} {l : pj_Loc} {a0 : Option Value} {x : Int32} : pj_step 110 (2, a0 :: some (.int x) :: l, st, M) = some (3, a0 :: some (.int x) :: l, .int x :: st, M) := st_iload_n q110_2 rfl
theorem x110_2 {st : List Value} {M : pj_Mem} {l : pj_Loc} {a0 : Option Value} {x : Int32} {o9 : Option Value × pj_Mem} : pj_Ends 110 (2, a0 :: some (.int x) :: l, st, M) o9 = pj_Ends 110 (3, a0 :: some (.int x) :: l, .int x :: st, M) o9 := pj_xs (s110_2)
theorem q110_3 : pj_row 110 3 = some (.sipush 152, 3, 0, 0, 0) := by decide +kernel
theorem s110_3 {L : pj_Loc} {st : List Value} {M : pj_Mem}  : pj_step 110 (3, L, st, M) = some (6, L, .int 152 :: st, M) := st_sipush q110_3 (by decide +kernel)
theorem x110_3 {L : pj_Loc} {st : List Value} {M : pj_Mem}  {o9 : Option Value × pj_Mem} : pj_Ends 110 (3, L, st, M) o9 = pj_Ends 110 (6, L, .int 152 :: st, M) o9 := pj_xs (s110_3)
theorem q110_6 : pj_row 110 6 = some (.if_icmp .ge 21, 3, 27, 0, 0) := by decide +kernel
theorem s110_6 {L : pj_Loc} {st : List Value} {M : pj_Mem} {x y : Int32} : pj_step 110 (6, L, .int y :: .int x :: st, M) = some (if y ≤ x then 27 else 9, L, st, M) := st_icmp_ge q110_6
theorem x110_6 {L : pj_Loc} {st : List Value} {M : pj_Mem} {x y : Int32} {o9 : Option Value × pj_Mem} : pj_Ends 110 (6, L, .int y :: .int x :: st, M) o9 = pj_Ends 110 (if y ≤ x then 27 else 9, L, st, M) o9 := pj_xs (s110_6)
theorem q110_9 : pj_row 110 9 = some (.aload_n 0, 1, 0, 0, 0) := by decide +kernel
theorem s110_9 {st : List Value} {M : pj_Mem} {l : pj_Loc} {x : Nat} : pj_step 110 (9, some (.ref x) :: l, st, M) = some (10, some (.ref x) :: l, .ref x :: st, M) := st_aload_n q110_9 rfl
theorem x110_9 {st : List Value} {M : pj_Mem} {l : pj_Loc} {x : Nat} {o9 : Option Value × pj_Mem} : pj_Ends 110 (9, some (.ref x) :: l, st, M) o9 = pj_Ends 110 (10, some (.ref x) :: l, .ref x :: st, M) o9 := pj_xs (s110_9)
theorem q110_10 : pj_row 110 10 = some (.getfield 7, 3, 6, 0, 0) := by decide +kernel
theorem s110_10 {L : pj_Loc} {st : List Value} {N S : Nat} {H : pj_Heap} {o : Nat} : pj_step 110 (10, L, .ref o :: st, (N, S, H)) = pj_pv 13 L st (N, S, H) (pj_fld (H o) 6 0) := st_getfield q110_10
theorem x110_10 {L : pj_Loc} {st : List Value} {N S : Nat} {H : pj_Heap} {o : Nat} {o9 : Option Value × pj_Mem} : pj_Ends 110 (10, L, .ref o :: st, (N, S, H)) o9 = pj_then 110 o9 (pj_pv 13 L st (N, S, H) (pj_fld (H o) 6 0)) := pj_xt q110_10 rfl (pj_cl_nc rfl) (s110_10)
theorem q110_13 : pj_row 110 13 = some (.iload_n 1, 1, 0, 0, 0) := by decide +kernel
theorem s110_13 {st : List Value} {M : pj_Mem} {l : pj_Loc} {a0 : Option Value} {x : Int32} : pj_step 110 (13, a0 :: some (.int x) :: l, st, M) = some (14, a0 :: some (.int x) :: l, .int x :: st, M) := st_iload_n q110_13 rfl
theorem x110_13 {st : List Value} {M : pj_Mem} {l : pj_Loc} {a0 : Option Value} {x : Int32} {o9 : Option Value × pj_Mem} : pj_Ends 110 (13, a0 :: some (.int x) :: l, st, M) o9 = pj_Ends 110 (14, a0 :: some (.int x) :: l, .int x :: st, M) o9 := pj_xs (s110_13)
theorem q110_14 : pj_row 110 14 = some (.aload_n 0, 1, 0, 0, 0) := by decide +kernel
theorem s110_14 {st : List Value} {M : pj_Mem} {l : pj_Loc} {x : Nat} : pj_step 110 (14, some (.ref x) :: l, st, M) = some (15, some (.ref x) :: l, .ref x :: st, M) := st_aload_n q110_14 rfl
theorem x110_14 {st : List Value} {M : pj_Mem} {l : pj_Loc} {x : Nat} {o9 : Option Value × pj_Mem} : pj_Ends 110 (14, some (.ref x) :: l, st, M) o9 = pj_Ends 110 (15, some (.ref x) :: l, .ref x :: st, M) o9 := pj_xs (s110_14)
theorem q110_15 : pj_row 110 15 = some (.getfield 13, 3, 6, 1, 0) := by decide +kernel
theorem s110_15 {L : pj_Loc} {st : List Value} {N S : Nat} {H : pj_Heap} {o : Nat} : pj_step 110 (15, L, .ref o :: st, (N, S, H)) = pj_pv 18 L st (N, S, H) (pj_fld (H o) 6 1) := st_getfield q110_15
theorem x110_15 {L : pj_Loc} {st : List Value} {N S : Nat} {H : pj_Heap} {o : Nat} {o9 : Option Value × pj_Mem} : pj_Ends 110 (15, L, .ref o :: st, (N, S, H)) o9 = pj_then 110 o9 (pj_pv 18 L st (N, S, H) (pj_fld (H o) 6 1)) := pj_xt q110_15 rfl (pj_cl_nc rfl) (s110_15)
theorem q110_18 : pj_row 110 18 = some (.iload_n 1, 1, 0, 0, 0) := by decide +kernel
theorem s110_18 {st : List Value} {M : pj_Mem} {l : pj_Loc} {a0 : Option Value} {x : Int32} : pj_step 110 (18, a0 :: some (.int x) :: l, st, M) = some (19, a0 :: some (.int x) :: l, .int x :: st, M) := st_iload_n q110_18 rfl
theorem x110_18 {st : List Value} {M : pj_Mem} {l : pj_Loc} {a0 : Option Value} {x : Int32} {o9 : Option Value × pj_Mem} : pj_Ends 110 (18, a0 :: some (.int x) :: l, st, M) o9 = pj_Ends 110 (19, a0 :: some (.int x) :: l, .int x :: st, M) o9 := pj_xs (s110_18)
theorem q110_19 : pj_row 110 19 = some (.iaload, 1, 0, 0, 0) := by decide +kernel
theorem s110_19 {L : pj_Loc} {st : List Value} {N S : Nat} {H : pj_Heap} {o : Nat} {i : Int32} : pj_step 110 (19, L, .int i :: .ref o :: st, (N, S, H)) = pj_pi 20 L st (N, S, H) (pj_arl (H o) 0 i) := st_iaload q110_19
theorem x110_19 {L : pj_Loc} {st : List Value} {N S : Nat} {H : pj_Heap} {o : Nat} {i : Int32} {o9 : Option Value × pj_Mem} : pj_Ends 110 (19, L, .int i :: .ref o :: st, (N, S, H)) o9 = pj_then 110 o9 (pj_pi 20 L st (N, S, H) (pj_arl (H o) 0 i)) := pj_xt q110_19 rfl (pj_cl_nc rfl) (s110_19)
theorem q110_20 : pj_row 110 20 = some (.iastore, 1, 0, 0, 0) := by decide +kernel
theorem s110_20 {L : pj_Loc} {st : List Value} {N S : Nat} {H : pj_Heap} {o : Nat} {i x : Int32} : pj_step 110 (20, L, .int x :: .int i :: .ref o :: st, (N, S, H)) = pj_set 21 L st (N, S, H) o (pj_ars (H o) 0 i x) := st_iastore q110_20
theorem x110_20 {L : pj_Loc} {st : List Value} {N S : Nat} {H : pj_Heap} {o : Nat} {i x : Int32} {o9 : Option Value × pj_Mem} : pj_Ends 110 (20, L, .int x :: .int i :: .ref o :: st, (N, S, H)) o9 = pj_then 110 o9 (pj_set 21 L st (N, S, H) o (pj_ars (H o) 0 i x)) := pj_xt q110_20 rfl (pj_cl_nc rfl) (s110_20)
theorem q110_21 : pj_row 110 21 = some (.iinc 1 1, 3, 0, 0, 0) := by decide +kernel
theorem s110_21 {st : List Value} {M : pj_Mem} {l : pj_Loc} {a0 : Option Value} {x : Int32} (h : pj_long a0 = false) : pj_step 110 (21, a0 :: some (.int x) :: l, st, M) = some (24, a0 :: some (.int (x + 1)) :: l, st, M) := st_iinc q110_21 rfl (congrArg (fun y => x + y) (show Int32.ofInt 1 = 1 by decide +kernel)) (pj_st_1 h)
theorem x110_21 {st : List Value} {M : pj_Mem} {l : pj_Loc} {a0 : Option Value} {x : Int32} (h : pj_long a0 = false) {o9 : Option Value × pj_Mem} : pj_Ends 110 (21, a0 :: some (.int x) :: l, st, M) o9 = pj_Ends 110 (24, a0 :: some (.int (x + 1)) :: l, st, M) o9 := pj_xs (s110_21 h)
theorem q110_24 : pj_row 110 24 = some (.goto (-22), 3, 2, 0, 0) := by decide +kernel
theorem s110_24 {L : pj_Loc} {st : List Value} {M : pj_Mem}  : pj_step 110 (24, L, st, M) = some (2, L, st, M) := st_goto q110_24
theorem x110_24 {L : pj_Loc} {st : List Value} {M : pj_Mem}  {o9 : Option Value × pj_Mem} : pj_Ends 110 (24, L, st, M) o9 = pj_Ends 110 (2, L, st, M) o9 := pj_xs (s110_24)
theorem q110_27 : pj_row 110 27 = some (.return_, 1, 0, 0, 0) := by decide +kernel
theorem t110_27 {L : pj_Loc} {M : pj_Mem} : pj_Ends 110 (27, L, [], M) (none, M) := pj_Ends.ret q110_27 (pj_rtn_v rt110)
theorem rt111 : pj_rt 111 = some .int := rfl
theorem q111_0 : pj_row 111 0 = some (.iload_n 1, 1, 0, 0, 0) := by decide +kernel
theorem s111_0 {st : List Value} {M : pj_Mem} {l : pj_Loc} {a0 : Option Value} {x : Int32} : pj_step 111 (0, a0 :: some (.int x) :: l, st, M) = some (1, a0 :: some (.int x) :: l, .int x :: st, M) := st_iload_n q111_0 rfl
theorem x111_0 {st : List Value} {M : pj_Mem} {l : pj_Loc} {a0 : Option Value} {x : Int32} {o9 : Option Value × pj_Mem} : pj_Ends 111 (0, a0 :: some (.int x) :: l, st, M) o9 = pj_Ends 111 (1, a0 :: some (.int x) :: l, .int x :: st, M) o9 := pj_xs (s111_0)
theorem q111_1 : pj_row 111 1 = some (.invokestatic 137, 3, 100, 1, 0) := by decide +kernel
theorem e111_1 {L : pj_Loc} {st : List Value} {N S : Nat} {H : pj_Heap} {o : Option Value × pj_Mem} {M' : pj_Mem} {x0 : Int32} {r : Int32} (h4 : pj_le4 st = true) (h1 : pj_Ends 100 (0, [some (.int x0)], [], (N, S, H)) (some (.int r), M')) (h2 : pj_Ends 111 (4, L, .int r :: st, M') o) : pj_Ends 111 (1, L, .int x0 :: st, (N, S, H)) o := ec_s1 q111_1 (Or.inl rfl) h4 rfl h1 h2
theorem q111_4 : pj_row 111 4 = some (.ifCond .ne 5, 3, 9, 0, 0) := by decide +kernel
theorem s111_4 {L : pj_Loc} {st : List Value} {M : pj_Mem} {x : Int32} : pj_step 111 (4, L, .int x :: st, M) = some (if ¬ x = 0 then 9 else 7, L, st, M) := st_if_ne q111_4
theorem x111_4 {L : pj_Loc} {st : List Value} {M : pj_Mem} {x : Int32} {o9 : Option Value × pj_Mem} : pj_Ends 111 (4, L, .int x :: st, M) o9 = pj_Ends 111 (if ¬ x = 0 then 9 else 7, L, st, M) o9 := pj_xs (s111_4)
theorem q111_7 : pj_row 111 7 = some (.iconst (-1), 1, 0, 0, 0) := by decide +kernel
theorem s111_7 {L : pj_Loc} {st : List Value} {M : pj_Mem}  : pj_step 111 (7, L, st, M) = some (8, L, .int (-1) :: st, M) := st_iconst q111_7 (by decide +kernel)
theorem x111_7 {L : pj_Loc} {st : List Value} {M : pj_Mem}  {o9 : Option Value × pj_Mem} : pj_Ends 111 (7, L, st, M) o9 = pj_Ends 111 (8, L, .int (-1) :: st, M) o9 := pj_xs (s111_7)
theorem q111_8 : pj_row 111 8 = some (.ireturn, 1, 0, 0, 0) := by decide +kernel
theorem t111_8 {L : pj_Loc} {M : pj_Mem} {v : Int32} : pj_Ends 111 (8, L, [.int v], M) (some (.int v), M) := pj_Ends.ret q111_8 (pj_rtn_i rt111)
theorem q111_9 : pj_row 111 9 = some (.sipush (-500), 3, 0, 0, 0) := by decide +kernel
theorem s111_9 {L : pj_Loc} {st : List Value} {M : pj_Mem}  : pj_step 111 (9, L, st, M) = some (12, L, .int (-500) :: st, M) := st_sipush q111_9 (by decide +kernel)
theorem x111_9 {L : pj_Loc} {st : List Value} {M : pj_Mem}  {o9 : Option Value × pj_Mem} : pj_Ends 111 (9, L, st, M) o9 = pj_Ends 111 (12, L, .int (-500) :: st, M) o9 := pj_xs (s111_9)
theorem q111_12 : pj_row 111 12 = some (.istore_n 3, 1, 0, 0, 0) := by decide +kernel
theorem s111_12 {st : List Value} {M : pj_Mem} {l : pj_Loc} {a0 a1 a2 a3 : Option Value} {x : Int32} (h : pj_long a2 = false) : pj_step 111 (12, a0 :: a1 :: a2 :: a3 :: l, .int x :: st, M) = some (13, a0 :: a1 :: a2 :: some (.int x) :: l, st, M) := st_istore_n q111_12 (pj_st_3 h)
theorem x111_12 {st : List Value} {M : pj_Mem} {l : pj_Loc} {a0 a1 a2 a3 : Option Value} {x : Int32} (h : pj_long a2 = false) {o9 : Option Value × pj_Mem} : pj_Ends 111 (12, a0 :: a1 :: a2 :: a3 :: l, .int x :: st, M) o9 = pj_Ends 111 (13, a0 :: a1 :: a2 :: some (.int x) :: l, st, M) o9 := pj_xs (s111_12 h)
theorem q111_13 : pj_row 111 13 = some (.iload_n 3, 1, 0, 0, 0) := by decide +kernel
theorem s111_13 {st : List Value} {M : pj_Mem} {l : pj_Loc} {a0 a1 a2 : Option Value} {x : Int32} : pj_step 111 (13, a0 :: a1 :: a2 :: some (.int x) :: l, st, M) = some (14, a0 :: a1 :: a2 :: some (.int x) :: l, .int x :: st, M) := st_iload_n q111_13 rfl
theorem x111_13 {st : List Value} {M : pj_Mem} {l : pj_Loc} {a0 a1 a2 : Option Value} {x : Int32} {o9 : Option Value × pj_Mem} : pj_Ends 111 (13, a0 :: a1 :: a2 :: some (.int x) :: l, st, M) o9 = pj_Ends 111 (14, a0 :: a1 :: a2 :: some (.int x) :: l, .int x :: st, M) o9 := pj_xs (s111_13)
theorem q111_14 : pj_row 111 14 = some (.sipush 500, 3, 0, 0, 0) := by decide +kernel
theorem s111_14 {L : pj_Loc} {st : List Value} {M : pj_Mem}  : pj_step 111 (14, L, st, M) = some (17, L, .int 500 :: st, M) := st_sipush q111_14 (by decide +kernel)
theorem x111_14 {L : pj_Loc} {st : List Value} {M : pj_Mem}  {o9 : Option Value × pj_Mem} : pj_Ends 111 (14, L, st, M) o9 = pj_Ends 111 (17, L, .int 500 :: st, M) o9 := pj_xs (s111_14)
theorem q111_17 : pj_row 111 17 = some (.if_icmp .gt 31, 3, 48, 0, 0) := by decide +kernel
theorem s111_17 {L : pj_Loc} {st : List Value} {M : pj_Mem} {x y : Int32} : pj_step 111 (17, L, .int y :: .int x :: st, M) = some (if y < x then 48 else 20, L, st, M) := st_icmp_gt q111_17
theorem x111_17 {L : pj_Loc} {st : List Value} {M : pj_Mem} {x y : Int32} {o9 : Option Value × pj_Mem} : pj_Ends 111 (17, L, .int y :: .int x :: st, M) o9 = pj_Ends 111 (if y < x then 48 else 20, L, st, M) o9 := pj_xs (s111_17)
theorem q111_20 : pj_row 111 20 = some (.aload_n 0, 1, 0, 0, 0) := by decide +kernel
theorem s111_20 {st : List Value} {M : pj_Mem} {l : pj_Loc} {x : Nat} : pj_step 111 (20, some (.ref x) :: l, st, M) = some (21, some (.ref x) :: l, .ref x :: st, M) := st_aload_n q111_20 rfl
theorem x111_20 {st : List Value} {M : pj_Mem} {l : pj_Loc} {x : Nat} {o9 : Option Value × pj_Mem} : pj_Ends 111 (20, some (.ref x) :: l, st, M) o9 = pj_Ends 111 (21, some (.ref x) :: l, .ref x :: st, M) o9 := pj_xs (s111_20)
theorem q111_21 : pj_row 111 21 = some (.iload_n 3, 1, 0, 0, 0) := by decide +kernel
theorem s111_21 {st : List Value} {M : pj_Mem} {l : pj_Loc} {a0 a1 a2 : Option Value} {x : Int32} : pj_step 111 (21, a0 :: a1 :: a2 :: some (.int x) :: l, st, M) = some (22, a0 :: a1 :: a2 :: some (.int x) :: l, .int x :: st, M) := st_iload_n q111_21 rfl
theorem x111_21 {st : List Value} {M : pj_Mem} {l : pj_Loc} {a0 a1 a2 : Option Value} {x : Int32} {o9 : Option Value × pj_Mem} : pj_Ends 111 (21, a0 :: a1 :: a2 :: some (.int x) :: l, st, M) o9 = pj_Ends 111 (22, a0 :: a1 :: a2 :: some (.int x) :: l, .int x :: st, M) o9 := pj_xs (s111_21)
theorem q111_22 : pj_row 111 22 = some (.iload_n 3, 1, 0, 0, 0) := by decide +kernel
theorem s111_22 {st : List Value} {M : pj_Mem} {l : pj_Loc} {a0 a1 a2 : Option Value} {x : Int32} : pj_step 111 (22, a0 :: a1 :: a2 :: some (.int x) :: l, st, M) = some (23, a0 :: a1 :: a2 :: some (.int x) :: l, .int x :: st, M) := st_iload_n q111_22 rfl
theorem x111_22 {st : List Value} {M : pj_Mem} {l : pj_Loc} {a0 a1 a2 : Option Value} {x : Int32} {o9 : Option Value × pj_Mem} : pj_Ends 111 (22, a0 :: a1 :: a2 :: some (.int x) :: l, st, M) o9 = pj_Ends 111 (23, a0 :: a1 :: a2 :: some (.int x) :: l, .int x :: st, M) o9 := pj_xs (s111_22)
theorem q111_23 : pj_row 111 23 = some (.iload_n 3, 1, 0, 0, 0) := by decide +kernel
theorem s111_23 {st : List Value} {M : pj_Mem} {l : pj_Loc} {a0 a1 a2 : Option Value} {x : Int32} : pj_step 111 (23, a0 :: a1 :: a2 :: some (.int x) :: l, st, M) = some (24, a0 :: a1 :: a2 :: some (.int x) :: l, .int x :: st, M) := st_iload_n q111_23 rfl
theorem x111_23 {st : List Value} {M : pj_Mem} {l : pj_Loc} {a0 a1 a2 : Option Value} {x : Int32} {o9 : Option Value × pj_Mem} : pj_Ends 111 (23, a0 :: a1 :: a2 :: some (.int x) :: l, st, M) o9 = pj_Ends 111 (24, a0 :: a1 :: a2 :: some (.int x) :: l, .int x :: st, M) o9 := pj_xs (s111_23)
theorem q111_24 : pj_row 111 24 = some (.iload_n 2, 1, 0, 0, 0) := by decide +kernel
theorem s111_24 {st : List Value} {M : pj_Mem} {l : pj_Loc} {a0 a1 : Option Value} {x : Int32} : pj_step 111 (24, a0 :: a1 :: some (.int x) :: l, st, M) = some (25, a0 :: a1 :: some (.int x) :: l, .int x :: st, M) := st_iload_n q111_24 rfl
theorem x111_24 {st : List Value} {M : pj_Mem} {l : pj_Loc} {a0 a1 : Option Value} {x : Int32} {o9 : Option Value × pj_Mem} : pj_Ends 111 (24, a0 :: a1 :: some (.int x) :: l, st, M) o9 = pj_Ends 111 (25, a0 :: a1 :: some (.int x) :: l, .int x :: st, M) o9 := pj_xs (s111_24)
theorem q111_25 : pj_row 111 25 = some (.iconst 0, 1, 0, 0, 0) := by decide +kernel
theorem s111_25 {L : pj_Loc} {st : List Value} {M : pj_Mem}  : pj_step 111 (25, L, st, M) = some (26, L, .int 0 :: st, M) := st_iconst q111_25 (by decide +kernel)
theorem x111_25 {L : pj_Loc} {st : List Value} {M : pj_Mem}  {o9 : Option Value × pj_Mem} : pj_Ends 111 (25, L, st, M) o9 = pj_Ends 111 (26, L, .int 0 :: st, M) o9 := pj_xs (s111_25)
theorem q111_26 : pj_row 111 26 = some (.invokevirtual 160, 3, 109, 6, 0) := by decide +kernel
theorem e111_26 {L : pj_Loc} {st : List Value} {N S : Nat} {H : pj_Heap} {o : Option Value × pj_Mem} {M' : pj_Mem} {x0 : Nat} {x1 : Int32} {x2 : Int32} {x3 : Int32} {x4 : Int32} {x5 : Int32} {r : Int32} (h4 : pj_le4 st = true) (hu : pj_isU 6 (H x0) = true) (h1 : pj_Ends 109 (0, [some (.ref x0), some (.int x1), some (.int x2), some (.int x3), some (.int x4), some (.int x5), none, none], [], (N, S, H)) (some (.int r), M')) (h2 : pj_Ends 111 (29, L, .int r :: st, M') o) : pj_Ends 111 (26, L, .int x5 :: .int x4 :: .int x3 :: .int x2 :: .int x1 :: .ref x0 :: st, (N, S, H)) o := ec_v6 q111_26 (Or.inl rfl) h4 hu rfl h1 h2
theorem q111_29 : pj_row 111 29 = some (.iload_n 1, 1, 0, 0, 0) := by decide +kernel
theorem s111_29 {st : List Value} {M : pj_Mem} {l : pj_Loc} {a0 : Option Value} {x : Int32} : pj_step 111 (29, a0 :: some (.int x) :: l, st, M) = some (30, a0 :: some (.int x) :: l, .int x :: st, M) := st_iload_n q111_29 rfl
theorem x111_29 {st : List Value} {M : pj_Mem} {l : pj_Loc} {a0 : Option Value} {x : Int32} {o9 : Option Value × pj_Mem} : pj_Ends 111 (29, a0 :: some (.int x) :: l, st, M) o9 = pj_Ends 111 (30, a0 :: some (.int x) :: l, .int x :: st, M) o9 := pj_xs (s111_29)
theorem q111_30 : pj_row 111 30 = some (.ishr, 1, 0, 0, 0) := by decide +kernel
theorem s111_30 {L : pj_Loc} {st : List Value} {M : pj_Mem} {x y : Int32} : pj_step 111 (30, L, .int y :: .int x :: st, M) = some (31, L, .int (x >>> (y &&& 31)) :: st, M) := st_ishr q111_30
theorem x111_30 {L : pj_Loc} {st : List Value} {M : pj_Mem} {x y : Int32} {o9 : Option Value × pj_Mem} : pj_Ends 111 (30, L, .int y :: .int x :: st, M) o9 = pj_Ends 111 (31, L, .int (x >>> (y &&& 31)) :: st, M) o9 := pj_xs (s111_30)
theorem q111_31 : pj_row 111 31 = some (.iconst 1, 1, 0, 0, 0) := by decide +kernel
theorem s111_31 {L : pj_Loc} {st : List Value} {M : pj_Mem}  : pj_step 111 (31, L, st, M) = some (32, L, .int 1 :: st, M) := st_iconst q111_31 (by decide +kernel)
theorem x111_31 {L : pj_Loc} {st : List Value} {M : pj_Mem}  {o9 : Option Value × pj_Mem} : pj_Ends 111 (31, L, st, M) o9 = pj_Ends 111 (32, L, .int 1 :: st, M) o9 := pj_xs (s111_31)
theorem q111_32 : pj_row 111 32 = some (.iand, 1, 0, 0, 0) := by decide +kernel
theorem s111_32 {L : pj_Loc} {st : List Value} {M : pj_Mem} {x y : Int32} : pj_step 111 (32, L, .int y :: .int x :: st, M) = some (33, L, .int (x &&& y) :: st, M) := st_iand q111_32
theorem x111_32 {L : pj_Loc} {st : List Value} {M : pj_Mem} {x y : Int32} {o9 : Option Value × pj_Mem} : pj_Ends 111 (32, L, .int y :: .int x :: st, M) o9 = pj_Ends 111 (33, L, .int (x &&& y) :: st, M) o9 := pj_xs (s111_32)
theorem q111_33 : pj_row 111 33 = some (.iconst 1, 1, 0, 0, 0) := by decide +kernel
theorem s111_33 {L : pj_Loc} {st : List Value} {M : pj_Mem}  : pj_step 111 (33, L, st, M) = some (34, L, .int 1 :: st, M) := st_iconst q111_33 (by decide +kernel)
theorem x111_33 {L : pj_Loc} {st : List Value} {M : pj_Mem}  {o9 : Option Value × pj_Mem} : pj_Ends 111 (33, L, st, M) o9 = pj_Ends 111 (34, L, .int 1 :: st, M) o9 := pj_xs (s111_33)
theorem q111_34 : pj_row 111 34 = some (.if_icmp .ne 8, 3, 42, 0, 0) := by decide +kernel
theorem s111_34 {L : pj_Loc} {st : List Value} {M : pj_Mem} {x y : Int32} : pj_step 111 (34, L, .int y :: .int x :: st, M) = some (if ¬ x = y then 42 else 37, L, st, M) := st_icmp_ne q111_34
theorem x111_34 {L : pj_Loc} {st : List Value} {M : pj_Mem} {x y : Int32} {o9 : Option Value × pj_Mem} : pj_Ends 111 (34, L, .int y :: .int x :: st, M) o9 = pj_Ends 111 (if ¬ x = y then 42 else 37, L, st, M) o9 := pj_xs (s111_34)
theorem q111_37 : pj_row 111 37 = some (.iload_n 3, 1, 0, 0, 0) := by decide +kernel
theorem s111_37 {st : List Value} {M : pj_Mem} {l : pj_Loc} {a0 a1 a2 : Option Value} {x : Int32} : pj_step 111 (37, a0 :: a1 :: a2 :: some (.int x) :: l, st, M) = some (38, a0 :: a1 :: a2 :: some (.int x) :: l, .int x :: st, M) := st_iload_n q111_37 rfl
theorem x111_37 {st : List Value} {M : pj_Mem} {l : pj_Loc} {a0 a1 a2 : Option Value} {x : Int32} {o9 : Option Value × pj_Mem} : pj_Ends 111 (37, a0 :: a1 :: a2 :: some (.int x) :: l, st, M) o9 = pj_Ends 111 (38, a0 :: a1 :: a2 :: some (.int x) :: l, .int x :: st, M) o9 := pj_xs (s111_37)
theorem q111_38 : pj_row 111 38 = some (.ldc 81, 2, 0, 0, 100000) := by decide +kernel
theorem s111_38 {L : pj_Loc} {st : List Value} {M : pj_Mem}  : pj_step 111 (38, L, st, M) = some (40, L, .int 100000 :: st, M) := st_ldc q111_38 (by decide +kernel)
theorem x111_38 {L : pj_Loc} {st : List Value} {M : pj_Mem}  {o9 : Option Value × pj_Mem} : pj_Ends 111 (38, L, st, M) o9 = pj_Ends 111 (40, L, .int 100000 :: st, M) o9 := pj_xs (s111_38)
theorem q111_40 : pj_row 111 40 = some (.iadd, 1, 0, 0, 0) := by decide +kernel
theorem s111_40 {L : pj_Loc} {st : List Value} {M : pj_Mem} {x y : Int32} : pj_step 111 (40, L, .int y :: .int x :: st, M) = some (41, L, .int (x + y) :: st, M) := st_iadd q111_40
theorem x111_40 {L : pj_Loc} {st : List Value} {M : pj_Mem} {x y : Int32} {o9 : Option Value × pj_Mem} : pj_Ends 111 (40, L, .int y :: .int x :: st, M) o9 = pj_Ends 111 (41, L, .int (x + y) :: st, M) o9 := pj_xs (s111_40)
theorem q111_41 : pj_row 111 41 = some (.ireturn, 1, 0, 0, 0) := by decide +kernel
theorem t111_41 {L : pj_Loc} {M : pj_Mem} {v : Int32} : pj_Ends 111 (41, L, [.int v], M) (some (.int v), M) := pj_Ends.ret q111_41 (pj_rtn_i rt111)
theorem q111_42 : pj_row 111 42 = some (.iinc 3 1, 3, 0, 0, 0) := by decide +kernel
theorem s111_42 {st : List Value} {M : pj_Mem} {l : pj_Loc} {a0 a1 a2 : Option Value} {x : Int32} (h : pj_long a2 = false) : pj_step 111 (42, a0 :: a1 :: a2 :: some (.int x) :: l, st, M) = some (45, a0 :: a1 :: a2 :: some (.int (x + 1)) :: l, st, M) := st_iinc q111_42 rfl (congrArg (fun y => x + y) (show Int32.ofInt 1 = 1 by decide +kernel)) (pj_st_3 h)
theorem x111_42 {st : List Value} {M : pj_Mem} {l : pj_Loc} {a0 a1 a2 : Option Value} {x : Int32} (h : pj_long a2 = false) {o9 : Option Value × pj_Mem} : pj_Ends 111 (42, a0 :: a1 :: a2 :: some (.int x) :: l, st, M) o9 = pj_Ends 111 (45, a0 :: a1 :: a2 :: some (.int (x + 1)) :: l, st, M) o9 := pj_xs (s111_42 h)
theorem q111_45 : pj_row 111 45 = some (.goto (-32), 3, 13, 0, 0) := by decide +kernel
theorem s111_45 {L : pj_Loc} {st : List Value} {M : pj_Mem}  : pj_step 111 (45, L, st, M) = some (13, L, st, M) := st_goto q111_45
theorem x111_45 {L : pj_Loc} {st : List Value} {M : pj_Mem}  {o9 : Option Value × pj_Mem} : pj_Ends 111 (45, L, st, M) o9 = pj_Ends 111 (13, L, st, M) o9 := pj_xs (s111_45)
theorem q111_48 : pj_row 111 48 = some (.bipush (-6), 2, 0, 0, 0) := by decide +kernel
theorem s111_48 {L : pj_Loc} {st : List Value} {M : pj_Mem}  : pj_step 111 (48, L, st, M) = some (50, L, .int (-6) :: st, M) := st_bipush q111_48 (by decide +kernel)
theorem x111_48 {L : pj_Loc} {st : List Value} {M : pj_Mem}  {o9 : Option Value × pj_Mem} : pj_Ends 111 (48, L, st, M) o9 = pj_Ends 111 (50, L, .int (-6) :: st, M) o9 := pj_xs (s111_48)
theorem q111_50 : pj_row 111 50 = some (.ireturn, 1, 0, 0, 0) := by decide +kernel
theorem t111_50 {L : pj_Loc} {M : pj_Mem} {v : Int32} : pj_Ends 111 (50, L, [.int v], M) (some (.int v), M) := pj_Ends.ret q111_50 (pj_rtn_i rt111)
theorem rt112 : pj_rt 112 = some .int := rfl
theorem q112_0 : pj_row 112 0 = some (.iload_n 1, 1, 0, 0, 0) := by decide +kernel
theorem s112_0 {st : List Value} {M : pj_Mem} {l : pj_Loc} {a0 : Option Value} {x : Int32} : pj_step 112 (0, a0 :: some (.int x) :: l, st, M) = some (1, a0 :: some (.int x) :: l, .int x :: st, M) := st_iload_n q112_0 rfl
theorem x112_0 {st : List Value} {M : pj_Mem} {l : pj_Loc} {a0 : Option Value} {x : Int32} {o9 : Option Value × pj_Mem} : pj_Ends 112 (0, a0 :: some (.int x) :: l, st, M) o9 = pj_Ends 112 (1, a0 :: some (.int x) :: l, .int x :: st, M) o9 := pj_xs (s112_0)
theorem q112_1 : pj_row 112 1 = some (.invokestatic 137, 3, 100, 1, 0) := by decide +kernel
theorem e112_1 {L : pj_Loc} {st : List Value} {N S : Nat} {H : pj_Heap} {o : Option Value × pj_Mem} {M' : pj_Mem} {x0 : Int32} {r : Int32} (h4 : pj_le4 st = true) (h1 : pj_Ends 100 (0, [some (.int x0)], [], (N, S, H)) (some (.int r), M')) (h2 : pj_Ends 112 (4, L, .int r :: st, M') o) : pj_Ends 112 (1, L, .int x0 :: st, (N, S, H)) o := ec_s1 q112_1 (Or.inl rfl) h4 rfl h1 h2
theorem q112_4 : pj_row 112 4 = some (.ifCond .ne 5, 3, 9, 0, 0) := by decide +kernel
theorem s112_4 {L : pj_Loc} {st : List Value} {M : pj_Mem} {x : Int32} : pj_step 112 (4, L, .int x :: st, M) = some (if ¬ x = 0 then 9 else 7, L, st, M) := st_if_ne q112_4
theorem x112_4 {L : pj_Loc} {st : List Value} {M : pj_Mem} {x : Int32} {o9 : Option Value × pj_Mem} : pj_Ends 112 (4, L, .int x :: st, M) o9 = pj_Ends 112 (if ¬ x = 0 then 9 else 7, L, st, M) o9 := pj_xs (s112_4)
theorem q112_7 : pj_row 112 7 = some (.iconst (-1), 1, 0, 0, 0) := by decide +kernel
theorem s112_7 {L : pj_Loc} {st : List Value} {M : pj_Mem}  : pj_step 112 (7, L, st, M) = some (8, L, .int (-1) :: st, M) := st_iconst q112_7 (by decide +kernel)
theorem x112_7 {L : pj_Loc} {st : List Value} {M : pj_Mem}  {o9 : Option Value × pj_Mem} : pj_Ends 112 (7, L, st, M) o9 = pj_Ends 112 (8, L, .int (-1) :: st, M) o9 := pj_xs (s112_7)
theorem q112_8 : pj_row 112 8 = some (.ireturn, 1, 0, 0, 0) := by decide +kernel
theorem t112_8 {L : pj_Loc} {M : pj_Mem} {v : Int32} : pj_Ends 112 (8, L, [.int v], M) (some (.int v), M) := pj_Ends.ret q112_8 (pj_rtn_i rt112)
theorem q112_9 : pj_row 112 9 = some (.iload_n 2, 1, 0, 0, 0) := by decide +kernel
theorem s112_9 {st : List Value} {M : pj_Mem} {l : pj_Loc} {a0 a1 : Option Value} {x : Int32} : pj_step 112 (9, a0 :: a1 :: some (.int x) :: l, st, M) = some (10, a0 :: a1 :: some (.int x) :: l, .int x :: st, M) := st_iload_n q112_9 rfl
theorem x112_9 {st : List Value} {M : pj_Mem} {l : pj_Loc} {a0 a1 : Option Value} {x : Int32} {o9 : Option Value × pj_Mem} : pj_Ends 112 (9, a0 :: a1 :: some (.int x) :: l, st, M) o9 = pj_Ends 112 (10, a0 :: a1 :: some (.int x) :: l, .int x :: st, M) o9 := pj_xs (s112_9)
theorem q112_10 : pj_row 112 10 = some (.invokestatic 127, 3, 81, 1, 0) := by decide +kernel
theorem e112_10 {L : pj_Loc} {st : List Value} {N S : Nat} {H : pj_Heap} {o : Option Value × pj_Mem} {M' : pj_Mem} {x0 : Int32} {r : Int32} (h4 : pj_le4 st = true) (h1 : pj_Ends 81 (0, [some (.int x0)], [], (N, S, H)) (some (.int r), M')) (h2 : pj_Ends 112 (13, L, .int r :: st, M') o) : pj_Ends 112 (10, L, .int x0 :: st, (N, S, H)) o := ec_s1 q112_10 (Or.inl rfl) h4 rfl h1 h2
theorem q112_13 : pj_row 112 13 = some (.ifCond .ne 6, 3, 19, 0, 0) := by decide +kernel
theorem s112_13 {L : pj_Loc} {st : List Value} {M : pj_Mem} {x : Int32} : pj_step 112 (13, L, .int x :: st, M) = some (if ¬ x = 0 then 19 else 16, L, st, M) := st_if_ne q112_13
theorem x112_13 {L : pj_Loc} {st : List Value} {M : pj_Mem} {x : Int32} {o9 : Option Value × pj_Mem} : pj_Ends 112 (13, L, .int x :: st, M) o9 = pj_Ends 112 (if ¬ x = 0 then 19 else 16, L, st, M) o9 := pj_xs (s112_13)
theorem q112_16 : pj_row 112 16 = some (.bipush (-2), 2, 0, 0, 0) := by decide +kernel
theorem s112_16 {L : pj_Loc} {st : List Value} {M : pj_Mem}  : pj_step 112 (16, L, st, M) = some (18, L, .int (-2) :: st, M) := st_bipush q112_16 (by decide +kernel)
theorem x112_16 {L : pj_Loc} {st : List Value} {M : pj_Mem}  {o9 : Option Value × pj_Mem} : pj_Ends 112 (16, L, st, M) o9 = pj_Ends 112 (18, L, .int (-2) :: st, M) o9 := pj_xs (s112_16)
theorem q112_18 : pj_row 112 18 = some (.ireturn, 1, 0, 0, 0) := by decide +kernel
theorem t112_18 {L : pj_Loc} {M : pj_Mem} {v : Int32} : pj_Ends 112 (18, L, [.int v], M) (some (.int v), M) := pj_Ends.ret q112_18 (pj_rtn_i rt112)
theorem q112_19 : pj_row 112 19 = some (.aload_n 0, 1, 0, 0, 0) := by decide +kernel
theorem s112_19 {st : List Value} {M : pj_Mem} {l : pj_Loc} {x : Nat} : pj_step 112 (19, some (.ref x) :: l, st, M) = some (20, some (.ref x) :: l, .ref x :: st, M) := st_aload_n q112_19 rfl
theorem x112_19 {st : List Value} {M : pj_Mem} {l : pj_Loc} {x : Nat} {o9 : Option Value × pj_Mem} : pj_Ends 112 (19, some (.ref x) :: l, st, M) o9 = pj_Ends 112 (20, some (.ref x) :: l, .ref x :: st, M) o9 := pj_xs (s112_19)
theorem q112_20 : pj_row 112 20 = some (.invokevirtual 121, 3, 78, 1, 0) := by decide +kernel
theorem e112_20 {L : pj_Loc} {st : List Value} {N S : Nat} {H : pj_Heap} {o : Option Value × pj_Mem} {M' : pj_Mem} {x0 : Nat} (h4 : pj_le4 st = true) (hu : pj_isU 6 (H x0) = true) (h1 : pj_Ends 78 (0, [some (.ref x0), none], [], (N, S, H)) (none, M')) (h2 : pj_Ends 112 (23, L, st, M') o) : pj_Ends 112 (20, L, .ref x0 :: st, (N, S, H)) o := ec_v1 q112_20 (Or.inl rfl) h4 hu rfl h1 h2
theorem q112_23 : pj_row 112 23 = some (.iconst 0, 1, 0, 0, 0) := by decide +kernel
theorem s112_23 {L : pj_Loc} {st : List Value} {M : pj_Mem}  : pj_step 112 (23, L, st, M) = some (24, L, .int 0 :: st, M) := st_iconst q112_23 (by decide +kernel)
theorem x112_23 {L : pj_Loc} {st : List Value} {M : pj_Mem}  {o9 : Option Value × pj_Mem} : pj_Ends 112 (23, L, st, M) o9 = pj_Ends 112 (24, L, .int 0 :: st, M) o9 := pj_xs (s112_23)
theorem q112_24 : pj_row 112 24 = some (.istore_n 3, 1, 0, 0, 0) := by decide +kernel
theorem s112_24 {st : List Value} {M : pj_Mem} {l : pj_Loc} {a0 a1 a2 a3 : Option Value} {x : Int32} (h : pj_long a2 = false) : pj_step 112 (24, a0 :: a1 :: a2 :: a3 :: l, .int x :: st, M) = some (25, a0 :: a1 :: a2 :: some (.int x) :: l, st, M) := st_istore_n q112_24 (pj_st_3 h)
theorem x112_24 {st : List Value} {M : pj_Mem} {l : pj_Loc} {a0 a1 a2 a3 : Option Value} {x : Int32} (h : pj_long a2 = false) {o9 : Option Value × pj_Mem} : pj_Ends 112 (24, a0 :: a1 :: a2 :: a3 :: l, .int x :: st, M) o9 = pj_Ends 112 (25, a0 :: a1 :: a2 :: some (.int x) :: l, st, M) o9 := pj_xs (s112_24 h)
theorem q112_25 : pj_row 112 25 = some (.iload_n 3, 1, 0, 0, 0) := by decide +kernel
theorem s112_25 {st : List Value} {M : pj_Mem} {l : pj_Loc} {a0 a1 a2 : Option Value} {x : Int32} : pj_step 112 (25, a0 :: a1 :: a2 :: some (.int x) :: l, st, M) = some (26, a0 :: a1 :: a2 :: some (.int x) :: l, .int x :: st, M) := st_iload_n q112_25 rfl
theorem x112_25 {st : List Value} {M : pj_Mem} {l : pj_Loc} {a0 a1 a2 : Option Value} {x : Int32} {o9 : Option Value × pj_Mem} : pj_Ends 112 (25, a0 :: a1 :: a2 :: some (.int x) :: l, st, M) o9 = pj_Ends 112 (26, a0 :: a1 :: a2 :: some (.int x) :: l, .int x :: st, M) o9 := pj_xs (s112_25)
theorem q112_26 : pj_row 112 26 = some (.bipush 50, 2, 0, 0, 0) := by decide +kernel
theorem s112_26 {L : pj_Loc} {st : List Value} {M : pj_Mem}  : pj_step 112 (26, L, st, M) = some (28, L, .int 50 :: st, M) := st_bipush q112_26 (by decide +kernel)
theorem x112_26 {L : pj_Loc} {st : List Value} {M : pj_Mem}  {o9 : Option Value × pj_Mem} : pj_Ends 112 (26, L, st, M) o9 = pj_Ends 112 (28, L, .int 50 :: st, M) o9 := pj_xs (s112_26)
theorem q112_28 : pj_row 112 28 = some (.if_icmp .ge 35, 3, 63, 0, 0) := by decide +kernel
theorem s112_28 {L : pj_Loc} {st : List Value} {M : pj_Mem} {x y : Int32} : pj_step 112 (28, L, .int y :: .int x :: st, M) = some (if y ≤ x then 63 else 31, L, st, M) := st_icmp_ge q112_28
theorem x112_28 {L : pj_Loc} {st : List Value} {M : pj_Mem} {x y : Int32} {o9 : Option Value × pj_Mem} : pj_Ends 112 (28, L, .int y :: .int x :: st, M) o9 = pj_Ends 112 (if y ≤ x then 63 else 31, L, st, M) o9 := pj_xs (s112_28)
theorem q112_31 : pj_row 112 31 = some (.aload_n 0, 1, 0, 0, 0) := by decide +kernel
theorem s112_31 {st : List Value} {M : pj_Mem} {l : pj_Loc} {x : Nat} : pj_step 112 (31, some (.ref x) :: l, st, M) = some (32, some (.ref x) :: l, .ref x :: st, M) := st_aload_n q112_31 rfl
theorem x112_31 {st : List Value} {M : pj_Mem} {l : pj_Loc} {x : Nat} {o9 : Option Value × pj_Mem} : pj_Ends 112 (31, some (.ref x) :: l, st, M) o9 = pj_Ends 112 (32, some (.ref x) :: l, .ref x :: st, M) o9 := pj_xs (s112_31)
theorem q112_32 : pj_row 112 32 = some (.getfield 7, 3, 6, 0, 0) := by decide +kernel
theorem s112_32 {L : pj_Loc} {st : List Value} {N S : Nat} {H : pj_Heap} {o : Nat} : pj_step 112 (32, L, .ref o :: st, (N, S, H)) = pj_pv 35 L st (N, S, H) (pj_fld (H o) 6 0) := st_getfield q112_32
theorem x112_32 {L : pj_Loc} {st : List Value} {N S : Nat} {H : pj_Heap} {o : Nat} {o9 : Option Value × pj_Mem} : pj_Ends 112 (32, L, .ref o :: st, (N, S, H)) o9 = pj_then 112 o9 (pj_pv 35 L st (N, S, H) (pj_fld (H o) 6 0)) := pj_xt q112_32 rfl (pj_cl_nc rfl) (s112_32)
theorem q112_35 : pj_row 112 35 = some (.bipush 23, 2, 0, 0, 0) := by decide +kernel
theorem s112_35 {L : pj_Loc} {st : List Value} {M : pj_Mem}  : pj_step 112 (35, L, st, M) = some (37, L, .int 23 :: st, M) := st_bipush q112_35 (by decide +kernel)
theorem x112_35 {L : pj_Loc} {st : List Value} {M : pj_Mem}  {o9 : Option Value × pj_Mem} : pj_Ends 112 (35, L, st, M) o9 = pj_Ends 112 (37, L, .int 23 :: st, M) o9 := pj_xs (s112_35)
theorem q112_37 : pj_row 112 37 = some (.iload_n 1, 1, 0, 0, 0) := by decide +kernel
theorem s112_37 {st : List Value} {M : pj_Mem} {l : pj_Loc} {a0 : Option Value} {x : Int32} : pj_step 112 (37, a0 :: some (.int x) :: l, st, M) = some (38, a0 :: some (.int x) :: l, .int x :: st, M) := st_iload_n q112_37 rfl
theorem x112_37 {st : List Value} {M : pj_Mem} {l : pj_Loc} {a0 : Option Value} {x : Int32} {o9 : Option Value × pj_Mem} : pj_Ends 112 (37, a0 :: some (.int x) :: l, st, M) o9 = pj_Ends 112 (38, a0 :: some (.int x) :: l, .int x :: st, M) o9 := pj_xs (s112_37)
theorem q112_38 : pj_row 112 38 = some (.iadd, 1, 0, 0, 0) := by decide +kernel
theorem s112_38 {L : pj_Loc} {st : List Value} {M : pj_Mem} {x y : Int32} : pj_step 112 (38, L, .int y :: .int x :: st, M) = some (39, L, .int (x + y) :: st, M) := st_iadd q112_38
theorem x112_38 {L : pj_Loc} {st : List Value} {M : pj_Mem} {x y : Int32} {o9 : Option Value × pj_Mem} : pj_Ends 112 (38, L, .int y :: .int x :: st, M) o9 = pj_Ends 112 (39, L, .int (x + y) :: st, M) o9 := pj_xs (s112_38)
theorem q112_39 : pj_row 112 39 = some (.iaload, 1, 0, 0, 0) := by decide +kernel
theorem s112_39 {L : pj_Loc} {st : List Value} {N S : Nat} {H : pj_Heap} {o : Nat} {i : Int32} : pj_step 112 (39, L, .int i :: .ref o :: st, (N, S, H)) = pj_pi 40 L st (N, S, H) (pj_arl (H o) 0 i) := st_iaload q112_39
theorem x112_39 {L : pj_Loc} {st : List Value} {N S : Nat} {H : pj_Heap} {o : Nat} {i : Int32} {o9 : Option Value × pj_Mem} : pj_Ends 112 (39, L, .int i :: .ref o :: st, (N, S, H)) o9 = pj_then 112 o9 (pj_pi 40 L st (N, S, H) (pj_arl (H o) 0 i)) := pj_xt q112_39 rfl (pj_cl_nc rfl) (s112_39)
theorem q112_40 : pj_row 112 40 = some (.bipush (-6), 2, 0, 0, 0) := by decide +kernel
theorem s112_40 {L : pj_Loc} {st : List Value} {M : pj_Mem}  : pj_step 112 (40, L, st, M) = some (42, L, .int (-6) :: st, M) := st_bipush q112_40 (by decide +kernel)
theorem x112_40 {L : pj_Loc} {st : List Value} {M : pj_Mem}  {o9 : Option Value × pj_Mem} : pj_Ends 112 (40, L, st, M) o9 = pj_Ends 112 (42, L, .int (-6) :: st, M) o9 := pj_xs (s112_40)
theorem q112_42 : pj_row 112 42 = some (.if_icmp .ne 21, 3, 63, 0, 0) := by decide +kernel
theorem s112_42 {L : pj_Loc} {st : List Value} {M : pj_Mem} {x y : Int32} : pj_step 112 (42, L, .int y :: .int x :: st, M) = some (if ¬ x = y then 63 else 45, L, st, M) := st_icmp_ne q112_42
theorem x112_42 {L : pj_Loc} {st : List Value} {M : pj_Mem} {x y : Int32} {o9 : Option Value × pj_Mem} : pj_Ends 112 (42, L, .int y :: .int x :: st, M) o9 = pj_Ends 112 (if ¬ x = y then 63 else 45, L, st, M) o9 := pj_xs (s112_42)
theorem q112_45 : pj_row 112 45 = some (.aload_n 0, 1, 0, 0, 0) := by decide +kernel
theorem s112_45 {st : List Value} {M : pj_Mem} {l : pj_Loc} {x : Nat} : pj_step 112 (45, some (.ref x) :: l, st, M) = some (46, some (.ref x) :: l, .ref x :: st, M) := st_aload_n q112_45 rfl
theorem x112_45 {st : List Value} {M : pj_Mem} {l : pj_Loc} {x : Nat} {o9 : Option Value × pj_Mem} : pj_Ends 112 (45, some (.ref x) :: l, st, M) o9 = pj_Ends 112 (46, some (.ref x) :: l, .ref x :: st, M) o9 := pj_xs (s112_45)
theorem q112_46 : pj_row 112 46 = some (.iload_n 2, 1, 0, 0, 0) := by decide +kernel
theorem s112_46 {st : List Value} {M : pj_Mem} {l : pj_Loc} {a0 a1 : Option Value} {x : Int32} : pj_step 112 (46, a0 :: a1 :: some (.int x) :: l, st, M) = some (47, a0 :: a1 :: some (.int x) :: l, .int x :: st, M) := st_iload_n q112_46 rfl
theorem x112_46 {st : List Value} {M : pj_Mem} {l : pj_Loc} {a0 a1 : Option Value} {x : Int32} {o9 : Option Value × pj_Mem} : pj_Ends 112 (46, a0 :: a1 :: some (.int x) :: l, st, M) o9 = pj_Ends 112 (47, a0 :: a1 :: some (.int x) :: l, .int x :: st, M) o9 := pj_xs (s112_46)
theorem q112_47 : pj_row 112 47 = some (.iload_n 2, 1, 0, 0, 0) := by decide +kernel
theorem s112_47 {st : List Value} {M : pj_Mem} {l : pj_Loc} {a0 a1 : Option Value} {x : Int32} : pj_step 112 (47, a0 :: a1 :: some (.int x) :: l, st, M) = some (48, a0 :: a1 :: some (.int x) :: l, .int x :: st, M) := st_iload_n q112_47 rfl
theorem x112_47 {st : List Value} {M : pj_Mem} {l : pj_Loc} {a0 a1 : Option Value} {x : Int32} {o9 : Option Value × pj_Mem} : pj_Ends 112 (47, a0 :: a1 :: some (.int x) :: l, st, M) o9 = pj_Ends 112 (48, a0 :: a1 :: some (.int x) :: l, .int x :: st, M) o9 := pj_xs (s112_47)
theorem q112_48 : pj_row 112 48 = some (.iload_n 2, 1, 0, 0, 0) := by decide +kernel
theorem s112_48 {st : List Value} {M : pj_Mem} {l : pj_Loc} {a0 a1 : Option Value} {x : Int32} : pj_step 112 (48, a0 :: a1 :: some (.int x) :: l, st, M) = some (49, a0 :: a1 :: some (.int x) :: l, .int x :: st, M) := st_iload_n q112_48 rfl
theorem x112_48 {st : List Value} {M : pj_Mem} {l : pj_Loc} {a0 a1 : Option Value} {x : Int32} {o9 : Option Value × pj_Mem} : pj_Ends 112 (48, a0 :: a1 :: some (.int x) :: l, st, M) o9 = pj_Ends 112 (49, a0 :: a1 :: some (.int x) :: l, .int x :: st, M) o9 := pj_xs (s112_48)
theorem q112_49 : pj_row 112 49 = some (.invokevirtual 130, 3, 82, 4, 0) := by decide +kernel
theorem e112_49 {L : pj_Loc} {st : List Value} {N S : Nat} {H : pj_Heap} {o : Option Value × pj_Mem} {M' : pj_Mem} {x0 : Nat} {x1 : Int32} {x2 : Int32} {x3 : Int32} (h4 : pj_le4 st = true) (hu : pj_isU 6 (H x0) = true) (h1 : pj_Ends 82 (0, [some (.ref x0), some (.int x1), some (.int x2), some (.int x3)], [], (N, S, H)) (none, M')) (h2 : pj_Ends 112 (52, L, st, M') o) : pj_Ends 112 (49, L, .int x3 :: .int x2 :: .int x1 :: .ref x0 :: st, (N, S, H)) o := ec_v4 q112_49 (Or.inl rfl) h4 hu rfl h1 h2
theorem q112_52 : pj_row 112 52 = some (.aload_n 0, 1, 0, 0, 0) := by decide +kernel
theorem s112_52 {st : List Value} {M : pj_Mem} {l : pj_Loc} {x : Nat} : pj_step 112 (52, some (.ref x) :: l, st, M) = some (53, some (.ref x) :: l, .ref x :: st, M) := st_aload_n q112_52 rfl
theorem x112_52 {st : List Value} {M : pj_Mem} {l : pj_Loc} {x : Nat} {o9 : Option Value × pj_Mem} : pj_Ends 112 (52, some (.ref x) :: l, st, M) o9 = pj_Ends 112 (53, some (.ref x) :: l, .ref x :: st, M) o9 := pj_xs (s112_52)
theorem q112_53 : pj_row 112 53 = some (.iconst 1, 1, 0, 0, 0) := by decide +kernel
theorem s112_53 {L : pj_Loc} {st : List Value} {M : pj_Mem}  : pj_step 112 (53, L, st, M) = some (54, L, .int 1 :: st, M) := st_iconst q112_53 (by decide +kernel)
theorem x112_53 {L : pj_Loc} {st : List Value} {M : pj_Mem}  {o9 : Option Value × pj_Mem} : pj_Ends 112 (53, L, st, M) o9 = pj_Ends 112 (54, L, .int 1 :: st, M) o9 := pj_xs (s112_53)
theorem q112_54 : pj_row 112 54 = some (.invokevirtual 134, 3, 83, 2, 0) := by decide +kernel
theorem e112_54 {L : pj_Loc} {st : List Value} {N S : Nat} {H : pj_Heap} {o : Option Value × pj_Mem} {M' : pj_Mem} {x0 : Nat} {x1 : Int32} (h4 : pj_le4 st = true) (hu : pj_isU 6 (H x0) = true) (h1 : pj_Ends 83 (0, [some (.ref x0), some (.int x1)], [], (N, S, H)) (none, M')) (h2 : pj_Ends 112 (57, L, st, M') o) : pj_Ends 112 (54, L, .int x1 :: .ref x0 :: st, (N, S, H)) o := ec_v2 q112_54 (Or.inl rfl) h4 hu rfl h1 h2
theorem q112_57 : pj_row 112 57 = some (.iinc 3 1, 3, 0, 0, 0) := by decide +kernel
theorem s112_57 {st : List Value} {M : pj_Mem} {l : pj_Loc} {a0 a1 a2 : Option Value} {x : Int32} (h : pj_long a2 = false) : pj_step 112 (57, a0 :: a1 :: a2 :: some (.int x) :: l, st, M) = some (60, a0 :: a1 :: a2 :: some (.int (x + 1)) :: l, st, M) := st_iinc q112_57 rfl (congrArg (fun y => x + y) (show Int32.ofInt 1 = 1 by decide +kernel)) (pj_st_3 h)
theorem x112_57 {st : List Value} {M : pj_Mem} {l : pj_Loc} {a0 a1 a2 : Option Value} {x : Int32} (h : pj_long a2 = false) {o9 : Option Value × pj_Mem} : pj_Ends 112 (57, a0 :: a1 :: a2 :: some (.int x) :: l, st, M) o9 = pj_Ends 112 (60, a0 :: a1 :: a2 :: some (.int (x + 1)) :: l, st, M) o9 := pj_xs (s112_57 h)
theorem q112_60 : pj_row 112 60 = some (.goto (-35), 3, 25, 0, 0) := by decide +kernel
theorem s112_60 {L : pj_Loc} {st : List Value} {M : pj_Mem}  : pj_step 112 (60, L, st, M) = some (25, L, st, M) := st_goto q112_60
theorem x112_60 {L : pj_Loc} {st : List Value} {M : pj_Mem}  {o9 : Option Value × pj_Mem} : pj_Ends 112 (60, L, st, M) o9 = pj_Ends 112 (25, L, st, M) o9 := pj_xs (s112_60)
theorem q112_63 : pj_row 112 63 = some (.aload_n 0, 1, 0, 0, 0) := by decide +kernel
theorem s112_63 {st : List Value} {M : pj_Mem} {l : pj_Loc} {x : Nat} : pj_step 112 (63, some (.ref x) :: l, st, M) = some (64, some (.ref x) :: l, .ref x :: st, M) := st_aload_n q112_63 rfl
theorem x112_63 {st : List Value} {M : pj_Mem} {l : pj_Loc} {x : Nat} {o9 : Option Value × pj_Mem} : pj_Ends 112 (63, some (.ref x) :: l, st, M) o9 = pj_Ends 112 (64, some (.ref x) :: l, .ref x :: st, M) o9 := pj_xs (s112_63)
theorem q112_64 : pj_row 112 64 = some (.getfield 7, 3, 6, 0, 0) := by decide +kernel
theorem s112_64 {L : pj_Loc} {st : List Value} {N S : Nat} {H : pj_Heap} {o : Nat} : pj_step 112 (64, L, .ref o :: st, (N, S, H)) = pj_pv 67 L st (N, S, H) (pj_fld (H o) 6 0) := st_getfield q112_64
theorem x112_64 {L : pj_Loc} {st : List Value} {N S : Nat} {H : pj_Heap} {o : Nat} {o9 : Option Value × pj_Mem} : pj_Ends 112 (64, L, .ref o :: st, (N, S, H)) o9 = pj_then 112 o9 (pj_pv 67 L st (N, S, H) (pj_fld (H o) 6 0)) := pj_xt q112_64 rfl (pj_cl_nc rfl) (s112_64)
theorem q112_67 : pj_row 112 67 = some (.bipush 23, 2, 0, 0, 0) := by decide +kernel
theorem s112_67 {L : pj_Loc} {st : List Value} {M : pj_Mem}  : pj_step 112 (67, L, st, M) = some (69, L, .int 23 :: st, M) := st_bipush q112_67 (by decide +kernel)
theorem x112_67 {L : pj_Loc} {st : List Value} {M : pj_Mem}  {o9 : Option Value × pj_Mem} : pj_Ends 112 (67, L, st, M) o9 = pj_Ends 112 (69, L, .int 23 :: st, M) o9 := pj_xs (s112_67)
theorem q112_69 : pj_row 112 69 = some (.iload_n 1, 1, 0, 0, 0) := by decide +kernel
theorem s112_69 {st : List Value} {M : pj_Mem} {l : pj_Loc} {a0 : Option Value} {x : Int32} : pj_step 112 (69, a0 :: some (.int x) :: l, st, M) = some (70, a0 :: some (.int x) :: l, .int x :: st, M) := st_iload_n q112_69 rfl
theorem x112_69 {st : List Value} {M : pj_Mem} {l : pj_Loc} {a0 : Option Value} {x : Int32} {o9 : Option Value × pj_Mem} : pj_Ends 112 (69, a0 :: some (.int x) :: l, st, M) o9 = pj_Ends 112 (70, a0 :: some (.int x) :: l, .int x :: st, M) o9 := pj_xs (s112_69)
theorem q112_70 : pj_row 112 70 = some (.iadd, 1, 0, 0, 0) := by decide +kernel
theorem s112_70 {L : pj_Loc} {st : List Value} {M : pj_Mem} {x y : Int32} : pj_step 112 (70, L, .int y :: .int x :: st, M) = some (71, L, .int (x + y) :: st, M) := st_iadd q112_70
theorem x112_70 {L : pj_Loc} {st : List Value} {M : pj_Mem} {x y : Int32} {o9 : Option Value × pj_Mem} : pj_Ends 112 (70, L, .int y :: .int x :: st, M) o9 = pj_Ends 112 (71, L, .int (x + y) :: st, M) o9 := pj_xs (s112_70)
theorem q112_71 : pj_row 112 71 = some (.iaload, 1, 0, 0, 0) := by decide +kernel
theorem s112_71 {L : pj_Loc} {st : List Value} {N S : Nat} {H : pj_Heap} {o : Nat} {i : Int32} : pj_step 112 (71, L, .int i :: .ref o :: st, (N, S, H)) = pj_pi 72 L st (N, S, H) (pj_arl (H o) 0 i) := st_iaload q112_71
theorem x112_71 {L : pj_Loc} {st : List Value} {N S : Nat} {H : pj_Heap} {o : Nat} {i : Int32} {o9 : Option Value × pj_Mem} : pj_Ends 112 (71, L, .int i :: .ref o :: st, (N, S, H)) o9 = pj_then 112 o9 (pj_pi 72 L st (N, S, H) (pj_arl (H o) 0 i)) := pj_xt q112_71 rfl (pj_cl_nc rfl) (s112_71)
theorem q112_72 : pj_row 112 72 = some (.bipush (-6), 2, 0, 0, 0) := by decide +kernel
theorem s112_72 {L : pj_Loc} {st : List Value} {M : pj_Mem}  : pj_step 112 (72, L, st, M) = some (74, L, .int (-6) :: st, M) := st_bipush q112_72 (by decide +kernel)
theorem x112_72 {L : pj_Loc} {st : List Value} {M : pj_Mem}  {o9 : Option Value × pj_Mem} : pj_Ends 112 (72, L, st, M) o9 = pj_Ends 112 (74, L, .int (-6) :: st, M) o9 := pj_xs (s112_72)
theorem q112_74 : pj_row 112 74 = some (.if_icmp .eq 7, 3, 81, 0, 0) := by decide +kernel
theorem s112_74 {L : pj_Loc} {st : List Value} {M : pj_Mem} {x y : Int32} : pj_step 112 (74, L, .int y :: .int x :: st, M) = some (if x = y then 81 else 77, L, st, M) := st_icmp_eq q112_74
theorem x112_74 {L : pj_Loc} {st : List Value} {M : pj_Mem} {x y : Int32} {o9 : Option Value × pj_Mem} : pj_Ends 112 (74, L, .int y :: .int x :: st, M) o9 = pj_Ends 112 (if x = y then 81 else 77, L, st, M) o9 := pj_xs (s112_74)
theorem q112_77 : pj_row 112 77 = some (.iconst 1, 1, 0, 0, 0) := by decide +kernel
theorem s112_77 {L : pj_Loc} {st : List Value} {M : pj_Mem}  : pj_step 112 (77, L, st, M) = some (78, L, .int 1 :: st, M) := st_iconst q112_77 (by decide +kernel)
theorem x112_77 {L : pj_Loc} {st : List Value} {M : pj_Mem}  {o9 : Option Value × pj_Mem} : pj_Ends 112 (77, L, st, M) o9 = pj_Ends 112 (78, L, .int 1 :: st, M) o9 := pj_xs (s112_77)
theorem q112_78 : pj_row 112 78 = some (.goto 4, 3, 82, 0, 0) := by decide +kernel
theorem s112_78 {L : pj_Loc} {st : List Value} {M : pj_Mem}  : pj_step 112 (78, L, st, M) = some (82, L, st, M) := st_goto q112_78
theorem x112_78 {L : pj_Loc} {st : List Value} {M : pj_Mem}  {o9 : Option Value × pj_Mem} : pj_Ends 112 (78, L, st, M) o9 = pj_Ends 112 (82, L, st, M) o9 := pj_xs (s112_78)
theorem q112_81 : pj_row 112 81 = some (.iconst 0, 1, 0, 0, 0) := by decide +kernel
theorem s112_81 {L : pj_Loc} {st : List Value} {M : pj_Mem}  : pj_step 112 (81, L, st, M) = some (82, L, .int 0 :: st, M) := st_iconst q112_81 (by decide +kernel)
theorem x112_81 {L : pj_Loc} {st : List Value} {M : pj_Mem}  {o9 : Option Value × pj_Mem} : pj_Ends 112 (81, L, st, M) o9 = pj_Ends 112 (82, L, .int 0 :: st, M) o9 := pj_xs (s112_81)
theorem q112_82 : pj_row 112 82 = some (.istore 4, 2, 0, 0, 0) := by decide +kernel
theorem s112_82 {st : List Value} {M : pj_Mem} {l : pj_Loc} {a0 a1 a2 a3 a4 : Option Value} {x : Int32} (h : pj_long a3 = false) : pj_step 112 (82, a0 :: a1 :: a2 :: a3 :: a4 :: l, .int x :: st, M) = some (84, a0 :: a1 :: a2 :: a3 :: some (.int x) :: l, st, M) := st_istore q112_82 (pj_st_4 h)
theorem x112_82 {st : List Value} {M : pj_Mem} {l : pj_Loc} {a0 a1 a2 a3 a4 : Option Value} {x : Int32} (h : pj_long a3 = false) {o9 : Option Value × pj_Mem} : pj_Ends 112 (82, a0 :: a1 :: a2 :: a3 :: a4 :: l, .int x :: st, M) o9 = pj_Ends 112 (84, a0 :: a1 :: a2 :: a3 :: some (.int x) :: l, st, M) o9 := pj_xs (s112_82 h)
theorem q112_84 : pj_row 112 84 = some (.aload_n 0, 1, 0, 0, 0) := by decide +kernel
theorem s112_84 {st : List Value} {M : pj_Mem} {l : pj_Loc} {x : Nat} : pj_step 112 (84, some (.ref x) :: l, st, M) = some (85, some (.ref x) :: l, .ref x :: st, M) := st_aload_n q112_84 rfl
theorem x112_84 {st : List Value} {M : pj_Mem} {l : pj_Loc} {x : Nat} {o9 : Option Value × pj_Mem} : pj_Ends 112 (84, some (.ref x) :: l, st, M) o9 = pj_Ends 112 (85, some (.ref x) :: l, .ref x :: st, M) o9 := pj_xs (s112_84)
theorem q112_85 : pj_row 112 85 = some (.invokevirtual 157, 3, 110, 1, 0) := by decide +kernel
theorem e112_85 {L : pj_Loc} {st : List Value} {N S : Nat} {H : pj_Heap} {o : Option Value × pj_Mem} {M' : pj_Mem} {x0 : Nat} (h4 : pj_le4 st = true) (hu : pj_isU 6 (H x0) = true) (h1 : pj_Ends 110 (0, [some (.ref x0), none], [], (N, S, H)) (none, M')) (h2 : pj_Ends 112 (88, L, st, M') o) : pj_Ends 112 (85, L, .ref x0 :: st, (N, S, H)) o := ec_v1 q112_85 (Or.inl rfl) h4 hu rfl h1 h2
theorem q112_88 : pj_row 112 88 = some (.iload 4, 2, 0, 0, 0) := by decide +kernel
theorem s112_88 {st : List Value} {M : pj_Mem} {l : pj_Loc} {a0 a1 a2 a3 : Option Value} {x : Int32} : pj_step 112 (88, a0 :: a1 :: a2 :: a3 :: some (.int x) :: l, st, M) = some (90, a0 :: a1 :: a2 :: a3 :: some (.int x) :: l, .int x :: st, M) := st_iload q112_88 rfl
theorem x112_88 {st : List Value} {M : pj_Mem} {l : pj_Loc} {a0 a1 a2 a3 : Option Value} {x : Int32} {o9 : Option Value × pj_Mem} : pj_Ends 112 (88, a0 :: a1 :: a2 :: a3 :: some (.int x) :: l, st, M) o9 = pj_Ends 112 (90, a0 :: a1 :: a2 :: a3 :: some (.int x) :: l, .int x :: st, M) o9 := pj_xs (s112_88)
theorem q112_90 : pj_row 112 90 = some (.ifCond .eq 7, 3, 97, 0, 0) := by decide +kernel
theorem s112_90 {L : pj_Loc} {st : List Value} {M : pj_Mem} {x : Int32} : pj_step 112 (90, L, .int x :: st, M) = some (if x = 0 then 97 else 93, L, st, M) := st_if_eq q112_90
theorem x112_90 {L : pj_Loc} {st : List Value} {M : pj_Mem} {x : Int32} {o9 : Option Value × pj_Mem} : pj_Ends 112 (90, L, .int x :: st, M) o9 = pj_Ends 112 (if x = 0 then 97 else 93, L, st, M) o9 := pj_xs (s112_90)
theorem q112_93 : pj_row 112 93 = some (.iload_n 3, 1, 0, 0, 0) := by decide +kernel
theorem s112_93 {st : List Value} {M : pj_Mem} {l : pj_Loc} {a0 a1 a2 : Option Value} {x : Int32} : pj_step 112 (93, a0 :: a1 :: a2 :: some (.int x) :: l, st, M) = some (94, a0 :: a1 :: a2 :: some (.int x) :: l, .int x :: st, M) := st_iload_n q112_93 rfl
theorem x112_93 {st : List Value} {M : pj_Mem} {l : pj_Loc} {a0 a1 a2 : Option Value} {x : Int32} {o9 : Option Value × pj_Mem} : pj_Ends 112 (93, a0 :: a1 :: a2 :: some (.int x) :: l, st, M) o9 = pj_Ends 112 (94, a0 :: a1 :: a2 :: some (.int x) :: l, .int x :: st, M) o9 := pj_xs (s112_93)
theorem q112_94 : pj_row 112 94 = some (.goto 5, 3, 99, 0, 0) := by decide +kernel
theorem s112_94 {L : pj_Loc} {st : List Value} {M : pj_Mem}  : pj_step 112 (94, L, st, M) = some (99, L, st, M) := st_goto q112_94
theorem x112_94 {L : pj_Loc} {st : List Value} {M : pj_Mem}  {o9 : Option Value × pj_Mem} : pj_Ends 112 (94, L, st, M) o9 = pj_Ends 112 (99, L, st, M) o9 := pj_xs (s112_94)
theorem q112_97 : pj_row 112 97 = some (.bipush (-6), 2, 0, 0, 0) := by decide +kernel
theorem s112_97 {L : pj_Loc} {st : List Value} {M : pj_Mem}  : pj_step 112 (97, L, st, M) = some (99, L, .int (-6) :: st, M) := st_bipush q112_97 (by decide +kernel)
theorem x112_97 {L : pj_Loc} {st : List Value} {M : pj_Mem}  {o9 : Option Value × pj_Mem} : pj_Ends 112 (97, L, st, M) o9 = pj_Ends 112 (99, L, .int (-6) :: st, M) o9 := pj_xs (s112_97)
theorem q112_99 : pj_row 112 99 = some (.ireturn, 1, 0, 0, 0) := by decide +kernel
theorem t112_99 {L : pj_Loc} {M : pj_Mem} {v : Int32} : pj_Ends 112 (99, L, [.int v], M) (some (.int v), M) := pj_Ends.ret q112_99 (pj_rtn_i rt112)
theorem rt113 : pj_rt 113 = some .int := rfl
theorem q113_0 : pj_row 113 0 = some (.iconst 0, 1, 0, 0, 0) := by decide +kernel
theorem s113_0 {L : pj_Loc} {st : List Value} {M : pj_Mem}  : pj_step 113 (0, L, st, M) = some (1, L, .int 0 :: st, M) := st_iconst q113_0 (by decide +kernel)
theorem x113_0 {L : pj_Loc} {st : List Value} {M : pj_Mem}  {o9 : Option Value × pj_Mem} : pj_Ends 113 (0, L, st, M) o9 = pj_Ends 113 (1, L, .int 0 :: st, M) o9 := pj_xs (s113_0)
theorem q113_1 : pj_row 113 1 = some (.istore_n 3, 1, 0, 0, 0) := by decide +kernel
theorem s113_1 {st : List Value} {M : pj_Mem} {l : pj_Loc} {a0 a1 a2 a3 : Option Value} {x : Int32} (h : pj_long a2 = false) : pj_step 113 (1, a0 :: a1 :: a2 :: a3 :: l, .int x :: st, M) = some (2, a0 :: a1 :: a2 :: some (.int x) :: l, st, M) := st_istore_n q113_1 (pj_st_3 h)
theorem x113_1 {st : List Value} {M : pj_Mem} {l : pj_Loc} {a0 a1 a2 a3 : Option Value} {x : Int32} (h : pj_long a2 = false) {o9 : Option Value × pj_Mem} : pj_Ends 113 (1, a0 :: a1 :: a2 :: a3 :: l, .int x :: st, M) o9 = pj_Ends 113 (2, a0 :: a1 :: a2 :: some (.int x) :: l, st, M) o9 := pj_xs (s113_1 h)
theorem q113_2 : pj_row 113 2 = some (.iconst 1, 1, 0, 0, 0) := by decide +kernel
theorem s113_2 {L : pj_Loc} {st : List Value} {M : pj_Mem}  : pj_step 113 (2, L, st, M) = some (3, L, .int 1 :: st, M) := st_iconst q113_2 (by decide +kernel)
theorem x113_2 {L : pj_Loc} {st : List Value} {M : pj_Mem}  {o9 : Option Value × pj_Mem} : pj_Ends 113 (2, L, st, M) o9 = pj_Ends 113 (3, L, .int 1 :: st, M) o9 := pj_xs (s113_2)
theorem q113_3 : pj_row 113 3 = some (.istore 4, 2, 0, 0, 0) := by decide +kernel
theorem s113_3 {st : List Value} {M : pj_Mem} {l : pj_Loc} {a0 a1 a2 a3 a4 : Option Value} {x : Int32} (h : pj_long a3 = false) : pj_step 113 (3, a0 :: a1 :: a2 :: a3 :: a4 :: l, .int x :: st, M) = some (5, a0 :: a1 :: a2 :: a3 :: some (.int x) :: l, st, M) := st_istore q113_3 (pj_st_4 h)
theorem x113_3 {st : List Value} {M : pj_Mem} {l : pj_Loc} {a0 a1 a2 a3 a4 : Option Value} {x : Int32} (h : pj_long a3 = false) {o9 : Option Value × pj_Mem} : pj_Ends 113 (3, a0 :: a1 :: a2 :: a3 :: a4 :: l, .int x :: st, M) o9 = pj_Ends 113 (5, a0 :: a1 :: a2 :: a3 :: some (.int x) :: l, st, M) o9 := pj_xs (s113_3 h)
theorem q113_5 : pj_row 113 5 = some (.lload_n 1, 1, 0, 0, 0) := by decide +kernel
theorem s113_5 {st : List Value} {M : pj_Mem} {l : pj_Loc} {a0 : Option Value} {x : Int64} : pj_step 113 (5, a0 :: some (.long x) :: l, st, M) = some (6, a0 :: some (.long x) :: l, .long x :: st, M) := st_lload_n q113_5 rfl
theorem x113_5 {st : List Value} {M : pj_Mem} {l : pj_Loc} {a0 : Option Value} {x : Int64} {o9 : Option Value × pj_Mem} : pj_Ends 113 (5, a0 :: some (.long x) :: l, st, M) o9 = pj_Ends 113 (6, a0 :: some (.long x) :: l, .long x :: st, M) o9 := pj_xs (s113_5)
theorem q113_6 : pj_row 113 6 = some (.lstore 5, 2, 0, 0, 0) := by decide +kernel
theorem s113_6 {st : List Value} {M : pj_Mem} {l : pj_Loc} {a0 a1 a2 a3 a4 a5 a6 : Option Value} {x : Int64} (h : pj_long a4 = false) : pj_step 113 (6, a0 :: a1 :: a2 :: a3 :: a4 :: a5 :: a6 :: l, .long x :: st, M) = some (8, a0 :: a1 :: a2 :: a3 :: a4 :: some (.long x) :: none :: l, st, M) := st_lstore q113_6 (pj_stl_5 h)
theorem x113_6 {st : List Value} {M : pj_Mem} {l : pj_Loc} {a0 a1 a2 a3 a4 a5 a6 : Option Value} {x : Int64} (h : pj_long a4 = false) {o9 : Option Value × pj_Mem} : pj_Ends 113 (6, a0 :: a1 :: a2 :: a3 :: a4 :: a5 :: a6 :: l, .long x :: st, M) o9 = pj_Ends 113 (8, a0 :: a1 :: a2 :: a3 :: a4 :: some (.long x) :: none :: l, st, M) o9 := pj_xs (s113_6 h)
theorem q113_8 : pj_row 113 8 = some (.iload_n 3, 1, 0, 0, 0) := by decide +kernel
theorem s113_8 {st : List Value} {M : pj_Mem} {l : pj_Loc} {a0 a1 a2 : Option Value} {x : Int32} : pj_step 113 (8, a0 :: a1 :: a2 :: some (.int x) :: l, st, M) = some (9, a0 :: a1 :: a2 :: some (.int x) :: l, .int x :: st, M) := st_iload_n q113_8 rfl
theorem x113_8 {st : List Value} {M : pj_Mem} {l : pj_Loc} {a0 a1 a2 : Option Value} {x : Int32} {o9 : Option Value × pj_Mem} : pj_Ends 113 (8, a0 :: a1 :: a2 :: some (.int x) :: l, st, M) o9 = pj_Ends 113 (9, a0 :: a1 :: a2 :: some (.int x) :: l, .int x :: st, M) o9 := pj_xs (s113_8)
theorem q113_9 : pj_row 113 9 = some (.bipush 8, 2, 0, 0, 0) := by decide +kernel
theorem s113_9 {L : pj_Loc} {st : List Value} {M : pj_Mem}  : pj_step 113 (9, L, st, M) = some (11, L, .int 8 :: st, M) := st_bipush q113_9 (by decide +kernel)
theorem x113_9 {L : pj_Loc} {st : List Value} {M : pj_Mem}  {o9 : Option Value × pj_Mem} : pj_Ends 113 (9, L, st, M) o9 = pj_Ends 113 (11, L, .int 8 :: st, M) o9 := pj_xs (s113_9)
theorem q113_11 : pj_row 113 11 = some (.if_icmp .ge 57, 3, 68, 0, 0) := by decide +kernel
theorem s113_11 {L : pj_Loc} {st : List Value} {M : pj_Mem} {x y : Int32} : pj_step 113 (11, L, .int y :: .int x :: st, M) = some (if y ≤ x then 68 else 14, L, st, M) := st_icmp_ge q113_11
theorem x113_11 {L : pj_Loc} {st : List Value} {M : pj_Mem} {x y : Int32} {o9 : Option Value × pj_Mem} : pj_Ends 113 (11, L, .int y :: .int x :: st, M) o9 = pj_Ends 113 (if y ≤ x then 68 else 14, L, st, M) o9 := pj_xs (s113_11)
theorem q113_14 : pj_row 113 14 = some (.lload 5, 2, 0, 0, 0) := by decide +kernel
theorem s113_14 {st : List Value} {M : pj_Mem} {l : pj_Loc} {a0 a1 a2 a3 a4 : Option Value} {x : Int64} : pj_step 113 (14, a0 :: a1 :: a2 :: a3 :: a4 :: some (.long x) :: l, st, M) = some (16, a0 :: a1 :: a2 :: a3 :: a4 :: some (.long x) :: l, .long x :: st, M) := st_lload q113_14 rfl
theorem x113_14 {st : List Value} {M : pj_Mem} {l : pj_Loc} {a0 a1 a2 a3 a4 : Option Value} {x : Int64} {o9 : Option Value × pj_Mem} : pj_Ends 113 (14, a0 :: a1 :: a2 :: a3 :: a4 :: some (.long x) :: l, st, M) o9 = pj_Ends 113 (16, a0 :: a1 :: a2 :: a3 :: a4 :: some (.long x) :: l, .long x :: st, M) o9 := pj_xs (s113_14)
theorem q113_16 : pj_row 113 16 = some (.ldc2_w 164, 3, 0, 0, 255) := by decide +kernel
theorem s113_16 {L : pj_Loc} {st : List Value} {M : pj_Mem}  : pj_step 113 (16, L, st, M) = some (19, L, .long 255 :: st, M) := st_ldc2_w q113_16 (by decide +kernel)
theorem x113_16 {L : pj_Loc} {st : List Value} {M : pj_Mem}  {o9 : Option Value × pj_Mem} : pj_Ends 113 (16, L, st, M) o9 = pj_Ends 113 (19, L, .long 255 :: st, M) o9 := pj_xs (s113_16)
theorem q113_19 : pj_row 113 19 = some (.land, 1, 0, 0, 0) := by decide +kernel
theorem s113_19 {L : pj_Loc} {st : List Value} {M : pj_Mem} {x y : Int64} : pj_step 113 (19, L, .long y :: .long x :: st, M) = some (20, L, .long (x &&& y) :: st, M) := st_land q113_19
theorem x113_19 {L : pj_Loc} {st : List Value} {M : pj_Mem} {x y : Int64} {o9 : Option Value × pj_Mem} : pj_Ends 113 (19, L, .long y :: .long x :: st, M) o9 = pj_Ends 113 (20, L, .long (x &&& y) :: st, M) o9 := pj_xs (s113_19)
theorem q113_20 : pj_row 113 20 = some (.lconst 0, 1, 0, 0, 0) := by decide +kernel
theorem s113_20 {L : pj_Loc} {st : List Value} {M : pj_Mem}  : pj_step 113 (20, L, st, M) = some (21, L, .long 0 :: st, M) := st_lconst q113_20 (by decide +kernel)
theorem x113_20 {L : pj_Loc} {st : List Value} {M : pj_Mem}  {o9 : Option Value × pj_Mem} : pj_Ends 113 (20, L, st, M) o9 = pj_Ends 113 (21, L, .long 0 :: st, M) o9 := pj_xs (s113_20)
theorem q113_21 : pj_row 113 21 = some (.lcmp, 1, 0, 0, 0) := by decide +kernel
theorem s113_21 {L : pj_Loc} {st : List Value} {M : pj_Mem} {x y : Int64} : pj_step 113 (21, L, .long y :: .long x :: st, M) = some (22, L, .int (lg_cmp x y) :: st, M) := st_lcmp q113_21
theorem x113_21 {L : pj_Loc} {st : List Value} {M : pj_Mem} {x y : Int64} {o9 : Option Value × pj_Mem} : pj_Ends 113 (21, L, .long y :: .long x :: st, M) o9 = pj_Ends 113 (22, L, .int (lg_cmp x y) :: st, M) o9 := pj_xs (s113_21)
theorem q113_22 : pj_row 113 22 = some (.ifCond .eq 46, 3, 68, 0, 0) := by decide +kernel
theorem s113_22 {L : pj_Loc} {st : List Value} {M : pj_Mem} {x : Int32} : pj_step 113 (22, L, .int x :: st, M) = some (if x = 0 then 68 else 25, L, st, M) := st_if_eq q113_22
theorem x113_22 {L : pj_Loc} {st : List Value} {M : pj_Mem} {x : Int32} {o9 : Option Value × pj_Mem} : pj_Ends 113 (22, L, .int x :: st, M) o9 = pj_Ends 113 (if x = 0 then 68 else 25, L, st, M) o9 := pj_xs (s113_22)
theorem q113_25 : pj_row 113 25 = some (.iload 4, 2, 0, 0, 0) := by decide +kernel
theorem s113_25 {st : List Value} {M : pj_Mem} {l : pj_Loc} {a0 a1 a2 a3 : Option Value} {x : Int32} : pj_step 113 (25, a0 :: a1 :: a2 :: a3 :: some (.int x) :: l, st, M) = some (27, a0 :: a1 :: a2 :: a3 :: some (.int x) :: l, .int x :: st, M) := st_iload q113_25 rfl
theorem x113_25 {st : List Value} {M : pj_Mem} {l : pj_Loc} {a0 a1 a2 a3 : Option Value} {x : Int32} {o9 : Option Value × pj_Mem} : pj_Ends 113 (25, a0 :: a1 :: a2 :: a3 :: some (.int x) :: l, st, M) o9 = pj_Ends 113 (27, a0 :: a1 :: a2 :: a3 :: some (.int x) :: l, .int x :: st, M) o9 := pj_xs (s113_25)
theorem q113_27 : pj_row 113 27 = some (.ifCond .eq 25, 3, 52, 0, 0) := by decide +kernel
theorem s113_27 {L : pj_Loc} {st : List Value} {M : pj_Mem} {x : Int32} : pj_step 113 (27, L, .int x :: st, M) = some (if x = 0 then 52 else 30, L, st, M) := st_if_eq q113_27
theorem x113_27 {L : pj_Loc} {st : List Value} {M : pj_Mem} {x : Int32} {o9 : Option Value × pj_Mem} : pj_Ends 113 (27, L, .int x :: st, M) o9 = pj_Ends 113 (if x = 0 then 52 else 30, L, st, M) o9 := pj_xs (s113_27)
theorem q113_30 : pj_row 113 30 = some (.lload 5, 2, 0, 0, 0) := by decide +kernel
theorem s113_30 {st : List Value} {M : pj_Mem} {l : pj_Loc} {a0 a1 a2 a3 a4 : Option Value} {x : Int64} : pj_step 113 (30, a0 :: a1 :: a2 :: a3 :: a4 :: some (.long x) :: l, st, M) = some (32, a0 :: a1 :: a2 :: a3 :: a4 :: some (.long x) :: l, .long x :: st, M) := st_lload q113_30 rfl
theorem x113_30 {st : List Value} {M : pj_Mem} {l : pj_Loc} {a0 a1 a2 a3 a4 : Option Value} {x : Int64} {o9 : Option Value × pj_Mem} : pj_Ends 113 (30, a0 :: a1 :: a2 :: a3 :: a4 :: some (.long x) :: l, st, M) o9 = pj_Ends 113 (32, a0 :: a1 :: a2 :: a3 :: a4 :: some (.long x) :: l, .long x :: st, M) o9 := pj_xs (s113_30)
theorem q113_32 : pj_row 113 32 = some (.ldc2_w 164, 3, 0, 0, 255) := by decide +kernel
theorem s113_32 {L : pj_Loc} {st : List Value} {M : pj_Mem}  : pj_step 113 (32, L, st, M) = some (35, L, .long 255 :: st, M) := st_ldc2_w q113_32 (by decide +kernel)
theorem x113_32 {L : pj_Loc} {st : List Value} {M : pj_Mem}  {o9 : Option Value × pj_Mem} : pj_Ends 113 (32, L, st, M) o9 = pj_Ends 113 (35, L, .long 255 :: st, M) o9 := pj_xs (s113_32)
theorem q113_35 : pj_row 113 35 = some (.land, 1, 0, 0, 0) := by decide +kernel
theorem s113_35 {L : pj_Loc} {st : List Value} {M : pj_Mem} {x y : Int64} : pj_step 113 (35, L, .long y :: .long x :: st, M) = some (36, L, .long (x &&& y) :: st, M) := st_land q113_35
theorem x113_35 {L : pj_Loc} {st : List Value} {M : pj_Mem} {x y : Int64} {o9 : Option Value × pj_Mem} : pj_Ends 113 (35, L, .long y :: .long x :: st, M) o9 = pj_Ends 113 (36, L, .long (x &&& y) :: st, M) o9 := pj_xs (s113_35)
theorem q113_36 : pj_row 113 36 = some (.ldc2_w 166, 3, 0, 0, 33) := by decide +kernel
theorem s113_36 {L : pj_Loc} {st : List Value} {M : pj_Mem}  : pj_step 113 (36, L, st, M) = some (39, L, .long 33 :: st, M) := st_ldc2_w q113_36 (by decide +kernel)
theorem x113_36 {L : pj_Loc} {st : List Value} {M : pj_Mem}  {o9 : Option Value × pj_Mem} : pj_Ends 113 (36, L, st, M) o9 = pj_Ends 113 (39, L, .long 33 :: st, M) o9 := pj_xs (s113_36)
theorem q113_39 : pj_row 113 39 = some (.ldc2_w 168, 3, 0, 0, 126) := by decide +kernel
theorem s113_39 {L : pj_Loc} {st : List Value} {M : pj_Mem}  : pj_step 113 (39, L, st, M) = some (42, L, .long 126 :: st, M) := st_ldc2_w q113_39 (by decide +kernel)
theorem x113_39 {L : pj_Loc} {st : List Value} {M : pj_Mem}  {o9 : Option Value × pj_Mem} : pj_Ends 113 (39, L, st, M) o9 = pj_Ends 113 (42, L, .long 126 :: st, M) o9 := pj_xs (s113_39)
theorem q113_42 : pj_row 113 42 = some (.invokestatic 42, 3, 77, 3, 0) := by decide +kernel
theorem e113_42 {L : pj_Loc} {st : List Value} {N S : Nat} {H : pj_Heap} {o : Option Value × pj_Mem} {M' : pj_Mem} {x0 : Int64} {x1 : Int64} {x2 : Int64} {r : Int32} (h4 : pj_le4 st = true) (h1 : pj_Ends 77 (0, [some (.long x0), none, some (.long x1), none, some (.long x2), none], [], (N, S, H)) (some (.int r), M')) (h2 : pj_Ends 113 (45, L, .int r :: st, M') o) : pj_Ends 113 (42, L, .long x2 :: .long x1 :: .long x0 :: st, (N, S, H)) o := ec_s3 q113_42 (Or.inl rfl) h4 rfl h1 h2
theorem q113_45 : pj_row 113 45 = some (.ifCond .eq 7, 3, 52, 0, 0) := by decide +kernel
theorem s113_45 {L : pj_Loc} {st : List Value} {M : pj_Mem} {x : Int32} : pj_step 113 (45, L, .int x :: st, M) = some (if x = 0 then 52 else 48, L, st, M) := st_if_eq q113_45
theorem x113_45 {L : pj_Loc} {st : List Value} {M : pj_Mem} {x : Int32} {o9 : Option Value × pj_Mem} : pj_Ends 113 (45, L, .int x :: st, M) o9 = pj_Ends 113 (if x = 0 then 52 else 48, L, st, M) o9 := pj_xs (s113_45)
theorem q113_48 : pj_row 113 48 = some (.iconst 1, 1, 0, 0, 0) := by decide +kernel
theorem s113_48 {L : pj_Loc} {st : List Value} {M : pj_Mem}  : pj_step 113 (48, L, st, M) = some (49, L, .int 1 :: st, M) := st_iconst q113_48 (by decide +kernel)
theorem x113_48 {L : pj_Loc} {st : List Value} {M : pj_Mem}  {o9 : Option Value × pj_Mem} : pj_Ends 113 (48, L, st, M) o9 = pj_Ends 113 (49, L, .int 1 :: st, M) o9 := pj_xs (s113_48)
theorem q113_49 : pj_row 113 49 = some (.goto 4, 3, 53, 0, 0) := by decide +kernel
theorem s113_49 {L : pj_Loc} {st : List Value} {M : pj_Mem}  : pj_step 113 (49, L, st, M) = some (53, L, st, M) := st_goto q113_49
theorem x113_49 {L : pj_Loc} {st : List Value} {M : pj_Mem}  {o9 : Option Value × pj_Mem} : pj_Ends 113 (49, L, st, M) o9 = pj_Ends 113 (53, L, st, M) o9 := pj_xs (s113_49)
theorem q113_52 : pj_row 113 52 = some (.iconst 0, 1, 0, 0, 0) := by decide +kernel
theorem s113_52 {L : pj_Loc} {st : List Value} {M : pj_Mem}  : pj_step 113 (52, L, st, M) = some (53, L, .int 0 :: st, M) := st_iconst q113_52 (by decide +kernel)
theorem x113_52 {L : pj_Loc} {st : List Value} {M : pj_Mem}  {o9 : Option Value × pj_Mem} : pj_Ends 113 (52, L, st, M) o9 = pj_Ends 113 (53, L, .int 0 :: st, M) o9 := pj_xs (s113_52)
theorem q113_53 : pj_row 113 53 = some (.istore 4, 2, 0, 0, 0) := by decide +kernel
theorem s113_53 {st : List Value} {M : pj_Mem} {l : pj_Loc} {a0 a1 a2 a3 a4 : Option Value} {x : Int32} (h : pj_long a3 = false) : pj_step 113 (53, a0 :: a1 :: a2 :: a3 :: a4 :: l, .int x :: st, M) = some (55, a0 :: a1 :: a2 :: a3 :: some (.int x) :: l, st, M) := st_istore q113_53 (pj_st_4 h)
theorem x113_53 {st : List Value} {M : pj_Mem} {l : pj_Loc} {a0 a1 a2 a3 a4 : Option Value} {x : Int32} (h : pj_long a3 = false) {o9 : Option Value × pj_Mem} : pj_Ends 113 (53, a0 :: a1 :: a2 :: a3 :: a4 :: l, .int x :: st, M) o9 = pj_Ends 113 (55, a0 :: a1 :: a2 :: a3 :: some (.int x) :: l, st, M) o9 := pj_xs (s113_53 h)
theorem q113_55 : pj_row 113 55 = some (.lload 5, 2, 0, 0, 0) := by decide +kernel
theorem s113_55 {st : List Value} {M : pj_Mem} {l : pj_Loc} {a0 a1 a2 a3 a4 : Option Value} {x : Int64} : pj_step 113 (55, a0 :: a1 :: a2 :: a3 :: a4 :: some (.long x) :: l, st, M) = some (57, a0 :: a1 :: a2 :: a3 :: a4 :: some (.long x) :: l, .long x :: st, M) := st_lload q113_55 rfl
theorem x113_55 {st : List Value} {M : pj_Mem} {l : pj_Loc} {a0 a1 a2 a3 a4 : Option Value} {x : Int64} {o9 : Option Value × pj_Mem} : pj_Ends 113 (55, a0 :: a1 :: a2 :: a3 :: a4 :: some (.long x) :: l, st, M) o9 = pj_Ends 113 (57, a0 :: a1 :: a2 :: a3 :: a4 :: some (.long x) :: l, .long x :: st, M) o9 := pj_xs (s113_55)
theorem q113_57 : pj_row 113 57 = some (.bipush 8, 2, 0, 0, 0) := by decide +kernel
theorem s113_57 {L : pj_Loc} {st : List Value} {M : pj_Mem}  : pj_step 113 (57, L, st, M) = some (59, L, .int 8 :: st, M) := st_bipush q113_57 (by decide +kernel)
theorem x113_57 {L : pj_Loc} {st : List Value} {M : pj_Mem}  {o9 : Option Value × pj_Mem} : pj_Ends 113 (57, L, st, M) o9 = pj_Ends 113 (59, L, .int 8 :: st, M) o9 := pj_xs (s113_57)
theorem q113_59 : pj_row 113 59 = some (.lushr, 1, 0, 0, 0) := by decide +kernel
theorem s113_59 {L : pj_Loc} {st : List Value} {M : pj_Mem} {x : Int64} {y : Int32} : pj_step 113 (59, L, .int y :: .long x :: st, M) = some (60, L, .long ((x.toUInt64 >>> (y.toInt64.toUInt64 &&& Int64.toUInt64 63)).toInt64) :: st, M) := st_lushr q113_59
theorem x113_59 {L : pj_Loc} {st : List Value} {M : pj_Mem} {x : Int64} {y : Int32} {o9 : Option Value × pj_Mem} : pj_Ends 113 (59, L, .int y :: .long x :: st, M) o9 = pj_Ends 113 (60, L, .long ((x.toUInt64 >>> (y.toInt64.toUInt64 &&& Int64.toUInt64 63)).toInt64) :: st, M) o9 := pj_xs (s113_59)
theorem q113_60 : pj_row 113 60 = some (.lstore 5, 2, 0, 0, 0) := by decide +kernel
theorem s113_60 {st : List Value} {M : pj_Mem} {l : pj_Loc} {a0 a1 a2 a3 a4 a5 a6 : Option Value} {x : Int64} (h : pj_long a4 = false) : pj_step 113 (60, a0 :: a1 :: a2 :: a3 :: a4 :: a5 :: a6 :: l, .long x :: st, M) = some (62, a0 :: a1 :: a2 :: a3 :: a4 :: some (.long x) :: none :: l, st, M) := st_lstore q113_60 (pj_stl_5 h)
theorem x113_60 {st : List Value} {M : pj_Mem} {l : pj_Loc} {a0 a1 a2 a3 a4 a5 a6 : Option Value} {x : Int64} (h : pj_long a4 = false) {o9 : Option Value × pj_Mem} : pj_Ends 113 (60, a0 :: a1 :: a2 :: a3 :: a4 :: a5 :: a6 :: l, .long x :: st, M) o9 = pj_Ends 113 (62, a0 :: a1 :: a2 :: a3 :: a4 :: some (.long x) :: none :: l, st, M) o9 := pj_xs (s113_60 h)
theorem q113_62 : pj_row 113 62 = some (.iinc 3 1, 3, 0, 0, 0) := by decide +kernel
theorem s113_62 {st : List Value} {M : pj_Mem} {l : pj_Loc} {a0 a1 a2 : Option Value} {x : Int32} (h : pj_long a2 = false) : pj_step 113 (62, a0 :: a1 :: a2 :: some (.int x) :: l, st, M) = some (65, a0 :: a1 :: a2 :: some (.int (x + 1)) :: l, st, M) := st_iinc q113_62 rfl (congrArg (fun y => x + y) (show Int32.ofInt 1 = 1 by decide +kernel)) (pj_st_3 h)
theorem x113_62 {st : List Value} {M : pj_Mem} {l : pj_Loc} {a0 a1 a2 : Option Value} {x : Int32} (h : pj_long a2 = false) {o9 : Option Value × pj_Mem} : pj_Ends 113 (62, a0 :: a1 :: a2 :: some (.int x) :: l, st, M) o9 = pj_Ends 113 (65, a0 :: a1 :: a2 :: some (.int (x + 1)) :: l, st, M) o9 := pj_xs (s113_62 h)
theorem q113_65 : pj_row 113 65 = some (.goto (-57), 3, 8, 0, 0) := by decide +kernel
theorem s113_65 {L : pj_Loc} {st : List Value} {M : pj_Mem}  : pj_step 113 (65, L, st, M) = some (8, L, st, M) := st_goto q113_65
theorem x113_65 {L : pj_Loc} {st : List Value} {M : pj_Mem}  {o9 : Option Value × pj_Mem} : pj_Ends 113 (65, L, st, M) o9 = pj_Ends 113 (8, L, st, M) o9 := pj_xs (s113_65)
theorem q113_68 : pj_row 113 68 = some (.iload_n 3, 1, 0, 0, 0) := by decide +kernel
theorem s113_68 {st : List Value} {M : pj_Mem} {l : pj_Loc} {a0 a1 a2 : Option Value} {x : Int32} : pj_step 113 (68, a0 :: a1 :: a2 :: some (.int x) :: l, st, M) = some (69, a0 :: a1 :: a2 :: some (.int x) :: l, .int x :: st, M) := st_iload_n q113_68 rfl
theorem x113_68 {st : List Value} {M : pj_Mem} {l : pj_Loc} {a0 a1 a2 : Option Value} {x : Int32} {o9 : Option Value × pj_Mem} : pj_Ends 113 (68, a0 :: a1 :: a2 :: some (.int x) :: l, st, M) o9 = pj_Ends 113 (69, a0 :: a1 :: a2 :: some (.int x) :: l, .int x :: st, M) o9 := pj_xs (s113_68)
theorem q113_69 : pj_row 113 69 = some (.ifCond .eq 15, 3, 84, 0, 0) := by decide +kernel
theorem s113_69 {L : pj_Loc} {st : List Value} {M : pj_Mem} {x : Int32} : pj_step 113 (69, L, .int x :: st, M) = some (if x = 0 then 84 else 72, L, st, M) := st_if_eq q113_69
theorem x113_69 {L : pj_Loc} {st : List Value} {M : pj_Mem} {x : Int32} {o9 : Option Value × pj_Mem} : pj_Ends 113 (69, L, .int x :: st, M) o9 = pj_Ends 113 (if x = 0 then 84 else 72, L, st, M) o9 := pj_xs (s113_69)
theorem q113_72 : pj_row 113 72 = some (.lload 5, 2, 0, 0, 0) := by decide +kernel
theorem s113_72 {st : List Value} {M : pj_Mem} {l : pj_Loc} {a0 a1 a2 a3 a4 : Option Value} {x : Int64} : pj_step 113 (72, a0 :: a1 :: a2 :: a3 :: a4 :: some (.long x) :: l, st, M) = some (74, a0 :: a1 :: a2 :: a3 :: a4 :: some (.long x) :: l, .long x :: st, M) := st_lload q113_72 rfl
theorem x113_72 {st : List Value} {M : pj_Mem} {l : pj_Loc} {a0 a1 a2 a3 a4 : Option Value} {x : Int64} {o9 : Option Value × pj_Mem} : pj_Ends 113 (72, a0 :: a1 :: a2 :: a3 :: a4 :: some (.long x) :: l, st, M) o9 = pj_Ends 113 (74, a0 :: a1 :: a2 :: a3 :: a4 :: some (.long x) :: l, .long x :: st, M) o9 := pj_xs (s113_72)
theorem q113_74 : pj_row 113 74 = some (.lconst 0, 1, 0, 0, 0) := by decide +kernel
theorem s113_74 {L : pj_Loc} {st : List Value} {M : pj_Mem}  : pj_step 113 (74, L, st, M) = some (75, L, .long 0 :: st, M) := st_lconst q113_74 (by decide +kernel)
theorem x113_74 {L : pj_Loc} {st : List Value} {M : pj_Mem}  {o9 : Option Value × pj_Mem} : pj_Ends 113 (74, L, st, M) o9 = pj_Ends 113 (75, L, .long 0 :: st, M) o9 := pj_xs (s113_74)
theorem q113_75 : pj_row 113 75 = some (.lcmp, 1, 0, 0, 0) := by decide +kernel
theorem s113_75 {L : pj_Loc} {st : List Value} {M : pj_Mem} {x y : Int64} : pj_step 113 (75, L, .long y :: .long x :: st, M) = some (76, L, .int (lg_cmp x y) :: st, M) := st_lcmp q113_75
theorem x113_75 {L : pj_Loc} {st : List Value} {M : pj_Mem} {x y : Int64} {o9 : Option Value × pj_Mem} : pj_Ends 113 (75, L, .long y :: .long x :: st, M) o9 = pj_Ends 113 (76, L, .int (lg_cmp x y) :: st, M) o9 := pj_xs (s113_75)
theorem q113_76 : pj_row 113 76 = some (.ifCond .ne 8, 3, 84, 0, 0) := by decide +kernel
theorem s113_76 {L : pj_Loc} {st : List Value} {M : pj_Mem} {x : Int32} : pj_step 113 (76, L, .int x :: st, M) = some (if ¬ x = 0 then 84 else 79, L, st, M) := st_if_ne q113_76
theorem x113_76 {L : pj_Loc} {st : List Value} {M : pj_Mem} {x : Int32} {o9 : Option Value × pj_Mem} : pj_Ends 113 (76, L, .int x :: st, M) o9 = pj_Ends 113 (if ¬ x = 0 then 84 else 79, L, st, M) o9 := pj_xs (s113_76)
theorem q113_79 : pj_row 113 79 = some (.iload 4, 2, 0, 0, 0) := by decide +kernel
theorem s113_79 {st : List Value} {M : pj_Mem} {l : pj_Loc} {a0 a1 a2 a3 : Option Value} {x : Int32} : pj_step 113 (79, a0 :: a1 :: a2 :: a3 :: some (.int x) :: l, st, M) = some (81, a0 :: a1 :: a2 :: a3 :: some (.int x) :: l, .int x :: st, M) := st_iload q113_79 rfl
theorem x113_79 {st : List Value} {M : pj_Mem} {l : pj_Loc} {a0 a1 a2 a3 : Option Value} {x : Int32} {o9 : Option Value × pj_Mem} : pj_Ends 113 (79, a0 :: a1 :: a2 :: a3 :: some (.int x) :: l, st, M) o9 = pj_Ends 113 (81, a0 :: a1 :: a2 :: a3 :: some (.int x) :: l, .int x :: st, M) o9 := pj_xs (s113_79)
theorem q113_81 : pj_row 113 81 = some (.ifCond .ne 6, 3, 87, 0, 0) := by decide +kernel
theorem s113_81 {L : pj_Loc} {st : List Value} {M : pj_Mem} {x : Int32} : pj_step 113 (81, L, .int x :: st, M) = some (if ¬ x = 0 then 87 else 84, L, st, M) := st_if_ne q113_81
theorem x113_81 {L : pj_Loc} {st : List Value} {M : pj_Mem} {x : Int32} {o9 : Option Value × pj_Mem} : pj_Ends 113 (81, L, .int x :: st, M) o9 = pj_Ends 113 (if ¬ x = 0 then 87 else 84, L, st, M) o9 := pj_xs (s113_81)
theorem q113_84 : pj_row 113 84 = some (.bipush (-2), 2, 0, 0, 0) := by decide +kernel
theorem s113_84 {L : pj_Loc} {st : List Value} {M : pj_Mem}  : pj_step 113 (84, L, st, M) = some (86, L, .int (-2) :: st, M) := st_bipush q113_84 (by decide +kernel)
theorem x113_84 {L : pj_Loc} {st : List Value} {M : pj_Mem}  {o9 : Option Value × pj_Mem} : pj_Ends 113 (84, L, st, M) o9 = pj_Ends 113 (86, L, .int (-2) :: st, M) o9 := pj_xs (s113_84)
theorem q113_86 : pj_row 113 86 = some (.ireturn, 1, 0, 0, 0) := by decide +kernel
theorem t113_86 {L : pj_Loc} {M : pj_Mem} {v : Int32} : pj_Ends 113 (86, L, [.int v], M) (some (.int v), M) := pj_Ends.ret q113_86 (pj_rtn_i rt113)
theorem q113_87 : pj_row 113 87 = some (.aload_n 0, 1, 0, 0, 0) := by decide +kernel
theorem s113_87 {st : List Value} {M : pj_Mem} {l : pj_Loc} {x : Nat} : pj_step 113 (87, some (.ref x) :: l, st, M) = some (88, some (.ref x) :: l, .ref x :: st, M) := st_aload_n q113_87 rfl
theorem x113_87 {st : List Value} {M : pj_Mem} {l : pj_Loc} {x : Nat} {o9 : Option Value × pj_Mem} : pj_Ends 113 (87, some (.ref x) :: l, st, M) o9 = pj_Ends 113 (88, some (.ref x) :: l, .ref x :: st, M) o9 := pj_xs (s113_87)
theorem q113_88 : pj_row 113 88 = some (.getfield 152, 3, 6, 13, 0) := by decide +kernel
theorem s113_88 {L : pj_Loc} {st : List Value} {N S : Nat} {H : pj_Heap} {o : Nat} : pj_step 113 (88, L, .ref o :: st, (N, S, H)) = pj_pv 91 L st (N, S, H) (pj_fld (H o) 6 13) := st_getfield q113_88
theorem x113_88 {L : pj_Loc} {st : List Value} {N S : Nat} {H : pj_Heap} {o : Nat} {o9 : Option Value × pj_Mem} : pj_Ends 113 (88, L, .ref o :: st, (N, S, H)) o9 = pj_then 113 o9 (pj_pv 91 L st (N, S, H) (pj_fld (H o) 6 13)) := pj_xt q113_88 rfl (pj_cl_nc rfl) (s113_88)
theorem q113_91 : pj_row 113 91 = some (.iload_n 3, 1, 0, 0, 0) := by decide +kernel
theorem s113_91 {st : List Value} {M : pj_Mem} {l : pj_Loc} {a0 a1 a2 : Option Value} {x : Int32} : pj_step 113 (91, a0 :: a1 :: a2 :: some (.int x) :: l, st, M) = some (92, a0 :: a1 :: a2 :: some (.int x) :: l, .int x :: st, M) := st_iload_n q113_91 rfl
theorem x113_91 {st : List Value} {M : pj_Mem} {l : pj_Loc} {a0 a1 a2 : Option Value} {x : Int32} {o9 : Option Value × pj_Mem} : pj_Ends 113 (91, a0 :: a1 :: a2 :: some (.int x) :: l, st, M) o9 = pj_Ends 113 (92, a0 :: a1 :: a2 :: some (.int x) :: l, .int x :: st, M) o9 := pj_xs (s113_91)
theorem q113_92 : pj_row 113 92 = some (.iadd, 1, 0, 0, 0) := by decide +kernel
theorem s113_92 {L : pj_Loc} {st : List Value} {M : pj_Mem} {x y : Int32} : pj_step 113 (92, L, .int y :: .int x :: st, M) = some (93, L, .int (x + y) :: st, M) := st_iadd q113_92
theorem x113_92 {L : pj_Loc} {st : List Value} {M : pj_Mem} {x y : Int32} {o9 : Option Value × pj_Mem} : pj_Ends 113 (92, L, .int y :: .int x :: st, M) o9 = pj_Ends 113 (93, L, .int (x + y) :: st, M) o9 := pj_xs (s113_92)
theorem q113_93 : pj_row 113 93 = some (.bipush 80, 2, 0, 0, 0) := by decide +kernel
theorem s113_93 {L : pj_Loc} {st : List Value} {M : pj_Mem}  : pj_step 113 (93, L, st, M) = some (95, L, .int 80 :: st, M) := st_bipush q113_93 (by decide +kernel)
theorem x113_93 {L : pj_Loc} {st : List Value} {M : pj_Mem}  {o9 : Option Value × pj_Mem} : pj_Ends 113 (93, L, st, M) o9 = pj_Ends 113 (95, L, .int 80 :: st, M) o9 := pj_xs (s113_93)
theorem q113_95 : pj_row 113 95 = some (.if_icmp .le 6, 3, 101, 0, 0) := by decide +kernel
theorem s113_95 {L : pj_Loc} {st : List Value} {M : pj_Mem} {x y : Int32} : pj_step 113 (95, L, .int y :: .int x :: st, M) = some (if x ≤ y then 101 else 98, L, st, M) := st_icmp_le q113_95
theorem x113_95 {L : pj_Loc} {st : List Value} {M : pj_Mem} {x y : Int32} {o9 : Option Value × pj_Mem} : pj_Ends 113 (95, L, .int y :: .int x :: st, M) o9 = pj_Ends 113 (if x ≤ y then 101 else 98, L, st, M) o9 := pj_xs (s113_95)
theorem q113_98 : pj_row 113 98 = some (.bipush (-4), 2, 0, 0, 0) := by decide +kernel
theorem s113_98 {L : pj_Loc} {st : List Value} {M : pj_Mem}  : pj_step 113 (98, L, st, M) = some (100, L, .int (-4) :: st, M) := st_bipush q113_98 (by decide +kernel)
theorem x113_98 {L : pj_Loc} {st : List Value} {M : pj_Mem}  {o9 : Option Value × pj_Mem} : pj_Ends 113 (98, L, st, M) o9 = pj_Ends 113 (100, L, .int (-4) :: st, M) o9 := pj_xs (s113_98)
theorem q113_100 : pj_row 113 100 = some (.ireturn, 1, 0, 0, 0) := by decide +kernel
theorem t113_100 {L : pj_Loc} {M : pj_Mem} {v : Int32} : pj_Ends 113 (100, L, [.int v], M) (some (.int v), M) := pj_Ends.ret q113_100 (pj_rtn_i rt113)
theorem q113_101 : pj_row 113 101 = some (.iload_n 3, 1, 0, 0, 0) := by decide +kernel
theorem s113_101 {st : List Value} {M : pj_Mem} {l : pj_Loc} {a0 a1 a2 : Option Value} {x : Int32} : pj_step 113 (101, a0 :: a1 :: a2 :: some (.int x) :: l, st, M) = some (102, a0 :: a1 :: a2 :: some (.int x) :: l, .int x :: st, M) := st_iload_n q113_101 rfl
theorem x113_101 {st : List Value} {M : pj_Mem} {l : pj_Loc} {a0 a1 a2 : Option Value} {x : Int32} {o9 : Option Value × pj_Mem} : pj_Ends 113 (101, a0 :: a1 :: a2 :: some (.int x) :: l, st, M) o9 = pj_Ends 113 (102, a0 :: a1 :: a2 :: some (.int x) :: l, .int x :: st, M) o9 := pj_xs (s113_101)
theorem q113_102 : pj_row 113 102 = some (.iconst 1, 1, 0, 0, 0) := by decide +kernel
theorem s113_102 {L : pj_Loc} {st : List Value} {M : pj_Mem}  : pj_step 113 (102, L, st, M) = some (103, L, .int 1 :: st, M) := st_iconst q113_102 (by decide +kernel)
theorem x113_102 {L : pj_Loc} {st : List Value} {M : pj_Mem}  {o9 : Option Value × pj_Mem} : pj_Ends 113 (102, L, st, M) o9 = pj_Ends 113 (103, L, .int 1 :: st, M) o9 := pj_xs (s113_102)
theorem q113_103 : pj_row 113 103 = some (.isub, 1, 0, 0, 0) := by decide +kernel
theorem s113_103 {L : pj_Loc} {st : List Value} {M : pj_Mem} {x y : Int32} : pj_step 113 (103, L, .int y :: .int x :: st, M) = some (104, L, .int (x - y) :: st, M) := st_isub q113_103
theorem x113_103 {L : pj_Loc} {st : List Value} {M : pj_Mem} {x y : Int32} {o9 : Option Value × pj_Mem} : pj_Ends 113 (103, L, .int y :: .int x :: st, M) o9 = pj_Ends 113 (104, L, .int (x - y) :: st, M) o9 := pj_xs (s113_103)
theorem q113_104 : pj_row 113 104 = some (.istore 7, 2, 0, 0, 0) := by decide +kernel
theorem s113_104 {st : List Value} {M : pj_Mem} {l : pj_Loc} {a0 a1 a2 a3 a4 a5 a6 a7 : Option Value} {x : Int32} (h : pj_long a6 = false) : pj_step 113 (104, a0 :: a1 :: a2 :: a3 :: a4 :: a5 :: a6 :: a7 :: l, .int x :: st, M) = some (106, a0 :: a1 :: a2 :: a3 :: a4 :: a5 :: a6 :: some (.int x) :: l, st, M) := st_istore q113_104 (pj_st_7 h)
theorem x113_104 {st : List Value} {M : pj_Mem} {l : pj_Loc} {a0 a1 a2 a3 a4 a5 a6 a7 : Option Value} {x : Int32} (h : pj_long a6 = false) {o9 : Option Value × pj_Mem} : pj_Ends 113 (104, a0 :: a1 :: a2 :: a3 :: a4 :: a5 :: a6 :: a7 :: l, .int x :: st, M) o9 = pj_Ends 113 (106, a0 :: a1 :: a2 :: a3 :: a4 :: a5 :: a6 :: some (.int x) :: l, st, M) o9 := pj_xs (s113_104 h)
theorem q113_106 : pj_row 113 106 = some (.iload 7, 2, 0, 0, 0) := by decide +kernel
theorem s113_106 {st : List Value} {M : pj_Mem} {l : pj_Loc} {a0 a1 a2 a3 a4 a5 a6 : Option Value} {x : Int32} : pj_step 113 (106, a0 :: a1 :: a2 :: a3 :: a4 :: a5 :: a6 :: some (.int x) :: l, st, M) = some (108, a0 :: a1 :: a2 :: a3 :: a4 :: a5 :: a6 :: some (.int x) :: l, .int x :: st, M) := st_iload q113_106 rfl
theorem x113_106 {st : List Value} {M : pj_Mem} {l : pj_Loc} {a0 a1 a2 a3 a4 a5 a6 : Option Value} {x : Int32} {o9 : Option Value × pj_Mem} : pj_Ends 113 (106, a0 :: a1 :: a2 :: a3 :: a4 :: a5 :: a6 :: some (.int x) :: l, st, M) o9 = pj_Ends 113 (108, a0 :: a1 :: a2 :: a3 :: a4 :: a5 :: a6 :: some (.int x) :: l, .int x :: st, M) o9 := pj_xs (s113_106)
theorem q113_108 : pj_row 113 108 = some (.ifCond .lt 40, 3, 148, 0, 0) := by decide +kernel
theorem s113_108 {L : pj_Loc} {st : List Value} {M : pj_Mem} {x : Int32} : pj_step 113 (108, L, .int x :: st, M) = some (if x < 0 then 148 else 111, L, st, M) := st_if_lt q113_108
theorem x113_108 {L : pj_Loc} {st : List Value} {M : pj_Mem} {x : Int32} {o9 : Option Value × pj_Mem} : pj_Ends 113 (108, L, .int x :: st, M) o9 = pj_Ends 113 (if x < 0 then 148 else 111, L, st, M) o9 := pj_xs (s113_108)
theorem q113_111 : pj_row 113 111 = some (.aload_n 0, 1, 0, 0, 0) := by decide +kernel
theorem s113_111 {st : List Value} {M : pj_Mem} {l : pj_Loc} {x : Nat} : pj_step 113 (111, some (.ref x) :: l, st, M) = some (112, some (.ref x) :: l, .ref x :: st, M) := st_aload_n q113_111 rfl
theorem x113_111 {st : List Value} {M : pj_Mem} {l : pj_Loc} {x : Nat} {o9 : Option Value × pj_Mem} : pj_Ends 113 (111, some (.ref x) :: l, st, M) o9 = pj_Ends 113 (112, some (.ref x) :: l, .ref x :: st, M) o9 := pj_xs (s113_111)
theorem q113_112 : pj_row 113 112 = some (.getfield 31, 3, 6, 12, 0) := by decide +kernel
theorem s113_112 {L : pj_Loc} {st : List Value} {N S : Nat} {H : pj_Heap} {o : Nat} : pj_step 113 (112, L, .ref o :: st, (N, S, H)) = pj_pv 115 L st (N, S, H) (pj_fld (H o) 6 12) := st_getfield q113_112
theorem x113_112 {L : pj_Loc} {st : List Value} {N S : Nat} {H : pj_Heap} {o : Nat} {o9 : Option Value × pj_Mem} : pj_Ends 113 (112, L, .ref o :: st, (N, S, H)) o9 = pj_then 113 o9 (pj_pv 115 L st (N, S, H) (pj_fld (H o) 6 12)) := pj_xt q113_112 rfl (pj_cl_nc rfl) (s113_112)
theorem q113_115 : pj_row 113 115 = some (.aload_n 0, 1, 0, 0, 0) := by decide +kernel
theorem s113_115 {st : List Value} {M : pj_Mem} {l : pj_Loc} {x : Nat} : pj_step 113 (115, some (.ref x) :: l, st, M) = some (116, some (.ref x) :: l, .ref x :: st, M) := st_aload_n q113_115 rfl
theorem x113_115 {st : List Value} {M : pj_Mem} {l : pj_Loc} {x : Nat} {o9 : Option Value × pj_Mem} : pj_Ends 113 (115, some (.ref x) :: l, st, M) o9 = pj_Ends 113 (116, some (.ref x) :: l, .ref x :: st, M) o9 := pj_xs (s113_115)
theorem q113_116 : pj_row 113 116 = some (.getfield 152, 3, 6, 13, 0) := by decide +kernel
theorem s113_116 {L : pj_Loc} {st : List Value} {N S : Nat} {H : pj_Heap} {o : Nat} : pj_step 113 (116, L, .ref o :: st, (N, S, H)) = pj_pv 119 L st (N, S, H) (pj_fld (H o) 6 13) := st_getfield q113_116
theorem x113_116 {L : pj_Loc} {st : List Value} {N S : Nat} {H : pj_Heap} {o : Nat} {o9 : Option Value × pj_Mem} : pj_Ends 113 (116, L, .ref o :: st, (N, S, H)) o9 = pj_then 113 o9 (pj_pv 119 L st (N, S, H) (pj_fld (H o) 6 13)) := pj_xt q113_116 rfl (pj_cl_nc rfl) (s113_116)
theorem q113_119 : pj_row 113 119 = some (.lload_n 1, 1, 0, 0, 0) := by decide +kernel
theorem s113_119 {st : List Value} {M : pj_Mem} {l : pj_Loc} {a0 : Option Value} {x : Int64} : pj_step 113 (119, a0 :: some (.long x) :: l, st, M) = some (120, a0 :: some (.long x) :: l, .long x :: st, M) := st_lload_n q113_119 rfl
theorem x113_119 {st : List Value} {M : pj_Mem} {l : pj_Loc} {a0 : Option Value} {x : Int64} {o9 : Option Value × pj_Mem} : pj_Ends 113 (119, a0 :: some (.long x) :: l, st, M) o9 = pj_Ends 113 (120, a0 :: some (.long x) :: l, .long x :: st, M) o9 := pj_xs (s113_119)
theorem q113_120 : pj_row 113 120 = some (.bipush 8, 2, 0, 0, 0) := by decide +kernel
theorem s113_120 {L : pj_Loc} {st : List Value} {M : pj_Mem}  : pj_step 113 (120, L, st, M) = some (122, L, .int 8 :: st, M) := st_bipush q113_120 (by decide +kernel)
theorem x113_120 {L : pj_Loc} {st : List Value} {M : pj_Mem}  {o9 : Option Value × pj_Mem} : pj_Ends 113 (120, L, st, M) o9 = pj_Ends 113 (122, L, .int 8 :: st, M) o9 := pj_xs (s113_120)
theorem q113_122 : pj_row 113 122 = some (.iload 7, 2, 0, 0, 0) := by decide +kernel
theorem s113_122 {st : List Value} {M : pj_Mem} {l : pj_Loc} {a0 a1 a2 a3 a4 a5 a6 : Option Value} {x : Int32} : pj_step 113 (122, a0 :: a1 :: a2 :: a3 :: a4 :: a5 :: a6 :: some (.int x) :: l, st, M) = some (124, a0 :: a1 :: a2 :: a3 :: a4 :: a5 :: a6 :: some (.int x) :: l, .int x :: st, M) := st_iload q113_122 rfl
theorem x113_122 {st : List Value} {M : pj_Mem} {l : pj_Loc} {a0 a1 a2 a3 a4 a5 a6 : Option Value} {x : Int32} {o9 : Option Value × pj_Mem} : pj_Ends 113 (122, a0 :: a1 :: a2 :: a3 :: a4 :: a5 :: a6 :: some (.int x) :: l, st, M) o9 = pj_Ends 113 (124, a0 :: a1 :: a2 :: a3 :: a4 :: a5 :: a6 :: some (.int x) :: l, .int x :: st, M) o9 := pj_xs (s113_122)
theorem q113_124 : pj_row 113 124 = some (.imul, 1, 0, 0, 0) := by decide +kernel
theorem s113_124 {L : pj_Loc} {st : List Value} {M : pj_Mem} {x y : Int32} : pj_step 113 (124, L, .int y :: .int x :: st, M) = some (125, L, .int (x * y) :: st, M) := st_imul q113_124
theorem x113_124 {L : pj_Loc} {st : List Value} {M : pj_Mem} {x y : Int32} {o9 : Option Value × pj_Mem} : pj_Ends 113 (124, L, .int y :: .int x :: st, M) o9 = pj_Ends 113 (125, L, .int (x * y) :: st, M) o9 := pj_xs (s113_124)
theorem q113_125 : pj_row 113 125 = some (.lushr, 1, 0, 0, 0) := by decide +kernel
theorem s113_125 {L : pj_Loc} {st : List Value} {M : pj_Mem} {x : Int64} {y : Int32} : pj_step 113 (125, L, .int y :: .long x :: st, M) = some (126, L, .long ((x.toUInt64 >>> (y.toInt64.toUInt64 &&& Int64.toUInt64 63)).toInt64) :: st, M) := st_lushr q113_125
theorem x113_125 {L : pj_Loc} {st : List Value} {M : pj_Mem} {x : Int64} {y : Int32} {o9 : Option Value × pj_Mem} : pj_Ends 113 (125, L, .int y :: .long x :: st, M) o9 = pj_Ends 113 (126, L, .long ((x.toUInt64 >>> (y.toInt64.toUInt64 &&& Int64.toUInt64 63)).toInt64) :: st, M) o9 := pj_xs (s113_125)
theorem q113_126 : pj_row 113 126 = some (.ldc2_w 164, 3, 0, 0, 255) := by decide +kernel
theorem s113_126 {L : pj_Loc} {st : List Value} {M : pj_Mem}  : pj_step 113 (126, L, st, M) = some (129, L, .long 255 :: st, M) := st_ldc2_w q113_126 (by decide +kernel)
theorem x113_126 {L : pj_Loc} {st : List Value} {M : pj_Mem}  {o9 : Option Value × pj_Mem} : pj_Ends 113 (126, L, st, M) o9 = pj_Ends 113 (129, L, .long 255 :: st, M) o9 := pj_xs (s113_126)
theorem q113_129 : pj_row 113 129 = some (.land, 1, 0, 0, 0) := by decide +kernel
theorem s113_129 {L : pj_Loc} {st : List Value} {M : pj_Mem} {x y : Int64} : pj_step 113 (129, L, .long y :: .long x :: st, M) = some (130, L, .long (x &&& y) :: st, M) := st_land q113_129
theorem x113_129 {L : pj_Loc} {st : List Value} {M : pj_Mem} {x y : Int64} {o9 : Option Value × pj_Mem} : pj_Ends 113 (129, L, .long y :: .long x :: st, M) o9 = pj_Ends 113 (130, L, .long (x &&& y) :: st, M) o9 := pj_xs (s113_129)
theorem q113_130 : pj_row 113 130 = some (.l2i, 1, 0, 0, 0) := by decide +kernel
theorem s113_130 {L : pj_Loc} {st : List Value} {M : pj_Mem} {x : Int64} : pj_step 113 (130, L, .long x :: st, M) = some (131, L, .int x.toInt32 :: st, M) := st_l2i q113_130
theorem x113_130 {L : pj_Loc} {st : List Value} {M : pj_Mem} {x : Int64} {o9 : Option Value × pj_Mem} : pj_Ends 113 (130, L, .long x :: st, M) o9 = pj_Ends 113 (131, L, .int x.toInt32 :: st, M) o9 := pj_xs (s113_130)
theorem q113_131 : pj_row 113 131 = some (.iastore, 1, 0, 0, 0) := by decide +kernel
theorem s113_131 {L : pj_Loc} {st : List Value} {N S : Nat} {H : pj_Heap} {o : Nat} {i x : Int32} : pj_step 113 (131, L, .int x :: .int i :: .ref o :: st, (N, S, H)) = pj_set 132 L st (N, S, H) o (pj_ars (H o) 0 i x) := st_iastore q113_131
theorem x113_131 {L : pj_Loc} {st : List Value} {N S : Nat} {H : pj_Heap} {o : Nat} {i x : Int32} {o9 : Option Value × pj_Mem} : pj_Ends 113 (131, L, .int x :: .int i :: .ref o :: st, (N, S, H)) o9 = pj_then 113 o9 (pj_set 132 L st (N, S, H) o (pj_ars (H o) 0 i x)) := pj_xt q113_131 rfl (pj_cl_nc rfl) (s113_131)
theorem q113_132 : pj_row 113 132 = some (.aload_n 0, 1, 0, 0, 0) := by decide +kernel
theorem s113_132 {st : List Value} {M : pj_Mem} {l : pj_Loc} {x : Nat} : pj_step 113 (132, some (.ref x) :: l, st, M) = some (133, some (.ref x) :: l, .ref x :: st, M) := st_aload_n q113_132 rfl
theorem x113_132 {st : List Value} {M : pj_Mem} {l : pj_Loc} {x : Nat} {o9 : Option Value × pj_Mem} : pj_Ends 113 (132, some (.ref x) :: l, st, M) o9 = pj_Ends 113 (133, some (.ref x) :: l, .ref x :: st, M) o9 := pj_xs (s113_132)
theorem q113_133 : pj_row 113 133 = some (.dup, 1, 0, 0, 0) := by decide +kernel
theorem s113_133 {L : pj_Loc} {st : List Value} {M : pj_Mem} {x : Nat} : pj_step 113 (133, L, .ref x :: st, M) = some (134, L, .ref x :: .ref x :: st, M) := st_dup_ref q113_133
theorem x113_133 {L : pj_Loc} {st : List Value} {M : pj_Mem} {x : Nat} {o9 : Option Value × pj_Mem} : pj_Ends 113 (133, L, .ref x :: st, M) o9 = pj_Ends 113 (134, L, .ref x :: .ref x :: st, M) o9 := pj_xs (s113_133)
theorem s113_133i {L : pj_Loc} {st : List Value} {M : pj_Mem} {x : Int32} : pj_step 113 (133, L, .int x :: st, M) = some (134, L, .int x :: .int x :: st, M) := st_dup_int q113_133
theorem x113_133i {L : pj_Loc} {st : List Value} {M : pj_Mem} {x : Int32} {o9 : Option Value × pj_Mem} : pj_Ends 113 (133, L, .int x :: st, M) o9 = pj_Ends 113 (134, L, .int x :: .int x :: st, M) o9 := pj_xs (s113_133i)
theorem q113_134 : pj_row 113 134 = some (.getfield 152, 3, 6, 13, 0) := by decide +kernel
theorem s113_134 {L : pj_Loc} {st : List Value} {N S : Nat} {H : pj_Heap} {o : Nat} : pj_step 113 (134, L, .ref o :: st, (N, S, H)) = pj_pv 137 L st (N, S, H) (pj_fld (H o) 6 13) := st_getfield q113_134
theorem x113_134 {L : pj_Loc} {st : List Value} {N S : Nat} {H : pj_Heap} {o : Nat} {o9 : Option Value × pj_Mem} : pj_Ends 113 (134, L, .ref o :: st, (N, S, H)) o9 = pj_then 113 o9 (pj_pv 137 L st (N, S, H) (pj_fld (H o) 6 13)) := pj_xt q113_134 rfl (pj_cl_nc rfl) (s113_134)
theorem q113_137 : pj_row 113 137 = some (.iconst 1, 1, 0, 0, 0) := by decide +kernel
theorem s113_137 {L : pj_Loc} {st : List Value} {M : pj_Mem}  : pj_step 113 (137, L, st, M) = some (138, L, .int 1 :: st, M) := st_iconst q113_137 (by decide +kernel)
theorem x113_137 {L : pj_Loc} {st : List Value} {M : pj_Mem}  {o9 : Option Value × pj_Mem} : pj_Ends 113 (137, L, st, M) o9 = pj_Ends 113 (138, L, .int 1 :: st, M) o9 := pj_xs (s113_137)
theorem q113_138 : pj_row 113 138 = some (.iadd, 1, 0, 0, 0) := by decide +kernel
theorem s113_138 {L : pj_Loc} {st : List Value} {M : pj_Mem} {x y : Int32} : pj_step 113 (138, L, .int y :: .int x :: st, M) = some (139, L, .int (x + y) :: st, M) := st_iadd q113_138
theorem x113_138 {L : pj_Loc} {st : List Value} {M : pj_Mem} {x y : Int32} {o9 : Option Value × pj_Mem} : pj_Ends 113 (138, L, .int y :: .int x :: st, M) o9 = pj_Ends 113 (139, L, .int (x + y) :: st, M) o9 := pj_xs (s113_138)
theorem q113_139 : pj_row 113 139 = some (.putfield 152, 3, 6, 13, 0) := by decide +kernel
theorem s113_139 {L : pj_Loc} {st : List Value} {N S : Nat} {H : pj_Heap} {o : Nat} {v : Value} : pj_step 113 (139, L, v :: .ref o :: st, (N, S, H)) = pj_set 142 L st (N, S, H) o (pj_fset (H o) 6 13 v) := st_putfield q113_139
theorem x113_139 {L : pj_Loc} {st : List Value} {N S : Nat} {H : pj_Heap} {o : Nat} {v : Value} {o9 : Option Value × pj_Mem} : pj_Ends 113 (139, L, v :: .ref o :: st, (N, S, H)) o9 = pj_then 113 o9 (pj_set 142 L st (N, S, H) o (pj_fset (H o) 6 13 v)) := pj_xt q113_139 rfl (pj_cl_nc rfl) (s113_139)
theorem q113_142 : pj_row 113 142 = some (.iinc 7 (-1), 3, 0, 0, 0) := by decide +kernel
theorem s113_142 {st : List Value} {M : pj_Mem} {l : pj_Loc} {a0 a1 a2 a3 a4 a5 a6 : Option Value} {x : Int32} (h : pj_long a6 = false) : pj_step 113 (142, a0 :: a1 :: a2 :: a3 :: a4 :: a5 :: a6 :: some (.int x) :: l, st, M) = some (145, a0 :: a1 :: a2 :: a3 :: a4 :: a5 :: a6 :: some (.int (x + (-1))) :: l, st, M) := st_iinc q113_142 rfl (congrArg (fun y => x + y) (show Int32.ofInt (-1) = (-1) by decide +kernel)) (pj_st_7 h)
theorem x113_142 {st : List Value} {M : pj_Mem} {l : pj_Loc} {a0 a1 a2 a3 a4 a5 a6 : Option Value} {x : Int32} (h : pj_long a6 = false) {o9 : Option Value × pj_Mem} : pj_Ends 113 (142, a0 :: a1 :: a2 :: a3 :: a4 :: a5 :: a6 :: some (.int x) :: l, st, M) o9 = pj_Ends 113 (145, a0 :: a1 :: a2 :: a3 :: a4 :: a5 :: a6 :: some (.int (x + (-1))) :: l, st, M) o9 := pj_xs (s113_142 h)
theorem q113_145 : pj_row 113 145 = some (.goto (-39), 3, 106, 0, 0) := by decide +kernel
theorem s113_145 {L : pj_Loc} {st : List Value} {M : pj_Mem}  : pj_step 113 (145, L, st, M) = some (106, L, st, M) := st_goto q113_145
theorem x113_145 {L : pj_Loc} {st : List Value} {M : pj_Mem}  {o9 : Option Value × pj_Mem} : pj_Ends 113 (145, L, st, M) o9 = pj_Ends 113 (106, L, st, M) o9 := pj_xs (s113_145)
theorem q113_148 : pj_row 113 148 = some (.aload_n 0, 1, 0, 0, 0) := by decide +kernel
theorem s113_148 {st : List Value} {M : pj_Mem} {l : pj_Loc} {x : Nat} : pj_step 113 (148, some (.ref x) :: l, st, M) = some (149, some (.ref x) :: l, .ref x :: st, M) := st_aload_n q113_148 rfl
theorem x113_148 {st : List Value} {M : pj_Mem} {l : pj_Loc} {x : Nat} {o9 : Option Value × pj_Mem} : pj_Ends 113 (148, some (.ref x) :: l, st, M) o9 = pj_Ends 113 (149, some (.ref x) :: l, .ref x :: st, M) o9 := pj_xs (s113_148)
theorem q113_149 : pj_row 113 149 = some (.getfield 152, 3, 6, 13, 0) := by decide +kernel
theorem s113_149 {L : pj_Loc} {st : List Value} {N S : Nat} {H : pj_Heap} {o : Nat} : pj_step 113 (149, L, .ref o :: st, (N, S, H)) = pj_pv 152 L st (N, S, H) (pj_fld (H o) 6 13) := st_getfield q113_149
theorem x113_149 {L : pj_Loc} {st : List Value} {N S : Nat} {H : pj_Heap} {o : Nat} {o9 : Option Value × pj_Mem} : pj_Ends 113 (149, L, .ref o :: st, (N, S, H)) o9 = pj_then 113 o9 (pj_pv 152 L st (N, S, H) (pj_fld (H o) 6 13)) := pj_xt q113_149 rfl (pj_cl_nc rfl) (s113_149)
theorem q113_152 : pj_row 113 152 = some (.ireturn, 1, 0, 0, 0) := by decide +kernel
theorem t113_152 {L : pj_Loc} {M : pj_Mem} {v : Int32} : pj_Ends 113 (152, L, [.int v], M) (some (.int v), M) := pj_Ends.ret q113_152 (pj_rtn_i rt113)
theorem rt114 : pj_rt 114 = some .int := rfl
theorem q114_0 : pj_row 114 0 = some (.aload_n 0, 1, 0, 0, 0) := by decide +kernel
theorem s114_0 {st : List Value} {M : pj_Mem} {l : pj_Loc} {x : Nat} : pj_step 114 (0, some (.ref x) :: l, st, M) = some (1, some (.ref x) :: l, .ref x :: st, M) := st_aload_n q114_0 rfl
theorem x114_0 {st : List Value} {M : pj_Mem} {l : pj_Loc} {x : Nat} {o9 : Option Value × pj_Mem} : pj_Ends 114 (0, some (.ref x) :: l, st, M) o9 = pj_Ends 114 (1, some (.ref x) :: l, .ref x :: st, M) o9 := pj_xs (s114_0)
theorem q114_1 : pj_row 114 1 = some (.getfield 152, 3, 6, 13, 0) := by decide +kernel
theorem s114_1 {L : pj_Loc} {st : List Value} {N S : Nat} {H : pj_Heap} {o : Nat} : pj_step 114 (1, L, .ref o :: st, (N, S, H)) = pj_pv 4 L st (N, S, H) (pj_fld (H o) 6 13) := st_getfield q114_1
theorem x114_1 {L : pj_Loc} {st : List Value} {N S : Nat} {H : pj_Heap} {o : Nat} {o9 : Option Value × pj_Mem} : pj_Ends 114 (1, L, .ref o :: st, (N, S, H)) o9 = pj_then 114 o9 (pj_pv 4 L st (N, S, H) (pj_fld (H o) 6 13)) := pj_xt q114_1 rfl (pj_cl_nc rfl) (s114_1)
theorem q114_4 : pj_row 114 4 = some (.istore_n 1, 1, 0, 0, 0) := by decide +kernel
theorem s114_4 {st : List Value} {M : pj_Mem} {l : pj_Loc} {a0 a1 : Option Value} {x : Int32} (h : pj_long a0 = false) : pj_step 114 (4, a0 :: a1 :: l, .int x :: st, M) = some (5, a0 :: some (.int x) :: l, st, M) := st_istore_n q114_4 (pj_st_1 h)
theorem x114_4 {st : List Value} {M : pj_Mem} {l : pj_Loc} {a0 a1 : Option Value} {x : Int32} (h : pj_long a0 = false) {o9 : Option Value × pj_Mem} : pj_Ends 114 (4, a0 :: a1 :: l, .int x :: st, M) o9 = pj_Ends 114 (5, a0 :: some (.int x) :: l, st, M) o9 := pj_xs (s114_4 h)
theorem q114_5 : pj_row 114 5 = some (.aload_n 0, 1, 0, 0, 0) := by decide +kernel
theorem s114_5 {st : List Value} {M : pj_Mem} {l : pj_Loc} {x : Nat} : pj_step 114 (5, some (.ref x) :: l, st, M) = some (6, some (.ref x) :: l, .ref x :: st, M) := st_aload_n q114_5 rfl
theorem x114_5 {st : List Value} {M : pj_Mem} {l : pj_Loc} {x : Nat} {o9 : Option Value × pj_Mem} : pj_Ends 114 (5, some (.ref x) :: l, st, M) o9 = pj_Ends 114 (6, some (.ref x) :: l, .ref x :: st, M) o9 := pj_xs (s114_5)
theorem q114_6 : pj_row 114 6 = some (.iconst 0, 1, 0, 0, 0) := by decide +kernel
theorem s114_6 {L : pj_Loc} {st : List Value} {M : pj_Mem}  : pj_step 114 (6, L, st, M) = some (7, L, .int 0 :: st, M) := st_iconst q114_6 (by decide +kernel)
theorem x114_6 {L : pj_Loc} {st : List Value} {M : pj_Mem}  {o9 : Option Value × pj_Mem} : pj_Ends 114 (6, L, st, M) o9 = pj_Ends 114 (7, L, .int 0 :: st, M) o9 := pj_xs (s114_6)
theorem q114_7 : pj_row 114 7 = some (.putfield 152, 3, 6, 13, 0) := by decide +kernel
theorem s114_7 {L : pj_Loc} {st : List Value} {N S : Nat} {H : pj_Heap} {o : Nat} {v : Value} : pj_step 114 (7, L, v :: .ref o :: st, (N, S, H)) = pj_set 10 L st (N, S, H) o (pj_fset (H o) 6 13 v) := st_putfield q114_7
theorem x114_7 {L : pj_Loc} {st : List Value} {N S : Nat} {H : pj_Heap} {o : Nat} {v : Value} {o9 : Option Value × pj_Mem} : pj_Ends 114 (7, L, v :: .ref o :: st, (N, S, H)) o9 = pj_then 114 o9 (pj_set 10 L st (N, S, H) o (pj_fset (H o) 6 13 v)) := pj_xt q114_7 rfl (pj_cl_nc rfl) (s114_7)
theorem q114_10 : pj_row 114 10 = some (.iload_n 1, 1, 0, 0, 0) := by decide +kernel
theorem s114_10 {st : List Value} {M : pj_Mem} {l : pj_Loc} {a0 : Option Value} {x : Int32} : pj_step 114 (10, a0 :: some (.int x) :: l, st, M) = some (11, a0 :: some (.int x) :: l, .int x :: st, M) := st_iload_n q114_10 rfl
theorem x114_10 {st : List Value} {M : pj_Mem} {l : pj_Loc} {a0 : Option Value} {x : Int32} {o9 : Option Value × pj_Mem} : pj_Ends 114 (10, a0 :: some (.int x) :: l, st, M) o9 = pj_Ends 114 (11, a0 :: some (.int x) :: l, .int x :: st, M) o9 := pj_xs (s114_10)
theorem q114_11 : pj_row 114 11 = some (.ireturn, 1, 0, 0, 0) := by decide +kernel
theorem t114_11 {L : pj_Loc} {M : pj_Mem} {v : Int32} : pj_Ends 114 (11, L, [.int v], M) (some (.int v), M) := pj_Ends.ret q114_11 (pj_rtn_i rt114)
theorem rt115 : pj_rt 115 = some .int := rfl
theorem q115_0 : pj_row 115 0 = some (.aload_n 0, 1, 0, 0, 0) := by decide +kernel
theorem s115_0 {st : List Value} {M : pj_Mem} {l : pj_Loc} {x : Nat} : pj_step 115 (0, some (.ref x) :: l, st, M) = some (1, some (.ref x) :: l, .ref x :: st, M) := st_aload_n q115_0 rfl
theorem x115_0 {st : List Value} {M : pj_Mem} {l : pj_Loc} {x : Nat} {o9 : Option Value × pj_Mem} : pj_Ends 115 (0, some (.ref x) :: l, st, M) o9 = pj_Ends 115 (1, some (.ref x) :: l, .ref x :: st, M) o9 := pj_xs (s115_0)
theorem q115_1 : pj_row 115 1 = some (.iconst 0, 1, 0, 0, 0) := by decide +kernel
theorem s115_1 {L : pj_Loc} {st : List Value} {M : pj_Mem}  : pj_step 115 (1, L, st, M) = some (2, L, .int 0 :: st, M) := st_iconst q115_1 (by decide +kernel)
theorem x115_1 {L : pj_Loc} {st : List Value} {M : pj_Mem}  {o9 : Option Value × pj_Mem} : pj_Ends 115 (1, L, st, M) o9 = pj_Ends 115 (2, L, .int 0 :: st, M) o9 := pj_xs (s115_1)
theorem q115_2 : pj_row 115 2 = some (.putfield 170, 3, 6, 14, 0) := by decide +kernel
theorem s115_2 {L : pj_Loc} {st : List Value} {N S : Nat} {H : pj_Heap} {o : Nat} {v : Value} : pj_step 115 (2, L, v :: .ref o :: st, (N, S, H)) = pj_set 5 L st (N, S, H) o (pj_fset (H o) 6 14 v) := st_putfield q115_2
theorem x115_2 {L : pj_Loc} {st : List Value} {N S : Nat} {H : pj_Heap} {o : Nat} {v : Value} {o9 : Option Value × pj_Mem} : pj_Ends 115 (2, L, v :: .ref o :: st, (N, S, H)) o9 = pj_then 115 o9 (pj_set 5 L st (N, S, H) o (pj_fset (H o) 6 14 v)) := pj_xt q115_2 rfl (pj_cl_nc rfl) (s115_2)
theorem q115_5 : pj_row 115 5 = some (.aload_n 0, 1, 0, 0, 0) := by decide +kernel
theorem s115_5 {st : List Value} {M : pj_Mem} {l : pj_Loc} {x : Nat} : pj_step 115 (5, some (.ref x) :: l, st, M) = some (6, some (.ref x) :: l, .ref x :: st, M) := st_aload_n q115_5 rfl
theorem x115_5 {st : List Value} {M : pj_Mem} {l : pj_Loc} {x : Nat} {o9 : Option Value × pj_Mem} : pj_Ends 115 (5, some (.ref x) :: l, st, M) o9 = pj_Ends 115 (6, some (.ref x) :: l, .ref x :: st, M) o9 := pj_xs (s115_5)
theorem q115_6 : pj_row 115 6 = some (.iconst 0, 1, 0, 0, 0) := by decide +kernel
theorem s115_6 {L : pj_Loc} {st : List Value} {M : pj_Mem}  : pj_step 115 (6, L, st, M) = some (7, L, .int 0 :: st, M) := st_iconst q115_6 (by decide +kernel)
theorem x115_6 {L : pj_Loc} {st : List Value} {M : pj_Mem}  {o9 : Option Value × pj_Mem} : pj_Ends 115 (6, L, st, M) o9 = pj_Ends 115 (7, L, .int 0 :: st, M) o9 := pj_xs (s115_6)
theorem q115_7 : pj_row 115 7 = some (.putfield 189, 3, 6, 17, 0) := by decide +kernel
theorem s115_7 {L : pj_Loc} {st : List Value} {N S : Nat} {H : pj_Heap} {o : Nat} {v : Value} : pj_step 115 (7, L, v :: .ref o :: st, (N, S, H)) = pj_set 10 L st (N, S, H) o (pj_fset (H o) 6 17 v) := st_putfield q115_7
theorem x115_7 {L : pj_Loc} {st : List Value} {N S : Nat} {H : pj_Heap} {o : Nat} {v : Value} {o9 : Option Value × pj_Mem} : pj_Ends 115 (7, L, v :: .ref o :: st, (N, S, H)) o9 = pj_then 115 o9 (pj_set 10 L st (N, S, H) o (pj_fset (H o) 6 17 v)) := pj_xt q115_7 rfl (pj_cl_nc rfl) (s115_7)
theorem q115_10 : pj_row 115 10 = some (.iconst 1, 1, 0, 0, 0) := by decide +kernel
theorem s115_10 {L : pj_Loc} {st : List Value} {M : pj_Mem}  : pj_step 115 (10, L, st, M) = some (11, L, .int 1 :: st, M) := st_iconst q115_10 (by decide +kernel)
theorem x115_10 {L : pj_Loc} {st : List Value} {M : pj_Mem}  {o9 : Option Value × pj_Mem} : pj_Ends 115 (10, L, st, M) o9 = pj_Ends 115 (11, L, .int 1 :: st, M) o9 := pj_xs (s115_10)
theorem q115_11 : pj_row 115 11 = some (.istore_n 1, 1, 0, 0, 0) := by decide +kernel
theorem s115_11 {st : List Value} {M : pj_Mem} {l : pj_Loc} {a0 a1 : Option Value} {x : Int32} (h : pj_long a0 = false) : pj_step 115 (11, a0 :: a1 :: l, .int x :: st, M) = some (12, a0 :: some (.int x) :: l, st, M) := st_istore_n q115_11 (pj_st_1 h)
theorem x115_11 {st : List Value} {M : pj_Mem} {l : pj_Loc} {a0 a1 : Option Value} {x : Int32} (h : pj_long a0 = false) {o9 : Option Value × pj_Mem} : pj_Ends 115 (11, a0 :: a1 :: l, .int x :: st, M) o9 = pj_Ends 115 (12, a0 :: some (.int x) :: l, st, M) o9 := pj_xs (s115_11 h)
theorem q115_12 : pj_row 115 12 = some (.iload_n 1, 1, 0, 0, 0) := by decide +kernel
theorem s115_12 {st : List Value} {M : pj_Mem} {l : pj_Loc} {a0 : Option Value} {x : Int32} : pj_step 115 (12, a0 :: some (.int x) :: l, st, M) = some (13, a0 :: some (.int x) :: l, .int x :: st, M) := st_iload_n q115_12 rfl
theorem x115_12 {st : List Value} {M : pj_Mem} {l : pj_Loc} {a0 : Option Value} {x : Int32} {o9 : Option Value × pj_Mem} : pj_Ends 115 (12, a0 :: some (.int x) :: l, st, M) o9 = pj_Ends 115 (13, a0 :: some (.int x) :: l, .int x :: st, M) o9 := pj_xs (s115_12)
theorem q115_13 : pj_row 115 13 = some (.ifCond .eq 35, 3, 48, 0, 0) := by decide +kernel
theorem s115_13 {L : pj_Loc} {st : List Value} {M : pj_Mem} {x : Int32} : pj_step 115 (13, L, .int x :: st, M) = some (if x = 0 then 48 else 16, L, st, M) := st_if_eq q115_13
theorem x115_13 {L : pj_Loc} {st : List Value} {M : pj_Mem} {x : Int32} {o9 : Option Value × pj_Mem} : pj_Ends 115 (13, L, .int x :: st, M) o9 = pj_Ends 115 (if x = 0 then 48 else 16, L, st, M) o9 := pj_xs (s115_13)
theorem q115_16 : pj_row 115 16 = some (.aload_n 0, 1, 0, 0, 0) := by decide +kernel
theorem s115_16 {st : List Value} {M : pj_Mem} {l : pj_Loc} {x : Nat} : pj_step 115 (16, some (.ref x) :: l, st, M) = some (17, some (.ref x) :: l, .ref x :: st, M) := st_aload_n q115_16 rfl
theorem x115_16 {st : List Value} {M : pj_Mem} {l : pj_Loc} {x : Nat} {o9 : Option Value × pj_Mem} : pj_Ends 115 (16, some (.ref x) :: l, st, M) o9 = pj_Ends 115 (17, some (.ref x) :: l, .ref x :: st, M) o9 := pj_xs (s115_16)
theorem q115_17 : pj_row 115 17 = some (.invokevirtual 192, 3, 116, 1, 0) := by decide +kernel
theorem e115_17 {L : pj_Loc} {st : List Value} {N S : Nat} {H : pj_Heap} {o : Option Value × pj_Mem} {M' : pj_Mem} {x0 : Nat} {r : Int32} (h4 : pj_le4 st = true) (hu : pj_isU 6 (H x0) = true) (h1 : pj_Ends 116 (0, [some (.ref x0), none], [], (N, S, H)) (some (.int r), M')) (h2 : pj_Ends 115 (20, L, .int r :: st, M') o) : pj_Ends 115 (17, L, .ref x0 :: st, (N, S, H)) o := ec_v1 q115_17 (Or.inl rfl) h4 hu rfl h1 h2
theorem q115_20 : pj_row 115 20 = some (.ifCond .ne 8, 3, 28, 0, 0) := by decide +kernel
theorem s115_20 {L : pj_Loc} {st : List Value} {M : pj_Mem} {x : Int32} : pj_step 115 (20, L, .int x :: st, M) = some (if ¬ x = 0 then 28 else 23, L, st, M) := st_if_ne q115_20
theorem x115_20 {L : pj_Loc} {st : List Value} {M : pj_Mem} {x : Int32} {o9 : Option Value × pj_Mem} : pj_Ends 115 (20, L, .int x :: st, M) o9 = pj_Ends 115 (if ¬ x = 0 then 28 else 23, L, st, M) o9 := pj_xs (s115_20)
theorem q115_23 : pj_row 115 23 = some (.aload_n 0, 1, 0, 0, 0) := by decide +kernel
theorem s115_23 {st : List Value} {M : pj_Mem} {l : pj_Loc} {x : Nat} : pj_step 115 (23, some (.ref x) :: l, st, M) = some (24, some (.ref x) :: l, .ref x :: st, M) := st_aload_n q115_23 rfl
theorem x115_23 {st : List Value} {M : pj_Mem} {l : pj_Loc} {x : Nat} {o9 : Option Value × pj_Mem} : pj_Ends 115 (23, some (.ref x) :: l, st, M) o9 = pj_Ends 115 (24, some (.ref x) :: l, .ref x :: st, M) o9 := pj_xs (s115_23)
theorem q115_24 : pj_row 115 24 = some (.getfield 170, 3, 6, 14, 0) := by decide +kernel
theorem s115_24 {L : pj_Loc} {st : List Value} {N S : Nat} {H : pj_Heap} {o : Nat} : pj_step 115 (24, L, .ref o :: st, (N, S, H)) = pj_pv 27 L st (N, S, H) (pj_fld (H o) 6 14) := st_getfield q115_24
theorem x115_24 {L : pj_Loc} {st : List Value} {N S : Nat} {H : pj_Heap} {o : Nat} {o9 : Option Value × pj_Mem} : pj_Ends 115 (24, L, .ref o :: st, (N, S, H)) o9 = pj_then 115 o9 (pj_pv 27 L st (N, S, H) (pj_fld (H o) 6 14)) := pj_xt q115_24 rfl (pj_cl_nc rfl) (s115_24)
theorem q115_27 : pj_row 115 27 = some (.ireturn, 1, 0, 0, 0) := by decide +kernel
theorem t115_27 {L : pj_Loc} {M : pj_Mem} {v : Int32} : pj_Ends 115 (27, L, [.int v], M) (some (.int v), M) := pj_Ends.ret q115_27 (pj_rtn_i rt115)
theorem q115_28 : pj_row 115 28 = some (.aload_n 0, 1, 0, 0, 0) := by decide +kernel
theorem s115_28 {st : List Value} {M : pj_Mem} {l : pj_Loc} {x : Nat} : pj_step 115 (28, some (.ref x) :: l, st, M) = some (29, some (.ref x) :: l, .ref x :: st, M) := st_aload_n q115_28 rfl
theorem x115_28 {st : List Value} {M : pj_Mem} {l : pj_Loc} {x : Nat} {o9 : Option Value × pj_Mem} : pj_Ends 115 (28, some (.ref x) :: l, st, M) o9 = pj_Ends 115 (29, some (.ref x) :: l, .ref x :: st, M) o9 := pj_xs (s115_28)
theorem q115_29 : pj_row 115 29 = some (.dup, 1, 0, 0, 0) := by decide +kernel
theorem s115_29 {L : pj_Loc} {st : List Value} {M : pj_Mem} {x : Nat} : pj_step 115 (29, L, .ref x :: st, M) = some (30, L, .ref x :: .ref x :: st, M) := st_dup_ref q115_29
theorem x115_29 {L : pj_Loc} {st : List Value} {M : pj_Mem} {x : Nat} {o9 : Option Value × pj_Mem} : pj_Ends 115 (29, L, .ref x :: st, M) o9 = pj_Ends 115 (30, L, .ref x :: .ref x :: st, M) o9 := pj_xs (s115_29)
theorem s115_29i {L : pj_Loc} {st : List Value} {M : pj_Mem} {x : Int32} : pj_step 115 (29, L, .int x :: st, M) = some (30, L, .int x :: .int x :: st, M) := st_dup_int q115_29
theorem x115_29i {L : pj_Loc} {st : List Value} {M : pj_Mem} {x : Int32} {o9 : Option Value × pj_Mem} : pj_Ends 115 (29, L, .int x :: st, M) o9 = pj_Ends 115 (30, L, .int x :: .int x :: st, M) o9 := pj_xs (s115_29i)
theorem q115_30 : pj_row 115 30 = some (.getfield 189, 3, 6, 17, 0) := by decide +kernel
theorem s115_30 {L : pj_Loc} {st : List Value} {N S : Nat} {H : pj_Heap} {o : Nat} : pj_step 115 (30, L, .ref o :: st, (N, S, H)) = pj_pv 33 L st (N, S, H) (pj_fld (H o) 6 17) := st_getfield q115_30
theorem x115_30 {L : pj_Loc} {st : List Value} {N S : Nat} {H : pj_Heap} {o : Nat} {o9 : Option Value × pj_Mem} : pj_Ends 115 (30, L, .ref o :: st, (N, S, H)) o9 = pj_then 115 o9 (pj_pv 33 L st (N, S, H) (pj_fld (H o) 6 17)) := pj_xt q115_30 rfl (pj_cl_nc rfl) (s115_30)
theorem q115_33 : pj_row 115 33 = some (.iconst 1, 1, 0, 0, 0) := by decide +kernel
theorem s115_33 {L : pj_Loc} {st : List Value} {M : pj_Mem}  : pj_step 115 (33, L, st, M) = some (34, L, .int 1 :: st, M) := st_iconst q115_33 (by decide +kernel)
theorem x115_33 {L : pj_Loc} {st : List Value} {M : pj_Mem}  {o9 : Option Value × pj_Mem} : pj_Ends 115 (33, L, st, M) o9 = pj_Ends 115 (34, L, .int 1 :: st, M) o9 := pj_xs (s115_33)
theorem q115_34 : pj_row 115 34 = some (.iadd, 1, 0, 0, 0) := by decide +kernel
theorem s115_34 {L : pj_Loc} {st : List Value} {M : pj_Mem} {x y : Int32} : pj_step 115 (34, L, .int y :: .int x :: st, M) = some (35, L, .int (x + y) :: st, M) := st_iadd q115_34
theorem x115_34 {L : pj_Loc} {st : List Value} {M : pj_Mem} {x y : Int32} {o9 : Option Value × pj_Mem} : pj_Ends 115 (34, L, .int y :: .int x :: st, M) o9 = pj_Ends 115 (35, L, .int (x + y) :: st, M) o9 := pj_xs (s115_34)
theorem q115_35 : pj_row 115 35 = some (.putfield 189, 3, 6, 17, 0) := by decide +kernel
theorem s115_35 {L : pj_Loc} {st : List Value} {N S : Nat} {H : pj_Heap} {o : Nat} {v : Value} : pj_step 115 (35, L, v :: .ref o :: st, (N, S, H)) = pj_set 38 L st (N, S, H) o (pj_fset (H o) 6 17 v) := st_putfield q115_35
theorem x115_35 {L : pj_Loc} {st : List Value} {N S : Nat} {H : pj_Heap} {o : Nat} {v : Value} {o9 : Option Value × pj_Mem} : pj_Ends 115 (35, L, v :: .ref o :: st, (N, S, H)) o9 = pj_then 115 o9 (pj_set 38 L st (N, S, H) o (pj_fset (H o) 6 17 v)) := pj_xt q115_35 rfl (pj_cl_nc rfl) (s115_35)
theorem q115_38 : pj_row 115 38 = some (.aload_n 0, 1, 0, 0, 0) := by decide +kernel
theorem s115_38 {st : List Value} {M : pj_Mem} {l : pj_Loc} {x : Nat} : pj_step 115 (38, some (.ref x) :: l, st, M) = some (39, some (.ref x) :: l, .ref x :: st, M) := st_aload_n q115_38 rfl
theorem x115_38 {st : List Value} {M : pj_Mem} {l : pj_Loc} {x : Nat} {o9 : Option Value × pj_Mem} : pj_Ends 115 (38, some (.ref x) :: l, st, M) o9 = pj_Ends 115 (39, some (.ref x) :: l, .ref x :: st, M) o9 := pj_xs (s115_38)
theorem q115_39 : pj_row 115 39 = some (.bipush 59, 2, 0, 0, 0) := by decide +kernel
theorem s115_39 {L : pj_Loc} {st : List Value} {M : pj_Mem}  : pj_step 115 (39, L, st, M) = some (41, L, .int 59 :: st, M) := st_bipush q115_39 (by decide +kernel)
theorem x115_39 {L : pj_Loc} {st : List Value} {M : pj_Mem}  {o9 : Option Value × pj_Mem} : pj_Ends 115 (39, L, st, M) o9 = pj_Ends 115 (41, L, .int 59 :: st, M) o9 := pj_xs (s115_39)
theorem q115_41 : pj_row 115 41 = some (.invokevirtual 176, 3, 117, 2, 0) := by decide +kernel
theorem e115_41 {L : pj_Loc} {st : List Value} {N S : Nat} {H : pj_Heap} {o : Option Value × pj_Mem} {M' : pj_Mem} {x0 : Nat} {x1 : Int32} {r : Int32} (h4 : pj_le4 st = true) (hu : pj_isU 6 (H x0) = true) (h1 : pj_Ends 117 (0, [some (.ref x0), some (.int x1), none], [], (N, S, H)) (some (.int r), M')) (h2 : pj_Ends 115 (44, L, .int r :: st, M') o) : pj_Ends 115 (41, L, .int x1 :: .ref x0 :: st, (N, S, H)) o := ec_v2 q115_41 (Or.inl rfl) h4 hu rfl h1 h2
theorem q115_44 : pj_row 115 44 = some (.istore_n 1, 1, 0, 0, 0) := by decide +kernel
theorem s115_44 {st : List Value} {M : pj_Mem} {l : pj_Loc} {a0 a1 : Option Value} {x : Int32} (h : pj_long a0 = false) : pj_step 115 (44, a0 :: a1 :: l, .int x :: st, M) = some (45, a0 :: some (.int x) :: l, st, M) := st_istore_n q115_44 (pj_st_1 h)
theorem x115_44 {st : List Value} {M : pj_Mem} {l : pj_Loc} {a0 a1 : Option Value} {x : Int32} (h : pj_long a0 = false) {o9 : Option Value × pj_Mem} : pj_Ends 115 (44, a0 :: a1 :: l, .int x :: st, M) o9 = pj_Ends 115 (45, a0 :: some (.int x) :: l, st, M) o9 := pj_xs (s115_44 h)
theorem q115_45 : pj_row 115 45 = some (.goto (-33), 3, 12, 0, 0) := by decide +kernel
theorem s115_45 {L : pj_Loc} {st : List Value} {M : pj_Mem}  : pj_step 115 (45, L, st, M) = some (12, L, st, M) := st_goto q115_45
theorem x115_45 {L : pj_Loc} {st : List Value} {M : pj_Mem}  {o9 : Option Value × pj_Mem} : pj_Ends 115 (45, L, st, M) o9 = pj_Ends 115 (12, L, st, M) o9 := pj_xs (s115_45)
theorem q115_48 : pj_row 115 48 = some (.aload_n 0, 1, 0, 0, 0) := by decide +kernel
theorem s115_48 {st : List Value} {M : pj_Mem} {l : pj_Loc} {x : Nat} : pj_step 115 (48, some (.ref x) :: l, st, M) = some (49, some (.ref x) :: l, .ref x :: st, M) := st_aload_n q115_48 rfl
theorem x115_48 {st : List Value} {M : pj_Mem} {l : pj_Loc} {x : Nat} {o9 : Option Value × pj_Mem} : pj_Ends 115 (48, some (.ref x) :: l, st, M) o9 = pj_Ends 115 (49, some (.ref x) :: l, .ref x :: st, M) o9 := pj_xs (s115_48)
theorem q115_49 : pj_row 115 49 = some (.getfield 170, 3, 6, 14, 0) := by decide +kernel
theorem s115_49 {L : pj_Loc} {st : List Value} {N S : Nat} {H : pj_Heap} {o : Nat} : pj_step 115 (49, L, .ref o :: st, (N, S, H)) = pj_pv 52 L st (N, S, H) (pj_fld (H o) 6 14) := st_getfield q115_49
theorem x115_49 {L : pj_Loc} {st : List Value} {N S : Nat} {H : pj_Heap} {o : Nat} {o9 : Option Value × pj_Mem} : pj_Ends 115 (49, L, .ref o :: st, (N, S, H)) o9 = pj_then 115 o9 (pj_pv 52 L st (N, S, H) (pj_fld (H o) 6 14)) := pj_xt q115_49 rfl (pj_cl_nc rfl) (s115_49)
theorem q115_52 : pj_row 115 52 = some (.aload_n 0, 1, 0, 0, 0) := by decide +kernel
theorem s115_52 {st : List Value} {M : pj_Mem} {l : pj_Loc} {x : Nat} : pj_step 115 (52, some (.ref x) :: l, st, M) = some (53, some (.ref x) :: l, .ref x :: st, M) := st_aload_n q115_52 rfl
theorem x115_52 {st : List Value} {M : pj_Mem} {l : pj_Loc} {x : Nat} {o9 : Option Value × pj_Mem} : pj_Ends 115 (52, some (.ref x) :: l, st, M) o9 = pj_Ends 115 (53, some (.ref x) :: l, .ref x :: st, M) o9 := pj_xs (s115_52)
theorem q115_53 : pj_row 115 53 = some (.getfield 152, 3, 6, 13, 0) := by decide +kernel
theorem s115_53 {L : pj_Loc} {st : List Value} {N S : Nat} {H : pj_Heap} {o : Nat} : pj_step 115 (53, L, .ref o :: st, (N, S, H)) = pj_pv 56 L st (N, S, H) (pj_fld (H o) 6 13) := st_getfield q115_53
theorem x115_53 {L : pj_Loc} {st : List Value} {N S : Nat} {H : pj_Heap} {o : Nat} {o9 : Option Value × pj_Mem} : pj_Ends 115 (53, L, .ref o :: st, (N, S, H)) o9 = pj_then 115 o9 (pj_pv 56 L st (N, S, H) (pj_fld (H o) 6 13)) := pj_xt q115_53 rfl (pj_cl_nc rfl) (s115_53)
theorem q115_56 : pj_row 115 56 = some (.if_icmp .ne 8, 3, 64, 0, 0) := by decide +kernel
theorem s115_56 {L : pj_Loc} {st : List Value} {M : pj_Mem} {x y : Int32} : pj_step 115 (56, L, .int y :: .int x :: st, M) = some (if ¬ x = y then 64 else 59, L, st, M) := st_icmp_ne q115_56
theorem x115_56 {L : pj_Loc} {st : List Value} {M : pj_Mem} {x y : Int32} {o9 : Option Value × pj_Mem} : pj_Ends 115 (56, L, .int y :: .int x :: st, M) o9 = pj_Ends 115 (if ¬ x = y then 64 else 59, L, st, M) o9 := pj_xs (s115_56)
theorem q115_59 : pj_row 115 59 = some (.bipush (-6), 2, 0, 0, 0) := by decide +kernel
theorem s115_59 {L : pj_Loc} {st : List Value} {M : pj_Mem}  : pj_step 115 (59, L, st, M) = some (61, L, .int (-6) :: st, M) := st_bipush q115_59 (by decide +kernel)
theorem x115_59 {L : pj_Loc} {st : List Value} {M : pj_Mem}  {o9 : Option Value × pj_Mem} : pj_Ends 115 (59, L, st, M) o9 = pj_Ends 115 (61, L, .int (-6) :: st, M) o9 := pj_xs (s115_59)
theorem q115_61 : pj_row 115 61 = some (.goto 7, 3, 68, 0, 0) := by decide +kernel
theorem s115_61 {L : pj_Loc} {st : List Value} {M : pj_Mem}  : pj_step 115 (61, L, st, M) = some (68, L, st, M) := st_goto q115_61
theorem x115_61 {L : pj_Loc} {st : List Value} {M : pj_Mem}  {o9 : Option Value × pj_Mem} : pj_Ends 115 (61, L, st, M) o9 = pj_Ends 115 (68, L, st, M) o9 := pj_xs (s115_61)
theorem q115_64 : pj_row 115 64 = some (.aload_n 0, 1, 0, 0, 0) := by decide +kernel
theorem s115_64 {st : List Value} {M : pj_Mem} {l : pj_Loc} {x : Nat} : pj_step 115 (64, some (.ref x) :: l, st, M) = some (65, some (.ref x) :: l, .ref x :: st, M) := st_aload_n q115_64 rfl
theorem x115_64 {st : List Value} {M : pj_Mem} {l : pj_Loc} {x : Nat} {o9 : Option Value × pj_Mem} : pj_Ends 115 (64, some (.ref x) :: l, st, M) o9 = pj_Ends 115 (65, some (.ref x) :: l, .ref x :: st, M) o9 := pj_xs (s115_64)
theorem q115_65 : pj_row 115 65 = some (.getfield 170, 3, 6, 14, 0) := by decide +kernel
theorem s115_65 {L : pj_Loc} {st : List Value} {N S : Nat} {H : pj_Heap} {o : Nat} : pj_step 115 (65, L, .ref o :: st, (N, S, H)) = pj_pv 68 L st (N, S, H) (pj_fld (H o) 6 14) := st_getfield q115_65
theorem x115_65 {L : pj_Loc} {st : List Value} {N S : Nat} {H : pj_Heap} {o : Nat} {o9 : Option Value × pj_Mem} : pj_Ends 115 (65, L, .ref o :: st, (N, S, H)) o9 = pj_then 115 o9 (pj_pv 68 L st (N, S, H) (pj_fld (H o) 6 14)) := pj_xt q115_65 rfl (pj_cl_nc rfl) (s115_65)
theorem q115_68 : pj_row 115 68 = some (.ireturn, 1, 0, 0, 0) := by decide +kernel
theorem t115_68 {L : pj_Loc} {M : pj_Mem} {v : Int32} : pj_Ends 115 (68, L, [.int v], M) (some (.int v), M) := pj_Ends.ret q115_68 (pj_rtn_i rt115)
theorem rt116 : pj_rt 116 = some .boolean := rfl
theorem q116_0 : pj_row 116 0 = some (.iconst 0, 1, 0, 0, 0) := by decide +kernel
theorem s116_0 {L : pj_Loc} {st : List Value} {M : pj_Mem}  : pj_step 116 (0, L, st, M) = some (1, L, .int 0 :: st, M) := st_iconst q116_0 (by decide +kernel)
theorem x116_0 {L : pj_Loc} {st : List Value} {M : pj_Mem}  {o9 : Option Value × pj_Mem} : pj_Ends 116 (0, L, st, M) o9 = pj_Ends 116 (1, L, .int 0 :: st, M) o9 := pj_xs (s116_0)
theorem q116_1 : pj_row 116 1 = some (.istore_n 1, 1, 0, 0, 0) := by decide +kernel
theorem s116_1 {st : List Value} {M : pj_Mem} {l : pj_Loc} {a0 a1 : Option Value} {x : Int32} (h : pj_long a0 = false) : pj_step 116 (1, a0 :: a1 :: l, .int x :: st, M) = some (2, a0 :: some (.int x) :: l, st, M) := st_istore_n q116_1 (pj_st_1 h)
theorem x116_1 {st : List Value} {M : pj_Mem} {l : pj_Loc} {a0 a1 : Option Value} {x : Int32} (h : pj_long a0 = false) {o9 : Option Value × pj_Mem} : pj_Ends 116 (1, a0 :: a1 :: l, .int x :: st, M) o9 = pj_Ends 116 (2, a0 :: some (.int x) :: l, st, M) o9 := pj_xs (s116_1 h)
theorem q116_2 : pj_row 116 2 = some (.iload_n 1, 1, 0, 0, 0) := by decide +kernel
theorem s116_2 {st : List Value} {M : pj_Mem} {l : pj_Loc} {a0 : Option Value} {x : Int32} : pj_step 116 (2, a0 :: some (.int x) :: l, st, M) = some (3, a0 :: some (.int x) :: l, .int x :: st, M) := st_iload_n q116_2 rfl
theorem x116_2 {st : List Value} {M : pj_Mem} {l : pj_Loc} {a0 : Option Value} {x : Int32} {o9 : Option Value × pj_Mem} : pj_Ends 116 (2, a0 :: some (.int x) :: l, st, M) o9 = pj_Ends 116 (3, a0 :: some (.int x) :: l, .int x :: st, M) o9 := pj_xs (s116_2)
theorem q116_3 : pj_row 116 3 = some (.iconst 3, 1, 0, 0, 0) := by decide +kernel
theorem s116_3 {L : pj_Loc} {st : List Value} {M : pj_Mem}  : pj_step 116 (3, L, st, M) = some (4, L, .int 3 :: st, M) := st_iconst q116_3 (by decide +kernel)
theorem x116_3 {L : pj_Loc} {st : List Value} {M : pj_Mem}  {o9 : Option Value × pj_Mem} : pj_Ends 116 (3, L, st, M) o9 = pj_Ends 116 (4, L, .int 3 :: st, M) o9 := pj_xs (s116_3)
theorem q116_4 : pj_row 116 4 = some (.if_icmp .ge 41, 3, 45, 0, 0) := by decide +kernel
theorem s116_4 {L : pj_Loc} {st : List Value} {M : pj_Mem} {x y : Int32} : pj_step 116 (4, L, .int y :: .int x :: st, M) = some (if y ≤ x then 45 else 7, L, st, M) := st_icmp_ge q116_4
theorem x116_4 {L : pj_Loc} {st : List Value} {M : pj_Mem} {x y : Int32} {o9 : Option Value × pj_Mem} : pj_Ends 116 (4, L, .int y :: .int x :: st, M) o9 = pj_Ends 116 (if y ≤ x then 45 else 7, L, st, M) o9 := pj_xs (s116_4)
theorem q116_7 : pj_row 116 7 = some (.iload_n 1, 1, 0, 0, 0) := by decide +kernel
theorem s116_7 {st : List Value} {M : pj_Mem} {l : pj_Loc} {a0 : Option Value} {x : Int32} : pj_step 116 (7, a0 :: some (.int x) :: l, st, M) = some (8, a0 :: some (.int x) :: l, .int x :: st, M) := st_iload_n q116_7 rfl
theorem x116_7 {st : List Value} {M : pj_Mem} {l : pj_Loc} {a0 : Option Value} {x : Int32} {o9 : Option Value × pj_Mem} : pj_Ends 116 (7, a0 :: some (.int x) :: l, st, M) o9 = pj_Ends 116 (8, a0 :: some (.int x) :: l, .int x :: st, M) o9 := pj_xs (s116_7)
theorem q116_8 : pj_row 116 8 = some (.ifCond .le 12, 3, 20, 0, 0) := by decide +kernel
theorem s116_8 {L : pj_Loc} {st : List Value} {M : pj_Mem} {x : Int32} : pj_step 116 (8, L, .int x :: st, M) = some (if x ≤ 0 then 20 else 11, L, st, M) := st_if_le q116_8
theorem x116_8 {L : pj_Loc} {st : List Value} {M : pj_Mem} {x : Int32} {o9 : Option Value × pj_Mem} : pj_Ends 116 (8, L, .int x :: st, M) o9 = pj_Ends 116 (if x ≤ 0 then 20 else 11, L, st, M) o9 := pj_xs (s116_8)
theorem q116_11 : pj_row 116 11 = some (.aload_n 0, 1, 0, 0, 0) := by decide +kernel
theorem s116_11 {st : List Value} {M : pj_Mem} {l : pj_Loc} {x : Nat} : pj_step 116 (11, some (.ref x) :: l, st, M) = some (12, some (.ref x) :: l, .ref x :: st, M) := st_aload_n q116_11 rfl
theorem x116_11 {st : List Value} {M : pj_Mem} {l : pj_Loc} {x : Nat} {o9 : Option Value × pj_Mem} : pj_Ends 116 (11, some (.ref x) :: l, st, M) o9 = pj_Ends 116 (12, some (.ref x) :: l, .ref x :: st, M) o9 := pj_xs (s116_11)
theorem q116_12 : pj_row 116 12 = some (.bipush 44, 2, 0, 0, 0) := by decide +kernel
theorem s116_12 {L : pj_Loc} {st : List Value} {M : pj_Mem}  : pj_step 116 (12, L, st, M) = some (14, L, .int 44 :: st, M) := st_bipush q116_12 (by decide +kernel)
theorem x116_12 {L : pj_Loc} {st : List Value} {M : pj_Mem}  {o9 : Option Value × pj_Mem} : pj_Ends 116 (12, L, st, M) o9 = pj_Ends 116 (14, L, .int 44 :: st, M) o9 := pj_xs (s116_12)
theorem q116_14 : pj_row 116 14 = some (.invokevirtual 176, 3, 117, 2, 0) := by decide +kernel
theorem e116_14 {L : pj_Loc} {st : List Value} {N S : Nat} {H : pj_Heap} {o : Option Value × pj_Mem} {M' : pj_Mem} {x0 : Nat} {x1 : Int32} {r : Int32} (h4 : pj_le4 st = true) (hu : pj_isU 6 (H x0) = true) (h1 : pj_Ends 117 (0, [some (.ref x0), some (.int x1), none], [], (N, S, H)) (some (.int r), M')) (h2 : pj_Ends 116 (17, L, .int r :: st, M') o) : pj_Ends 116 (14, L, .int x1 :: .ref x0 :: st, (N, S, H)) o := ec_v2 q116_14 (Or.inl rfl) h4 hu rfl h1 h2
theorem q116_17 : pj_row 116 17 = some (.ifCond .eq 10, 3, 27, 0, 0) := by decide +kernel
theorem s116_17 {L : pj_Loc} {st : List Value} {M : pj_Mem} {x : Int32} : pj_step 116 (17, L, .int x :: st, M) = some (if x = 0 then 27 else 20, L, st, M) := st_if_eq q116_17
theorem x116_17 {L : pj_Loc} {st : List Value} {M : pj_Mem} {x : Int32} {o9 : Option Value × pj_Mem} : pj_Ends 116 (17, L, .int x :: st, M) o9 = pj_Ends 116 (if x = 0 then 27 else 20, L, st, M) o9 := pj_xs (s116_17)
theorem q116_20 : pj_row 116 20 = some (.aload_n 0, 1, 0, 0, 0) := by decide +kernel
theorem s116_20 {st : List Value} {M : pj_Mem} {l : pj_Loc} {x : Nat} : pj_step 116 (20, some (.ref x) :: l, st, M) = some (21, some (.ref x) :: l, .ref x :: st, M) := st_aload_n q116_20 rfl
theorem x116_20 {st : List Value} {M : pj_Mem} {l : pj_Loc} {x : Nat} {o9 : Option Value × pj_Mem} : pj_Ends 116 (20, some (.ref x) :: l, st, M) o9 = pj_Ends 116 (21, some (.ref x) :: l, .ref x :: st, M) o9 := pj_xs (s116_20)
theorem q116_21 : pj_row 116 21 = some (.invokevirtual 182, 3, 119, 1, 0) := by decide +kernel
theorem e116_21 {L : pj_Loc} {st : List Value} {N S : Nat} {H : pj_Heap} {o : Option Value × pj_Mem} {M' : pj_Mem} {x0 : Nat} {r : Int32} (h4 : pj_le4 st = true) (hu : pj_isU 6 (H x0) = true) (h1 : pj_Ends 119 (0, [some (.ref x0), none], [], (N, S, H)) (some (.int r), M')) (h2 : pj_Ends 116 (24, L, .int r :: st, M') o) : pj_Ends 116 (21, L, .ref x0 :: st, (N, S, H)) o := ec_v1 q116_21 (Or.inl rfl) h4 hu rfl h1 h2
theorem q116_24 : pj_row 116 24 = some (.ifCond .ne 5, 3, 29, 0, 0) := by decide +kernel
theorem s116_24 {L : pj_Loc} {st : List Value} {M : pj_Mem} {x : Int32} : pj_step 116 (24, L, .int x :: st, M) = some (if ¬ x = 0 then 29 else 27, L, st, M) := st_if_ne q116_24
theorem x116_24 {L : pj_Loc} {st : List Value} {M : pj_Mem} {x : Int32} {o9 : Option Value × pj_Mem} : pj_Ends 116 (24, L, .int x :: st, M) o9 = pj_Ends 116 (if ¬ x = 0 then 29 else 27, L, st, M) o9 := pj_xs (s116_24)
theorem q116_27 : pj_row 116 27 = some (.iconst 0, 1, 0, 0, 0) := by decide +kernel
theorem s116_27 {L : pj_Loc} {st : List Value} {M : pj_Mem}  : pj_step 116 (27, L, st, M) = some (28, L, .int 0 :: st, M) := st_iconst q116_27 (by decide +kernel)
theorem x116_27 {L : pj_Loc} {st : List Value} {M : pj_Mem}  {o9 : Option Value × pj_Mem} : pj_Ends 116 (27, L, st, M) o9 = pj_Ends 116 (28, L, .int 0 :: st, M) o9 := pj_xs (s116_27)
theorem q116_28 : pj_row 116 28 = some (.ireturn, 1, 0, 0, 0) := by decide +kernel
theorem t116_28 {L : pj_Loc} {M : pj_Mem} {v : Int32} (hv : v = 0 ∨ v = 1) : pj_Ends 116 (28, L, [.int v], M) (some (.int v), M) := pj_Ends.ret q116_28 (pj_rtn_z rt116 hv)
theorem q116_29 : pj_row 116 29 = some (.aload_n 0, 1, 0, 0, 0) := by decide +kernel
theorem s116_29 {st : List Value} {M : pj_Mem} {l : pj_Loc} {x : Nat} : pj_step 116 (29, some (.ref x) :: l, st, M) = some (30, some (.ref x) :: l, .ref x :: st, M) := st_aload_n q116_29 rfl
theorem x116_29 {st : List Value} {M : pj_Mem} {l : pj_Loc} {x : Nat} {o9 : Option Value × pj_Mem} : pj_Ends 116 (29, some (.ref x) :: l, st, M) o9 = pj_Ends 116 (30, some (.ref x) :: l, .ref x :: st, M) o9 := pj_xs (s116_29)
theorem q116_30 : pj_row 116 30 = some (.getfield 25, 3, 6, 6, 0) := by decide +kernel
theorem s116_30 {L : pj_Loc} {st : List Value} {N S : Nat} {H : pj_Heap} {o : Nat} : pj_step 116 (30, L, .ref o :: st, (N, S, H)) = pj_pv 33 L st (N, S, H) (pj_fld (H o) 6 6) := st_getfield q116_30
theorem x116_30 {L : pj_Loc} {st : List Value} {N S : Nat} {H : pj_Heap} {o : Nat} {o9 : Option Value × pj_Mem} : pj_Ends 116 (30, L, .ref o :: st, (N, S, H)) o9 = pj_then 116 o9 (pj_pv 33 L st (N, S, H) (pj_fld (H o) 6 6)) := pj_xt q116_30 rfl (pj_cl_nc rfl) (s116_30)
theorem q116_33 : pj_row 116 33 = some (.iload_n 1, 1, 0, 0, 0) := by decide +kernel
theorem s116_33 {st : List Value} {M : pj_Mem} {l : pj_Loc} {a0 : Option Value} {x : Int32} : pj_step 116 (33, a0 :: some (.int x) :: l, st, M) = some (34, a0 :: some (.int x) :: l, .int x :: st, M) := st_iload_n q116_33 rfl
theorem x116_33 {st : List Value} {M : pj_Mem} {l : pj_Loc} {a0 : Option Value} {x : Int32} {o9 : Option Value × pj_Mem} : pj_Ends 116 (33, a0 :: some (.int x) :: l, st, M) o9 = pj_Ends 116 (34, a0 :: some (.int x) :: l, .int x :: st, M) o9 := pj_xs (s116_33)
theorem q116_34 : pj_row 116 34 = some (.aload_n 0, 1, 0, 0, 0) := by decide +kernel
theorem s116_34 {st : List Value} {M : pj_Mem} {l : pj_Loc} {x : Nat} : pj_step 116 (34, some (.ref x) :: l, st, M) = some (35, some (.ref x) :: l, .ref x :: st, M) := st_aload_n q116_34 rfl
theorem x116_34 {st : List Value} {M : pj_Mem} {l : pj_Loc} {x : Nat} {o9 : Option Value × pj_Mem} : pj_Ends 116 (34, some (.ref x) :: l, st, M) o9 = pj_Ends 116 (35, some (.ref x) :: l, .ref x :: st, M) o9 := pj_xs (s116_34)
theorem q116_35 : pj_row 116 35 = some (.getfield 179, 3, 6, 15, 0) := by decide +kernel
theorem s116_35 {L : pj_Loc} {st : List Value} {N S : Nat} {H : pj_Heap} {o : Nat} : pj_step 116 (35, L, .ref o :: st, (N, S, H)) = pj_pv 38 L st (N, S, H) (pj_fld (H o) 6 15) := st_getfield q116_35
theorem x116_35 {L : pj_Loc} {st : List Value} {N S : Nat} {H : pj_Heap} {o : Nat} {o9 : Option Value × pj_Mem} : pj_Ends 116 (35, L, .ref o :: st, (N, S, H)) o9 = pj_then 116 o9 (pj_pv 38 L st (N, S, H) (pj_fld (H o) 6 15)) := pj_xt q116_35 rfl (pj_cl_nc rfl) (s116_35)
theorem q116_38 : pj_row 116 38 = some (.iastore, 1, 0, 0, 0) := by decide +kernel
theorem s116_38 {L : pj_Loc} {st : List Value} {N S : Nat} {H : pj_Heap} {o : Nat} {i x : Int32} : pj_step 116 (38, L, .int x :: .int i :: .ref o :: st, (N, S, H)) = pj_set 39 L st (N, S, H) o (pj_ars (H o) 0 i x) := st_iastore q116_38
theorem x116_38 {L : pj_Loc} {st : List Value} {N S : Nat} {H : pj_Heap} {o : Nat} {i x : Int32} {o9 : Option Value × pj_Mem} : pj_Ends 116 (38, L, .int x :: .int i :: .ref o :: st, (N, S, H)) o9 = pj_then 116 o9 (pj_set 39 L st (N, S, H) o (pj_ars (H o) 0 i x)) := pj_xt q116_38 rfl (pj_cl_nc rfl) (s116_38)
theorem q116_39 : pj_row 116 39 = some (.iinc 1 1, 3, 0, 0, 0) := by decide +kernel
theorem s116_39 {st : List Value} {M : pj_Mem} {l : pj_Loc} {a0 : Option Value} {x : Int32} (h : pj_long a0 = false) : pj_step 116 (39, a0 :: some (.int x) :: l, st, M) = some (42, a0 :: some (.int (x + 1)) :: l, st, M) := st_iinc q116_39 rfl (congrArg (fun y => x + y) (show Int32.ofInt 1 = 1 by decide +kernel)) (pj_st_1 h)
theorem x116_39 {st : List Value} {M : pj_Mem} {l : pj_Loc} {a0 : Option Value} {x : Int32} (h : pj_long a0 = false) {o9 : Option Value × pj_Mem} : pj_Ends 116 (39, a0 :: some (.int x) :: l, st, M) o9 = pj_Ends 116 (42, a0 :: some (.int (x + 1)) :: l, st, M) o9 := pj_xs (s116_39 h)
theorem q116_42 : pj_row 116 42 = some (.goto (-40), 3, 2, 0, 0) := by decide +kernel
theorem s116_42 {L : pj_Loc} {st : List Value} {M : pj_Mem}  : pj_step 116 (42, L, st, M) = some (2, L, st, M) := st_goto q116_42
theorem x116_42 {L : pj_Loc} {st : List Value} {M : pj_Mem}  {o9 : Option Value × pj_Mem} : pj_Ends 116 (42, L, st, M) o9 = pj_Ends 116 (2, L, st, M) o9 := pj_xs (s116_42)
theorem q116_45 : pj_row 116 45 = some (.aload_n 0, 1, 0, 0, 0) := by decide +kernel
theorem s116_45 {st : List Value} {M : pj_Mem} {l : pj_Loc} {x : Nat} : pj_step 116 (45, some (.ref x) :: l, st, M) = some (46, some (.ref x) :: l, .ref x :: st, M) := st_aload_n q116_45 rfl
theorem x116_45 {st : List Value} {M : pj_Mem} {l : pj_Loc} {x : Nat} {o9 : Option Value × pj_Mem} : pj_Ends 116 (45, some (.ref x) :: l, st, M) o9 = pj_Ends 116 (46, some (.ref x) :: l, .ref x :: st, M) o9 := pj_xs (s116_45)
theorem q116_46 : pj_row 116 46 = some (.aload_n 0, 1, 0, 0, 0) := by decide +kernel
theorem s116_46 {st : List Value} {M : pj_Mem} {l : pj_Loc} {x : Nat} : pj_step 116 (46, some (.ref x) :: l, st, M) = some (47, some (.ref x) :: l, .ref x :: st, M) := st_aload_n q116_46 rfl
theorem x116_46 {st : List Value} {M : pj_Mem} {l : pj_Loc} {x : Nat} {o9 : Option Value × pj_Mem} : pj_Ends 116 (46, some (.ref x) :: l, st, M) o9 = pj_Ends 116 (47, some (.ref x) :: l, .ref x :: st, M) o9 := pj_xs (s116_46)
theorem q116_47 : pj_row 116 47 = some (.bipush 99, 2, 0, 0, 0) := by decide +kernel
theorem s116_47 {L : pj_Loc} {st : List Value} {M : pj_Mem}  : pj_step 116 (47, L, st, M) = some (49, L, .int 99 :: st, M) := st_bipush q116_47 (by decide +kernel)
theorem x116_47 {L : pj_Loc} {st : List Value} {M : pj_Mem}  {o9 : Option Value × pj_Mem} : pj_Ends 116 (47, L, st, M) o9 = pj_Ends 116 (49, L, .int 99 :: st, M) o9 := pj_xs (s116_47)
theorem q116_49 : pj_row 116 49 = some (.invokevirtual 176, 3, 117, 2, 0) := by decide +kernel
theorem e116_49 {L : pj_Loc} {st : List Value} {N S : Nat} {H : pj_Heap} {o : Option Value × pj_Mem} {M' : pj_Mem} {x0 : Nat} {x1 : Int32} {r : Int32} (h4 : pj_le4 st = true) (hu : pj_isU 6 (H x0) = true) (h1 : pj_Ends 117 (0, [some (.ref x0), some (.int x1), none], [], (N, S, H)) (some (.int r), M')) (h2 : pj_Ends 116 (52, L, .int r :: st, M') o) : pj_Ends 116 (49, L, .int x1 :: .ref x0 :: st, (N, S, H)) o := ec_v2 q116_49 (Or.inl rfl) h4 hu rfl h1 h2
theorem q116_52 : pj_row 116 52 = some (.putfield 185, 3, 6, 16, 0) := by decide +kernel
theorem s116_52 {L : pj_Loc} {st : List Value} {N S : Nat} {H : pj_Heap} {o : Nat} {v : Value} : pj_step 116 (52, L, v :: .ref o :: st, (N, S, H)) = pj_set 55 L st (N, S, H) o (pj_fset (H o) 6 16 v) := st_putfield q116_52
theorem x116_52 {L : pj_Loc} {st : List Value} {N S : Nat} {H : pj_Heap} {o : Nat} {v : Value} {o9 : Option Value × pj_Mem} : pj_Ends 116 (52, L, v :: .ref o :: st, (N, S, H)) o9 = pj_then 116 o9 (pj_set 55 L st (N, S, H) o (pj_fset (H o) 6 16 v)) := pj_xt q116_52 rfl (pj_cl_nc rfl) (s116_52)
theorem q116_55 : pj_row 116 55 = some (.iconst 1, 1, 0, 0, 0) := by decide +kernel
theorem s116_55 {L : pj_Loc} {st : List Value} {M : pj_Mem}  : pj_step 116 (55, L, st, M) = some (56, L, .int 1 :: st, M) := st_iconst q116_55 (by decide +kernel)
theorem x116_55 {L : pj_Loc} {st : List Value} {M : pj_Mem}  {o9 : Option Value × pj_Mem} : pj_Ends 116 (55, L, st, M) o9 = pj_Ends 116 (56, L, .int 1 :: st, M) o9 := pj_xs (s116_55)
theorem q116_56 : pj_row 116 56 = some (.ireturn, 1, 0, 0, 0) := by decide +kernel
theorem t116_56 {L : pj_Loc} {M : pj_Mem} {v : Int32} (hv : v = 0 ∨ v = 1) : pj_Ends 116 (56, L, [.int v], M) (some (.int v), M) := pj_Ends.ret q116_56 (pj_rtn_z rt116 hv)
theorem rt117 : pj_rt 117 = some .boolean := rfl
theorem q117_0 : pj_row 117 0 = some (.aload_n 0, 1, 0, 0, 0) := by decide +kernel
theorem s117_0 {st : List Value} {M : pj_Mem} {l : pj_Loc} {x : Nat} : pj_step 117 (0, some (.ref x) :: l, st, M) = some (1, some (.ref x) :: l, .ref x :: st, M) := st_aload_n q117_0 rfl
theorem x117_0 {st : List Value} {M : pj_Mem} {l : pj_Loc} {x : Nat} {o9 : Option Value × pj_Mem} : pj_Ends 117 (0, some (.ref x) :: l, st, M) o9 = pj_Ends 117 (1, some (.ref x) :: l, .ref x :: st, M) o9 := pj_xs (s117_0)
theorem q117_1 : pj_row 117 1 = some (.iload_n 1, 1, 0, 0, 0) := by decide +kernel
theorem s117_1 {st : List Value} {M : pj_Mem} {l : pj_Loc} {a0 : Option Value} {x : Int32} : pj_step 117 (1, a0 :: some (.int x) :: l, st, M) = some (2, a0 :: some (.int x) :: l, .int x :: st, M) := st_iload_n q117_1 rfl
theorem x117_1 {st : List Value} {M : pj_Mem} {l : pj_Loc} {a0 : Option Value} {x : Int32} {o9 : Option Value × pj_Mem} : pj_Ends 117 (1, a0 :: some (.int x) :: l, st, M) o9 = pj_Ends 117 (2, a0 :: some (.int x) :: l, .int x :: st, M) o9 := pj_xs (s117_1)
theorem q117_2 : pj_row 117 2 = some (.iload_n 1, 1, 0, 0, 0) := by decide +kernel
theorem s117_2 {st : List Value} {M : pj_Mem} {l : pj_Loc} {a0 : Option Value} {x : Int32} : pj_step 117 (2, a0 :: some (.int x) :: l, st, M) = some (3, a0 :: some (.int x) :: l, .int x :: st, M) := st_iload_n q117_2 rfl
theorem x117_2 {st : List Value} {M : pj_Mem} {l : pj_Loc} {a0 : Option Value} {x : Int32} {o9 : Option Value × pj_Mem} : pj_Ends 117 (2, a0 :: some (.int x) :: l, st, M) o9 = pj_Ends 117 (3, a0 :: some (.int x) :: l, .int x :: st, M) o9 := pj_xs (s117_2)
theorem q117_3 : pj_row 117 3 = some (.invokevirtual 173, 3, 118, 3, 0) := by decide +kernel
theorem e117_3 {L : pj_Loc} {st : List Value} {N S : Nat} {H : pj_Heap} {o : Option Value × pj_Mem} {M' : pj_Mem} {x0 : Nat} {x1 : Int32} {x2 : Int32} {r : Int32} (h4 : pj_le4 st = true) (hu : pj_isU 6 (H x0) = true) (h1 : pj_Ends 118 (0, [some (.ref x0), some (.int x1), some (.int x2)], [], (N, S, H)) (some (.int r), M')) (h2 : pj_Ends 117 (6, L, .int r :: st, M') o) : pj_Ends 117 (3, L, .int x2 :: .int x1 :: .ref x0 :: st, (N, S, H)) o := ec_v3 q117_3 (Or.inl rfl) h4 hu rfl h1 h2
theorem q117_6 : pj_row 117 6 = some (.istore_n 2, 1, 0, 0, 0) := by decide +kernel
theorem s117_6 {st : List Value} {M : pj_Mem} {l : pj_Loc} {a0 a1 a2 : Option Value} {x : Int32} (h : pj_long a1 = false) : pj_step 117 (6, a0 :: a1 :: a2 :: l, .int x :: st, M) = some (7, a0 :: a1 :: some (.int x) :: l, st, M) := st_istore_n q117_6 (pj_st_2 h)
theorem x117_6 {st : List Value} {M : pj_Mem} {l : pj_Loc} {a0 a1 a2 : Option Value} {x : Int32} (h : pj_long a1 = false) {o9 : Option Value × pj_Mem} : pj_Ends 117 (6, a0 :: a1 :: a2 :: l, .int x :: st, M) o9 = pj_Ends 117 (7, a0 :: a1 :: some (.int x) :: l, st, M) o9 := pj_xs (s117_6 h)
theorem q117_7 : pj_row 117 7 = some (.aload_n 0, 1, 0, 0, 0) := by decide +kernel
theorem s117_7 {st : List Value} {M : pj_Mem} {l : pj_Loc} {x : Nat} : pj_step 117 (7, some (.ref x) :: l, st, M) = some (8, some (.ref x) :: l, .ref x :: st, M) := st_aload_n q117_7 rfl
theorem x117_7 {st : List Value} {M : pj_Mem} {l : pj_Loc} {x : Nat} {o9 : Option Value × pj_Mem} : pj_Ends 117 (7, some (.ref x) :: l, st, M) o9 = pj_Ends 117 (8, some (.ref x) :: l, .ref x :: st, M) o9 := pj_xs (s117_7)
theorem q117_8 : pj_row 117 8 = some (.dup, 1, 0, 0, 0) := by decide +kernel
theorem s117_8 {L : pj_Loc} {st : List Value} {M : pj_Mem} {x : Nat} : pj_step 117 (8, L, .ref x :: st, M) = some (9, L, .ref x :: .ref x :: st, M) := st_dup_ref q117_8
theorem x117_8 {L : pj_Loc} {st : List Value} {M : pj_Mem} {x : Nat} {o9 : Option Value × pj_Mem} : pj_Ends 117 (8, L, .ref x :: st, M) o9 = pj_Ends 117 (9, L, .ref x :: .ref x :: st, M) o9 := pj_xs (s117_8)
theorem s117_8i {L : pj_Loc} {st : List Value} {M : pj_Mem} {x : Int32} : pj_step 117 (8, L, .int x :: st, M) = some (9, L, .int x :: .int x :: st, M) := st_dup_int q117_8
theorem x117_8i {L : pj_Loc} {st : List Value} {M : pj_Mem} {x : Int32} {o9 : Option Value × pj_Mem} : pj_Ends 117 (8, L, .int x :: st, M) o9 = pj_Ends 117 (9, L, .int x :: .int x :: st, M) o9 := pj_xs (s117_8i)
theorem q117_9 : pj_row 117 9 = some (.getfield 170, 3, 6, 14, 0) := by decide +kernel
theorem s117_9 {L : pj_Loc} {st : List Value} {N S : Nat} {H : pj_Heap} {o : Nat} : pj_step 117 (9, L, .ref o :: st, (N, S, H)) = pj_pv 12 L st (N, S, H) (pj_fld (H o) 6 14) := st_getfield q117_9
theorem x117_9 {L : pj_Loc} {st : List Value} {N S : Nat} {H : pj_Heap} {o : Nat} {o9 : Option Value × pj_Mem} : pj_Ends 117 (9, L, .ref o :: st, (N, S, H)) o9 = pj_then 117 o9 (pj_pv 12 L st (N, S, H) (pj_fld (H o) 6 14)) := pj_xt q117_9 rfl (pj_cl_nc rfl) (s117_9)
theorem q117_12 : pj_row 117 12 = some (.iload_n 2, 1, 0, 0, 0) := by decide +kernel
theorem s117_12 {st : List Value} {M : pj_Mem} {l : pj_Loc} {a0 a1 : Option Value} {x : Int32} : pj_step 117 (12, a0 :: a1 :: some (.int x) :: l, st, M) = some (13, a0 :: a1 :: some (.int x) :: l, .int x :: st, M) := st_iload_n q117_12 rfl
theorem x117_12 {st : List Value} {M : pj_Mem} {l : pj_Loc} {a0 a1 : Option Value} {x : Int32} {o9 : Option Value × pj_Mem} : pj_Ends 117 (12, a0 :: a1 :: some (.int x) :: l, st, M) o9 = pj_Ends 117 (13, a0 :: a1 :: some (.int x) :: l, .int x :: st, M) o9 := pj_xs (s117_12)
theorem q117_13 : pj_row 117 13 = some (.ifCond .eq 7, 3, 20, 0, 0) := by decide +kernel
theorem s117_13 {L : pj_Loc} {st : List Value} {M : pj_Mem} {x : Int32} : pj_step 117 (13, L, .int x :: st, M) = some (if x = 0 then 20 else 16, L, st, M) := st_if_eq q117_13
theorem x117_13 {L : pj_Loc} {st : List Value} {M : pj_Mem} {x : Int32} {o9 : Option Value × pj_Mem} : pj_Ends 117 (13, L, .int x :: st, M) o9 = pj_Ends 117 (if x = 0 then 20 else 16, L, st, M) o9 := pj_xs (s117_13)
theorem q117_16 : pj_row 117 16 = some (.iconst 1, 1, 0, 0, 0) := by decide +kernel
theorem s117_16 {L : pj_Loc} {st : List Value} {M : pj_Mem}  : pj_step 117 (16, L, st, M) = some (17, L, .int 1 :: st, M) := st_iconst q117_16 (by decide +kernel)
theorem x117_16 {L : pj_Loc} {st : List Value} {M : pj_Mem}  {o9 : Option Value × pj_Mem} : pj_Ends 117 (16, L, st, M) o9 = pj_Ends 117 (17, L, .int 1 :: st, M) o9 := pj_xs (s117_16)
theorem q117_17 : pj_row 117 17 = some (.goto 4, 3, 21, 0, 0) := by decide +kernel
theorem s117_17 {L : pj_Loc} {st : List Value} {M : pj_Mem}  : pj_step 117 (17, L, st, M) = some (21, L, st, M) := st_goto q117_17
theorem x117_17 {L : pj_Loc} {st : List Value} {M : pj_Mem}  {o9 : Option Value × pj_Mem} : pj_Ends 117 (17, L, st, M) o9 = pj_Ends 117 (21, L, st, M) o9 := pj_xs (s117_17)
theorem q117_20 : pj_row 117 20 = some (.iconst 0, 1, 0, 0, 0) := by decide +kernel
theorem s117_20 {L : pj_Loc} {st : List Value} {M : pj_Mem}  : pj_step 117 (20, L, st, M) = some (21, L, .int 0 :: st, M) := st_iconst q117_20 (by decide +kernel)
theorem x117_20 {L : pj_Loc} {st : List Value} {M : pj_Mem}  {o9 : Option Value × pj_Mem} : pj_Ends 117 (20, L, st, M) o9 = pj_Ends 117 (21, L, .int 0 :: st, M) o9 := pj_xs (s117_20)
theorem q117_21 : pj_row 117 21 = some (.iadd, 1, 0, 0, 0) := by decide +kernel
theorem s117_21 {L : pj_Loc} {st : List Value} {M : pj_Mem} {x y : Int32} : pj_step 117 (21, L, .int y :: .int x :: st, M) = some (22, L, .int (x + y) :: st, M) := st_iadd q117_21
theorem x117_21 {L : pj_Loc} {st : List Value} {M : pj_Mem} {x y : Int32} {o9 : Option Value × pj_Mem} : pj_Ends 117 (21, L, .int y :: .int x :: st, M) o9 = pj_Ends 117 (22, L, .int (x + y) :: st, M) o9 := pj_xs (s117_21)
theorem q117_22 : pj_row 117 22 = some (.putfield 170, 3, 6, 14, 0) := by decide +kernel
theorem s117_22 {L : pj_Loc} {st : List Value} {N S : Nat} {H : pj_Heap} {o : Nat} {v : Value} : pj_step 117 (22, L, v :: .ref o :: st, (N, S, H)) = pj_set 25 L st (N, S, H) o (pj_fset (H o) 6 14 v) := st_putfield q117_22
theorem x117_22 {L : pj_Loc} {st : List Value} {N S : Nat} {H : pj_Heap} {o : Nat} {v : Value} {o9 : Option Value × pj_Mem} : pj_Ends 117 (22, L, v :: .ref o :: st, (N, S, H)) o9 = pj_then 117 o9 (pj_set 25 L st (N, S, H) o (pj_fset (H o) 6 14 v)) := pj_xt q117_22 rfl (pj_cl_nc rfl) (s117_22)
theorem q117_25 : pj_row 117 25 = some (.iload_n 2, 1, 0, 0, 0) := by decide +kernel
theorem s117_25 {st : List Value} {M : pj_Mem} {l : pj_Loc} {a0 a1 : Option Value} {x : Int32} : pj_step 117 (25, a0 :: a1 :: some (.int x) :: l, st, M) = some (26, a0 :: a1 :: some (.int x) :: l, .int x :: st, M) := st_iload_n q117_25 rfl
theorem x117_25 {st : List Value} {M : pj_Mem} {l : pj_Loc} {a0 a1 : Option Value} {x : Int32} {o9 : Option Value × pj_Mem} : pj_Ends 117 (25, a0 :: a1 :: some (.int x) :: l, st, M) o9 = pj_Ends 117 (26, a0 :: a1 :: some (.int x) :: l, .int x :: st, M) o9 := pj_xs (s117_25)
theorem q117_26 : pj_row 117 26 = some (.ireturn, 1, 0, 0, 0) := by decide +kernel
theorem t117_26 {L : pj_Loc} {M : pj_Mem} {v : Int32} (hv : v = 0 ∨ v = 1) : pj_Ends 117 (26, L, [.int v], M) (some (.int v), M) := pj_Ends.ret q117_26 (pj_rtn_z rt117 hv)
theorem rt118 : pj_rt 118 = some .boolean := rfl
theorem q118_0 : pj_row 118 0 = some (.aload_n 0, 1, 0, 0, 0) := by decide +kernel
theorem s118_0 {st : List Value} {M : pj_Mem} {l : pj_Loc} {x : Nat} : pj_step 118 (0, some (.ref x) :: l, st, M) = some (1, some (.ref x) :: l, .ref x :: st, M) := st_aload_n q118_0 rfl
theorem x118_0 {st : List Value} {M : pj_Mem} {l : pj_Loc} {x : Nat} {o9 : Option Value × pj_Mem} : pj_Ends 118 (0, some (.ref x) :: l, st, M) o9 = pj_Ends 118 (1, some (.ref x) :: l, .ref x :: st, M) o9 := pj_xs (s118_0)
theorem q118_1 : pj_row 118 1 = some (.getfield 170, 3, 6, 14, 0) := by decide +kernel
theorem s118_1 {L : pj_Loc} {st : List Value} {N S : Nat} {H : pj_Heap} {o : Nat} : pj_step 118 (1, L, .ref o :: st, (N, S, H)) = pj_pv 4 L st (N, S, H) (pj_fld (H o) 6 14) := st_getfield q118_1
theorem x118_1 {L : pj_Loc} {st : List Value} {N S : Nat} {H : pj_Heap} {o : Nat} {o9 : Option Value × pj_Mem} : pj_Ends 118 (1, L, .ref o :: st, (N, S, H)) o9 = pj_then 118 o9 (pj_pv 4 L st (N, S, H) (pj_fld (H o) 6 14)) := pj_xt q118_1 rfl (pj_cl_nc rfl) (s118_1)
theorem q118_4 : pj_row 118 4 = some (.aload_n 0, 1, 0, 0, 0) := by decide +kernel
theorem s118_4 {st : List Value} {M : pj_Mem} {l : pj_Loc} {x : Nat} : pj_step 118 (4, some (.ref x) :: l, st, M) = some (5, some (.ref x) :: l, .ref x :: st, M) := st_aload_n q118_4 rfl
theorem x118_4 {st : List Value} {M : pj_Mem} {l : pj_Loc} {x : Nat} {o9 : Option Value × pj_Mem} : pj_Ends 118 (4, some (.ref x) :: l, st, M) o9 = pj_Ends 118 (5, some (.ref x) :: l, .ref x :: st, M) o9 := pj_xs (s118_4)
theorem q118_5 : pj_row 118 5 = some (.getfield 152, 3, 6, 13, 0) := by decide +kernel
theorem s118_5 {L : pj_Loc} {st : List Value} {N S : Nat} {H : pj_Heap} {o : Nat} : pj_step 118 (5, L, .ref o :: st, (N, S, H)) = pj_pv 8 L st (N, S, H) (pj_fld (H o) 6 13) := st_getfield q118_5
theorem x118_5 {L : pj_Loc} {st : List Value} {N S : Nat} {H : pj_Heap} {o : Nat} {o9 : Option Value × pj_Mem} : pj_Ends 118 (5, L, .ref o :: st, (N, S, H)) o9 = pj_then 118 o9 (pj_pv 8 L st (N, S, H) (pj_fld (H o) 6 13)) := pj_xt q118_5 rfl (pj_cl_nc rfl) (s118_5)
theorem q118_8 : pj_row 118 8 = some (.if_icmp .ge 27, 3, 35, 0, 0) := by decide +kernel
theorem s118_8 {L : pj_Loc} {st : List Value} {M : pj_Mem} {x y : Int32} : pj_step 118 (8, L, .int y :: .int x :: st, M) = some (if y ≤ x then 35 else 11, L, st, M) := st_icmp_ge q118_8
theorem x118_8 {L : pj_Loc} {st : List Value} {M : pj_Mem} {x y : Int32} {o9 : Option Value × pj_Mem} : pj_Ends 118 (8, L, .int y :: .int x :: st, M) o9 = pj_Ends 118 (if y ≤ x then 35 else 11, L, st, M) o9 := pj_xs (s118_8)
theorem q118_11 : pj_row 118 11 = some (.aload_n 0, 1, 0, 0, 0) := by decide +kernel
theorem s118_11 {st : List Value} {M : pj_Mem} {l : pj_Loc} {x : Nat} : pj_step 118 (11, some (.ref x) :: l, st, M) = some (12, some (.ref x) :: l, .ref x :: st, M) := st_aload_n q118_11 rfl
theorem x118_11 {st : List Value} {M : pj_Mem} {l : pj_Loc} {x : Nat} {o9 : Option Value × pj_Mem} : pj_Ends 118 (11, some (.ref x) :: l, st, M) o9 = pj_Ends 118 (12, some (.ref x) :: l, .ref x :: st, M) o9 := pj_xs (s118_11)
theorem q118_12 : pj_row 118 12 = some (.getfield 31, 3, 6, 12, 0) := by decide +kernel
theorem s118_12 {L : pj_Loc} {st : List Value} {N S : Nat} {H : pj_Heap} {o : Nat} : pj_step 118 (12, L, .ref o :: st, (N, S, H)) = pj_pv 15 L st (N, S, H) (pj_fld (H o) 6 12) := st_getfield q118_12
theorem x118_12 {L : pj_Loc} {st : List Value} {N S : Nat} {H : pj_Heap} {o : Nat} {o9 : Option Value × pj_Mem} : pj_Ends 118 (12, L, .ref o :: st, (N, S, H)) o9 = pj_then 118 o9 (pj_pv 15 L st (N, S, H) (pj_fld (H o) 6 12)) := pj_xt q118_12 rfl (pj_cl_nc rfl) (s118_12)
theorem q118_15 : pj_row 118 15 = some (.aload_n 0, 1, 0, 0, 0) := by decide +kernel
theorem s118_15 {st : List Value} {M : pj_Mem} {l : pj_Loc} {x : Nat} : pj_step 118 (15, some (.ref x) :: l, st, M) = some (16, some (.ref x) :: l, .ref x :: st, M) := st_aload_n q118_15 rfl
theorem x118_15 {st : List Value} {M : pj_Mem} {l : pj_Loc} {x : Nat} {o9 : Option Value × pj_Mem} : pj_Ends 118 (15, some (.ref x) :: l, st, M) o9 = pj_Ends 118 (16, some (.ref x) :: l, .ref x :: st, M) o9 := pj_xs (s118_15)
theorem q118_16 : pj_row 118 16 = some (.getfield 170, 3, 6, 14, 0) := by decide +kernel
theorem s118_16 {L : pj_Loc} {st : List Value} {N S : Nat} {H : pj_Heap} {o : Nat} : pj_step 118 (16, L, .ref o :: st, (N, S, H)) = pj_pv 19 L st (N, S, H) (pj_fld (H o) 6 14) := st_getfield q118_16
theorem x118_16 {L : pj_Loc} {st : List Value} {N S : Nat} {H : pj_Heap} {o : Nat} {o9 : Option Value × pj_Mem} : pj_Ends 118 (16, L, .ref o :: st, (N, S, H)) o9 = pj_then 118 o9 (pj_pv 19 L st (N, S, H) (pj_fld (H o) 6 14)) := pj_xt q118_16 rfl (pj_cl_nc rfl) (s118_16)
theorem q118_19 : pj_row 118 19 = some (.iaload, 1, 0, 0, 0) := by decide +kernel
theorem s118_19 {L : pj_Loc} {st : List Value} {N S : Nat} {H : pj_Heap} {o : Nat} {i : Int32} : pj_step 118 (19, L, .int i :: .ref o :: st, (N, S, H)) = pj_pi 20 L st (N, S, H) (pj_arl (H o) 0 i) := st_iaload q118_19
theorem x118_19 {L : pj_Loc} {st : List Value} {N S : Nat} {H : pj_Heap} {o : Nat} {i : Int32} {o9 : Option Value × pj_Mem} : pj_Ends 118 (19, L, .int i :: .ref o :: st, (N, S, H)) o9 = pj_then 118 o9 (pj_pi 20 L st (N, S, H) (pj_arl (H o) 0 i)) := pj_xt q118_19 rfl (pj_cl_nc rfl) (s118_19)
theorem q118_20 : pj_row 118 20 = some (.i2l, 1, 0, 0, 0) := by decide +kernel
theorem s118_20 {L : pj_Loc} {st : List Value} {M : pj_Mem} {x : Int32} : pj_step 118 (20, L, .int x :: st, M) = some (21, L, .long x.toInt64 :: st, M) := st_i2l q118_20
theorem x118_20 {L : pj_Loc} {st : List Value} {M : pj_Mem} {x : Int32} {o9 : Option Value × pj_Mem} : pj_Ends 118 (20, L, .int x :: st, M) o9 = pj_Ends 118 (21, L, .long x.toInt64 :: st, M) o9 := pj_xs (s118_20)
theorem q118_21 : pj_row 118 21 = some (.iload_n 1, 1, 0, 0, 0) := by decide +kernel
theorem s118_21 {st : List Value} {M : pj_Mem} {l : pj_Loc} {a0 : Option Value} {x : Int32} : pj_step 118 (21, a0 :: some (.int x) :: l, st, M) = some (22, a0 :: some (.int x) :: l, .int x :: st, M) := st_iload_n q118_21 rfl
theorem x118_21 {st : List Value} {M : pj_Mem} {l : pj_Loc} {a0 : Option Value} {x : Int32} {o9 : Option Value × pj_Mem} : pj_Ends 118 (21, a0 :: some (.int x) :: l, st, M) o9 = pj_Ends 118 (22, a0 :: some (.int x) :: l, .int x :: st, M) o9 := pj_xs (s118_21)
theorem q118_22 : pj_row 118 22 = some (.i2l, 1, 0, 0, 0) := by decide +kernel
theorem s118_22 {L : pj_Loc} {st : List Value} {M : pj_Mem} {x : Int32} : pj_step 118 (22, L, .int x :: st, M) = some (23, L, .long x.toInt64 :: st, M) := st_i2l q118_22
theorem x118_22 {L : pj_Loc} {st : List Value} {M : pj_Mem} {x : Int32} {o9 : Option Value × pj_Mem} : pj_Ends 118 (22, L, .int x :: st, M) o9 = pj_Ends 118 (23, L, .long x.toInt64 :: st, M) o9 := pj_xs (s118_22)
theorem q118_23 : pj_row 118 23 = some (.iload_n 2, 1, 0, 0, 0) := by decide +kernel
theorem s118_23 {st : List Value} {M : pj_Mem} {l : pj_Loc} {a0 a1 : Option Value} {x : Int32} : pj_step 118 (23, a0 :: a1 :: some (.int x) :: l, st, M) = some (24, a0 :: a1 :: some (.int x) :: l, .int x :: st, M) := st_iload_n q118_23 rfl
theorem x118_23 {st : List Value} {M : pj_Mem} {l : pj_Loc} {a0 a1 : Option Value} {x : Int32} {o9 : Option Value × pj_Mem} : pj_Ends 118 (23, a0 :: a1 :: some (.int x) :: l, st, M) o9 = pj_Ends 118 (24, a0 :: a1 :: some (.int x) :: l, .int x :: st, M) o9 := pj_xs (s118_23)
theorem q118_24 : pj_row 118 24 = some (.i2l, 1, 0, 0, 0) := by decide +kernel
theorem s118_24 {L : pj_Loc} {st : List Value} {M : pj_Mem} {x : Int32} : pj_step 118 (24, L, .int x :: st, M) = some (25, L, .long x.toInt64 :: st, M) := st_i2l q118_24
theorem x118_24 {L : pj_Loc} {st : List Value} {M : pj_Mem} {x : Int32} {o9 : Option Value × pj_Mem} : pj_Ends 118 (24, L, .int x :: st, M) o9 = pj_Ends 118 (25, L, .long x.toInt64 :: st, M) o9 := pj_xs (s118_24)
theorem q118_25 : pj_row 118 25 = some (.invokestatic 42, 3, 77, 3, 0) := by decide +kernel
theorem e118_25 {L : pj_Loc} {st : List Value} {N S : Nat} {H : pj_Heap} {o : Option Value × pj_Mem} {M' : pj_Mem} {x0 : Int64} {x1 : Int64} {x2 : Int64} {r : Int32} (h4 : pj_le4 st = true) (h1 : pj_Ends 77 (0, [some (.long x0), none, some (.long x1), none, some (.long x2), none], [], (N, S, H)) (some (.int r), M')) (h2 : pj_Ends 118 (28, L, .int r :: st, M') o) : pj_Ends 118 (25, L, .long x2 :: .long x1 :: .long x0 :: st, (N, S, H)) o := ec_s3 q118_25 (Or.inl rfl) h4 rfl h1 h2
theorem q118_28 : pj_row 118 28 = some (.ifCond .eq 7, 3, 35, 0, 0) := by decide +kernel
theorem s118_28 {L : pj_Loc} {st : List Value} {M : pj_Mem} {x : Int32} : pj_step 118 (28, L, .int x :: st, M) = some (if x = 0 then 35 else 31, L, st, M) := st_if_eq q118_28
theorem x118_28 {L : pj_Loc} {st : List Value} {M : pj_Mem} {x : Int32} {o9 : Option Value × pj_Mem} : pj_Ends 118 (28, L, .int x :: st, M) o9 = pj_Ends 118 (if x = 0 then 35 else 31, L, st, M) o9 := pj_xs (s118_28)
theorem q118_31 : pj_row 118 31 = some (.iconst 1, 1, 0, 0, 0) := by decide +kernel
theorem s118_31 {L : pj_Loc} {st : List Value} {M : pj_Mem}  : pj_step 118 (31, L, st, M) = some (32, L, .int 1 :: st, M) := st_iconst q118_31 (by decide +kernel)
theorem x118_31 {L : pj_Loc} {st : List Value} {M : pj_Mem}  {o9 : Option Value × pj_Mem} : pj_Ends 118 (31, L, st, M) o9 = pj_Ends 118 (32, L, .int 1 :: st, M) o9 := pj_xs (s118_31)
theorem q118_32 : pj_row 118 32 = some (.goto 4, 3, 36, 0, 0) := by decide +kernel
theorem s118_32 {L : pj_Loc} {st : List Value} {M : pj_Mem}  : pj_step 118 (32, L, st, M) = some (36, L, st, M) := st_goto q118_32
theorem x118_32 {L : pj_Loc} {st : List Value} {M : pj_Mem}  {o9 : Option Value × pj_Mem} : pj_Ends 118 (32, L, st, M) o9 = pj_Ends 118 (36, L, st, M) o9 := pj_xs (s118_32)
theorem q118_35 : pj_row 118 35 = some (.iconst 0, 1, 0, 0, 0) := by decide +kernel
theorem s118_35 {L : pj_Loc} {st : List Value} {M : pj_Mem}  : pj_step 118 (35, L, st, M) = some (36, L, .int 0 :: st, M) := st_iconst q118_35 (by decide +kernel)
theorem x118_35 {L : pj_Loc} {st : List Value} {M : pj_Mem}  {o9 : Option Value × pj_Mem} : pj_Ends 118 (35, L, st, M) o9 = pj_Ends 118 (36, L, .int 0 :: st, M) o9 := pj_xs (s118_35)
theorem q118_36 : pj_row 118 36 = some (.ireturn, 1, 0, 0, 0) := by decide +kernel
theorem t118_36 {L : pj_Loc} {M : pj_Mem} {v : Int32} (hv : v = 0 ∨ v = 1) : pj_Ends 118 (36, L, [.int v], M) (some (.int v), M) := pj_Ends.ret q118_36 (pj_rtn_z rt118 hv)
theorem rt119 : pj_rt 119 = some .boolean := rfl
theorem q119_0 : pj_row 119 0 = some (.aload_n 0, 1, 0, 0, 0) := by decide +kernel
theorem s119_0 {st : List Value} {M : pj_Mem} {l : pj_Loc} {x : Nat} : pj_step 119 (0, some (.ref x) :: l, st, M) = some (1, some (.ref x) :: l, .ref x :: st, M) := st_aload_n q119_0 rfl
theorem x119_0 {st : List Value} {M : pj_Mem} {l : pj_Loc} {x : Nat} {o9 : Option Value × pj_Mem} : pj_Ends 119 (0, some (.ref x) :: l, st, M) o9 = pj_Ends 119 (1, some (.ref x) :: l, .ref x :: st, M) o9 := pj_xs (s119_0)
theorem q119_1 : pj_row 119 1 = some (.bipush 45, 2, 0, 0, 0) := by decide +kernel
theorem s119_1 {L : pj_Loc} {st : List Value} {M : pj_Mem}  : pj_step 119 (1, L, st, M) = some (3, L, .int 45 :: st, M) := st_bipush q119_1 (by decide +kernel)
theorem x119_1 {L : pj_Loc} {st : List Value} {M : pj_Mem}  {o9 : Option Value × pj_Mem} : pj_Ends 119 (1, L, st, M) o9 = pj_Ends 119 (3, L, .int 45 :: st, M) o9 := pj_xs (s119_1)
theorem q119_3 : pj_row 119 3 = some (.invokevirtual 176, 3, 117, 2, 0) := by decide +kernel
theorem e119_3 {L : pj_Loc} {st : List Value} {N S : Nat} {H : pj_Heap} {o : Option Value × pj_Mem} {M' : pj_Mem} {x0 : Nat} {x1 : Int32} {r : Int32} (h4 : pj_le4 st = true) (hu : pj_isU 6 (H x0) = true) (h1 : pj_Ends 117 (0, [some (.ref x0), some (.int x1), none], [], (N, S, H)) (some (.int r), M')) (h2 : pj_Ends 119 (6, L, .int r :: st, M') o) : pj_Ends 119 (3, L, .int x1 :: .ref x0 :: st, (N, S, H)) o := ec_v2 q119_3 (Or.inl rfl) h4 hu rfl h1 h2
theorem q119_6 : pj_row 119 6 = some (.istore_n 1, 1, 0, 0, 0) := by decide +kernel
theorem s119_6 {st : List Value} {M : pj_Mem} {l : pj_Loc} {a0 a1 : Option Value} {x : Int32} (h : pj_long a0 = false) : pj_step 119 (6, a0 :: a1 :: l, .int x :: st, M) = some (7, a0 :: some (.int x) :: l, st, M) := st_istore_n q119_6 (pj_st_1 h)
theorem x119_6 {st : List Value} {M : pj_Mem} {l : pj_Loc} {a0 a1 : Option Value} {x : Int32} (h : pj_long a0 = false) {o9 : Option Value × pj_Mem} : pj_Ends 119 (6, a0 :: a1 :: l, .int x :: st, M) o9 = pj_Ends 119 (7, a0 :: some (.int x) :: l, st, M) o9 := pj_xs (s119_6 h)
theorem q119_7 : pj_row 119 7 = some (.aload_n 0, 1, 0, 0, 0) := by decide +kernel
theorem s119_7 {st : List Value} {M : pj_Mem} {l : pj_Loc} {x : Nat} : pj_step 119 (7, some (.ref x) :: l, st, M) = some (8, some (.ref x) :: l, .ref x :: st, M) := st_aload_n q119_7 rfl
theorem x119_7 {st : List Value} {M : pj_Mem} {l : pj_Loc} {x : Nat} {o9 : Option Value × pj_Mem} : pj_Ends 119 (7, some (.ref x) :: l, st, M) o9 = pj_Ends 119 (8, some (.ref x) :: l, .ref x :: st, M) o9 := pj_xs (s119_7)
theorem q119_8 : pj_row 119 8 = some (.bipush 48, 2, 0, 0, 0) := by decide +kernel
theorem s119_8 {L : pj_Loc} {st : List Value} {M : pj_Mem}  : pj_step 119 (8, L, st, M) = some (10, L, .int 48 :: st, M) := st_bipush q119_8 (by decide +kernel)
theorem x119_8 {L : pj_Loc} {st : List Value} {M : pj_Mem}  {o9 : Option Value × pj_Mem} : pj_Ends 119 (8, L, st, M) o9 = pj_Ends 119 (10, L, .int 48 :: st, M) o9 := pj_xs (s119_8)
theorem q119_10 : pj_row 119 10 = some (.bipush 57, 2, 0, 0, 0) := by decide +kernel
theorem s119_10 {L : pj_Loc} {st : List Value} {M : pj_Mem}  : pj_step 119 (10, L, st, M) = some (12, L, .int 57 :: st, M) := st_bipush q119_10 (by decide +kernel)
theorem x119_10 {L : pj_Loc} {st : List Value} {M : pj_Mem}  {o9 : Option Value × pj_Mem} : pj_Ends 119 (10, L, st, M) o9 = pj_Ends 119 (12, L, .int 57 :: st, M) o9 := pj_xs (s119_10)
theorem q119_12 : pj_row 119 12 = some (.invokevirtual 173, 3, 118, 3, 0) := by decide +kernel
theorem e119_12 {L : pj_Loc} {st : List Value} {N S : Nat} {H : pj_Heap} {o : Option Value × pj_Mem} {M' : pj_Mem} {x0 : Nat} {x1 : Int32} {x2 : Int32} {r : Int32} (h4 : pj_le4 st = true) (hu : pj_isU 6 (H x0) = true) (h1 : pj_Ends 118 (0, [some (.ref x0), some (.int x1), some (.int x2)], [], (N, S, H)) (some (.int r), M')) (h2 : pj_Ends 119 (15, L, .int r :: st, M') o) : pj_Ends 119 (12, L, .int x2 :: .int x1 :: .ref x0 :: st, (N, S, H)) o := ec_v3 q119_12 (Or.inl rfl) h4 hu rfl h1 h2
theorem q119_15 : pj_row 119 15 = some (.ifCond .ne 5, 3, 20, 0, 0) := by decide +kernel
theorem s119_15 {L : pj_Loc} {st : List Value} {M : pj_Mem} {x : Int32} : pj_step 119 (15, L, .int x :: st, M) = some (if ¬ x = 0 then 20 else 18, L, st, M) := st_if_ne q119_15
theorem x119_15 {L : pj_Loc} {st : List Value} {M : pj_Mem} {x : Int32} {o9 : Option Value × pj_Mem} : pj_Ends 119 (15, L, .int x :: st, M) o9 = pj_Ends 119 (if ¬ x = 0 then 20 else 18, L, st, M) o9 := pj_xs (s119_15)
theorem q119_18 : pj_row 119 18 = some (.iconst 0, 1, 0, 0, 0) := by decide +kernel
theorem s119_18 {L : pj_Loc} {st : List Value} {M : pj_Mem}  : pj_step 119 (18, L, st, M) = some (19, L, .int 0 :: st, M) := st_iconst q119_18 (by decide +kernel)
theorem x119_18 {L : pj_Loc} {st : List Value} {M : pj_Mem}  {o9 : Option Value × pj_Mem} : pj_Ends 119 (18, L, st, M) o9 = pj_Ends 119 (19, L, .int 0 :: st, M) o9 := pj_xs (s119_18)
theorem q119_19 : pj_row 119 19 = some (.ireturn, 1, 0, 0, 0) := by decide +kernel
theorem t119_19 {L : pj_Loc} {M : pj_Mem} {v : Int32} (hv : v = 0 ∨ v = 1) : pj_Ends 119 (19, L, [.int v], M) (some (.int v), M) := pj_Ends.ret q119_19 (pj_rtn_z rt119 hv)
theorem q119_20 : pj_row 119 20 = some (.aload_n 0, 1, 0, 0, 0) := by decide +kernel
theorem s119_20 {st : List Value} {M : pj_Mem} {l : pj_Loc} {x : Nat} : pj_step 119 (20, some (.ref x) :: l, st, M) = some (21, some (.ref x) :: l, .ref x :: st, M) := st_aload_n q119_20 rfl
theorem x119_20 {st : List Value} {M : pj_Mem} {l : pj_Loc} {x : Nat} {o9 : Option Value × pj_Mem} : pj_Ends 119 (20, some (.ref x) :: l, st, M) o9 = pj_Ends 119 (21, some (.ref x) :: l, .ref x :: st, M) o9 := pj_xs (s119_20)
theorem q119_21 : pj_row 119 21 = some (.aload_n 0, 1, 0, 0, 0) := by decide +kernel
theorem s119_21 {st : List Value} {M : pj_Mem} {l : pj_Loc} {x : Nat} : pj_step 119 (21, some (.ref x) :: l, st, M) = some (22, some (.ref x) :: l, .ref x :: st, M) := st_aload_n q119_21 rfl
theorem x119_21 {st : List Value} {M : pj_Mem} {l : pj_Loc} {x : Nat} {o9 : Option Value × pj_Mem} : pj_Ends 119 (21, some (.ref x) :: l, st, M) o9 = pj_Ends 119 (22, some (.ref x) :: l, .ref x :: st, M) o9 := pj_xs (s119_21)
theorem q119_22 : pj_row 119 22 = some (.getfield 31, 3, 6, 12, 0) := by decide +kernel
theorem s119_22 {L : pj_Loc} {st : List Value} {N S : Nat} {H : pj_Heap} {o : Nat} : pj_step 119 (22, L, .ref o :: st, (N, S, H)) = pj_pv 25 L st (N, S, H) (pj_fld (H o) 6 12) := st_getfield q119_22
theorem x119_22 {L : pj_Loc} {st : List Value} {N S : Nat} {H : pj_Heap} {o : Nat} {o9 : Option Value × pj_Mem} : pj_Ends 119 (22, L, .ref o :: st, (N, S, H)) o9 = pj_then 119 o9 (pj_pv 25 L st (N, S, H) (pj_fld (H o) 6 12)) := pj_xt q119_22 rfl (pj_cl_nc rfl) (s119_22)
theorem q119_25 : pj_row 119 25 = some (.aload_n 0, 1, 0, 0, 0) := by decide +kernel
theorem s119_25 {st : List Value} {M : pj_Mem} {l : pj_Loc} {x : Nat} : pj_step 119 (25, some (.ref x) :: l, st, M) = some (26, some (.ref x) :: l, .ref x :: st, M) := st_aload_n q119_25 rfl
theorem x119_25 {st : List Value} {M : pj_Mem} {l : pj_Loc} {x : Nat} {o9 : Option Value × pj_Mem} : pj_Ends 119 (25, some (.ref x) :: l, st, M) o9 = pj_Ends 119 (26, some (.ref x) :: l, .ref x :: st, M) o9 := pj_xs (s119_25)
theorem q119_26 : pj_row 119 26 = some (.getfield 170, 3, 6, 14, 0) := by decide +kernel
theorem s119_26 {L : pj_Loc} {st : List Value} {N S : Nat} {H : pj_Heap} {o : Nat} : pj_step 119 (26, L, .ref o :: st, (N, S, H)) = pj_pv 29 L st (N, S, H) (pj_fld (H o) 6 14) := st_getfield q119_26
theorem x119_26 {L : pj_Loc} {st : List Value} {N S : Nat} {H : pj_Heap} {o : Nat} {o9 : Option Value × pj_Mem} : pj_Ends 119 (26, L, .ref o :: st, (N, S, H)) o9 = pj_then 119 o9 (pj_pv 29 L st (N, S, H) (pj_fld (H o) 6 14)) := pj_xt q119_26 rfl (pj_cl_nc rfl) (s119_26)
theorem q119_29 : pj_row 119 29 = some (.iaload, 1, 0, 0, 0) := by decide +kernel
theorem s119_29 {L : pj_Loc} {st : List Value} {N S : Nat} {H : pj_Heap} {o : Nat} {i : Int32} : pj_step 119 (29, L, .int i :: .ref o :: st, (N, S, H)) = pj_pi 30 L st (N, S, H) (pj_arl (H o) 0 i) := st_iaload q119_29
theorem x119_29 {L : pj_Loc} {st : List Value} {N S : Nat} {H : pj_Heap} {o : Nat} {i : Int32} {o9 : Option Value × pj_Mem} : pj_Ends 119 (29, L, .int i :: .ref o :: st, (N, S, H)) o9 = pj_then 119 o9 (pj_pi 30 L st (N, S, H) (pj_arl (H o) 0 i)) := pj_xt q119_29 rfl (pj_cl_nc rfl) (s119_29)
theorem q119_30 : pj_row 119 30 = some (.bipush 48, 2, 0, 0, 0) := by decide +kernel
theorem s119_30 {L : pj_Loc} {st : List Value} {M : pj_Mem}  : pj_step 119 (30, L, st, M) = some (32, L, .int 48 :: st, M) := st_bipush q119_30 (by decide +kernel)
theorem x119_30 {L : pj_Loc} {st : List Value} {M : pj_Mem}  {o9 : Option Value × pj_Mem} : pj_Ends 119 (30, L, st, M) o9 = pj_Ends 119 (32, L, .int 48 :: st, M) o9 := pj_xs (s119_30)
theorem q119_32 : pj_row 119 32 = some (.isub, 1, 0, 0, 0) := by decide +kernel
theorem s119_32 {L : pj_Loc} {st : List Value} {M : pj_Mem} {x y : Int32} : pj_step 119 (32, L, .int y :: .int x :: st, M) = some (33, L, .int (x - y) :: st, M) := st_isub q119_32
theorem x119_32 {L : pj_Loc} {st : List Value} {M : pj_Mem} {x y : Int32} {o9 : Option Value × pj_Mem} : pj_Ends 119 (32, L, .int y :: .int x :: st, M) o9 = pj_Ends 119 (33, L, .int (x - y) :: st, M) o9 := pj_xs (s119_32)
theorem q119_33 : pj_row 119 33 = some (.putfield 179, 3, 6, 15, 0) := by decide +kernel
theorem s119_33 {L : pj_Loc} {st : List Value} {N S : Nat} {H : pj_Heap} {o : Nat} {v : Value} : pj_step 119 (33, L, v :: .ref o :: st, (N, S, H)) = pj_set 36 L st (N, S, H) o (pj_fset (H o) 6 15 v) := st_putfield q119_33
theorem x119_33 {L : pj_Loc} {st : List Value} {N S : Nat} {H : pj_Heap} {o : Nat} {v : Value} {o9 : Option Value × pj_Mem} : pj_Ends 119 (33, L, v :: .ref o :: st, (N, S, H)) o9 = pj_then 119 o9 (pj_set 36 L st (N, S, H) o (pj_fset (H o) 6 15 v)) := pj_xt q119_33 rfl (pj_cl_nc rfl) (s119_33)
theorem q119_36 : pj_row 119 36 = some (.aload_n 0, 1, 0, 0, 0) := by decide +kernel
theorem s119_36 {st : List Value} {M : pj_Mem} {l : pj_Loc} {x : Nat} : pj_step 119 (36, some (.ref x) :: l, st, M) = some (37, some (.ref x) :: l, .ref x :: st, M) := st_aload_n q119_36 rfl
theorem x119_36 {st : List Value} {M : pj_Mem} {l : pj_Loc} {x : Nat} {o9 : Option Value × pj_Mem} : pj_Ends 119 (36, some (.ref x) :: l, st, M) o9 = pj_Ends 119 (37, some (.ref x) :: l, .ref x :: st, M) o9 := pj_xs (s119_36)
theorem q119_37 : pj_row 119 37 = some (.dup, 1, 0, 0, 0) := by decide +kernel
theorem s119_37 {L : pj_Loc} {st : List Value} {M : pj_Mem} {x : Nat} : pj_step 119 (37, L, .ref x :: st, M) = some (38, L, .ref x :: .ref x :: st, M) := st_dup_ref q119_37
theorem x119_37 {L : pj_Loc} {st : List Value} {M : pj_Mem} {x : Nat} {o9 : Option Value × pj_Mem} : pj_Ends 119 (37, L, .ref x :: st, M) o9 = pj_Ends 119 (38, L, .ref x :: .ref x :: st, M) o9 := pj_xs (s119_37)
theorem s119_37i {L : pj_Loc} {st : List Value} {M : pj_Mem} {x : Int32} : pj_step 119 (37, L, .int x :: st, M) = some (38, L, .int x :: .int x :: st, M) := st_dup_int q119_37
theorem x119_37i {L : pj_Loc} {st : List Value} {M : pj_Mem} {x : Int32} {o9 : Option Value × pj_Mem} : pj_Ends 119 (37, L, .int x :: st, M) o9 = pj_Ends 119 (38, L, .int x :: .int x :: st, M) o9 := pj_xs (s119_37i)
theorem q119_38 : pj_row 119 38 = some (.getfield 170, 3, 6, 14, 0) := by decide +kernel
theorem s119_38 {L : pj_Loc} {st : List Value} {N S : Nat} {H : pj_Heap} {o : Nat} : pj_step 119 (38, L, .ref o :: st, (N, S, H)) = pj_pv 41 L st (N, S, H) (pj_fld (H o) 6 14) := st_getfield q119_38
theorem x119_38 {L : pj_Loc} {st : List Value} {N S : Nat} {H : pj_Heap} {o : Nat} {o9 : Option Value × pj_Mem} : pj_Ends 119 (38, L, .ref o :: st, (N, S, H)) o9 = pj_then 119 o9 (pj_pv 41 L st (N, S, H) (pj_fld (H o) 6 14)) := pj_xt q119_38 rfl (pj_cl_nc rfl) (s119_38)
theorem q119_41 : pj_row 119 41 = some (.iconst 1, 1, 0, 0, 0) := by decide +kernel
theorem s119_41 {L : pj_Loc} {st : List Value} {M : pj_Mem}  : pj_step 119 (41, L, st, M) = some (42, L, .int 1 :: st, M) := st_iconst q119_41 (by decide +kernel)
theorem x119_41 {L : pj_Loc} {st : List Value} {M : pj_Mem}  {o9 : Option Value × pj_Mem} : pj_Ends 119 (41, L, st, M) o9 = pj_Ends 119 (42, L, .int 1 :: st, M) o9 := pj_xs (s119_41)
theorem q119_42 : pj_row 119 42 = some (.iadd, 1, 0, 0, 0) := by decide +kernel
theorem s119_42 {L : pj_Loc} {st : List Value} {M : pj_Mem} {x y : Int32} : pj_step 119 (42, L, .int y :: .int x :: st, M) = some (43, L, .int (x + y) :: st, M) := st_iadd q119_42
theorem x119_42 {L : pj_Loc} {st : List Value} {M : pj_Mem} {x y : Int32} {o9 : Option Value × pj_Mem} : pj_Ends 119 (42, L, .int y :: .int x :: st, M) o9 = pj_Ends 119 (43, L, .int (x + y) :: st, M) o9 := pj_xs (s119_42)
theorem q119_43 : pj_row 119 43 = some (.putfield 170, 3, 6, 14, 0) := by decide +kernel
theorem s119_43 {L : pj_Loc} {st : List Value} {N S : Nat} {H : pj_Heap} {o : Nat} {v : Value} : pj_step 119 (43, L, v :: .ref o :: st, (N, S, H)) = pj_set 46 L st (N, S, H) o (pj_fset (H o) 6 14 v) := st_putfield q119_43
theorem x119_43 {L : pj_Loc} {st : List Value} {N S : Nat} {H : pj_Heap} {o : Nat} {v : Value} {o9 : Option Value × pj_Mem} : pj_Ends 119 (43, L, v :: .ref o :: st, (N, S, H)) o9 = pj_then 119 o9 (pj_set 46 L st (N, S, H) o (pj_fset (H o) 6 14 v)) := pj_xt q119_43 rfl (pj_cl_nc rfl) (s119_43)
theorem q119_46 : pj_row 119 46 = some (.aload_n 0, 1, 0, 0, 0) := by decide +kernel
theorem s119_46 {st : List Value} {M : pj_Mem} {l : pj_Loc} {x : Nat} : pj_step 119 (46, some (.ref x) :: l, st, M) = some (47, some (.ref x) :: l, .ref x :: st, M) := st_aload_n q119_46 rfl
theorem x119_46 {st : List Value} {M : pj_Mem} {l : pj_Loc} {x : Nat} {o9 : Option Value × pj_Mem} : pj_Ends 119 (46, some (.ref x) :: l, st, M) o9 = pj_Ends 119 (47, some (.ref x) :: l, .ref x :: st, M) o9 := pj_xs (s119_46)
theorem q119_47 : pj_row 119 47 = some (.getfield 179, 3, 6, 15, 0) := by decide +kernel
theorem s119_47 {L : pj_Loc} {st : List Value} {N S : Nat} {H : pj_Heap} {o : Nat} : pj_step 119 (47, L, .ref o :: st, (N, S, H)) = pj_pv 50 L st (N, S, H) (pj_fld (H o) 6 15) := st_getfield q119_47
theorem x119_47 {L : pj_Loc} {st : List Value} {N S : Nat} {H : pj_Heap} {o : Nat} {o9 : Option Value × pj_Mem} : pj_Ends 119 (47, L, .ref o :: st, (N, S, H)) o9 = pj_then 119 o9 (pj_pv 50 L st (N, S, H) (pj_fld (H o) 6 15)) := pj_xt q119_47 rfl (pj_cl_nc rfl) (s119_47)
theorem q119_50 : pj_row 119 50 = some (.ifCond .le 77, 3, 127, 0, 0) := by decide +kernel
theorem s119_50 {L : pj_Loc} {st : List Value} {M : pj_Mem} {x : Int32} : pj_step 119 (50, L, .int x :: st, M) = some (if x ≤ 0 then 127 else 53, L, st, M) := st_if_le q119_50
theorem x119_50 {L : pj_Loc} {st : List Value} {M : pj_Mem} {x : Int32} {o9 : Option Value × pj_Mem} : pj_Ends 119 (50, L, .int x :: st, M) o9 = pj_Ends 119 (if x ≤ 0 then 127 else 53, L, st, M) o9 := pj_xs (s119_50)
theorem q119_53 : pj_row 119 53 = some (.aload_n 0, 1, 0, 0, 0) := by decide +kernel
theorem s119_53 {st : List Value} {M : pj_Mem} {l : pj_Loc} {x : Nat} : pj_step 119 (53, some (.ref x) :: l, st, M) = some (54, some (.ref x) :: l, .ref x :: st, M) := st_aload_n q119_53 rfl
theorem x119_53 {st : List Value} {M : pj_Mem} {l : pj_Loc} {x : Nat} {o9 : Option Value × pj_Mem} : pj_Ends 119 (53, some (.ref x) :: l, st, M) o9 = pj_Ends 119 (54, some (.ref x) :: l, .ref x :: st, M) o9 := pj_xs (s119_53)
theorem q119_54 : pj_row 119 54 = some (.bipush 48, 2, 0, 0, 0) := by decide +kernel
theorem s119_54 {L : pj_Loc} {st : List Value} {M : pj_Mem}  : pj_step 119 (54, L, st, M) = some (56, L, .int 48 :: st, M) := st_bipush q119_54 (by decide +kernel)
theorem x119_54 {L : pj_Loc} {st : List Value} {M : pj_Mem}  {o9 : Option Value × pj_Mem} : pj_Ends 119 (54, L, st, M) o9 = pj_Ends 119 (56, L, .int 48 :: st, M) o9 := pj_xs (s119_54)
theorem q119_56 : pj_row 119 56 = some (.bipush 57, 2, 0, 0, 0) := by decide +kernel
theorem s119_56 {L : pj_Loc} {st : List Value} {M : pj_Mem}  : pj_step 119 (56, L, st, M) = some (58, L, .int 57 :: st, M) := st_bipush q119_56 (by decide +kernel)
theorem x119_56 {L : pj_Loc} {st : List Value} {M : pj_Mem}  {o9 : Option Value × pj_Mem} : pj_Ends 119 (56, L, st, M) o9 = pj_Ends 119 (58, L, .int 57 :: st, M) o9 := pj_xs (s119_56)
theorem q119_58 : pj_row 119 58 = some (.invokevirtual 173, 3, 118, 3, 0) := by decide +kernel
theorem e119_58 {L : pj_Loc} {st : List Value} {N S : Nat} {H : pj_Heap} {o : Option Value × pj_Mem} {M' : pj_Mem} {x0 : Nat} {x1 : Int32} {x2 : Int32} {r : Int32} (h4 : pj_le4 st = true) (hu : pj_isU 6 (H x0) = true) (h1 : pj_Ends 118 (0, [some (.ref x0), some (.int x1), some (.int x2)], [], (N, S, H)) (some (.int r), M')) (h2 : pj_Ends 119 (61, L, .int r :: st, M') o) : pj_Ends 119 (58, L, .int x2 :: .int x1 :: .ref x0 :: st, (N, S, H)) o := ec_v3 q119_58 (Or.inl rfl) h4 hu rfl h1 h2
theorem q119_61 : pj_row 119 61 = some (.ifCond .eq 66, 3, 127, 0, 0) := by decide +kernel
theorem s119_61 {L : pj_Loc} {st : List Value} {M : pj_Mem} {x : Int32} : pj_step 119 (61, L, .int x :: st, M) = some (if x = 0 then 127 else 64, L, st, M) := st_if_eq q119_61
theorem x119_61 {L : pj_Loc} {st : List Value} {M : pj_Mem} {x : Int32} {o9 : Option Value × pj_Mem} : pj_Ends 119 (61, L, .int x :: st, M) o9 = pj_Ends 119 (if x = 0 then 127 else 64, L, st, M) o9 := pj_xs (s119_61)
theorem q119_64 : pj_row 119 64 = some (.bipush 10, 2, 0, 0, 0) := by decide +kernel
theorem s119_64 {L : pj_Loc} {st : List Value} {M : pj_Mem}  : pj_step 119 (64, L, st, M) = some (66, L, .int 10 :: st, M) := st_bipush q119_64 (by decide +kernel)
theorem x119_64 {L : pj_Loc} {st : List Value} {M : pj_Mem}  {o9 : Option Value × pj_Mem} : pj_Ends 119 (64, L, st, M) o9 = pj_Ends 119 (66, L, .int 10 :: st, M) o9 := pj_xs (s119_64)
theorem q119_66 : pj_row 119 66 = some (.aload_n 0, 1, 0, 0, 0) := by decide +kernel
theorem s119_66 {st : List Value} {M : pj_Mem} {l : pj_Loc} {x : Nat} : pj_step 119 (66, some (.ref x) :: l, st, M) = some (67, some (.ref x) :: l, .ref x :: st, M) := st_aload_n q119_66 rfl
theorem x119_66 {st : List Value} {M : pj_Mem} {l : pj_Loc} {x : Nat} {o9 : Option Value × pj_Mem} : pj_Ends 119 (66, some (.ref x) :: l, st, M) o9 = pj_Ends 119 (67, some (.ref x) :: l, .ref x :: st, M) o9 := pj_xs (s119_66)
theorem q119_67 : pj_row 119 67 = some (.getfield 179, 3, 6, 15, 0) := by decide +kernel
theorem s119_67 {L : pj_Loc} {st : List Value} {N S : Nat} {H : pj_Heap} {o : Nat} : pj_step 119 (67, L, .ref o :: st, (N, S, H)) = pj_pv 70 L st (N, S, H) (pj_fld (H o) 6 15) := st_getfield q119_67
theorem x119_67 {L : pj_Loc} {st : List Value} {N S : Nat} {H : pj_Heap} {o : Nat} {o9 : Option Value × pj_Mem} : pj_Ends 119 (67, L, .ref o :: st, (N, S, H)) o9 = pj_then 119 o9 (pj_pv 70 L st (N, S, H) (pj_fld (H o) 6 15)) := pj_xt q119_67 rfl (pj_cl_nc rfl) (s119_67)
theorem q119_70 : pj_row 119 70 = some (.imul, 1, 0, 0, 0) := by decide +kernel
theorem s119_70 {L : pj_Loc} {st : List Value} {M : pj_Mem} {x y : Int32} : pj_step 119 (70, L, .int y :: .int x :: st, M) = some (71, L, .int (x * y) :: st, M) := st_imul q119_70
theorem x119_70 {L : pj_Loc} {st : List Value} {M : pj_Mem} {x y : Int32} {o9 : Option Value × pj_Mem} : pj_Ends 119 (70, L, .int y :: .int x :: st, M) o9 = pj_Ends 119 (71, L, .int (x * y) :: st, M) o9 := pj_xs (s119_70)
theorem q119_71 : pj_row 119 71 = some (.aload_n 0, 1, 0, 0, 0) := by decide +kernel
theorem s119_71 {st : List Value} {M : pj_Mem} {l : pj_Loc} {x : Nat} : pj_step 119 (71, some (.ref x) :: l, st, M) = some (72, some (.ref x) :: l, .ref x :: st, M) := st_aload_n q119_71 rfl
theorem x119_71 {st : List Value} {M : pj_Mem} {l : pj_Loc} {x : Nat} {o9 : Option Value × pj_Mem} : pj_Ends 119 (71, some (.ref x) :: l, st, M) o9 = pj_Ends 119 (72, some (.ref x) :: l, .ref x :: st, M) o9 := pj_xs (s119_71)
theorem q119_72 : pj_row 119 72 = some (.getfield 31, 3, 6, 12, 0) := by decide +kernel
theorem s119_72 {L : pj_Loc} {st : List Value} {N S : Nat} {H : pj_Heap} {o : Nat} : pj_step 119 (72, L, .ref o :: st, (N, S, H)) = pj_pv 75 L st (N, S, H) (pj_fld (H o) 6 12) := st_getfield q119_72
theorem x119_72 {L : pj_Loc} {st : List Value} {N S : Nat} {H : pj_Heap} {o : Nat} {o9 : Option Value × pj_Mem} : pj_Ends 119 (72, L, .ref o :: st, (N, S, H)) o9 = pj_then 119 o9 (pj_pv 75 L st (N, S, H) (pj_fld (H o) 6 12)) := pj_xt q119_72 rfl (pj_cl_nc rfl) (s119_72)
theorem q119_75 : pj_row 119 75 = some (.aload_n 0, 1, 0, 0, 0) := by decide +kernel
theorem s119_75 {st : List Value} {M : pj_Mem} {l : pj_Loc} {x : Nat} : pj_step 119 (75, some (.ref x) :: l, st, M) = some (76, some (.ref x) :: l, .ref x :: st, M) := st_aload_n q119_75 rfl
theorem x119_75 {st : List Value} {M : pj_Mem} {l : pj_Loc} {x : Nat} {o9 : Option Value × pj_Mem} : pj_Ends 119 (75, some (.ref x) :: l, st, M) o9 = pj_Ends 119 (76, some (.ref x) :: l, .ref x :: st, M) o9 := pj_xs (s119_75)
theorem q119_76 : pj_row 119 76 = some (.getfield 170, 3, 6, 14, 0) := by decide +kernel
theorem s119_76 {L : pj_Loc} {st : List Value} {N S : Nat} {H : pj_Heap} {o : Nat} : pj_step 119 (76, L, .ref o :: st, (N, S, H)) = pj_pv 79 L st (N, S, H) (pj_fld (H o) 6 14) := st_getfield q119_76
theorem x119_76 {L : pj_Loc} {st : List Value} {N S : Nat} {H : pj_Heap} {o : Nat} {o9 : Option Value × pj_Mem} : pj_Ends 119 (76, L, .ref o :: st, (N, S, H)) o9 = pj_then 119 o9 (pj_pv 79 L st (N, S, H) (pj_fld (H o) 6 14)) := pj_xt q119_76 rfl (pj_cl_nc rfl) (s119_76)
theorem q119_79 : pj_row 119 79 = some (.iaload, 1, 0, 0, 0) := by decide +kernel
theorem s119_79 {L : pj_Loc} {st : List Value} {N S : Nat} {H : pj_Heap} {o : Nat} {i : Int32} : pj_step 119 (79, L, .int i :: .ref o :: st, (N, S, H)) = pj_pi 80 L st (N, S, H) (pj_arl (H o) 0 i) := st_iaload q119_79
theorem x119_79 {L : pj_Loc} {st : List Value} {N S : Nat} {H : pj_Heap} {o : Nat} {i : Int32} {o9 : Option Value × pj_Mem} : pj_Ends 119 (79, L, .int i :: .ref o :: st, (N, S, H)) o9 = pj_then 119 o9 (pj_pi 80 L st (N, S, H) (pj_arl (H o) 0 i)) := pj_xt q119_79 rfl (pj_cl_nc rfl) (s119_79)
theorem q119_80 : pj_row 119 80 = some (.iadd, 1, 0, 0, 0) := by decide +kernel
theorem s119_80 {L : pj_Loc} {st : List Value} {M : pj_Mem} {x y : Int32} : pj_step 119 (80, L, .int y :: .int x :: st, M) = some (81, L, .int (x + y) :: st, M) := st_iadd q119_80
theorem x119_80 {L : pj_Loc} {st : List Value} {M : pj_Mem} {x y : Int32} {o9 : Option Value × pj_Mem} : pj_Ends 119 (80, L, .int y :: .int x :: st, M) o9 = pj_Ends 119 (81, L, .int (x + y) :: st, M) o9 := pj_xs (s119_80)
theorem q119_81 : pj_row 119 81 = some (.bipush 48, 2, 0, 0, 0) := by decide +kernel
theorem s119_81 {L : pj_Loc} {st : List Value} {M : pj_Mem}  : pj_step 119 (81, L, st, M) = some (83, L, .int 48 :: st, M) := st_bipush q119_81 (by decide +kernel)
theorem x119_81 {L : pj_Loc} {st : List Value} {M : pj_Mem}  {o9 : Option Value × pj_Mem} : pj_Ends 119 (81, L, st, M) o9 = pj_Ends 119 (83, L, .int 48 :: st, M) o9 := pj_xs (s119_81)
theorem q119_83 : pj_row 119 83 = some (.isub, 1, 0, 0, 0) := by decide +kernel
theorem s119_83 {L : pj_Loc} {st : List Value} {M : pj_Mem} {x y : Int32} : pj_step 119 (83, L, .int y :: .int x :: st, M) = some (84, L, .int (x - y) :: st, M) := st_isub q119_83
theorem x119_83 {L : pj_Loc} {st : List Value} {M : pj_Mem} {x y : Int32} {o9 : Option Value × pj_Mem} : pj_Ends 119 (83, L, .int y :: .int x :: st, M) o9 = pj_Ends 119 (84, L, .int (x - y) :: st, M) o9 := pj_xs (s119_83)
theorem q119_84 : pj_row 119 84 = some (.sipush 500, 3, 0, 0, 0) := by decide +kernel
theorem s119_84 {L : pj_Loc} {st : List Value} {M : pj_Mem}  : pj_step 119 (84, L, st, M) = some (87, L, .int 500 :: st, M) := st_sipush q119_84 (by decide +kernel)
theorem x119_84 {L : pj_Loc} {st : List Value} {M : pj_Mem}  {o9 : Option Value × pj_Mem} : pj_Ends 119 (84, L, st, M) o9 = pj_Ends 119 (87, L, .int 500 :: st, M) o9 := pj_xs (s119_84)
theorem q119_87 : pj_row 119 87 = some (.if_icmp .gt 40, 3, 127, 0, 0) := by decide +kernel
theorem s119_87 {L : pj_Loc} {st : List Value} {M : pj_Mem} {x y : Int32} : pj_step 119 (87, L, .int y :: .int x :: st, M) = some (if y < x then 127 else 90, L, st, M) := st_icmp_gt q119_87
theorem x119_87 {L : pj_Loc} {st : List Value} {M : pj_Mem} {x y : Int32} {o9 : Option Value × pj_Mem} : pj_Ends 119 (87, L, .int y :: .int x :: st, M) o9 = pj_Ends 119 (if y < x then 127 else 90, L, st, M) o9 := pj_xs (s119_87)
theorem q119_90 : pj_row 119 90 = some (.aload_n 0, 1, 0, 0, 0) := by decide +kernel
theorem s119_90 {st : List Value} {M : pj_Mem} {l : pj_Loc} {x : Nat} : pj_step 119 (90, some (.ref x) :: l, st, M) = some (91, some (.ref x) :: l, .ref x :: st, M) := st_aload_n q119_90 rfl
theorem x119_90 {st : List Value} {M : pj_Mem} {l : pj_Loc} {x : Nat} {o9 : Option Value × pj_Mem} : pj_Ends 119 (90, some (.ref x) :: l, st, M) o9 = pj_Ends 119 (91, some (.ref x) :: l, .ref x :: st, M) o9 := pj_xs (s119_90)
theorem q119_91 : pj_row 119 91 = some (.bipush 10, 2, 0, 0, 0) := by decide +kernel
theorem s119_91 {L : pj_Loc} {st : List Value} {M : pj_Mem}  : pj_step 119 (91, L, st, M) = some (93, L, .int 10 :: st, M) := st_bipush q119_91 (by decide +kernel)
theorem x119_91 {L : pj_Loc} {st : List Value} {M : pj_Mem}  {o9 : Option Value × pj_Mem} : pj_Ends 119 (91, L, st, M) o9 = pj_Ends 119 (93, L, .int 10 :: st, M) o9 := pj_xs (s119_91)
theorem q119_93 : pj_row 119 93 = some (.aload_n 0, 1, 0, 0, 0) := by decide +kernel
theorem s119_93 {st : List Value} {M : pj_Mem} {l : pj_Loc} {x : Nat} : pj_step 119 (93, some (.ref x) :: l, st, M) = some (94, some (.ref x) :: l, .ref x :: st, M) := st_aload_n q119_93 rfl
theorem x119_93 {st : List Value} {M : pj_Mem} {l : pj_Loc} {x : Nat} {o9 : Option Value × pj_Mem} : pj_Ends 119 (93, some (.ref x) :: l, st, M) o9 = pj_Ends 119 (94, some (.ref x) :: l, .ref x :: st, M) o9 := pj_xs (s119_93)
theorem q119_94 : pj_row 119 94 = some (.getfield 179, 3, 6, 15, 0) := by decide +kernel
theorem s119_94 {L : pj_Loc} {st : List Value} {N S : Nat} {H : pj_Heap} {o : Nat} : pj_step 119 (94, L, .ref o :: st, (N, S, H)) = pj_pv 97 L st (N, S, H) (pj_fld (H o) 6 15) := st_getfield q119_94
theorem x119_94 {L : pj_Loc} {st : List Value} {N S : Nat} {H : pj_Heap} {o : Nat} {o9 : Option Value × pj_Mem} : pj_Ends 119 (94, L, .ref o :: st, (N, S, H)) o9 = pj_then 119 o9 (pj_pv 97 L st (N, S, H) (pj_fld (H o) 6 15)) := pj_xt q119_94 rfl (pj_cl_nc rfl) (s119_94)
theorem q119_97 : pj_row 119 97 = some (.imul, 1, 0, 0, 0) := by decide +kernel
theorem s119_97 {L : pj_Loc} {st : List Value} {M : pj_Mem} {x y : Int32} : pj_step 119 (97, L, .int y :: .int x :: st, M) = some (98, L, .int (x * y) :: st, M) := st_imul q119_97
theorem x119_97 {L : pj_Loc} {st : List Value} {M : pj_Mem} {x y : Int32} {o9 : Option Value × pj_Mem} : pj_Ends 119 (97, L, .int y :: .int x :: st, M) o9 = pj_Ends 119 (98, L, .int (x * y) :: st, M) o9 := pj_xs (s119_97)
theorem q119_98 : pj_row 119 98 = some (.aload_n 0, 1, 0, 0, 0) := by decide +kernel
theorem s119_98 {st : List Value} {M : pj_Mem} {l : pj_Loc} {x : Nat} : pj_step 119 (98, some (.ref x) :: l, st, M) = some (99, some (.ref x) :: l, .ref x :: st, M) := st_aload_n q119_98 rfl
theorem x119_98 {st : List Value} {M : pj_Mem} {l : pj_Loc} {x : Nat} {o9 : Option Value × pj_Mem} : pj_Ends 119 (98, some (.ref x) :: l, st, M) o9 = pj_Ends 119 (99, some (.ref x) :: l, .ref x :: st, M) o9 := pj_xs (s119_98)
theorem q119_99 : pj_row 119 99 = some (.getfield 31, 3, 6, 12, 0) := by decide +kernel
theorem s119_99 {L : pj_Loc} {st : List Value} {N S : Nat} {H : pj_Heap} {o : Nat} : pj_step 119 (99, L, .ref o :: st, (N, S, H)) = pj_pv 102 L st (N, S, H) (pj_fld (H o) 6 12) := st_getfield q119_99
theorem x119_99 {L : pj_Loc} {st : List Value} {N S : Nat} {H : pj_Heap} {o : Nat} {o9 : Option Value × pj_Mem} : pj_Ends 119 (99, L, .ref o :: st, (N, S, H)) o9 = pj_then 119 o9 (pj_pv 102 L st (N, S, H) (pj_fld (H o) 6 12)) := pj_xt q119_99 rfl (pj_cl_nc rfl) (s119_99)
theorem q119_102 : pj_row 119 102 = some (.aload_n 0, 1, 0, 0, 0) := by decide +kernel
theorem s119_102 {st : List Value} {M : pj_Mem} {l : pj_Loc} {x : Nat} : pj_step 119 (102, some (.ref x) :: l, st, M) = some (103, some (.ref x) :: l, .ref x :: st, M) := st_aload_n q119_102 rfl
theorem x119_102 {st : List Value} {M : pj_Mem} {l : pj_Loc} {x : Nat} {o9 : Option Value × pj_Mem} : pj_Ends 119 (102, some (.ref x) :: l, st, M) o9 = pj_Ends 119 (103, some (.ref x) :: l, .ref x :: st, M) o9 := pj_xs (s119_102)
theorem q119_103 : pj_row 119 103 = some (.getfield 170, 3, 6, 14, 0) := by decide +kernel
theorem s119_103 {L : pj_Loc} {st : List Value} {N S : Nat} {H : pj_Heap} {o : Nat} : pj_step 119 (103, L, .ref o :: st, (N, S, H)) = pj_pv 106 L st (N, S, H) (pj_fld (H o) 6 14) := st_getfield q119_103
theorem x119_103 {L : pj_Loc} {st : List Value} {N S : Nat} {H : pj_Heap} {o : Nat} {o9 : Option Value × pj_Mem} : pj_Ends 119 (103, L, .ref o :: st, (N, S, H)) o9 = pj_then 119 o9 (pj_pv 106 L st (N, S, H) (pj_fld (H o) 6 14)) := pj_xt q119_103 rfl (pj_cl_nc rfl) (s119_103)
theorem q119_106 : pj_row 119 106 = some (.iaload, 1, 0, 0, 0) := by decide +kernel
theorem s119_106 {L : pj_Loc} {st : List Value} {N S : Nat} {H : pj_Heap} {o : Nat} {i : Int32} : pj_step 119 (106, L, .int i :: .ref o :: st, (N, S, H)) = pj_pi 107 L st (N, S, H) (pj_arl (H o) 0 i) := st_iaload q119_106
theorem x119_106 {L : pj_Loc} {st : List Value} {N S : Nat} {H : pj_Heap} {o : Nat} {i : Int32} {o9 : Option Value × pj_Mem} : pj_Ends 119 (106, L, .int i :: .ref o :: st, (N, S, H)) o9 = pj_then 119 o9 (pj_pi 107 L st (N, S, H) (pj_arl (H o) 0 i)) := pj_xt q119_106 rfl (pj_cl_nc rfl) (s119_106)
theorem q119_107 : pj_row 119 107 = some (.iadd, 1, 0, 0, 0) := by decide +kernel
theorem s119_107 {L : pj_Loc} {st : List Value} {M : pj_Mem} {x y : Int32} : pj_step 119 (107, L, .int y :: .int x :: st, M) = some (108, L, .int (x + y) :: st, M) := st_iadd q119_107
theorem x119_107 {L : pj_Loc} {st : List Value} {M : pj_Mem} {x y : Int32} {o9 : Option Value × pj_Mem} : pj_Ends 119 (107, L, .int y :: .int x :: st, M) o9 = pj_Ends 119 (108, L, .int (x + y) :: st, M) o9 := pj_xs (s119_107)
theorem q119_108 : pj_row 119 108 = some (.bipush 48, 2, 0, 0, 0) := by decide +kernel
theorem s119_108 {L : pj_Loc} {st : List Value} {M : pj_Mem}  : pj_step 119 (108, L, st, M) = some (110, L, .int 48 :: st, M) := st_bipush q119_108 (by decide +kernel)
theorem x119_108 {L : pj_Loc} {st : List Value} {M : pj_Mem}  {o9 : Option Value × pj_Mem} : pj_Ends 119 (108, L, st, M) o9 = pj_Ends 119 (110, L, .int 48 :: st, M) o9 := pj_xs (s119_108)
theorem q119_110 : pj_row 119 110 = some (.isub, 1, 0, 0, 0) := by decide +kernel
theorem s119_110 {L : pj_Loc} {st : List Value} {M : pj_Mem} {x y : Int32} : pj_step 119 (110, L, .int y :: .int x :: st, M) = some (111, L, .int (x - y) :: st, M) := st_isub q119_110
theorem x119_110 {L : pj_Loc} {st : List Value} {M : pj_Mem} {x y : Int32} {o9 : Option Value × pj_Mem} : pj_Ends 119 (110, L, .int y :: .int x :: st, M) o9 = pj_Ends 119 (111, L, .int (x - y) :: st, M) o9 := pj_xs (s119_110)
theorem q119_111 : pj_row 119 111 = some (.putfield 179, 3, 6, 15, 0) := by decide +kernel
theorem s119_111 {L : pj_Loc} {st : List Value} {N S : Nat} {H : pj_Heap} {o : Nat} {v : Value} : pj_step 119 (111, L, v :: .ref o :: st, (N, S, H)) = pj_set 114 L st (N, S, H) o (pj_fset (H o) 6 15 v) := st_putfield q119_111
theorem x119_111 {L : pj_Loc} {st : List Value} {N S : Nat} {H : pj_Heap} {o : Nat} {v : Value} {o9 : Option Value × pj_Mem} : pj_Ends 119 (111, L, v :: .ref o :: st, (N, S, H)) o9 = pj_then 119 o9 (pj_set 114 L st (N, S, H) o (pj_fset (H o) 6 15 v)) := pj_xt q119_111 rfl (pj_cl_nc rfl) (s119_111)
theorem q119_114 : pj_row 119 114 = some (.aload_n 0, 1, 0, 0, 0) := by decide +kernel
theorem s119_114 {st : List Value} {M : pj_Mem} {l : pj_Loc} {x : Nat} : pj_step 119 (114, some (.ref x) :: l, st, M) = some (115, some (.ref x) :: l, .ref x :: st, M) := st_aload_n q119_114 rfl
theorem x119_114 {st : List Value} {M : pj_Mem} {l : pj_Loc} {x : Nat} {o9 : Option Value × pj_Mem} : pj_Ends 119 (114, some (.ref x) :: l, st, M) o9 = pj_Ends 119 (115, some (.ref x) :: l, .ref x :: st, M) o9 := pj_xs (s119_114)
theorem q119_115 : pj_row 119 115 = some (.dup, 1, 0, 0, 0) := by decide +kernel
theorem s119_115 {L : pj_Loc} {st : List Value} {M : pj_Mem} {x : Nat} : pj_step 119 (115, L, .ref x :: st, M) = some (116, L, .ref x :: .ref x :: st, M) := st_dup_ref q119_115
theorem x119_115 {L : pj_Loc} {st : List Value} {M : pj_Mem} {x : Nat} {o9 : Option Value × pj_Mem} : pj_Ends 119 (115, L, .ref x :: st, M) o9 = pj_Ends 119 (116, L, .ref x :: .ref x :: st, M) o9 := pj_xs (s119_115)
theorem s119_115i {L : pj_Loc} {st : List Value} {M : pj_Mem} {x : Int32} : pj_step 119 (115, L, .int x :: st, M) = some (116, L, .int x :: .int x :: st, M) := st_dup_int q119_115
theorem x119_115i {L : pj_Loc} {st : List Value} {M : pj_Mem} {x : Int32} {o9 : Option Value × pj_Mem} : pj_Ends 119 (115, L, .int x :: st, M) o9 = pj_Ends 119 (116, L, .int x :: .int x :: st, M) o9 := pj_xs (s119_115i)
theorem q119_116 : pj_row 119 116 = some (.getfield 170, 3, 6, 14, 0) := by decide +kernel
theorem s119_116 {L : pj_Loc} {st : List Value} {N S : Nat} {H : pj_Heap} {o : Nat} : pj_step 119 (116, L, .ref o :: st, (N, S, H)) = pj_pv 119 L st (N, S, H) (pj_fld (H o) 6 14) := st_getfield q119_116
theorem x119_116 {L : pj_Loc} {st : List Value} {N S : Nat} {H : pj_Heap} {o : Nat} {o9 : Option Value × pj_Mem} : pj_Ends 119 (116, L, .ref o :: st, (N, S, H)) o9 = pj_then 119 o9 (pj_pv 119 L st (N, S, H) (pj_fld (H o) 6 14)) := pj_xt q119_116 rfl (pj_cl_nc rfl) (s119_116)
theorem q119_119 : pj_row 119 119 = some (.iconst 1, 1, 0, 0, 0) := by decide +kernel
theorem s119_119 {L : pj_Loc} {st : List Value} {M : pj_Mem}  : pj_step 119 (119, L, st, M) = some (120, L, .int 1 :: st, M) := st_iconst q119_119 (by decide +kernel)
theorem x119_119 {L : pj_Loc} {st : List Value} {M : pj_Mem}  {o9 : Option Value × pj_Mem} : pj_Ends 119 (119, L, st, M) o9 = pj_Ends 119 (120, L, .int 1 :: st, M) o9 := pj_xs (s119_119)
theorem q119_120 : pj_row 119 120 = some (.iadd, 1, 0, 0, 0) := by decide +kernel
theorem s119_120 {L : pj_Loc} {st : List Value} {M : pj_Mem} {x y : Int32} : pj_step 119 (120, L, .int y :: .int x :: st, M) = some (121, L, .int (x + y) :: st, M) := st_iadd q119_120
theorem x119_120 {L : pj_Loc} {st : List Value} {M : pj_Mem} {x y : Int32} {o9 : Option Value × pj_Mem} : pj_Ends 119 (120, L, .int y :: .int x :: st, M) o9 = pj_Ends 119 (121, L, .int (x + y) :: st, M) o9 := pj_xs (s119_120)
theorem q119_121 : pj_row 119 121 = some (.putfield 170, 3, 6, 14, 0) := by decide +kernel
theorem s119_121 {L : pj_Loc} {st : List Value} {N S : Nat} {H : pj_Heap} {o : Nat} {v : Value} : pj_step 119 (121, L, v :: .ref o :: st, (N, S, H)) = pj_set 124 L st (N, S, H) o (pj_fset (H o) 6 14 v) := st_putfield q119_121
theorem x119_121 {L : pj_Loc} {st : List Value} {N S : Nat} {H : pj_Heap} {o : Nat} {v : Value} {o9 : Option Value × pj_Mem} : pj_Ends 119 (121, L, v :: .ref o :: st, (N, S, H)) o9 = pj_then 119 o9 (pj_set 124 L st (N, S, H) o (pj_fset (H o) 6 14 v)) := pj_xt q119_121 rfl (pj_cl_nc rfl) (s119_121)
theorem q119_124 : pj_row 119 124 = some (.goto (-78), 3, 46, 0, 0) := by decide +kernel
theorem s119_124 {L : pj_Loc} {st : List Value} {M : pj_Mem}  : pj_step 119 (124, L, st, M) = some (46, L, st, M) := st_goto q119_124
theorem x119_124 {L : pj_Loc} {st : List Value} {M : pj_Mem}  {o9 : Option Value × pj_Mem} : pj_Ends 119 (124, L, st, M) o9 = pj_Ends 119 (46, L, st, M) o9 := pj_xs (s119_124)
theorem q119_127 : pj_row 119 127 = some (.aload_n 0, 1, 0, 0, 0) := by decide +kernel
theorem s119_127 {st : List Value} {M : pj_Mem} {l : pj_Loc} {x : Nat} : pj_step 119 (127, some (.ref x) :: l, st, M) = some (128, some (.ref x) :: l, .ref x :: st, M) := st_aload_n q119_127 rfl
theorem x119_127 {st : List Value} {M : pj_Mem} {l : pj_Loc} {x : Nat} {o9 : Option Value × pj_Mem} : pj_Ends 119 (127, some (.ref x) :: l, st, M) o9 = pj_Ends 119 (128, some (.ref x) :: l, .ref x :: st, M) o9 := pj_xs (s119_127)
theorem q119_128 : pj_row 119 128 = some (.iload_n 1, 1, 0, 0, 0) := by decide +kernel
theorem s119_128 {st : List Value} {M : pj_Mem} {l : pj_Loc} {a0 : Option Value} {x : Int32} : pj_step 119 (128, a0 :: some (.int x) :: l, st, M) = some (129, a0 :: some (.int x) :: l, .int x :: st, M) := st_iload_n q119_128 rfl
theorem x119_128 {st : List Value} {M : pj_Mem} {l : pj_Loc} {a0 : Option Value} {x : Int32} {o9 : Option Value × pj_Mem} : pj_Ends 119 (128, a0 :: some (.int x) :: l, st, M) o9 = pj_Ends 119 (129, a0 :: some (.int x) :: l, .int x :: st, M) o9 := pj_xs (s119_128)
theorem q119_129 : pj_row 119 129 = some (.ifCond .eq 11, 3, 140, 0, 0) := by decide +kernel
theorem s119_129 {L : pj_Loc} {st : List Value} {M : pj_Mem} {x : Int32} : pj_step 119 (129, L, .int x :: st, M) = some (if x = 0 then 140 else 132, L, st, M) := st_if_eq q119_129
theorem x119_129 {L : pj_Loc} {st : List Value} {M : pj_Mem} {x : Int32} {o9 : Option Value × pj_Mem} : pj_Ends 119 (129, L, .int x :: st, M) o9 = pj_Ends 119 (if x = 0 then 140 else 132, L, st, M) o9 := pj_xs (s119_129)
theorem q119_132 : pj_row 119 132 = some (.aload_n 0, 1, 0, 0, 0) := by decide +kernel
theorem s119_132 {st : List Value} {M : pj_Mem} {l : pj_Loc} {x : Nat} : pj_step 119 (132, some (.ref x) :: l, st, M) = some (133, some (.ref x) :: l, .ref x :: st, M) := st_aload_n q119_132 rfl
theorem x119_132 {st : List Value} {M : pj_Mem} {l : pj_Loc} {x : Nat} {o9 : Option Value × pj_Mem} : pj_Ends 119 (132, some (.ref x) :: l, st, M) o9 = pj_Ends 119 (133, some (.ref x) :: l, .ref x :: st, M) o9 := pj_xs (s119_132)
theorem q119_133 : pj_row 119 133 = some (.getfield 179, 3, 6, 15, 0) := by decide +kernel
theorem s119_133 {L : pj_Loc} {st : List Value} {N S : Nat} {H : pj_Heap} {o : Nat} : pj_step 119 (133, L, .ref o :: st, (N, S, H)) = pj_pv 136 L st (N, S, H) (pj_fld (H o) 6 15) := st_getfield q119_133
theorem x119_133 {L : pj_Loc} {st : List Value} {N S : Nat} {H : pj_Heap} {o : Nat} {o9 : Option Value × pj_Mem} : pj_Ends 119 (133, L, .ref o :: st, (N, S, H)) o9 = pj_then 119 o9 (pj_pv 136 L st (N, S, H) (pj_fld (H o) 6 15)) := pj_xt q119_133 rfl (pj_cl_nc rfl) (s119_133)
theorem q119_136 : pj_row 119 136 = some (.ineg, 1, 0, 0, 0) := by decide +kernel
theorem s119_136 {L : pj_Loc} {st : List Value} {M : pj_Mem} {x : Int32} : pj_step 119 (136, L, .int x :: st, M) = some (137, L, .int (-x) :: st, M) := st_ineg q119_136
theorem x119_136 {L : pj_Loc} {st : List Value} {M : pj_Mem} {x : Int32} {o9 : Option Value × pj_Mem} : pj_Ends 119 (136, L, .int x :: st, M) o9 = pj_Ends 119 (137, L, .int (-x) :: st, M) o9 := pj_xs (s119_136)
theorem q119_137 : pj_row 119 137 = some (.goto 7, 3, 144, 0, 0) := by decide +kernel
theorem s119_137 {L : pj_Loc} {st : List Value} {M : pj_Mem}  : pj_step 119 (137, L, st, M) = some (144, L, st, M) := st_goto q119_137
theorem x119_137 {L : pj_Loc} {st : List Value} {M : pj_Mem}  {o9 : Option Value × pj_Mem} : pj_Ends 119 (137, L, st, M) o9 = pj_Ends 119 (144, L, st, M) o9 := pj_xs (s119_137)
theorem q119_140 : pj_row 119 140 = some (.aload_n 0, 1, 0, 0, 0) := by decide +kernel
theorem s119_140 {st : List Value} {M : pj_Mem} {l : pj_Loc} {x : Nat} : pj_step 119 (140, some (.ref x) :: l, st, M) = some (141, some (.ref x) :: l, .ref x :: st, M) := st_aload_n q119_140 rfl
theorem x119_140 {st : List Value} {M : pj_Mem} {l : pj_Loc} {x : Nat} {o9 : Option Value × pj_Mem} : pj_Ends 119 (140, some (.ref x) :: l, st, M) o9 = pj_Ends 119 (141, some (.ref x) :: l, .ref x :: st, M) o9 := pj_xs (s119_140)
theorem q119_141 : pj_row 119 141 = some (.getfield 179, 3, 6, 15, 0) := by decide +kernel
theorem s119_141 {L : pj_Loc} {st : List Value} {N S : Nat} {H : pj_Heap} {o : Nat} : pj_step 119 (141, L, .ref o :: st, (N, S, H)) = pj_pv 144 L st (N, S, H) (pj_fld (H o) 6 15) := st_getfield q119_141
theorem x119_141 {L : pj_Loc} {st : List Value} {N S : Nat} {H : pj_Heap} {o : Nat} {o9 : Option Value × pj_Mem} : pj_Ends 119 (141, L, .ref o :: st, (N, S, H)) o9 = pj_then 119 o9 (pj_pv 144 L st (N, S, H) (pj_fld (H o) 6 15)) := pj_xt q119_141 rfl (pj_cl_nc rfl) (s119_141)
theorem q119_144 : pj_row 119 144 = some (.putfield 179, 3, 6, 15, 0) := by decide +kernel
theorem s119_144 {L : pj_Loc} {st : List Value} {N S : Nat} {H : pj_Heap} {o : Nat} {v : Value} : pj_step 119 (144, L, v :: .ref o :: st, (N, S, H)) = pj_set 147 L st (N, S, H) o (pj_fset (H o) 6 15 v) := st_putfield q119_144
theorem x119_144 {L : pj_Loc} {st : List Value} {N S : Nat} {H : pj_Heap} {o : Nat} {v : Value} {o9 : Option Value × pj_Mem} : pj_Ends 119 (144, L, v :: .ref o :: st, (N, S, H)) o9 = pj_then 119 o9 (pj_set 147 L st (N, S, H) o (pj_fset (H o) 6 15 v)) := pj_xt q119_144 rfl (pj_cl_nc rfl) (s119_144)
theorem q119_147 : pj_row 119 147 = some (.iconst 1, 1, 0, 0, 0) := by decide +kernel
theorem s119_147 {L : pj_Loc} {st : List Value} {M : pj_Mem}  : pj_step 119 (147, L, st, M) = some (148, L, .int 1 :: st, M) := st_iconst q119_147 (by decide +kernel)
theorem x119_147 {L : pj_Loc} {st : List Value} {M : pj_Mem}  {o9 : Option Value × pj_Mem} : pj_Ends 119 (147, L, st, M) o9 = pj_Ends 119 (148, L, .int 1 :: st, M) o9 := pj_xs (s119_147)
theorem q119_148 : pj_row 119 148 = some (.ireturn, 1, 0, 0, 0) := by decide +kernel
theorem t119_148 {L : pj_Loc} {M : pj_Mem} {v : Int32} (hv : v = 0 ∨ v = 1) : pj_Ends 119 (148, L, [.int v], M) (some (.int v), M) := pj_Ends.ret q119_148 (pj_rtn_z rt119 hv)
theorem rt120 : pj_rt 120 = some .int := rfl
theorem q120_0 : pj_row 120 0 = some (.aload_n 0, 1, 0, 0, 0) := by decide +kernel
theorem s120_0 {st : List Value} {M : pj_Mem} {l : pj_Loc} {x : Nat} : pj_step 120 (0, some (.ref x) :: l, st, M) = some (1, some (.ref x) :: l, .ref x :: st, M) := st_aload_n q120_0 rfl
theorem x120_0 {st : List Value} {M : pj_Mem} {l : pj_Loc} {x : Nat} {o9 : Option Value × pj_Mem} : pj_Ends 120 (0, some (.ref x) :: l, st, M) o9 = pj_Ends 120 (1, some (.ref x) :: l, .ref x :: st, M) o9 := pj_xs (s120_0)
theorem q120_1 : pj_row 120 1 = some (.invokevirtual 195, 3, 115, 1, 0) := by decide +kernel
theorem e120_1 {L : pj_Loc} {st : List Value} {N S : Nat} {H : pj_Heap} {o : Option Value × pj_Mem} {M' : pj_Mem} {x0 : Nat} {r : Int32} (h4 : pj_le4 st = true) (hu : pj_isU 6 (H x0) = true) (h1 : pj_Ends 115 (0, [some (.ref x0), none], [], (N, S, H)) (some (.int r), M')) (h2 : pj_Ends 120 (4, L, .int r :: st, M') o) : pj_Ends 120 (1, L, .ref x0 :: st, (N, S, H)) o := ec_v1 q120_1 (Or.inl rfl) h4 hu rfl h1 h2
theorem q120_4 : pj_row 120 4 = some (.bipush (-6), 2, 0, 0, 0) := by decide +kernel
theorem s120_4 {L : pj_Loc} {st : List Value} {M : pj_Mem}  : pj_step 120 (4, L, st, M) = some (6, L, .int (-6) :: st, M) := st_bipush q120_4 (by decide +kernel)
theorem x120_4 {L : pj_Loc} {st : List Value} {M : pj_Mem}  {o9 : Option Value × pj_Mem} : pj_Ends 120 (4, L, st, M) o9 = pj_Ends 120 (6, L, .int (-6) :: st, M) o9 := pj_xs (s120_4)
theorem q120_6 : pj_row 120 6 = some (.if_icmp .eq 6, 3, 12, 0, 0) := by decide +kernel
theorem s120_6 {L : pj_Loc} {st : List Value} {M : pj_Mem} {x y : Int32} : pj_step 120 (6, L, .int y :: .int x :: st, M) = some (if x = y then 12 else 9, L, st, M) := st_icmp_eq q120_6
theorem x120_6 {L : pj_Loc} {st : List Value} {M : pj_Mem} {x y : Int32} {o9 : Option Value × pj_Mem} : pj_Ends 120 (6, L, .int y :: .int x :: st, M) o9 = pj_Ends 120 (if x = y then 12 else 9, L, st, M) o9 := pj_xs (s120_6)
theorem q120_9 : pj_row 120 9 = some (.bipush (-3), 2, 0, 0, 0) := by decide +kernel
theorem s120_9 {L : pj_Loc} {st : List Value} {M : pj_Mem}  : pj_step 120 (9, L, st, M) = some (11, L, .int (-3) :: st, M) := st_bipush q120_9 (by decide +kernel)
theorem x120_9 {L : pj_Loc} {st : List Value} {M : pj_Mem}  {o9 : Option Value × pj_Mem} : pj_Ends 120 (9, L, st, M) o9 = pj_Ends 120 (11, L, .int (-3) :: st, M) o9 := pj_xs (s120_9)
theorem q120_11 : pj_row 120 11 = some (.ireturn, 1, 0, 0, 0) := by decide +kernel
theorem t120_11 {L : pj_Loc} {M : pj_Mem} {v : Int32} : pj_Ends 120 (11, L, [.int v], M) (some (.int v), M) := pj_Ends.ret q120_11 (pj_rtn_i rt120)
theorem q120_12 : pj_row 120 12 = some (.aload_n 0, 1, 0, 0, 0) := by decide +kernel
theorem s120_12 {st : List Value} {M : pj_Mem} {l : pj_Loc} {x : Nat} : pj_step 120 (12, some (.ref x) :: l, st, M) = some (13, some (.ref x) :: l, .ref x :: st, M) := st_aload_n q120_12 rfl
theorem x120_12 {st : List Value} {M : pj_Mem} {l : pj_Loc} {x : Nat} {o9 : Option Value × pj_Mem} : pj_Ends 120 (12, some (.ref x) :: l, st, M) o9 = pj_Ends 120 (13, some (.ref x) :: l, .ref x :: st, M) o9 := pj_xs (s120_12)
theorem q120_13 : pj_row 120 13 = some (.getfield 7, 3, 6, 0, 0) := by decide +kernel
theorem s120_13 {L : pj_Loc} {st : List Value} {N S : Nat} {H : pj_Heap} {o : Nat} : pj_step 120 (13, L, .ref o :: st, (N, S, H)) = pj_pv 16 L st (N, S, H) (pj_fld (H o) 6 0) := st_getfield q120_13
theorem x120_13 {L : pj_Loc} {st : List Value} {N S : Nat} {H : pj_Heap} {o : Nat} {o9 : Option Value × pj_Mem} : pj_Ends 120 (13, L, .ref o :: st, (N, S, H)) o9 = pj_then 120 o9 (pj_pv 16 L st (N, S, H) (pj_fld (H o) 6 0)) := pj_xt q120_13 rfl (pj_cl_nc rfl) (s120_13)
theorem q120_16 : pj_row 120 16 = some (.bipush 6, 2, 0, 0, 0) := by decide +kernel
theorem s120_16 {L : pj_Loc} {st : List Value} {M : pj_Mem}  : pj_step 120 (16, L, st, M) = some (18, L, .int 6 :: st, M) := st_bipush q120_16 (by decide +kernel)
theorem x120_16 {L : pj_Loc} {st : List Value} {M : pj_Mem}  {o9 : Option Value × pj_Mem} : pj_Ends 120 (16, L, st, M) o9 = pj_Ends 120 (18, L, .int 6 :: st, M) o9 := pj_xs (s120_16)
theorem q120_18 : pj_row 120 18 = some (.iaload, 1, 0, 0, 0) := by decide +kernel
theorem s120_18 {L : pj_Loc} {st : List Value} {N S : Nat} {H : pj_Heap} {o : Nat} {i : Int32} : pj_step 120 (18, L, .int i :: .ref o :: st, (N, S, H)) = pj_pi 19 L st (N, S, H) (pj_arl (H o) 0 i) := st_iaload q120_18
theorem x120_18 {L : pj_Loc} {st : List Value} {N S : Nat} {H : pj_Heap} {o : Nat} {i : Int32} {o9 : Option Value × pj_Mem} : pj_Ends 120 (18, L, .int i :: .ref o :: st, (N, S, H)) o9 = pj_then 120 o9 (pj_pi 19 L st (N, S, H) (pj_arl (H o) 0 i)) := pj_xt q120_18 rfl (pj_cl_nc rfl) (s120_18)
theorem q120_19 : pj_row 120 19 = some (.aload_n 0, 1, 0, 0, 0) := by decide +kernel
theorem s120_19 {st : List Value} {M : pj_Mem} {l : pj_Loc} {x : Nat} : pj_step 120 (19, some (.ref x) :: l, st, M) = some (20, some (.ref x) :: l, .ref x :: st, M) := st_aload_n q120_19 rfl
theorem x120_19 {st : List Value} {M : pj_Mem} {l : pj_Loc} {x : Nat} {o9 : Option Value × pj_Mem} : pj_Ends 120 (19, some (.ref x) :: l, st, M) o9 = pj_Ends 120 (20, some (.ref x) :: l, .ref x :: st, M) o9 := pj_xs (s120_19)
theorem q120_20 : pj_row 120 20 = some (.getfield 189, 3, 6, 17, 0) := by decide +kernel
theorem s120_20 {L : pj_Loc} {st : List Value} {N S : Nat} {H : pj_Heap} {o : Nat} : pj_step 120 (20, L, .ref o :: st, (N, S, H)) = pj_pv 23 L st (N, S, H) (pj_fld (H o) 6 17) := st_getfield q120_20
theorem x120_20 {L : pj_Loc} {st : List Value} {N S : Nat} {H : pj_Heap} {o : Nat} {o9 : Option Value × pj_Mem} : pj_Ends 120 (20, L, .ref o :: st, (N, S, H)) o9 = pj_then 120 o9 (pj_pv 23 L st (N, S, H) (pj_fld (H o) 6 17)) := pj_xt q120_20 rfl (pj_cl_nc rfl) (s120_20)
theorem q120_23 : pj_row 120 23 = some (.iadd, 1, 0, 0, 0) := by decide +kernel
theorem s120_23 {L : pj_Loc} {st : List Value} {M : pj_Mem} {x y : Int32} : pj_step 120 (23, L, .int y :: .int x :: st, M) = some (24, L, .int (x + y) :: st, M) := st_iadd q120_23
theorem x120_23 {L : pj_Loc} {st : List Value} {M : pj_Mem} {x y : Int32} {o9 : Option Value × pj_Mem} : pj_Ends 120 (23, L, .int y :: .int x :: st, M) o9 = pj_Ends 120 (24, L, .int (x + y) :: st, M) o9 := pj_xs (s120_23)
theorem q120_24 : pj_row 120 24 = some (.ldc 81, 2, 0, 0, 100000) := by decide +kernel
theorem s120_24 {L : pj_Loc} {st : List Value} {M : pj_Mem}  : pj_step 120 (24, L, st, M) = some (26, L, .int 100000 :: st, M) := st_ldc q120_24 (by decide +kernel)
theorem x120_24 {L : pj_Loc} {st : List Value} {M : pj_Mem}  {o9 : Option Value × pj_Mem} : pj_Ends 120 (24, L, st, M) o9 = pj_Ends 120 (26, L, .int 100000 :: st, M) o9 := pj_xs (s120_24)
theorem q120_26 : pj_row 120 26 = some (.if_icmp .le 6, 3, 32, 0, 0) := by decide +kernel
theorem s120_26 {L : pj_Loc} {st : List Value} {M : pj_Mem} {x y : Int32} : pj_step 120 (26, L, .int y :: .int x :: st, M) = some (if x ≤ y then 32 else 29, L, st, M) := st_icmp_le q120_26
theorem x120_26 {L : pj_Loc} {st : List Value} {M : pj_Mem} {x y : Int32} {o9 : Option Value × pj_Mem} : pj_Ends 120 (26, L, .int y :: .int x :: st, M) o9 = pj_Ends 120 (if x ≤ y then 32 else 29, L, st, M) o9 := pj_xs (s120_26)
theorem q120_29 : pj_row 120 29 = some (.bipush (-4), 2, 0, 0, 0) := by decide +kernel
theorem s120_29 {L : pj_Loc} {st : List Value} {M : pj_Mem}  : pj_step 120 (29, L, st, M) = some (31, L, .int (-4) :: st, M) := st_bipush q120_29 (by decide +kernel)
theorem x120_29 {L : pj_Loc} {st : List Value} {M : pj_Mem}  {o9 : Option Value × pj_Mem} : pj_Ends 120 (29, L, st, M) o9 = pj_Ends 120 (31, L, .int (-4) :: st, M) o9 := pj_xs (s120_29)
theorem q120_31 : pj_row 120 31 = some (.ireturn, 1, 0, 0, 0) := by decide +kernel
theorem t120_31 {L : pj_Loc} {M : pj_Mem} {v : Int32} : pj_Ends 120 (31, L, [.int v], M) (some (.int v), M) := pj_Ends.ret q120_31 (pj_rtn_i rt120)
theorem q120_32 : pj_row 120 32 = some (.aload_n 0, 1, 0, 0, 0) := by decide +kernel
theorem s120_32 {st : List Value} {M : pj_Mem} {l : pj_Loc} {x : Nat} : pj_step 120 (32, some (.ref x) :: l, st, M) = some (33, some (.ref x) :: l, .ref x :: st, M) := st_aload_n q120_32 rfl
theorem x120_32 {st : List Value} {M : pj_Mem} {l : pj_Loc} {x : Nat} {o9 : Option Value × pj_Mem} : pj_Ends 120 (32, some (.ref x) :: l, st, M) o9 = pj_Ends 120 (33, some (.ref x) :: l, .ref x :: st, M) o9 := pj_xs (s120_32)
theorem q120_33 : pj_row 120 33 = some (.invokevirtual 121, 3, 78, 1, 0) := by decide +kernel
theorem e120_33 {L : pj_Loc} {st : List Value} {N S : Nat} {H : pj_Heap} {o : Option Value × pj_Mem} {M' : pj_Mem} {x0 : Nat} (h4 : pj_le4 st = true) (hu : pj_isU 6 (H x0) = true) (h1 : pj_Ends 78 (0, [some (.ref x0), none], [], (N, S, H)) (none, M')) (h2 : pj_Ends 120 (36, L, st, M') o) : pj_Ends 120 (33, L, .ref x0 :: st, (N, S, H)) o := ec_v1 q120_33 (Or.inl rfl) h4 hu rfl h1 h2
theorem q120_36 : pj_row 120 36 = some (.aload_n 0, 1, 0, 0, 0) := by decide +kernel
theorem s120_36 {st : List Value} {M : pj_Mem} {l : pj_Loc} {x : Nat} : pj_step 120 (36, some (.ref x) :: l, st, M) = some (37, some (.ref x) :: l, .ref x :: st, M) := st_aload_n q120_36 rfl
theorem x120_36 {st : List Value} {M : pj_Mem} {l : pj_Loc} {x : Nat} {o9 : Option Value × pj_Mem} : pj_Ends 120 (36, some (.ref x) :: l, st, M) o9 = pj_Ends 120 (37, some (.ref x) :: l, .ref x :: st, M) o9 := pj_xs (s120_36)
theorem q120_37 : pj_row 120 37 = some (.iconst 0, 1, 0, 0, 0) := by decide +kernel
theorem s120_37 {L : pj_Loc} {st : List Value} {M : pj_Mem}  : pj_step 120 (37, L, st, M) = some (38, L, .int 0 :: st, M) := st_iconst q120_37 (by decide +kernel)
theorem x120_37 {L : pj_Loc} {st : List Value} {M : pj_Mem}  {o9 : Option Value × pj_Mem} : pj_Ends 120 (37, L, st, M) o9 = pj_Ends 120 (38, L, .int 0 :: st, M) o9 := pj_xs (s120_37)
theorem q120_38 : pj_row 120 38 = some (.putfield 170, 3, 6, 14, 0) := by decide +kernel
theorem s120_38 {L : pj_Loc} {st : List Value} {N S : Nat} {H : pj_Heap} {o : Nat} {v : Value} : pj_step 120 (38, L, v :: .ref o :: st, (N, S, H)) = pj_set 41 L st (N, S, H) o (pj_fset (H o) 6 14 v) := st_putfield q120_38
theorem x120_38 {L : pj_Loc} {st : List Value} {N S : Nat} {H : pj_Heap} {o : Nat} {v : Value} {o9 : Option Value × pj_Mem} : pj_Ends 120 (38, L, v :: .ref o :: st, (N, S, H)) o9 = pj_then 120 o9 (pj_set 41 L st (N, S, H) o (pj_fset (H o) 6 14 v)) := pj_xt q120_38 rfl (pj_cl_nc rfl) (s120_38)
theorem q120_41 : pj_row 120 41 = some (.iconst 0, 1, 0, 0, 0) := by decide +kernel
theorem s120_41 {L : pj_Loc} {st : List Value} {M : pj_Mem}  : pj_step 120 (41, L, st, M) = some (42, L, .int 0 :: st, M) := st_iconst q120_41 (by decide +kernel)
theorem x120_41 {L : pj_Loc} {st : List Value} {M : pj_Mem}  {o9 : Option Value × pj_Mem} : pj_Ends 120 (41, L, st, M) o9 = pj_Ends 120 (42, L, .int 0 :: st, M) o9 := pj_xs (s120_41)
theorem q120_42 : pj_row 120 42 = some (.istore_n 1, 1, 0, 0, 0) := by decide +kernel
theorem s120_42 {st : List Value} {M : pj_Mem} {l : pj_Loc} {a0 a1 : Option Value} {x : Int32} (h : pj_long a0 = false) : pj_step 120 (42, a0 :: a1 :: l, .int x :: st, M) = some (43, a0 :: some (.int x) :: l, st, M) := st_istore_n q120_42 (pj_st_1 h)
theorem x120_42 {st : List Value} {M : pj_Mem} {l : pj_Loc} {a0 a1 : Option Value} {x : Int32} (h : pj_long a0 = false) {o9 : Option Value × pj_Mem} : pj_Ends 120 (42, a0 :: a1 :: l, .int x :: st, M) o9 = pj_Ends 120 (43, a0 :: some (.int x) :: l, st, M) o9 := pj_xs (s120_42 h)
theorem q120_43 : pj_row 120 43 = some (.iconst 1, 1, 0, 0, 0) := by decide +kernel
theorem s120_43 {L : pj_Loc} {st : List Value} {M : pj_Mem}  : pj_step 120 (43, L, st, M) = some (44, L, .int 1 :: st, M) := st_iconst q120_43 (by decide +kernel)
theorem x120_43 {L : pj_Loc} {st : List Value} {M : pj_Mem}  {o9 : Option Value × pj_Mem} : pj_Ends 120 (43, L, st, M) o9 = pj_Ends 120 (44, L, .int 1 :: st, M) o9 := pj_xs (s120_43)
theorem q120_44 : pj_row 120 44 = some (.istore_n 2, 1, 0, 0, 0) := by decide +kernel
theorem s120_44 {st : List Value} {M : pj_Mem} {l : pj_Loc} {a0 a1 a2 : Option Value} {x : Int32} (h : pj_long a1 = false) : pj_step 120 (44, a0 :: a1 :: a2 :: l, .int x :: st, M) = some (45, a0 :: a1 :: some (.int x) :: l, st, M) := st_istore_n q120_44 (pj_st_2 h)
theorem x120_44 {st : List Value} {M : pj_Mem} {l : pj_Loc} {a0 a1 a2 : Option Value} {x : Int32} (h : pj_long a1 = false) {o9 : Option Value × pj_Mem} : pj_Ends 120 (44, a0 :: a1 :: a2 :: l, .int x :: st, M) o9 = pj_Ends 120 (45, a0 :: a1 :: some (.int x) :: l, st, M) o9 := pj_xs (s120_44 h)
theorem q120_45 : pj_row 120 45 = some (.iload_n 2, 1, 0, 0, 0) := by decide +kernel
theorem s120_45 {st : List Value} {M : pj_Mem} {l : pj_Loc} {a0 a1 : Option Value} {x : Int32} : pj_step 120 (45, a0 :: a1 :: some (.int x) :: l, st, M) = some (46, a0 :: a1 :: some (.int x) :: l, .int x :: st, M) := st_iload_n q120_45 rfl
theorem x120_45 {st : List Value} {M : pj_Mem} {l : pj_Loc} {a0 a1 : Option Value} {x : Int32} {o9 : Option Value × pj_Mem} : pj_Ends 120 (45, a0 :: a1 :: some (.int x) :: l, st, M) o9 = pj_Ends 120 (46, a0 :: a1 :: some (.int x) :: l, .int x :: st, M) o9 := pj_xs (s120_45)
theorem q120_46 : pj_row 120 46 = some (.ifCond .eq 35, 3, 81, 0, 0) := by decide +kernel
theorem s120_46 {L : pj_Loc} {st : List Value} {M : pj_Mem} {x : Int32} : pj_step 120 (46, L, .int x :: st, M) = some (if x = 0 then 81 else 49, L, st, M) := st_if_eq q120_46
theorem x120_46 {L : pj_Loc} {st : List Value} {M : pj_Mem} {x : Int32} {o9 : Option Value × pj_Mem} : pj_Ends 120 (46, L, .int x :: st, M) o9 = pj_Ends 120 (if x = 0 then 81 else 49, L, st, M) o9 := pj_xs (s120_46)
theorem q120_49 : pj_row 120 49 = some (.aload_n 0, 1, 0, 0, 0) := by decide +kernel
theorem s120_49 {st : List Value} {M : pj_Mem} {l : pj_Loc} {x : Nat} : pj_step 120 (49, some (.ref x) :: l, st, M) = some (50, some (.ref x) :: l, .ref x :: st, M) := st_aload_n q120_49 rfl
theorem x120_49 {st : List Value} {M : pj_Mem} {l : pj_Loc} {x : Nat} {o9 : Option Value × pj_Mem} : pj_Ends 120 (49, some (.ref x) :: l, st, M) o9 = pj_Ends 120 (50, some (.ref x) :: l, .ref x :: st, M) o9 := pj_xs (s120_49)
theorem q120_50 : pj_row 120 50 = some (.invokevirtual 192, 3, 116, 1, 0) := by decide +kernel
theorem e120_50 {L : pj_Loc} {st : List Value} {N S : Nat} {H : pj_Heap} {o : Option Value × pj_Mem} {M' : pj_Mem} {x0 : Nat} {r : Int32} (h4 : pj_le4 st = true) (hu : pj_isU 6 (H x0) = true) (h1 : pj_Ends 116 (0, [some (.ref x0), none], [], (N, S, H)) (some (.int r), M')) (h2 : pj_Ends 120 (53, L, .int r :: st, M') o) : pj_Ends 120 (50, L, .ref x0 :: st, (N, S, H)) o := ec_v1 q120_50 (Or.inl rfl) h4 hu rfl h1 h2
theorem q120_53 : pj_row 120 53 = some (.ifCond .eq 28, 3, 81, 0, 0) := by decide +kernel
theorem s120_53 {L : pj_Loc} {st : List Value} {M : pj_Mem} {x : Int32} : pj_step 120 (53, L, .int x :: st, M) = some (if x = 0 then 81 else 56, L, st, M) := st_if_eq q120_53
theorem x120_53 {L : pj_Loc} {st : List Value} {M : pj_Mem} {x : Int32} {o9 : Option Value × pj_Mem} : pj_Ends 120 (53, L, .int x :: st, M) o9 = pj_Ends 120 (if x = 0 then 81 else 56, L, st, M) o9 := pj_xs (s120_53)
theorem q120_56 : pj_row 120 56 = some (.aload_n 0, 1, 0, 0, 0) := by decide +kernel
theorem s120_56 {st : List Value} {M : pj_Mem} {l : pj_Loc} {x : Nat} : pj_step 120 (56, some (.ref x) :: l, st, M) = some (57, some (.ref x) :: l, .ref x :: st, M) := st_aload_n q120_56 rfl
theorem x120_56 {st : List Value} {M : pj_Mem} {l : pj_Loc} {x : Nat} {o9 : Option Value × pj_Mem} : pj_Ends 120 (56, some (.ref x) :: l, st, M) o9 = pj_Ends 120 (57, some (.ref x) :: l, .ref x :: st, M) o9 := pj_xs (s120_56)
theorem q120_57 : pj_row 120 57 = some (.aload_n 0, 1, 0, 0, 0) := by decide +kernel
theorem s120_57 {st : List Value} {M : pj_Mem} {l : pj_Loc} {x : Nat} : pj_step 120 (57, some (.ref x) :: l, st, M) = some (58, some (.ref x) :: l, .ref x :: st, M) := st_aload_n q120_57 rfl
theorem x120_57 {st : List Value} {M : pj_Mem} {l : pj_Loc} {x : Nat} {o9 : Option Value × pj_Mem} : pj_Ends 120 (57, some (.ref x) :: l, st, M) o9 = pj_Ends 120 (58, some (.ref x) :: l, .ref x :: st, M) o9 := pj_xs (s120_57)
theorem q120_58 : pj_row 120 58 = some (.getfield 185, 3, 6, 16, 0) := by decide +kernel
theorem s120_58 {L : pj_Loc} {st : List Value} {N S : Nat} {H : pj_Heap} {o : Nat} : pj_step 120 (58, L, .ref o :: st, (N, S, H)) = pj_pv 61 L st (N, S, H) (pj_fld (H o) 6 16) := st_getfield q120_58
theorem x120_58 {L : pj_Loc} {st : List Value} {N S : Nat} {H : pj_Heap} {o : Nat} {o9 : Option Value × pj_Mem} : pj_Ends 120 (58, L, .ref o :: st, (N, S, H)) o9 = pj_then 120 o9 (pj_pv 61 L st (N, S, H) (pj_fld (H o) 6 16)) := pj_xt q120_58 rfl (pj_cl_nc rfl) (s120_58)
theorem q120_61 : pj_row 120 61 = some (.invokevirtual 134, 3, 83, 2, 0) := by decide +kernel
theorem e120_61 {L : pj_Loc} {st : List Value} {N S : Nat} {H : pj_Heap} {o : Option Value × pj_Mem} {M' : pj_Mem} {x0 : Nat} {x1 : Int32} (h4 : pj_le4 st = true) (hu : pj_isU 6 (H x0) = true) (h1 : pj_Ends 83 (0, [some (.ref x0), some (.int x1)], [], (N, S, H)) (none, M')) (h2 : pj_Ends 120 (64, L, st, M') o) : pj_Ends 120 (61, L, .int x1 :: .ref x0 :: st, (N, S, H)) o := ec_v2 q120_61 (Or.inl rfl) h4 hu rfl h1 h2
theorem q120_64 : pj_row 120 64 = some (.iload_n 1, 1, 0, 0, 0) := by decide +kernel
theorem s120_64 {st : List Value} {M : pj_Mem} {l : pj_Loc} {a0 : Option Value} {x : Int32} : pj_step 120 (64, a0 :: some (.int x) :: l, st, M) = some (65, a0 :: some (.int x) :: l, .int x :: st, M) := st_iload_n q120_64 rfl
theorem x120_64 {st : List Value} {M : pj_Mem} {l : pj_Loc} {a0 : Option Value} {x : Int32} {o9 : Option Value × pj_Mem} : pj_Ends 120 (64, a0 :: some (.int x) :: l, st, M) o9 = pj_Ends 120 (65, a0 :: some (.int x) :: l, .int x :: st, M) o9 := pj_xs (s120_64)
theorem q120_65 : pj_row 120 65 = some (.aload_n 0, 1, 0, 0, 0) := by decide +kernel
theorem s120_65 {st : List Value} {M : pj_Mem} {l : pj_Loc} {x : Nat} : pj_step 120 (65, some (.ref x) :: l, st, M) = some (66, some (.ref x) :: l, .ref x :: st, M) := st_aload_n q120_65 rfl
theorem x120_65 {st : List Value} {M : pj_Mem} {l : pj_Loc} {x : Nat} {o9 : Option Value × pj_Mem} : pj_Ends 120 (65, some (.ref x) :: l, st, M) o9 = pj_Ends 120 (66, some (.ref x) :: l, .ref x :: st, M) o9 := pj_xs (s120_65)
theorem q120_66 : pj_row 120 66 = some (.getfield 75, 3, 6, 11, 0) := by decide +kernel
theorem s120_66 {L : pj_Loc} {st : List Value} {N S : Nat} {H : pj_Heap} {o : Nat} : pj_step 120 (66, L, .ref o :: st, (N, S, H)) = pj_pv 69 L st (N, S, H) (pj_fld (H o) 6 11) := st_getfield q120_66
theorem x120_66 {L : pj_Loc} {st : List Value} {N S : Nat} {H : pj_Heap} {o : Nat} {o9 : Option Value × pj_Mem} : pj_Ends 120 (66, L, .ref o :: st, (N, S, H)) o9 = pj_then 120 o9 (pj_pv 69 L st (N, S, H) (pj_fld (H o) 6 11)) := pj_xt q120_66 rfl (pj_cl_nc rfl) (s120_66)
theorem q120_69 : pj_row 120 69 = some (.ior, 1, 0, 0, 0) := by decide +kernel
theorem s120_69 {L : pj_Loc} {st : List Value} {M : pj_Mem} {x y : Int32} : pj_step 120 (69, L, .int y :: .int x :: st, M) = some (70, L, .int (x ||| y) :: st, M) := st_ior q120_69
theorem x120_69 {L : pj_Loc} {st : List Value} {M : pj_Mem} {x y : Int32} {o9 : Option Value × pj_Mem} : pj_Ends 120 (69, L, .int y :: .int x :: st, M) o9 = pj_Ends 120 (70, L, .int (x ||| y) :: st, M) o9 := pj_xs (s120_69)
theorem q120_70 : pj_row 120 70 = some (.istore_n 1, 1, 0, 0, 0) := by decide +kernel
theorem s120_70 {st : List Value} {M : pj_Mem} {l : pj_Loc} {a0 a1 : Option Value} {x : Int32} (h : pj_long a0 = false) : pj_step 120 (70, a0 :: a1 :: l, .int x :: st, M) = some (71, a0 :: some (.int x) :: l, st, M) := st_istore_n q120_70 (pj_st_1 h)
theorem x120_70 {st : List Value} {M : pj_Mem} {l : pj_Loc} {a0 a1 : Option Value} {x : Int32} (h : pj_long a0 = false) {o9 : Option Value × pj_Mem} : pj_Ends 120 (70, a0 :: a1 :: l, .int x :: st, M) o9 = pj_Ends 120 (71, a0 :: some (.int x) :: l, st, M) o9 := pj_xs (s120_70 h)
theorem q120_71 : pj_row 120 71 = some (.aload_n 0, 1, 0, 0, 0) := by decide +kernel
theorem s120_71 {st : List Value} {M : pj_Mem} {l : pj_Loc} {x : Nat} : pj_step 120 (71, some (.ref x) :: l, st, M) = some (72, some (.ref x) :: l, .ref x :: st, M) := st_aload_n q120_71 rfl
theorem x120_71 {st : List Value} {M : pj_Mem} {l : pj_Loc} {x : Nat} {o9 : Option Value × pj_Mem} : pj_Ends 120 (71, some (.ref x) :: l, st, M) o9 = pj_Ends 120 (72, some (.ref x) :: l, .ref x :: st, M) o9 := pj_xs (s120_71)
theorem q120_72 : pj_row 120 72 = some (.bipush 59, 2, 0, 0, 0) := by decide +kernel
theorem s120_72 {L : pj_Loc} {st : List Value} {M : pj_Mem}  : pj_step 120 (72, L, st, M) = some (74, L, .int 59 :: st, M) := st_bipush q120_72 (by decide +kernel)
theorem x120_72 {L : pj_Loc} {st : List Value} {M : pj_Mem}  {o9 : Option Value × pj_Mem} : pj_Ends 120 (72, L, st, M) o9 = pj_Ends 120 (74, L, .int 59 :: st, M) o9 := pj_xs (s120_72)
theorem q120_74 : pj_row 120 74 = some (.invokevirtual 176, 3, 117, 2, 0) := by decide +kernel
theorem e120_74 {L : pj_Loc} {st : List Value} {N S : Nat} {H : pj_Heap} {o : Option Value × pj_Mem} {M' : pj_Mem} {x0 : Nat} {x1 : Int32} {r : Int32} (h4 : pj_le4 st = true) (hu : pj_isU 6 (H x0) = true) (h1 : pj_Ends 117 (0, [some (.ref x0), some (.int x1), none], [], (N, S, H)) (some (.int r), M')) (h2 : pj_Ends 120 (77, L, .int r :: st, M') o) : pj_Ends 120 (74, L, .int x1 :: .ref x0 :: st, (N, S, H)) o := ec_v2 q120_74 (Or.inl rfl) h4 hu rfl h1 h2
theorem q120_77 : pj_row 120 77 = some (.istore_n 2, 1, 0, 0, 0) := by decide +kernel
theorem s120_77 {st : List Value} {M : pj_Mem} {l : pj_Loc} {a0 a1 a2 : Option Value} {x : Int32} (h : pj_long a1 = false) : pj_step 120 (77, a0 :: a1 :: a2 :: l, .int x :: st, M) = some (78, a0 :: a1 :: some (.int x) :: l, st, M) := st_istore_n q120_77 (pj_st_2 h)
theorem x120_77 {st : List Value} {M : pj_Mem} {l : pj_Loc} {a0 a1 a2 : Option Value} {x : Int32} (h : pj_long a1 = false) {o9 : Option Value × pj_Mem} : pj_Ends 120 (77, a0 :: a1 :: a2 :: l, .int x :: st, M) o9 = pj_Ends 120 (78, a0 :: a1 :: some (.int x) :: l, st, M) o9 := pj_xs (s120_77 h)
theorem q120_78 : pj_row 120 78 = some (.goto (-33), 3, 45, 0, 0) := by decide +kernel
theorem s120_78 {L : pj_Loc} {st : List Value} {M : pj_Mem}  : pj_step 120 (78, L, st, M) = some (45, L, st, M) := st_goto q120_78
theorem x120_78 {L : pj_Loc} {st : List Value} {M : pj_Mem}  {o9 : Option Value × pj_Mem} : pj_Ends 120 (78, L, st, M) o9 = pj_Ends 120 (45, L, st, M) o9 := pj_xs (s120_78)
theorem q120_81 : pj_row 120 81 = some (.aload_n 0, 1, 0, 0, 0) := by decide +kernel
theorem s120_81 {st : List Value} {M : pj_Mem} {l : pj_Loc} {x : Nat} : pj_step 120 (81, some (.ref x) :: l, st, M) = some (82, some (.ref x) :: l, .ref x :: st, M) := st_aload_n q120_81 rfl
theorem x120_81 {st : List Value} {M : pj_Mem} {l : pj_Loc} {x : Nat} {o9 : Option Value × pj_Mem} : pj_Ends 120 (81, some (.ref x) :: l, st, M) o9 = pj_Ends 120 (82, some (.ref x) :: l, .ref x :: st, M) o9 := pj_xs (s120_81)
theorem q120_82 : pj_row 120 82 = some (.iconst 0, 1, 0, 0, 0) := by decide +kernel
theorem s120_82 {L : pj_Loc} {st : List Value} {M : pj_Mem}  : pj_step 120 (82, L, st, M) = some (83, L, .int 0 :: st, M) := st_iconst q120_82 (by decide +kernel)
theorem x120_82 {L : pj_Loc} {st : List Value} {M : pj_Mem}  {o9 : Option Value × pj_Mem} : pj_Ends 120 (82, L, st, M) o9 = pj_Ends 120 (83, L, .int 0 :: st, M) o9 := pj_xs (s120_82)
theorem q120_83 : pj_row 120 83 = some (.putfield 152, 3, 6, 13, 0) := by decide +kernel
theorem s120_83 {L : pj_Loc} {st : List Value} {N S : Nat} {H : pj_Heap} {o : Nat} {v : Value} : pj_step 120 (83, L, v :: .ref o :: st, (N, S, H)) = pj_set 86 L st (N, S, H) o (pj_fset (H o) 6 13 v) := st_putfield q120_83
theorem x120_83 {L : pj_Loc} {st : List Value} {N S : Nat} {H : pj_Heap} {o : Nat} {v : Value} {o9 : Option Value × pj_Mem} : pj_Ends 120 (83, L, v :: .ref o :: st, (N, S, H)) o9 = pj_then 120 o9 (pj_set 86 L st (N, S, H) o (pj_fset (H o) 6 13 v)) := pj_xt q120_83 rfl (pj_cl_nc rfl) (s120_83)
theorem q120_86 : pj_row 120 86 = some (.aload_n 0, 1, 0, 0, 0) := by decide +kernel
theorem s120_86 {st : List Value} {M : pj_Mem} {l : pj_Loc} {x : Nat} : pj_step 120 (86, some (.ref x) :: l, st, M) = some (87, some (.ref x) :: l, .ref x :: st, M) := st_aload_n q120_86 rfl
theorem x120_86 {st : List Value} {M : pj_Mem} {l : pj_Loc} {x : Nat} {o9 : Option Value × pj_Mem} : pj_Ends 120 (86, some (.ref x) :: l, st, M) o9 = pj_Ends 120 (87, some (.ref x) :: l, .ref x :: st, M) o9 := pj_xs (s120_86)
theorem q120_87 : pj_row 120 87 = some (.iload_n 1, 1, 0, 0, 0) := by decide +kernel
theorem s120_87 {st : List Value} {M : pj_Mem} {l : pj_Loc} {a0 : Option Value} {x : Int32} : pj_step 120 (87, a0 :: some (.int x) :: l, st, M) = some (88, a0 :: some (.int x) :: l, .int x :: st, M) := st_iload_n q120_87 rfl
theorem x120_87 {st : List Value} {M : pj_Mem} {l : pj_Loc} {a0 : Option Value} {x : Int32} {o9 : Option Value × pj_Mem} : pj_Ends 120 (87, a0 :: some (.int x) :: l, st, M) o9 = pj_Ends 120 (88, a0 :: some (.int x) :: l, .int x :: st, M) o9 := pj_xs (s120_87)
theorem q120_88 : pj_row 120 88 = some (.invokevirtual 124, 3, 79, 2, 0) := by decide +kernel
theorem e120_88 {L : pj_Loc} {st : List Value} {N S : Nat} {H : pj_Heap} {o : Option Value × pj_Mem} {M' : pj_Mem} {x0 : Nat} {x1 : Int32} {r : Int32} (h4 : pj_le4 st = true) (hu : pj_isU 6 (H x0) = true) (h1 : pj_Ends 79 (0, [some (.ref x0), some (.int x1), none], [], (N, S, H)) (some (.int r), M')) (h2 : pj_Ends 120 (91, L, .int r :: st, M') o) : pj_Ends 120 (88, L, .int x1 :: .ref x0 :: st, (N, S, H)) o := ec_v2 q120_88 (Or.inl rfl) h4 hu rfl h1 h2
theorem q120_91 : pj_row 120 91 = some (.ireturn, 1, 0, 0, 0) := by decide +kernel
theorem t120_91 {L : pj_Loc} {M : pj_Mem} {v : Int32} : pj_Ends 120 (91, L, [.int v], M) (some (.int v), M) := pj_Ends.ret q120_91 (pj_rtn_i rt120)
theorem rt121 : pj_rt 121 = some .int := rfl
theorem q121_0 : pj_row 121 0 = some (.aload_n 0, 1, 0, 0, 0) := by decide +kernel
theorem s121_0 {st : List Value} {M : pj_Mem} {l : pj_Loc} {x : Nat} : pj_step 121 (0, some (.ref x) :: l, st, M) = some (1, some (.ref x) :: l, .ref x :: st, M) := st_aload_n q121_0 rfl
theorem x121_0 {st : List Value} {M : pj_Mem} {l : pj_Loc} {x : Nat} {o9 : Option Value × pj_Mem} : pj_Ends 121 (0, some (.ref x) :: l, st, M) o9 = pj_Ends 121 (1, some (.ref x) :: l, .ref x :: st, M) o9 := pj_xs (s121_0)
theorem q121_1 : pj_row 121 1 = some (.getfield 34, 3, 6, 3, 0) := by decide +kernel
theorem s121_1 {L : pj_Loc} {st : List Value} {N S : Nat} {H : pj_Heap} {o : Nat} : pj_step 121 (1, L, .ref o :: st, (N, S, H)) = pj_pv 4 L st (N, S, H) (pj_fld (H o) 6 3) := st_getfield q121_1
theorem x121_1 {L : pj_Loc} {st : List Value} {N S : Nat} {H : pj_Heap} {o : Nat} {o9 : Option Value × pj_Mem} : pj_Ends 121 (1, L, .ref o :: st, (N, S, H)) o9 = pj_then 121 o9 (pj_pv 4 L st (N, S, H) (pj_fld (H o) 6 3)) := pj_xt q121_1 rfl (pj_cl_nc rfl) (s121_1)
theorem q121_4 : pj_row 121 4 = some (.ifCond .ne 6, 3, 10, 0, 0) := by decide +kernel
theorem s121_4 {L : pj_Loc} {st : List Value} {M : pj_Mem} {x : Int32} : pj_step 121 (4, L, .int x :: st, M) = some (if ¬ x = 0 then 10 else 7, L, st, M) := st_if_ne q121_4
theorem x121_4 {L : pj_Loc} {st : List Value} {M : pj_Mem} {x : Int32} {o9 : Option Value × pj_Mem} : pj_Ends 121 (4, L, .int x :: st, M) o9 = pj_Ends 121 (if ¬ x = 0 then 10 else 7, L, st, M) o9 := pj_xs (s121_4)
theorem q121_7 : pj_row 121 7 = some (.bipush (-5), 2, 0, 0, 0) := by decide +kernel
theorem s121_7 {L : pj_Loc} {st : List Value} {M : pj_Mem}  : pj_step 121 (7, L, st, M) = some (9, L, .int (-5) :: st, M) := st_bipush q121_7 (by decide +kernel)
theorem x121_7 {L : pj_Loc} {st : List Value} {M : pj_Mem}  {o9 : Option Value × pj_Mem} : pj_Ends 121 (7, L, st, M) o9 = pj_Ends 121 (9, L, .int (-5) :: st, M) o9 := pj_xs (s121_7)
theorem q121_9 : pj_row 121 9 = some (.ireturn, 1, 0, 0, 0) := by decide +kernel
theorem t121_9 {L : pj_Loc} {M : pj_Mem} {v : Int32} : pj_Ends 121 (9, L, [.int v], M) (some (.int v), M) := pj_Ends.ret q121_9 (pj_rtn_i rt121)
theorem q121_10 : pj_row 121 10 = some (.aload_n 0, 1, 0, 0, 0) := by decide +kernel
theorem s121_10 {st : List Value} {M : pj_Mem} {l : pj_Loc} {x : Nat} : pj_step 121 (10, some (.ref x) :: l, st, M) = some (11, some (.ref x) :: l, .ref x :: st, M) := st_aload_n q121_10 rfl
theorem x121_10 {st : List Value} {M : pj_Mem} {l : pj_Loc} {x : Nat} {o9 : Option Value × pj_Mem} : pj_Ends 121 (10, some (.ref x) :: l, st, M) o9 = pj_Ends 121 (11, some (.ref x) :: l, .ref x :: st, M) o9 := pj_xs (s121_10)
theorem q121_11 : pj_row 121 11 = some (.dup, 1, 0, 0, 0) := by decide +kernel
theorem s121_11 {L : pj_Loc} {st : List Value} {M : pj_Mem} {x : Nat} : pj_step 121 (11, L, .ref x :: st, M) = some (12, L, .ref x :: .ref x :: st, M) := st_dup_ref q121_11
theorem x121_11 {L : pj_Loc} {st : List Value} {M : pj_Mem} {x : Nat} {o9 : Option Value × pj_Mem} : pj_Ends 121 (11, L, .ref x :: st, M) o9 = pj_Ends 121 (12, L, .ref x :: .ref x :: st, M) o9 := pj_xs (s121_11)
theorem s121_11i {L : pj_Loc} {st : List Value} {M : pj_Mem} {x : Int32} : pj_step 121 (11, L, .int x :: st, M) = some (12, L, .int x :: .int x :: st, M) := st_dup_int q121_11
theorem x121_11i {L : pj_Loc} {st : List Value} {M : pj_Mem} {x : Int32} {o9 : Option Value × pj_Mem} : pj_Ends 121 (11, L, .int x :: st, M) o9 = pj_Ends 121 (12, L, .int x :: .int x :: st, M) o9 := pj_xs (s121_11i)
theorem q121_12 : pj_row 121 12 = some (.getfield 34, 3, 6, 3, 0) := by decide +kernel
theorem s121_12 {L : pj_Loc} {st : List Value} {N S : Nat} {H : pj_Heap} {o : Nat} : pj_step 121 (12, L, .ref o :: st, (N, S, H)) = pj_pv 15 L st (N, S, H) (pj_fld (H o) 6 3) := st_getfield q121_12
theorem x121_12 {L : pj_Loc} {st : List Value} {N S : Nat} {H : pj_Heap} {o : Nat} {o9 : Option Value × pj_Mem} : pj_Ends 121 (12, L, .ref o :: st, (N, S, H)) o9 = pj_then 121 o9 (pj_pv 15 L st (N, S, H) (pj_fld (H o) 6 3)) := pj_xt q121_12 rfl (pj_cl_nc rfl) (s121_12)
theorem q121_15 : pj_row 121 15 = some (.iconst 1, 1, 0, 0, 0) := by decide +kernel
theorem s121_15 {L : pj_Loc} {st : List Value} {M : pj_Mem}  : pj_step 121 (15, L, st, M) = some (16, L, .int 1 :: st, M) := st_iconst q121_15 (by decide +kernel)
theorem x121_15 {L : pj_Loc} {st : List Value} {M : pj_Mem}  {o9 : Option Value × pj_Mem} : pj_Ends 121 (15, L, st, M) o9 = pj_Ends 121 (16, L, .int 1 :: st, M) o9 := pj_xs (s121_15)
theorem q121_16 : pj_row 121 16 = some (.isub, 1, 0, 0, 0) := by decide +kernel
theorem s121_16 {L : pj_Loc} {st : List Value} {M : pj_Mem} {x y : Int32} : pj_step 121 (16, L, .int y :: .int x :: st, M) = some (17, L, .int (x - y) :: st, M) := st_isub q121_16
theorem x121_16 {L : pj_Loc} {st : List Value} {M : pj_Mem} {x y : Int32} {o9 : Option Value × pj_Mem} : pj_Ends 121 (16, L, .int y :: .int x :: st, M) o9 = pj_Ends 121 (17, L, .int (x - y) :: st, M) o9 := pj_xs (s121_16)
theorem q121_17 : pj_row 121 17 = some (.putfield 34, 3, 6, 3, 0) := by decide +kernel
theorem s121_17 {L : pj_Loc} {st : List Value} {N S : Nat} {H : pj_Heap} {o : Nat} {v : Value} : pj_step 121 (17, L, v :: .ref o :: st, (N, S, H)) = pj_set 20 L st (N, S, H) o (pj_fset (H o) 6 3 v) := st_putfield q121_17
theorem x121_17 {L : pj_Loc} {st : List Value} {N S : Nat} {H : pj_Heap} {o : Nat} {v : Value} {o9 : Option Value × pj_Mem} : pj_Ends 121 (17, L, v :: .ref o :: st, (N, S, H)) o9 = pj_then 121 o9 (pj_set 20 L st (N, S, H) o (pj_fset (H o) 6 3 v)) := pj_xt q121_17 rfl (pj_cl_nc rfl) (s121_17)
theorem q121_20 : pj_row 121 20 = some (.iconst 0, 1, 0, 0, 0) := by decide +kernel
theorem s121_20 {L : pj_Loc} {st : List Value} {M : pj_Mem}  : pj_step 121 (20, L, st, M) = some (21, L, .int 0 :: st, M) := st_iconst q121_20 (by decide +kernel)
theorem x121_20 {L : pj_Loc} {st : List Value} {M : pj_Mem}  {o9 : Option Value × pj_Mem} : pj_Ends 121 (20, L, st, M) o9 = pj_Ends 121 (21, L, .int 0 :: st, M) o9 := pj_xs (s121_20)
theorem q121_21 : pj_row 121 21 = some (.istore_n 1, 1, 0, 0, 0) := by decide +kernel
theorem s121_21 {st : List Value} {M : pj_Mem} {l : pj_Loc} {a0 a1 : Option Value} {x : Int32} (h : pj_long a0 = false) : pj_step 121 (21, a0 :: a1 :: l, .int x :: st, M) = some (22, a0 :: some (.int x) :: l, st, M) := st_istore_n q121_21 (pj_st_1 h)
theorem x121_21 {st : List Value} {M : pj_Mem} {l : pj_Loc} {a0 a1 : Option Value} {x : Int32} (h : pj_long a0 = false) {o9 : Option Value × pj_Mem} : pj_Ends 121 (21, a0 :: a1 :: l, .int x :: st, M) o9 = pj_Ends 121 (22, a0 :: some (.int x) :: l, st, M) o9 := pj_xs (s121_21 h)
theorem q121_22 : pj_row 121 22 = some (.iload_n 1, 1, 0, 0, 0) := by decide +kernel
theorem s121_22 {st : List Value} {M : pj_Mem} {l : pj_Loc} {a0 : Option Value} {x : Int32} : pj_step 121 (22, a0 :: some (.int x) :: l, st, M) = some (23, a0 :: some (.int x) :: l, .int x :: st, M) := st_iload_n q121_22 rfl
theorem x121_22 {st : List Value} {M : pj_Mem} {l : pj_Loc} {a0 : Option Value} {x : Int32} {o9 : Option Value × pj_Mem} : pj_Ends 121 (22, a0 :: some (.int x) :: l, st, M) o9 = pj_Ends 121 (23, a0 :: some (.int x) :: l, .int x :: st, M) o9 := pj_xs (s121_22)
theorem q121_23 : pj_row 121 23 = some (.sipush 152, 3, 0, 0, 0) := by decide +kernel
theorem s121_23 {L : pj_Loc} {st : List Value} {M : pj_Mem}  : pj_step 121 (23, L, st, M) = some (26, L, .int 152 :: st, M) := st_sipush q121_23 (by decide +kernel)
theorem x121_23 {L : pj_Loc} {st : List Value} {M : pj_Mem}  {o9 : Option Value × pj_Mem} : pj_Ends 121 (23, L, st, M) o9 = pj_Ends 121 (26, L, .int 152 :: st, M) o9 := pj_xs (s121_23)
theorem q121_26 : pj_row 121 26 = some (.if_icmp .ge 30, 3, 56, 0, 0) := by decide +kernel
theorem s121_26 {L : pj_Loc} {st : List Value} {M : pj_Mem} {x y : Int32} : pj_step 121 (26, L, .int y :: .int x :: st, M) = some (if y ≤ x then 56 else 29, L, st, M) := st_icmp_ge q121_26
theorem x121_26 {L : pj_Loc} {st : List Value} {M : pj_Mem} {x y : Int32} {o9 : Option Value × pj_Mem} : pj_Ends 121 (26, L, .int y :: .int x :: st, M) o9 = pj_Ends 121 (if y ≤ x then 56 else 29, L, st, M) o9 := pj_xs (s121_26)
theorem q121_29 : pj_row 121 29 = some (.aload_n 0, 1, 0, 0, 0) := by decide +kernel
theorem s121_29 {st : List Value} {M : pj_Mem} {l : pj_Loc} {x : Nat} : pj_step 121 (29, some (.ref x) :: l, st, M) = some (30, some (.ref x) :: l, .ref x :: st, M) := st_aload_n q121_29 rfl
theorem x121_29 {st : List Value} {M : pj_Mem} {l : pj_Loc} {x : Nat} {o9 : Option Value × pj_Mem} : pj_Ends 121 (29, some (.ref x) :: l, st, M) o9 = pj_Ends 121 (30, some (.ref x) :: l, .ref x :: st, M) o9 := pj_xs (s121_29)
theorem q121_30 : pj_row 121 30 = some (.getfield 7, 3, 6, 0, 0) := by decide +kernel
theorem s121_30 {L : pj_Loc} {st : List Value} {N S : Nat} {H : pj_Heap} {o : Nat} : pj_step 121 (30, L, .ref o :: st, (N, S, H)) = pj_pv 33 L st (N, S, H) (pj_fld (H o) 6 0) := st_getfield q121_30
theorem x121_30 {L : pj_Loc} {st : List Value} {N S : Nat} {H : pj_Heap} {o : Nat} {o9 : Option Value × pj_Mem} : pj_Ends 121 (30, L, .ref o :: st, (N, S, H)) o9 = pj_then 121 o9 (pj_pv 33 L st (N, S, H) (pj_fld (H o) 6 0)) := pj_xt q121_30 rfl (pj_cl_nc rfl) (s121_30)
theorem q121_33 : pj_row 121 33 = some (.iload_n 1, 1, 0, 0, 0) := by decide +kernel
theorem s121_33 {st : List Value} {M : pj_Mem} {l : pj_Loc} {a0 : Option Value} {x : Int32} : pj_step 121 (33, a0 :: some (.int x) :: l, st, M) = some (34, a0 :: some (.int x) :: l, .int x :: st, M) := st_iload_n q121_33 rfl
theorem x121_33 {st : List Value} {M : pj_Mem} {l : pj_Loc} {a0 : Option Value} {x : Int32} {o9 : Option Value × pj_Mem} : pj_Ends 121 (33, a0 :: some (.int x) :: l, st, M) o9 = pj_Ends 121 (34, a0 :: some (.int x) :: l, .int x :: st, M) o9 := pj_xs (s121_33)
theorem q121_34 : pj_row 121 34 = some (.aload_n 0, 1, 0, 0, 0) := by decide +kernel
theorem s121_34 {st : List Value} {M : pj_Mem} {l : pj_Loc} {x : Nat} : pj_step 121 (34, some (.ref x) :: l, st, M) = some (35, some (.ref x) :: l, .ref x :: st, M) := st_aload_n q121_34 rfl
theorem x121_34 {st : List Value} {M : pj_Mem} {l : pj_Loc} {x : Nat} {o9 : Option Value × pj_Mem} : pj_Ends 121 (34, some (.ref x) :: l, st, M) o9 = pj_Ends 121 (35, some (.ref x) :: l, .ref x :: st, M) o9 := pj_xs (s121_34)
theorem q121_35 : pj_row 121 35 = some (.getfield 16, 3, 6, 2, 0) := by decide +kernel
theorem s121_35 {L : pj_Loc} {st : List Value} {N S : Nat} {H : pj_Heap} {o : Nat} : pj_step 121 (35, L, .ref o :: st, (N, S, H)) = pj_pv 38 L st (N, S, H) (pj_fld (H o) 6 2) := st_getfield q121_35
theorem x121_35 {L : pj_Loc} {st : List Value} {N S : Nat} {H : pj_Heap} {o : Nat} {o9 : Option Value × pj_Mem} : pj_Ends 121 (35, L, .ref o :: st, (N, S, H)) o9 = pj_then 121 o9 (pj_pv 38 L st (N, S, H) (pj_fld (H o) 6 2)) := pj_xt q121_35 rfl (pj_cl_nc rfl) (s121_35)
theorem q121_38 : pj_row 121 38 = some (.sipush 152, 3, 0, 0, 0) := by decide +kernel
theorem s121_38 {L : pj_Loc} {st : List Value} {M : pj_Mem}  : pj_step 121 (38, L, st, M) = some (41, L, .int 152 :: st, M) := st_sipush q121_38 (by decide +kernel)
theorem x121_38 {L : pj_Loc} {st : List Value} {M : pj_Mem}  {o9 : Option Value × pj_Mem} : pj_Ends 121 (38, L, st, M) o9 = pj_Ends 121 (41, L, .int 152 :: st, M) o9 := pj_xs (s121_38)
theorem q121_41 : pj_row 121 41 = some (.aload_n 0, 1, 0, 0, 0) := by decide +kernel
theorem s121_41 {st : List Value} {M : pj_Mem} {l : pj_Loc} {x : Nat} : pj_step 121 (41, some (.ref x) :: l, st, M) = some (42, some (.ref x) :: l, .ref x :: st, M) := st_aload_n q121_41 rfl
theorem x121_41 {st : List Value} {M : pj_Mem} {l : pj_Loc} {x : Nat} {o9 : Option Value × pj_Mem} : pj_Ends 121 (41, some (.ref x) :: l, st, M) o9 = pj_Ends 121 (42, some (.ref x) :: l, .ref x :: st, M) o9 := pj_xs (s121_41)
theorem q121_42 : pj_row 121 42 = some (.getfield 34, 3, 6, 3, 0) := by decide +kernel
theorem s121_42 {L : pj_Loc} {st : List Value} {N S : Nat} {H : pj_Heap} {o : Nat} : pj_step 121 (42, L, .ref o :: st, (N, S, H)) = pj_pv 45 L st (N, S, H) (pj_fld (H o) 6 3) := st_getfield q121_42
theorem x121_42 {L : pj_Loc} {st : List Value} {N S : Nat} {H : pj_Heap} {o : Nat} {o9 : Option Value × pj_Mem} : pj_Ends 121 (42, L, .ref o :: st, (N, S, H)) o9 = pj_then 121 o9 (pj_pv 45 L st (N, S, H) (pj_fld (H o) 6 3)) := pj_xt q121_42 rfl (pj_cl_nc rfl) (s121_42)
theorem q121_45 : pj_row 121 45 = some (.imul, 1, 0, 0, 0) := by decide +kernel
theorem s121_45 {L : pj_Loc} {st : List Value} {M : pj_Mem} {x y : Int32} : pj_step 121 (45, L, .int y :: .int x :: st, M) = some (46, L, .int (x * y) :: st, M) := st_imul q121_45
theorem x121_45 {L : pj_Loc} {st : List Value} {M : pj_Mem} {x y : Int32} {o9 : Option Value × pj_Mem} : pj_Ends 121 (45, L, .int y :: .int x :: st, M) o9 = pj_Ends 121 (46, L, .int (x * y) :: st, M) o9 := pj_xs (s121_45)
theorem q121_46 : pj_row 121 46 = some (.iload_n 1, 1, 0, 0, 0) := by decide +kernel
theorem s121_46 {st : List Value} {M : pj_Mem} {l : pj_Loc} {a0 : Option Value} {x : Int32} : pj_step 121 (46, a0 :: some (.int x) :: l, st, M) = some (47, a0 :: some (.int x) :: l, .int x :: st, M) := st_iload_n q121_46 rfl
theorem x121_46 {st : List Value} {M : pj_Mem} {l : pj_Loc} {a0 : Option Value} {x : Int32} {o9 : Option Value × pj_Mem} : pj_Ends 121 (46, a0 :: some (.int x) :: l, st, M) o9 = pj_Ends 121 (47, a0 :: some (.int x) :: l, .int x :: st, M) o9 := pj_xs (s121_46)
theorem q121_47 : pj_row 121 47 = some (.iadd, 1, 0, 0, 0) := by decide +kernel
theorem s121_47 {L : pj_Loc} {st : List Value} {M : pj_Mem} {x y : Int32} : pj_step 121 (47, L, .int y :: .int x :: st, M) = some (48, L, .int (x + y) :: st, M) := st_iadd q121_47
theorem x121_47 {L : pj_Loc} {st : List Value} {M : pj_Mem} {x y : Int32} {o9 : Option Value × pj_Mem} : pj_Ends 121 (47, L, .int y :: .int x :: st, M) o9 = pj_Ends 121 (48, L, .int (x + y) :: st, M) o9 := pj_xs (s121_47)
theorem q121_48 : pj_row 121 48 = some (.iaload, 1, 0, 0, 0) := by decide +kernel
theorem s121_48 {L : pj_Loc} {st : List Value} {N S : Nat} {H : pj_Heap} {o : Nat} {i : Int32} : pj_step 121 (48, L, .int i :: .ref o :: st, (N, S, H)) = pj_pi 49 L st (N, S, H) (pj_arl (H o) 0 i) := st_iaload q121_48
theorem x121_48 {L : pj_Loc} {st : List Value} {N S : Nat} {H : pj_Heap} {o : Nat} {i : Int32} {o9 : Option Value × pj_Mem} : pj_Ends 121 (48, L, .int i :: .ref o :: st, (N, S, H)) o9 = pj_then 121 o9 (pj_pi 49 L st (N, S, H) (pj_arl (H o) 0 i)) := pj_xt q121_48 rfl (pj_cl_nc rfl) (s121_48)
theorem q121_49 : pj_row 121 49 = some (.iastore, 1, 0, 0, 0) := by decide +kernel
theorem s121_49 {L : pj_Loc} {st : List Value} {N S : Nat} {H : pj_Heap} {o : Nat} {i x : Int32} : pj_step 121 (49, L, .int x :: .int i :: .ref o :: st, (N, S, H)) = pj_set 50 L st (N, S, H) o (pj_ars (H o) 0 i x) := st_iastore q121_49
theorem x121_49 {L : pj_Loc} {st : List Value} {N S : Nat} {H : pj_Heap} {o : Nat} {i x : Int32} {o9 : Option Value × pj_Mem} : pj_Ends 121 (49, L, .int x :: .int i :: .ref o :: st, (N, S, H)) o9 = pj_then 121 o9 (pj_set 50 L st (N, S, H) o (pj_ars (H o) 0 i x)) := pj_xt q121_49 rfl (pj_cl_nc rfl) (s121_49)
theorem q121_50 : pj_row 121 50 = some (.iinc 1 1, 3, 0, 0, 0) := by decide +kernel
theorem s121_50 {st : List Value} {M : pj_Mem} {l : pj_Loc} {a0 : Option Value} {x : Int32} (h : pj_long a0 = false) : pj_step 121 (50, a0 :: some (.int x) :: l, st, M) = some (53, a0 :: some (.int (x + 1)) :: l, st, M) := st_iinc q121_50 rfl (congrArg (fun y => x + y) (show Int32.ofInt 1 = 1 by decide +kernel)) (pj_st_1 h)
theorem x121_50 {st : List Value} {M : pj_Mem} {l : pj_Loc} {a0 : Option Value} {x : Int32} (h : pj_long a0 = false) {o9 : Option Value × pj_Mem} : pj_Ends 121 (50, a0 :: some (.int x) :: l, st, M) o9 = pj_Ends 121 (53, a0 :: some (.int (x + 1)) :: l, st, M) o9 := pj_xs (s121_50 h)
theorem q121_53 : pj_row 121 53 = some (.goto (-31), 3, 22, 0, 0) := by decide +kernel
theorem s121_53 {L : pj_Loc} {st : List Value} {M : pj_Mem}  : pj_step 121 (53, L, st, M) = some (22, L, st, M) := st_goto q121_53
theorem x121_53 {L : pj_Loc} {st : List Value} {M : pj_Mem}  {o9 : Option Value × pj_Mem} : pj_Ends 121 (53, L, st, M) o9 = pj_Ends 121 (22, L, st, M) o9 := pj_xs (s121_53)
theorem q121_56 : pj_row 121 56 = some (.aload_n 0, 1, 0, 0, 0) := by decide +kernel
theorem s121_56 {st : List Value} {M : pj_Mem} {l : pj_Loc} {x : Nat} : pj_step 121 (56, some (.ref x) :: l, st, M) = some (57, some (.ref x) :: l, .ref x :: st, M) := st_aload_n q121_56 rfl
theorem x121_56 {st : List Value} {M : pj_Mem} {l : pj_Loc} {x : Nat} {o9 : Option Value × pj_Mem} : pj_Ends 121 (56, some (.ref x) :: l, st, M) o9 = pj_Ends 121 (57, some (.ref x) :: l, .ref x :: st, M) o9 := pj_xs (s121_56)
theorem q121_57 : pj_row 121 57 = some (.getfield 34, 3, 6, 3, 0) := by decide +kernel
theorem s121_57 {L : pj_Loc} {st : List Value} {N S : Nat} {H : pj_Heap} {o : Nat} : pj_step 121 (57, L, .ref o :: st, (N, S, H)) = pj_pv 60 L st (N, S, H) (pj_fld (H o) 6 3) := st_getfield q121_57
theorem x121_57 {L : pj_Loc} {st : List Value} {N S : Nat} {H : pj_Heap} {o : Nat} {o9 : Option Value × pj_Mem} : pj_Ends 121 (57, L, .ref o :: st, (N, S, H)) o9 = pj_then 121 o9 (pj_pv 60 L st (N, S, H) (pj_fld (H o) 6 3)) := pj_xt q121_57 rfl (pj_cl_nc rfl) (s121_57)
theorem q121_60 : pj_row 121 60 = some (.ireturn, 1, 0, 0, 0) := by decide +kernel
theorem t121_60 {L : pj_Loc} {M : pj_Mem} {v : Int32} : pj_Ends 121 (60, L, [.int v], M) (some (.int v), M) := pj_Ends.ret q121_60 (pj_rtn_i rt121)
theorem rt122 : pj_rt 122 = some .int := rfl
theorem q122_0 : pj_row 122 0 = some (.iload_n 1, 1, 0, 0, 0) := by decide +kernel
theorem s122_0 {st : List Value} {M : pj_Mem} {l : pj_Loc} {a0 : Option Value} {x : Int32} : pj_step 122 (0, a0 :: some (.int x) :: l, st, M) = some (1, a0 :: some (.int x) :: l, .int x :: st, M) := st_iload_n q122_0 rfl
theorem x122_0 {st : List Value} {M : pj_Mem} {l : pj_Loc} {a0 : Option Value} {x : Int32} {o9 : Option Value × pj_Mem} : pj_Ends 122 (0, a0 :: some (.int x) :: l, st, M) o9 = pj_Ends 122 (1, a0 :: some (.int x) :: l, .int x :: st, M) o9 := pj_xs (s122_0)
theorem q122_1 : pj_row 122 1 = some (.i2l, 1, 0, 0, 0) := by decide +kernel
theorem s122_1 {L : pj_Loc} {st : List Value} {M : pj_Mem} {x : Int32} : pj_step 122 (1, L, .int x :: st, M) = some (2, L, .long x.toInt64 :: st, M) := st_i2l q122_1
theorem x122_1 {L : pj_Loc} {st : List Value} {M : pj_Mem} {x : Int32} {o9 : Option Value × pj_Mem} : pj_Ends 122 (1, L, .int x :: st, M) o9 = pj_Ends 122 (2, L, .long x.toInt64 :: st, M) o9 := pj_xs (s122_1)
theorem q122_2 : pj_row 122 2 = some (.lconst 0, 1, 0, 0, 0) := by decide +kernel
theorem s122_2 {L : pj_Loc} {st : List Value} {M : pj_Mem}  : pj_step 122 (2, L, st, M) = some (3, L, .long 0 :: st, M) := st_lconst q122_2 (by decide +kernel)
theorem x122_2 {L : pj_Loc} {st : List Value} {M : pj_Mem}  {o9 : Option Value × pj_Mem} : pj_Ends 122 (2, L, st, M) o9 = pj_Ends 122 (3, L, .long 0 :: st, M) o9 := pj_xs (s122_2)
theorem q122_3 : pj_row 122 3 = some (.lconst 1, 1, 0, 0, 0) := by decide +kernel
theorem s122_3 {L : pj_Loc} {st : List Value} {M : pj_Mem}  : pj_step 122 (3, L, st, M) = some (4, L, .long 1 :: st, M) := st_lconst q122_3 (by decide +kernel)
theorem x122_3 {L : pj_Loc} {st : List Value} {M : pj_Mem}  {o9 : Option Value × pj_Mem} : pj_Ends 122 (3, L, st, M) o9 = pj_Ends 122 (4, L, .long 1 :: st, M) o9 := pj_xs (s122_3)
theorem q122_4 : pj_row 122 4 = some (.invokestatic 42, 3, 77, 3, 0) := by decide +kernel
theorem e122_4 {L : pj_Loc} {st : List Value} {N S : Nat} {H : pj_Heap} {o : Option Value × pj_Mem} {M' : pj_Mem} {x0 : Int64} {x1 : Int64} {x2 : Int64} {r : Int32} (h4 : pj_le4 st = true) (h1 : pj_Ends 77 (0, [some (.long x0), none, some (.long x1), none, some (.long x2), none], [], (N, S, H)) (some (.int r), M')) (h2 : pj_Ends 122 (7, L, .int r :: st, M') o) : pj_Ends 122 (4, L, .long x2 :: .long x1 :: .long x0 :: st, (N, S, H)) o := ec_s3 q122_4 (Or.inl rfl) h4 rfl h1 h2
theorem q122_7 : pj_row 122 7 = some (.ifCond .ne 6, 3, 13, 0, 0) := by decide +kernel
theorem s122_7 {L : pj_Loc} {st : List Value} {M : pj_Mem} {x : Int32} : pj_step 122 (7, L, .int x :: st, M) = some (if ¬ x = 0 then 13 else 10, L, st, M) := st_if_ne q122_7
theorem x122_7 {L : pj_Loc} {st : List Value} {M : pj_Mem} {x : Int32} {o9 : Option Value × pj_Mem} : pj_Ends 122 (7, L, .int x :: st, M) o9 = pj_Ends 122 (if ¬ x = 0 then 13 else 10, L, st, M) o9 := pj_xs (s122_7)
theorem q122_10 : pj_row 122 10 = some (.bipush (-2), 2, 0, 0, 0) := by decide +kernel
theorem s122_10 {L : pj_Loc} {st : List Value} {M : pj_Mem}  : pj_step 122 (10, L, st, M) = some (12, L, .int (-2) :: st, M) := st_bipush q122_10 (by decide +kernel)
theorem x122_10 {L : pj_Loc} {st : List Value} {M : pj_Mem}  {o9 : Option Value × pj_Mem} : pj_Ends 122 (10, L, st, M) o9 = pj_Ends 122 (12, L, .int (-2) :: st, M) o9 := pj_xs (s122_10)
theorem q122_12 : pj_row 122 12 = some (.ireturn, 1, 0, 0, 0) := by decide +kernel
theorem t122_12 {L : pj_Loc} {M : pj_Mem} {v : Int32} : pj_Ends 122 (12, L, [.int v], M) (some (.int v), M) := pj_Ends.ret q122_12 (pj_rtn_i rt122)
theorem q122_13 : pj_row 122 13 = some (.iconst 0, 1, 0, 0, 0) := by decide +kernel
theorem s122_13 {L : pj_Loc} {st : List Value} {M : pj_Mem}  : pj_step 122 (13, L, st, M) = some (14, L, .int 0 :: st, M) := st_iconst q122_13 (by decide +kernel)
theorem x122_13 {L : pj_Loc} {st : List Value} {M : pj_Mem}  {o9 : Option Value × pj_Mem} : pj_Ends 122 (13, L, st, M) o9 = pj_Ends 122 (14, L, .int 0 :: st, M) o9 := pj_xs (s122_13)
theorem q122_14 : pj_row 122 14 = some (.istore_n 2, 1, 0, 0, 0) := by decide +kernel
theorem s122_14 {st : List Value} {M : pj_Mem} {l : pj_Loc} {a0 a1 a2 : Option Value} {x : Int32} (h : pj_long a1 = false) : pj_step 122 (14, a0 :: a1 :: a2 :: l, .int x :: st, M) = some (15, a0 :: a1 :: some (.int x) :: l, st, M) := st_istore_n q122_14 (pj_st_2 h)
theorem x122_14 {st : List Value} {M : pj_Mem} {l : pj_Loc} {a0 a1 a2 : Option Value} {x : Int32} (h : pj_long a1 = false) {o9 : Option Value × pj_Mem} : pj_Ends 122 (14, a0 :: a1 :: a2 :: l, .int x :: st, M) o9 = pj_Ends 122 (15, a0 :: a1 :: some (.int x) :: l, st, M) o9 := pj_xs (s122_14 h)
theorem q122_15 : pj_row 122 15 = some (.iload_n 2, 1, 0, 0, 0) := by decide +kernel
theorem s122_15 {st : List Value} {M : pj_Mem} {l : pj_Loc} {a0 a1 : Option Value} {x : Int32} : pj_step 122 (15, a0 :: a1 :: some (.int x) :: l, st, M) = some (16, a0 :: a1 :: some (.int x) :: l, .int x :: st, M) := st_iload_n q122_15 rfl
theorem x122_15 {st : List Value} {M : pj_Mem} {l : pj_Loc} {a0 a1 : Option Value} {x : Int32} {o9 : Option Value × pj_Mem} : pj_Ends 122 (15, a0 :: a1 :: some (.int x) :: l, st, M) o9 = pj_Ends 122 (16, a0 :: a1 :: some (.int x) :: l, .int x :: st, M) o9 := pj_xs (s122_15)
theorem q122_16 : pj_row 122 16 = some (.sipush 152, 3, 0, 0, 0) := by decide +kernel
theorem s122_16 {L : pj_Loc} {st : List Value} {M : pj_Mem}  : pj_step 122 (16, L, st, M) = some (19, L, .int 152 :: st, M) := st_sipush q122_16 (by decide +kernel)
theorem x122_16 {L : pj_Loc} {st : List Value} {M : pj_Mem}  {o9 : Option Value × pj_Mem} : pj_Ends 122 (16, L, st, M) o9 = pj_Ends 122 (19, L, .int 152 :: st, M) o9 := pj_xs (s122_16)
theorem q122_19 : pj_row 122 19 = some (.if_icmp .ge 27, 3, 46, 0, 0) := by decide +kernel
theorem s122_19 {L : pj_Loc} {st : List Value} {M : pj_Mem} {x y : Int32} : pj_step 122 (19, L, .int y :: .int x :: st, M) = some (if y ≤ x then 46 else 22, L, st, M) := st_icmp_ge q122_19
theorem x122_19 {L : pj_Loc} {st : List Value} {M : pj_Mem} {x y : Int32} {o9 : Option Value × pj_Mem} : pj_Ends 122 (19, L, .int y :: .int x :: st, M) o9 = pj_Ends 122 (if y ≤ x then 46 else 22, L, st, M) o9 := pj_xs (s122_19)
theorem q122_22 : pj_row 122 22 = some (.aload_n 0, 1, 0, 0, 0) := by decide +kernel
theorem s122_22 {st : List Value} {M : pj_Mem} {l : pj_Loc} {x : Nat} : pj_step 122 (22, some (.ref x) :: l, st, M) = some (23, some (.ref x) :: l, .ref x :: st, M) := st_aload_n q122_22 rfl
theorem x122_22 {st : List Value} {M : pj_Mem} {l : pj_Loc} {x : Nat} {o9 : Option Value × pj_Mem} : pj_Ends 122 (22, some (.ref x) :: l, st, M) o9 = pj_Ends 122 (23, some (.ref x) :: l, .ref x :: st, M) o9 := pj_xs (s122_22)
theorem q122_23 : pj_row 122 23 = some (.getfield 19, 3, 6, 4, 0) := by decide +kernel
theorem s122_23 {L : pj_Loc} {st : List Value} {N S : Nat} {H : pj_Heap} {o : Nat} : pj_step 122 (23, L, .ref o :: st, (N, S, H)) = pj_pv 26 L st (N, S, H) (pj_fld (H o) 6 4) := st_getfield q122_23
theorem x122_23 {L : pj_Loc} {st : List Value} {N S : Nat} {H : pj_Heap} {o : Nat} {o9 : Option Value × pj_Mem} : pj_Ends 122 (23, L, .ref o :: st, (N, S, H)) o9 = pj_then 122 o9 (pj_pv 26 L st (N, S, H) (pj_fld (H o) 6 4)) := pj_xt q122_23 rfl (pj_cl_nc rfl) (s122_23)
theorem q122_26 : pj_row 122 26 = some (.sipush 152, 3, 0, 0, 0) := by decide +kernel
theorem s122_26 {L : pj_Loc} {st : List Value} {M : pj_Mem}  : pj_step 122 (26, L, st, M) = some (29, L, .int 152 :: st, M) := st_sipush q122_26 (by decide +kernel)
theorem x122_26 {L : pj_Loc} {st : List Value} {M : pj_Mem}  {o9 : Option Value × pj_Mem} : pj_Ends 122 (26, L, st, M) o9 = pj_Ends 122 (29, L, .int 152 :: st, M) o9 := pj_xs (s122_26)
theorem q122_29 : pj_row 122 29 = some (.iload_n 1, 1, 0, 0, 0) := by decide +kernel
theorem s122_29 {st : List Value} {M : pj_Mem} {l : pj_Loc} {a0 : Option Value} {x : Int32} : pj_step 122 (29, a0 :: some (.int x) :: l, st, M) = some (30, a0 :: some (.int x) :: l, .int x :: st, M) := st_iload_n q122_29 rfl
theorem x122_29 {st : List Value} {M : pj_Mem} {l : pj_Loc} {a0 : Option Value} {x : Int32} {o9 : Option Value × pj_Mem} : pj_Ends 122 (29, a0 :: some (.int x) :: l, st, M) o9 = pj_Ends 122 (30, a0 :: some (.int x) :: l, .int x :: st, M) o9 := pj_xs (s122_29)
theorem q122_30 : pj_row 122 30 = some (.imul, 1, 0, 0, 0) := by decide +kernel
theorem s122_30 {L : pj_Loc} {st : List Value} {M : pj_Mem} {x y : Int32} : pj_step 122 (30, L, .int y :: .int x :: st, M) = some (31, L, .int (x * y) :: st, M) := st_imul q122_30
theorem x122_30 {L : pj_Loc} {st : List Value} {M : pj_Mem} {x y : Int32} {o9 : Option Value × pj_Mem} : pj_Ends 122 (30, L, .int y :: .int x :: st, M) o9 = pj_Ends 122 (31, L, .int (x * y) :: st, M) o9 := pj_xs (s122_30)
theorem q122_31 : pj_row 122 31 = some (.iload_n 2, 1, 0, 0, 0) := by decide +kernel
theorem s122_31 {st : List Value} {M : pj_Mem} {l : pj_Loc} {a0 a1 : Option Value} {x : Int32} : pj_step 122 (31, a0 :: a1 :: some (.int x) :: l, st, M) = some (32, a0 :: a1 :: some (.int x) :: l, .int x :: st, M) := st_iload_n q122_31 rfl
theorem x122_31 {st : List Value} {M : pj_Mem} {l : pj_Loc} {a0 a1 : Option Value} {x : Int32} {o9 : Option Value × pj_Mem} : pj_Ends 122 (31, a0 :: a1 :: some (.int x) :: l, st, M) o9 = pj_Ends 122 (32, a0 :: a1 :: some (.int x) :: l, .int x :: st, M) o9 := pj_xs (s122_31)
theorem q122_32 : pj_row 122 32 = some (.iadd, 1, 0, 0, 0) := by decide +kernel
theorem s122_32 {L : pj_Loc} {st : List Value} {M : pj_Mem} {x y : Int32} : pj_step 122 (32, L, .int y :: .int x :: st, M) = some (33, L, .int (x + y) :: st, M) := st_iadd q122_32
theorem x122_32 {L : pj_Loc} {st : List Value} {M : pj_Mem} {x y : Int32} {o9 : Option Value × pj_Mem} : pj_Ends 122 (32, L, .int y :: .int x :: st, M) o9 = pj_Ends 122 (33, L, .int (x + y) :: st, M) o9 := pj_xs (s122_32)
theorem q122_33 : pj_row 122 33 = some (.aload_n 0, 1, 0, 0, 0) := by decide +kernel
theorem s122_33 {st : List Value} {M : pj_Mem} {l : pj_Loc} {x : Nat} : pj_step 122 (33, some (.ref x) :: l, st, M) = some (34, some (.ref x) :: l, .ref x :: st, M) := st_aload_n q122_33 rfl
theorem x122_33 {st : List Value} {M : pj_Mem} {l : pj_Loc} {x : Nat} {o9 : Option Value × pj_Mem} : pj_Ends 122 (33, some (.ref x) :: l, st, M) o9 = pj_Ends 122 (34, some (.ref x) :: l, .ref x :: st, M) o9 := pj_xs (s122_33)
theorem q122_34 : pj_row 122 34 = some (.getfield 7, 3, 6, 0, 0) := by decide +kernel
theorem s122_34 {L : pj_Loc} {st : List Value} {N S : Nat} {H : pj_Heap} {o : Nat} : pj_step 122 (34, L, .ref o :: st, (N, S, H)) = pj_pv 37 L st (N, S, H) (pj_fld (H o) 6 0) := st_getfield q122_34
theorem x122_34 {L : pj_Loc} {st : List Value} {N S : Nat} {H : pj_Heap} {o : Nat} {o9 : Option Value × pj_Mem} : pj_Ends 122 (34, L, .ref o :: st, (N, S, H)) o9 = pj_then 122 o9 (pj_pv 37 L st (N, S, H) (pj_fld (H o) 6 0)) := pj_xt q122_34 rfl (pj_cl_nc rfl) (s122_34)
theorem q122_37 : pj_row 122 37 = some (.iload_n 2, 1, 0, 0, 0) := by decide +kernel
theorem s122_37 {st : List Value} {M : pj_Mem} {l : pj_Loc} {a0 a1 : Option Value} {x : Int32} : pj_step 122 (37, a0 :: a1 :: some (.int x) :: l, st, M) = some (38, a0 :: a1 :: some (.int x) :: l, .int x :: st, M) := st_iload_n q122_37 rfl
theorem x122_37 {st : List Value} {M : pj_Mem} {l : pj_Loc} {a0 a1 : Option Value} {x : Int32} {o9 : Option Value × pj_Mem} : pj_Ends 122 (37, a0 :: a1 :: some (.int x) :: l, st, M) o9 = pj_Ends 122 (38, a0 :: a1 :: some (.int x) :: l, .int x :: st, M) o9 := pj_xs (s122_37)
theorem q122_38 : pj_row 122 38 = some (.iaload, 1, 0, 0, 0) := by decide +kernel
theorem s122_38 {L : pj_Loc} {st : List Value} {N S : Nat} {H : pj_Heap} {o : Nat} {i : Int32} : pj_step 122 (38, L, .int i :: .ref o :: st, (N, S, H)) = pj_pi 39 L st (N, S, H) (pj_arl (H o) 0 i) := st_iaload q122_38
theorem x122_38 {L : pj_Loc} {st : List Value} {N S : Nat} {H : pj_Heap} {o : Nat} {i : Int32} {o9 : Option Value × pj_Mem} : pj_Ends 122 (38, L, .int i :: .ref o :: st, (N, S, H)) o9 = pj_then 122 o9 (pj_pi 39 L st (N, S, H) (pj_arl (H o) 0 i)) := pj_xt q122_38 rfl (pj_cl_nc rfl) (s122_38)
theorem q122_39 : pj_row 122 39 = some (.iastore, 1, 0, 0, 0) := by decide +kernel
theorem s122_39 {L : pj_Loc} {st : List Value} {N S : Nat} {H : pj_Heap} {o : Nat} {i x : Int32} : pj_step 122 (39, L, .int x :: .int i :: .ref o :: st, (N, S, H)) = pj_set 40 L st (N, S, H) o (pj_ars (H o) 0 i x) := st_iastore q122_39
theorem x122_39 {L : pj_Loc} {st : List Value} {N S : Nat} {H : pj_Heap} {o : Nat} {i x : Int32} {o9 : Option Value × pj_Mem} : pj_Ends 122 (39, L, .int x :: .int i :: .ref o :: st, (N, S, H)) o9 = pj_then 122 o9 (pj_set 40 L st (N, S, H) o (pj_ars (H o) 0 i x)) := pj_xt q122_39 rfl (pj_cl_nc rfl) (s122_39)
theorem q122_40 : pj_row 122 40 = some (.iinc 2 1, 3, 0, 0, 0) := by decide +kernel
theorem s122_40 {st : List Value} {M : pj_Mem} {l : pj_Loc} {a0 a1 : Option Value} {x : Int32} (h : pj_long a1 = false) : pj_step 122 (40, a0 :: a1 :: some (.int x) :: l, st, M) = some (43, a0 :: a1 :: some (.int (x + 1)) :: l, st, M) := st_iinc q122_40 rfl (congrArg (fun y => x + y) (show Int32.ofInt 1 = 1 by decide +kernel)) (pj_st_2 h)
theorem x122_40 {st : List Value} {M : pj_Mem} {l : pj_Loc} {a0 a1 : Option Value} {x : Int32} (h : pj_long a1 = false) {o9 : Option Value × pj_Mem} : pj_Ends 122 (40, a0 :: a1 :: some (.int x) :: l, st, M) o9 = pj_Ends 122 (43, a0 :: a1 :: some (.int (x + 1)) :: l, st, M) o9 := pj_xs (s122_40 h)
theorem q122_43 : pj_row 122 43 = some (.goto (-28), 3, 15, 0, 0) := by decide +kernel
theorem s122_43 {L : pj_Loc} {st : List Value} {M : pj_Mem}  : pj_step 122 (43, L, st, M) = some (15, L, st, M) := st_goto q122_43
theorem x122_43 {L : pj_Loc} {st : List Value} {M : pj_Mem}  {o9 : Option Value × pj_Mem} : pj_Ends 122 (43, L, st, M) o9 = pj_Ends 122 (15, L, st, M) o9 := pj_xs (s122_43)
theorem q122_46 : pj_row 122 46 = some (.aload_n 0, 1, 0, 0, 0) := by decide +kernel
theorem s122_46 {st : List Value} {M : pj_Mem} {l : pj_Loc} {x : Nat} : pj_step 122 (46, some (.ref x) :: l, st, M) = some (47, some (.ref x) :: l, .ref x :: st, M) := st_aload_n q122_46 rfl
theorem x122_46 {st : List Value} {M : pj_Mem} {l : pj_Loc} {x : Nat} {o9 : Option Value × pj_Mem} : pj_Ends 122 (46, some (.ref x) :: l, st, M) o9 = pj_Ends 122 (47, some (.ref x) :: l, .ref x :: st, M) o9 := pj_xs (s122_46)
theorem q122_47 : pj_row 122 47 = some (.getfield 22, 3, 6, 5, 0) := by decide +kernel
theorem s122_47 {L : pj_Loc} {st : List Value} {N S : Nat} {H : pj_Heap} {o : Nat} : pj_step 122 (47, L, .ref o :: st, (N, S, H)) = pj_pv 50 L st (N, S, H) (pj_fld (H o) 6 5) := st_getfield q122_47
theorem x122_47 {L : pj_Loc} {st : List Value} {N S : Nat} {H : pj_Heap} {o : Nat} {o9 : Option Value × pj_Mem} : pj_Ends 122 (47, L, .ref o :: st, (N, S, H)) o9 = pj_then 122 o9 (pj_pv 50 L st (N, S, H) (pj_fld (H o) 6 5)) := pj_xt q122_47 rfl (pj_cl_nc rfl) (s122_47)
theorem q122_50 : pj_row 122 50 = some (.iload_n 1, 1, 0, 0, 0) := by decide +kernel
theorem s122_50 {st : List Value} {M : pj_Mem} {l : pj_Loc} {a0 : Option Value} {x : Int32} : pj_step 122 (50, a0 :: some (.int x) :: l, st, M) = some (51, a0 :: some (.int x) :: l, .int x :: st, M) := st_iload_n q122_50 rfl
theorem x122_50 {st : List Value} {M : pj_Mem} {l : pj_Loc} {a0 : Option Value} {x : Int32} {o9 : Option Value × pj_Mem} : pj_Ends 122 (50, a0 :: some (.int x) :: l, st, M) o9 = pj_Ends 122 (51, a0 :: some (.int x) :: l, .int x :: st, M) o9 := pj_xs (s122_50)
theorem q122_51 : pj_row 122 51 = some (.iconst 1, 1, 0, 0, 0) := by decide +kernel
theorem s122_51 {L : pj_Loc} {st : List Value} {M : pj_Mem}  : pj_step 122 (51, L, st, M) = some (52, L, .int 1 :: st, M) := st_iconst q122_51 (by decide +kernel)
theorem x122_51 {L : pj_Loc} {st : List Value} {M : pj_Mem}  {o9 : Option Value × pj_Mem} : pj_Ends 122 (51, L, st, M) o9 = pj_Ends 122 (52, L, .int 1 :: st, M) o9 := pj_xs (s122_51)
theorem q122_52 : pj_row 122 52 = some (.iastore, 1, 0, 0, 0) := by decide +kernel
theorem s122_52 {L : pj_Loc} {st : List Value} {N S : Nat} {H : pj_Heap} {o : Nat} {i x : Int32} : pj_step 122 (52, L, .int x :: .int i :: .ref o :: st, (N, S, H)) = pj_set 53 L st (N, S, H) o (pj_ars (H o) 0 i x) := st_iastore q122_52
theorem x122_52 {L : pj_Loc} {st : List Value} {N S : Nat} {H : pj_Heap} {o : Nat} {i x : Int32} {o9 : Option Value × pj_Mem} : pj_Ends 122 (52, L, .int x :: .int i :: .ref o :: st, (N, S, H)) o9 = pj_then 122 o9 (pj_set 53 L st (N, S, H) o (pj_ars (H o) 0 i x)) := pj_xt q122_52 rfl (pj_cl_nc rfl) (s122_52)
theorem q122_53 : pj_row 122 53 = some (.aload_n 0, 1, 0, 0, 0) := by decide +kernel
theorem s122_53 {st : List Value} {M : pj_Mem} {l : pj_Loc} {x : Nat} : pj_step 122 (53, some (.ref x) :: l, st, M) = some (54, some (.ref x) :: l, .ref x :: st, M) := st_aload_n q122_53 rfl
theorem x122_53 {st : List Value} {M : pj_Mem} {l : pj_Loc} {x : Nat} {o9 : Option Value × pj_Mem} : pj_Ends 122 (53, some (.ref x) :: l, st, M) o9 = pj_Ends 122 (54, some (.ref x) :: l, .ref x :: st, M) o9 := pj_xs (s122_53)
theorem q122_54 : pj_row 122 54 = some (.getfield 7, 3, 6, 0, 0) := by decide +kernel
theorem s122_54 {L : pj_Loc} {st : List Value} {N S : Nat} {H : pj_Heap} {o : Nat} : pj_step 122 (54, L, .ref o :: st, (N, S, H)) = pj_pv 57 L st (N, S, H) (pj_fld (H o) 6 0) := st_getfield q122_54
theorem x122_54 {L : pj_Loc} {st : List Value} {N S : Nat} {H : pj_Heap} {o : Nat} {o9 : Option Value × pj_Mem} : pj_Ends 122 (54, L, .ref o :: st, (N, S, H)) o9 = pj_then 122 o9 (pj_pv 57 L st (N, S, H) (pj_fld (H o) 6 0)) := pj_xt q122_54 rfl (pj_cl_nc rfl) (s122_54)
theorem q122_57 : pj_row 122 57 = some (.bipush 6, 2, 0, 0, 0) := by decide +kernel
theorem s122_57 {L : pj_Loc} {st : List Value} {M : pj_Mem}  : pj_step 122 (57, L, st, M) = some (59, L, .int 6 :: st, M) := st_bipush q122_57 (by decide +kernel)
theorem x122_57 {L : pj_Loc} {st : List Value} {M : pj_Mem}  {o9 : Option Value × pj_Mem} : pj_Ends 122 (57, L, st, M) o9 = pj_Ends 122 (59, L, .int 6 :: st, M) o9 := pj_xs (s122_57)
theorem q122_59 : pj_row 122 59 = some (.iaload, 1, 0, 0, 0) := by decide +kernel
theorem s122_59 {L : pj_Loc} {st : List Value} {N S : Nat} {H : pj_Heap} {o : Nat} {i : Int32} : pj_step 122 (59, L, .int i :: .ref o :: st, (N, S, H)) = pj_pi 60 L st (N, S, H) (pj_arl (H o) 0 i) := st_iaload q122_59
theorem x122_59 {L : pj_Loc} {st : List Value} {N S : Nat} {H : pj_Heap} {o : Nat} {i : Int32} {o9 : Option Value × pj_Mem} : pj_Ends 122 (59, L, .int i :: .ref o :: st, (N, S, H)) o9 = pj_then 122 o9 (pj_pi 60 L st (N, S, H) (pj_arl (H o) 0 i)) := pj_xt q122_59 rfl (pj_cl_nc rfl) (s122_59)
theorem q122_60 : pj_row 122 60 = some (.ireturn, 1, 0, 0, 0) := by decide +kernel
theorem t122_60 {L : pj_Loc} {M : pj_Mem} {v : Int32} : pj_Ends 122 (60, L, [.int v], M) (some (.int v), M) := pj_Ends.ret q122_60 (pj_rtn_i rt122)
theorem rt123 : pj_rt 123 = some .int := rfl
theorem q123_0 : pj_row 123 0 = some (.iload_n 1, 1, 0, 0, 0) := by decide +kernel
theorem s123_0 {st : List Value} {M : pj_Mem} {l : pj_Loc} {a0 : Option Value} {x : Int32} : pj_step 123 (0, a0 :: some (.int x) :: l, st, M) = some (1, a0 :: some (.int x) :: l, .int x :: st, M) := st_iload_n q123_0 rfl
theorem x123_0 {st : List Value} {M : pj_Mem} {l : pj_Loc} {a0 : Option Value} {x : Int32} {o9 : Option Value × pj_Mem} : pj_Ends 123 (0, a0 :: some (.int x) :: l, st, M) o9 = pj_Ends 123 (1, a0 :: some (.int x) :: l, .int x :: st, M) o9 := pj_xs (s123_0)
theorem q123_1 : pj_row 123 1 = some (.i2l, 1, 0, 0, 0) := by decide +kernel
theorem s123_1 {L : pj_Loc} {st : List Value} {M : pj_Mem} {x : Int32} : pj_step 123 (1, L, .int x :: st, M) = some (2, L, .long x.toInt64 :: st, M) := st_i2l q123_1
theorem x123_1 {L : pj_Loc} {st : List Value} {M : pj_Mem} {x : Int32} {o9 : Option Value × pj_Mem} : pj_Ends 123 (1, L, .int x :: st, M) o9 = pj_Ends 123 (2, L, .long x.toInt64 :: st, M) o9 := pj_xs (s123_1)
theorem q123_2 : pj_row 123 2 = some (.lconst 0, 1, 0, 0, 0) := by decide +kernel
theorem s123_2 {L : pj_Loc} {st : List Value} {M : pj_Mem}  : pj_step 123 (2, L, st, M) = some (3, L, .long 0 :: st, M) := st_lconst q123_2 (by decide +kernel)
theorem x123_2 {L : pj_Loc} {st : List Value} {M : pj_Mem}  {o9 : Option Value × pj_Mem} : pj_Ends 123 (2, L, st, M) o9 = pj_Ends 123 (3, L, .long 0 :: st, M) o9 := pj_xs (s123_2)
theorem q123_3 : pj_row 123 3 = some (.lconst 1, 1, 0, 0, 0) := by decide +kernel
theorem s123_3 {L : pj_Loc} {st : List Value} {M : pj_Mem}  : pj_step 123 (3, L, st, M) = some (4, L, .long 1 :: st, M) := st_lconst q123_3 (by decide +kernel)
theorem x123_3 {L : pj_Loc} {st : List Value} {M : pj_Mem}  {o9 : Option Value × pj_Mem} : pj_Ends 123 (3, L, st, M) o9 = pj_Ends 123 (4, L, .long 1 :: st, M) o9 := pj_xs (s123_3)
theorem q123_4 : pj_row 123 4 = some (.invokestatic 42, 3, 77, 3, 0) := by decide +kernel
theorem e123_4 {L : pj_Loc} {st : List Value} {N S : Nat} {H : pj_Heap} {o : Option Value × pj_Mem} {M' : pj_Mem} {x0 : Int64} {x1 : Int64} {x2 : Int64} {r : Int32} (h4 : pj_le4 st = true) (h1 : pj_Ends 77 (0, [some (.long x0), none, some (.long x1), none, some (.long x2), none], [], (N, S, H)) (some (.int r), M')) (h2 : pj_Ends 123 (7, L, .int r :: st, M') o) : pj_Ends 123 (4, L, .long x2 :: .long x1 :: .long x0 :: st, (N, S, H)) o := ec_s3 q123_4 (Or.inl rfl) h4 rfl h1 h2
theorem q123_7 : pj_row 123 7 = some (.ifCond .ne 6, 3, 13, 0, 0) := by decide +kernel
theorem s123_7 {L : pj_Loc} {st : List Value} {M : pj_Mem} {x : Int32} : pj_step 123 (7, L, .int x :: st, M) = some (if ¬ x = 0 then 13 else 10, L, st, M) := st_if_ne q123_7
theorem x123_7 {L : pj_Loc} {st : List Value} {M : pj_Mem} {x : Int32} {o9 : Option Value × pj_Mem} : pj_Ends 123 (7, L, .int x :: st, M) o9 = pj_Ends 123 (if ¬ x = 0 then 13 else 10, L, st, M) o9 := pj_xs (s123_7)
theorem q123_10 : pj_row 123 10 = some (.bipush (-2), 2, 0, 0, 0) := by decide +kernel
theorem s123_10 {L : pj_Loc} {st : List Value} {M : pj_Mem}  : pj_step 123 (10, L, st, M) = some (12, L, .int (-2) :: st, M) := st_bipush q123_10 (by decide +kernel)
theorem x123_10 {L : pj_Loc} {st : List Value} {M : pj_Mem}  {o9 : Option Value × pj_Mem} : pj_Ends 123 (10, L, st, M) o9 = pj_Ends 123 (12, L, .int (-2) :: st, M) o9 := pj_xs (s123_10)
theorem q123_12 : pj_row 123 12 = some (.ireturn, 1, 0, 0, 0) := by decide +kernel
theorem t123_12 {L : pj_Loc} {M : pj_Mem} {v : Int32} : pj_Ends 123 (12, L, [.int v], M) (some (.int v), M) := pj_Ends.ret q123_12 (pj_rtn_i rt123)
theorem q123_13 : pj_row 123 13 = some (.aload_n 0, 1, 0, 0, 0) := by decide +kernel
theorem s123_13 {st : List Value} {M : pj_Mem} {l : pj_Loc} {x : Nat} : pj_step 123 (13, some (.ref x) :: l, st, M) = some (14, some (.ref x) :: l, .ref x :: st, M) := st_aload_n q123_13 rfl
theorem x123_13 {st : List Value} {M : pj_Mem} {l : pj_Loc} {x : Nat} {o9 : Option Value × pj_Mem} : pj_Ends 123 (13, some (.ref x) :: l, st, M) o9 = pj_Ends 123 (14, some (.ref x) :: l, .ref x :: st, M) o9 := pj_xs (s123_13)
theorem q123_14 : pj_row 123 14 = some (.getfield 22, 3, 6, 5, 0) := by decide +kernel
theorem s123_14 {L : pj_Loc} {st : List Value} {N S : Nat} {H : pj_Heap} {o : Nat} : pj_step 123 (14, L, .ref o :: st, (N, S, H)) = pj_pv 17 L st (N, S, H) (pj_fld (H o) 6 5) := st_getfield q123_14
theorem x123_14 {L : pj_Loc} {st : List Value} {N S : Nat} {H : pj_Heap} {o : Nat} {o9 : Option Value × pj_Mem} : pj_Ends 123 (14, L, .ref o :: st, (N, S, H)) o9 = pj_then 123 o9 (pj_pv 17 L st (N, S, H) (pj_fld (H o) 6 5)) := pj_xt q123_14 rfl (pj_cl_nc rfl) (s123_14)
theorem q123_17 : pj_row 123 17 = some (.iload_n 1, 1, 0, 0, 0) := by decide +kernel
theorem s123_17 {st : List Value} {M : pj_Mem} {l : pj_Loc} {a0 : Option Value} {x : Int32} : pj_step 123 (17, a0 :: some (.int x) :: l, st, M) = some (18, a0 :: some (.int x) :: l, .int x :: st, M) := st_iload_n q123_17 rfl
theorem x123_17 {st : List Value} {M : pj_Mem} {l : pj_Loc} {a0 : Option Value} {x : Int32} {o9 : Option Value × pj_Mem} : pj_Ends 123 (17, a0 :: some (.int x) :: l, st, M) o9 = pj_Ends 123 (18, a0 :: some (.int x) :: l, .int x :: st, M) o9 := pj_xs (s123_17)
theorem q123_18 : pj_row 123 18 = some (.iaload, 1, 0, 0, 0) := by decide +kernel
theorem s123_18 {L : pj_Loc} {st : List Value} {N S : Nat} {H : pj_Heap} {o : Nat} {i : Int32} : pj_step 123 (18, L, .int i :: .ref o :: st, (N, S, H)) = pj_pi 19 L st (N, S, H) (pj_arl (H o) 0 i) := st_iaload q123_18
theorem x123_18 {L : pj_Loc} {st : List Value} {N S : Nat} {H : pj_Heap} {o : Nat} {i : Int32} {o9 : Option Value × pj_Mem} : pj_Ends 123 (18, L, .int i :: .ref o :: st, (N, S, H)) o9 = pj_then 123 o9 (pj_pi 19 L st (N, S, H) (pj_arl (H o) 0 i)) := pj_xt q123_18 rfl (pj_cl_nc rfl) (s123_18)
theorem q123_19 : pj_row 123 19 = some (.ifCond .ne 6, 3, 25, 0, 0) := by decide +kernel
theorem s123_19 {L : pj_Loc} {st : List Value} {M : pj_Mem} {x : Int32} : pj_step 123 (19, L, .int x :: st, M) = some (if ¬ x = 0 then 25 else 22, L, st, M) := st_if_ne q123_19
theorem x123_19 {L : pj_Loc} {st : List Value} {M : pj_Mem} {x : Int32} {o9 : Option Value × pj_Mem} : pj_Ends 123 (19, L, .int x :: st, M) o9 = pj_Ends 123 (if ¬ x = 0 then 25 else 22, L, st, M) o9 := pj_xs (s123_19)
theorem q123_22 : pj_row 123 22 = some (.bipush (-5), 2, 0, 0, 0) := by decide +kernel
theorem s123_22 {L : pj_Loc} {st : List Value} {M : pj_Mem}  : pj_step 123 (22, L, st, M) = some (24, L, .int (-5) :: st, M) := st_bipush q123_22 (by decide +kernel)
theorem x123_22 {L : pj_Loc} {st : List Value} {M : pj_Mem}  {o9 : Option Value × pj_Mem} : pj_Ends 123 (22, L, st, M) o9 = pj_Ends 123 (24, L, .int (-5) :: st, M) o9 := pj_xs (s123_22)
theorem q123_24 : pj_row 123 24 = some (.ireturn, 1, 0, 0, 0) := by decide +kernel
theorem t123_24 {L : pj_Loc} {M : pj_Mem} {v : Int32} : pj_Ends 123 (24, L, [.int v], M) (some (.int v), M) := pj_Ends.ret q123_24 (pj_rtn_i rt123)
theorem q123_25 : pj_row 123 25 = some (.aload_n 0, 1, 0, 0, 0) := by decide +kernel
theorem s123_25 {st : List Value} {M : pj_Mem} {l : pj_Loc} {x : Nat} : pj_step 123 (25, some (.ref x) :: l, st, M) = some (26, some (.ref x) :: l, .ref x :: st, M) := st_aload_n q123_25 rfl
theorem x123_25 {st : List Value} {M : pj_Mem} {l : pj_Loc} {x : Nat} {o9 : Option Value × pj_Mem} : pj_Ends 123 (25, some (.ref x) :: l, st, M) o9 = pj_Ends 123 (26, some (.ref x) :: l, .ref x :: st, M) o9 := pj_xs (s123_25)
theorem q123_26 : pj_row 123 26 = some (.invokevirtual 121, 3, 78, 1, 0) := by decide +kernel
theorem e123_26 {L : pj_Loc} {st : List Value} {N S : Nat} {H : pj_Heap} {o : Option Value × pj_Mem} {M' : pj_Mem} {x0 : Nat} (h4 : pj_le4 st = true) (hu : pj_isU 6 (H x0) = true) (h1 : pj_Ends 78 (0, [some (.ref x0), none], [], (N, S, H)) (none, M')) (h2 : pj_Ends 123 (29, L, st, M') o) : pj_Ends 123 (26, L, .ref x0 :: st, (N, S, H)) o := ec_v1 q123_26 (Or.inl rfl) h4 hu rfl h1 h2
theorem q123_29 : pj_row 123 29 = some (.iconst 0, 1, 0, 0, 0) := by decide +kernel
theorem s123_29 {L : pj_Loc} {st : List Value} {M : pj_Mem}  : pj_step 123 (29, L, st, M) = some (30, L, .int 0 :: st, M) := st_iconst q123_29 (by decide +kernel)
theorem x123_29 {L : pj_Loc} {st : List Value} {M : pj_Mem}  {o9 : Option Value × pj_Mem} : pj_Ends 123 (29, L, st, M) o9 = pj_Ends 123 (30, L, .int 0 :: st, M) o9 := pj_xs (s123_29)
theorem q123_30 : pj_row 123 30 = some (.istore_n 2, 1, 0, 0, 0) := by decide +kernel
theorem s123_30 {st : List Value} {M : pj_Mem} {l : pj_Loc} {a0 a1 a2 : Option Value} {x : Int32} (h : pj_long a1 = false) : pj_step 123 (30, a0 :: a1 :: a2 :: l, .int x :: st, M) = some (31, a0 :: a1 :: some (.int x) :: l, st, M) := st_istore_n q123_30 (pj_st_2 h)
theorem x123_30 {st : List Value} {M : pj_Mem} {l : pj_Loc} {a0 a1 a2 : Option Value} {x : Int32} (h : pj_long a1 = false) {o9 : Option Value × pj_Mem} : pj_Ends 123 (30, a0 :: a1 :: a2 :: l, .int x :: st, M) o9 = pj_Ends 123 (31, a0 :: a1 :: some (.int x) :: l, st, M) o9 := pj_xs (s123_30 h)
theorem q123_31 : pj_row 123 31 = some (.iload_n 2, 1, 0, 0, 0) := by decide +kernel
theorem s123_31 {st : List Value} {M : pj_Mem} {l : pj_Loc} {a0 a1 : Option Value} {x : Int32} : pj_step 123 (31, a0 :: a1 :: some (.int x) :: l, st, M) = some (32, a0 :: a1 :: some (.int x) :: l, .int x :: st, M) := st_iload_n q123_31 rfl
theorem x123_31 {st : List Value} {M : pj_Mem} {l : pj_Loc} {a0 a1 : Option Value} {x : Int32} {o9 : Option Value × pj_Mem} : pj_Ends 123 (31, a0 :: a1 :: some (.int x) :: l, st, M) o9 = pj_Ends 123 (32, a0 :: a1 :: some (.int x) :: l, .int x :: st, M) o9 := pj_xs (s123_31)
theorem q123_32 : pj_row 123 32 = some (.sipush 152, 3, 0, 0, 0) := by decide +kernel
theorem s123_32 {L : pj_Loc} {st : List Value} {M : pj_Mem}  : pj_step 123 (32, L, st, M) = some (35, L, .int 152 :: st, M) := st_sipush q123_32 (by decide +kernel)
theorem x123_32 {L : pj_Loc} {st : List Value} {M : pj_Mem}  {o9 : Option Value × pj_Mem} : pj_Ends 123 (32, L, st, M) o9 = pj_Ends 123 (35, L, .int 152 :: st, M) o9 := pj_xs (s123_32)
theorem q123_35 : pj_row 123 35 = some (.if_icmp .ge 27, 3, 62, 0, 0) := by decide +kernel
theorem s123_35 {L : pj_Loc} {st : List Value} {M : pj_Mem} {x y : Int32} : pj_step 123 (35, L, .int y :: .int x :: st, M) = some (if y ≤ x then 62 else 38, L, st, M) := st_icmp_ge q123_35
theorem x123_35 {L : pj_Loc} {st : List Value} {M : pj_Mem} {x y : Int32} {o9 : Option Value × pj_Mem} : pj_Ends 123 (35, L, .int y :: .int x :: st, M) o9 = pj_Ends 123 (if y ≤ x then 62 else 38, L, st, M) o9 := pj_xs (s123_35)
theorem q123_38 : pj_row 123 38 = some (.aload_n 0, 1, 0, 0, 0) := by decide +kernel
theorem s123_38 {st : List Value} {M : pj_Mem} {l : pj_Loc} {x : Nat} : pj_step 123 (38, some (.ref x) :: l, st, M) = some (39, some (.ref x) :: l, .ref x :: st, M) := st_aload_n q123_38 rfl
theorem x123_38 {st : List Value} {M : pj_Mem} {l : pj_Loc} {x : Nat} {o9 : Option Value × pj_Mem} : pj_Ends 123 (38, some (.ref x) :: l, st, M) o9 = pj_Ends 123 (39, some (.ref x) :: l, .ref x :: st, M) o9 := pj_xs (s123_38)
theorem q123_39 : pj_row 123 39 = some (.getfield 7, 3, 6, 0, 0) := by decide +kernel
theorem s123_39 {L : pj_Loc} {st : List Value} {N S : Nat} {H : pj_Heap} {o : Nat} : pj_step 123 (39, L, .ref o :: st, (N, S, H)) = pj_pv 42 L st (N, S, H) (pj_fld (H o) 6 0) := st_getfield q123_39
theorem x123_39 {L : pj_Loc} {st : List Value} {N S : Nat} {H : pj_Heap} {o : Nat} {o9 : Option Value × pj_Mem} : pj_Ends 123 (39, L, .ref o :: st, (N, S, H)) o9 = pj_then 123 o9 (pj_pv 42 L st (N, S, H) (pj_fld (H o) 6 0)) := pj_xt q123_39 rfl (pj_cl_nc rfl) (s123_39)
theorem q123_42 : pj_row 123 42 = some (.iload_n 2, 1, 0, 0, 0) := by decide +kernel
theorem s123_42 {st : List Value} {M : pj_Mem} {l : pj_Loc} {a0 a1 : Option Value} {x : Int32} : pj_step 123 (42, a0 :: a1 :: some (.int x) :: l, st, M) = some (43, a0 :: a1 :: some (.int x) :: l, .int x :: st, M) := st_iload_n q123_42 rfl
theorem x123_42 {st : List Value} {M : pj_Mem} {l : pj_Loc} {a0 a1 : Option Value} {x : Int32} {o9 : Option Value × pj_Mem} : pj_Ends 123 (42, a0 :: a1 :: some (.int x) :: l, st, M) o9 = pj_Ends 123 (43, a0 :: a1 :: some (.int x) :: l, .int x :: st, M) o9 := pj_xs (s123_42)
theorem q123_43 : pj_row 123 43 = some (.aload_n 0, 1, 0, 0, 0) := by decide +kernel
theorem s123_43 {st : List Value} {M : pj_Mem} {l : pj_Loc} {x : Nat} : pj_step 123 (43, some (.ref x) :: l, st, M) = some (44, some (.ref x) :: l, .ref x :: st, M) := st_aload_n q123_43 rfl
theorem x123_43 {st : List Value} {M : pj_Mem} {l : pj_Loc} {x : Nat} {o9 : Option Value × pj_Mem} : pj_Ends 123 (43, some (.ref x) :: l, st, M) o9 = pj_Ends 123 (44, some (.ref x) :: l, .ref x :: st, M) o9 := pj_xs (s123_43)
theorem q123_44 : pj_row 123 44 = some (.getfield 19, 3, 6, 4, 0) := by decide +kernel
theorem s123_44 {L : pj_Loc} {st : List Value} {N S : Nat} {H : pj_Heap} {o : Nat} : pj_step 123 (44, L, .ref o :: st, (N, S, H)) = pj_pv 47 L st (N, S, H) (pj_fld (H o) 6 4) := st_getfield q123_44
theorem x123_44 {L : pj_Loc} {st : List Value} {N S : Nat} {H : pj_Heap} {o : Nat} {o9 : Option Value × pj_Mem} : pj_Ends 123 (44, L, .ref o :: st, (N, S, H)) o9 = pj_then 123 o9 (pj_pv 47 L st (N, S, H) (pj_fld (H o) 6 4)) := pj_xt q123_44 rfl (pj_cl_nc rfl) (s123_44)
theorem q123_47 : pj_row 123 47 = some (.sipush 152, 3, 0, 0, 0) := by decide +kernel
theorem s123_47 {L : pj_Loc} {st : List Value} {M : pj_Mem}  : pj_step 123 (47, L, st, M) = some (50, L, .int 152 :: st, M) := st_sipush q123_47 (by decide +kernel)
theorem x123_47 {L : pj_Loc} {st : List Value} {M : pj_Mem}  {o9 : Option Value × pj_Mem} : pj_Ends 123 (47, L, st, M) o9 = pj_Ends 123 (50, L, .int 152 :: st, M) o9 := pj_xs (s123_47)
theorem q123_50 : pj_row 123 50 = some (.iload_n 1, 1, 0, 0, 0) := by decide +kernel
theorem s123_50 {st : List Value} {M : pj_Mem} {l : pj_Loc} {a0 : Option Value} {x : Int32} : pj_step 123 (50, a0 :: some (.int x) :: l, st, M) = some (51, a0 :: some (.int x) :: l, .int x :: st, M) := st_iload_n q123_50 rfl
theorem x123_50 {st : List Value} {M : pj_Mem} {l : pj_Loc} {a0 : Option Value} {x : Int32} {o9 : Option Value × pj_Mem} : pj_Ends 123 (50, a0 :: some (.int x) :: l, st, M) o9 = pj_Ends 123 (51, a0 :: some (.int x) :: l, .int x :: st, M) o9 := pj_xs (s123_50)
theorem q123_51 : pj_row 123 51 = some (.imul, 1, 0, 0, 0) := by decide +kernel
theorem s123_51 {L : pj_Loc} {st : List Value} {M : pj_Mem} {x y : Int32} : pj_step 123 (51, L, .int y :: .int x :: st, M) = some (52, L, .int (x * y) :: st, M) := st_imul q123_51
theorem x123_51 {L : pj_Loc} {st : List Value} {M : pj_Mem} {x y : Int32} {o9 : Option Value × pj_Mem} : pj_Ends 123 (51, L, .int y :: .int x :: st, M) o9 = pj_Ends 123 (52, L, .int (x * y) :: st, M) o9 := pj_xs (s123_51)
theorem q123_52 : pj_row 123 52 = some (.iload_n 2, 1, 0, 0, 0) := by decide +kernel
theorem s123_52 {st : List Value} {M : pj_Mem} {l : pj_Loc} {a0 a1 : Option Value} {x : Int32} : pj_step 123 (52, a0 :: a1 :: some (.int x) :: l, st, M) = some (53, a0 :: a1 :: some (.int x) :: l, .int x :: st, M) := st_iload_n q123_52 rfl
theorem x123_52 {st : List Value} {M : pj_Mem} {l : pj_Loc} {a0 a1 : Option Value} {x : Int32} {o9 : Option Value × pj_Mem} : pj_Ends 123 (52, a0 :: a1 :: some (.int x) :: l, st, M) o9 = pj_Ends 123 (53, a0 :: a1 :: some (.int x) :: l, .int x :: st, M) o9 := pj_xs (s123_52)
theorem q123_53 : pj_row 123 53 = some (.iadd, 1, 0, 0, 0) := by decide +kernel
theorem s123_53 {L : pj_Loc} {st : List Value} {M : pj_Mem} {x y : Int32} : pj_step 123 (53, L, .int y :: .int x :: st, M) = some (54, L, .int (x + y) :: st, M) := st_iadd q123_53
theorem x123_53 {L : pj_Loc} {st : List Value} {M : pj_Mem} {x y : Int32} {o9 : Option Value × pj_Mem} : pj_Ends 123 (53, L, .int y :: .int x :: st, M) o9 = pj_Ends 123 (54, L, .int (x + y) :: st, M) o9 := pj_xs (s123_53)
theorem q123_54 : pj_row 123 54 = some (.iaload, 1, 0, 0, 0) := by decide +kernel
theorem s123_54 {L : pj_Loc} {st : List Value} {N S : Nat} {H : pj_Heap} {o : Nat} {i : Int32} : pj_step 123 (54, L, .int i :: .ref o :: st, (N, S, H)) = pj_pi 55 L st (N, S, H) (pj_arl (H o) 0 i) := st_iaload q123_54
theorem x123_54 {L : pj_Loc} {st : List Value} {N S : Nat} {H : pj_Heap} {o : Nat} {i : Int32} {o9 : Option Value × pj_Mem} : pj_Ends 123 (54, L, .int i :: .ref o :: st, (N, S, H)) o9 = pj_then 123 o9 (pj_pi 55 L st (N, S, H) (pj_arl (H o) 0 i)) := pj_xt q123_54 rfl (pj_cl_nc rfl) (s123_54)
theorem q123_55 : pj_row 123 55 = some (.iastore, 1, 0, 0, 0) := by decide +kernel
theorem s123_55 {L : pj_Loc} {st : List Value} {N S : Nat} {H : pj_Heap} {o : Nat} {i x : Int32} : pj_step 123 (55, L, .int x :: .int i :: .ref o :: st, (N, S, H)) = pj_set 56 L st (N, S, H) o (pj_ars (H o) 0 i x) := st_iastore q123_55
theorem x123_55 {L : pj_Loc} {st : List Value} {N S : Nat} {H : pj_Heap} {o : Nat} {i x : Int32} {o9 : Option Value × pj_Mem} : pj_Ends 123 (55, L, .int x :: .int i :: .ref o :: st, (N, S, H)) o9 = pj_then 123 o9 (pj_set 56 L st (N, S, H) o (pj_ars (H o) 0 i x)) := pj_xt q123_55 rfl (pj_cl_nc rfl) (s123_55)
theorem q123_56 : pj_row 123 56 = some (.iinc 2 1, 3, 0, 0, 0) := by decide +kernel
theorem s123_56 {st : List Value} {M : pj_Mem} {l : pj_Loc} {a0 a1 : Option Value} {x : Int32} (h : pj_long a1 = false) : pj_step 123 (56, a0 :: a1 :: some (.int x) :: l, st, M) = some (59, a0 :: a1 :: some (.int (x + 1)) :: l, st, M) := st_iinc q123_56 rfl (congrArg (fun y => x + y) (show Int32.ofInt 1 = 1 by decide +kernel)) (pj_st_2 h)
theorem x123_56 {st : List Value} {M : pj_Mem} {l : pj_Loc} {a0 a1 : Option Value} {x : Int32} (h : pj_long a1 = false) {o9 : Option Value × pj_Mem} : pj_Ends 123 (56, a0 :: a1 :: some (.int x) :: l, st, M) o9 = pj_Ends 123 (59, a0 :: a1 :: some (.int (x + 1)) :: l, st, M) o9 := pj_xs (s123_56 h)
theorem q123_59 : pj_row 123 59 = some (.goto (-28), 3, 31, 0, 0) := by decide +kernel
theorem s123_59 {L : pj_Loc} {st : List Value} {M : pj_Mem}  : pj_step 123 (59, L, st, M) = some (31, L, st, M) := st_goto q123_59
theorem x123_59 {L : pj_Loc} {st : List Value} {M : pj_Mem}  {o9 : Option Value × pj_Mem} : pj_Ends 123 (59, L, st, M) o9 = pj_Ends 123 (31, L, st, M) o9 := pj_xs (s123_59)
theorem q123_62 : pj_row 123 62 = some (.aload_n 0, 1, 0, 0, 0) := by decide +kernel
theorem s123_62 {st : List Value} {M : pj_Mem} {l : pj_Loc} {x : Nat} : pj_step 123 (62, some (.ref x) :: l, st, M) = some (63, some (.ref x) :: l, .ref x :: st, M) := st_aload_n q123_62 rfl
theorem x123_62 {st : List Value} {M : pj_Mem} {l : pj_Loc} {x : Nat} {o9 : Option Value × pj_Mem} : pj_Ends 123 (62, some (.ref x) :: l, st, M) o9 = pj_Ends 123 (63, some (.ref x) :: l, .ref x :: st, M) o9 := pj_xs (s123_62)
theorem q123_63 : pj_row 123 63 = some (.aload_n 0, 1, 0, 0, 0) := by decide +kernel
theorem s123_63 {st : List Value} {M : pj_Mem} {l : pj_Loc} {x : Nat} : pj_step 123 (63, some (.ref x) :: l, st, M) = some (64, some (.ref x) :: l, .ref x :: st, M) := st_aload_n q123_63 rfl
theorem x123_63 {st : List Value} {M : pj_Mem} {l : pj_Loc} {x : Nat} {o9 : Option Value × pj_Mem} : pj_Ends 123 (63, some (.ref x) :: l, st, M) o9 = pj_Ends 123 (64, some (.ref x) :: l, .ref x :: st, M) o9 := pj_xs (s123_63)
theorem q123_64 : pj_row 123 64 = some (.getfield 7, 3, 6, 0, 0) := by decide +kernel
theorem s123_64 {L : pj_Loc} {st : List Value} {N S : Nat} {H : pj_Heap} {o : Nat} : pj_step 123 (64, L, .ref o :: st, (N, S, H)) = pj_pv 67 L st (N, S, H) (pj_fld (H o) 6 0) := st_getfield q123_64
theorem x123_64 {L : pj_Loc} {st : List Value} {N S : Nat} {H : pj_Heap} {o : Nat} {o9 : Option Value × pj_Mem} : pj_Ends 123 (64, L, .ref o :: st, (N, S, H)) o9 = pj_then 123 o9 (pj_pv 67 L st (N, S, H) (pj_fld (H o) 6 0)) := pj_xt q123_64 rfl (pj_cl_nc rfl) (s123_64)
theorem q123_67 : pj_row 123 67 = some (.bipush 6, 2, 0, 0, 0) := by decide +kernel
theorem s123_67 {L : pj_Loc} {st : List Value} {M : pj_Mem}  : pj_step 123 (67, L, st, M) = some (69, L, .int 6 :: st, M) := st_bipush q123_67 (by decide +kernel)
theorem x123_67 {L : pj_Loc} {st : List Value} {M : pj_Mem}  {o9 : Option Value × pj_Mem} : pj_Ends 123 (67, L, st, M) o9 = pj_Ends 123 (69, L, .int 6 :: st, M) o9 := pj_xs (s123_67)
theorem q123_69 : pj_row 123 69 = some (.iaload, 1, 0, 0, 0) := by decide +kernel
theorem s123_69 {L : pj_Loc} {st : List Value} {N S : Nat} {H : pj_Heap} {o : Nat} {i : Int32} : pj_step 123 (69, L, .int i :: .ref o :: st, (N, S, H)) = pj_pi 70 L st (N, S, H) (pj_arl (H o) 0 i) := st_iaload q123_69
theorem x123_69 {L : pj_Loc} {st : List Value} {N S : Nat} {H : pj_Heap} {o : Nat} {i : Int32} {o9 : Option Value × pj_Mem} : pj_Ends 123 (69, L, .int i :: .ref o :: st, (N, S, H)) o9 = pj_then 123 o9 (pj_pi 70 L st (N, S, H) (pj_arl (H o) 0 i)) := pj_xt q123_69 rfl (pj_cl_nc rfl) (s123_69)
theorem q123_70 : pj_row 123 70 = some (.invokevirtual 124, 3, 79, 2, 0) := by decide +kernel
theorem e123_70 {L : pj_Loc} {st : List Value} {N S : Nat} {H : pj_Heap} {o : Option Value × pj_Mem} {M' : pj_Mem} {x0 : Nat} {x1 : Int32} {r : Int32} (h4 : pj_le4 st = true) (hu : pj_isU 6 (H x0) = true) (h1 : pj_Ends 79 (0, [some (.ref x0), some (.int x1), none], [], (N, S, H)) (some (.int r), M')) (h2 : pj_Ends 123 (73, L, .int r :: st, M') o) : pj_Ends 123 (70, L, .int x1 :: .ref x0 :: st, (N, S, H)) o := ec_v2 q123_70 (Or.inl rfl) h4 hu rfl h1 h2
theorem q123_73 : pj_row 123 73 = some (.ireturn, 1, 0, 0, 0) := by decide +kernel
theorem t123_73 {L : pj_Loc} {M : pj_Mem} {v : Int32} : pj_Ends 123 (73, L, [.int v], M) (some (.int v), M) := pj_Ends.ret q123_73 (pj_rtn_i rt123)
