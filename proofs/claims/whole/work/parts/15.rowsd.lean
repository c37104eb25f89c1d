/-! THE STEPS OF EACH METHOD, by program (wip/whole/gen/gen12.py) -/
theorem rt100 : pj_rt 100 = some .boolean := rfl
theorem q100_0 : pj_row 100 0 = some (.iload_n 0, 1, 0, 0, 0) := by decide +kernel
theorem s100_0 {st : List Value} {M : pj_Mem} {l : pj_Loc} {x : Int32} : pj_step 100 (0, some (.int x) :: l, st, M) = some (1, some (.int x) :: l, .int x :: st, M) := st_iload_n q100_0 rfl
theorem q100_1 : pj_row 100 1 = some (.i2l, 1, 0, 0, 0) := by decide +kernel
theorem s100_1 {L : pj_Loc} {st : List Value} {M : pj_Mem} {x : Int32} : pj_step 100 (1, L, .int x :: st, M) = some (2, L, .long x.toInt64 :: st, M) := st_i2l q100_1
theorem q100_2 : pj_row 100 2 = some (.lconst 0, 1, 0, 0, 0) := by decide +kernel
theorem s100_2 {L : pj_Loc} {st : List Value} {M : pj_Mem}  : pj_step 100 (2, L, st, M) = some (3, L, .long 0 :: st, M) := st_lconst q100_2 (by decide +kernel)
theorem q100_3 : pj_row 100 3 = some (.ldc2_w 46, 3, 0, 0, 2) := by decide +kernel
theorem s100_3 {L : pj_Loc} {st : List Value} {M : pj_Mem}  : pj_step 100 (3, L, st, M) = some (6, L, .long 2 :: st, M) := st_ldc2_w q100_3 (by decide +kernel)
theorem q100_6 : pj_row 100 6 = some (.invokestatic 42, 3, 77, 3, 0) := by decide +kernel
theorem e100_6 {L : pj_Loc} {st : List Value} {N S : Nat} {H : pj_Heap} {o : Option Value × pj_Mem} {M' : pj_Mem} {x0 : Int64} {x1 : Int64} {x2 : Int64} {r : Int32} (h4 : pj_le4 st = true) (h1 : pj_Ends 77 (0, [some (.long x0), none, some (.long x1), none, some (.long x2), none], [], (N, S, H)) (some (.int r), M')) (h2 : pj_Ends 100 (9, L, .int r :: st, M') o) : pj_Ends 100 (6, L, .long x2 :: .long x1 :: .long x0 :: st, (N, S, H)) o := ec_s3 q100_6 (Or.inl rfl) h4 rfl h1 h2
theorem q100_9 : pj_row 100 9 = some (.ireturn, 1, 0, 0, 0) := by decide +kernel
theorem t100_9 {L : pj_Loc} {M : pj_Mem} {v : Int32} (hv : v = 0 ∨ v = 1) : pj_Ends 100 (9, L, [.int v], M) (some (.int v), M) := pj_Ends.ret q100_9 (pj_rtn_z rt100 hv)
theorem rt101 : pj_rt 101 = some .int := rfl
theorem q101_0 : pj_row 101 0 = some (.aload_n 0, 1, 0, 0, 0) := by decide +kernel
theorem s101_0 {st : List Value} {M : pj_Mem} {l : pj_Loc} {x : Nat} : pj_step 101 (0, some (.ref x) :: l, st, M) = some (1, some (.ref x) :: l, .ref x :: st, M) := st_aload_n q101_0 rfl
theorem q101_1 : pj_row 101 1 = some (.getfield 7, 3, 6, 0, 0) := by decide +kernel
theorem s101_1 {L : pj_Loc} {st : List Value} {N S : Nat} {H : pj_Heap} {o : Nat} : pj_step 101 (1, L, .ref o :: st, (N, S, H)) = pj_pv 4 L st (N, S, H) (pj_fld (H o) 6 0) := st_getfield q101_1
theorem q101_4 : pj_row 101 4 = some (.bipush 26, 2, 0, 0, 0) := by decide +kernel
theorem s101_4 {L : pj_Loc} {st : List Value} {M : pj_Mem}  : pj_step 101 (4, L, st, M) = some (6, L, .int 26 :: st, M) := st_bipush q101_4 (by decide +kernel)
theorem q101_6 : pj_row 101 6 = some (.iaload, 1, 0, 0, 0) := by decide +kernel
theorem s101_6 {L : pj_Loc} {st : List Value} {N S : Nat} {H : pj_Heap} {o : Nat} {i : Int32} : pj_step 101 (6, L, .int i :: .ref o :: st, (N, S, H)) = pj_pi 7 L st (N, S, H) (pj_arl (H o) 0 i) := st_iaload q101_6
theorem q101_7 : pj_row 101 7 = some (.iconst 2, 1, 0, 0, 0) := by decide +kernel
theorem s101_7 {L : pj_Loc} {st : List Value} {M : pj_Mem}  : pj_step 101 (7, L, st, M) = some (8, L, .int 2 :: st, M) := st_iconst q101_7 (by decide +kernel)
theorem q101_8 : pj_row 101 8 = some (.aload_n 0, 1, 0, 0, 0) := by decide +kernel
theorem s101_8 {st : List Value} {M : pj_Mem} {l : pj_Loc} {x : Nat} : pj_step 101 (8, some (.ref x) :: l, st, M) = some (9, some (.ref x) :: l, .ref x :: st, M) := st_aload_n q101_8 rfl
theorem q101_9 : pj_row 101 9 = some (.getfield 7, 3, 6, 0, 0) := by decide +kernel
theorem s101_9 {L : pj_Loc} {st : List Value} {N S : Nat} {H : pj_Heap} {o : Nat} : pj_step 101 (9, L, .ref o :: st, (N, S, H)) = pj_pv 12 L st (N, S, H) (pj_fld (H o) 6 0) := st_getfield q101_9
theorem q101_12 : pj_row 101 12 = some (.bipush 27, 2, 0, 0, 0) := by decide +kernel
theorem s101_12 {L : pj_Loc} {st : List Value} {M : pj_Mem}  : pj_step 101 (12, L, st, M) = some (14, L, .int 27 :: st, M) := st_bipush q101_12 (by decide +kernel)
theorem q101_14 : pj_row 101 14 = some (.iaload, 1, 0, 0, 0) := by decide +kernel
theorem s101_14 {L : pj_Loc} {st : List Value} {N S : Nat} {H : pj_Heap} {o : Nat} {i : Int32} : pj_step 101 (14, L, .int i :: .ref o :: st, (N, S, H)) = pj_pi 15 L st (N, S, H) (pj_arl (H o) 0 i) := st_iaload q101_14
theorem q101_15 : pj_row 101 15 = some (.imul, 1, 0, 0, 0) := by decide +kernel
theorem s101_15 {L : pj_Loc} {st : List Value} {M : pj_Mem} {x y : Int32} : pj_step 101 (15, L, .int y :: .int x :: st, M) = some (16, L, .int (x * y) :: st, M) := st_imul q101_15
theorem q101_16 : pj_row 101 16 = some (.iadd, 1, 0, 0, 0) := by decide +kernel
theorem s101_16 {L : pj_Loc} {st : List Value} {M : pj_Mem} {x y : Int32} : pj_step 101 (16, L, .int y :: .int x :: st, M) = some (17, L, .int (x + y) :: st, M) := st_iadd q101_16
theorem q101_17 : pj_row 101 17 = some (.iconst 4, 1, 0, 0, 0) := by decide +kernel
theorem s101_17 {L : pj_Loc} {st : List Value} {M : pj_Mem}  : pj_step 101 (17, L, st, M) = some (18, L, .int 4 :: st, M) := st_iconst q101_17 (by decide +kernel)
theorem q101_18 : pj_row 101 18 = some (.aload_n 0, 1, 0, 0, 0) := by decide +kernel
theorem s101_18 {st : List Value} {M : pj_Mem} {l : pj_Loc} {x : Nat} : pj_step 101 (18, some (.ref x) :: l, st, M) = some (19, some (.ref x) :: l, .ref x :: st, M) := st_aload_n q101_18 rfl
theorem q101_19 : pj_row 101 19 = some (.getfield 7, 3, 6, 0, 0) := by decide +kernel
theorem s101_19 {L : pj_Loc} {st : List Value} {N S : Nat} {H : pj_Heap} {o : Nat} : pj_step 101 (19, L, .ref o :: st, (N, S, H)) = pj_pv 22 L st (N, S, H) (pj_fld (H o) 6 0) := st_getfield q101_19
theorem q101_22 : pj_row 101 22 = some (.bipush 28, 2, 0, 0, 0) := by decide +kernel
theorem s101_22 {L : pj_Loc} {st : List Value} {M : pj_Mem}  : pj_step 101 (22, L, st, M) = some (24, L, .int 28 :: st, M) := st_bipush q101_22 (by decide +kernel)
theorem q101_24 : pj_row 101 24 = some (.iaload, 1, 0, 0, 0) := by decide +kernel
theorem s101_24 {L : pj_Loc} {st : List Value} {N S : Nat} {H : pj_Heap} {o : Nat} {i : Int32} : pj_step 101 (24, L, .int i :: .ref o :: st, (N, S, H)) = pj_pi 25 L st (N, S, H) (pj_arl (H o) 0 i) := st_iaload q101_24
theorem q101_25 : pj_row 101 25 = some (.imul, 1, 0, 0, 0) := by decide +kernel
theorem s101_25 {L : pj_Loc} {st : List Value} {M : pj_Mem} {x y : Int32} : pj_step 101 (25, L, .int y :: .int x :: st, M) = some (26, L, .int (x * y) :: st, M) := st_imul q101_25
theorem q101_26 : pj_row 101 26 = some (.iadd, 1, 0, 0, 0) := by decide +kernel
theorem s101_26 {L : pj_Loc} {st : List Value} {M : pj_Mem} {x y : Int32} : pj_step 101 (26, L, .int y :: .int x :: st, M) = some (27, L, .int (x + y) :: st, M) := st_iadd q101_26
theorem q101_27 : pj_row 101 27 = some (.ireturn, 1, 0, 0, 0) := by decide +kernel
theorem t101_27 {L : pj_Loc} {M : pj_Mem} {v : Int32} : pj_Ends 101 (27, L, [.int v], M) (some (.int v), M) := pj_Ends.ret q101_27 (pj_rtn_i rt101)
theorem rt102 : pj_rt 102 = some .int := rfl
theorem q102_0 : pj_row 102 0 = some (.iload_n 1, 1, 0, 0, 0) := by decide +kernel
theorem s102_0 {st : List Value} {M : pj_Mem} {l : pj_Loc} {a0 : Option Value} {x : Int32} : pj_step 102 (0, a0 :: some (.int x) :: l, st, M) = some (1, a0 :: some (.int x) :: l, .int x :: st, M) := st_iload_n q102_0 rfl
theorem q102_1 : pj_row 102 1 = some (.invokestatic 137, 3, 100, 1, 0) := by decide +kernel
theorem e102_1 {L : pj_Loc} {st : List Value} {N S : Nat} {H : pj_Heap} {o : Option Value × pj_Mem} {M' : pj_Mem} {x0 : Int32} {r : Int32} (h4 : pj_le4 st = true) (h1 : pj_Ends 100 (0, [some (.int x0)], [], (N, S, H)) (some (.int r), M')) (h2 : pj_Ends 102 (4, L, .int r :: st, M') o) : pj_Ends 102 (1, L, .int x0 :: st, (N, S, H)) o := ec_s1 q102_1 (Or.inl rfl) h4 rfl h1 h2
theorem q102_4 : pj_row 102 4 = some (.ifCond .ne 5, 3, 9, 0, 0) := by decide +kernel
theorem s102_4 {L : pj_Loc} {st : List Value} {M : pj_Mem} {x : Int32} : pj_step 102 (4, L, .int x :: st, M) = some (if ¬ x = 0 then 9 else 7, L, st, M) := st_if_ne q102_4
theorem q102_7 : pj_row 102 7 = some (.iconst (-1), 1, 0, 0, 0) := by decide +kernel
theorem s102_7 {L : pj_Loc} {st : List Value} {M : pj_Mem}  : pj_step 102 (7, L, st, M) = some (8, L, .int (-1) :: st, M) := st_iconst q102_7 (by decide +kernel)
theorem q102_8 : pj_row 102 8 = some (.ireturn, 1, 0, 0, 0) := by decide +kernel
theorem t102_8 {L : pj_Loc} {M : pj_Mem} {v : Int32} : pj_Ends 102 (8, L, [.int v], M) (some (.int v), M) := pj_Ends.ret q102_8 (pj_rtn_i rt102)
theorem q102_9 : pj_row 102 9 = some (.aload_n 0, 1, 0, 0, 0) := by decide +kernel
theorem s102_9 {st : List Value} {M : pj_Mem} {l : pj_Loc} {x : Nat} : pj_step 102 (9, some (.ref x) :: l, st, M) = some (10, some (.ref x) :: l, .ref x :: st, M) := st_aload_n q102_9 rfl
theorem q102_10 : pj_row 102 10 = some (.invokevirtual 143, 3, 103, 1, 0) := by decide +kernel
theorem e102_10 {L : pj_Loc} {st : List Value} {N S : Nat} {H : pj_Heap} {o : Option Value × pj_Mem} {M' : pj_Mem} {x0 : Nat} {r : Int32} (h4 : pj_le4 st = true) (hu : pj_isU 6 (H x0) = true) (h1 : pj_Ends 103 (0, [some (.ref x0), none, none], [], (N, S, H)) (some (.int r), M')) (h2 : pj_Ends 102 (13, L, .int r :: st, M') o) : pj_Ends 102 (10, L, .ref x0 :: st, (N, S, H)) o := ec_v1 q102_10 (Or.inl rfl) h4 hu rfl h1 h2
theorem q102_13 : pj_row 102 13 = some (.ifCond .eq 6, 3, 19, 0, 0) := by decide +kernel
theorem s102_13 {L : pj_Loc} {st : List Value} {M : pj_Mem} {x : Int32} : pj_step 102 (13, L, .int x :: st, M) = some (if x = 0 then 19 else 16, L, st, M) := st_if_eq q102_13
theorem q102_16 : pj_row 102 16 = some (.bipush (-5), 2, 0, 0, 0) := by decide +kernel
theorem s102_16 {L : pj_Loc} {st : List Value} {M : pj_Mem}  : pj_step 102 (16, L, st, M) = some (18, L, .int (-5) :: st, M) := st_bipush q102_16 (by decide +kernel)
theorem q102_18 : pj_row 102 18 = some (.ireturn, 1, 0, 0, 0) := by decide +kernel
theorem t102_18 {L : pj_Loc} {M : pj_Mem} {v : Int32} : pj_Ends 102 (18, L, [.int v], M) (some (.int v), M) := pj_Ends.ret q102_18 (pj_rtn_i rt102)
theorem q102_19 : pj_row 102 19 = some (.aload_n 0, 1, 0, 0, 0) := by decide +kernel
theorem s102_19 {st : List Value} {M : pj_Mem} {l : pj_Loc} {x : Nat} : pj_step 102 (19, some (.ref x) :: l, st, M) = some (20, some (.ref x) :: l, .ref x :: st, M) := st_aload_n q102_19 rfl
theorem q102_20 : pj_row 102 20 = some (.invokevirtual 121, 3, 78, 1, 0) := by decide +kernel
theorem e102_20 {L : pj_Loc} {st : List Value} {N S : Nat} {H : pj_Heap} {o : Option Value × pj_Mem} {M' : pj_Mem} {x0 : Nat} (h4 : pj_le4 st = true) (hu : pj_isU 6 (H x0) = true) (h1 : pj_Ends 78 (0, [some (.ref x0), none], [], (N, S, H)) (none, M')) (h2 : pj_Ends 102 (23, L, st, M') o) : pj_Ends 102 (20, L, .ref x0 :: st, (N, S, H)) o := ec_v1 q102_20 (Or.inl rfl) h4 hu rfl h1 h2
theorem q102_23 : pj_row 102 23 = some (.iconst 1, 1, 0, 0, 0) := by decide +kernel
theorem s102_23 {L : pj_Loc} {st : List Value} {M : pj_Mem}  : pj_step 102 (23, L, st, M) = some (24, L, .int 1 :: st, M) := st_iconst q102_23 (by decide +kernel)
theorem q102_24 : pj_row 102 24 = some (.aload_n 0, 1, 0, 0, 0) := by decide +kernel
theorem s102_24 {st : List Value} {M : pj_Mem} {l : pj_Loc} {x : Nat} : pj_step 102 (24, some (.ref x) :: l, st, M) = some (25, some (.ref x) :: l, .ref x :: st, M) := st_aload_n q102_24 rfl
theorem q102_25 : pj_row 102 25 = some (.getfield 7, 3, 6, 0, 0) := by decide +kernel
theorem s102_25 {L : pj_Loc} {st : List Value} {N S : Nat} {H : pj_Heap} {o : Nat} : pj_step 102 (25, L, .ref o :: st, (N, S, H)) = pj_pv 28 L st (N, S, H) (pj_fld (H o) 6 0) := st_getfield q102_25
theorem q102_28 : pj_row 102 28 = some (.bipush 14, 2, 0, 0, 0) := by decide +kernel
theorem s102_28 {L : pj_Loc} {st : List Value} {M : pj_Mem}  : pj_step 102 (28, L, st, M) = some (30, L, .int 14 :: st, M) := st_bipush q102_28 (by decide +kernel)
theorem q102_30 : pj_row 102 30 = some (.iload_n 1, 1, 0, 0, 0) := by decide +kernel
theorem s102_30 {st : List Value} {M : pj_Mem} {l : pj_Loc} {a0 : Option Value} {x : Int32} : pj_step 102 (30, a0 :: some (.int x) :: l, st, M) = some (31, a0 :: some (.int x) :: l, .int x :: st, M) := st_iload_n q102_30 rfl
theorem q102_31 : pj_row 102 31 = some (.iadd, 1, 0, 0, 0) := by decide +kernel
theorem s102_31 {L : pj_Loc} {st : List Value} {M : pj_Mem} {x y : Int32} : pj_step 102 (31, L, .int y :: .int x :: st, M) = some (32, L, .int (x + y) :: st, M) := st_iadd q102_31
theorem q102_32 : pj_row 102 32 = some (.iaload, 1, 0, 0, 0) := by decide +kernel
theorem s102_32 {L : pj_Loc} {st : List Value} {N S : Nat} {H : pj_Heap} {o : Nat} {i : Int32} : pj_step 102 (32, L, .int i :: .ref o :: st, (N, S, H)) = pj_pi 33 L st (N, S, H) (pj_arl (H o) 0 i) := st_iaload q102_32
theorem q102_33 : pj_row 102 33 = some (.isub, 1, 0, 0, 0) := by decide +kernel
theorem s102_33 {L : pj_Loc} {st : List Value} {M : pj_Mem} {x y : Int32} : pj_step 102 (33, L, .int y :: .int x :: st, M) = some (34, L, .int (x - y) :: st, M) := st_isub q102_33
theorem q102_34 : pj_row 102 34 = some (.istore_n 2, 1, 0, 0, 0) := by decide +kernel
theorem s102_34 {st : List Value} {M : pj_Mem} {l : pj_Loc} {a0 a1 a2 : Option Value} {x : Int32} (h : pj_long a1 = false) : pj_step 102 (34, a0 :: a1 :: a2 :: l, .int x :: st, M) = some (35, a0 :: a1 :: some (.int x) :: l, st, M) := st_istore_n q102_34 (pj_st_2 h)
theorem q102_35 : pj_row 102 35 = some (.aload_n 0, 1, 0, 0, 0) := by decide +kernel
theorem s102_35 {st : List Value} {M : pj_Mem} {l : pj_Loc} {x : Nat} : pj_step 102 (35, some (.ref x) :: l, st, M) = some (36, some (.ref x) :: l, .ref x :: st, M) := st_aload_n q102_35 rfl
theorem q102_36 : pj_row 102 36 = some (.getfield 7, 3, 6, 0, 0) := by decide +kernel
theorem s102_36 {L : pj_Loc} {st : List Value} {N S : Nat} {H : pj_Heap} {o : Nat} : pj_step 102 (36, L, .ref o :: st, (N, S, H)) = pj_pv 39 L st (N, S, H) (pj_fld (H o) 6 0) := st_getfield q102_36
theorem q102_39 : pj_row 102 39 = some (.bipush 14, 2, 0, 0, 0) := by decide +kernel
theorem s102_39 {L : pj_Loc} {st : List Value} {M : pj_Mem}  : pj_step 102 (39, L, st, M) = some (41, L, .int 14 :: st, M) := st_bipush q102_39 (by decide +kernel)
theorem q102_41 : pj_row 102 41 = some (.iload_n 1, 1, 0, 0, 0) := by decide +kernel
theorem s102_41 {st : List Value} {M : pj_Mem} {l : pj_Loc} {a0 : Option Value} {x : Int32} : pj_step 102 (41, a0 :: some (.int x) :: l, st, M) = some (42, a0 :: some (.int x) :: l, .int x :: st, M) := st_iload_n q102_41 rfl
theorem q102_42 : pj_row 102 42 = some (.iadd, 1, 0, 0, 0) := by decide +kernel
theorem s102_42 {L : pj_Loc} {st : List Value} {M : pj_Mem} {x y : Int32} : pj_step 102 (42, L, .int y :: .int x :: st, M) = some (43, L, .int (x + y) :: st, M) := st_iadd q102_42
theorem q102_43 : pj_row 102 43 = some (.iconst 1, 1, 0, 0, 0) := by decide +kernel
theorem s102_43 {L : pj_Loc} {st : List Value} {M : pj_Mem}  : pj_step 102 (43, L, st, M) = some (44, L, .int 1 :: st, M) := st_iconst q102_43 (by decide +kernel)
theorem q102_44 : pj_row 102 44 = some (.iastore, 1, 0, 0, 0) := by decide +kernel
theorem s102_44 {L : pj_Loc} {st : List Value} {N S : Nat} {H : pj_Heap} {o : Nat} {i x : Int32} : pj_step 102 (44, L, .int x :: .int i :: .ref o :: st, (N, S, H)) = pj_set 45 L st (N, S, H) o (pj_ars (H o) 0 i x) := st_iastore q102_44
theorem q102_45 : pj_row 102 45 = some (.aload_n 0, 1, 0, 0, 0) := by decide +kernel
theorem s102_45 {st : List Value} {M : pj_Mem} {l : pj_Loc} {x : Nat} : pj_step 102 (45, some (.ref x) :: l, st, M) = some (46, some (.ref x) :: l, .ref x :: st, M) := st_aload_n q102_45 rfl
theorem q102_46 : pj_row 102 46 = some (.getfield 7, 3, 6, 0, 0) := by decide +kernel
theorem s102_46 {L : pj_Loc} {st : List Value} {N S : Nat} {H : pj_Heap} {o : Nat} : pj_step 102 (46, L, .ref o :: st, (N, S, H)) = pj_pv 49 L st (N, S, H) (pj_fld (H o) 6 0) := st_getfield q102_46
theorem q102_49 : pj_row 102 49 = some (.bipush 8, 2, 0, 0, 0) := by decide +kernel
theorem s102_49 {L : pj_Loc} {st : List Value} {M : pj_Mem}  : pj_step 102 (49, L, st, M) = some (51, L, .int 8 :: st, M) := st_bipush q102_49 (by decide +kernel)
theorem q102_51 : pj_row 102 51 = some (.iload_n 1, 1, 0, 0, 0) := by decide +kernel
theorem s102_51 {st : List Value} {M : pj_Mem} {l : pj_Loc} {a0 : Option Value} {x : Int32} : pj_step 102 (51, a0 :: some (.int x) :: l, st, M) = some (52, a0 :: some (.int x) :: l, .int x :: st, M) := st_iload_n q102_51 rfl
theorem q102_52 : pj_row 102 52 = some (.iadd, 1, 0, 0, 0) := by decide +kernel
theorem s102_52 {L : pj_Loc} {st : List Value} {M : pj_Mem} {x y : Int32} : pj_step 102 (52, L, .int y :: .int x :: st, M) = some (53, L, .int (x + y) :: st, M) := st_iadd q102_52
theorem q102_53 : pj_row 102 53 = some (.iconst 0, 1, 0, 0, 0) := by decide +kernel
theorem s102_53 {L : pj_Loc} {st : List Value} {M : pj_Mem}  : pj_step 102 (53, L, st, M) = some (54, L, .int 0 :: st, M) := st_iconst q102_53 (by decide +kernel)
theorem q102_54 : pj_row 102 54 = some (.iastore, 1, 0, 0, 0) := by decide +kernel
theorem s102_54 {L : pj_Loc} {st : List Value} {N S : Nat} {H : pj_Heap} {o : Nat} {i x : Int32} : pj_step 102 (54, L, .int x :: .int i :: .ref o :: st, (N, S, H)) = pj_set 55 L st (N, S, H) o (pj_ars (H o) 0 i x) := st_iastore q102_54
theorem q102_55 : pj_row 102 55 = some (.aload_n 0, 1, 0, 0, 0) := by decide +kernel
theorem s102_55 {st : List Value} {M : pj_Mem} {l : pj_Loc} {x : Nat} : pj_step 102 (55, some (.ref x) :: l, st, M) = some (56, some (.ref x) :: l, .ref x :: st, M) := st_aload_n q102_55 rfl
theorem q102_56 : pj_row 102 56 = some (.getfield 7, 3, 6, 0, 0) := by decide +kernel
theorem s102_56 {L : pj_Loc} {st : List Value} {N S : Nat} {H : pj_Heap} {o : Nat} : pj_step 102 (56, L, .ref o :: st, (N, S, H)) = pj_pv 59 L st (N, S, H) (pj_fld (H o) 6 0) := st_getfield q102_56
theorem q102_59 : pj_row 102 59 = some (.bipush 11, 2, 0, 0, 0) := by decide +kernel
theorem s102_59 {L : pj_Loc} {st : List Value} {M : pj_Mem}  : pj_step 102 (59, L, st, M) = some (61, L, .int 11 :: st, M) := st_bipush q102_59 (by decide +kernel)
theorem q102_61 : pj_row 102 61 = some (.iload_n 1, 1, 0, 0, 0) := by decide +kernel
theorem s102_61 {st : List Value} {M : pj_Mem} {l : pj_Loc} {a0 : Option Value} {x : Int32} : pj_step 102 (61, a0 :: some (.int x) :: l, st, M) = some (62, a0 :: some (.int x) :: l, .int x :: st, M) := st_iload_n q102_61 rfl
theorem q102_62 : pj_row 102 62 = some (.iadd, 1, 0, 0, 0) := by decide +kernel
theorem s102_62 {L : pj_Loc} {st : List Value} {M : pj_Mem} {x y : Int32} : pj_step 102 (62, L, .int y :: .int x :: st, M) = some (63, L, .int (x + y) :: st, M) := st_iadd q102_62
theorem q102_63 : pj_row 102 63 = some (.iconst 0, 1, 0, 0, 0) := by decide +kernel
theorem s102_63 {L : pj_Loc} {st : List Value} {M : pj_Mem}  : pj_step 102 (63, L, st, M) = some (64, L, .int 0 :: st, M) := st_iconst q102_63 (by decide +kernel)
theorem q102_64 : pj_row 102 64 = some (.iastore, 1, 0, 0, 0) := by decide +kernel
theorem s102_64 {L : pj_Loc} {st : List Value} {N S : Nat} {H : pj_Heap} {o : Nat} {i x : Int32} : pj_step 102 (64, L, .int x :: .int i :: .ref o :: st, (N, S, H)) = pj_set 65 L st (N, S, H) o (pj_ars (H o) 0 i x) := st_iastore q102_64
theorem q102_65 : pj_row 102 65 = some (.aload_n 0, 1, 0, 0, 0) := by decide +kernel
theorem s102_65 {st : List Value} {M : pj_Mem} {l : pj_Loc} {x : Nat} : pj_step 102 (65, some (.ref x) :: l, st, M) = some (66, some (.ref x) :: l, .ref x :: st, M) := st_aload_n q102_65 rfl
theorem q102_66 : pj_row 102 66 = some (.getfield 7, 3, 6, 0, 0) := by decide +kernel
theorem s102_66 {L : pj_Loc} {st : List Value} {N S : Nat} {H : pj_Heap} {o : Nat} : pj_step 102 (66, L, .ref o :: st, (N, S, H)) = pj_pv 69 L st (N, S, H) (pj_fld (H o) 6 0) := st_getfield q102_66
theorem q102_69 : pj_row 102 69 = some (.bipush 17, 2, 0, 0, 0) := by decide +kernel
theorem s102_69 {L : pj_Loc} {st : List Value} {M : pj_Mem}  : pj_step 102 (69, L, st, M) = some (71, L, .int 17 :: st, M) := st_bipush q102_69 (by decide +kernel)
theorem q102_71 : pj_row 102 71 = some (.iload_n 1, 1, 0, 0, 0) := by decide +kernel
theorem s102_71 {st : List Value} {M : pj_Mem} {l : pj_Loc} {a0 : Option Value} {x : Int32} : pj_step 102 (71, a0 :: some (.int x) :: l, st, M) = some (72, a0 :: some (.int x) :: l, .int x :: st, M) := st_iload_n q102_71 rfl
theorem q102_72 : pj_row 102 72 = some (.iadd, 1, 0, 0, 0) := by decide +kernel
theorem s102_72 {L : pj_Loc} {st : List Value} {M : pj_Mem} {x y : Int32} : pj_step 102 (72, L, .int y :: .int x :: st, M) = some (73, L, .int (x + y) :: st, M) := st_iadd q102_72
theorem q102_73 : pj_row 102 73 = some (.iconst 0, 1, 0, 0, 0) := by decide +kernel
theorem s102_73 {L : pj_Loc} {st : List Value} {M : pj_Mem}  : pj_step 102 (73, L, st, M) = some (74, L, .int 0 :: st, M) := st_iconst q102_73 (by decide +kernel)
theorem q102_74 : pj_row 102 74 = some (.iastore, 1, 0, 0, 0) := by decide +kernel
theorem s102_74 {L : pj_Loc} {st : List Value} {N S : Nat} {H : pj_Heap} {o : Nat} {i x : Int32} : pj_step 102 (74, L, .int x :: .int i :: .ref o :: st, (N, S, H)) = pj_set 75 L st (N, S, H) o (pj_ars (H o) 0 i x) := st_iastore q102_74
theorem q102_75 : pj_row 102 75 = some (.aload_n 0, 1, 0, 0, 0) := by decide +kernel
theorem s102_75 {st : List Value} {M : pj_Mem} {l : pj_Loc} {x : Nat} : pj_step 102 (75, some (.ref x) :: l, st, M) = some (76, some (.ref x) :: l, .ref x :: st, M) := st_aload_n q102_75 rfl
theorem q102_76 : pj_row 102 76 = some (.iload_n 2, 1, 0, 0, 0) := by decide +kernel
theorem s102_76 {st : List Value} {M : pj_Mem} {l : pj_Loc} {a0 a1 : Option Value} {x : Int32} : pj_step 102 (76, a0 :: a1 :: some (.int x) :: l, st, M) = some (77, a0 :: a1 :: some (.int x) :: l, .int x :: st, M) := st_iload_n q102_76 rfl
theorem q102_77 : pj_row 102 77 = some (.invokevirtual 124, 3, 79, 2, 0) := by decide +kernel
theorem e102_77 {L : pj_Loc} {st : List Value} {N S : Nat} {H : pj_Heap} {o : Option Value × pj_Mem} {M' : pj_Mem} {x0 : Nat} {x1 : Int32} {r : Int32} (h4 : pj_le4 st = true) (hu : pj_isU 6 (H x0) = true) (h1 : pj_Ends 79 (0, [some (.ref x0), some (.int x1), none], [], (N, S, H)) (some (.int r), M')) (h2 : pj_Ends 102 (80, L, .int r :: st, M') o) : pj_Ends 102 (77, L, .int x1 :: .ref x0 :: st, (N, S, H)) o := ec_v2 q102_77 (Or.inl rfl) h4 hu rfl h1 h2
theorem q102_80 : pj_row 102 80 = some (.ireturn, 1, 0, 0, 0) := by decide +kernel
theorem t102_80 {L : pj_Loc} {M : pj_Mem} {v : Int32} : pj_Ends 102 (80, L, [.int v], M) (some (.int v), M) := pj_Ends.ret q102_80 (pj_rtn_i rt102)
theorem rt103 : pj_rt 103 = some .int := rfl
theorem q103_0 : pj_row 103 0 = some (.iconst 0, 1, 0, 0, 0) := by decide +kernel
theorem s103_0 {L : pj_Loc} {st : List Value} {M : pj_Mem}  : pj_step 103 (0, L, st, M) = some (1, L, .int 0 :: st, M) := st_iconst q103_0 (by decide +kernel)
theorem q103_1 : pj_row 103 1 = some (.istore_n 1, 1, 0, 0, 0) := by decide +kernel
theorem s103_1 {st : List Value} {M : pj_Mem} {l : pj_Loc} {a0 a1 : Option Value} {x : Int32} (h : pj_long a0 = false) : pj_step 103 (1, a0 :: a1 :: l, .int x :: st, M) = some (2, a0 :: some (.int x) :: l, st, M) := st_istore_n q103_1 (pj_st_1 h)
theorem q103_2 : pj_row 103 2 = some (.iconst 0, 1, 0, 0, 0) := by decide +kernel
theorem s103_2 {L : pj_Loc} {st : List Value} {M : pj_Mem}  : pj_step 103 (2, L, st, M) = some (3, L, .int 0 :: st, M) := st_iconst q103_2 (by decide +kernel)
theorem q103_3 : pj_row 103 3 = some (.istore_n 2, 1, 0, 0, 0) := by decide +kernel
theorem s103_3 {st : List Value} {M : pj_Mem} {l : pj_Loc} {a0 a1 a2 : Option Value} {x : Int32} (h : pj_long a1 = false) : pj_step 103 (3, a0 :: a1 :: a2 :: l, .int x :: st, M) = some (4, a0 :: a1 :: some (.int x) :: l, st, M) := st_istore_n q103_3 (pj_st_2 h)
theorem q103_4 : pj_row 103 4 = some (.iload_n 2, 1, 0, 0, 0) := by decide +kernel
theorem s103_4 {st : List Value} {M : pj_Mem} {l : pj_Loc} {a0 a1 : Option Value} {x : Int32} : pj_step 103 (4, a0 :: a1 :: some (.int x) :: l, st, M) = some (5, a0 :: a1 :: some (.int x) :: l, .int x :: st, M) := st_iload_n q103_4 rfl
theorem q103_5 : pj_row 103 5 = some (.iconst 3, 1, 0, 0, 0) := by decide +kernel
theorem s103_5 {L : pj_Loc} {st : List Value} {M : pj_Mem}  : pj_step 103 (5, L, st, M) = some (6, L, .int 3 :: st, M) := st_iconst q103_5 (by decide +kernel)
theorem q103_6 : pj_row 103 6 = some (.if_icmp .ge 33, 3, 39, 0, 0) := by decide +kernel
theorem s103_6 {L : pj_Loc} {st : List Value} {M : pj_Mem} {x y : Int32} : pj_step 103 (6, L, .int y :: .int x :: st, M) = some (if y ≤ x then 39 else 9, L, st, M) := st_icmp_ge q103_6
theorem q103_9 : pj_row 103 9 = some (.iload_n 1, 1, 0, 0, 0) := by decide +kernel
theorem s103_9 {st : List Value} {M : pj_Mem} {l : pj_Loc} {a0 : Option Value} {x : Int32} : pj_step 103 (9, a0 :: some (.int x) :: l, st, M) = some (10, a0 :: some (.int x) :: l, .int x :: st, M) := st_iload_n q103_9 rfl
theorem q103_10 : pj_row 103 10 = some (.aload_n 0, 1, 0, 0, 0) := by decide +kernel
theorem s103_10 {st : List Value} {M : pj_Mem} {l : pj_Loc} {x : Nat} : pj_step 103 (10, some (.ref x) :: l, st, M) = some (11, some (.ref x) :: l, .ref x :: st, M) := st_aload_n q103_10 rfl
theorem q103_11 : pj_row 103 11 = some (.getfield 7, 3, 6, 0, 0) := by decide +kernel
theorem s103_11 {L : pj_Loc} {st : List Value} {N S : Nat} {H : pj_Heap} {o : Nat} : pj_step 103 (11, L, .ref o :: st, (N, S, H)) = pj_pv 14 L st (N, S, H) (pj_fld (H o) 6 0) := st_getfield q103_11
theorem q103_14 : pj_row 103 14 = some (.bipush 23, 2, 0, 0, 0) := by decide +kernel
theorem s103_14 {L : pj_Loc} {st : List Value} {M : pj_Mem}  : pj_step 103 (14, L, st, M) = some (16, L, .int 23 :: st, M) := st_bipush q103_14 (by decide +kernel)
theorem q103_16 : pj_row 103 16 = some (.iload_n 2, 1, 0, 0, 0) := by decide +kernel
theorem s103_16 {st : List Value} {M : pj_Mem} {l : pj_Loc} {a0 a1 : Option Value} {x : Int32} : pj_step 103 (16, a0 :: a1 :: some (.int x) :: l, st, M) = some (17, a0 :: a1 :: some (.int x) :: l, .int x :: st, M) := st_iload_n q103_16 rfl
theorem q103_17 : pj_row 103 17 = some (.iadd, 1, 0, 0, 0) := by decide +kernel
theorem s103_17 {L : pj_Loc} {st : List Value} {M : pj_Mem} {x y : Int32} : pj_step 103 (17, L, .int y :: .int x :: st, M) = some (18, L, .int (x + y) :: st, M) := st_iadd q103_17
theorem q103_18 : pj_row 103 18 = some (.iaload, 1, 0, 0, 0) := by decide +kernel
theorem s103_18 {L : pj_Loc} {st : List Value} {N S : Nat} {H : pj_Heap} {o : Nat} {i : Int32} : pj_step 103 (18, L, .int i :: .ref o :: st, (N, S, H)) = pj_pi 19 L st (N, S, H) (pj_arl (H o) 0 i) := st_iaload q103_18
theorem q103_19 : pj_row 103 19 = some (.bipush (-6), 2, 0, 0, 0) := by decide +kernel
theorem s103_19 {L : pj_Loc} {st : List Value} {M : pj_Mem}  : pj_step 103 (19, L, st, M) = some (21, L, .int (-6) :: st, M) := st_bipush q103_19 (by decide +kernel)
theorem q103_21 : pj_row 103 21 = some (.if_icmp .ne 7, 3, 28, 0, 0) := by decide +kernel
theorem s103_21 {L : pj_Loc} {st : List Value} {M : pj_Mem} {x y : Int32} : pj_step 103 (21, L, .int y :: .int x :: st, M) = some (if ¬ x = y then 28 else 24, L, st, M) := st_icmp_ne q103_21
theorem q103_24 : pj_row 103 24 = some (.iconst 0, 1, 0, 0, 0) := by decide +kernel
theorem s103_24 {L : pj_Loc} {st : List Value} {M : pj_Mem}  : pj_step 103 (24, L, st, M) = some (25, L, .int 0 :: st, M) := st_iconst q103_24 (by decide +kernel)
theorem q103_25 : pj_row 103 25 = some (.goto 6, 3, 31, 0, 0) := by decide +kernel
theorem s103_25 {L : pj_Loc} {st : List Value} {M : pj_Mem}  : pj_step 103 (25, L, st, M) = some (31, L, st, M) := st_goto q103_25
theorem q103_28 : pj_row 103 28 = some (.iconst 1, 1, 0, 0, 0) := by decide +kernel
theorem s103_28 {L : pj_Loc} {st : List Value} {M : pj_Mem}  : pj_step 103 (28, L, st, M) = some (29, L, .int 1 :: st, M) := st_iconst q103_28 (by decide +kernel)
theorem q103_29 : pj_row 103 29 = some (.iload_n 2, 1, 0, 0, 0) := by decide +kernel
theorem s103_29 {st : List Value} {M : pj_Mem} {l : pj_Loc} {a0 a1 : Option Value} {x : Int32} : pj_step 103 (29, a0 :: a1 :: some (.int x) :: l, st, M) = some (30, a0 :: a1 :: some (.int x) :: l, .int x :: st, M) := st_iload_n q103_29 rfl
theorem q103_30 : pj_row 103 30 = some (.ishl, 1, 0, 0, 0) := by decide +kernel
theorem s103_30 {L : pj_Loc} {st : List Value} {M : pj_Mem} {x y : Int32} : pj_step 103 (30, L, .int y :: .int x :: st, M) = some (31, L, .int (x <<< (y &&& 31)) :: st, M) := st_ishl q103_30
theorem q103_31 : pj_row 103 31 = some (.ior, 1, 0, 0, 0) := by decide +kernel
theorem s103_31 {L : pj_Loc} {st : List Value} {M : pj_Mem} {x y : Int32} : pj_step 103 (31, L, .int y :: .int x :: st, M) = some (32, L, .int (x ||| y) :: st, M) := st_ior q103_31
theorem q103_32 : pj_row 103 32 = some (.istore_n 1, 1, 0, 0, 0) := by decide +kernel
theorem s103_32 {st : List Value} {M : pj_Mem} {l : pj_Loc} {a0 a1 : Option Value} {x : Int32} (h : pj_long a0 = false) : pj_step 103 (32, a0 :: a1 :: l, .int x :: st, M) = some (33, a0 :: some (.int x) :: l, st, M) := st_istore_n q103_32 (pj_st_1 h)
theorem q103_33 : pj_row 103 33 = some (.iinc 2 1, 3, 0, 0, 0) := by decide +kernel
theorem s103_33 {st : List Value} {M : pj_Mem} {l : pj_Loc} {a0 a1 : Option Value} {x : Int32} (h : pj_long a1 = false) : pj_step 103 (33, a0 :: a1 :: some (.int x) :: l, st, M) = some (36, a0 :: a1 :: some (.int (x + 1)) :: l, st, M) := st_iinc q103_33 rfl (congrArg (fun y => x + y) (show Int32.ofInt 1 = 1 by decide +kernel)) (pj_st_2 h)
theorem q103_36 : pj_row 103 36 = some (.goto (-32), 3, 4, 0, 0) := by decide +kernel
theorem s103_36 {L : pj_Loc} {st : List Value} {M : pj_Mem}  : pj_step 103 (36, L, st, M) = some (4, L, st, M) := st_goto q103_36
theorem q103_39 : pj_row 103 39 = some (.iload_n 1, 1, 0, 0, 0) := by decide +kernel
theorem s103_39 {st : List Value} {M : pj_Mem} {l : pj_Loc} {a0 : Option Value} {x : Int32} : pj_step 103 (39, a0 :: some (.int x) :: l, st, M) = some (40, a0 :: some (.int x) :: l, .int x :: st, M) := st_iload_n q103_39 rfl
theorem q103_40 : pj_row 103 40 = some (.ireturn, 1, 0, 0, 0) := by decide +kernel
theorem t103_40 {L : pj_Loc} {M : pj_Mem} {v : Int32} : pj_Ends 103 (40, L, [.int v], M) (some (.int v), M) := pj_Ends.ret q103_40 (pj_rtn_i rt103)
theorem rt104 : pj_rt 104 = some .int := rfl
theorem q104_0 : pj_row 104 0 = some (.aload_n 0, 1, 0, 0, 0) := by decide +kernel
theorem s104_0 {st : List Value} {M : pj_Mem} {l : pj_Loc} {x : Nat} : pj_step 104 (0, some (.ref x) :: l, st, M) = some (1, some (.ref x) :: l, .ref x :: st, M) := st_aload_n q104_0 rfl
theorem q104_1 : pj_row 104 1 = some (.invokevirtual 121, 3, 78, 1, 0) := by decide +kernel
theorem e104_1 {L : pj_Loc} {st : List Value} {N S : Nat} {H : pj_Heap} {o : Option Value × pj_Mem} {M' : pj_Mem} {x0 : Nat} (h4 : pj_le4 st = true) (hu : pj_isU 6 (H x0) = true) (h1 : pj_Ends 78 (0, [some (.ref x0), none], [], (N, S, H)) (none, M')) (h2 : pj_Ends 104 (4, L, st, M') o) : pj_Ends 104 (1, L, .ref x0 :: st, (N, S, H)) o := ec_v1 q104_1 (Or.inl rfl) h4 hu rfl h1 h2
theorem q104_4 : pj_row 104 4 = some (.aload_n 0, 1, 0, 0, 0) := by decide +kernel
theorem s104_4 {st : List Value} {M : pj_Mem} {l : pj_Loc} {x : Nat} : pj_step 104 (4, some (.ref x) :: l, st, M) = some (5, some (.ref x) :: l, .ref x :: st, M) := st_aload_n q104_4 rfl
theorem q104_5 : pj_row 104 5 = some (.invokevirtual 143, 3, 103, 1, 0) := by decide +kernel
theorem e104_5 {L : pj_Loc} {st : List Value} {N S : Nat} {H : pj_Heap} {o : Option Value × pj_Mem} {M' : pj_Mem} {x0 : Nat} {r : Int32} (h4 : pj_le4 st = true) (hu : pj_isU 6 (H x0) = true) (h1 : pj_Ends 103 (0, [some (.ref x0), none, none], [], (N, S, H)) (some (.int r), M')) (h2 : pj_Ends 104 (8, L, .int r :: st, M') o) : pj_Ends 104 (5, L, .ref x0 :: st, (N, S, H)) o := ec_v1 q104_5 (Or.inl rfl) h4 hu rfl h1 h2
theorem q104_8 : pj_row 104 8 = some (.invokestatic 52, 3, 87, 1, 0) := by decide +kernel
theorem e104_8 {L : pj_Loc} {st : List Value} {N S : Nat} {H : pj_Heap} {o : Option Value × pj_Mem} {M' : pj_Mem} {x0 : Int32} {r : Int32} (h4 : pj_le4 st = true) (h1 : pj_Ends 87 (0, [some (.int x0)], [], (N, S, H)) (some (.int r), M')) (h2 : pj_Ends 104 (11, L, .int r :: st, M') o) : pj_Ends 104 (8, L, .int x0 :: st, (N, S, H)) o := ec_s1 q104_8 (Or.inl rfl) h4 rfl h1 h2
theorem q104_11 : pj_row 104 11 = some (.istore_n 1, 1, 0, 0, 0) := by decide +kernel
theorem s104_11 {st : List Value} {M : pj_Mem} {l : pj_Loc} {a0 a1 : Option Value} {x : Int32} (h : pj_long a0 = false) : pj_step 104 (11, a0 :: a1 :: l, .int x :: st, M) = some (12, a0 :: some (.int x) :: l, st, M) := st_istore_n q104_11 (pj_st_1 h)
theorem q104_12 : pj_row 104 12 = some (.iconst 0, 1, 0, 0, 0) := by decide +kernel
theorem s104_12 {L : pj_Loc} {st : List Value} {M : pj_Mem}  : pj_step 104 (12, L, st, M) = some (13, L, .int 0 :: st, M) := st_iconst q104_12 (by decide +kernel)
theorem q104_13 : pj_row 104 13 = some (.istore_n 2, 1, 0, 0, 0) := by decide +kernel
theorem s104_13 {st : List Value} {M : pj_Mem} {l : pj_Loc} {a0 a1 a2 : Option Value} {x : Int32} (h : pj_long a1 = false) : pj_step 104 (13, a0 :: a1 :: a2 :: l, .int x :: st, M) = some (14, a0 :: a1 :: some (.int x) :: l, st, M) := st_istore_n q104_13 (pj_st_2 h)
theorem q104_14 : pj_row 104 14 = some (.iload_n 2, 1, 0, 0, 0) := by decide +kernel
theorem s104_14 {st : List Value} {M : pj_Mem} {l : pj_Loc} {a0 a1 : Option Value} {x : Int32} : pj_step 104 (14, a0 :: a1 :: some (.int x) :: l, st, M) = some (15, a0 :: a1 :: some (.int x) :: l, .int x :: st, M) := st_iload_n q104_14 rfl
theorem q104_15 : pj_row 104 15 = some (.iconst 3, 1, 0, 0, 0) := by decide +kernel
theorem s104_15 {L : pj_Loc} {st : List Value} {M : pj_Mem}  : pj_step 104 (15, L, st, M) = some (16, L, .int 3 :: st, M) := st_iconst q104_15 (by decide +kernel)
theorem q104_16 : pj_row 104 16 = some (.if_icmp .ge 30, 3, 46, 0, 0) := by decide +kernel
theorem s104_16 {L : pj_Loc} {st : List Value} {M : pj_Mem} {x y : Int32} : pj_step 104 (16, L, .int y :: .int x :: st, M) = some (if y ≤ x then 46 else 19, L, st, M) := st_icmp_ge q104_16
theorem q104_19 : pj_row 104 19 = some (.aload_n 0, 1, 0, 0, 0) := by decide +kernel
theorem s104_19 {st : List Value} {M : pj_Mem} {l : pj_Loc} {x : Nat} : pj_step 104 (19, some (.ref x) :: l, st, M) = some (20, some (.ref x) :: l, .ref x :: st, M) := st_aload_n q104_19 rfl
theorem q104_20 : pj_row 104 20 = some (.getfield 7, 3, 6, 0, 0) := by decide +kernel
theorem s104_20 {L : pj_Loc} {st : List Value} {N S : Nat} {H : pj_Heap} {o : Nat} : pj_step 104 (20, L, .ref o :: st, (N, S, H)) = pj_pv 23 L st (N, S, H) (pj_fld (H o) 6 0) := st_getfield q104_20
theorem q104_23 : pj_row 104 23 = some (.bipush 23, 2, 0, 0, 0) := by decide +kernel
theorem s104_23 {L : pj_Loc} {st : List Value} {M : pj_Mem}  : pj_step 104 (23, L, st, M) = some (25, L, .int 23 :: st, M) := st_bipush q104_23 (by decide +kernel)
theorem q104_25 : pj_row 104 25 = some (.iload_n 2, 1, 0, 0, 0) := by decide +kernel
theorem s104_25 {st : List Value} {M : pj_Mem} {l : pj_Loc} {a0 a1 : Option Value} {x : Int32} : pj_step 104 (25, a0 :: a1 :: some (.int x) :: l, st, M) = some (26, a0 :: a1 :: some (.int x) :: l, .int x :: st, M) := st_iload_n q104_25 rfl
theorem q104_26 : pj_row 104 26 = some (.iadd, 1, 0, 0, 0) := by decide +kernel
theorem s104_26 {L : pj_Loc} {st : List Value} {M : pj_Mem} {x y : Int32} : pj_step 104 (26, L, .int y :: .int x :: st, M) = some (27, L, .int (x + y) :: st, M) := st_iadd q104_26
theorem q104_27 : pj_row 104 27 = some (.bipush (-6), 2, 0, 0, 0) := by decide +kernel
theorem s104_27 {L : pj_Loc} {st : List Value} {M : pj_Mem}  : pj_step 104 (27, L, st, M) = some (29, L, .int (-6) :: st, M) := st_bipush q104_27 (by decide +kernel)
theorem q104_29 : pj_row 104 29 = some (.iastore, 1, 0, 0, 0) := by decide +kernel
theorem s104_29 {L : pj_Loc} {st : List Value} {N S : Nat} {H : pj_Heap} {o : Nat} {i x : Int32} : pj_step 104 (29, L, .int x :: .int i :: .ref o :: st, (N, S, H)) = pj_set 30 L st (N, S, H) o (pj_ars (H o) 0 i x) := st_iastore q104_29
theorem q104_30 : pj_row 104 30 = some (.aload_n 0, 1, 0, 0, 0) := by decide +kernel
theorem s104_30 {st : List Value} {M : pj_Mem} {l : pj_Loc} {x : Nat} : pj_step 104 (30, some (.ref x) :: l, st, M) = some (31, some (.ref x) :: l, .ref x :: st, M) := st_aload_n q104_30 rfl
theorem q104_31 : pj_row 104 31 = some (.getfield 7, 3, 6, 0, 0) := by decide +kernel
theorem s104_31 {L : pj_Loc} {st : List Value} {N S : Nat} {H : pj_Heap} {o : Nat} : pj_step 104 (31, L, .ref o :: st, (N, S, H)) = pj_pv 34 L st (N, S, H) (pj_fld (H o) 6 0) := st_getfield q104_31
theorem q104_34 : pj_row 104 34 = some (.bipush 11, 2, 0, 0, 0) := by decide +kernel
theorem s104_34 {L : pj_Loc} {st : List Value} {M : pj_Mem}  : pj_step 104 (34, L, st, M) = some (36, L, .int 11 :: st, M) := st_bipush q104_34 (by decide +kernel)
theorem q104_36 : pj_row 104 36 = some (.iload_n 2, 1, 0, 0, 0) := by decide +kernel
theorem s104_36 {st : List Value} {M : pj_Mem} {l : pj_Loc} {a0 a1 : Option Value} {x : Int32} : pj_step 104 (36, a0 :: a1 :: some (.int x) :: l, st, M) = some (37, a0 :: a1 :: some (.int x) :: l, .int x :: st, M) := st_iload_n q104_36 rfl
theorem q104_37 : pj_row 104 37 = some (.iadd, 1, 0, 0, 0) := by decide +kernel
theorem s104_37 {L : pj_Loc} {st : List Value} {M : pj_Mem} {x y : Int32} : pj_step 104 (37, L, .int y :: .int x :: st, M) = some (38, L, .int (x + y) :: st, M) := st_iadd q104_37
theorem q104_38 : pj_row 104 38 = some (.iconst 0, 1, 0, 0, 0) := by decide +kernel
theorem s104_38 {L : pj_Loc} {st : List Value} {M : pj_Mem}  : pj_step 104 (38, L, st, M) = some (39, L, .int 0 :: st, M) := st_iconst q104_38 (by decide +kernel)
theorem q104_39 : pj_row 104 39 = some (.iastore, 1, 0, 0, 0) := by decide +kernel
theorem s104_39 {L : pj_Loc} {st : List Value} {N S : Nat} {H : pj_Heap} {o : Nat} {i x : Int32} : pj_step 104 (39, L, .int x :: .int i :: .ref o :: st, (N, S, H)) = pj_set 40 L st (N, S, H) o (pj_ars (H o) 0 i x) := st_iastore q104_39
theorem q104_40 : pj_row 104 40 = some (.iinc 2 1, 3, 0, 0, 0) := by decide +kernel
theorem s104_40 {st : List Value} {M : pj_Mem} {l : pj_Loc} {a0 a1 : Option Value} {x : Int32} (h : pj_long a1 = false) : pj_step 104 (40, a0 :: a1 :: some (.int x) :: l, st, M) = some (43, a0 :: a1 :: some (.int (x + 1)) :: l, st, M) := st_iinc q104_40 rfl (congrArg (fun y => x + y) (show Int32.ofInt 1 = 1 by decide +kernel)) (pj_st_2 h)
theorem q104_43 : pj_row 104 43 = some (.goto (-29), 3, 14, 0, 0) := by decide +kernel
theorem s104_43 {L : pj_Loc} {st : List Value} {M : pj_Mem}  : pj_step 104 (43, L, st, M) = some (14, L, st, M) := st_goto q104_43
theorem q104_46 : pj_row 104 46 = some (.aload_n 0, 1, 0, 0, 0) := by decide +kernel
theorem s104_46 {st : List Value} {M : pj_Mem} {l : pj_Loc} {x : Nat} : pj_step 104 (46, some (.ref x) :: l, st, M) = some (47, some (.ref x) :: l, .ref x :: st, M) := st_aload_n q104_46 rfl
theorem q104_47 : pj_row 104 47 = some (.getfield 7, 3, 6, 0, 0) := by decide +kernel
theorem s104_47 {L : pj_Loc} {st : List Value} {N S : Nat} {H : pj_Heap} {o : Nat} : pj_step 104 (47, L, .ref o :: st, (N, S, H)) = pj_pv 50 L st (N, S, H) (pj_fld (H o) 6 0) := st_getfield q104_47
theorem q104_50 : pj_row 104 50 = some (.bipush 7, 2, 0, 0, 0) := by decide +kernel
theorem s104_50 {L : pj_Loc} {st : List Value} {M : pj_Mem}  : pj_step 104 (50, L, st, M) = some (52, L, .int 7 :: st, M) := st_bipush q104_50 (by decide +kernel)
theorem q104_52 : pj_row 104 52 = some (.iconst 0, 1, 0, 0, 0) := by decide +kernel
theorem s104_52 {L : pj_Loc} {st : List Value} {M : pj_Mem}  : pj_step 104 (52, L, st, M) = some (53, L, .int 0 :: st, M) := st_iconst q104_52 (by decide +kernel)
theorem q104_53 : pj_row 104 53 = some (.iastore, 1, 0, 0, 0) := by decide +kernel
theorem s104_53 {L : pj_Loc} {st : List Value} {N S : Nat} {H : pj_Heap} {o : Nat} {i x : Int32} : pj_step 104 (53, L, .int x :: .int i :: .ref o :: st, (N, S, H)) = pj_set 54 L st (N, S, H) o (pj_ars (H o) 0 i x) := st_iastore q104_53
theorem q104_54 : pj_row 104 54 = some (.aload_n 0, 1, 0, 0, 0) := by decide +kernel
theorem s104_54 {st : List Value} {M : pj_Mem} {l : pj_Loc} {x : Nat} : pj_step 104 (54, some (.ref x) :: l, st, M) = some (55, some (.ref x) :: l, .ref x :: st, M) := st_aload_n q104_54 rfl
theorem q104_55 : pj_row 104 55 = some (.getfield 7, 3, 6, 0, 0) := by decide +kernel
theorem s104_55 {L : pj_Loc} {st : List Value} {N S : Nat} {H : pj_Heap} {o : Nat} : pj_step 104 (55, L, .ref o :: st, (N, S, H)) = pj_pv 58 L st (N, S, H) (pj_fld (H o) 6 0) := st_getfield q104_55
theorem q104_58 : pj_row 104 58 = some (.bipush 29, 2, 0, 0, 0) := by decide +kernel
theorem s104_58 {L : pj_Loc} {st : List Value} {M : pj_Mem}  : pj_step 104 (58, L, st, M) = some (60, L, .int 29 :: st, M) := st_bipush q104_58 (by decide +kernel)
theorem q104_60 : pj_row 104 60 = some (.bipush (-6), 2, 0, 0, 0) := by decide +kernel
theorem s104_60 {L : pj_Loc} {st : List Value} {M : pj_Mem}  : pj_step 104 (60, L, st, M) = some (62, L, .int (-6) :: st, M) := st_bipush q104_60 (by decide +kernel)
theorem q104_62 : pj_row 104 62 = some (.iastore, 1, 0, 0, 0) := by decide +kernel
theorem s104_62 {L : pj_Loc} {st : List Value} {N S : Nat} {H : pj_Heap} {o : Nat} {i x : Int32} : pj_step 104 (62, L, .int x :: .int i :: .ref o :: st, (N, S, H)) = pj_set 63 L st (N, S, H) o (pj_ars (H o) 0 i x) := st_iastore q104_62
theorem q104_63 : pj_row 104 63 = some (.aload_n 0, 1, 0, 0, 0) := by decide +kernel
theorem s104_63 {st : List Value} {M : pj_Mem} {l : pj_Loc} {x : Nat} : pj_step 104 (63, some (.ref x) :: l, st, M) = some (64, some (.ref x) :: l, .ref x :: st, M) := st_aload_n q104_63 rfl
theorem q104_64 : pj_row 104 64 = some (.getfield 7, 3, 6, 0, 0) := by decide +kernel
theorem s104_64 {L : pj_Loc} {st : List Value} {N S : Nat} {H : pj_Heap} {o : Nat} : pj_step 104 (64, L, .ref o :: st, (N, S, H)) = pj_pv 67 L st (N, S, H) (pj_fld (H o) 6 0) := st_getfield q104_64
theorem q104_67 : pj_row 104 67 = some (.bipush 30, 2, 0, 0, 0) := by decide +kernel
theorem s104_67 {L : pj_Loc} {st : List Value} {M : pj_Mem}  : pj_step 104 (67, L, st, M) = some (69, L, .int 30 :: st, M) := st_bipush q104_67 (by decide +kernel)
theorem q104_69 : pj_row 104 69 = some (.iconst 0, 1, 0, 0, 0) := by decide +kernel
theorem s104_69 {L : pj_Loc} {st : List Value} {M : pj_Mem}  : pj_step 104 (69, L, st, M) = some (70, L, .int 0 :: st, M) := st_iconst q104_69 (by decide +kernel)
theorem q104_70 : pj_row 104 70 = some (.iastore, 1, 0, 0, 0) := by decide +kernel
theorem s104_70 {L : pj_Loc} {st : List Value} {N S : Nat} {H : pj_Heap} {o : Nat} {i x : Int32} : pj_step 104 (70, L, .int x :: .int i :: .ref o :: st, (N, S, H)) = pj_set 71 L st (N, S, H) o (pj_ars (H o) 0 i x) := st_iastore q104_70
theorem q104_71 : pj_row 104 71 = some (.aload_n 0, 1, 0, 0, 0) := by decide +kernel
theorem s104_71 {st : List Value} {M : pj_Mem} {l : pj_Loc} {x : Nat} : pj_step 104 (71, some (.ref x) :: l, st, M) = some (72, some (.ref x) :: l, .ref x :: st, M) := st_aload_n q104_71 rfl
theorem q104_72 : pj_row 104 72 = some (.iload_n 1, 1, 0, 0, 0) := by decide +kernel
theorem s104_72 {st : List Value} {M : pj_Mem} {l : pj_Loc} {a0 : Option Value} {x : Int32} : pj_step 104 (72, a0 :: some (.int x) :: l, st, M) = some (73, a0 :: some (.int x) :: l, .int x :: st, M) := st_iload_n q104_72 rfl
theorem q104_73 : pj_row 104 73 = some (.invokevirtual 124, 3, 79, 2, 0) := by decide +kernel
theorem e104_73 {L : pj_Loc} {st : List Value} {N S : Nat} {H : pj_Heap} {o : Option Value × pj_Mem} {M' : pj_Mem} {x0 : Nat} {x1 : Int32} {r : Int32} (h4 : pj_le4 st = true) (hu : pj_isU 6 (H x0) = true) (h1 : pj_Ends 79 (0, [some (.ref x0), some (.int x1), none], [], (N, S, H)) (some (.int r), M')) (h2 : pj_Ends 104 (76, L, .int r :: st, M') o) : pj_Ends 104 (73, L, .int x1 :: .ref x0 :: st, (N, S, H)) o := ec_v2 q104_73 (Or.inl rfl) h4 hu rfl h1 h2
theorem q104_76 : pj_row 104 76 = some (.ireturn, 1, 0, 0, 0) := by decide +kernel
theorem t104_76 {L : pj_Loc} {M : pj_Mem} {v : Int32} : pj_Ends 104 (76, L, [.int v], M) (some (.int v), M) := pj_Ends.ret q104_76 (pj_rtn_i rt104)
theorem rt105 : pj_rt 105 = some .int := rfl
theorem q105_0 : pj_row 105 0 = some (.iload_n 1, 1, 0, 0, 0) := by decide +kernel
theorem s105_0 {st : List Value} {M : pj_Mem} {l : pj_Loc} {a0 : Option Value} {x : Int32} : pj_step 105 (0, a0 :: some (.int x) :: l, st, M) = some (1, a0 :: some (.int x) :: l, .int x :: st, M) := st_iload_n q105_0 rfl
theorem q105_1 : pj_row 105 1 = some (.invokestatic 137, 3, 100, 1, 0) := by decide +kernel
theorem e105_1 {L : pj_Loc} {st : List Value} {N S : Nat} {H : pj_Heap} {o : Option Value × pj_Mem} {M' : pj_Mem} {x0 : Int32} {r : Int32} (h4 : pj_le4 st = true) (h1 : pj_Ends 100 (0, [some (.int x0)], [], (N, S, H)) (some (.int r), M')) (h2 : pj_Ends 105 (4, L, .int r :: st, M') o) : pj_Ends 105 (1, L, .int x0 :: st, (N, S, H)) o := ec_s1 q105_1 (Or.inl rfl) h4 rfl h1 h2
theorem q105_4 : pj_row 105 4 = some (.ifCond .ne 5, 3, 9, 0, 0) := by decide +kernel
theorem s105_4 {L : pj_Loc} {st : List Value} {M : pj_Mem} {x : Int32} : pj_step 105 (4, L, .int x :: st, M) = some (if ¬ x = 0 then 9 else 7, L, st, M) := st_if_ne q105_4
theorem q105_7 : pj_row 105 7 = some (.iconst (-1), 1, 0, 0, 0) := by decide +kernel
theorem s105_7 {L : pj_Loc} {st : List Value} {M : pj_Mem}  : pj_step 105 (7, L, st, M) = some (8, L, .int (-1) :: st, M) := st_iconst q105_7 (by decide +kernel)
theorem q105_8 : pj_row 105 8 = some (.ireturn, 1, 0, 0, 0) := by decide +kernel
theorem t105_8 {L : pj_Loc} {M : pj_Mem} {v : Int32} : pj_Ends 105 (8, L, [.int v], M) (some (.int v), M) := pj_Ends.ret q105_8 (pj_rtn_i rt105)
theorem q105_9 : pj_row 105 9 = some (.iload_n 2, 1, 0, 0, 0) := by decide +kernel
theorem s105_9 {st : List Value} {M : pj_Mem} {l : pj_Loc} {a0 a1 : Option Value} {x : Int32} : pj_step 105 (9, a0 :: a1 :: some (.int x) :: l, st, M) = some (10, a0 :: a1 :: some (.int x) :: l, .int x :: st, M) := st_iload_n q105_9 rfl
theorem q105_10 : pj_row 105 10 = some (.tableswitch 108 0 4 #[34, 47, 60, 70, 80], 34, 0, 0, 0) := by decide +kernel
theorem s105_10 {L : pj_Loc} {st : List Value} {M : pj_Mem} {x : Int32} : pj_step 105 (10, L, .int x :: st, M) = some (if x = 0 then 44 else if x = 1 then 57 else if x = 2 then 70 else if x = 3 then 80 else if x = 4 then 90 else 118, L, st, M) := by
  rw [st_tsw q105_10]
  unfold pj_tsw
  by_cases hr : x.toInt < 0 ∨ 4 < x.toInt
  · simp only
    rw [if_pos hr]
    rw [if_neg (show ¬ x = 0 from fun e => by rw [e] at hr; revert hr; decide)]
    rw [if_neg (show ¬ x = 1 from fun e => by rw [e] at hr; revert hr; decide)]
    rw [if_neg (show ¬ x = 2 from fun e => by rw [e] at hr; revert hr; decide)]
    rw [if_neg (show ¬ x = 3 from fun e => by rw [e] at hr; revert hr; decide)]
    rw [if_neg (show ¬ x = 4 from fun e => by rw [e] at hr; revert hr; decide)]
    rfl
  · have h3 : x.toInt = 0 ∨ x.toInt = 1 ∨ x.toInt = 2 ∨ x.toInt = 3 ∨ x.toInt = 4 := by omega
    rcases h3 with h3 | h3 | h3 | h3 | h3
    · have e : x = 0 := Int32.toInt_inj.mp (h3.trans (by decide))
      subst e
      rfl
    · have e : x = 1 := Int32.toInt_inj.mp (h3.trans (by decide))
      subst e
      rfl
    · have e : x = 2 := Int32.toInt_inj.mp (h3.trans (by decide))
      subst e
      rfl
    · have e : x = 3 := Int32.toInt_inj.mp (h3.trans (by decide))
      subst e
      rfl
    · have e : x = 4 := Int32.toInt_inj.mp (h3.trans (by decide))
      subst e
      rfl
theorem q105_44 : pj_row 105 44 = some (.aload_n 0, 1, 0, 0, 0) := by decide +kernel
theorem s105_44 {st : List Value} {M : pj_Mem} {l : pj_Loc} {x : Nat} : pj_step 105 (44, some (.ref x) :: l, st, M) = some (45, some (.ref x) :: l, .ref x :: st, M) := st_aload_n q105_44 rfl
theorem q105_45 : pj_row 105 45 = some (.getfield 7, 3, 6, 0, 0) := by decide +kernel
theorem s105_45 {L : pj_Loc} {st : List Value} {N S : Nat} {H : pj_Heap} {o : Nat} : pj_step 105 (45, L, .ref o :: st, (N, S, H)) = pj_pv 48 L st (N, S, H) (pj_fld (H o) 6 0) := st_getfield q105_45
theorem q105_48 : pj_row 105 48 = some (.bipush 8, 2, 0, 0, 0) := by decide +kernel
theorem s105_48 {L : pj_Loc} {st : List Value} {M : pj_Mem}  : pj_step 105 (48, L, st, M) = some (50, L, .int 8 :: st, M) := st_bipush q105_48 (by decide +kernel)
theorem q105_50 : pj_row 105 50 = some (.iload_n 1, 1, 0, 0, 0) := by decide +kernel
theorem s105_50 {st : List Value} {M : pj_Mem} {l : pj_Loc} {a0 : Option Value} {x : Int32} : pj_step 105 (50, a0 :: some (.int x) :: l, st, M) = some (51, a0 :: some (.int x) :: l, .int x :: st, M) := st_iload_n q105_50 rfl
theorem q105_51 : pj_row 105 51 = some (.iadd, 1, 0, 0, 0) := by decide +kernel
theorem s105_51 {L : pj_Loc} {st : List Value} {M : pj_Mem} {x y : Int32} : pj_step 105 (51, L, .int y :: .int x :: st, M) = some (52, L, .int (x + y) :: st, M) := st_iadd q105_51
theorem q105_52 : pj_row 105 52 = some (.iaload, 1, 0, 0, 0) := by decide +kernel
theorem s105_52 {L : pj_Loc} {st : List Value} {N S : Nat} {H : pj_Heap} {o : Nat} {i : Int32} : pj_step 105 (52, L, .int i :: .ref o :: st, (N, S, H)) = pj_pi 53 L st (N, S, H) (pj_arl (H o) 0 i) := st_iaload q105_52
theorem q105_53 : pj_row 105 53 = some (.ldc 81, 2, 0, 0, 100000) := by decide +kernel
theorem s105_53 {L : pj_Loc} {st : List Value} {M : pj_Mem}  : pj_step 105 (53, L, st, M) = some (55, L, .int 100000 :: st, M) := st_ldc q105_53 (by decide +kernel)
theorem q105_55 : pj_row 105 55 = some (.iadd, 1, 0, 0, 0) := by decide +kernel
theorem s105_55 {L : pj_Loc} {st : List Value} {M : pj_Mem} {x y : Int32} : pj_step 105 (55, L, .int y :: .int x :: st, M) = some (56, L, .int (x + y) :: st, M) := st_iadd q105_55
theorem q105_56 : pj_row 105 56 = some (.ireturn, 1, 0, 0, 0) := by decide +kernel
theorem t105_56 {L : pj_Loc} {M : pj_Mem} {v : Int32} : pj_Ends 105 (56, L, [.int v], M) (some (.int v), M) := pj_Ends.ret q105_56 (pj_rtn_i rt105)
theorem q105_57 : pj_row 105 57 = some (.aload_n 0, 1, 0, 0, 0) := by decide +kernel
theorem s105_57 {st : List Value} {M : pj_Mem} {l : pj_Loc} {x : Nat} : pj_step 105 (57, some (.ref x) :: l, st, M) = some (58, some (.ref x) :: l, .ref x :: st, M) := st_aload_n q105_57 rfl
theorem q105_58 : pj_row 105 58 = some (.getfield 7, 3, 6, 0, 0) := by decide +kernel
theorem s105_58 {L : pj_Loc} {st : List Value} {N S : Nat} {H : pj_Heap} {o : Nat} : pj_step 105 (58, L, .ref o :: st, (N, S, H)) = pj_pv 61 L st (N, S, H) (pj_fld (H o) 6 0) := st_getfield q105_58
theorem q105_61 : pj_row 105 61 = some (.bipush 11, 2, 0, 0, 0) := by decide +kernel
theorem s105_61 {L : pj_Loc} {st : List Value} {M : pj_Mem}  : pj_step 105 (61, L, st, M) = some (63, L, .int 11 :: st, M) := st_bipush q105_61 (by decide +kernel)
theorem q105_63 : pj_row 105 63 = some (.iload_n 1, 1, 0, 0, 0) := by decide +kernel
theorem s105_63 {st : List Value} {M : pj_Mem} {l : pj_Loc} {a0 : Option Value} {x : Int32} : pj_step 105 (63, a0 :: some (.int x) :: l, st, M) = some (64, a0 :: some (.int x) :: l, .int x :: st, M) := st_iload_n q105_63 rfl
theorem q105_64 : pj_row 105 64 = some (.iadd, 1, 0, 0, 0) := by decide +kernel
theorem s105_64 {L : pj_Loc} {st : List Value} {M : pj_Mem} {x y : Int32} : pj_step 105 (64, L, .int y :: .int x :: st, M) = some (65, L, .int (x + y) :: st, M) := st_iadd q105_64
theorem q105_65 : pj_row 105 65 = some (.iaload, 1, 0, 0, 0) := by decide +kernel
theorem s105_65 {L : pj_Loc} {st : List Value} {N S : Nat} {H : pj_Heap} {o : Nat} {i : Int32} : pj_step 105 (65, L, .int i :: .ref o :: st, (N, S, H)) = pj_pi 66 L st (N, S, H) (pj_arl (H o) 0 i) := st_iaload q105_65
theorem q105_66 : pj_row 105 66 = some (.ldc 81, 2, 0, 0, 100000) := by decide +kernel
theorem s105_66 {L : pj_Loc} {st : List Value} {M : pj_Mem}  : pj_step 105 (66, L, st, M) = some (68, L, .int 100000 :: st, M) := st_ldc q105_66 (by decide +kernel)
theorem q105_68 : pj_row 105 68 = some (.iadd, 1, 0, 0, 0) := by decide +kernel
theorem s105_68 {L : pj_Loc} {st : List Value} {M : pj_Mem} {x y : Int32} : pj_step 105 (68, L, .int y :: .int x :: st, M) = some (69, L, .int (x + y) :: st, M) := st_iadd q105_68
theorem q105_69 : pj_row 105 69 = some (.ireturn, 1, 0, 0, 0) := by decide +kernel
theorem t105_69 {L : pj_Loc} {M : pj_Mem} {v : Int32} : pj_Ends 105 (69, L, [.int v], M) (some (.int v), M) := pj_Ends.ret q105_69 (pj_rtn_i rt105)
theorem q105_70 : pj_row 105 70 = some (.aload_n 0, 1, 0, 0, 0) := by decide +kernel
theorem s105_70 {st : List Value} {M : pj_Mem} {l : pj_Loc} {x : Nat} : pj_step 105 (70, some (.ref x) :: l, st, M) = some (71, some (.ref x) :: l, .ref x :: st, M) := st_aload_n q105_70 rfl
theorem q105_71 : pj_row 105 71 = some (.getfield 7, 3, 6, 0, 0) := by decide +kernel
theorem s105_71 {L : pj_Loc} {st : List Value} {N S : Nat} {H : pj_Heap} {o : Nat} : pj_step 105 (71, L, .ref o :: st, (N, S, H)) = pj_pv 74 L st (N, S, H) (pj_fld (H o) 6 0) := st_getfield q105_71
theorem q105_74 : pj_row 105 74 = some (.bipush 14, 2, 0, 0, 0) := by decide +kernel
theorem s105_74 {L : pj_Loc} {st : List Value} {M : pj_Mem}  : pj_step 105 (74, L, st, M) = some (76, L, .int 14 :: st, M) := st_bipush q105_74 (by decide +kernel)
theorem q105_76 : pj_row 105 76 = some (.iload_n 1, 1, 0, 0, 0) := by decide +kernel
theorem s105_76 {st : List Value} {M : pj_Mem} {l : pj_Loc} {a0 : Option Value} {x : Int32} : pj_step 105 (76, a0 :: some (.int x) :: l, st, M) = some (77, a0 :: some (.int x) :: l, .int x :: st, M) := st_iload_n q105_76 rfl
theorem q105_77 : pj_row 105 77 = some (.iadd, 1, 0, 0, 0) := by decide +kernel
theorem s105_77 {L : pj_Loc} {st : List Value} {M : pj_Mem} {x y : Int32} : pj_step 105 (77, L, .int y :: .int x :: st, M) = some (78, L, .int (x + y) :: st, M) := st_iadd q105_77
theorem q105_78 : pj_row 105 78 = some (.iaload, 1, 0, 0, 0) := by decide +kernel
theorem s105_78 {L : pj_Loc} {st : List Value} {N S : Nat} {H : pj_Heap} {o : Nat} {i : Int32} : pj_step 105 (78, L, .int i :: .ref o :: st, (N, S, H)) = pj_pi 79 L st (N, S, H) (pj_arl (H o) 0 i) := st_iaload q105_78
theorem q105_79 : pj_row 105 79 = some (.ireturn, 1, 0, 0, 0) := by decide +kernel
theorem t105_79 {L : pj_Loc} {M : pj_Mem} {v : Int32} : pj_Ends 105 (79, L, [.int v], M) (some (.int v), M) := pj_Ends.ret q105_79 (pj_rtn_i rt105)
theorem q105_80 : pj_row 105 80 = some (.aload_n 0, 1, 0, 0, 0) := by decide +kernel
theorem s105_80 {st : List Value} {M : pj_Mem} {l : pj_Loc} {x : Nat} : pj_step 105 (80, some (.ref x) :: l, st, M) = some (81, some (.ref x) :: l, .ref x :: st, M) := st_aload_n q105_80 rfl
theorem q105_81 : pj_row 105 81 = some (.getfield 7, 3, 6, 0, 0) := by decide +kernel
theorem s105_81 {L : pj_Loc} {st : List Value} {N S : Nat} {H : pj_Heap} {o : Nat} : pj_step 105 (81, L, .ref o :: st, (N, S, H)) = pj_pv 84 L st (N, S, H) (pj_fld (H o) 6 0) := st_getfield q105_81
theorem q105_84 : pj_row 105 84 = some (.bipush 17, 2, 0, 0, 0) := by decide +kernel
theorem s105_84 {L : pj_Loc} {st : List Value} {M : pj_Mem}  : pj_step 105 (84, L, st, M) = some (86, L, .int 17 :: st, M) := st_bipush q105_84 (by decide +kernel)
theorem q105_86 : pj_row 105 86 = some (.iload_n 1, 1, 0, 0, 0) := by decide +kernel
theorem s105_86 {st : List Value} {M : pj_Mem} {l : pj_Loc} {a0 : Option Value} {x : Int32} : pj_step 105 (86, a0 :: some (.int x) :: l, st, M) = some (87, a0 :: some (.int x) :: l, .int x :: st, M) := st_iload_n q105_86 rfl
theorem q105_87 : pj_row 105 87 = some (.iadd, 1, 0, 0, 0) := by decide +kernel
theorem s105_87 {L : pj_Loc} {st : List Value} {M : pj_Mem} {x y : Int32} : pj_step 105 (87, L, .int y :: .int x :: st, M) = some (88, L, .int (x + y) :: st, M) := st_iadd q105_87
theorem q105_88 : pj_row 105 88 = some (.iaload, 1, 0, 0, 0) := by decide +kernel
theorem s105_88 {L : pj_Loc} {st : List Value} {N S : Nat} {H : pj_Heap} {o : Nat} {i : Int32} : pj_step 105 (88, L, .int i :: .ref o :: st, (N, S, H)) = pj_pi 89 L st (N, S, H) (pj_arl (H o) 0 i) := st_iaload q105_88
theorem q105_89 : pj_row 105 89 = some (.ireturn, 1, 0, 0, 0) := by decide +kernel
theorem t105_89 {L : pj_Loc} {M : pj_Mem} {v : Int32} : pj_Ends 105 (89, L, [.int v], M) (some (.int v), M) := pj_Ends.ret q105_89 (pj_rtn_i rt105)
theorem q105_90 : pj_row 105 90 = some (.aload_n 0, 1, 0, 0, 0) := by decide +kernel
theorem s105_90 {st : List Value} {M : pj_Mem} {l : pj_Loc} {x : Nat} : pj_step 105 (90, some (.ref x) :: l, st, M) = some (91, some (.ref x) :: l, .ref x :: st, M) := st_aload_n q105_90 rfl
theorem q105_91 : pj_row 105 91 = some (.getfield 7, 3, 6, 0, 0) := by decide +kernel
theorem s105_91 {L : pj_Loc} {st : List Value} {N S : Nat} {H : pj_Heap} {o : Nat} : pj_step 105 (91, L, .ref o :: st, (N, S, H)) = pj_pv 94 L st (N, S, H) (pj_fld (H o) 6 0) := st_getfield q105_91
theorem q105_94 : pj_row 105 94 = some (.bipush 6, 2, 0, 0, 0) := by decide +kernel
theorem s105_94 {L : pj_Loc} {st : List Value} {M : pj_Mem}  : pj_step 105 (94, L, st, M) = some (96, L, .int 6 :: st, M) := st_bipush q105_94 (by decide +kernel)
theorem q105_96 : pj_row 105 96 = some (.iaload, 1, 0, 0, 0) := by decide +kernel
theorem s105_96 {L : pj_Loc} {st : List Value} {N S : Nat} {H : pj_Heap} {o : Nat} {i : Int32} : pj_step 105 (96, L, .int i :: .ref o :: st, (N, S, H)) = pj_pi 97 L st (N, S, H) (pj_arl (H o) 0 i) := st_iaload q105_96
theorem q105_97 : pj_row 105 97 = some (.ifCond .ne 8, 3, 105, 0, 0) := by decide +kernel
theorem s105_97 {L : pj_Loc} {st : List Value} {M : pj_Mem} {x : Int32} : pj_step 105 (97, L, .int x :: st, M) = some (if ¬ x = 0 then 105 else 100, L, st, M) := st_if_ne q105_97
theorem q105_100 : pj_row 105 100 = some (.bipush (-6), 2, 0, 0, 0) := by decide +kernel
theorem s105_100 {L : pj_Loc} {st : List Value} {M : pj_Mem}  : pj_step 105 (100, L, st, M) = some (102, L, .int (-6) :: st, M) := st_bipush q105_100 (by decide +kernel)
theorem q105_102 : pj_row 105 102 = some (.goto 15, 3, 117, 0, 0) := by decide +kernel
theorem s105_102 {L : pj_Loc} {st : List Value} {M : pj_Mem}  : pj_step 105 (102, L, st, M) = some (117, L, st, M) := st_goto q105_102
theorem q105_105 : pj_row 105 105 = some (.aload_n 0, 1, 0, 0, 0) := by decide +kernel
theorem s105_105 {st : List Value} {M : pj_Mem} {l : pj_Loc} {x : Nat} : pj_step 105 (105, some (.ref x) :: l, st, M) = some (106, some (.ref x) :: l, .ref x :: st, M) := st_aload_n q105_105 rfl
theorem q105_106 : pj_row 105 106 = some (.getfield 7, 3, 6, 0, 0) := by decide +kernel
theorem s105_106 {L : pj_Loc} {st : List Value} {N S : Nat} {H : pj_Heap} {o : Nat} : pj_step 105 (106, L, .ref o :: st, (N, S, H)) = pj_pv 109 L st (N, S, H) (pj_fld (H o) 6 0) := st_getfield q105_106
theorem q105_109 : pj_row 105 109 = some (.bipush 20, 2, 0, 0, 0) := by decide +kernel
theorem s105_109 {L : pj_Loc} {st : List Value} {M : pj_Mem}  : pj_step 105 (109, L, st, M) = some (111, L, .int 20 :: st, M) := st_bipush q105_109 (by decide +kernel)
theorem q105_111 : pj_row 105 111 = some (.iload_n 1, 1, 0, 0, 0) := by decide +kernel
theorem s105_111 {st : List Value} {M : pj_Mem} {l : pj_Loc} {a0 : Option Value} {x : Int32} : pj_step 105 (111, a0 :: some (.int x) :: l, st, M) = some (112, a0 :: some (.int x) :: l, .int x :: st, M) := st_iload_n q105_111 rfl
theorem q105_112 : pj_row 105 112 = some (.iadd, 1, 0, 0, 0) := by decide +kernel
theorem s105_112 {L : pj_Loc} {st : List Value} {M : pj_Mem} {x y : Int32} : pj_step 105 (112, L, .int y :: .int x :: st, M) = some (113, L, .int (x + y) :: st, M) := st_iadd q105_112
theorem q105_113 : pj_row 105 113 = some (.iaload, 1, 0, 0, 0) := by decide +kernel
theorem s105_113 {L : pj_Loc} {st : List Value} {N S : Nat} {H : pj_Heap} {o : Nat} {i : Int32} : pj_step 105 (113, L, .int i :: .ref o :: st, (N, S, H)) = pj_pi 114 L st (N, S, H) (pj_arl (H o) 0 i) := st_iaload q105_113
theorem q105_114 : pj_row 105 114 = some (.ldc 81, 2, 0, 0, 100000) := by decide +kernel
theorem s105_114 {L : pj_Loc} {st : List Value} {M : pj_Mem}  : pj_step 105 (114, L, st, M) = some (116, L, .int 100000 :: st, M) := st_ldc q105_114 (by decide +kernel)
theorem q105_116 : pj_row 105 116 = some (.iadd, 1, 0, 0, 0) := by decide +kernel
theorem s105_116 {L : pj_Loc} {st : List Value} {M : pj_Mem} {x y : Int32} : pj_step 105 (116, L, .int y :: .int x :: st, M) = some (117, L, .int (x + y) :: st, M) := st_iadd q105_116
theorem q105_117 : pj_row 105 117 = some (.ireturn, 1, 0, 0, 0) := by decide +kernel
theorem t105_117 {L : pj_Loc} {M : pj_Mem} {v : Int32} : pj_Ends 105 (117, L, [.int v], M) (some (.int v), M) := pj_Ends.ret q105_117 (pj_rtn_i rt105)
theorem q105_118 : pj_row 105 118 = some (.bipush (-2), 2, 0, 0, 0) := by decide +kernel
theorem s105_118 {L : pj_Loc} {st : List Value} {M : pj_Mem}  : pj_step 105 (118, L, st, M) = some (120, L, .int (-2) :: st, M) := st_bipush q105_118 (by decide +kernel)
theorem q105_120 : pj_row 105 120 = some (.ireturn, 1, 0, 0, 0) := by decide +kernel
theorem t105_120 {L : pj_Loc} {M : pj_Mem} {v : Int32} : pj_Ends 105 (120, L, [.int v], M) (some (.int v), M) := pj_Ends.ret q105_120 (pj_rtn_i rt105)
theorem rt106 : pj_rt 106 = some .int := rfl
theorem q106_0 : pj_row 106 0 = some (.iload_n 1, 1, 0, 0, 0) := by decide +kernel
theorem s106_0 {st : List Value} {M : pj_Mem} {l : pj_Loc} {a0 : Option Value} {x : Int32} : pj_step 106 (0, a0 :: some (.int x) :: l, st, M) = some (1, a0 :: some (.int x) :: l, .int x :: st, M) := st_iload_n q106_0 rfl
theorem q106_1 : pj_row 106 1 = some (.invokestatic 137, 3, 100, 1, 0) := by decide +kernel
theorem e106_1 {L : pj_Loc} {st : List Value} {N S : Nat} {H : pj_Heap} {o : Option Value × pj_Mem} {M' : pj_Mem} {x0 : Int32} {r : Int32} (h4 : pj_le4 st = true) (h1 : pj_Ends 100 (0, [some (.int x0)], [], (N, S, H)) (some (.int r), M')) (h2 : pj_Ends 106 (4, L, .int r :: st, M') o) : pj_Ends 106 (1, L, .int x0 :: st, (N, S, H)) o := ec_s1 q106_1 (Or.inl rfl) h4 rfl h1 h2
theorem q106_4 : pj_row 106 4 = some (.ifCond .ne 5, 3, 9, 0, 0) := by decide +kernel
theorem s106_4 {L : pj_Loc} {st : List Value} {M : pj_Mem} {x : Int32} : pj_step 106 (4, L, .int x :: st, M) = some (if ¬ x = 0 then 9 else 7, L, st, M) := st_if_ne q106_4
theorem q106_7 : pj_row 106 7 = some (.iconst (-1), 1, 0, 0, 0) := by decide +kernel
theorem s106_7 {L : pj_Loc} {st : List Value} {M : pj_Mem}  : pj_step 106 (7, L, st, M) = some (8, L, .int (-1) :: st, M) := st_iconst q106_7 (by decide +kernel)
theorem q106_8 : pj_row 106 8 = some (.ireturn, 1, 0, 0, 0) := by decide +kernel
theorem t106_8 {L : pj_Loc} {M : pj_Mem} {v : Int32} : pj_Ends 106 (8, L, [.int v], M) (some (.int v), M) := pj_Ends.ret q106_8 (pj_rtn_i rt106)
theorem q106_9 : pj_row 106 9 = some (.iload_n 2, 1, 0, 0, 0) := by decide +kernel
theorem s106_9 {st : List Value} {M : pj_Mem} {l : pj_Loc} {a0 a1 : Option Value} {x : Int32} : pj_step 106 (9, a0 :: a1 :: some (.int x) :: l, st, M) = some (10, a0 :: a1 :: some (.int x) :: l, .int x :: st, M) := st_iload_n q106_9 rfl
theorem q106_10 : pj_row 106 10 = some (.ifCond .ne 15, 3, 25, 0, 0) := by decide +kernel
theorem s106_10 {L : pj_Loc} {st : List Value} {M : pj_Mem} {x : Int32} : pj_step 106 (10, L, .int x :: st, M) = some (if ¬ x = 0 then 25 else 13, L, st, M) := st_if_ne q106_10
theorem q106_13 : pj_row 106 13 = some (.aload_n 0, 1, 0, 0, 0) := by decide +kernel
theorem s106_13 {st : List Value} {M : pj_Mem} {l : pj_Loc} {x : Nat} : pj_step 106 (13, some (.ref x) :: l, st, M) = some (14, some (.ref x) :: l, .ref x :: st, M) := st_aload_n q106_13 rfl
theorem q106_14 : pj_row 106 14 = some (.getfield 7, 3, 6, 0, 0) := by decide +kernel
theorem s106_14 {L : pj_Loc} {st : List Value} {N S : Nat} {H : pj_Heap} {o : Nat} : pj_step 106 (14, L, .ref o :: st, (N, S, H)) = pj_pv 17 L st (N, S, H) (pj_fld (H o) 6 0) := st_getfield q106_14
theorem q106_17 : pj_row 106 17 = some (.bipush 23, 2, 0, 0, 0) := by decide +kernel
theorem s106_17 {L : pj_Loc} {st : List Value} {M : pj_Mem}  : pj_step 106 (17, L, st, M) = some (19, L, .int 23 :: st, M) := st_bipush q106_17 (by decide +kernel)
theorem q106_19 : pj_row 106 19 = some (.iload_n 1, 1, 0, 0, 0) := by decide +kernel
theorem s106_19 {st : List Value} {M : pj_Mem} {l : pj_Loc} {a0 : Option Value} {x : Int32} : pj_step 106 (19, a0 :: some (.int x) :: l, st, M) = some (20, a0 :: some (.int x) :: l, .int x :: st, M) := st_iload_n q106_19 rfl
theorem q106_20 : pj_row 106 20 = some (.iadd, 1, 0, 0, 0) := by decide +kernel
theorem s106_20 {L : pj_Loc} {st : List Value} {M : pj_Mem} {x y : Int32} : pj_step 106 (20, L, .int y :: .int x :: st, M) = some (21, L, .int (x + y) :: st, M) := st_iadd q106_20
theorem q106_21 : pj_row 106 21 = some (.iaload, 1, 0, 0, 0) := by decide +kernel
theorem s106_21 {L : pj_Loc} {st : List Value} {N S : Nat} {H : pj_Heap} {o : Nat} {i : Int32} : pj_step 106 (21, L, .int i :: .ref o :: st, (N, S, H)) = pj_pi 22 L st (N, S, H) (pj_arl (H o) 0 i) := st_iaload q106_21
theorem q106_22 : pj_row 106 22 = some (.goto 22, 3, 44, 0, 0) := by decide +kernel
theorem s106_22 {L : pj_Loc} {st : List Value} {M : pj_Mem}  : pj_step 106 (22, L, st, M) = some (44, L, st, M) := st_goto q106_22
theorem q106_25 : pj_row 106 25 = some (.iload_n 2, 1, 0, 0, 0) := by decide +kernel
theorem s106_25 {st : List Value} {M : pj_Mem} {l : pj_Loc} {a0 a1 : Option Value} {x : Int32} : pj_step 106 (25, a0 :: a1 :: some (.int x) :: l, st, M) = some (26, a0 :: a1 :: some (.int x) :: l, .int x :: st, M) := st_iload_n q106_25 rfl
theorem q106_26 : pj_row 106 26 = some (.iconst 1, 1, 0, 0, 0) := by decide +kernel
theorem s106_26 {L : pj_Loc} {st : List Value} {M : pj_Mem}  : pj_step 106 (26, L, st, M) = some (27, L, .int 1 :: st, M) := st_iconst q106_26 (by decide +kernel)
theorem q106_27 : pj_row 106 27 = some (.if_icmp .ne 15, 3, 42, 0, 0) := by decide +kernel
theorem s106_27 {L : pj_Loc} {st : List Value} {M : pj_Mem} {x y : Int32} : pj_step 106 (27, L, .int y :: .int x :: st, M) = some (if ¬ x = y then 42 else 30, L, st, M) := st_icmp_ne q106_27
theorem q106_30 : pj_row 106 30 = some (.aload_n 0, 1, 0, 0, 0) := by decide +kernel
theorem s106_30 {st : List Value} {M : pj_Mem} {l : pj_Loc} {x : Nat} : pj_step 106 (30, some (.ref x) :: l, st, M) = some (31, some (.ref x) :: l, .ref x :: st, M) := st_aload_n q106_30 rfl
theorem q106_31 : pj_row 106 31 = some (.getfield 7, 3, 6, 0, 0) := by decide +kernel
theorem s106_31 {L : pj_Loc} {st : List Value} {N S : Nat} {H : pj_Heap} {o : Nat} : pj_step 106 (31, L, .ref o :: st, (N, S, H)) = pj_pv 34 L st (N, S, H) (pj_fld (H o) 6 0) := st_getfield q106_31
theorem q106_34 : pj_row 106 34 = some (.bipush 26, 2, 0, 0, 0) := by decide +kernel
theorem s106_34 {L : pj_Loc} {st : List Value} {M : pj_Mem}  : pj_step 106 (34, L, st, M) = some (36, L, .int 26 :: st, M) := st_bipush q106_34 (by decide +kernel)
theorem q106_36 : pj_row 106 36 = some (.iload_n 1, 1, 0, 0, 0) := by decide +kernel
theorem s106_36 {st : List Value} {M : pj_Mem} {l : pj_Loc} {a0 : Option Value} {x : Int32} : pj_step 106 (36, a0 :: some (.int x) :: l, st, M) = some (37, a0 :: some (.int x) :: l, .int x :: st, M) := st_iload_n q106_36 rfl
theorem q106_37 : pj_row 106 37 = some (.iadd, 1, 0, 0, 0) := by decide +kernel
theorem s106_37 {L : pj_Loc} {st : List Value} {M : pj_Mem} {x y : Int32} : pj_step 106 (37, L, .int y :: .int x :: st, M) = some (38, L, .int (x + y) :: st, M) := st_iadd q106_37
theorem q106_38 : pj_row 106 38 = some (.iaload, 1, 0, 0, 0) := by decide +kernel
theorem s106_38 {L : pj_Loc} {st : List Value} {N S : Nat} {H : pj_Heap} {o : Nat} {i : Int32} : pj_step 106 (38, L, .int i :: .ref o :: st, (N, S, H)) = pj_pi 39 L st (N, S, H) (pj_arl (H o) 0 i) := st_iaload q106_38
theorem q106_39 : pj_row 106 39 = some (.goto 5, 3, 44, 0, 0) := by decide +kernel
theorem s106_39 {L : pj_Loc} {st : List Value} {M : pj_Mem}  : pj_step 106 (39, L, st, M) = some (44, L, st, M) := st_goto q106_39
theorem q106_42 : pj_row 106 42 = some (.bipush (-2), 2, 0, 0, 0) := by decide +kernel
theorem s106_42 {L : pj_Loc} {st : List Value} {M : pj_Mem}  : pj_step 106 (42, L, st, M) = some (44, L, .int (-2) :: st, M) := st_bipush q106_42 (by decide +kernel)
theorem q106_44 : pj_row 106 44 = some (.ireturn, 1, 0, 0, 0) := by decide +kernel
theorem t106_44 {L : pj_Loc} {M : pj_Mem} {v : Int32} : pj_Ends 106 (44, L, [.int v], M) (some (.int v), M) := pj_Ends.ret q106_44 (pj_rtn_i rt106)
theorem rt107 : pj_rt 107 = some .int := rfl
theorem q107_0 : pj_row 107 0 = some (.iload_n 1, 1, 0, 0, 0) := by decide +kernel
theorem s107_0 {st : List Value} {M : pj_Mem} {l : pj_Loc} {a0 : Option Value} {x : Int32} : pj_step 107 (0, a0 :: some (.int x) :: l, st, M) = some (1, a0 :: some (.int x) :: l, .int x :: st, M) := st_iload_n q107_0 rfl
theorem q107_1 : pj_row 107 1 = some (.i2l, 1, 0, 0, 0) := by decide +kernel
theorem s107_1 {L : pj_Loc} {st : List Value} {M : pj_Mem} {x : Int32} : pj_step 107 (1, L, .int x :: st, M) = some (2, L, .long x.toInt64 :: st, M) := st_i2l q107_1
theorem q107_2 : pj_row 107 2 = some (.lconst 0, 1, 0, 0, 0) := by decide +kernel
theorem s107_2 {L : pj_Loc} {st : List Value} {M : pj_Mem}  : pj_step 107 (2, L, st, M) = some (3, L, .long 0 :: st, M) := st_lconst q107_2 (by decide +kernel)
theorem q107_3 : pj_row 107 3 = some (.aload_n 0, 1, 0, 0, 0) := by decide +kernel
theorem s107_3 {st : List Value} {M : pj_Mem} {l : pj_Loc} {x : Nat} : pj_step 107 (3, some (.ref x) :: l, st, M) = some (4, some (.ref x) :: l, .ref x :: st, M) := st_aload_n q107_3 rfl
theorem q107_4 : pj_row 107 4 = some (.getfield 7, 3, 6, 0, 0) := by decide +kernel
theorem s107_4 {L : pj_Loc} {st : List Value} {N S : Nat} {H : pj_Heap} {o : Nat} : pj_step 107 (4, L, .ref o :: st, (N, S, H)) = pj_pv 7 L st (N, S, H) (pj_fld (H o) 6 0) := st_getfield q107_4
theorem q107_7 : pj_row 107 7 = some (.bipush 30, 2, 0, 0, 0) := by decide +kernel
theorem s107_7 {L : pj_Loc} {st : List Value} {M : pj_Mem}  : pj_step 107 (7, L, st, M) = some (9, L, .int 30 :: st, M) := st_bipush q107_7 (by decide +kernel)
theorem q107_9 : pj_row 107 9 = some (.iaload, 1, 0, 0, 0) := by decide +kernel
theorem s107_9 {L : pj_Loc} {st : List Value} {N S : Nat} {H : pj_Heap} {o : Nat} {i : Int32} : pj_step 107 (9, L, .int i :: .ref o :: st, (N, S, H)) = pj_pi 10 L st (N, S, H) (pj_arl (H o) 0 i) := st_iaload q107_9
theorem q107_10 : pj_row 107 10 = some (.i2l, 1, 0, 0, 0) := by decide +kernel
theorem s107_10 {L : pj_Loc} {st : List Value} {M : pj_Mem} {x : Int32} : pj_step 107 (10, L, .int x :: st, M) = some (11, L, .long x.toInt64 :: st, M) := st_i2l q107_10
theorem q107_11 : pj_row 107 11 = some (.lconst 1, 1, 0, 0, 0) := by decide +kernel
theorem s107_11 {L : pj_Loc} {st : List Value} {M : pj_Mem}  : pj_step 107 (11, L, st, M) = some (12, L, .long 1 :: st, M) := st_lconst q107_11 (by decide +kernel)
theorem q107_12 : pj_row 107 12 = some (.lsub, 1, 0, 0, 0) := by decide +kernel
theorem s107_12 {L : pj_Loc} {st : List Value} {M : pj_Mem} {x y : Int64} : pj_step 107 (12, L, .long y :: .long x :: st, M) = some (13, L, .long (x - y) :: st, M) := st_lsub q107_12
theorem q107_13 : pj_row 107 13 = some (.invokestatic 42, 3, 77, 3, 0) := by decide +kernel
theorem e107_13 {L : pj_Loc} {st : List Value} {N S : Nat} {H : pj_Heap} {o : Option Value × pj_Mem} {M' : pj_Mem} {x0 : Int64} {x1 : Int64} {x2 : Int64} {r : Int32} (h4 : pj_le4 st = true) (h1 : pj_Ends 77 (0, [some (.long x0), none, some (.long x1), none, some (.long x2), none], [], (N, S, H)) (some (.int r), M')) (h2 : pj_Ends 107 (16, L, .int r :: st, M') o) : pj_Ends 107 (13, L, .long x2 :: .long x1 :: .long x0 :: st, (N, S, H)) o := ec_s3 q107_13 (Or.inl rfl) h4 rfl h1 h2
theorem q107_16 : pj_row 107 16 = some (.ifCond .ne 5, 3, 21, 0, 0) := by decide +kernel
theorem s107_16 {L : pj_Loc} {st : List Value} {M : pj_Mem} {x : Int32} : pj_step 107 (16, L, .int x :: st, M) = some (if ¬ x = 0 then 21 else 19, L, st, M) := st_if_ne q107_16
theorem q107_19 : pj_row 107 19 = some (.iconst (-1), 1, 0, 0, 0) := by decide +kernel
theorem s107_19 {L : pj_Loc} {st : List Value} {M : pj_Mem}  : pj_step 107 (19, L, st, M) = some (20, L, .int (-1) :: st, M) := st_iconst q107_19 (by decide +kernel)
theorem q107_20 : pj_row 107 20 = some (.ireturn, 1, 0, 0, 0) := by decide +kernel
theorem t107_20 {L : pj_Loc} {M : pj_Mem} {v : Int32} : pj_Ends 107 (20, L, [.int v], M) (some (.int v), M) := pj_Ends.ret q107_20 (pj_rtn_i rt107)
theorem q107_21 : pj_row 107 21 = some (.iload_n 2, 1, 0, 0, 0) := by decide +kernel
theorem s107_21 {st : List Value} {M : pj_Mem} {l : pj_Loc} {a0 a1 : Option Value} {x : Int32} : pj_step 107 (21, a0 :: a1 :: some (.int x) :: l, st, M) = some (22, a0 :: a1 :: some (.int x) :: l, .int x :: st, M) := st_iload_n q107_21 rfl
theorem q107_22 : pj_row 107 22 = some (.i2l, 1, 0, 0, 0) := by decide +kernel
theorem s107_22 {L : pj_Loc} {st : List Value} {M : pj_Mem} {x : Int32} : pj_step 107 (22, L, .int x :: st, M) = some (23, L, .long x.toInt64 :: st, M) := st_i2l q107_22
theorem q107_23 : pj_row 107 23 = some (.lconst 0, 1, 0, 0, 0) := by decide +kernel
theorem s107_23 {L : pj_Loc} {st : List Value} {M : pj_Mem}  : pj_step 107 (23, L, st, M) = some (24, L, .long 0 :: st, M) := st_lconst q107_23 (by decide +kernel)
theorem q107_24 : pj_row 107 24 = some (.ldc2_w 146, 3, 0, 0, 9) := by decide +kernel
theorem s107_24 {L : pj_Loc} {st : List Value} {M : pj_Mem}  : pj_step 107 (24, L, st, M) = some (27, L, .long 9 :: st, M) := st_ldc2_w q107_24 (by decide +kernel)
theorem q107_27 : pj_row 107 27 = some (.invokestatic 42, 3, 77, 3, 0) := by decide +kernel
theorem e107_27 {L : pj_Loc} {st : List Value} {N S : Nat} {H : pj_Heap} {o : Option Value × pj_Mem} {M' : pj_Mem} {x0 : Int64} {x1 : Int64} {x2 : Int64} {r : Int32} (h4 : pj_le4 st = true) (h1 : pj_Ends 77 (0, [some (.long x0), none, some (.long x1), none, some (.long x2), none], [], (N, S, H)) (some (.int r), M')) (h2 : pj_Ends 107 (30, L, .int r :: st, M') o) : pj_Ends 107 (27, L, .long x2 :: .long x1 :: .long x0 :: st, (N, S, H)) o := ec_s3 q107_27 (Or.inl rfl) h4 rfl h1 h2
theorem q107_30 : pj_row 107 30 = some (.ifCond .eq 20, 3, 50, 0, 0) := by decide +kernel
theorem s107_30 {L : pj_Loc} {st : List Value} {M : pj_Mem} {x : Int32} : pj_step 107 (30, L, .int x :: st, M) = some (if x = 0 then 50 else 33, L, st, M) := st_if_eq q107_30
theorem q107_33 : pj_row 107 33 = some (.aload_n 0, 1, 0, 0, 0) := by decide +kernel
theorem s107_33 {st : List Value} {M : pj_Mem} {l : pj_Loc} {x : Nat} : pj_step 107 (33, some (.ref x) :: l, st, M) = some (34, some (.ref x) :: l, .ref x :: st, M) := st_aload_n q107_33 rfl
theorem q107_34 : pj_row 107 34 = some (.getfield 7, 3, 6, 0, 0) := by decide +kernel
theorem s107_34 {L : pj_Loc} {st : List Value} {N S : Nat} {H : pj_Heap} {o : Nat} : pj_step 107 (34, L, .ref o :: st, (N, S, H)) = pj_pv 37 L st (N, S, H) (pj_fld (H o) 6 0) := st_getfield q107_34
theorem q107_37 : pj_row 107 37 = some (.bipush 31, 2, 0, 0, 0) := by decide +kernel
theorem s107_37 {L : pj_Loc} {st : List Value} {M : pj_Mem}  : pj_step 107 (37, L, st, M) = some (39, L, .int 31 :: st, M) := st_bipush q107_37 (by decide +kernel)
theorem q107_39 : pj_row 107 39 = some (.bipush 10, 2, 0, 0, 0) := by decide +kernel
theorem s107_39 {L : pj_Loc} {st : List Value} {M : pj_Mem}  : pj_step 107 (39, L, st, M) = some (41, L, .int 10 :: st, M) := st_bipush q107_39 (by decide +kernel)
theorem q107_41 : pj_row 107 41 = some (.iload_n 1, 1, 0, 0, 0) := by decide +kernel
theorem s107_41 {st : List Value} {M : pj_Mem} {l : pj_Loc} {a0 : Option Value} {x : Int32} : pj_step 107 (41, a0 :: some (.int x) :: l, st, M) = some (42, a0 :: some (.int x) :: l, .int x :: st, M) := st_iload_n q107_41 rfl
theorem q107_42 : pj_row 107 42 = some (.imul, 1, 0, 0, 0) := by decide +kernel
theorem s107_42 {L : pj_Loc} {st : List Value} {M : pj_Mem} {x y : Int32} : pj_step 107 (42, L, .int y :: .int x :: st, M) = some (43, L, .int (x * y) :: st, M) := st_imul q107_42
theorem q107_43 : pj_row 107 43 = some (.iadd, 1, 0, 0, 0) := by decide +kernel
theorem s107_43 {L : pj_Loc} {st : List Value} {M : pj_Mem} {x y : Int32} : pj_step 107 (43, L, .int y :: .int x :: st, M) = some (44, L, .int (x + y) :: st, M) := st_iadd q107_43
theorem q107_44 : pj_row 107 44 = some (.iload_n 2, 1, 0, 0, 0) := by decide +kernel
theorem s107_44 {st : List Value} {M : pj_Mem} {l : pj_Loc} {a0 a1 : Option Value} {x : Int32} : pj_step 107 (44, a0 :: a1 :: some (.int x) :: l, st, M) = some (45, a0 :: a1 :: some (.int x) :: l, .int x :: st, M) := st_iload_n q107_44 rfl
theorem q107_45 : pj_row 107 45 = some (.iadd, 1, 0, 0, 0) := by decide +kernel
theorem s107_45 {L : pj_Loc} {st : List Value} {M : pj_Mem} {x y : Int32} : pj_step 107 (45, L, .int y :: .int x :: st, M) = some (46, L, .int (x + y) :: st, M) := st_iadd q107_45
theorem q107_46 : pj_row 107 46 = some (.iaload, 1, 0, 0, 0) := by decide +kernel
theorem s107_46 {L : pj_Loc} {st : List Value} {N S : Nat} {H : pj_Heap} {o : Nat} {i : Int32} : pj_step 107 (46, L, .int i :: .ref o :: st, (N, S, H)) = pj_pi 47 L st (N, S, H) (pj_arl (H o) 0 i) := st_iaload q107_46
theorem q107_47 : pj_row 107 47 = some (.goto 5, 3, 52, 0, 0) := by decide +kernel
theorem s107_47 {L : pj_Loc} {st : List Value} {M : pj_Mem}  : pj_step 107 (47, L, st, M) = some (52, L, st, M) := st_goto q107_47
theorem q107_50 : pj_row 107 50 = some (.bipush (-2), 2, 0, 0, 0) := by decide +kernel
theorem s107_50 {L : pj_Loc} {st : List Value} {M : pj_Mem}  : pj_step 107 (50, L, st, M) = some (52, L, .int (-2) :: st, M) := st_bipush q107_50 (by decide +kernel)
theorem q107_52 : pj_row 107 52 = some (.ireturn, 1, 0, 0, 0) := by decide +kernel
theorem t107_52 {L : pj_Loc} {M : pj_Mem} {v : Int32} : pj_Ends 107 (52, L, [.int v], M) (some (.int v), M) := pj_Ends.ret q107_52 (pj_rtn_i rt107)
theorem rt108 : pj_rt 108 = some .int := rfl
theorem q108_0 : pj_row 108 0 = some (.iload_n 1, 1, 0, 0, 0) := by decide +kernel
theorem s108_0 {st : List Value} {M : pj_Mem} {l : pj_Loc} {a0 : Option Value} {x : Int32} : pj_step 108 (0, a0 :: some (.int x) :: l, st, M) = some (1, a0 :: some (.int x) :: l, .int x :: st, M) := st_iload_n q108_0 rfl
theorem q108_1 : pj_row 108 1 = some (.i2l, 1, 0, 0, 0) := by decide +kernel
theorem s108_1 {L : pj_Loc} {st : List Value} {M : pj_Mem} {x : Int32} : pj_step 108 (1, L, .int x :: st, M) = some (2, L, .long x.toInt64 :: st, M) := st_i2l q108_1
theorem q108_2 : pj_row 108 2 = some (.ldc2_w 148, 3, 0, 0, 8) := by decide +kernel
theorem s108_2 {L : pj_Loc} {st : List Value} {M : pj_Mem}  : pj_step 108 (2, L, st, M) = some (5, L, .long 8 :: st, M) := st_ldc2_w q108_2 (by decide +kernel)
theorem q108_5 : pj_row 108 5 = some (.ldc2_w 150, 3, 0, 0, 13) := by decide +kernel
theorem s108_5 {L : pj_Loc} {st : List Value} {M : pj_Mem}  : pj_step 108 (5, L, st, M) = some (8, L, .long 13 :: st, M) := st_ldc2_w q108_5 (by decide +kernel)
theorem q108_8 : pj_row 108 8 = some (.invokestatic 42, 3, 77, 3, 0) := by decide +kernel
theorem e108_8 {L : pj_Loc} {st : List Value} {N S : Nat} {H : pj_Heap} {o : Option Value × pj_Mem} {M' : pj_Mem} {x0 : Int64} {x1 : Int64} {x2 : Int64} {r : Int32} (h4 : pj_le4 st = true) (h1 : pj_Ends 77 (0, [some (.long x0), none, some (.long x1), none, some (.long x2), none], [], (N, S, H)) (some (.int r), M')) (h2 : pj_Ends 108 (11, L, .int r :: st, M') o) : pj_Ends 108 (8, L, .long x2 :: .long x1 :: .long x0 :: st, (N, S, H)) o := ec_s3 q108_8 (Or.inl rfl) h4 rfl h1 h2
theorem q108_11 : pj_row 108 11 = some (.ifCond .eq 13, 3, 24, 0, 0) := by decide +kernel
theorem s108_11 {L : pj_Loc} {st : List Value} {M : pj_Mem} {x : Int32} : pj_step 108 (11, L, .int x :: st, M) = some (if x = 0 then 24 else 14, L, st, M) := st_if_eq q108_11
theorem q108_14 : pj_row 108 14 = some (.aload_n 0, 1, 0, 0, 0) := by decide +kernel
theorem s108_14 {st : List Value} {M : pj_Mem} {l : pj_Loc} {x : Nat} : pj_step 108 (14, some (.ref x) :: l, st, M) = some (15, some (.ref x) :: l, .ref x :: st, M) := st_aload_n q108_14 rfl
theorem q108_15 : pj_row 108 15 = some (.getfield 7, 3, 6, 0, 0) := by decide +kernel
theorem s108_15 {L : pj_Loc} {st : List Value} {N S : Nat} {H : pj_Heap} {o : Nat} : pj_step 108 (15, L, .ref o :: st, (N, S, H)) = pj_pv 18 L st (N, S, H) (pj_fld (H o) 6 0) := st_getfield q108_15
theorem q108_18 : pj_row 108 18 = some (.iload_n 1, 1, 0, 0, 0) := by decide +kernel
theorem s108_18 {st : List Value} {M : pj_Mem} {l : pj_Loc} {a0 : Option Value} {x : Int32} : pj_step 108 (18, a0 :: some (.int x) :: l, st, M) = some (19, a0 :: some (.int x) :: l, .int x :: st, M) := st_iload_n q108_18 rfl
theorem q108_19 : pj_row 108 19 = some (.bipush 8, 2, 0, 0, 0) := by decide +kernel
theorem s108_19 {L : pj_Loc} {st : List Value} {M : pj_Mem}  : pj_step 108 (19, L, st, M) = some (21, L, .int 8 :: st, M) := st_bipush q108_19 (by decide +kernel)
theorem q108_21 : pj_row 108 21 = some (.isub, 1, 0, 0, 0) := by decide +kernel
theorem s108_21 {L : pj_Loc} {st : List Value} {M : pj_Mem} {x y : Int32} : pj_step 108 (21, L, .int y :: .int x :: st, M) = some (22, L, .int (x - y) :: st, M) := st_isub q108_21
theorem q108_22 : pj_row 108 22 = some (.iaload, 1, 0, 0, 0) := by decide +kernel
theorem s108_22 {L : pj_Loc} {st : List Value} {N S : Nat} {H : pj_Heap} {o : Nat} {i : Int32} : pj_step 108 (22, L, .int i :: .ref o :: st, (N, S, H)) = pj_pi 23 L st (N, S, H) (pj_arl (H o) 0 i) := st_iaload q108_22
theorem q108_23 : pj_row 108 23 = some (.ireturn, 1, 0, 0, 0) := by decide +kernel
theorem t108_23 {L : pj_Loc} {M : pj_Mem} {v : Int32} : pj_Ends 108 (23, L, [.int v], M) (some (.int v), M) := pj_Ends.ret q108_23 (pj_rtn_i rt108)
theorem q108_24 : pj_row 108 24 = some (.iload_n 1, 1, 0, 0, 0) := by decide +kernel
theorem s108_24 {st : List Value} {M : pj_Mem} {l : pj_Loc} {a0 : Option Value} {x : Int32} : pj_step 108 (24, a0 :: some (.int x) :: l, st, M) = some (25, a0 :: some (.int x) :: l, .int x :: st, M) := st_iload_n q108_24 rfl
theorem q108_25 : pj_row 108 25 = some (.tableswitch 149 0 15 #[79, 87, 95, 100, 105, 110, 118, 126, 149, 149, 149, 149, 149, 149, 139, 144], 79, 0, 0, 0) := by decide +kernel
theorem s108_25 {L : pj_Loc} {st : List Value} {M : pj_Mem} {x : Int32} : pj_step 108 (25, L, .int x :: st, M) = some (if x = 0 then 104 else if x = 1 then 112 else if x = 2 then 120 else if x = 3 then 125 else if x = 4 then 130 else if x = 5 then 135 else if x = 6 then 143 else if x = 7 then 151 else if x = 8 then 174 else if x = 9 then 174 else if x = 10 then 174 else if x = 11 then 174 else if x = 12 then 174 else if x = 13 then 174 else if x = 14 then 164 else if x = 15 then 169 else 174, L, st, M) := by
  rw [st_tsw q108_25]
  unfold pj_tsw
  by_cases hr : x.toInt < 0 ∨ 15 < x.toInt
  · simp only
    rw [if_pos hr]
    rw [if_neg (show ¬ x = 0 from fun e => by rw [e] at hr; revert hr; decide)]
    rw [if_neg (show ¬ x = 1 from fun e => by rw [e] at hr; revert hr; decide)]
    rw [if_neg (show ¬ x = 2 from fun e => by rw [e] at hr; revert hr; decide)]
    rw [if_neg (show ¬ x = 3 from fun e => by rw [e] at hr; revert hr; decide)]
    rw [if_neg (show ¬ x = 4 from fun e => by rw [e] at hr; revert hr; decide)]
    rw [if_neg (show ¬ x = 5 from fun e => by rw [e] at hr; revert hr; decide)]
    rw [if_neg (show ¬ x = 6 from fun e => by rw [e] at hr; revert hr; decide)]
    rw [if_neg (show ¬ x = 7 from fun e => by rw [e] at hr; revert hr; decide)]
    rw [if_neg (show ¬ x = 8 from fun e => by rw [e] at hr; revert hr; decide)]
    rw [if_neg (show ¬ x = 9 from fun e => by rw [e] at hr; revert hr; decide)]
    rw [if_neg (show ¬ x = 10 from fun e => by rw [e] at hr; revert hr; decide)]
    rw [if_neg (show ¬ x = 11 from fun e => by rw [e] at hr; revert hr; decide)]
    rw [if_neg (show ¬ x = 12 from fun e => by rw [e] at hr; revert hr; decide)]
    rw [if_neg (show ¬ x = 13 from fun e => by rw [e] at hr; revert hr; decide)]
    rw [if_neg (show ¬ x = 14 from fun e => by rw [e] at hr; revert hr; decide)]
    rw [if_neg (show ¬ x = 15 from fun e => by rw [e] at hr; revert hr; decide)]
    rfl
  · have h3 : x.toInt = 0 ∨ x.toInt = 1 ∨ x.toInt = 2 ∨ x.toInt = 3 ∨ x.toInt = 4 ∨ x.toInt = 5 ∨ x.toInt = 6 ∨ x.toInt = 7 ∨ x.toInt = 8 ∨ x.toInt = 9 ∨ x.toInt = 10 ∨ x.toInt = 11 ∨ x.toInt = 12 ∨ x.toInt = 13 ∨ x.toInt = 14 ∨ x.toInt = 15 := by omega
    rcases h3 with h3 | h3 | h3 | h3 | h3 | h3 | h3 | h3 | h3 | h3 | h3 | h3 | h3 | h3 | h3 | h3
    · have e : x = 0 := Int32.toInt_inj.mp (h3.trans (by decide))
      subst e
      rfl
    · have e : x = 1 := Int32.toInt_inj.mp (h3.trans (by decide))
      subst e
      rfl
    · have e : x = 2 := Int32.toInt_inj.mp (h3.trans (by decide))
      subst e
      rfl
    · have e : x = 3 := Int32.toInt_inj.mp (h3.trans (by decide))
      subst e
      rfl
    · have e : x = 4 := Int32.toInt_inj.mp (h3.trans (by decide))
      subst e
      rfl
    · have e : x = 5 := Int32.toInt_inj.mp (h3.trans (by decide))
      subst e
      rfl
    · have e : x = 6 := Int32.toInt_inj.mp (h3.trans (by decide))
      subst e
      rfl
    · have e : x = 7 := Int32.toInt_inj.mp (h3.trans (by decide))
      subst e
      rfl
    · have e : x = 8 := Int32.toInt_inj.mp (h3.trans (by decide))
      subst e
      rfl
    · have e : x = 9 := Int32.toInt_inj.mp (h3.trans (by decide))
      subst e
      rfl
    · have e : x = 10 := Int32.toInt_inj.mp (h3.trans (by decide))
      subst e
      rfl
    · have e : x = 11 := Int32.toInt_inj.mp (h3.trans (by decide))
      subst e
      rfl
    · have e : x = 12 := Int32.toInt_inj.mp (h3.trans (by decide))
      subst e
      rfl
    · have e : x = 13 := Int32.toInt_inj.mp (h3.trans (by decide))
      subst e
      rfl
    · have e : x = 14 := Int32.toInt_inj.mp (h3.trans (by decide))
      subst e
      rfl
    · have e : x = 15 := Int32.toInt_inj.mp (h3.trans (by decide))
      subst e
      rfl
theorem q108_104 : pj_row 108 104 = some (.aload_n 0, 1, 0, 0, 0) := by decide +kernel
theorem s108_104 {st : List Value} {M : pj_Mem} {l : pj_Loc} {x : Nat} : pj_step 108 (104, some (.ref x) :: l, st, M) = some (105, some (.ref x) :: l, .ref x :: st, M) := st_aload_n q108_104 rfl
theorem q108_105 : pj_row 108 105 = some (.getfield 7, 3, 6, 0, 0) := by decide +kernel
theorem s108_105 {L : pj_Loc} {st : List Value} {N S : Nat} {H : pj_Heap} {o : Nat} : pj_step 108 (105, L, .ref o :: st, (N, S, H)) = pj_pv 108 L st (N, S, H) (pj_fld (H o) 6 0) := st_getfield q108_105
theorem q108_108 : pj_row 108 108 = some (.bipush 6, 2, 0, 0, 0) := by decide +kernel
theorem s108_108 {L : pj_Loc} {st : List Value} {M : pj_Mem}  : pj_step 108 (108, L, st, M) = some (110, L, .int 6 :: st, M) := st_bipush q108_108 (by decide +kernel)
theorem q108_110 : pj_row 108 110 = some (.iaload, 1, 0, 0, 0) := by decide +kernel
theorem s108_110 {L : pj_Loc} {st : List Value} {N S : Nat} {H : pj_Heap} {o : Nat} {i : Int32} : pj_step 108 (110, L, .int i :: .ref o :: st, (N, S, H)) = pj_pi 111 L st (N, S, H) (pj_arl (H o) 0 i) := st_iaload q108_110
theorem q108_111 : pj_row 108 111 = some (.ireturn, 1, 0, 0, 0) := by decide +kernel
theorem t108_111 {L : pj_Loc} {M : pj_Mem} {v : Int32} : pj_Ends 108 (111, L, [.int v], M) (some (.int v), M) := pj_Ends.ret q108_111 (pj_rtn_i rt108)
theorem q108_112 : pj_row 108 112 = some (.aload_n 0, 1, 0, 0, 0) := by decide +kernel
theorem s108_112 {st : List Value} {M : pj_Mem} {l : pj_Loc} {x : Nat} : pj_step 108 (112, some (.ref x) :: l, st, M) = some (113, some (.ref x) :: l, .ref x :: st, M) := st_aload_n q108_112 rfl
theorem q108_113 : pj_row 108 113 = some (.getfield 7, 3, 6, 0, 0) := by decide +kernel
theorem s108_113 {L : pj_Loc} {st : List Value} {N S : Nat} {H : pj_Heap} {o : Nat} : pj_step 108 (113, L, .ref o :: st, (N, S, H)) = pj_pv 116 L st (N, S, H) (pj_fld (H o) 6 0) := st_getfield q108_113
theorem q108_116 : pj_row 108 116 = some (.bipush 7, 2, 0, 0, 0) := by decide +kernel
theorem s108_116 {L : pj_Loc} {st : List Value} {M : pj_Mem}  : pj_step 108 (116, L, st, M) = some (118, L, .int 7 :: st, M) := st_bipush q108_116 (by decide +kernel)
theorem q108_118 : pj_row 108 118 = some (.iaload, 1, 0, 0, 0) := by decide +kernel
theorem s108_118 {L : pj_Loc} {st : List Value} {N S : Nat} {H : pj_Heap} {o : Nat} {i : Int32} : pj_step 108 (118, L, .int i :: .ref o :: st, (N, S, H)) = pj_pi 119 L st (N, S, H) (pj_arl (H o) 0 i) := st_iaload q108_118
theorem q108_119 : pj_row 108 119 = some (.ireturn, 1, 0, 0, 0) := by decide +kernel
theorem t108_119 {L : pj_Loc} {M : pj_Mem} {v : Int32} : pj_Ends 108 (119, L, [.int v], M) (some (.int v), M) := pj_Ends.ret q108_119 (pj_rtn_i rt108)
theorem q108_120 : pj_row 108 120 = some (.aload_n 0, 1, 0, 0, 0) := by decide +kernel
theorem s108_120 {st : List Value} {M : pj_Mem} {l : pj_Loc} {x : Nat} : pj_step 108 (120, some (.ref x) :: l, st, M) = some (121, some (.ref x) :: l, .ref x :: st, M) := st_aload_n q108_120 rfl
theorem q108_121 : pj_row 108 121 = some (.invokevirtual 48, 3, 86, 1, 0) := by decide +kernel
theorem e108_121 {L : pj_Loc} {st : List Value} {N S : Nat} {H : pj_Heap} {o : Option Value × pj_Mem} {M' : pj_Mem} {x0 : Nat} {r : Int32} (h4 : pj_le4 st = true) (hu : pj_isU 6 (H x0) = true) (h1 : pj_Ends 86 (0, [some (.ref x0)], [], (N, S, H)) (some (.int r), M')) (h2 : pj_Ends 108 (124, L, .int r :: st, M') o) : pj_Ends 108 (121, L, .ref x0 :: st, (N, S, H)) o := ec_v1 q108_121 (Or.inl rfl) h4 hu rfl h1 h2
theorem q108_124 : pj_row 108 124 = some (.ireturn, 1, 0, 0, 0) := by decide +kernel
theorem t108_124 {L : pj_Loc} {M : pj_Mem} {v : Int32} : pj_Ends 108 (124, L, [.int v], M) (some (.int v), M) := pj_Ends.ret q108_124 (pj_rtn_i rt108)
theorem q108_125 : pj_row 108 125 = some (.aload_n 0, 1, 0, 0, 0) := by decide +kernel
theorem s108_125 {st : List Value} {M : pj_Mem} {l : pj_Loc} {x : Nat} : pj_step 108 (125, some (.ref x) :: l, st, M) = some (126, some (.ref x) :: l, .ref x :: st, M) := st_aload_n q108_125 rfl
theorem q108_126 : pj_row 108 126 = some (.invokevirtual 143, 3, 103, 1, 0) := by decide +kernel
theorem e108_126 {L : pj_Loc} {st : List Value} {N S : Nat} {H : pj_Heap} {o : Option Value × pj_Mem} {M' : pj_Mem} {x0 : Nat} {r : Int32} (h4 : pj_le4 st = true) (hu : pj_isU 6 (H x0) = true) (h1 : pj_Ends 103 (0, [some (.ref x0), none, none], [], (N, S, H)) (some (.int r), M')) (h2 : pj_Ends 108 (129, L, .int r :: st, M') o) : pj_Ends 108 (126, L, .ref x0 :: st, (N, S, H)) o := ec_v1 q108_126 (Or.inl rfl) h4 hu rfl h1 h2
theorem q108_129 : pj_row 108 129 = some (.ireturn, 1, 0, 0, 0) := by decide +kernel
theorem t108_129 {L : pj_Loc} {M : pj_Mem} {v : Int32} : pj_Ends 108 (129, L, [.int v], M) (some (.int v), M) := pj_Ends.ret q108_129 (pj_rtn_i rt108)
theorem q108_130 : pj_row 108 130 = some (.aload_n 0, 1, 0, 0, 0) := by decide +kernel
theorem s108_130 {st : List Value} {M : pj_Mem} {l : pj_Loc} {x : Nat} : pj_step 108 (130, some (.ref x) :: l, st, M) = some (131, some (.ref x) :: l, .ref x :: st, M) := st_aload_n q108_130 rfl
theorem q108_131 : pj_row 108 131 = some (.invokevirtual 140, 3, 101, 1, 0) := by decide +kernel
theorem e108_131 {L : pj_Loc} {st : List Value} {N S : Nat} {H : pj_Heap} {o : Option Value × pj_Mem} {M' : pj_Mem} {x0 : Nat} {r : Int32} (h4 : pj_le4 st = true) (hu : pj_isU 6 (H x0) = true) (h1 : pj_Ends 101 (0, [some (.ref x0)], [], (N, S, H)) (some (.int r), M')) (h2 : pj_Ends 108 (134, L, .int r :: st, M') o) : pj_Ends 108 (131, L, .ref x0 :: st, (N, S, H)) o := ec_v1 q108_131 (Or.inl rfl) h4 hu rfl h1 h2
theorem q108_134 : pj_row 108 134 = some (.ireturn, 1, 0, 0, 0) := by decide +kernel
theorem t108_134 {L : pj_Loc} {M : pj_Mem} {v : Int32} : pj_Ends 108 (134, L, [.int v], M) (some (.int v), M) := pj_Ends.ret q108_134 (pj_rtn_i rt108)
theorem q108_135 : pj_row 108 135 = some (.aload_n 0, 1, 0, 0, 0) := by decide +kernel
theorem s108_135 {st : List Value} {M : pj_Mem} {l : pj_Loc} {x : Nat} : pj_step 108 (135, some (.ref x) :: l, st, M) = some (136, some (.ref x) :: l, .ref x :: st, M) := st_aload_n q108_135 rfl
theorem q108_136 : pj_row 108 136 = some (.getfield 7, 3, 6, 0, 0) := by decide +kernel
theorem s108_136 {L : pj_Loc} {st : List Value} {N S : Nat} {H : pj_Heap} {o : Nat} : pj_step 108 (136, L, .ref o :: st, (N, S, H)) = pj_pv 139 L st (N, S, H) (pj_fld (H o) 6 0) := st_getfield q108_136
theorem q108_139 : pj_row 108 139 = some (.bipush 30, 2, 0, 0, 0) := by decide +kernel
theorem s108_139 {L : pj_Loc} {st : List Value} {M : pj_Mem}  : pj_step 108 (139, L, st, M) = some (141, L, .int 30 :: st, M) := st_bipush q108_139 (by decide +kernel)
theorem q108_141 : pj_row 108 141 = some (.iaload, 1, 0, 0, 0) := by decide +kernel
theorem s108_141 {L : pj_Loc} {st : List Value} {N S : Nat} {H : pj_Heap} {o : Nat} {i : Int32} : pj_step 108 (141, L, .int i :: .ref o :: st, (N, S, H)) = pj_pi 142 L st (N, S, H) (pj_arl (H o) 0 i) := st_iaload q108_141
theorem q108_142 : pj_row 108 142 = some (.ireturn, 1, 0, 0, 0) := by decide +kernel
theorem t108_142 {L : pj_Loc} {M : pj_Mem} {v : Int32} : pj_Ends 108 (142, L, [.int v], M) (some (.int v), M) := pj_Ends.ret q108_142 (pj_rtn_i rt108)
theorem q108_143 : pj_row 108 143 = some (.aload_n 0, 1, 0, 0, 0) := by decide +kernel
theorem s108_143 {st : List Value} {M : pj_Mem} {l : pj_Loc} {x : Nat} : pj_step 108 (143, some (.ref x) :: l, st, M) = some (144, some (.ref x) :: l, .ref x :: st, M) := st_aload_n q108_143 rfl
theorem q108_144 : pj_row 108 144 = some (.getfield 7, 3, 6, 0, 0) := by decide +kernel
theorem s108_144 {L : pj_Loc} {st : List Value} {N S : Nat} {H : pj_Heap} {o : Nat} : pj_step 108 (144, L, .ref o :: st, (N, S, H)) = pj_pv 147 L st (N, S, H) (pj_fld (H o) 6 0) := st_getfield q108_144
theorem q108_147 : pj_row 108 147 = some (.bipush 29, 2, 0, 0, 0) := by decide +kernel
theorem s108_147 {L : pj_Loc} {st : List Value} {M : pj_Mem}  : pj_step 108 (147, L, st, M) = some (149, L, .int 29 :: st, M) := st_bipush q108_147 (by decide +kernel)
theorem q108_149 : pj_row 108 149 = some (.iaload, 1, 0, 0, 0) := by decide +kernel
theorem s108_149 {L : pj_Loc} {st : List Value} {N S : Nat} {H : pj_Heap} {o : Nat} {i : Int32} : pj_step 108 (149, L, .int i :: .ref o :: st, (N, S, H)) = pj_pi 150 L st (N, S, H) (pj_arl (H o) 0 i) := st_iaload q108_149
theorem q108_150 : pj_row 108 150 = some (.ireturn, 1, 0, 0, 0) := by decide +kernel
theorem t108_150 {L : pj_Loc} {M : pj_Mem} {v : Int32} : pj_Ends 108 (150, L, [.int v], M) (some (.int v), M) := pj_Ends.ret q108_150 (pj_rtn_i rt108)
theorem q108_151 : pj_row 108 151 = some (.aload_n 0, 1, 0, 0, 0) := by decide +kernel
theorem s108_151 {st : List Value} {M : pj_Mem} {l : pj_Loc} {x : Nat} : pj_step 108 (151, some (.ref x) :: l, st, M) = some (152, some (.ref x) :: l, .ref x :: st, M) := st_aload_n q108_151 rfl
theorem q108_152 : pj_row 108 152 = some (.invokevirtual 104, 3, 97, 1, 0) := by decide +kernel
theorem e108_152 {L : pj_Loc} {st : List Value} {N S : Nat} {H : pj_Heap} {o : Option Value × pj_Mem} {M' : pj_Mem} {x0 : Nat} {r : Int32} (h4 : pj_le4 st = true) (hu : pj_isU 6 (H x0) = true) (h1 : pj_Ends 97 (0, [some (.ref x0)], [], (N, S, H)) (some (.int r), M')) (h2 : pj_Ends 108 (155, L, .int r :: st, M') o) : pj_Ends 108 (152, L, .ref x0 :: st, (N, S, H)) o := ec_v1 q108_152 (Or.inl rfl) h4 hu rfl h1 h2
theorem q108_155 : pj_row 108 155 = some (.ifCond .eq 7, 3, 162, 0, 0) := by decide +kernel
theorem s108_155 {L : pj_Loc} {st : List Value} {M : pj_Mem} {x : Int32} : pj_step 108 (155, L, .int x :: st, M) = some (if x = 0 then 162 else 158, L, st, M) := st_if_eq q108_155
theorem q108_158 : pj_row 108 158 = some (.iconst 1, 1, 0, 0, 0) := by decide +kernel
theorem s108_158 {L : pj_Loc} {st : List Value} {M : pj_Mem}  : pj_step 108 (158, L, st, M) = some (159, L, .int 1 :: st, M) := st_iconst q108_158 (by decide +kernel)
theorem q108_159 : pj_row 108 159 = some (.goto 4, 3, 163, 0, 0) := by decide +kernel
theorem s108_159 {L : pj_Loc} {st : List Value} {M : pj_Mem}  : pj_step 108 (159, L, st, M) = some (163, L, st, M) := st_goto q108_159
theorem q108_162 : pj_row 108 162 = some (.iconst 0, 1, 0, 0, 0) := by decide +kernel
theorem s108_162 {L : pj_Loc} {st : List Value} {M : pj_Mem}  : pj_step 108 (162, L, st, M) = some (163, L, .int 0 :: st, M) := st_iconst q108_162 (by decide +kernel)
theorem q108_163 : pj_row 108 163 = some (.ireturn, 1, 0, 0, 0) := by decide +kernel
theorem t108_163 {L : pj_Loc} {M : pj_Mem} {v : Int32} : pj_Ends 108 (163, L, [.int v], M) (some (.int v), M) := pj_Ends.ret q108_163 (pj_rtn_i rt108)
theorem q108_164 : pj_row 108 164 = some (.aload_n 0, 1, 0, 0, 0) := by decide +kernel
theorem s108_164 {st : List Value} {M : pj_Mem} {l : pj_Loc} {x : Nat} : pj_step 108 (164, some (.ref x) :: l, st, M) = some (165, some (.ref x) :: l, .ref x :: st, M) := st_aload_n q108_164 rfl
theorem q108_165 : pj_row 108 165 = some (.getfield 152, 3, 6, 13, 0) := by decide +kernel
theorem s108_165 {L : pj_Loc} {st : List Value} {N S : Nat} {H : pj_Heap} {o : Nat} : pj_step 108 (165, L, .ref o :: st, (N, S, H)) = pj_pv 168 L st (N, S, H) (pj_fld (H o) 6 13) := st_getfield q108_165
theorem q108_168 : pj_row 108 168 = some (.ireturn, 1, 0, 0, 0) := by decide +kernel
theorem t108_168 {L : pj_Loc} {M : pj_Mem} {v : Int32} : pj_Ends 108 (168, L, [.int v], M) (some (.int v), M) := pj_Ends.ret q108_168 (pj_rtn_i rt108)
theorem q108_169 : pj_row 108 169 = some (.aload_n 0, 1, 0, 0, 0) := by decide +kernel
theorem s108_169 {st : List Value} {M : pj_Mem} {l : pj_Loc} {x : Nat} : pj_step 108 (169, some (.ref x) :: l, st, M) = some (170, some (.ref x) :: l, .ref x :: st, M) := st_aload_n q108_169 rfl
theorem q108_170 : pj_row 108 170 = some (.getfield 34, 3, 6, 3, 0) := by decide +kernel
theorem s108_170 {L : pj_Loc} {st : List Value} {N S : Nat} {H : pj_Heap} {o : Nat} : pj_step 108 (170, L, .ref o :: st, (N, S, H)) = pj_pv 173 L st (N, S, H) (pj_fld (H o) 6 3) := st_getfield q108_170
theorem q108_173 : pj_row 108 173 = some (.ireturn, 1, 0, 0, 0) := by decide +kernel
theorem t108_173 {L : pj_Loc} {M : pj_Mem} {v : Int32} : pj_Ends 108 (173, L, [.int v], M) (some (.int v), M) := pj_Ends.ret q108_173 (pj_rtn_i rt108)
theorem q108_174 : pj_row 108 174 = some (.bipush (-2), 2, 0, 0, 0) := by decide +kernel
theorem s108_174 {L : pj_Loc} {st : List Value} {M : pj_Mem}  : pj_step 108 (174, L, st, M) = some (176, L, .int (-2) :: st, M) := st_bipush q108_174 (by decide +kernel)
theorem q108_176 : pj_row 108 176 = some (.ireturn, 1, 0, 0, 0) := by decide +kernel
theorem t108_176 {L : pj_Loc} {M : pj_Mem} {v : Int32} : pj_Ends 108 (176, L, [.int v], M) (some (.int v), M) := pj_Ends.ret q108_176 (pj_rtn_i rt108)
theorem rt109 : pj_rt 109 = some .int := rfl
theorem q109_0 : pj_row 109 0 = some (.iload_n 1, 1, 0, 0, 0) := by decide +kernel
theorem s109_0 {st : List Value} {M : pj_Mem} {l : pj_Loc} {a0 : Option Value} {x : Int32} : pj_step 109 (0, a0 :: some (.int x) :: l, st, M) = some (1, a0 :: some (.int x) :: l, .int x :: st, M) := st_iload_n q109_0 rfl
theorem q109_1 : pj_row 109 1 = some (.invokestatic 127, 3, 81, 1, 0) := by decide +kernel
theorem e109_1 {L : pj_Loc} {st : List Value} {N S : Nat} {H : pj_Heap} {o : Option Value × pj_Mem} {M' : pj_Mem} {x0 : Int32} {r : Int32} (h4 : pj_le4 st = true) (h1 : pj_Ends 81 (0, [some (.int x0)], [], (N, S, H)) (some (.int r), M')) (h2 : pj_Ends 109 (4, L, .int r :: st, M') o) : pj_Ends 109 (1, L, .int x0 :: st, (N, S, H)) o := ec_s1 q109_1 (Or.inl rfl) h4 rfl h1 h2
theorem q109_4 : pj_row 109 4 = some (.ifCond .eq 30, 3, 34, 0, 0) := by decide +kernel
theorem s109_4 {L : pj_Loc} {st : List Value} {M : pj_Mem} {x : Int32} : pj_step 109 (4, L, .int x :: st, M) = some (if x = 0 then 34 else 7, L, st, M) := st_if_eq q109_4
theorem q109_7 : pj_row 109 7 = some (.iload_n 2, 1, 0, 0, 0) := by decide +kernel
theorem s109_7 {st : List Value} {M : pj_Mem} {l : pj_Loc} {a0 a1 : Option Value} {x : Int32} : pj_step 109 (7, a0 :: a1 :: some (.int x) :: l, st, M) = some (8, a0 :: a1 :: some (.int x) :: l, .int x :: st, M) := st_iload_n q109_7 rfl
theorem q109_8 : pj_row 109 8 = some (.invokestatic 127, 3, 81, 1, 0) := by decide +kernel
theorem e109_8 {L : pj_Loc} {st : List Value} {N S : Nat} {H : pj_Heap} {o : Option Value × pj_Mem} {M' : pj_Mem} {x0 : Int32} {r : Int32} (h4 : pj_le4 st = true) (h1 : pj_Ends 81 (0, [some (.int x0)], [], (N, S, H)) (some (.int r), M')) (h2 : pj_Ends 109 (11, L, .int r :: st, M') o) : pj_Ends 109 (8, L, .int x0 :: st, (N, S, H)) o := ec_s1 q109_8 (Or.inl rfl) h4 rfl h1 h2
theorem q109_11 : pj_row 109 11 = some (.ifCond .eq 23, 3, 34, 0, 0) := by decide +kernel
theorem s109_11 {L : pj_Loc} {st : List Value} {M : pj_Mem} {x : Int32} : pj_step 109 (11, L, .int x :: st, M) = some (if x = 0 then 34 else 14, L, st, M) := st_if_eq q109_11
theorem q109_14 : pj_row 109 14 = some (.iload_n 3, 1, 0, 0, 0) := by decide +kernel
theorem s109_14 {st : List Value} {M : pj_Mem} {l : pj_Loc} {a0 a1 a2 : Option Value} {x : Int32} : pj_step 109 (14, a0 :: a1 :: a2 :: some (.int x) :: l, st, M) = some (15, a0 :: a1 :: a2 :: some (.int x) :: l, .int x :: st, M) := st_iload_n q109_14 rfl
theorem q109_15 : pj_row 109 15 = some (.invokestatic 127, 3, 81, 1, 0) := by decide +kernel
theorem e109_15 {L : pj_Loc} {st : List Value} {N S : Nat} {H : pj_Heap} {o : Option Value × pj_Mem} {M' : pj_Mem} {x0 : Int32} {r : Int32} (h4 : pj_le4 st = true) (h1 : pj_Ends 81 (0, [some (.int x0)], [], (N, S, H)) (some (.int r), M')) (h2 : pj_Ends 109 (18, L, .int r :: st, M') o) : pj_Ends 109 (15, L, .int x0 :: st, (N, S, H)) o := ec_s1 q109_15 (Or.inl rfl) h4 rfl h1 h2
theorem q109_18 : pj_row 109 18 = some (.ifCond .eq 16, 3, 34, 0, 0) := by decide +kernel
theorem s109_18 {L : pj_Loc} {st : List Value} {M : pj_Mem} {x : Int32} : pj_step 109 (18, L, .int x :: st, M) = some (if x = 0 then 34 else 21, L, st, M) := st_if_eq q109_18
theorem q109_21 : pj_row 109 21 = some (.iload 5, 2, 0, 0, 0) := by decide +kernel
theorem s109_21 {st : List Value} {M : pj_Mem} {l : pj_Loc} {a0 a1 a2 a3 a4 : Option Value} {x : Int32} : pj_step 109 (21, a0 :: a1 :: a2 :: a3 :: a4 :: some (.int x) :: l, st, M) = some (23, a0 :: a1 :: a2 :: a3 :: a4 :: some (.int x) :: l, .int x :: st, M) := st_iload q109_21 rfl
theorem q109_23 : pj_row 109 23 = some (.i2l, 1, 0, 0, 0) := by decide +kernel
theorem s109_23 {L : pj_Loc} {st : List Value} {M : pj_Mem} {x : Int32} : pj_step 109 (23, L, .int x :: st, M) = some (24, L, .long x.toInt64 :: st, M) := st_i2l q109_23
theorem q109_24 : pj_row 109 24 = some (.lconst 0, 1, 0, 0, 0) := by decide +kernel
theorem s109_24 {L : pj_Loc} {st : List Value} {M : pj_Mem}  : pj_step 109 (24, L, st, M) = some (25, L, .long 0 :: st, M) := st_lconst q109_24 (by decide +kernel)
theorem q109_25 : pj_row 109 25 = some (.ldc2_w 155, 3, 0, 0, 5) := by decide +kernel
theorem s109_25 {L : pj_Loc} {st : List Value} {M : pj_Mem}  : pj_step 109 (25, L, st, M) = some (28, L, .long 5 :: st, M) := st_ldc2_w q109_25 (by decide +kernel)
theorem q109_28 : pj_row 109 28 = some (.invokestatic 42, 3, 77, 3, 0) := by decide +kernel
theorem e109_28 {L : pj_Loc} {st : List Value} {N S : Nat} {H : pj_Heap} {o : Option Value × pj_Mem} {M' : pj_Mem} {x0 : Int64} {x1 : Int64} {x2 : Int64} {r : Int32} (h4 : pj_le4 st = true) (h1 : pj_Ends 77 (0, [some (.long x0), none, some (.long x1), none, some (.long x2), none], [], (N, S, H)) (some (.int r), M')) (h2 : pj_Ends 109 (31, L, .int r :: st, M') o) : pj_Ends 109 (28, L, .long x2 :: .long x1 :: .long x0 :: st, (N, S, H)) o := ec_s3 q109_28 (Or.inl rfl) h4 rfl h1 h2
theorem q109_31 : pj_row 109 31 = some (.ifCond .ne 6, 3, 37, 0, 0) := by decide +kernel
theorem s109_31 {L : pj_Loc} {st : List Value} {M : pj_Mem} {x : Int32} : pj_step 109 (31, L, .int x :: st, M) = some (if ¬ x = 0 then 37 else 34, L, st, M) := st_if_ne q109_31
theorem q109_34 : pj_row 109 34 = some (.bipush (-2), 2, 0, 0, 0) := by decide +kernel
theorem s109_34 {L : pj_Loc} {st : List Value} {M : pj_Mem}  : pj_step 109 (34, L, st, M) = some (36, L, .int (-2) :: st, M) := st_bipush q109_34 (by decide +kernel)
theorem q109_36 : pj_row 109 36 = some (.ireturn, 1, 0, 0, 0) := by decide +kernel
theorem t109_36 {L : pj_Loc} {M : pj_Mem} {v : Int32} : pj_Ends 109 (36, L, [.int v], M) (some (.int v), M) := pj_Ends.ret q109_36 (pj_rtn_i rt109)
theorem q109_37 : pj_row 109 37 = some (.aload_n 0, 1, 0, 0, 0) := by decide +kernel
theorem s109_37 {st : List Value} {M : pj_Mem} {l : pj_Loc} {x : Nat} : pj_step 109 (37, some (.ref x) :: l, st, M) = some (38, some (.ref x) :: l, .ref x :: st, M) := st_aload_n q109_37 rfl
theorem q109_38 : pj_row 109 38 = some (.invokevirtual 121, 3, 78, 1, 0) := by decide +kernel
theorem e109_38 {L : pj_Loc} {st : List Value} {N S : Nat} {H : pj_Heap} {o : Option Value × pj_Mem} {M' : pj_Mem} {x0 : Nat} (h4 : pj_le4 st = true) (hu : pj_isU 6 (H x0) = true) (h1 : pj_Ends 78 (0, [some (.ref x0), none], [], (N, S, H)) (none, M')) (h2 : pj_Ends 109 (41, L, st, M') o) : pj_Ends 109 (38, L, .ref x0 :: st, (N, S, H)) o := ec_v1 q109_38 (Or.inl rfl) h4 hu rfl h1 h2
theorem q109_41 : pj_row 109 41 = some (.aload_n 0, 1, 0, 0, 0) := by decide +kernel
theorem s109_41 {st : List Value} {M : pj_Mem} {l : pj_Loc} {x : Nat} : pj_step 109 (41, some (.ref x) :: l, st, M) = some (42, some (.ref x) :: l, .ref x :: st, M) := st_aload_n q109_41 rfl
theorem q109_42 : pj_row 109 42 = some (.iload_n 1, 1, 0, 0, 0) := by decide +kernel
theorem s109_42 {st : List Value} {M : pj_Mem} {l : pj_Loc} {a0 : Option Value} {x : Int32} : pj_step 109 (42, a0 :: some (.int x) :: l, st, M) = some (43, a0 :: some (.int x) :: l, .int x :: st, M) := st_iload_n q109_42 rfl
theorem q109_43 : pj_row 109 43 = some (.iload_n 2, 1, 0, 0, 0) := by decide +kernel
theorem s109_43 {st : List Value} {M : pj_Mem} {l : pj_Loc} {a0 a1 : Option Value} {x : Int32} : pj_step 109 (43, a0 :: a1 :: some (.int x) :: l, st, M) = some (44, a0 :: a1 :: some (.int x) :: l, .int x :: st, M) := st_iload_n q109_43 rfl
theorem q109_44 : pj_row 109 44 = some (.iload_n 3, 1, 0, 0, 0) := by decide +kernel
theorem s109_44 {st : List Value} {M : pj_Mem} {l : pj_Loc} {a0 a1 a2 : Option Value} {x : Int32} : pj_step 109 (44, a0 :: a1 :: a2 :: some (.int x) :: l, st, M) = some (45, a0 :: a1 :: a2 :: some (.int x) :: l, .int x :: st, M) := st_iload_n q109_44 rfl
theorem q109_45 : pj_row 109 45 = some (.invokevirtual 130, 3, 82, 4, 0) := by decide +kernel
theorem e109_45 {L : pj_Loc} {st : List Value} {N S : Nat} {H : pj_Heap} {o : Option Value × pj_Mem} {M' : pj_Mem} {x0 : Nat} {x1 : Int32} {x2 : Int32} {x3 : Int32} (h4 : pj_le4 st = true) (hu : pj_isU 6 (H x0) = true) (h1 : pj_Ends 82 (0, [some (.ref x0), some (.int x1), some (.int x2), some (.int x3)], [], (N, S, H)) (none, M')) (h2 : pj_Ends 109 (48, L, st, M') o) : pj_Ends 109 (45, L, .int x3 :: .int x2 :: .int x1 :: .ref x0 :: st, (N, S, H)) o := ec_v4 q109_45 (Or.inl rfl) h4 hu rfl h1 h2
theorem q109_48 : pj_row 109 48 = some (.aload_n 0, 1, 0, 0, 0) := by decide +kernel
theorem s109_48 {st : List Value} {M : pj_Mem} {l : pj_Loc} {x : Nat} : pj_step 109 (48, some (.ref x) :: l, st, M) = some (49, some (.ref x) :: l, .ref x :: st, M) := st_aload_n q109_48 rfl
theorem q109_49 : pj_row 109 49 = some (.iload 4, 2, 0, 0, 0) := by decide +kernel
theorem s109_49 {st : List Value} {M : pj_Mem} {l : pj_Loc} {a0 a1 a2 a3 : Option Value} {x : Int32} : pj_step 109 (49, a0 :: a1 :: a2 :: a3 :: some (.int x) :: l, st, M) = some (51, a0 :: a1 :: a2 :: a3 :: some (.int x) :: l, .int x :: st, M) := st_iload q109_49 rfl
theorem q109_51 : pj_row 109 51 = some (.invokevirtual 134, 3, 83, 2, 0) := by decide +kernel
theorem e109_51 {L : pj_Loc} {st : List Value} {N S : Nat} {H : pj_Heap} {o : Option Value × pj_Mem} {M' : pj_Mem} {x0 : Nat} {x1 : Int32} (h4 : pj_le4 st = true) (hu : pj_isU 6 (H x0) = true) (h1 : pj_Ends 83 (0, [some (.ref x0), some (.int x1)], [], (N, S, H)) (none, M')) (h2 : pj_Ends 109 (54, L, st, M') o) : pj_Ends 109 (51, L, .int x1 :: .ref x0 :: st, (N, S, H)) o := ec_v2 q109_51 (Or.inl rfl) h4 hu rfl h1 h2
theorem q109_54 : pj_row 109 54 = some (.aload_n 0, 1, 0, 0, 0) := by decide +kernel
theorem s109_54 {st : List Value} {M : pj_Mem} {l : pj_Loc} {x : Nat} : pj_step 109 (54, some (.ref x) :: l, st, M) = some (55, some (.ref x) :: l, .ref x :: st, M) := st_aload_n q109_54 rfl
theorem q109_55 : pj_row 109 55 = some (.invokevirtual 48, 3, 86, 1, 0) := by decide +kernel
theorem e109_55 {L : pj_Loc} {st : List Value} {N S : Nat} {H : pj_Heap} {o : Option Value × pj_Mem} {M' : pj_Mem} {x0 : Nat} {r : Int32} (h4 : pj_le4 st = true) (hu : pj_isU 6 (H x0) = true) (h1 : pj_Ends 86 (0, [some (.ref x0)], [], (N, S, H)) (some (.int r), M')) (h2 : pj_Ends 109 (58, L, .int r :: st, M') o) : pj_Ends 109 (55, L, .ref x0 :: st, (N, S, H)) o := ec_v1 q109_55 (Or.inl rfl) h4 hu rfl h1 h2
theorem q109_58 : pj_row 109 58 = some (.istore 6, 2, 0, 0, 0) := by decide +kernel
theorem s109_58 {st : List Value} {M : pj_Mem} {l : pj_Loc} {a0 a1 a2 a3 a4 a5 a6 : Option Value} {x : Int32} (h : pj_long a5 = false) : pj_step 109 (58, a0 :: a1 :: a2 :: a3 :: a4 :: a5 :: a6 :: l, .int x :: st, M) = some (60, a0 :: a1 :: a2 :: a3 :: a4 :: a5 :: some (.int x) :: l, st, M) := st_istore q109_58 (pj_st_6 h)
theorem q109_60 : pj_row 109 60 = some (.aload_n 0, 1, 0, 0, 0) := by decide +kernel
theorem s109_60 {st : List Value} {M : pj_Mem} {l : pj_Loc} {x : Nat} : pj_step 109 (60, some (.ref x) :: l, st, M) = some (61, some (.ref x) :: l, .ref x :: st, M) := st_aload_n q109_60 rfl
theorem q109_61 : pj_row 109 61 = some (.getfield 7, 3, 6, 0, 0) := by decide +kernel
theorem s109_61 {L : pj_Loc} {st : List Value} {N S : Nat} {H : pj_Heap} {o : Nat} : pj_step 109 (61, L, .ref o :: st, (N, S, H)) = pj_pv 64 L st (N, S, H) (pj_fld (H o) 6 0) := st_getfield q109_61
theorem q109_64 : pj_row 109 64 = some (.bipush 7, 2, 0, 0, 0) := by decide +kernel
theorem s109_64 {L : pj_Loc} {st : List Value} {M : pj_Mem}  : pj_step 109 (64, L, st, M) = some (66, L, .int 7 :: st, M) := st_bipush q109_64 (by decide +kernel)
theorem q109_66 : pj_row 109 66 = some (.iaload, 1, 0, 0, 0) := by decide +kernel
theorem s109_66 {L : pj_Loc} {st : List Value} {N S : Nat} {H : pj_Heap} {o : Nat} {i : Int32} : pj_step 109 (66, L, .int i :: .ref o :: st, (N, S, H)) = pj_pi 67 L st (N, S, H) (pj_arl (H o) 0 i) := st_iaload q109_66
theorem q109_67 : pj_row 109 67 = some (.ifCond .le 7, 3, 74, 0, 0) := by decide +kernel
theorem s109_67 {L : pj_Loc} {st : List Value} {M : pj_Mem} {x : Int32} : pj_step 109 (67, L, .int x :: st, M) = some (if x ≤ 0 then 74 else 70, L, st, M) := st_if_le q109_67
theorem q109_70 : pj_row 109 70 = some (.iconst 1, 1, 0, 0, 0) := by decide +kernel
theorem s109_70 {L : pj_Loc} {st : List Value} {M : pj_Mem}  : pj_step 109 (70, L, st, M) = some (71, L, .int 1 :: st, M) := st_iconst q109_70 (by decide +kernel)
theorem q109_71 : pj_row 109 71 = some (.goto 4, 3, 75, 0, 0) := by decide +kernel
theorem s109_71 {L : pj_Loc} {st : List Value} {M : pj_Mem}  : pj_step 109 (71, L, st, M) = some (75, L, st, M) := st_goto q109_71
theorem q109_74 : pj_row 109 74 = some (.iconst 0, 1, 0, 0, 0) := by decide +kernel
theorem s109_74 {L : pj_Loc} {st : List Value} {M : pj_Mem}  : pj_step 109 (74, L, st, M) = some (75, L, .int 0 :: st, M) := st_iconst q109_74 (by decide +kernel)
theorem q109_75 : pj_row 109 75 = some (.istore 7, 2, 0, 0, 0) := by decide +kernel
theorem s109_75 {st : List Value} {M : pj_Mem} {l : pj_Loc} {a0 a1 a2 a3 a4 a5 a6 a7 : Option Value} {x : Int32} (h : pj_long a6 = false) : pj_step 109 (75, a0 :: a1 :: a2 :: a3 :: a4 :: a5 :: a6 :: a7 :: l, .int x :: st, M) = some (77, a0 :: a1 :: a2 :: a3 :: a4 :: a5 :: a6 :: some (.int x) :: l, st, M) := st_istore q109_75 (pj_st_7 h)
theorem q109_77 : pj_row 109 77 = some (.aload_n 0, 1, 0, 0, 0) := by decide +kernel
theorem s109_77 {st : List Value} {M : pj_Mem} {l : pj_Loc} {x : Nat} : pj_step 109 (77, some (.ref x) :: l, st, M) = some (78, some (.ref x) :: l, .ref x :: st, M) := st_aload_n q109_77 rfl
theorem q109_78 : pj_row 109 78 = some (.invokevirtual 157, 3, 110, 1, 0) := by decide +kernel
theorem e109_78 {L : pj_Loc} {st : List Value} {N S : Nat} {H : pj_Heap} {o : Option Value × pj_Mem} {M' : pj_Mem} {x0 : Nat} (h4 : pj_le4 st = true) (hu : pj_isU 6 (H x0) = true) (h1 : pj_Ends 110 (0, [some (.ref x0), none], [], (N, S, H)) (none, M')) (h2 : pj_Ends 109 (81, L, st, M') o) : pj_Ends 109 (78, L, .ref x0 :: st, (N, S, H)) o := ec_v1 q109_78 (Or.inl rfl) h4 hu rfl h1 h2
theorem q109_81 : pj_row 109 81 = some (.iload 5, 2, 0, 0, 0) := by decide +kernel
theorem s109_81 {st : List Value} {M : pj_Mem} {l : pj_Loc} {a0 a1 a2 a3 a4 : Option Value} {x : Int32} : pj_step 109 (81, a0 :: a1 :: a2 :: a3 :: a4 :: some (.int x) :: l, st, M) = some (83, a0 :: a1 :: a2 :: a3 :: a4 :: some (.int x) :: l, .int x :: st, M) := st_iload q109_81 rfl
theorem q109_83 : pj_row 109 83 = some (.ifCond .ne 10, 3, 93, 0, 0) := by decide +kernel
theorem s109_83 {L : pj_Loc} {st : List Value} {M : pj_Mem} {x : Int32} : pj_step 109 (83, L, .int x :: st, M) = some (if ¬ x = 0 then 93 else 86, L, st, M) := st_if_ne q109_83
theorem q109_86 : pj_row 109 86 = some (.aload_n 0, 1, 0, 0, 0) := by decide +kernel
theorem s109_86 {st : List Value} {M : pj_Mem} {l : pj_Loc} {x : Nat} : pj_step 109 (86, some (.ref x) :: l, st, M) = some (87, some (.ref x) :: l, .ref x :: st, M) := st_aload_n q109_86 rfl
theorem q109_87 : pj_row 109 87 = some (.getfield 75, 3, 6, 11, 0) := by decide +kernel
theorem s109_87 {L : pj_Loc} {st : List Value} {N S : Nat} {H : pj_Heap} {o : Nat} : pj_step 109 (87, L, .ref o :: st, (N, S, H)) = pj_pv 90 L st (N, S, H) (pj_fld (H o) 6 11) := st_getfield q109_87
theorem q109_90 : pj_row 109 90 = some (.goto 58, 3, 148, 0, 0) := by decide +kernel
theorem s109_90 {L : pj_Loc} {st : List Value} {M : pj_Mem}  : pj_step 109 (90, L, st, M) = some (148, L, st, M) := st_goto q109_90
theorem q109_93 : pj_row 109 93 = some (.iload 5, 2, 0, 0, 0) := by decide +kernel
theorem s109_93 {st : List Value} {M : pj_Mem} {l : pj_Loc} {a0 a1 a2 a3 a4 : Option Value} {x : Int32} : pj_step 109 (93, a0 :: a1 :: a2 :: a3 :: a4 :: some (.int x) :: l, st, M) = some (95, a0 :: a1 :: a2 :: a3 :: a4 :: some (.int x) :: l, .int x :: st, M) := st_iload q109_93 rfl
theorem q109_95 : pj_row 109 95 = some (.iconst 1, 1, 0, 0, 0) := by decide +kernel
theorem s109_95 {L : pj_Loc} {st : List Value} {M : pj_Mem}  : pj_step 109 (95, L, st, M) = some (96, L, .int 1 :: st, M) := st_iconst q109_95 (by decide +kernel)
theorem q109_96 : pj_row 109 96 = some (.if_icmp .ne 13, 3, 109, 0, 0) := by decide +kernel
theorem s109_96 {L : pj_Loc} {st : List Value} {M : pj_Mem} {x y : Int32} : pj_step 109 (96, L, .int y :: .int x :: st, M) = some (if ¬ x = y then 109 else 99, L, st, M) := st_icmp_ne q109_96
theorem q109_99 : pj_row 109 99 = some (.aload_n 0, 1, 0, 0, 0) := by decide +kernel
theorem s109_99 {st : List Value} {M : pj_Mem} {l : pj_Loc} {x : Nat} : pj_step 109 (99, some (.ref x) :: l, st, M) = some (100, some (.ref x) :: l, .ref x :: st, M) := st_aload_n q109_99 rfl
theorem q109_100 : pj_row 109 100 = some (.getfield 56, 3, 6, 8, 0) := by decide +kernel
theorem s109_100 {L : pj_Loc} {st : List Value} {N S : Nat} {H : pj_Heap} {o : Nat} : pj_step 109 (100, L, .ref o :: st, (N, S, H)) = pj_pv 103 L st (N, S, H) (pj_fld (H o) 6 8) := st_getfield q109_100
theorem q109_103 : pj_row 109 103 = some (.ldc 81, 2, 0, 0, 100000) := by decide +kernel
theorem s109_103 {L : pj_Loc} {st : List Value} {M : pj_Mem}  : pj_step 109 (103, L, st, M) = some (105, L, .int 100000 :: st, M) := st_ldc q109_103 (by decide +kernel)
theorem q109_105 : pj_row 109 105 = some (.iadd, 1, 0, 0, 0) := by decide +kernel
theorem s109_105 {L : pj_Loc} {st : List Value} {M : pj_Mem} {x y : Int32} : pj_step 109 (105, L, .int y :: .int x :: st, M) = some (106, L, .int (x + y) :: st, M) := st_iadd q109_105
theorem q109_106 : pj_row 109 106 = some (.goto 42, 3, 148, 0, 0) := by decide +kernel
theorem s109_106 {L : pj_Loc} {st : List Value} {M : pj_Mem}  : pj_step 109 (106, L, st, M) = some (148, L, st, M) := st_goto q109_106
theorem q109_109 : pj_row 109 109 = some (.iload 5, 2, 0, 0, 0) := by decide +kernel
theorem s109_109 {st : List Value} {M : pj_Mem} {l : pj_Loc} {a0 a1 a2 a3 a4 : Option Value} {x : Int32} : pj_step 109 (109, a0 :: a1 :: a2 :: a3 :: a4 :: some (.int x) :: l, st, M) = some (111, a0 :: a1 :: a2 :: a3 :: a4 :: some (.int x) :: l, .int x :: st, M) := st_iload q109_109 rfl
theorem q109_111 : pj_row 109 111 = some (.iconst 2, 1, 0, 0, 0) := by decide +kernel
theorem s109_111 {L : pj_Loc} {st : List Value} {M : pj_Mem}  : pj_step 109 (111, L, st, M) = some (112, L, .int 2 :: st, M) := st_iconst q109_111 (by decide +kernel)
theorem q109_112 : pj_row 109 112 = some (.if_icmp .ne 8, 3, 120, 0, 0) := by decide +kernel
theorem s109_112 {L : pj_Loc} {st : List Value} {M : pj_Mem} {x y : Int32} : pj_step 109 (112, L, .int y :: .int x :: st, M) = some (if ¬ x = y then 120 else 115, L, st, M) := st_icmp_ne q109_112
theorem q109_115 : pj_row 109 115 = some (.iload 6, 2, 0, 0, 0) := by decide +kernel
theorem s109_115 {st : List Value} {M : pj_Mem} {l : pj_Loc} {a0 a1 a2 a3 a4 a5 : Option Value} {x : Int32} : pj_step 109 (115, a0 :: a1 :: a2 :: a3 :: a4 :: a5 :: some (.int x) :: l, st, M) = some (117, a0 :: a1 :: a2 :: a3 :: a4 :: a5 :: some (.int x) :: l, .int x :: st, M) := st_iload q109_115 rfl
theorem q109_117 : pj_row 109 117 = some (.goto 31, 3, 148, 0, 0) := by decide +kernel
theorem s109_117 {L : pj_Loc} {st : List Value} {M : pj_Mem}  : pj_step 109 (117, L, st, M) = some (148, L, st, M) := st_goto q109_117
theorem q109_120 : pj_row 109 120 = some (.iload 5, 2, 0, 0, 0) := by decide +kernel
theorem s109_120 {st : List Value} {M : pj_Mem} {l : pj_Loc} {a0 a1 a2 a3 a4 : Option Value} {x : Int32} : pj_step 109 (120, a0 :: a1 :: a2 :: a3 :: a4 :: some (.int x) :: l, st, M) = some (122, a0 :: a1 :: a2 :: a3 :: a4 :: some (.int x) :: l, .int x :: st, M) := st_iload q109_120 rfl
theorem q109_122 : pj_row 109 122 = some (.iconst 3, 1, 0, 0, 0) := by decide +kernel
theorem s109_122 {L : pj_Loc} {st : List Value} {M : pj_Mem}  : pj_step 109 (122, L, st, M) = some (123, L, .int 3 :: st, M) := st_iconst q109_122 (by decide +kernel)
theorem q109_123 : pj_row 109 123 = some (.if_icmp .ne 10, 3, 133, 0, 0) := by decide +kernel
theorem s109_123 {L : pj_Loc} {st : List Value} {M : pj_Mem} {x y : Int32} : pj_step 109 (123, L, .int y :: .int x :: st, M) = some (if ¬ x = y then 133 else 126, L, st, M) := st_icmp_ne q109_123
theorem q109_126 : pj_row 109 126 = some (.aload_n 0, 1, 0, 0, 0) := by decide +kernel
theorem s109_126 {st : List Value} {M : pj_Mem} {l : pj_Loc} {x : Nat} : pj_step 109 (126, some (.ref x) :: l, st, M) = some (127, some (.ref x) :: l, .ref x :: st, M) := st_aload_n q109_126 rfl
theorem q109_127 : pj_row 109 127 = some (.getfield 72, 3, 6, 9, 0) := by decide +kernel
theorem s109_127 {L : pj_Loc} {st : List Value} {N S : Nat} {H : pj_Heap} {o : Nat} : pj_step 109 (127, L, .ref o :: st, (N, S, H)) = pj_pv 130 L st (N, S, H) (pj_fld (H o) 6 9) := st_getfield q109_127
theorem q109_130 : pj_row 109 130 = some (.goto 18, 3, 148, 0, 0) := by decide +kernel
theorem s109_130 {L : pj_Loc} {st : List Value} {M : pj_Mem}  : pj_step 109 (130, L, st, M) = some (148, L, st, M) := st_goto q109_130
theorem q109_133 : pj_row 109 133 = some (.iload 5, 2, 0, 0, 0) := by decide +kernel
theorem s109_133 {st : List Value} {M : pj_Mem} {l : pj_Loc} {a0 a1 a2 a3 a4 : Option Value} {x : Int32} : pj_step 109 (133, a0 :: a1 :: a2 :: a3 :: a4 :: some (.int x) :: l, st, M) = some (135, a0 :: a1 :: a2 :: a3 :: a4 :: some (.int x) :: l, .int x :: st, M) := st_iload q109_133 rfl
theorem q109_135 : pj_row 109 135 = some (.iconst 4, 1, 0, 0, 0) := by decide +kernel
theorem s109_135 {L : pj_Loc} {st : List Value} {M : pj_Mem}  : pj_step 109 (135, L, st, M) = some (136, L, .int 4 :: st, M) := st_iconst q109_135 (by decide +kernel)
theorem q109_136 : pj_row 109 136 = some (.if_icmp .ne 10, 3, 146, 0, 0) := by decide +kernel
theorem s109_136 {L : pj_Loc} {st : List Value} {M : pj_Mem} {x y : Int32} : pj_step 109 (136, L, .int y :: .int x :: st, M) = some (if ¬ x = y then 146 else 139, L, st, M) := st_icmp_ne q109_136
theorem q109_139 : pj_row 109 139 = some (.aload_n 0, 1, 0, 0, 0) := by decide +kernel
theorem s109_139 {st : List Value} {M : pj_Mem} {l : pj_Loc} {x : Nat} : pj_step 109 (139, some (.ref x) :: l, st, M) = some (140, some (.ref x) :: l, .ref x :: st, M) := st_aload_n q109_139 rfl
theorem q109_140 : pj_row 109 140 = some (.getfield 65, 3, 6, 10, 0) := by decide +kernel
theorem s109_140 {L : pj_Loc} {st : List Value} {N S : Nat} {H : pj_Heap} {o : Nat} : pj_step 109 (140, L, .ref o :: st, (N, S, H)) = pj_pv 143 L st (N, S, H) (pj_fld (H o) 6 10) := st_getfield q109_140
theorem q109_143 : pj_row 109 143 = some (.goto 5, 3, 148, 0, 0) := by decide +kernel
theorem s109_143 {L : pj_Loc} {st : List Value} {M : pj_Mem}  : pj_step 109 (143, L, st, M) = some (148, L, st, M) := st_goto q109_143
theorem q109_146 : pj_row 109 146 = some (.iload 7, 2, 0, 0, 0) := by decide +kernel
theorem s109_146 {st : List Value} {M : pj_Mem} {l : pj_Loc} {a0 a1 a2 a3 a4 a5 a6 : Option Value} {x : Int32} : pj_step 109 (146, a0 :: a1 :: a2 :: a3 :: a4 :: a5 :: a6 :: some (.int x) :: l, st, M) = some (148, a0 :: a1 :: a2 :: a3 :: a4 :: a5 :: a6 :: some (.int x) :: l, .int x :: st, M) := st_iload q109_146 rfl
theorem q109_148 : pj_row 109 148 = some (.ireturn, 1, 0, 0, 0) := by decide +kernel
theorem t109_148 {L : pj_Loc} {M : pj_Mem} {v : Int32} : pj_Ends 109 (148, L, [.int v], M) (some (.int v), M) := pj_Ends.ret q109_148 (pj_rtn_i rt109)
theorem rt110 : pj_rt 110 = none := rfl
theorem q110_0 : pj_row 110 0 = some (.iconst 0, 1, 0, 0, 0) := by decide +kernel
theorem s110_0 {L : pj_Loc} {st : List Value} {M : pj_Mem}  : pj_step 110 (0, L, st, M) = some (1, L, .int 0 :: st, M) := st_iconst q110_0 (by decide +kernel)
theorem q110_1 : pj_row 110 1 = some (.istore_n 1, 1, 0, 0, 0) := by decide +kernel
theorem s110_1 {st : List Value} {M : pj_Mem} {l : pj_Loc} {a0 a1 : Option Value} {x : Int32} (h : pj_long a0 = false) : pj_step 110 (1, a0 :: a1 :: l, .int x :: st, M) = some (2, a0 :: some (.int x) :: l, st, M) := st_istore_n q110_1 (pj_st_1 h)
theorem q110_2 : pj_row 110 2 = some (.iload_n 1, 1, 0, 0, 0) := by decide +kernel
theorem s110_2 {st : List Value} {M : pj_Mem} {l : pj_Loc} {a0 : Option Value} {x : Int32} : pj_step 110 (2, a0 :: some (.int x) :: l, st, M) = some (3, a0 :: some (.int x) :: l, .int x :: st, M) := st_iload_n q110_2 rfl
theorem q110_3 : pj_row 110 3 = some (.sipush 152, 3, 0, 0, 0) := by decide +kernel
theorem s110_3 {L : pj_Loc} {st : List Value} {M : pj_Mem}  : pj_step 110 (3, L, st, M) = some (6, L, .int 152 :: st, M) := st_sipush q110_3 (by decide +kernel)
theorem q110_6 : pj_row 110 6 = some (.if_icmp .ge 21, 3, 27, 0, 0) := by decide +kernel
theorem s110_6 {L : pj_Loc} {st : List Value} {M : pj_Mem} {x y : Int32} : pj_step 110 (6, L, .int y :: .int x :: st, M) = some (if y ≤ x then 27 else 9, L, st, M) := st_icmp_ge q110_6
theorem q110_9 : pj_row 110 9 = some (.aload_n 0, 1, 0, 0, 0) := by decide +kernel
theorem s110_9 {st : List Value} {M : pj_Mem} {l : pj_Loc} {x : Nat} : pj_step 110 (9, some (.ref x) :: l, st, M) = some (10, some (.ref x) :: l, .ref x :: st, M) := st_aload_n q110_9 rfl
theorem q110_10 : pj_row 110 10 = some (.getfield 7, 3, 6, 0, 0) := by decide +kernel
theorem s110_10 {L : pj_Loc} {st : List Value} {N S : Nat} {H : pj_Heap} {o : Nat} : pj_step 110 (10, L, .ref o :: st, (N, S, H)) = pj_pv 13 L st (N, S, H) (pj_fld (H o) 6 0) := st_getfield q110_10
theorem q110_13 : pj_row 110 13 = some (.iload_n 1, 1, 0, 0, 0) := by decide +kernel
theorem s110_13 {st : List Value} {M : pj_Mem} {l : pj_Loc} {a0 : Option Value} {x : Int32} : pj_step 110 (13, a0 :: some (.int x) :: l, st, M) = some (14, a0 :: some (.int x) :: l, .int x :: st, M) := st_iload_n q110_13 rfl
theorem q110_14 : pj_row 110 14 = some (.aload_n 0, 1, 0, 0, 0) := by decide +kernel
theorem s110_14 {st : List Value} {M : pj_Mem} {l : pj_Loc} {x : Nat} : pj_step 110 (14, some (.ref x) :: l, st, M) = some (15, some (.ref x) :: l, .ref x :: st, M) := st_aload_n q110_14 rfl
theorem q110_15 : pj_row 110 15 = some (.getfield 13, 3, 6, 1, 0) := by decide +kernel
theorem s110_15 {L : pj_Loc} {st : List Value} {N S : Nat} {H : pj_Heap} {o : Nat} : pj_step 110 (15, L, .ref o :: st, (N, S, H)) = pj_pv 18 L st (N, S, H) (pj_fld (H o) 6 1) := st_getfield q110_15
theorem q110_18 : pj_row 110 18 = some (.iload_n 1, 1, 0, 0, 0) := by decide +kernel
theorem s110_18 {st : List Value} {M : pj_Mem} {l : pj_Loc} {a0 : Option Value} {x : Int32} : pj_step 110 (18, a0 :: some (.int x) :: l, st, M) = some (19, a0 :: some (.int x) :: l, .int x :: st, M) := st_iload_n q110_18 rfl
theorem q110_19 : pj_row 110 19 = some (.iaload, 1, 0, 0, 0) := by decide +kernel
theorem s110_19 {L : pj_Loc} {st : List Value} {N S : Nat} {H : pj_Heap} {o : Nat} {i : Int32} : pj_step 110 (19, L, .int i :: .ref o :: st, (N, S, H)) = pj_pi 20 L st (N, S, H) (pj_arl (H o) 0 i) := st_iaload q110_19
theorem q110_20 : pj_row 110 20 = some (.iastore, 1, 0, 0, 0) := by decide +kernel
theorem s110_20 {L : pj_Loc} {st : List Value} {N S : Nat} {H : pj_Heap} {o : Nat} {i x : Int32} : pj_step 110 (20, L, .int x :: .int i :: .ref o :: st, (N, S, H)) = pj_set 21 L st (N, S, H) o (pj_ars (H o) 0 i x) := st_iastore q110_20
theorem q110_21 : pj_row 110 21 = some (.iinc 1 1, 3, 0, 0, 0) := by decide +kernel
theorem s110_21 {st : List Value} {M : pj_Mem} {l : pj_Loc} {a0 : Option Value} {x : Int32} (h : pj_long a0 = false) : pj_step 110 (21, a0 :: some (.int x) :: l, st, M) = some (24, a0 :: some (.int (x + 1)) :: l, st, M) := st_iinc q110_21 rfl (congrArg (fun y => x + y) (show Int32.ofInt 1 = 1 by decide +kernel)) (pj_st_1 h)
theorem q110_24 : pj_row 110 24 = some (.goto (-22), 3, 2, 0, 0) := by decide +kernel
theorem s110_24 {L : pj_Loc} {st : List Value} {M : pj_Mem}  : pj_step 110 (24, L, st, M) = some (2, L, st, M) := st_goto q110_24
theorem q110_27 : pj_row 110 27 = some (.return_, 1, 0, 0, 0) := by decide +kernel
theorem t110_27 {L : pj_Loc} {M : pj_Mem} : pj_Ends 110 (27, L, [], M) (none, M) := pj_Ends.ret q110_27 (pj_rtn_v rt110)
theorem rt111 : pj_rt 111 = some .int := rfl
theorem q111_0 : pj_row 111 0 = some (.iload_n 1, 1, 0, 0, 0) := by decide +kernel
theorem s111_0 {st : List Value} {M : pj_Mem} {l : pj_Loc} {a0 : Option Value} {x : Int32} : pj_step 111 (0, a0 :: some (.int x) :: l, st, M) = some (1, a0 :: some (.int x) :: l, .int x :: st, M) := st_iload_n q111_0 rfl
theorem q111_1 : pj_row 111 1 = some (.invokestatic 137, 3, 100, 1, 0) := by decide +kernel
theorem e111_1 {L : pj_Loc} {st : List Value} {N S : Nat} {H : pj_Heap} {o : Option Value × pj_Mem} {M' : pj_Mem} {x0 : Int32} {r : Int32} (h4 : pj_le4 st = true) (h1 : pj_Ends 100 (0, [some (.int x0)], [], (N, S, H)) (some (.int r), M')) (h2 : pj_Ends 111 (4, L, .int r :: st, M') o) : pj_Ends 111 (1, L, .int x0 :: st, (N, S, H)) o := ec_s1 q111_1 (Or.inl rfl) h4 rfl h1 h2
theorem q111_4 : pj_row 111 4 = some (.ifCond .ne 5, 3, 9, 0, 0) := by decide +kernel
theorem s111_4 {L : pj_Loc} {st : List Value} {M : pj_Mem} {x : Int32} : pj_step 111 (4, L, .int x :: st, M) = some (if ¬ x = 0 then 9 else 7, L, st, M) := st_if_ne q111_4
theorem q111_7 : pj_row 111 7 = some (.iconst (-1), 1, 0, 0, 0) := by decide +kernel
theorem s111_7 {L : pj_Loc} {st : List Value} {M : pj_Mem}  : pj_step 111 (7, L, st, M) = some (8, L, .int (-1) :: st, M) := st_iconst q111_7 (by decide +kernel)
theorem q111_8 : pj_row 111 8 = some (.ireturn, 1, 0, 0, 0) := by decide +kernel
theorem t111_8 {L : pj_Loc} {M : pj_Mem} {v : Int32} : pj_Ends 111 (8, L, [.int v], M) (some (.int v), M) := pj_Ends.ret q111_8 (pj_rtn_i rt111)
theorem q111_9 : pj_row 111 9 = some (.sipush (-500), 3, 0, 0, 0) := by decide +kernel
theorem s111_9 {L : pj_Loc} {st : List Value} {M : pj_Mem}  : pj_step 111 (9, L, st, M) = some (12, L, .int (-500) :: st, M) := st_sipush q111_9 (by decide +kernel)
theorem q111_12 : pj_row 111 12 = some (.istore_n 3, 1, 0, 0, 0) := by decide +kernel
theorem s111_12 {st : List Value} {M : pj_Mem} {l : pj_Loc} {a0 a1 a2 a3 : Option Value} {x : Int32} (h : pj_long a2 = false) : pj_step 111 (12, a0 :: a1 :: a2 :: a3 :: l, .int x :: st, M) = some (13, a0 :: a1 :: a2 :: some (.int x) :: l, st, M) := st_istore_n q111_12 (pj_st_3 h)
theorem q111_13 : pj_row 111 13 = some (.iload_n 3, 1, 0, 0, 0) := by decide +kernel
theorem s111_13 {st : List Value} {M : pj_Mem} {l : pj_Loc} {a0 a1 a2 : Option Value} {x : Int32} : pj_step 111 (13, a0 :: a1 :: a2 :: some (.int x) :: l, st, M) = some (14, a0 :: a1 :: a2 :: some (.int x) :: l, .int x :: st, M) := st_iload_n q111_13 rfl
theorem q111_14 : pj_row 111 14 = some (.sipush 500, 3, 0, 0, 0) := by decide +kernel
theorem s111_14 {L : pj_Loc} {st : List Value} {M : pj_Mem}  : pj_step 111 (14, L, st, M) = some (17, L, .int 500 :: st, M) := st_sipush q111_14 (by decide +kernel)
theorem q111_17 : pj_row 111 17 = some (.if_icmp .gt 31, 3, 48, 0, 0) := by decide +kernel
theorem s111_17 {L : pj_Loc} {st : List Value} {M : pj_Mem} {x y : Int32} : pj_step 111 (17, L, .int y :: .int x :: st, M) = some (if y < x then 48 else 20, L, st, M) := st_icmp_gt q111_17
theorem q111_20 : pj_row 111 20 = some (.aload_n 0, 1, 0, 0, 0) := by decide +kernel
theorem s111_20 {st : List Value} {M : pj_Mem} {l : pj_Loc} {x : Nat} : pj_step 111 (20, some (.ref x) :: l, st, M) = some (21, some (.ref x) :: l, .ref x :: st, M) := st_aload_n q111_20 rfl
theorem q111_21 : pj_row 111 21 = some (.iload_n 3, 1, 0, 0, 0) := by decide +kernel
theorem s111_21 {st : List Value} {M : pj_Mem} {l : pj_Loc} {a0 a1 a2 : Option Value} {x : Int32} : pj_step 111 (21, a0 :: a1 :: a2 :: some (.int x) :: l, st, M) = some (22, a0 :: a1 :: a2 :: some (.int x) :: l, .int x :: st, M) := st_iload_n q111_21 rfl
theorem q111_22 : pj_row 111 22 = some (.iload_n 3, 1, 0, 0, 0) := by decide +kernel
theorem s111_22 {st : List Value} {M : pj_Mem} {l : pj_Loc} {a0 a1 a2 : Option Value} {x : Int32} : pj_step 111 (22, a0 :: a1 :: a2 :: some (.int x) :: l, st, M) = some (23, a0 :: a1 :: a2 :: some (.int x) :: l, .int x :: st, M) := st_iload_n q111_22 rfl
theorem q111_23 : pj_row 111 23 = some (.iload_n 3, 1, 0, 0, 0) := by decide +kernel
theorem s111_23 {st : List Value} {M : pj_Mem} {l : pj_Loc} {a0 a1 a2 : Option Value} {x : Int32} : pj_step 111 (23, a0 :: a1 :: a2 :: some (.int x) :: l, st, M) = some (24, a0 :: a1 :: a2 :: some (.int x) :: l, .int x :: st, M) := st_iload_n q111_23 rfl
theorem q111_24 : pj_row 111 24 = some (.iload_n 2, 1, 0, 0, 0) := by decide +kernel
theorem s111_24 {st : List Value} {M : pj_Mem} {l : pj_Loc} {a0 a1 : Option Value} {x : Int32} : pj_step 111 (24, a0 :: a1 :: some (.int x) :: l, st, M) = some (25, a0 :: a1 :: some (.int x) :: l, .int x :: st, M) := st_iload_n q111_24 rfl
theorem q111_25 : pj_row 111 25 = some (.iconst 0, 1, 0, 0, 0) := by decide +kernel
theorem s111_25 {L : pj_Loc} {st : List Value} {M : pj_Mem}  : pj_step 111 (25, L, st, M) = some (26, L, .int 0 :: st, M) := st_iconst q111_25 (by decide +kernel)
theorem q111_26 : pj_row 111 26 = some (.invokevirtual 160, 3, 109, 6, 0) := by decide +kernel
theorem e111_26 {L : pj_Loc} {st : List Value} {N S : Nat} {H : pj_Heap} {o : Option Value × pj_Mem} {M' : pj_Mem} {x0 : Nat} {x1 : Int32} {x2 : Int32} {x3 : Int32} {x4 : Int32} {x5 : Int32} {r : Int32} (h4 : pj_le4 st = true) (hu : pj_isU 6 (H x0) = true) (h1 : pj_Ends 109 (0, [some (.ref x0), some (.int x1), some (.int x2), some (.int x3), some (.int x4), some (.int x5), none, none], [], (N, S, H)) (some (.int r), M')) (h2 : pj_Ends 111 (29, L, .int r :: st, M') o) : pj_Ends 111 (26, L, .int x5 :: .int x4 :: .int x3 :: .int x2 :: .int x1 :: .ref x0 :: st, (N, S, H)) o := ec_v6 q111_26 (Or.inl rfl) h4 hu rfl h1 h2
theorem q111_29 : pj_row 111 29 = some (.iload_n 1, 1, 0, 0, 0) := by decide +kernel
theorem s111_29 {st : List Value} {M : pj_Mem} {l : pj_Loc} {a0 : Option Value} {x : Int32} : pj_step 111 (29, a0 :: some (.int x) :: l, st, M) = some (30, a0 :: some (.int x) :: l, .int x :: st, M) := st_iload_n q111_29 rfl
theorem q111_30 : pj_row 111 30 = some (.ishr, 1, 0, 0, 0) := by decide +kernel
theorem s111_30 {L : pj_Loc} {st : List Value} {M : pj_Mem} {x y : Int32} : pj_step 111 (30, L, .int y :: .int x :: st, M) = some (31, L, .int (x >>> (y &&& 31)) :: st, M) := st_ishr q111_30
theorem q111_31 : pj_row 111 31 = some (.iconst 1, 1, 0, 0, 0) := by decide +kernel
theorem s111_31 {L : pj_Loc} {st : List Value} {M : pj_Mem}  : pj_step 111 (31, L, st, M) = some (32, L, .int 1 :: st, M) := st_iconst q111_31 (by decide +kernel)
theorem q111_32 : pj_row 111 32 = some (.iand, 1, 0, 0, 0) := by decide +kernel
theorem s111_32 {L : pj_Loc} {st : List Value} {M : pj_Mem} {x y : Int32} : pj_step 111 (32, L, .int y :: .int x :: st, M) = some (33, L, .int (x &&& y) :: st, M) := st_iand q111_32
theorem q111_33 : pj_row 111 33 = some (.iconst 1, 1, 0, 0, 0) := by decide +kernel
theorem s111_33 {L : pj_Loc} {st : List Value} {M : pj_Mem}  : pj_step 111 (33, L, st, M) = some (34, L, .int 1 :: st, M) := st_iconst q111_33 (by decide +kernel)
theorem q111_34 : pj_row 111 34 = some (.if_icmp .ne 8, 3, 42, 0, 0) := by decide +kernel
theorem s111_34 {L : pj_Loc} {st : List Value} {M : pj_Mem} {x y : Int32} : pj_step 111 (34, L, .int y :: .int x :: st, M) = some (if ¬ x = y then 42 else 37, L, st, M) := st_icmp_ne q111_34
theorem q111_37 : pj_row 111 37 = some (.iload_n 3, 1, 0, 0, 0) := by decide +kernel
theorem s111_37 {st : List Value} {M : pj_Mem} {l : pj_Loc} {a0 a1 a2 : Option Value} {x : Int32} : pj_step 111 (37, a0 :: a1 :: a2 :: some (.int x) :: l, st, M) = some (38, a0 :: a1 :: a2 :: some (.int x) :: l, .int x :: st, M) := st_iload_n q111_37 rfl
theorem q111_38 : pj_row 111 38 = some (.ldc 81, 2, 0, 0, 100000) := by decide +kernel
theorem s111_38 {L : pj_Loc} {st : List Value} {M : pj_Mem}  : pj_step 111 (38, L, st, M) = some (40, L, .int 100000 :: st, M) := st_ldc q111_38 (by decide +kernel)
theorem q111_40 : pj_row 111 40 = some (.iadd, 1, 0, 0, 0) := by decide +kernel
theorem s111_40 {L : pj_Loc} {st : List Value} {M : pj_Mem} {x y : Int32} : pj_step 111 (40, L, .int y :: .int x :: st, M) = some (41, L, .int (x + y) :: st, M) := st_iadd q111_40
theorem q111_41 : pj_row 111 41 = some (.ireturn, 1, 0, 0, 0) := by decide +kernel
theorem t111_41 {L : pj_Loc} {M : pj_Mem} {v : Int32} : pj_Ends 111 (41, L, [.int v], M) (some (.int v), M) := pj_Ends.ret q111_41 (pj_rtn_i rt111)
theorem q111_42 : pj_row 111 42 = some (.iinc 3 1, 3, 0, 0, 0) := by decide +kernel
theorem s111_42 {st : List Value} {M : pj_Mem} {l : pj_Loc} {a0 a1 a2 : Option Value} {x : Int32} (h : pj_long a2 = false) : pj_step 111 (42, a0 :: a1 :: a2 :: some (.int x) :: l, st, M) = some (45, a0 :: a1 :: a2 :: some (.int (x + 1)) :: l, st, M) := st_iinc q111_42 rfl (congrArg (fun y => x + y) (show Int32.ofInt 1 = 1 by decide +kernel)) (pj_st_3 h)
theorem q111_45 : pj_row 111 45 = some (.goto (-32), 3, 13, 0, 0) := by decide +kernel
theorem s111_45 {L : pj_Loc} {st : List Value} {M : pj_Mem}  : pj_step 111 (45, L, st, M) = some (13, L, st, M) := st_goto q111_45
theorem q111_48 : pj_row 111 48 = some (.bipush (-6), 2, 0, 0, 0) := by decide +kernel
theorem s111_48 {L : pj_Loc} {st : List Value} {M : pj_Mem}  : pj_step 111 (48, L, st, M) = some (50, L, .int (-6) :: st, M) := st_bipush q111_48 (by decide +kernel)
theorem q111_50 : pj_row 111 50 = some (.ireturn, 1, 0, 0, 0) := by decide +kernel
theorem t111_50 {L : pj_Loc} {M : pj_Mem} {v : Int32} : pj_Ends 111 (50, L, [.int v], M) (some (.int v), M) := pj_Ends.ret q111_50 (pj_rtn_i rt111)
theorem rt112 : pj_rt 112 = some .int := rfl
theorem q112_0 : pj_row 112 0 = some (.iload_n 1, 1, 0, 0, 0) := by decide +kernel
theorem s112_0 {st : List Value} {M : pj_Mem} {l : pj_Loc} {a0 : Option Value} {x : Int32} : pj_step 112 (0, a0 :: some (.int x) :: l, st, M) = some (1, a0 :: some (.int x) :: l, .int x :: st, M) := st_iload_n q112_0 rfl
theorem q112_1 : pj_row 112 1 = some (.invokestatic 137, 3, 100, 1, 0) := by decide +kernel
theorem e112_1 {L : pj_Loc} {st : List Value} {N S : Nat} {H : pj_Heap} {o : Option Value × pj_Mem} {M' : pj_Mem} {x0 : Int32} {r : Int32} (h4 : pj_le4 st = true) (h1 : pj_Ends 100 (0, [some (.int x0)], [], (N, S, H)) (some (.int r), M')) (h2 : pj_Ends 112 (4, L, .int r :: st, M') o) : pj_Ends 112 (1, L, .int x0 :: st, (N, S, H)) o := ec_s1 q112_1 (Or.inl rfl) h4 rfl h1 h2
theorem q112_4 : pj_row 112 4 = some (.ifCond .ne 5, 3, 9, 0, 0) := by decide +kernel
theorem s112_4 {L : pj_Loc} {st : List Value} {M : pj_Mem} {x : Int32} : pj_step 112 (4, L, .int x :: st, M) = some (if ¬ x = 0 then 9 else 7, L, st, M) := st_if_ne q112_4
theorem q112_7 : pj_row 112 7 = some (.iconst (-1), 1, 0, 0, 0) := by decide +kernel
theorem s112_7 {L : pj_Loc} {st : List Value} {M : pj_Mem}  : pj_step 112 (7, L, st, M) = some (8, L, .int (-1) :: st, M) := st_iconst q112_7 (by decide +kernel)
theorem q112_8 : pj_row 112 8 = some (.ireturn, 1, 0, 0, 0) := by decide +kernel
theorem t112_8 {L : pj_Loc} {M : pj_Mem} {v : Int32} : pj_Ends 112 (8, L, [.int v], M) (some (.int v), M) := pj_Ends.ret q112_8 (pj_rtn_i rt112)
theorem q112_9 : pj_row 112 9 = some (.iload_n 2, 1, 0, 0, 0) := by decide +kernel
theorem s112_9 {st : List Value} {M : pj_Mem} {l : pj_Loc} {a0 a1 : Option Value} {x : Int32} : pj_step 112 (9, a0 :: a1 :: some (.int x) :: l, st, M) = some (10, a0 :: a1 :: some (.int x) :: l, .int x :: st, M) := st_iload_n q112_9 rfl
theorem q112_10 : pj_row 112 10 = some (.invokestatic 127, 3, 81, 1, 0) := by decide +kernel
theorem e112_10 {L : pj_Loc} {st : List Value} {N S : Nat} {H : pj_Heap} {o : Option Value × pj_Mem} {M' : pj_Mem} {x0 : Int32} {r : Int32} (h4 : pj_le4 st = true) (h1 : pj_Ends 81 (0, [some (.int x0)], [], (N, S, H)) (some (.int r), M')) (h2 : pj_Ends 112 (13, L, .int r :: st, M') o) : pj_Ends 112 (10, L, .int x0 :: st, (N, S, H)) o := ec_s1 q112_10 (Or.inl rfl) h4 rfl h1 h2
theorem q112_13 : pj_row 112 13 = some (.ifCond .ne 6, 3, 19, 0, 0) := by decide +kernel
theorem s112_13 {L : pj_Loc} {st : List Value} {M : pj_Mem} {x : Int32} : pj_step 112 (13, L, .int x :: st, M) = some (if ¬ x = 0 then 19 else 16, L, st, M) := st_if_ne q112_13
theorem q112_16 : pj_row 112 16 = some (.bipush (-2), 2, 0, 0, 0) := by decide +kernel
theorem s112_16 {L : pj_Loc} {st : List Value} {M : pj_Mem}  : pj_step 112 (16, L, st, M) = some (18, L, .int (-2) :: st, M) := st_bipush q112_16 (by decide +kernel)
theorem q112_18 : pj_row 112 18 = some (.ireturn, 1, 0, 0, 0) := by decide +kernel
theorem t112_18 {L : pj_Loc} {M : pj_Mem} {v : Int32} : pj_Ends 112 (18, L, [.int v], M) (some (.int v), M) := pj_Ends.ret q112_18 (pj_rtn_i rt112)
theorem q112_19 : pj_row 112 19 = some (.aload_n 0, 1, 0, 0, 0) := by decide +kernel
theorem s112_19 {st : List Value} {M : pj_Mem} {l : pj_Loc} {x : Nat} : pj_step 112 (19, some (.ref x) :: l, st, M) = some (20, some (.ref x) :: l, .ref x :: st, M) := st_aload_n q112_19 rfl
theorem q112_20 : pj_row 112 20 = some (.invokevirtual 121, 3, 78, 1, 0) := by decide +kernel
theorem e112_20 {L : pj_Loc} {st : List Value} {N S : Nat} {H : pj_Heap} {o : Option Value × pj_Mem} {M' : pj_Mem} {x0 : Nat} (h4 : pj_le4 st = true) (hu : pj_isU 6 (H x0) = true) (h1 : pj_Ends 78 (0, [some (.ref x0), none], [], (N, S, H)) (none, M')) (h2 : pj_Ends 112 (23, L, st, M') o) : pj_Ends 112 (20, L, .ref x0 :: st, (N, S, H)) o := ec_v1 q112_20 (Or.inl rfl) h4 hu rfl h1 h2
theorem q112_23 : pj_row 112 23 = some (.iconst 0, 1, 0, 0, 0) := by decide +kernel
theorem s112_23 {L : pj_Loc} {st : List Value} {M : pj_Mem}  : pj_step 112 (23, L, st, M) = some (24, L, .int 0 :: st, M) := st_iconst q112_23 (by decide +kernel)
theorem q112_24 : pj_row 112 24 = some (.istore_n 3, 1, 0, 0, 0) := by decide +kernel
theorem s112_24 {st : List Value} {M : pj_Mem} {l : pj_Loc} {a0 a1 a2 a3 : Option Value} {x : Int32} (h : pj_long a2 = false) : pj_step 112 (24, a0 :: a1 :: a2 :: a3 :: l, .int x :: st, M) = some (25, a0 :: a1 :: a2 :: some (.int x) :: l, st, M) := st_istore_n q112_24 (pj_st_3 h)
theorem q112_25 : pj_row 112 25 = some (.iload_n 3, 1, 0, 0, 0) := by decide +kernel
theorem s112_25 {st : List Value} {M : pj_Mem} {l : pj_Loc} {a0 a1 a2 : Option Value} {x : Int32} : pj_step 112 (25, a0 :: a1 :: a2 :: some (.int x) :: l, st, M) = some (26, a0 :: a1 :: a2 :: some (.int x) :: l, .int x :: st, M) := st_iload_n q112_25 rfl
theorem q112_26 : pj_row 112 26 = some (.bipush 50, 2, 0, 0, 0) := by decide +kernel
theorem s112_26 {L : pj_Loc} {st : List Value} {M : pj_Mem}  : pj_step 112 (26, L, st, M) = some (28, L, .int 50 :: st, M) := st_bipush q112_26 (by decide +kernel)
theorem q112_28 : pj_row 112 28 = some (.if_icmp .ge 35, 3, 63, 0, 0) := by decide +kernel
theorem s112_28 {L : pj_Loc} {st : List Value} {M : pj_Mem} {x y : Int32} : pj_step 112 (28, L, .int y :: .int x :: st, M) = some (if y ≤ x then 63 else 31, L, st, M) := st_icmp_ge q112_28
theorem q112_31 : pj_row 112 31 = some (.aload_n 0, 1, 0, 0, 0) := by decide +kernel
theorem s112_31 {st : List Value} {M : pj_Mem} {l : pj_Loc} {x : Nat} : pj_step 112 (31, some (.ref x) :: l, st, M) = some (32, some (.ref x) :: l, .ref x :: st, M) := st_aload_n q112_31 rfl
theorem q112_32 : pj_row 112 32 = some (.getfield 7, 3, 6, 0, 0) := by decide +kernel
theorem s112_32 {L : pj_Loc} {st : List Value} {N S : Nat} {H : pj_Heap} {o : Nat} : pj_step 112 (32, L, .ref o :: st, (N, S, H)) = pj_pv 35 L st (N, S, H) (pj_fld (H o) 6 0) := st_getfield q112_32
theorem q112_35 : pj_row 112 35 = some (.bipush 23, 2, 0, 0, 0) := by decide +kernel
theorem s112_35 {L : pj_Loc} {st : List Value} {M : pj_Mem}  : pj_step 112 (35, L, st, M) = some (37, L, .int 23 :: st, M) := st_bipush q112_35 (by decide +kernel)
theorem q112_37 : pj_row 112 37 = some (.iload_n 1, 1, 0, 0, 0) := by decide +kernel
theorem s112_37 {st : List Value} {M : pj_Mem} {l : pj_Loc} {a0 : Option Value} {x : Int32} : pj_step 112 (37, a0 :: some (.int x) :: l, st, M) = some (38, a0 :: some (.int x) :: l, .int x :: st, M) := st_iload_n q112_37 rfl
theorem q112_38 : pj_row 112 38 = some (.iadd, 1, 0, 0, 0) := by decide +kernel
theorem s112_38 {L : pj_Loc} {st : List Value} {M : pj_Mem} {x y : Int32} : pj_step 112 (38, L, .int y :: .int x :: st, M) = some (39, L, .int (x + y) :: st, M) := st_iadd q112_38
theorem q112_39 : pj_row 112 39 = some (.iaload, 1, 0, 0, 0) := by decide +kernel
theorem s112_39 {L : pj_Loc} {st : List Value} {N S : Nat} {H : pj_Heap} {o : Nat} {i : Int32} : pj_step 112 (39, L, .int i :: .ref o :: st, (N, S, H)) = pj_pi 40 L st (N, S, H) (pj_arl (H o) 0 i) := st_iaload q112_39
theorem q112_40 : pj_row 112 40 = some (.bipush (-6), 2, 0, 0, 0) := by decide +kernel
theorem s112_40 {L : pj_Loc} {st : List Value} {M : pj_Mem}  : pj_step 112 (40, L, st, M) = some (42, L, .int (-6) :: st, M) := st_bipush q112_40 (by decide +kernel)
theorem q112_42 : pj_row 112 42 = some (.if_icmp .ne 21, 3, 63, 0, 0) := by decide +kernel
theorem s112_42 {L : pj_Loc} {st : List Value} {M : pj_Mem} {x y : Int32} : pj_step 112 (42, L, .int y :: .int x :: st, M) = some (if ¬ x = y then 63 else 45, L, st, M) := st_icmp_ne q112_42
theorem q112_45 : pj_row 112 45 = some (.aload_n 0, 1, 0, 0, 0) := by decide +kernel
theorem s112_45 {st : List Value} {M : pj_Mem} {l : pj_Loc} {x : Nat} : pj_step 112 (45, some (.ref x) :: l, st, M) = some (46, some (.ref x) :: l, .ref x :: st, M) := st_aload_n q112_45 rfl
theorem q112_46 : pj_row 112 46 = some (.iload_n 2, 1, 0, 0, 0) := by decide +kernel
theorem s112_46 {st : List Value} {M : pj_Mem} {l : pj_Loc} {a0 a1 : Option Value} {x : Int32} : pj_step 112 (46, a0 :: a1 :: some (.int x) :: l, st, M) = some (47, a0 :: a1 :: some (.int x) :: l, .int x :: st, M) := st_iload_n q112_46 rfl
theorem q112_47 : pj_row 112 47 = some (.iload_n 2, 1, 0, 0, 0) := by decide +kernel
theorem s112_47 {st : List Value} {M : pj_Mem} {l : pj_Loc} {a0 a1 : Option Value} {x : Int32} : pj_step 112 (47, a0 :: a1 :: some (.int x) :: l, st, M) = some (48, a0 :: a1 :: some (.int x) :: l, .int x :: st, M) := st_iload_n q112_47 rfl
theorem q112_48 : pj_row 112 48 = some (.iload_n 2, 1, 0, 0, 0) := by decide +kernel
theorem s112_48 {st : List Value} {M : pj_Mem} {l : pj_Loc} {a0 a1 : Option Value} {x : Int32} : pj_step 112 (48, a0 :: a1 :: some (.int x) :: l, st, M) = some (49, a0 :: a1 :: some (.int x) :: l, .int x :: st, M) := st_iload_n q112_48 rfl
theorem q112_49 : pj_row 112 49 = some (.invokevirtual 130, 3, 82, 4, 0) := by decide +kernel
theorem e112_49 {L : pj_Loc} {st : List Value} {N S : Nat} {H : pj_Heap} {o : Option Value × pj_Mem} {M' : pj_Mem} {x0 : Nat} {x1 : Int32} {x2 : Int32} {x3 : Int32} (h4 : pj_le4 st = true) (hu : pj_isU 6 (H x0) = true) (h1 : pj_Ends 82 (0, [some (.ref x0), some (.int x1), some (.int x2), some (.int x3)], [], (N, S, H)) (none, M')) (h2 : pj_Ends 112 (52, L, st, M') o) : pj_Ends 112 (49, L, .int x3 :: .int x2 :: .int x1 :: .ref x0 :: st, (N, S, H)) o := ec_v4 q112_49 (Or.inl rfl) h4 hu rfl h1 h2
theorem q112_52 : pj_row 112 52 = some (.aload_n 0, 1, 0, 0, 0) := by decide +kernel
theorem s112_52 {st : List Value} {M : pj_Mem} {l : pj_Loc} {x : Nat} : pj_step 112 (52, some (.ref x) :: l, st, M) = some (53, some (.ref x) :: l, .ref x :: st, M) := st_aload_n q112_52 rfl
theorem q112_53 : pj_row 112 53 = some (.iconst 1, 1, 0, 0, 0) := by decide +kernel
theorem s112_53 {L : pj_Loc} {st : List Value} {M : pj_Mem}  : pj_step 112 (53, L, st, M) = some (54, L, .int 1 :: st, M) := st_iconst q112_53 (by decide +kernel)
theorem q112_54 : pj_row 112 54 = some (.invokevirtual 134, 3, 83, 2, 0) := by decide +kernel
theorem e112_54 {L : pj_Loc} {st : List Value} {N S : Nat} {H : pj_Heap} {o : Option Value × pj_Mem} {M' : pj_Mem} {x0 : Nat} {x1 : Int32} (h4 : pj_le4 st = true) (hu : pj_isU 6 (H x0) = true) (h1 : pj_Ends 83 (0, [some (.ref x0), some (.int x1)], [], (N, S, H)) (none, M')) (h2 : pj_Ends 112 (57, L, st, M') o) : pj_Ends 112 (54, L, .int x1 :: .ref x0 :: st, (N, S, H)) o := ec_v2 q112_54 (Or.inl rfl) h4 hu rfl h1 h2
theorem q112_57 : pj_row 112 57 = some (.iinc 3 1, 3, 0, 0, 0) := by decide +kernel
theorem s112_57 {st : List Value} {M : pj_Mem} {l : pj_Loc} {a0 a1 a2 : Option Value} {x : Int32} (h : pj_long a2 = false) : pj_step 112 (57, a0 :: a1 :: a2 :: some (.int x) :: l, st, M) = some (60, a0 :: a1 :: a2 :: some (.int (x + 1)) :: l, st, M) := st_iinc q112_57 rfl (congrArg (fun y => x + y) (show Int32.ofInt 1 = 1 by decide +kernel)) (pj_st_3 h)
theorem q112_60 : pj_row 112 60 = some (.goto (-35), 3, 25, 0, 0) := by decide +kernel
theorem s112_60 {L : pj_Loc} {st : List Value} {M : pj_Mem}  : pj_step 112 (60, L, st, M) = some (25, L, st, M) := st_goto q112_60
theorem q112_63 : pj_row 112 63 = some (.aload_n 0, 1, 0, 0, 0) := by decide +kernel
theorem s112_63 {st : List Value} {M : pj_Mem} {l : pj_Loc} {x : Nat} : pj_step 112 (63, some (.ref x) :: l, st, M) = some (64, some (.ref x) :: l, .ref x :: st, M) := st_aload_n q112_63 rfl
theorem q112_64 : pj_row 112 64 = some (.getfield 7, 3, 6, 0, 0) := by decide +kernel
theorem s112_64 {L : pj_Loc} {st : List Value} {N S : Nat} {H : pj_Heap} {o : Nat} : pj_step 112 (64, L, .ref o :: st, (N, S, H)) = pj_pv 67 L st (N, S, H) (pj_fld (H o) 6 0) := st_getfield q112_64
theorem q112_67 : pj_row 112 67 = some (.bipush 23, 2, 0, 0, 0) := by decide +kernel
theorem s112_67 {L : pj_Loc} {st : List Value} {M : pj_Mem}  : pj_step 112 (67, L, st, M) = some (69, L, .int 23 :: st, M) := st_bipush q112_67 (by decide +kernel)
theorem q112_69 : pj_row 112 69 = some (.iload_n 1, 1, 0, 0, 0) := by decide +kernel
theorem s112_69 {st : List Value} {M : pj_Mem} {l : pj_Loc} {a0 : Option Value} {x : Int32} : pj_step 112 (69, a0 :: some (.int x) :: l, st, M) = some (70, a0 :: some (.int x) :: l, .int x :: st, M) := st_iload_n q112_69 rfl
theorem q112_70 : pj_row 112 70 = some (.iadd, 1, 0, 0, 0) := by decide +kernel
theorem s112_70 {L : pj_Loc} {st : List Value} {M : pj_Mem} {x y : Int32} : pj_step 112 (70, L, .int y :: .int x :: st, M) = some (71, L, .int (x + y) :: st, M) := st_iadd q112_70
theorem q112_71 : pj_row 112 71 = some (.iaload, 1, 0, 0, 0) := by decide +kernel
theorem s112_71 {L : pj_Loc} {st : List Value} {N S : Nat} {H : pj_Heap} {o : Nat} {i : Int32} : pj_step 112 (71, L, .int i :: .ref o :: st, (N, S, H)) = pj_pi 72 L st (N, S, H) (pj_arl (H o) 0 i) := st_iaload q112_71
theorem q112_72 : pj_row 112 72 = some (.bipush (-6), 2, 0, 0, 0) := by decide +kernel
theorem s112_72 {L : pj_Loc} {st : List Value} {M : pj_Mem}  : pj_step 112 (72, L, st, M) = some (74, L, .int (-6) :: st, M) := st_bipush q112_72 (by decide +kernel)
theorem q112_74 : pj_row 112 74 = some (.if_icmp .eq 7, 3, 81, 0, 0) := by decide +kernel
theorem s112_74 {L : pj_Loc} {st : List Value} {M : pj_Mem} {x y : Int32} : pj_step 112 (74, L, .int y :: .int x :: st, M) = some (if x = y then 81 else 77, L, st, M) := st_icmp_eq q112_74
theorem q112_77 : pj_row 112 77 = some (.iconst 1, 1, 0, 0, 0) := by decide +kernel
theorem s112_77 {L : pj_Loc} {st : List Value} {M : pj_Mem}  : pj_step 112 (77, L, st, M) = some (78, L, .int 1 :: st, M) := st_iconst q112_77 (by decide +kernel)
theorem q112_78 : pj_row 112 78 = some (.goto 4, 3, 82, 0, 0) := by decide +kernel
theorem s112_78 {L : pj_Loc} {st : List Value} {M : pj_Mem}  : pj_step 112 (78, L, st, M) = some (82, L, st, M) := st_goto q112_78
theorem q112_81 : pj_row 112 81 = some (.iconst 0, 1, 0, 0, 0) := by decide +kernel
theorem s112_81 {L : pj_Loc} {st : List Value} {M : pj_Mem}  : pj_step 112 (81, L, st, M) = some (82, L, .int 0 :: st, M) := st_iconst q112_81 (by decide +kernel)
theorem q112_82 : pj_row 112 82 = some (.istore 4, 2, 0, 0, 0) := by decide +kernel
theorem s112_82 {st : List Value} {M : pj_Mem} {l : pj_Loc} {a0 a1 a2 a3 a4 : Option Value} {x : Int32} (h : pj_long a3 = false) : pj_step 112 (82, a0 :: a1 :: a2 :: a3 :: a4 :: l, .int x :: st, M) = some (84, a0 :: a1 :: a2 :: a3 :: some (.int x) :: l, st, M) := st_istore q112_82 (pj_st_4 h)
theorem q112_84 : pj_row 112 84 = some (.aload_n 0, 1, 0, 0, 0) := by decide +kernel
theorem s112_84 {st : List Value} {M : pj_Mem} {l : pj_Loc} {x : Nat} : pj_step 112 (84, some (.ref x) :: l, st, M) = some (85, some (.ref x) :: l, .ref x :: st, M) := st_aload_n q112_84 rfl
theorem q112_85 : pj_row 112 85 = some (.invokevirtual 157, 3, 110, 1, 0) := by decide +kernel
theorem e112_85 {L : pj_Loc} {st : List Value} {N S : Nat} {H : pj_Heap} {o : Option Value × pj_Mem} {M' : pj_Mem} {x0 : Nat} (h4 : pj_le4 st = true) (hu : pj_isU 6 (H x0) = true) (h1 : pj_Ends 110 (0, [some (.ref x0), none], [], (N, S, H)) (none, M')) (h2 : pj_Ends 112 (88, L, st, M') o) : pj_Ends 112 (85, L, .ref x0 :: st, (N, S, H)) o := ec_v1 q112_85 (Or.inl rfl) h4 hu rfl h1 h2
theorem q112_88 : pj_row 112 88 = some (.iload 4, 2, 0, 0, 0) := by decide +kernel
theorem s112_88 {st : List Value} {M : pj_Mem} {l : pj_Loc} {a0 a1 a2 a3 : Option Value} {x : Int32} : pj_step 112 (88, a0 :: a1 :: a2 :: a3 :: some (.int x) :: l, st, M) = some (90, a0 :: a1 :: a2 :: a3 :: some (.int x) :: l, .int x :: st, M) := st_iload q112_88 rfl
theorem q112_90 : pj_row 112 90 = some (.ifCond .eq 7, 3, 97, 0, 0) := by decide +kernel
theorem s112_90 {L : pj_Loc} {st : List Value} {M : pj_Mem} {x : Int32} : pj_step 112 (90, L, .int x :: st, M) = some (if x = 0 then 97 else 93, L, st, M) := st_if_eq q112_90
theorem q112_93 : pj_row 112 93 = some (.iload_n 3, 1, 0, 0, 0) := by decide +kernel
theorem s112_93 {st : List Value} {M : pj_Mem} {l : pj_Loc} {a0 a1 a2 : Option Value} {x : Int32} : pj_step 112 (93, a0 :: a1 :: a2 :: some (.int x) :: l, st, M) = some (94, a0 :: a1 :: a2 :: some (.int x) :: l, .int x :: st, M) := st_iload_n q112_93 rfl
theorem q112_94 : pj_row 112 94 = some (.goto 5, 3, 99, 0, 0) := by decide +kernel
theorem s112_94 {L : pj_Loc} {st : List Value} {M : pj_Mem}  : pj_step 112 (94, L, st, M) = some (99, L, st, M) := st_goto q112_94
theorem q112_97 : pj_row 112 97 = some (.bipush (-6), 2, 0, 0, 0) := by decide +kernel
theorem s112_97 {L : pj_Loc} {st : List Value} {M : pj_Mem}  : pj_step 112 (97, L, st, M) = some (99, L, .int (-6) :: st, M) := st_bipush q112_97 (by decide +kernel)
theorem q112_99 : pj_row 112 99 = some (.ireturn, 1, 0, 0, 0) := by decide +kernel
theorem t112_99 {L : pj_Loc} {M : pj_Mem} {v : Int32} : pj_Ends 112 (99, L, [.int v], M) (some (.int v), M) := pj_Ends.ret q112_99 (pj_rtn_i rt112)
theorem rt113 : pj_rt 113 = some .int := rfl
theorem q113_0 : pj_row 113 0 = some (.iconst 0, 1, 0, 0, 0) := by decide +kernel
theorem s113_0 {L : pj_Loc} {st : List Value} {M : pj_Mem}  : pj_step 113 (0, L, st, M) = some (1, L, .int 0 :: st, M) := st_iconst q113_0 (by decide +kernel)
theorem q113_1 : pj_row 113 1 = some (.istore_n 3, 1, 0, 0, 0) := by decide +kernel
theorem s113_1 {st : List Value} {M : pj_Mem} {l : pj_Loc} {a0 a1 a2 a3 : Option Value} {x : Int32} (h : pj_long a2 = false) : pj_step 113 (1, a0 :: a1 :: a2 :: a3 :: l, .int x :: st, M) = some (2, a0 :: a1 :: a2 :: some (.int x) :: l, st, M) := st_istore_n q113_1 (pj_st_3 h)
theorem q113_2 : pj_row 113 2 = some (.iconst 1, 1, 0, 0, 0) := by decide +kernel
theorem s113_2 {L : pj_Loc} {st : List Value} {M : pj_Mem}  : pj_step 113 (2, L, st, M) = some (3, L, .int 1 :: st, M) := st_iconst q113_2 (by decide +kernel)
theorem q113_3 : pj_row 113 3 = some (.istore 4, 2, 0, 0, 0) := by decide +kernel
theorem s113_3 {st : List Value} {M : pj_Mem} {l : pj_Loc} {a0 a1 a2 a3 a4 : Option Value} {x : Int32} (h : pj_long a3 = false) : pj_step 113 (3, a0 :: a1 :: a2 :: a3 :: a4 :: l, .int x :: st, M) = some (5, a0 :: a1 :: a2 :: a3 :: some (.int x) :: l, st, M) := st_istore q113_3 (pj_st_4 h)
theorem q113_5 : pj_row 113 5 = some (.lload_n 1, 1, 0, 0, 0) := by decide +kernel
theorem s113_5 {st : List Value} {M : pj_Mem} {l : pj_Loc} {a0 : Option Value} {x : Int64} : pj_step 113 (5, a0 :: some (.long x) :: l, st, M) = some (6, a0 :: some (.long x) :: l, .long x :: st, M) := st_lload_n q113_5 rfl
theorem q113_6 : pj_row 113 6 = some (.lstore 5, 2, 0, 0, 0) := by decide +kernel
theorem s113_6 {st : List Value} {M : pj_Mem} {l : pj_Loc} {a0 a1 a2 a3 a4 a5 a6 : Option Value} {x : Int64} (h : pj_long a4 = false) : pj_step 113 (6, a0 :: a1 :: a2 :: a3 :: a4 :: a5 :: a6 :: l, .long x :: st, M) = some (8, a0 :: a1 :: a2 :: a3 :: a4 :: some (.long x) :: none :: l, st, M) := st_lstore q113_6 (pj_stl_5 h)
theorem q113_8 : pj_row 113 8 = some (.iload_n 3, 1, 0, 0, 0) := by decide +kernel
theorem s113_8 {st : List Value} {M : pj_Mem} {l : pj_Loc} {a0 a1 a2 : Option Value} {x : Int32} : pj_step 113 (8, a0 :: a1 :: a2 :: some (.int x) :: l, st, M) = some (9, a0 :: a1 :: a2 :: some (.int x) :: l, .int x :: st, M) := st_iload_n q113_8 rfl
theorem q113_9 : pj_row 113 9 = some (.bipush 8, 2, 0, 0, 0) := by decide +kernel
theorem s113_9 {L : pj_Loc} {st : List Value} {M : pj_Mem}  : pj_step 113 (9, L, st, M) = some (11, L, .int 8 :: st, M) := st_bipush q113_9 (by decide +kernel)
theorem q113_11 : pj_row 113 11 = some (.if_icmp .ge 57, 3, 68, 0, 0) := by decide +kernel
theorem s113_11 {L : pj_Loc} {st : List Value} {M : pj_Mem} {x y : Int32} : pj_step 113 (11, L, .int y :: .int x :: st, M) = some (if y ≤ x then 68 else 14, L, st, M) := st_icmp_ge q113_11
theorem q113_14 : pj_row 113 14 = some (.lload 5, 2, 0, 0, 0) := by decide +kernel
theorem s113_14 {st : List Value} {M : pj_Mem} {l : pj_Loc} {a0 a1 a2 a3 a4 : Option Value} {x : Int64} : pj_step 113 (14, a0 :: a1 :: a2 :: a3 :: a4 :: some (.long x) :: l, st, M) = some (16, a0 :: a1 :: a2 :: a3 :: a4 :: some (.long x) :: l, .long x :: st, M) := st_lload q113_14 rfl
theorem q113_16 : pj_row 113 16 = some (.ldc2_w 164, 3, 0, 0, 255) := by decide +kernel
theorem s113_16 {L : pj_Loc} {st : List Value} {M : pj_Mem}  : pj_step 113 (16, L, st, M) = some (19, L, .long 255 :: st, M) := st_ldc2_w q113_16 (by decide +kernel)
theorem q113_19 : pj_row 113 19 = some (.land, 1, 0, 0, 0) := by decide +kernel
theorem s113_19 {L : pj_Loc} {st : List Value} {M : pj_Mem} {x y : Int64} : pj_step 113 (19, L, .long y :: .long x :: st, M) = some (20, L, .long (x &&& y) :: st, M) := st_land q113_19
theorem q113_20 : pj_row 113 20 = some (.lconst 0, 1, 0, 0, 0) := by decide +kernel
theorem s113_20 {L : pj_Loc} {st : List Value} {M : pj_Mem}  : pj_step 113 (20, L, st, M) = some (21, L, .long 0 :: st, M) := st_lconst q113_20 (by decide +kernel)
theorem q113_21 : pj_row 113 21 = some (.lcmp, 1, 0, 0, 0) := by decide +kernel
theorem s113_21 {L : pj_Loc} {st : List Value} {M : pj_Mem} {x y : Int64} : pj_step 113 (21, L, .long y :: .long x :: st, M) = some (22, L, .int (lg_cmp x y) :: st, M) := st_lcmp q113_21
theorem q113_22 : pj_row 113 22 = some (.ifCond .eq 46, 3, 68, 0, 0) := by decide +kernel
theorem s113_22 {L : pj_Loc} {st : List Value} {M : pj_Mem} {x : Int32} : pj_step 113 (22, L, .int x :: st, M) = some (if x = 0 then 68 else 25, L, st, M) := st_if_eq q113_22
theorem q113_25 : pj_row 113 25 = some (.iload 4, 2, 0, 0, 0) := by decide +kernel
theorem s113_25 {st : List Value} {M : pj_Mem} {l : pj_Loc} {a0 a1 a2 a3 : Option Value} {x : Int32} : pj_step 113 (25, a0 :: a1 :: a2 :: a3 :: some (.int x) :: l, st, M) = some (27, a0 :: a1 :: a2 :: a3 :: some (.int x) :: l, .int x :: st, M) := st_iload q113_25 rfl
theorem q113_27 : pj_row 113 27 = some (.ifCond .eq 25, 3, 52, 0, 0) := by decide +kernel
theorem s113_27 {L : pj_Loc} {st : List Value} {M : pj_Mem} {x : Int32} : pj_step 113 (27, L, .int x :: st, M) = some (if x = 0 then 52 else 30, L, st, M) := st_if_eq q113_27
theorem q113_30 : pj_row 113 30 = some (.lload 5, 2, 0, 0, 0) := by decide +kernel
theorem s113_30 {st : List Value} {M : pj_Mem} {l : pj_Loc} {a0 a1 a2 a3 a4 : Option Value} {x : Int64} : pj_step 113 (30, a0 :: a1 :: a2 :: a3 :: a4 :: some (.long x) :: l, st, M) = some (32, a0 :: a1 :: a2 :: a3 :: a4 :: some (.long x) :: l, .long x :: st, M) := st_lload q113_30 rfl
theorem q113_32 : pj_row 113 32 = some (.ldc2_w 164, 3, 0, 0, 255) := by decide +kernel
theorem s113_32 {L : pj_Loc} {st : List Value} {M : pj_Mem}  : pj_step 113 (32, L, st, M) = some (35, L, .long 255 :: st, M) := st_ldc2_w q113_32 (by decide +kernel)
theorem q113_35 : pj_row 113 35 = some (.land, 1, 0, 0, 0) := by decide +kernel
theorem s113_35 {L : pj_Loc} {st : List Value} {M : pj_Mem} {x y : Int64} : pj_step 113 (35, L, .long y :: .long x :: st, M) = some (36, L, .long (x &&& y) :: st, M) := st_land q113_35
theorem q113_36 : pj_row 113 36 = some (.ldc2_w 166, 3, 0, 0, 33) := by decide +kernel
theorem s113_36 {L : pj_Loc} {st : List Value} {M : pj_Mem}  : pj_step 113 (36, L, st, M) = some (39, L, .long 33 :: st, M) := st_ldc2_w q113_36 (by decide +kernel)
theorem q113_39 : pj_row 113 39 = some (.ldc2_w 168, 3, 0, 0, 126) := by decide +kernel
theorem s113_39 {L : pj_Loc} {st : List Value} {M : pj_Mem}  : pj_step 113 (39, L, st, M) = some (42, L, .long 126 :: st, M) := st_ldc2_w q113_39 (by decide +kernel)
theorem q113_42 : pj_row 113 42 = some (.invokestatic 42, 3, 77, 3, 0) := by decide +kernel
theorem e113_42 {L : pj_Loc} {st : List Value} {N S : Nat} {H : pj_Heap} {o : Option Value × pj_Mem} {M' : pj_Mem} {x0 : Int64} {x1 : Int64} {x2 : Int64} {r : Int32} (h4 : pj_le4 st = true) (h1 : pj_Ends 77 (0, [some (.long x0), none, some (.long x1), none, some (.long x2), none], [], (N, S, H)) (some (.int r), M')) (h2 : pj_Ends 113 (45, L, .int r :: st, M') o) : pj_Ends 113 (42, L, .long x2 :: .long x1 :: .long x0 :: st, (N, S, H)) o := ec_s3 q113_42 (Or.inl rfl) h4 rfl h1 h2
theorem q113_45 : pj_row 113 45 = some (.ifCond .eq 7, 3, 52, 0, 0) := by decide +kernel
theorem s113_45 {L : pj_Loc} {st : List Value} {M : pj_Mem} {x : Int32} : pj_step 113 (45, L, .int x :: st, M) = some (if x = 0 then 52 else 48, L, st, M) := st_if_eq q113_45
theorem q113_48 : pj_row 113 48 = some (.iconst 1, 1, 0, 0, 0) := by decide +kernel
theorem s113_48 {L : pj_Loc} {st : List Value} {M : pj_Mem}  : pj_step 113 (48, L, st, M) = some (49, L, .int 1 :: st, M) := st_iconst q113_48 (by decide +kernel)
theorem q113_49 : pj_row 113 49 = some (.goto 4, 3, 53, 0, 0) := by decide +kernel
theorem s113_49 {L : pj_Loc} {st : List Value} {M : pj_Mem}  : pj_step 113 (49, L, st, M) = some (53, L, st, M) := st_goto q113_49
theorem q113_52 : pj_row 113 52 = some (.iconst 0, 1, 0, 0, 0) := by decide +kernel
theorem s113_52 {L : pj_Loc} {st : List Value} {M : pj_Mem}  : pj_step 113 (52, L, st, M) = some (53, L, .int 0 :: st, M) := st_iconst q113_52 (by decide +kernel)
theorem q113_53 : pj_row 113 53 = some (.istore 4, 2, 0, 0, 0) := by decide +kernel
theorem s113_53 {st : List Value} {M : pj_Mem} {l : pj_Loc} {a0 a1 a2 a3 a4 : Option Value} {x : Int32} (h : pj_long a3 = false) : pj_step 113 (53, a0 :: a1 :: a2 :: a3 :: a4 :: l, .int x :: st, M) = some (55, a0 :: a1 :: a2 :: a3 :: some (.int x) :: l, st, M) := st_istore q113_53 (pj_st_4 h)
theorem q113_55 : pj_row 113 55 = some (.lload 5, 2, 0, 0, 0) := by decide +kernel
theorem s113_55 {st : List Value} {M : pj_Mem} {l : pj_Loc} {a0 a1 a2 a3 a4 : Option Value} {x : Int64} : pj_step 113 (55, a0 :: a1 :: a2 :: a3 :: a4 :: some (.long x) :: l, st, M) = some (57, a0 :: a1 :: a2 :: a3 :: a4 :: some (.long x) :: l, .long x :: st, M) := st_lload q113_55 rfl
theorem q113_57 : pj_row 113 57 = some (.bipush 8, 2, 0, 0, 0) := by decide +kernel
theorem s113_57 {L : pj_Loc} {st : List Value} {M : pj_Mem}  : pj_step 113 (57, L, st, M) = some (59, L, .int 8 :: st, M) := st_bipush q113_57 (by decide +kernel)
theorem q113_59 : pj_row 113 59 = some (.lushr, 1, 0, 0, 0) := by decide +kernel
theorem s113_59 {L : pj_Loc} {st : List Value} {M : pj_Mem} {x : Int64} {y : Int32} : pj_step 113 (59, L, .int y :: .long x :: st, M) = some (60, L, .long ((x.toUInt64 >>> (y.toInt64.toUInt64 &&& Int64.toUInt64 63)).toInt64) :: st, M) := st_lushr q113_59
theorem q113_60 : pj_row 113 60 = some (.lstore 5, 2, 0, 0, 0) := by decide +kernel
theorem s113_60 {st : List Value} {M : pj_Mem} {l : pj_Loc} {a0 a1 a2 a3 a4 a5 a6 : Option Value} {x : Int64} (h : pj_long a4 = false) : pj_step 113 (60, a0 :: a1 :: a2 :: a3 :: a4 :: a5 :: a6 :: l, .long x :: st, M) = some (62, a0 :: a1 :: a2 :: a3 :: a4 :: some (.long x) :: none :: l, st, M) := st_lstore q113_60 (pj_stl_5 h)
theorem q113_62 : pj_row 113 62 = some (.iinc 3 1, 3, 0, 0, 0) := by decide +kernel
theorem s113_62 {st : List Value} {M : pj_Mem} {l : pj_Loc} {a0 a1 a2 : Option Value} {x : Int32} (h : pj_long a2 = false) : pj_step 113 (62, a0 :: a1 :: a2 :: some (.int x) :: l, st, M) = some (65, a0 :: a1 :: a2 :: some (.int (x + 1)) :: l, st, M) := st_iinc q113_62 rfl (congrArg (fun y => x + y) (show Int32.ofInt 1 = 1 by decide +kernel)) (pj_st_3 h)
theorem q113_65 : pj_row 113 65 = some (.goto (-57), 3, 8, 0, 0) := by decide +kernel
theorem s113_65 {L : pj_Loc} {st : List Value} {M : pj_Mem}  : pj_step 113 (65, L, st, M) = some (8, L, st, M) := st_goto q113_65
theorem q113_68 : pj_row 113 68 = some (.iload_n 3, 1, 0, 0, 0) := by decide +kernel
theorem s113_68 {st : List Value} {M : pj_Mem} {l : pj_Loc} {a0 a1 a2 : Option Value} {x : Int32} : pj_step 113 (68, a0 :: a1 :: a2 :: some (.int x) :: l, st, M) = some (69, a0 :: a1 :: a2 :: some (.int x) :: l, .int x :: st, M) := st_iload_n q113_68 rfl
theorem q113_69 : pj_row 113 69 = some (.ifCond .eq 15, 3, 84, 0, 0) := by decide +kernel
theorem s113_69 {L : pj_Loc} {st : List Value} {M : pj_Mem} {x : Int32} : pj_step 113 (69, L, .int x :: st, M) = some (if x = 0 then 84 else 72, L, st, M) := st_if_eq q113_69
theorem q113_72 : pj_row 113 72 = some (.lload 5, 2, 0, 0, 0) := by decide +kernel
theorem s113_72 {st : List Value} {M : pj_Mem} {l : pj_Loc} {a0 a1 a2 a3 a4 : Option Value} {x : Int64} : pj_step 113 (72, a0 :: a1 :: a2 :: a3 :: a4 :: some (.long x) :: l, st, M) = some (74, a0 :: a1 :: a2 :: a3 :: a4 :: some (.long x) :: l, .long x :: st, M) := st_lload q113_72 rfl
theorem q113_74 : pj_row 113 74 = some (.lconst 0, 1, 0, 0, 0) := by decide +kernel
theorem s113_74 {L : pj_Loc} {st : List Value} {M : pj_Mem}  : pj_step 113 (74, L, st, M) = some (75, L, .long 0 :: st, M) := st_lconst q113_74 (by decide +kernel)
theorem q113_75 : pj_row 113 75 = some (.lcmp, 1, 0, 0, 0) := by decide +kernel
theorem s113_75 {L : pj_Loc} {st : List Value} {M : pj_Mem} {x y : Int64} : pj_step 113 (75, L, .long y :: .long x :: st, M) = some (76, L, .int (lg_cmp x y) :: st, M) := st_lcmp q113_75
theorem q113_76 : pj_row 113 76 = some (.ifCond .ne 8, 3, 84, 0, 0) := by decide +kernel
theorem s113_76 {L : pj_Loc} {st : List Value} {M : pj_Mem} {x : Int32} : pj_step 113 (76, L, .int x :: st, M) = some (if ¬ x = 0 then 84 else 79, L, st, M) := st_if_ne q113_76
theorem q113_79 : pj_row 113 79 = some (.iload 4, 2, 0, 0, 0) := by decide +kernel
theorem s113_79 {st : List Value} {M : pj_Mem} {l : pj_Loc} {a0 a1 a2 a3 : Option Value} {x : Int32} : pj_step 113 (79, a0 :: a1 :: a2 :: a3 :: some (.int x) :: l, st, M) = some (81, a0 :: a1 :: a2 :: a3 :: some (.int x) :: l, .int x :: st, M) := st_iload q113_79 rfl
theorem q113_81 : pj_row 113 81 = some (.ifCond .ne 6, 3, 87, 0, 0) := by decide +kernel
theorem s113_81 {L : pj_Loc} {st : List Value} {M : pj_Mem} {x : Int32} : pj_step 113 (81, L, .int x :: st, M) = some (if ¬ x = 0 then 87 else 84, L, st, M) := st_if_ne q113_81
theorem q113_84 : pj_row 113 84 = some (.bipush (-2), 2, 0, 0, 0) := by decide +kernel
theorem s113_84 {L : pj_Loc} {st : List Value} {M : pj_Mem}  : pj_step 113 (84, L, st, M) = some (86, L, .int (-2) :: st, M) := st_bipush q113_84 (by decide +kernel)
theorem q113_86 : pj_row 113 86 = some (.ireturn, 1, 0, 0, 0) := by decide +kernel
theorem t113_86 {L : pj_Loc} {M : pj_Mem} {v : Int32} : pj_Ends 113 (86, L, [.int v], M) (some (.int v), M) := pj_Ends.ret q113_86 (pj_rtn_i rt113)
theorem q113_87 : pj_row 113 87 = some (.aload_n 0, 1, 0, 0, 0) := by decide +kernel
theorem s113_87 {st : List Value} {M : pj_Mem} {l : pj_Loc} {x : Nat} : pj_step 113 (87, some (.ref x) :: l, st, M) = some (88, some (.ref x) :: l, .ref x :: st, M) := st_aload_n q113_87 rfl
theorem q113_88 : pj_row 113 88 = some (.getfield 152, 3, 6, 13, 0) := by decide +kernel
theorem s113_88 {L : pj_Loc} {st : List Value} {N S : Nat} {H : pj_Heap} {o : Nat} : pj_step 113 (88, L, .ref o :: st, (N, S, H)) = pj_pv 91 L st (N, S, H) (pj_fld (H o) 6 13) := st_getfield q113_88
theorem q113_91 : pj_row 113 91 = some (.iload_n 3, 1, 0, 0, 0) := by decide +kernel
theorem s113_91 {st : List Value} {M : pj_Mem} {l : pj_Loc} {a0 a1 a2 : Option Value} {x : Int32} : pj_step 113 (91, a0 :: a1 :: a2 :: some (.int x) :: l, st, M) = some (92, a0 :: a1 :: a2 :: some (.int x) :: l, .int x :: st, M) := st_iload_n q113_91 rfl
theorem q113_92 : pj_row 113 92 = some (.iadd, 1, 0, 0, 0) := by decide +kernel
theorem s113_92 {L : pj_Loc} {st : List Value} {M : pj_Mem} {x y : Int32} : pj_step 113 (92, L, .int y :: .int x :: st, M) = some (93, L, .int (x + y) :: st, M) := st_iadd q113_92
theorem q113_93 : pj_row 113 93 = some (.bipush 80, 2, 0, 0, 0) := by decide +kernel
theorem s113_93 {L : pj_Loc} {st : List Value} {M : pj_Mem}  : pj_step 113 (93, L, st, M) = some (95, L, .int 80 :: st, M) := st_bipush q113_93 (by decide +kernel)
theorem q113_95 : pj_row 113 95 = some (.if_icmp .le 6, 3, 101, 0, 0) := by decide +kernel
theorem s113_95 {L : pj_Loc} {st : List Value} {M : pj_Mem} {x y : Int32} : pj_step 113 (95, L, .int y :: .int x :: st, M) = some (if x ≤ y then 101 else 98, L, st, M) := st_icmp_le q113_95
theorem q113_98 : pj_row 113 98 = some (.bipush (-4), 2, 0, 0, 0) := by decide +kernel
theorem s113_98 {L : pj_Loc} {st : List Value} {M : pj_Mem}  : pj_step 113 (98, L, st, M) = some (100, L, .int (-4) :: st, M) := st_bipush q113_98 (by decide +kernel)
theorem q113_100 : pj_row 113 100 = some (.ireturn, 1, 0, 0, 0) := by decide +kernel
theorem t113_100 {L : pj_Loc} {M : pj_Mem} {v : Int32} : pj_Ends 113 (100, L, [.int v], M) (some (.int v), M) := pj_Ends.ret q113_100 (pj_rtn_i rt113)
theorem q113_101 : pj_row 113 101 = some (.iload_n 3, 1, 0, 0, 0) := by decide +kernel
theorem s113_101 {st : List Value} {M : pj_Mem} {l : pj_Loc} {a0 a1 a2 : Option Value} {x : Int32} : pj_step 113 (101, a0 :: a1 :: a2 :: some (.int x) :: l, st, M) = some (102, a0 :: a1 :: a2 :: some (.int x) :: l, .int x :: st, M) := st_iload_n q113_101 rfl
theorem q113_102 : pj_row 113 102 = some (.iconst 1, 1, 0, 0, 0) := by decide +kernel
theorem s113_102 {L : pj_Loc} {st : List Value} {M : pj_Mem}  : pj_step 113 (102, L, st, M) = some (103, L, .int 1 :: st, M) := st_iconst q113_102 (by decide +kernel)
theorem q113_103 : pj_row 113 103 = some (.isub, 1, 0, 0, 0) := by decide +kernel
theorem s113_103 {L : pj_Loc} {st : List Value} {M : pj_Mem} {x y : Int32} : pj_step 113 (103, L, .int y :: .int x :: st, M) = some (104, L, .int (x - y) :: st, M) := st_isub q113_103
theorem q113_104 : pj_row 113 104 = some (.istore 7, 2, 0, 0, 0) := by decide +kernel
theorem s113_104 {st : List Value} {M : pj_Mem} {l : pj_Loc} {a0 a1 a2 a3 a4 a5 a6 a7 : Option Value} {x : Int32} (h : pj_long a6 = false) : pj_step 113 (104, a0 :: a1 :: a2 :: a3 :: a4 :: a5 :: a6 :: a7 :: l, .int x :: st, M) = some (106, a0 :: a1 :: a2 :: a3 :: a4 :: a5 :: a6 :: some (.int x) :: l, st, M) := st_istore q113_104 (pj_st_7 h)
theorem q113_106 : pj_row 113 106 = some (.iload 7, 2, 0, 0, 0) := by decide +kernel
theorem s113_106 {st : List Value} {M : pj_Mem} {l : pj_Loc} {a0 a1 a2 a3 a4 a5 a6 : Option Value} {x : Int32} : pj_step 113 (106, a0 :: a1 :: a2 :: a3 :: a4 :: a5 :: a6 :: some (.int x) :: l, st, M) = some (108, a0 :: a1 :: a2 :: a3 :: a4 :: a5 :: a6 :: some (.int x) :: l, .int x :: st, M) := st_iload q113_106 rfl
theorem q113_108 : pj_row 113 108 = some (.ifCond .lt 40, 3, 148, 0, 0) := by decide +kernel
theorem s113_108 {L : pj_Loc} {st : List Value} {M : pj_Mem} {x : Int32} : pj_step 113 (108, L, .int x :: st, M) = some (if x < 0 then 148 else 111, L, st, M) := st_if_lt q113_108
theorem q113_111 : pj_row 113 111 = some (.aload_n 0, 1, 0, 0, 0) := by decide +kernel
theorem s113_111 {st : List Value} {M : pj_Mem} {l : pj_Loc} {x : Nat} : pj_step 113 (111, some (.ref x) :: l, st, M) = some (112, some (.ref x) :: l, .ref x :: st, M) := st_aload_n q113_111 rfl
theorem q113_112 : pj_row 113 112 = some (.getfield 31, 3, 6, 12, 0) := by decide +kernel
theorem s113_112 {L : pj_Loc} {st : List Value} {N S : Nat} {H : pj_Heap} {o : Nat} : pj_step 113 (112, L, .ref o :: st, (N, S, H)) = pj_pv 115 L st (N, S, H) (pj_fld (H o) 6 12) := st_getfield q113_112
theorem q113_115 : pj_row 113 115 = some (.aload_n 0, 1, 0, 0, 0) := by decide +kernel
theorem s113_115 {st : List Value} {M : pj_Mem} {l : pj_Loc} {x : Nat} : pj_step 113 (115, some (.ref x) :: l, st, M) = some (116, some (.ref x) :: l, .ref x :: st, M) := st_aload_n q113_115 rfl
theorem q113_116 : pj_row 113 116 = some (.getfield 152, 3, 6, 13, 0) := by decide +kernel
theorem s113_116 {L : pj_Loc} {st : List Value} {N S : Nat} {H : pj_Heap} {o : Nat} : pj_step 113 (116, L, .ref o :: st, (N, S, H)) = pj_pv 119 L st (N, S, H) (pj_fld (H o) 6 13) := st_getfield q113_116
theorem q113_119 : pj_row 113 119 = some (.lload_n 1, 1, 0, 0, 0) := by decide +kernel
theorem s113_119 {st : List Value} {M : pj_Mem} {l : pj_Loc} {a0 : Option Value} {x : Int64} : pj_step 113 (119, a0 :: some (.long x) :: l, st, M) = some (120, a0 :: some (.long x) :: l, .long x :: st, M) := st_lload_n q113_119 rfl
theorem q113_120 : pj_row 113 120 = some (.bipush 8, 2, 0, 0, 0) := by decide +kernel
theorem s113_120 {L : pj_Loc} {st : List Value} {M : pj_Mem}  : pj_step 113 (120, L, st, M) = some (122, L, .int 8 :: st, M) := st_bipush q113_120 (by decide +kernel)
theorem q113_122 : pj_row 113 122 = some (.iload 7, 2, 0, 0, 0) := by decide +kernel
theorem s113_122 {st : List Value} {M : pj_Mem} {l : pj_Loc} {a0 a1 a2 a3 a4 a5 a6 : Option Value} {x : Int32} : pj_step 113 (122, a0 :: a1 :: a2 :: a3 :: a4 :: a5 :: a6 :: some (.int x) :: l, st, M) = some (124, a0 :: a1 :: a2 :: a3 :: a4 :: a5 :: a6 :: some (.int x) :: l, .int x :: st, M) := st_iload q113_122 rfl
theorem q113_124 : pj_row 113 124 = some (.imul, 1, 0, 0, 0) := by decide +kernel
theorem s113_124 {L : pj_Loc} {st : List Value} {M : pj_Mem} {x y : Int32} : pj_step 113 (124, L, .int y :: .int x :: st, M) = some (125, L, .int (x * y) :: st, M) := st_imul q113_124
theorem q113_125 : pj_row 113 125 = some (.lushr, 1, 0, 0, 0) := by decide +kernel
theorem s113_125 {L : pj_Loc} {st : List Value} {M : pj_Mem} {x : Int64} {y : Int32} : pj_step 113 (125, L, .int y :: .long x :: st, M) = some (126, L, .long ((x.toUInt64 >>> (y.toInt64.toUInt64 &&& Int64.toUInt64 63)).toInt64) :: st, M) := st_lushr q113_125
theorem q113_126 : pj_row 113 126 = some (.ldc2_w 164, 3, 0, 0, 255) := by decide +kernel
theorem s113_126 {L : pj_Loc} {st : List Value} {M : pj_Mem}  : pj_step 113 (126, L, st, M) = some (129, L, .long 255 :: st, M) := st_ldc2_w q113_126 (by decide +kernel)
theorem q113_129 : pj_row 113 129 = some (.land, 1, 0, 0, 0) := by decide +kernel
theorem s113_129 {L : pj_Loc} {st : List Value} {M : pj_Mem} {x y : Int64} : pj_step 113 (129, L, .long y :: .long x :: st, M) = some (130, L, .long (x &&& y) :: st, M) := st_land q113_129
theorem q113_130 : pj_row 113 130 = some (.l2i, 1, 0, 0, 0) := by decide +kernel
theorem s113_130 {L : pj_Loc} {st : List Value} {M : pj_Mem} {x : Int64} : pj_step 113 (130, L, .long x :: st, M) = some (131, L, .int x.toInt32 :: st, M) := st_l2i q113_130
theorem q113_131 : pj_row 113 131 = some (.iastore, 1, 0, 0, 0) := by decide +kernel
theorem s113_131 {L : pj_Loc} {st : List Value} {N S : Nat} {H : pj_Heap} {o : Nat} {i x : Int32} : pj_step 113 (131, L, .int x :: .int i :: .ref o :: st, (N, S, H)) = pj_set 132 L st (N, S, H) o (pj_ars (H o) 0 i x) := st_iastore q113_131
theorem q113_132 : pj_row 113 132 = some (.aload_n 0, 1, 0, 0, 0) := by decide +kernel
theorem s113_132 {st : List Value} {M : pj_Mem} {l : pj_Loc} {x : Nat} : pj_step 113 (132, some (.ref x) :: l, st, M) = some (133, some (.ref x) :: l, .ref x :: st, M) := st_aload_n q113_132 rfl
theorem q113_133 : pj_row 113 133 = some (.dup, 1, 0, 0, 0) := by decide +kernel
theorem s113_133 {L : pj_Loc} {st : List Value} {M : pj_Mem} {x : Nat} : pj_step 113 (133, L, .ref x :: st, M) = some (134, L, .ref x :: .ref x :: st, M) := st_dup_ref q113_133
theorem s113_133i {L : pj_Loc} {st : List Value} {M : pj_Mem} {x : Int32} : pj_step 113 (133, L, .int x :: st, M) = some (134, L, .int x :: .int x :: st, M) := st_dup_int q113_133
theorem q113_134 : pj_row 113 134 = some (.getfield 152, 3, 6, 13, 0) := by decide +kernel
theorem s113_134 {L : pj_Loc} {st : List Value} {N S : Nat} {H : pj_Heap} {o : Nat} : pj_step 113 (134, L, .ref o :: st, (N, S, H)) = pj_pv 137 L st (N, S, H) (pj_fld (H o) 6 13) := st_getfield q113_134
theorem q113_137 : pj_row 113 137 = some (.iconst 1, 1, 0, 0, 0) := by decide +kernel
theorem s113_137 {L : pj_Loc} {st : List Value} {M : pj_Mem}  : pj_step 113 (137, L, st, M) = some (138, L, .int 1 :: st, M) := st_iconst q113_137 (by decide +kernel)
theorem q113_138 : pj_row 113 138 = some (.iadd, 1, 0, 0, 0) := by decide +kernel
theorem s113_138 {L : pj_Loc} {st : List Value} {M : pj_Mem} {x y : Int32} : pj_step 113 (138, L, .int y :: .int x :: st, M) = some (139, L, .int (x + y) :: st, M) := st_iadd q113_138
theorem q113_139 : pj_row 113 139 = some (.putfield 152, 3, 6, 13, 0) := by decide +kernel
theorem s113_139 {L : pj_Loc} {st : List Value} {N S : Nat} {H : pj_Heap} {o : Nat} {v : Value} : pj_step 113 (139, L, v :: .ref o :: st, (N, S, H)) = pj_set 142 L st (N, S, H) o (pj_fset (H o) 6 13 v) := st_putfield q113_139
theorem q113_142 : pj_row 113 142 = some (.iinc 7 (-1), 3, 0, 0, 0) := by decide +kernel
theorem s113_142 {st : List Value} {M : pj_Mem} {l : pj_Loc} {a0 a1 a2 a3 a4 a5 a6 : Option Value} {x : Int32} (h : pj_long a6 = false) : pj_step 113 (142, a0 :: a1 :: a2 :: a3 :: a4 :: a5 :: a6 :: some (.int x) :: l, st, M) = some (145, a0 :: a1 :: a2 :: a3 :: a4 :: a5 :: a6 :: some (.int (x + (-1))) :: l, st, M) := st_iinc q113_142 rfl (congrArg (fun y => x + y) (show Int32.ofInt (-1) = (-1) by decide +kernel)) (pj_st_7 h)
theorem q113_145 : pj_row 113 145 = some (.goto (-39), 3, 106, 0, 0) := by decide +kernel
theorem s113_145 {L : pj_Loc} {st : List Value} {M : pj_Mem}  : pj_step 113 (145, L, st, M) = some (106, L, st, M) := st_goto q113_145
theorem q113_148 : pj_row 113 148 = some (.aload_n 0, 1, 0, 0, 0) := by decide +kernel
theorem s113_148 {st : List Value} {M : pj_Mem} {l : pj_Loc} {x : Nat} : pj_step 113 (148, some (.ref x) :: l, st, M) = some (149, some (.ref x) :: l, .ref x :: st, M) := st_aload_n q113_148 rfl
theorem q113_149 : pj_row 113 149 = some (.getfield 152, 3, 6, 13, 0) := by decide +kernel
theorem s113_149 {L : pj_Loc} {st : List Value} {N S : Nat} {H : pj_Heap} {o : Nat} : pj_step 113 (149, L, .ref o :: st, (N, S, H)) = pj_pv 152 L st (N, S, H) (pj_fld (H o) 6 13) := st_getfield q113_149
theorem q113_152 : pj_row 113 152 = some (.ireturn, 1, 0, 0, 0) := by decide +kernel
theorem t113_152 {L : pj_Loc} {M : pj_Mem} {v : Int32} : pj_Ends 113 (152, L, [.int v], M) (some (.int v), M) := pj_Ends.ret q113_152 (pj_rtn_i rt113)
theorem rt114 : pj_rt 114 = some .int := rfl
theorem q114_0 : pj_row 114 0 = some (.aload_n 0, 1, 0, 0, 0) := by decide +kernel
theorem s114_0 {st : List Value} {M : pj_Mem} {l : pj_Loc} {x : Nat} : pj_step 114 (0, some (.ref x) :: l, st, M) = some (1, some (.ref x) :: l, .ref x :: st, M) := st_aload_n q114_0 rfl
theorem q114_1 : pj_row 114 1 = some (.getfield 152, 3, 6, 13, 0) := by decide +kernel
theorem s114_1 {L : pj_Loc} {st : List Value} {N S : Nat} {H : pj_Heap} {o : Nat} : pj_step 114 (1, L, .ref o :: st, (N, S, H)) = pj_pv 4 L st (N, S, H) (pj_fld (H o) 6 13) := st_getfield q114_1
theorem q114_4 : pj_row 114 4 = some (.istore_n 1, 1, 0, 0, 0) := by decide +kernel
theorem s114_4 {st : List Value} {M : pj_Mem} {l : pj_Loc} {a0 a1 : Option Value} {x : Int32} (h : pj_long a0 = false) : pj_step 114 (4, a0 :: a1 :: l, .int x :: st, M) = some (5, a0 :: some (.int x) :: l, st, M) := st_istore_n q114_4 (pj_st_1 h)
theorem q114_5 : pj_row 114 5 = some (.aload_n 0, 1, 0, 0, 0) := by decide +kernel
theorem s114_5 {st : List Value} {M : pj_Mem} {l : pj_Loc} {x : Nat} : pj_step 114 (5, some (.ref x) :: l, st, M) = some (6, some (.ref x) :: l, .ref x :: st, M) := st_aload_n q114_5 rfl
theorem q114_6 : pj_row 114 6 = some (.iconst 0, 1, 0, 0, 0) := by decide +kernel
theorem s114_6 {L : pj_Loc} {st : List Value} {M : pj_Mem}  : pj_step 114 (6, L, st, M) = some (7, L, .int 0 :: st, M) := st_iconst q114_6 (by decide +kernel)
theorem q114_7 : pj_row 114 7 = some (.putfield 152, 3, 6, 13, 0) := by decide +kernel
theorem s114_7 {L : pj_Loc} {st : List Value} {N S : Nat} {H : pj_Heap} {o : Nat} {v : Value} : pj_step 114 (7, L, v :: .ref o :: st, (N, S, H)) = pj_set 10 L st (N, S, H) o (pj_fset (H o) 6 13 v) := st_putfield q114_7
theorem q114_10 : pj_row 114 10 = some (.iload_n 1, 1, 0, 0, 0) := by decide +kernel
theorem s114_10 {st : List Value} {M : pj_Mem} {l : pj_Loc} {a0 : Option Value} {x : Int32} : pj_step 114 (10, a0 :: some (.int x) :: l, st, M) = some (11, a0 :: some (.int x) :: l, .int x :: st, M) := st_iload_n q114_10 rfl
theorem q114_11 : pj_row 114 11 = some (.ireturn, 1, 0, 0, 0) := by decide +kernel
theorem t114_11 {L : pj_Loc} {M : pj_Mem} {v : Int32} : pj_Ends 114 (11, L, [.int v], M) (some (.int v), M) := pj_Ends.ret q114_11 (pj_rtn_i rt114)
theorem rt115 : pj_rt 115 = some .int := rfl
theorem q115_0 : pj_row 115 0 = some (.aload_n 0, 1, 0, 0, 0) := by decide +kernel
theorem s115_0 {st : List Value} {M : pj_Mem} {l : pj_Loc} {x : Nat} : pj_step 115 (0, some (.ref x) :: l, st, M) = some (1, some (.ref x) :: l, .ref x :: st, M) := st_aload_n q115_0 rfl
theorem q115_1 : pj_row 115 1 = some (.iconst 0, 1, 0, 0, 0) := by decide +kernel
theorem s115_1 {L : pj_Loc} {st : List Value} {M : pj_Mem}  : pj_step 115 (1, L, st, M) = some (2, L, .int 0 :: st, M) := st_iconst q115_1 (by decide +kernel)
theorem q115_2 : pj_row 115 2 = some (.putfield 170, 3, 6, 14, 0) := by decide +kernel
theorem s115_2 {L : pj_Loc} {st : List Value} {N S : Nat} {H : pj_Heap} {o : Nat} {v : Value} : pj_step 115 (2, L, v :: .ref o :: st, (N, S, H)) = pj_set 5 L st (N, S, H) o (pj_fset (H o) 6 14 v) := st_putfield q115_2
theorem q115_5 : pj_row 115 5 = some (.aload_n 0, 1, 0, 0, 0) := by decide +kernel
theorem s115_5 {st : List Value} {M : pj_Mem} {l : pj_Loc} {x : Nat} : pj_step 115 (5, some (.ref x) :: l, st, M) = some (6, some (.ref x) :: l, .ref x :: st, M) := st_aload_n q115_5 rfl
theorem q115_6 : pj_row 115 6 = some (.iconst 0, 1, 0, 0, 0) := by decide +kernel
theorem s115_6 {L : pj_Loc} {st : List Value} {M : pj_Mem}  : pj_step 115 (6, L, st, M) = some (7, L, .int 0 :: st, M) := st_iconst q115_6 (by decide +kernel)
theorem q115_7 : pj_row 115 7 = some (.putfield 189, 3, 6, 17, 0) := by decide +kernel
theorem s115_7 {L : pj_Loc} {st : List Value} {N S : Nat} {H : pj_Heap} {o : Nat} {v : Value} : pj_step 115 (7, L, v :: .ref o :: st, (N, S, H)) = pj_set 10 L st (N, S, H) o (pj_fset (H o) 6 17 v) := st_putfield q115_7
theorem q115_10 : pj_row 115 10 = some (.iconst 1, 1, 0, 0, 0) := by decide +kernel
theorem s115_10 {L : pj_Loc} {st : List Value} {M : pj_Mem}  : pj_step 115 (10, L, st, M) = some (11, L, .int 1 :: st, M) := st_iconst q115_10 (by decide +kernel)
theorem q115_11 : pj_row 115 11 = some (.istore_n 1, 1, 0, 0, 0) := by decide +kernel
theorem s115_11 {st : List Value} {M : pj_Mem} {l : pj_Loc} {a0 a1 : Option Value} {x : Int32} (h : pj_long a0 = false) : pj_step 115 (11, a0 :: a1 :: l, .int x :: st, M) = some (12, a0 :: some (.int x) :: l, st, M) := st_istore_n q115_11 (pj_st_1 h)
theorem q115_12 : pj_row 115 12 = some (.iload_n 1, 1, 0, 0, 0) := by decide +kernel
theorem s115_12 {st : List Value} {M : pj_Mem} {l : pj_Loc} {a0 : Option Value} {x : Int32} : pj_step 115 (12, a0 :: some (.int x) :: l, st, M) = some (13, a0 :: some (.int x) :: l, .int x :: st, M) := st_iload_n q115_12 rfl
theorem q115_13 : pj_row 115 13 = some (.ifCond .eq 35, 3, 48, 0, 0) := by decide +kernel
theorem s115_13 {L : pj_Loc} {st : List Value} {M : pj_Mem} {x : Int32} : pj_step 115 (13, L, .int x :: st, M) = some (if x = 0 then 48 else 16, L, st, M) := st_if_eq q115_13
theorem q115_16 : pj_row 115 16 = some (.aload_n 0, 1, 0, 0, 0) := by decide +kernel
theorem s115_16 {st : List Value} {M : pj_Mem} {l : pj_Loc} {x : Nat} : pj_step 115 (16, some (.ref x) :: l, st, M) = some (17, some (.ref x) :: l, .ref x :: st, M) := st_aload_n q115_16 rfl
theorem q115_17 : pj_row 115 17 = some (.invokevirtual 192, 3, 116, 1, 0) := by decide +kernel
theorem e115_17 {L : pj_Loc} {st : List Value} {N S : Nat} {H : pj_Heap} {o : Option Value × pj_Mem} {M' : pj_Mem} {x0 : Nat} {r : Int32} (h4 : pj_le4 st = true) (hu : pj_isU 6 (H x0) = true) (h1 : pj_Ends 116 (0, [some (.ref x0), none], [], (N, S, H)) (some (.int r), M')) (h2 : pj_Ends 115 (20, L, .int r :: st, M') o) : pj_Ends 115 (17, L, .ref x0 :: st, (N, S, H)) o := ec_v1 q115_17 (Or.inl rfl) h4 hu rfl h1 h2
theorem q115_20 : pj_row 115 20 = some (.ifCond .ne 8, 3, 28, 0, 0) := by decide +kernel
theorem s115_20 {L : pj_Loc} {st : List Value} {M : pj_Mem} {x : Int32} : pj_step 115 (20, L, .int x :: st, M) = some (if ¬ x = 0 then 28 else 23, L, st, M) := st_if_ne q115_20
theorem q115_23 : pj_row 115 23 = some (.aload_n 0, 1, 0, 0, 0) := by decide +kernel
theorem s115_23 {st : List Value} {M : pj_Mem} {l : pj_Loc} {x : Nat} : pj_step 115 (23, some (.ref x) :: l, st, M) = some (24, some (.ref x) :: l, .ref x :: st, M) := st_aload_n q115_23 rfl
theorem q115_24 : pj_row 115 24 = some (.getfield 170, 3, 6, 14, 0) := by decide +kernel
theorem s115_24 {L : pj_Loc} {st : List Value} {N S : Nat} {H : pj_Heap} {o : Nat} : pj_step 115 (24, L, .ref o :: st, (N, S, H)) = pj_pv 27 L st (N, S, H) (pj_fld (H o) 6 14) := st_getfield q115_24
theorem q115_27 : pj_row 115 27 = some (.ireturn, 1, 0, 0, 0) := by decide +kernel
theorem t115_27 {L : pj_Loc} {M : pj_Mem} {v : Int32} : pj_Ends 115 (27, L, [.int v], M) (some (.int v), M) := pj_Ends.ret q115_27 (pj_rtn_i rt115)
theorem q115_28 : pj_row 115 28 = some (.aload_n 0, 1, 0, 0, 0) := by decide +kernel
theorem s115_28 {st : List Value} {M : pj_Mem} {l : pj_Loc} {x : Nat} : pj_step 115 (28, some (.ref x) :: l, st, M) = some (29, some (.ref x) :: l, .ref x :: st, M) := st_aload_n q115_28 rfl
theorem q115_29 : pj_row 115 29 = some (.dup, 1, 0, 0, 0) := by decide +kernel
theorem s115_29 {L : pj_Loc} {st : List Value} {M : pj_Mem} {x : Nat} : pj_step 115 (29, L, .ref x :: st, M) = some (30, L, .ref x :: .ref x :: st, M) := st_dup_ref q115_29
theorem s115_29i {L : pj_Loc} {st : List Value} {M : pj_Mem} {x : Int32} : pj_step 115 (29, L, .int x :: st, M) = some (30, L, .int x :: .int x :: st, M) := st_dup_int q115_29
theorem q115_30 : pj_row 115 30 = some (.getfield 189, 3, 6, 17, 0) := by decide +kernel
theorem s115_30 {L : pj_Loc} {st : List Value} {N S : Nat} {H : pj_Heap} {o : Nat} : pj_step 115 (30, L, .ref o :: st, (N, S, H)) = pj_pv 33 L st (N, S, H) (pj_fld (H o) 6 17) := st_getfield q115_30
theorem q115_33 : pj_row 115 33 = some (.iconst 1, 1, 0, 0, 0) := by decide +kernel
theorem s115_33 {L : pj_Loc} {st : List Value} {M : pj_Mem}  : pj_step 115 (33, L, st, M) = some (34, L, .int 1 :: st, M) := st_iconst q115_33 (by decide +kernel)
theorem q115_34 : pj_row 115 34 = some (.iadd, 1, 0, 0, 0) := by decide +kernel
theorem s115_34 {L : pj_Loc} {st : List Value} {M : pj_Mem} {x y : Int32} : pj_step 115 (34, L, .int y :: .int x :: st, M) = some (35, L, .int (x + y) :: st, M) := st_iadd q115_34
theorem q115_35 : pj_row 115 35 = some (.putfield 189, 3, 6, 17, 0) := by decide +kernel
theorem s115_35 {L : pj_Loc} {st : List Value} {N S : Nat} {H : pj_Heap} {o : Nat} {v : Value} : pj_step 115 (35, L, v :: .ref o :: st, (N, S, H)) = pj_set 38 L st (N, S, H) o (pj_fset (H o) 6 17 v) := st_putfield q115_35
theorem q115_38 : pj_row 115 38 = some (.aload_n 0, 1, 0, 0, 0) := by decide +kernel
theorem s115_38 {st : List Value} {M : pj_Mem} {l : pj_Loc} {x : Nat} : pj_step 115 (38, some (.ref x) :: l, st, M) = some (39, some (.ref x) :: l, .ref x :: st, M) := st_aload_n q115_38 rfl
theorem q115_39 : pj_row 115 39 = some (.bipush 59, 2, 0, 0, 0) := by decide +kernel
theorem s115_39 {L : pj_Loc} {st : List Value} {M : pj_Mem}  : pj_step 115 (39, L, st, M) = some (41, L, .int 59 :: st, M) := st_bipush q115_39 (by decide +kernel)
theorem q115_41 : pj_row 115 41 = some (.invokevirtual 176, 3, 117, 2, 0) := by decide +kernel
theorem e115_41 {L : pj_Loc} {st : List Value} {N S : Nat} {H : pj_Heap} {o : Option Value × pj_Mem} {M' : pj_Mem} {x0 : Nat} {x1 : Int32} {r : Int32} (h4 : pj_le4 st = true) (hu : pj_isU 6 (H x0) = true) (h1 : pj_Ends 117 (0, [some (.ref x0), some (.int x1), none], [], (N, S, H)) (some (.int r), M')) (h2 : pj_Ends 115 (44, L, .int r :: st, M') o) : pj_Ends 115 (41, L, .int x1 :: .ref x0 :: st, (N, S, H)) o := ec_v2 q115_41 (Or.inl rfl) h4 hu rfl h1 h2
theorem q115_44 : pj_row 115 44 = some (.istore_n 1, 1, 0, 0, 0) := by decide +kernel
theorem s115_44 {st : List Value} {M : pj_Mem} {l : pj_Loc} {a0 a1 : Option Value} {x : Int32} (h : pj_long a0 = false) : pj_step 115 (44, a0 :: a1 :: l, .int x :: st, M) = some (45, a0 :: some (.int x) :: l, st, M) := st_istore_n q115_44 (pj_st_1 h)
theorem q115_45 : pj_row 115 45 = some (.goto (-33), 3, 12, 0, 0) := by decide +kernel
theorem s115_45 {L : pj_Loc} {st : List Value} {M : pj_Mem}  : pj_step 115 (45, L, st, M) = some (12, L, st, M) := st_goto q115_45
theorem q115_48 : pj_row 115 48 = some (.aload_n 0, 1, 0, 0, 0) := by decide +kernel
theorem s115_48 {st : List Value} {M : pj_Mem} {l : pj_Loc} {x : Nat} : pj_step 115 (48, some (.ref x) :: l, st, M) = some (49, some (.ref x) :: l, .ref x :: st, M) := st_aload_n q115_48 rfl
theorem q115_49 : pj_row 115 49 = some (.getfield 170, 3, 6, 14, 0) := by decide +kernel
theorem s115_49 {L : pj_Loc} {st : List Value} {N S : Nat} {H : pj_Heap} {o : Nat} : pj_step 115 (49, L, .ref o :: st, (N, S, H)) = pj_pv 52 L st (N, S, H) (pj_fld (H o) 6 14) := st_getfield q115_49
theorem q115_52 : pj_row 115 52 = some (.aload_n 0, 1, 0, 0, 0) := by decide +kernel
theorem s115_52 {st : List Value} {M : pj_Mem} {l : pj_Loc} {x : Nat} : pj_step 115 (52, some (.ref x) :: l, st, M) = some (53, some (.ref x) :: l, .ref x :: st, M) := st_aload_n q115_52 rfl
theorem q115_53 : pj_row 115 53 = some (.getfield 152, 3, 6, 13, 0) := by decide +kernel
theorem s115_53 {L : pj_Loc} {st : List Value} {N S : Nat} {H : pj_Heap} {o : Nat} : pj_step 115 (53, L, .ref o :: st, (N, S, H)) = pj_pv 56 L st (N, S, H) (pj_fld (H o) 6 13) := st_getfield q115_53
theorem q115_56 : pj_row 115 56 = some (.if_icmp .ne 8, 3, 64, 0, 0) := by decide +kernel
theorem s115_56 {L : pj_Loc} {st : List Value} {M : pj_Mem} {x y : Int32} : pj_step 115 (56, L, .int y :: .int x :: st, M) = some (if ¬ x = y then 64 else 59, L, st, M) := st_icmp_ne q115_56
theorem q115_59 : pj_row 115 59 = some (.bipush (-6), 2, 0, 0, 0) := by decide +kernel
theorem s115_59 {L : pj_Loc} {st : List Value} {M : pj_Mem}  : pj_step 115 (59, L, st, M) = some (61, L, .int (-6) :: st, M) := st_bipush q115_59 (by decide +kernel)
theorem q115_61 : pj_row 115 61 = some (.goto 7, 3, 68, 0, 0) := by decide +kernel
theorem s115_61 {L : pj_Loc} {st : List Value} {M : pj_Mem}  : pj_step 115 (61, L, st, M) = some (68, L, st, M) := st_goto q115_61
theorem q115_64 : pj_row 115 64 = some (.aload_n 0, 1, 0, 0, 0) := by decide +kernel
theorem s115_64 {st : List Value} {M : pj_Mem} {l : pj_Loc} {x : Nat} : pj_step 115 (64, some (.ref x) :: l, st, M) = some (65, some (.ref x) :: l, .ref x :: st, M) := st_aload_n q115_64 rfl
theorem q115_65 : pj_row 115 65 = some (.getfield 170, 3, 6, 14, 0) := by decide +kernel
theorem s115_65 {L : pj_Loc} {st : List Value} {N S : Nat} {H : pj_Heap} {o : Nat} : pj_step 115 (65, L, .ref o :: st, (N, S, H)) = pj_pv 68 L st (N, S, H) (pj_fld (H o) 6 14) := st_getfield q115_65
theorem q115_68 : pj_row 115 68 = some (.ireturn, 1, 0, 0, 0) := by decide +kernel
theorem t115_68 {L : pj_Loc} {M : pj_Mem} {v : Int32} : pj_Ends 115 (68, L, [.int v], M) (some (.int v), M) := pj_Ends.ret q115_68 (pj_rtn_i rt115)
theorem rt116 : pj_rt 116 = some .boolean := rfl
theorem q116_0 : pj_row 116 0 = some (.iconst 0, 1, 0, 0, 0) := by decide +kernel
theorem s116_0 {L : pj_Loc} {st : List Value} {M : pj_Mem}  : pj_step 116 (0, L, st, M) = some (1, L, .int 0 :: st, M) := st_iconst q116_0 (by decide +kernel)
theorem q116_1 : pj_row 116 1 = some (.istore_n 1, 1, 0, 0, 0) := by decide +kernel
theorem s116_1 {st : List Value} {M : pj_Mem} {l : pj_Loc} {a0 a1 : Option Value} {x : Int32} (h : pj_long a0 = false) : pj_step 116 (1, a0 :: a1 :: l, .int x :: st, M) = some (2, a0 :: some (.int x) :: l, st, M) := st_istore_n q116_1 (pj_st_1 h)
theorem q116_2 : pj_row 116 2 = some (.iload_n 1, 1, 0, 0, 0) := by decide +kernel
theorem s116_2 {st : List Value} {M : pj_Mem} {l : pj_Loc} {a0 : Option Value} {x : Int32} : pj_step 116 (2, a0 :: some (.int x) :: l, st, M) = some (3, a0 :: some (.int x) :: l, .int x :: st, M) := st_iload_n q116_2 rfl
theorem q116_3 : pj_row 116 3 = some (.iconst 3, 1, 0, 0, 0) := by decide +kernel
theorem s116_3 {L : pj_Loc} {st : List Value} {M : pj_Mem}  : pj_step 116 (3, L, st, M) = some (4, L, .int 3 :: st, M) := st_iconst q116_3 (by decide +kernel)
theorem q116_4 : pj_row 116 4 = some (.if_icmp .ge 41, 3, 45, 0, 0) := by decide +kernel
theorem s116_4 {L : pj_Loc} {st : List Value} {M : pj_Mem} {x y : Int32} : pj_step 116 (4, L, .int y :: .int x :: st, M) = some (if y ≤ x then 45 else 7, L, st, M) := st_icmp_ge q116_4
theorem q116_7 : pj_row 116 7 = some (.iload_n 1, 1, 0, 0, 0) := by decide +kernel
theorem s116_7 {st : List Value} {M : pj_Mem} {l : pj_Loc} {a0 : Option Value} {x : Int32} : pj_step 116 (7, a0 :: some (.int x) :: l, st, M) = some (8, a0 :: some (.int x) :: l, .int x :: st, M) := st_iload_n q116_7 rfl
theorem q116_8 : pj_row 116 8 = some (.ifCond .le 12, 3, 20, 0, 0) := by decide +kernel
theorem s116_8 {L : pj_Loc} {st : List Value} {M : pj_Mem} {x : Int32} : pj_step 116 (8, L, .int x :: st, M) = some (if x ≤ 0 then 20 else 11, L, st, M) := st_if_le q116_8
theorem q116_11 : pj_row 116 11 = some (.aload_n 0, 1, 0, 0, 0) := by decide +kernel
theorem s116_11 {st : List Value} {M : pj_Mem} {l : pj_Loc} {x : Nat} : pj_step 116 (11, some (.ref x) :: l, st, M) = some (12, some (.ref x) :: l, .ref x :: st, M) := st_aload_n q116_11 rfl
theorem q116_12 : pj_row 116 12 = some (.bipush 44, 2, 0, 0, 0) := by decide +kernel
theorem s116_12 {L : pj_Loc} {st : List Value} {M : pj_Mem}  : pj_step 116 (12, L, st, M) = some (14, L, .int 44 :: st, M) := st_bipush q116_12 (by decide +kernel)
theorem q116_14 : pj_row 116 14 = some (.invokevirtual 176, 3, 117, 2, 0) := by decide +kernel
theorem e116_14 {L : pj_Loc} {st : List Value} {N S : Nat} {H : pj_Heap} {o : Option Value × pj_Mem} {M' : pj_Mem} {x0 : Nat} {x1 : Int32} {r : Int32} (h4 : pj_le4 st = true) (hu : pj_isU 6 (H x0) = true) (h1 : pj_Ends 117 (0, [some (.ref x0), some (.int x1), none], [], (N, S, H)) (some (.int r), M')) (h2 : pj_Ends 116 (17, L, .int r :: st, M') o) : pj_Ends 116 (14, L, .int x1 :: .ref x0 :: st, (N, S, H)) o := ec_v2 q116_14 (Or.inl rfl) h4 hu rfl h1 h2
theorem q116_17 : pj_row 116 17 = some (.ifCond .eq 10, 3, 27, 0, 0) := by decide +kernel
theorem s116_17 {L : pj_Loc} {st : List Value} {M : pj_Mem} {x : Int32} : pj_step 116 (17, L, .int x :: st, M) = some (if x = 0 then 27 else 20, L, st, M) := st_if_eq q116_17
theorem q116_20 : pj_row 116 20 = some (.aload_n 0, 1, 0, 0, 0) := by decide +kernel
theorem s116_20 {st : List Value} {M : pj_Mem} {l : pj_Loc} {x : Nat} : pj_step 116 (20, some (.ref x) :: l, st, M) = some (21, some (.ref x) :: l, .ref x :: st, M) := st_aload_n q116_20 rfl
theorem q116_21 : pj_row 116 21 = some (.invokevirtual 182, 3, 119, 1, 0) := by decide +kernel
theorem e116_21 {L : pj_Loc} {st : List Value} {N S : Nat} {H : pj_Heap} {o : Option Value × pj_Mem} {M' : pj_Mem} {x0 : Nat} {r : Int32} (h4 : pj_le4 st = true) (hu : pj_isU 6 (H x0) = true) (h1 : pj_Ends 119 (0, [some (.ref x0), none], [], (N, S, H)) (some (.int r), M')) (h2 : pj_Ends 116 (24, L, .int r :: st, M') o) : pj_Ends 116 (21, L, .ref x0 :: st, (N, S, H)) o := ec_v1 q116_21 (Or.inl rfl) h4 hu rfl h1 h2
theorem q116_24 : pj_row 116 24 = some (.ifCond .ne 5, 3, 29, 0, 0) := by decide +kernel
theorem s116_24 {L : pj_Loc} {st : List Value} {M : pj_Mem} {x : Int32} : pj_step 116 (24, L, .int x :: st, M) = some (if ¬ x = 0 then 29 else 27, L, st, M) := st_if_ne q116_24
theorem q116_27 : pj_row 116 27 = some (.iconst 0, 1, 0, 0, 0) := by decide +kernel
theorem s116_27 {L : pj_Loc} {st : List Value} {M : pj_Mem}  : pj_step 116 (27, L, st, M) = some (28, L, .int 0 :: st, M) := st_iconst q116_27 (by decide +kernel)
theorem q116_28 : pj_row 116 28 = some (.ireturn, 1, 0, 0, 0) := by decide +kernel
theorem t116_28 {L : pj_Loc} {M : pj_Mem} {v : Int32} (hv : v = 0 ∨ v = 1) : pj_Ends 116 (28, L, [.int v], M) (some (.int v), M) := pj_Ends.ret q116_28 (pj_rtn_z rt116 hv)
theorem q116_29 : pj_row 116 29 = some (.aload_n 0, 1, 0, 0, 0) := by decide +kernel
theorem s116_29 {st : List Value} {M : pj_Mem} {l : pj_Loc} {x : Nat} : pj_step 116 (29, some (.ref x) :: l, st, M) = some (30, some (.ref x) :: l, .ref x :: st, M) := st_aload_n q116_29 rfl
theorem q116_30 : pj_row 116 30 = some (.getfield 25, 3, 6, 6, 0) := by decide +kernel
theorem s116_30 {L : pj_Loc} {st : List Value} {N S : Nat} {H : pj_Heap} {o : Nat} : pj_step 116 (30, L, .ref o :: st, (N, S, H)) = pj_pv 33 L st (N, S, H) (pj_fld (H o) 6 6) := st_getfield q116_30
theorem q116_33 : pj_row 116 33 = some (.iload_n 1, 1, 0, 0, 0) := by decide +kernel
theorem s116_33 {st : List Value} {M : pj_Mem} {l : pj_Loc} {a0 : Option Value} {x : Int32} : pj_step 116 (33, a0 :: some (.int x) :: l, st, M) = some (34, a0 :: some (.int x) :: l, .int x :: st, M) := st_iload_n q116_33 rfl
theorem q116_34 : pj_row 116 34 = some (.aload_n 0, 1, 0, 0, 0) := by decide +kernel
theorem s116_34 {st : List Value} {M : pj_Mem} {l : pj_Loc} {x : Nat} : pj_step 116 (34, some (.ref x) :: l, st, M) = some (35, some (.ref x) :: l, .ref x :: st, M) := st_aload_n q116_34 rfl
theorem q116_35 : pj_row 116 35 = some (.getfield 179, 3, 6, 15, 0) := by decide +kernel
theorem s116_35 {L : pj_Loc} {st : List Value} {N S : Nat} {H : pj_Heap} {o : Nat} : pj_step 116 (35, L, .ref o :: st, (N, S, H)) = pj_pv 38 L st (N, S, H) (pj_fld (H o) 6 15) := st_getfield q116_35
theorem q116_38 : pj_row 116 38 = some (.iastore, 1, 0, 0, 0) := by decide +kernel
theorem s116_38 {L : pj_Loc} {st : List Value} {N S : Nat} {H : pj_Heap} {o : Nat} {i x : Int32} : pj_step 116 (38, L, .int x :: .int i :: .ref o :: st, (N, S, H)) = pj_set 39 L st (N, S, H) o (pj_ars (H o) 0 i x) := st_iastore q116_38
theorem q116_39 : pj_row 116 39 = some (.iinc 1 1, 3, 0, 0, 0) := by decide +kernel
theorem s116_39 {st : List Value} {M : pj_Mem} {l : pj_Loc} {a0 : Option Value} {x : Int32} (h : pj_long a0 = false) : pj_step 116 (39, a0 :: some (.int x) :: l, st, M) = some (42, a0 :: some (.int (x + 1)) :: l, st, M) := st_iinc q116_39 rfl (congrArg (fun y => x + y) (show Int32.ofInt 1 = 1 by decide +kernel)) (pj_st_1 h)
theorem q116_42 : pj_row 116 42 = some (.goto (-40), 3, 2, 0, 0) := by decide +kernel
theorem s116_42 {L : pj_Loc} {st : List Value} {M : pj_Mem}  : pj_step 116 (42, L, st, M) = some (2, L, st, M) := st_goto q116_42
theorem q116_45 : pj_row 116 45 = some (.aload_n 0, 1, 0, 0, 0) := by decide +kernel
theorem s116_45 {st : List Value} {M : pj_Mem} {l : pj_Loc} {x : Nat} : pj_step 116 (45, some (.ref x) :: l, st, M) = some (46, some (.ref x) :: l, .ref x :: st, M) := st_aload_n q116_45 rfl
theorem q116_46 : pj_row 116 46 = some (.aload_n 0, 1, 0, 0, 0) := by decide +kernel
theorem s116_46 {st : List Value} {M : pj_Mem} {l : pj_Loc} {x : Nat} : pj_step 116 (46, some (.ref x) :: l, st, M) = some (47, some (.ref x) :: l, .ref x :: st, M) := st_aload_n q116_46 rfl
theorem q116_47 : pj_row 116 47 = some (.bipush 99, 2, 0, 0, 0) := by decide +kernel
theorem s116_47 {L : pj_Loc} {st : List Value} {M : pj_Mem}  : pj_step 116 (47, L, st, M) = some (49, L, .int 99 :: st, M) := st_bipush q116_47 (by decide +kernel)
theorem q116_49 : pj_row 116 49 = some (.invokevirtual 176, 3, 117, 2, 0) := by decide +kernel
theorem e116_49 {L : pj_Loc} {st : List Value} {N S : Nat} {H : pj_Heap} {o : Option Value × pj_Mem} {M' : pj_Mem} {x0 : Nat} {x1 : Int32} {r : Int32} (h4 : pj_le4 st = true) (hu : pj_isU 6 (H x0) = true) (h1 : pj_Ends 117 (0, [some (.ref x0), some (.int x1), none], [], (N, S, H)) (some (.int r), M')) (h2 : pj_Ends 116 (52, L, .int r :: st, M') o) : pj_Ends 116 (49, L, .int x1 :: .ref x0 :: st, (N, S, H)) o := ec_v2 q116_49 (Or.inl rfl) h4 hu rfl h1 h2
theorem q116_52 : pj_row 116 52 = some (.putfield 185, 3, 6, 16, 0) := by decide +kernel
theorem s116_52 {L : pj_Loc} {st : List Value} {N S : Nat} {H : pj_Heap} {o : Nat} {v : Value} : pj_step 116 (52, L, v :: .ref o :: st, (N, S, H)) = pj_set 55 L st (N, S, H) o (pj_fset (H o) 6 16 v) := st_putfield q116_52
theorem q116_55 : pj_row 116 55 = some (.iconst 1, 1, 0, 0, 0) := by decide +kernel
theorem s116_55 {L : pj_Loc} {st : List Value} {M : pj_Mem}  : pj_step 116 (55, L, st, M) = some (56, L, .int 1 :: st, M) := st_iconst q116_55 (by decide +kernel)
theorem q116_56 : pj_row 116 56 = some (.ireturn, 1, 0, 0, 0) := by decide +kernel
theorem t116_56 {L : pj_Loc} {M : pj_Mem} {v : Int32} (hv : v = 0 ∨ v = 1) : pj_Ends 116 (56, L, [.int v], M) (some (.int v), M) := pj_Ends.ret q116_56 (pj_rtn_z rt116 hv)
theorem rt117 : pj_rt 117 = some .boolean := rfl
theorem q117_0 : pj_row 117 0 = some (.aload_n 0, 1, 0, 0, 0) := by decide +kernel
theorem s117_0 {st : List Value} {M : pj_Mem} {l : pj_Loc} {x : Nat} : pj_step 117 (0, some (.ref x) :: l, st, M) = some (1, some (.ref x) :: l, .ref x :: st, M) := st_aload_n q117_0 rfl
theorem q117_1 : pj_row 117 1 = some (.iload_n 1, 1, 0, 0, 0) := by decide +kernel
theorem s117_1 {st : List Value} {M : pj_Mem} {l : pj_Loc} {a0 : Option Value} {x : Int32} : pj_step 117 (1, a0 :: some (.int x) :: l, st, M) = some (2, a0 :: some (.int x) :: l, .int x :: st, M) := st_iload_n q117_1 rfl
theorem q117_2 : pj_row 117 2 = some (.iload_n 1, 1, 0, 0, 0) := by decide +kernel
theorem s117_2 {st : List Value} {M : pj_Mem} {l : pj_Loc} {a0 : Option Value} {x : Int32} : pj_step 117 (2, a0 :: some (.int x) :: l, st, M) = some (3, a0 :: some (.int x) :: l, .int x :: st, M) := st_iload_n q117_2 rfl
theorem q117_3 : pj_row 117 3 = some (.invokevirtual 173, 3, 118, 3, 0) := by decide +kernel
theorem e117_3 {L : pj_Loc} {st : List Value} {N S : Nat} {H : pj_Heap} {o : Option Value × pj_Mem} {M' : pj_Mem} {x0 : Nat} {x1 : Int32} {x2 : Int32} {r : Int32} (h4 : pj_le4 st = true) (hu : pj_isU 6 (H x0) = true) (h1 : pj_Ends 118 (0, [some (.ref x0), some (.int x1), some (.int x2)], [], (N, S, H)) (some (.int r), M')) (h2 : pj_Ends 117 (6, L, .int r :: st, M') o) : pj_Ends 117 (3, L, .int x2 :: .int x1 :: .ref x0 :: st, (N, S, H)) o := ec_v3 q117_3 (Or.inl rfl) h4 hu rfl h1 h2
theorem q117_6 : pj_row 117 6 = some (.istore_n 2, 1, 0, 0, 0) := by decide +kernel
theorem s117_6 {st : List Value} {M : pj_Mem} {l : pj_Loc} {a0 a1 a2 : Option Value} {x : Int32} (h : pj_long a1 = false) : pj_step 117 (6, a0 :: a1 :: a2 :: l, .int x :: st, M) = some (7, a0 :: a1 :: some (.int x) :: l, st, M) := st_istore_n q117_6 (pj_st_2 h)
theorem q117_7 : pj_row 117 7 = some (.aload_n 0, 1, 0, 0, 0) := by decide +kernel
theorem s117_7 {st : List Value} {M : pj_Mem} {l : pj_Loc} {x : Nat} : pj_step 117 (7, some (.ref x) :: l, st, M) = some (8, some (.ref x) :: l, .ref x :: st, M) := st_aload_n q117_7 rfl
theorem q117_8 : pj_row 117 8 = some (.dup, 1, 0, 0, 0) := by decide +kernel
theorem s117_8 {L : pj_Loc} {st : List Value} {M : pj_Mem} {x : Nat} : pj_step 117 (8, L, .ref x :: st, M) = some (9, L, .ref x :: .ref x :: st, M) := st_dup_ref q117_8
theorem s117_8i {L : pj_Loc} {st : List Value} {M : pj_Mem} {x : Int32} : pj_step 117 (8, L, .int x :: st, M) = some (9, L, .int x :: .int x :: st, M) := st_dup_int q117_8
theorem q117_9 : pj_row 117 9 = some (.getfield 170, 3, 6, 14, 0) := by decide +kernel
theorem s117_9 {L : pj_Loc} {st : List Value} {N S : Nat} {H : pj_Heap} {o : Nat} : pj_step 117 (9, L, .ref o :: st, (N, S, H)) = pj_pv 12 L st (N, S, H) (pj_fld (H o) 6 14) := st_getfield q117_9
theorem q117_12 : pj_row 117 12 = some (.iload_n 2, 1, 0, 0, 0) := by decide +kernel
theorem s117_12 {st : List Value} {M : pj_Mem} {l : pj_Loc} {a0 a1 : Option Value} {x : Int32} : pj_step 117 (12, a0 :: a1 :: some (.int x) :: l, st, M) = some (13, a0 :: a1 :: some (.int x) :: l, .int x :: st, M) := st_iload_n q117_12 rfl
theorem q117_13 : pj_row 117 13 = some (.ifCond .eq 7, 3, 20, 0, 0) := by decide +kernel
theorem s117_13 {L : pj_Loc} {st : List Value} {M : pj_Mem} {x : Int32} : pj_step 117 (13, L, .int x :: st, M) = some (if x = 0 then 20 else 16, L, st, M) := st_if_eq q117_13
theorem q117_16 : pj_row 117 16 = some (.iconst 1, 1, 0, 0, 0) := by decide +kernel
theorem s117_16 {L : pj_Loc} {st : List Value} {M : pj_Mem}  : pj_step 117 (16, L, st, M) = some (17, L, .int 1 :: st, M) := st_iconst q117_16 (by decide +kernel)
theorem q117_17 : pj_row 117 17 = some (.goto 4, 3, 21, 0, 0) := by decide +kernel
theorem s117_17 {L : pj_Loc} {st : List Value} {M : pj_Mem}  : pj_step 117 (17, L, st, M) = some (21, L, st, M) := st_goto q117_17
theorem q117_20 : pj_row 117 20 = some (.iconst 0, 1, 0, 0, 0) := by decide +kernel
theorem s117_20 {L : pj_Loc} {st : List Value} {M : pj_Mem}  : pj_step 117 (20, L, st, M) = some (21, L, .int 0 :: st, M) := st_iconst q117_20 (by decide +kernel)
theorem q117_21 : pj_row 117 21 = some (.iadd, 1, 0, 0, 0) := by decide +kernel
theorem s117_21 {L : pj_Loc} {st : List Value} {M : pj_Mem} {x y : Int32} : pj_step 117 (21, L, .int y :: .int x :: st, M) = some (22, L, .int (x + y) :: st, M) := st_iadd q117_21
theorem q117_22 : pj_row 117 22 = some (.putfield 170, 3, 6, 14, 0) := by decide +kernel
theorem s117_22 {L : pj_Loc} {st : List Value} {N S : Nat} {H : pj_Heap} {o : Nat} {v : Value} : pj_step 117 (22, L, v :: .ref o :: st, (N, S, H)) = pj_set 25 L st (N, S, H) o (pj_fset (H o) 6 14 v) := st_putfield q117_22
theorem q117_25 : pj_row 117 25 = some (.iload_n 2, 1, 0, 0, 0) := by decide +kernel
theorem s117_25 {st : List Value} {M : pj_Mem} {l : pj_Loc} {a0 a1 : Option Value} {x : Int32} : pj_step 117 (25, a0 :: a1 :: some (.int x) :: l, st, M) = some (26, a0 :: a1 :: some (.int x) :: l, .int x :: st, M) := st_iload_n q117_25 rfl
theorem q117_26 : pj_row 117 26 = some (.ireturn, 1, 0, 0, 0) := by decide +kernel
theorem t117_26 {L : pj_Loc} {M : pj_Mem} {v : Int32} (hv : v = 0 ∨ v = 1) : pj_Ends 117 (26, L, [.int v], M) (some (.int v), M) := pj_Ends.ret q117_26 (pj_rtn_z rt117 hv)
theorem rt118 : pj_rt 118 = some .boolean := rfl
theorem q118_0 : pj_row 118 0 = some (.aload_n 0, 1, 0, 0, 0) := by decide +kernel
theorem s118_0 {st : List Value} {M : pj_Mem} {l : pj_Loc} {x : Nat} : pj_step 118 (0, some (.ref x) :: l, st, M) = some (1, some (.ref x) :: l, .ref x :: st, M) := st_aload_n q118_0 rfl
theorem q118_1 : pj_row 118 1 = some (.getfield 170, 3, 6, 14, 0) := by decide +kernel
theorem s118_1 {L : pj_Loc} {st : List Value} {N S : Nat} {H : pj_Heap} {o : Nat} : pj_step 118 (1, L, .ref o :: st, (N, S, H)) = pj_pv 4 L st (N, S, H) (pj_fld (H o) 6 14) := st_getfield q118_1
theorem q118_4 : pj_row 118 4 = some (.aload_n 0, 1, 0, 0, 0) := by decide +kernel
theorem s118_4 {st : List Value} {M : pj_Mem} {l : pj_Loc} {x : Nat} : pj_step 118 (4, some (.ref x) :: l, st, M) = some (5, some (.ref x) :: l, .ref x :: st, M) := st_aload_n q118_4 rfl
theorem q118_5 : pj_row 118 5 = some (.getfield 152, 3, 6, 13, 0) := by decide +kernel
theorem s118_5 {L : pj_Loc} {st : List Value} {N S : Nat} {H : pj_Heap} {o : Nat} : pj_step 118 (5, L, .ref o :: st, (N, S, H)) = pj_pv 8 L st (N, S, H) (pj_fld (H o) 6 13) := st_getfield q118_5
theorem q118_8 : pj_row 118 8 = some (.if_icmp .ge 27, 3, 35, 0, 0) := by decide +kernel
theorem s118_8 {L : pj_Loc} {st : List Value} {M : pj_Mem} {x y : Int32} : pj_step 118 (8, L, .int y :: .int x :: st, M) = some (if y ≤ x then 35 else 11, L, st, M) := st_icmp_ge q118_8
theorem q118_11 : pj_row 118 11 = some (.aload_n 0, 1, 0, 0, 0) := by decide +kernel
theorem s118_11 {st : List Value} {M : pj_Mem} {l : pj_Loc} {x : Nat} : pj_step 118 (11, some (.ref x) :: l, st, M) = some (12, some (.ref x) :: l, .ref x :: st, M) := st_aload_n q118_11 rfl
theorem q118_12 : pj_row 118 12 = some (.getfield 31, 3, 6, 12, 0) := by decide +kernel
theorem s118_12 {L : pj_Loc} {st : List Value} {N S : Nat} {H : pj_Heap} {o : Nat} : pj_step 118 (12, L, .ref o :: st, (N, S, H)) = pj_pv 15 L st (N, S, H) (pj_fld (H o) 6 12) := st_getfield q118_12
theorem q118_15 : pj_row 118 15 = some (.aload_n 0, 1, 0, 0, 0) := by decide +kernel
theorem s118_15 {st : List Value} {M : pj_Mem} {l : pj_Loc} {x : Nat} : pj_step 118 (15, some (.ref x) :: l, st, M) = some (16, some (.ref x) :: l, .ref x :: st, M) := st_aload_n q118_15 rfl
theorem q118_16 : pj_row 118 16 = some (.getfield 170, 3, 6, 14, 0) := by decide +kernel
theorem s118_16 {L : pj_Loc} {st : List Value} {N S : Nat} {H : pj_Heap} {o : Nat} : pj_step 118 (16, L, .ref o :: st, (N, S, H)) = pj_pv 19 L st (N, S, H) (pj_fld (H o) 6 14) := st_getfield q118_16
theorem q118_19 : pj_row 118 19 = some (.iaload, 1, 0, 0, 0) := by decide +kernel
theorem s118_19 {L : pj_Loc} {st : List Value} {N S : Nat} {H : pj_Heap} {o : Nat} {i : Int32} : pj_step 118 (19, L, .int i :: .ref o :: st, (N, S, H)) = pj_pi 20 L st (N, S, H) (pj_arl (H o) 0 i) := st_iaload q118_19
theorem q118_20 : pj_row 118 20 = some (.i2l, 1, 0, 0, 0) := by decide +kernel
theorem s118_20 {L : pj_Loc} {st : List Value} {M : pj_Mem} {x : Int32} : pj_step 118 (20, L, .int x :: st, M) = some (21, L, .long x.toInt64 :: st, M) := st_i2l q118_20
theorem q118_21 : pj_row 118 21 = some (.iload_n 1, 1, 0, 0, 0) := by decide +kernel
theorem s118_21 {st : List Value} {M : pj_Mem} {l : pj_Loc} {a0 : Option Value} {x : Int32} : pj_step 118 (21, a0 :: some (.int x) :: l, st, M) = some (22, a0 :: some (.int x) :: l, .int x :: st, M) := st_iload_n q118_21 rfl
theorem q118_22 : pj_row 118 22 = some (.i2l, 1, 0, 0, 0) := by decide +kernel
theorem s118_22 {L : pj_Loc} {st : List Value} {M : pj_Mem} {x : Int32} : pj_step 118 (22, L, .int x :: st, M) = some (23, L, .long x.toInt64 :: st, M) := st_i2l q118_22
theorem q118_23 : pj_row 118 23 = some (.iload_n 2, 1, 0, 0, 0) := by decide +kernel
theorem s118_23 {st : List Value} {M : pj_Mem} {l : pj_Loc} {a0 a1 : Option Value} {x : Int32} : pj_step 118 (23, a0 :: a1 :: some (.int x) :: l, st, M) = some (24, a0 :: a1 :: some (.int x) :: l, .int x :: st, M) := st_iload_n q118_23 rfl
theorem q118_24 : pj_row 118 24 = some (.i2l, 1, 0, 0, 0) := by decide +kernel
theorem s118_24 {L : pj_Loc} {st : List Value} {M : pj_Mem} {x : Int32} : pj_step 118 (24, L, .int x :: st, M) = some (25, L, .long x.toInt64 :: st, M) := st_i2l q118_24
theorem q118_25 : pj_row 118 25 = some (.invokestatic 42, 3, 77, 3, 0) := by decide +kernel
theorem e118_25 {L : pj_Loc} {st : List Value} {N S : Nat} {H : pj_Heap} {o : Option Value × pj_Mem} {M' : pj_Mem} {x0 : Int64} {x1 : Int64} {x2 : Int64} {r : Int32} (h4 : pj_le4 st = true) (h1 : pj_Ends 77 (0, [some (.long x0), none, some (.long x1), none, some (.long x2), none], [], (N, S, H)) (some (.int r), M')) (h2 : pj_Ends 118 (28, L, .int r :: st, M') o) : pj_Ends 118 (25, L, .long x2 :: .long x1 :: .long x0 :: st, (N, S, H)) o := ec_s3 q118_25 (Or.inl rfl) h4 rfl h1 h2
theorem q118_28 : pj_row 118 28 = some (.ifCond .eq 7, 3, 35, 0, 0) := by decide +kernel
theorem s118_28 {L : pj_Loc} {st : List Value} {M : pj_Mem} {x : Int32} : pj_step 118 (28, L, .int x :: st, M) = some (if x = 0 then 35 else 31, L, st, M) := st_if_eq q118_28
theorem q118_31 : pj_row 118 31 = some (.iconst 1, 1, 0, 0, 0) := by decide +kernel
theorem s118_31 {L : pj_Loc} {st : List Value} {M : pj_Mem}  : pj_step 118 (31, L, st, M) = some (32, L, .int 1 :: st, M) := st_iconst q118_31 (by decide +kernel)
theorem q118_32 : pj_row 118 32 = some (.goto 4, 3, 36, 0, 0) := by decide +kernel
theorem s118_32 {L : pj_Loc} {st : List Value} {M : pj_Mem}  : pj_step 118 (32, L, st, M) = some (36, L, st, M) := st_goto q118_32
theorem q118_35 : pj_row 118 35 = some (.iconst 0, 1, 0, 0, 0) := by decide +kernel
theorem s118_35 {L : pj_Loc} {st : List Value} {M : pj_Mem}  : pj_step 118 (35, L, st, M) = some (36, L, .int 0 :: st, M) := st_iconst q118_35 (by decide +kernel)
theorem q118_36 : pj_row 118 36 = some (.ireturn, 1, 0, 0, 0) := by decide +kernel
theorem t118_36 {L : pj_Loc} {M : pj_Mem} {v : Int32} (hv : v = 0 ∨ v = 1) : pj_Ends 118 (36, L, [.int v], M) (some (.int v), M) := pj_Ends.ret q118_36 (pj_rtn_z rt118 hv)
theorem rt119 : pj_rt 119 = some .boolean := rfl
theorem q119_0 : pj_row 119 0 = some (.aload_n 0, 1, 0, 0, 0) := by decide +kernel
theorem s119_0 {st : List Value} {M : pj_Mem} {l : pj_Loc} {x : Nat} : pj_step 119 (0, some (.ref x) :: l, st, M) = some (1, some (.ref x) :: l, .ref x :: st, M) := st_aload_n q119_0 rfl
theorem q119_1 : pj_row 119 1 = some (.bipush 45, 2, 0, 0, 0) := by decide +kernel
theorem s119_1 {L : pj_Loc} {st : List Value} {M : pj_Mem}  : pj_step 119 (1, L, st, M) = some (3, L, .int 45 :: st, M) := st_bipush q119_1 (by decide +kernel)
theorem q119_3 : pj_row 119 3 = some (.invokevirtual 176, 3, 117, 2, 0) := by decide +kernel
theorem e119_3 {L : pj_Loc} {st : List Value} {N S : Nat} {H : pj_Heap} {o : Option Value × pj_Mem} {M' : pj_Mem} {x0 : Nat} {x1 : Int32} {r : Int32} (h4 : pj_le4 st = true) (hu : pj_isU 6 (H x0) = true) (h1 : pj_Ends 117 (0, [some (.ref x0), some (.int x1), none], [], (N, S, H)) (some (.int r), M')) (h2 : pj_Ends 119 (6, L, .int r :: st, M') o) : pj_Ends 119 (3, L, .int x1 :: .ref x0 :: st, (N, S, H)) o := ec_v2 q119_3 (Or.inl rfl) h4 hu rfl h1 h2
theorem q119_6 : pj_row 119 6 = some (.istore_n 1, 1, 0, 0, 0) := by decide +kernel
theorem s119_6 {st : List Value} {M : pj_Mem} {l : pj_Loc} {a0 a1 : Option Value} {x : Int32} (h : pj_long a0 = false) : pj_step 119 (6, a0 :: a1 :: l, .int x :: st, M) = some (7, a0 :: some (.int x) :: l, st, M) := st_istore_n q119_6 (pj_st_1 h)
theorem q119_7 : pj_row 119 7 = some (.aload_n 0, 1, 0, 0, 0) := by decide +kernel
theorem s119_7 {st : List Value} {M : pj_Mem} {l : pj_Loc} {x : Nat} : pj_step 119 (7, some (.ref x) :: l, st, M) = some (8, some (.ref x) :: l, .ref x :: st, M) := st_aload_n q119_7 rfl
theorem q119_8 : pj_row 119 8 = some (.bipush 48, 2, 0, 0, 0) := by decide +kernel
theorem s119_8 {L : pj_Loc} {st : List Value} {M : pj_Mem}  : pj_step 119 (8, L, st, M) = some (10, L, .int 48 :: st, M) := st_bipush q119_8 (by decide +kernel)
theorem q119_10 : pj_row 119 10 = some (.bipush 57, 2, 0, 0, 0) := by decide +kernel
theorem s119_10 {L : pj_Loc} {st : List Value} {M : pj_Mem}  : pj_step 119 (10, L, st, M) = some (12, L, .int 57 :: st, M) := st_bipush q119_10 (by decide +kernel)
theorem q119_12 : pj_row 119 12 = some (.invokevirtual 173, 3, 118, 3, 0) := by decide +kernel
theorem e119_12 {L : pj_Loc} {st : List Value} {N S : Nat} {H : pj_Heap} {o : Option Value × pj_Mem} {M' : pj_Mem} {x0 : Nat} {x1 : Int32} {x2 : Int32} {r : Int32} (h4 : pj_le4 st = true) (hu : pj_isU 6 (H x0) = true) (h1 : pj_Ends 118 (0, [some (.ref x0), some (.int x1), some (.int x2)], [], (N, S, H)) (some (.int r), M')) (h2 : pj_Ends 119 (15, L, .int r :: st, M') o) : pj_Ends 119 (12, L, .int x2 :: .int x1 :: .ref x0 :: st, (N, S, H)) o := ec_v3 q119_12 (Or.inl rfl) h4 hu rfl h1 h2
theorem q119_15 : pj_row 119 15 = some (.ifCond .ne 5, 3, 20, 0, 0) := by decide +kernel
theorem s119_15 {L : pj_Loc} {st : List Value} {M : pj_Mem} {x : Int32} : pj_step 119 (15, L, .int x :: st, M) = some (if ¬ x = 0 then 20 else 18, L, st, M) := st_if_ne q119_15
theorem q119_18 : pj_row 119 18 = some (.iconst 0, 1, 0, 0, 0) := by decide +kernel
theorem s119_18 {L : pj_Loc} {st : List Value} {M : pj_Mem}  : pj_step 119 (18, L, st, M) = some (19, L, .int 0 :: st, M) := st_iconst q119_18 (by decide +kernel)
theorem q119_19 : pj_row 119 19 = some (.ireturn, 1, 0, 0, 0) := by decide +kernel
theorem t119_19 {L : pj_Loc} {M : pj_Mem} {v : Int32} (hv : v = 0 ∨ v = 1) : pj_Ends 119 (19, L, [.int v], M) (some (.int v), M) := pj_Ends.ret q119_19 (pj_rtn_z rt119 hv)
theorem q119_20 : pj_row 119 20 = some (.aload_n 0, 1, 0, 0, 0) := by decide +kernel
theorem s119_20 {st : List Value} {M : pj_Mem} {l : pj_Loc} {x : Nat} : pj_step 119 (20, some (.ref x) :: l, st, M) = some (21, some (.ref x) :: l, .ref x :: st, M) := st_aload_n q119_20 rfl
theorem q119_21 : pj_row 119 21 = some (.aload_n 0, 1, 0, 0, 0) := by decide +kernel
theorem s119_21 {st : List Value} {M : pj_Mem} {l : pj_Loc} {x : Nat} : pj_step 119 (21, some (.ref x) :: l, st, M) = some (22, some (.ref x) :: l, .ref x :: st, M) := st_aload_n q119_21 rfl
theorem q119_22 : pj_row 119 22 = some (.getfield 31, 3, 6, 12, 0) := by decide +kernel
theorem s119_22 {L : pj_Loc} {st : List Value} {N S : Nat} {H : pj_Heap} {o : Nat} : pj_step 119 (22, L, .ref o :: st, (N, S, H)) = pj_pv 25 L st (N, S, H) (pj_fld (H o) 6 12) := st_getfield q119_22
theorem q119_25 : pj_row 119 25 = some (.aload_n 0, 1, 0, 0, 0) := by decide +kernel
theorem s119_25 {st : List Value} {M : pj_Mem} {l : pj_Loc} {x : Nat} : pj_step 119 (25, some (.ref x) :: l, st, M) = some (26, some (.ref x) :: l, .ref x :: st, M) := st_aload_n q119_25 rfl
theorem q119_26 : pj_row 119 26 = some (.getfield 170, 3, 6, 14, 0) := by decide +kernel
theorem s119_26 {L : pj_Loc} {st : List Value} {N S : Nat} {H : pj_Heap} {o : Nat} : pj_step 119 (26, L, .ref o :: st, (N, S, H)) = pj_pv 29 L st (N, S, H) (pj_fld (H o) 6 14) := st_getfield q119_26
theorem q119_29 : pj_row 119 29 = some (.iaload, 1, 0, 0, 0) := by decide +kernel
theorem s119_29 {L : pj_Loc} {st : List Value} {N S : Nat} {H : pj_Heap} {o : Nat} {i : Int32} : pj_step 119 (29, L, .int i :: .ref o :: st, (N, S, H)) = pj_pi 30 L st (N, S, H) (pj_arl (H o) 0 i) := st_iaload q119_29
theorem q119_30 : pj_row 119 30 = some (.bipush 48, 2, 0, 0, 0) := by decide +kernel
theorem s119_30 {L : pj_Loc} {st : List Value} {M : pj_Mem}  : pj_step 119 (30, L, st, M) = some (32, L, .int 48 :: st, M) := st_bipush q119_30 (by decide +kernel)
theorem q119_32 : pj_row 119 32 = some (.isub, 1, 0, 0, 0) := by decide +kernel
theorem s119_32 {L : pj_Loc} {st : List Value} {M : pj_Mem} {x y : Int32} : pj_step 119 (32, L, .int y :: .int x :: st, M) = some (33, L, .int (x - y) :: st, M) := st_isub q119_32
theorem q119_33 : pj_row 119 33 = some (.putfield 179, 3, 6, 15, 0) := by decide +kernel
theorem s119_33 {L : pj_Loc} {st : List Value} {N S : Nat} {H : pj_Heap} {o : Nat} {v : Value} : pj_step 119 (33, L, v :: .ref o :: st, (N, S, H)) = pj_set 36 L st (N, S, H) o (pj_fset (H o) 6 15 v) := st_putfield q119_33
theorem q119_36 : pj_row 119 36 = some (.aload_n 0, 1, 0, 0, 0) := by decide +kernel
theorem s119_36 {st : List Value} {M : pj_Mem} {l : pj_Loc} {x : Nat} : pj_step 119 (36, some (.ref x) :: l, st, M) = some (37, some (.ref x) :: l, .ref x :: st, M) := st_aload_n q119_36 rfl
theorem q119_37 : pj_row 119 37 = some (.dup, 1, 0, 0, 0) := by decide +kernel
theorem s119_37 {L : pj_Loc} {st : List Value} {M : pj_Mem} {x : Nat} : pj_step 119 (37, L, .ref x :: st, M) = some (38, L, .ref x :: .ref x :: st, M) := st_dup_ref q119_37
theorem s119_37i {L : pj_Loc} {st : List Value} {M : pj_Mem} {x : Int32} : pj_step 119 (37, L, .int x :: st, M) = some (38, L, .int x :: .int x :: st, M) := st_dup_int q119_37
theorem q119_38 : pj_row 119 38 = some (.getfield 170, 3, 6, 14, 0) := by decide +kernel
theorem s119_38 {L : pj_Loc} {st : List Value} {N S : Nat} {H : pj_Heap} {o : Nat} : pj_step 119 (38, L, .ref o :: st, (N, S, H)) = pj_pv 41 L st (N, S, H) (pj_fld (H o) 6 14) := st_getfield q119_38
theorem q119_41 : pj_row 119 41 = some (.iconst 1, 1, 0, 0, 0) := by decide +kernel
theorem s119_41 {L : pj_Loc} {st : List Value} {M : pj_Mem}  : pj_step 119 (41, L, st, M) = some (42, L, .int 1 :: st, M) := st_iconst q119_41 (by decide +kernel)
theorem q119_42 : pj_row 119 42 = some (.iadd, 1, 0, 0, 0) := by decide +kernel
theorem s119_42 {L : pj_Loc} {st : List Value} {M : pj_Mem} {x y : Int32} : pj_step 119 (42, L, .int y :: .int x :: st, M) = some (43, L, .int (x + y) :: st, M) := st_iadd q119_42
theorem q119_43 : pj_row 119 43 = some (.putfield 170, 3, 6, 14, 0) := by decide +kernel
theorem s119_43 {L : pj_Loc} {st : List Value} {N S : Nat} {H : pj_Heap} {o : Nat} {v : Value} : pj_step 119 (43, L, v :: .ref o :: st, (N, S, H)) = pj_set 46 L st (N, S, H) o (pj_fset (H o) 6 14 v) := st_putfield q119_43
theorem q119_46 : pj_row 119 46 = some (.aload_n 0, 1, 0, 0, 0) := by decide +kernel
theorem s119_46 {st : List Value} {M : pj_Mem} {l : pj_Loc} {x : Nat} : pj_step 119 (46, some (.ref x) :: l, st, M) = some (47, some (.ref x) :: l, .ref x :: st, M) := st_aload_n q119_46 rfl
theorem q119_47 : pj_row 119 47 = some (.getfield 179, 3, 6, 15, 0) := by decide +kernel
theorem s119_47 {L : pj_Loc} {st : List Value} {N S : Nat} {H : pj_Heap} {o : Nat} : pj_step 119 (47, L, .ref o :: st, (N, S, H)) = pj_pv 50 L st (N, S, H) (pj_fld (H o) 6 15) := st_getfield q119_47
theorem q119_50 : pj_row 119 50 = some (.ifCond .le 77, 3, 127, 0, 0) := by decide +kernel
theorem s119_50 {L : pj_Loc} {st : List Value} {M : pj_Mem} {x : Int32} : pj_step 119 (50, L, .int x :: st, M) = some (if x ≤ 0 then 127 else 53, L, st, M) := st_if_le q119_50
theorem q119_53 : pj_row 119 53 = some (.aload_n 0, 1, 0, 0, 0) := by decide +kernel
theorem s119_53 {st : List Value} {M : pj_Mem} {l : pj_Loc} {x : Nat} : pj_step 119 (53, some (.ref x) :: l, st, M) = some (54, some (.ref x) :: l, .ref x :: st, M) := st_aload_n q119_53 rfl
theorem q119_54 : pj_row 119 54 = some (.bipush 48, 2, 0, 0, 0) := by decide +kernel
theorem s119_54 {L : pj_Loc} {st : List Value} {M : pj_Mem}  : pj_step 119 (54, L, st, M) = some (56, L, .int 48 :: st, M) := st_bipush q119_54 (by decide +kernel)
theorem q119_56 : pj_row 119 56 = some (.bipush 57, 2, 0, 0, 0) := by decide +kernel
theorem s119_56 {L : pj_Loc} {st : List Value} {M : pj_Mem}  : pj_step 119 (56, L, st, M) = some (58, L, .int 57 :: st, M) := st_bipush q119_56 (by decide +kernel)
theorem q119_58 : pj_row 119 58 = some (.invokevirtual 173, 3, 118, 3, 0) := by decide +kernel
theorem e119_58 {L : pj_Loc} {st : List Value} {N S : Nat} {H : pj_Heap} {o : Option Value × pj_Mem} {M' : pj_Mem} {x0 : Nat} {x1 : Int32} {x2 : Int32} {r : Int32} (h4 : pj_le4 st = true) (hu : pj_isU 6 (H x0) = true) (h1 : pj_Ends 118 (0, [some (.ref x0), some (.int x1), some (.int x2)], [], (N, S, H)) (some (.int r), M')) (h2 : pj_Ends 119 (61, L, .int r :: st, M') o) : pj_Ends 119 (58, L, .int x2 :: .int x1 :: .ref x0 :: st, (N, S, H)) o := ec_v3 q119_58 (Or.inl rfl) h4 hu rfl h1 h2
theorem q119_61 : pj_row 119 61 = some (.ifCond .eq 66, 3, 127, 0, 0) := by decide +kernel
theorem s119_61 {L : pj_Loc} {st : List Value} {M : pj_Mem} {x : Int32} : pj_step 119 (61, L, .int x :: st, M) = some (if x = 0 then 127 else 64, L, st, M) := st_if_eq q119_61
theorem q119_64 : pj_row 119 64 = some (.bipush 10, 2, 0, 0, 0) := by decide +kernel
theorem s119_64 {L : pj_Loc} {st : List Value} {M : pj_Mem}  : pj_step 119 (64, L, st, M) = some (66, L, .int 10 :: st, M) := st_bipush q119_64 (by decide +kernel)
theorem q119_66 : pj_row 119 66 = some (.aload_n 0, 1, 0, 0, 0) := by decide +kernel
theorem s119_66 {st : List Value} {M : pj_Mem} {l : pj_Loc} {x : Nat} : pj_step 119 (66, some (.ref x) :: l, st, M) = some (67, some (.ref x) :: l, .ref x :: st, M) := st_aload_n q119_66 rfl
theorem q119_67 : pj_row 119 67 = some (.getfield 179, 3, 6, 15, 0) := by decide +kernel
theorem s119_67 {L : pj_Loc} {st : List Value} {N S : Nat} {H : pj_Heap} {o : Nat} : pj_step 119 (67, L, .ref o :: st, (N, S, H)) = pj_pv 70 L st (N, S, H) (pj_fld (H o) 6 15) := st_getfield q119_67
theorem q119_70 : pj_row 119 70 = some (.imul, 1, 0, 0, 0) := by decide +kernel
theorem s119_70 {L : pj_Loc} {st : List Value} {M : pj_Mem} {x y : Int32} : pj_step 119 (70, L, .int y :: .int x :: st, M) = some (71, L, .int (x * y) :: st, M) := st_imul q119_70
theorem q119_71 : pj_row 119 71 = some (.aload_n 0, 1, 0, 0, 0) := by decide +kernel
theorem s119_71 {st : List Value} {M : pj_Mem} {l : pj_Loc} {x : Nat} : pj_step 119 (71, some (.ref x) :: l, st, M) = some (72, some (.ref x) :: l, .ref x :: st, M) := st_aload_n q119_71 rfl
theorem q119_72 : pj_row 119 72 = some (.getfield 31, 3, 6, 12, 0) := by decide +kernel
theorem s119_72 {L : pj_Loc} {st : List Value} {N S : Nat} {H : pj_Heap} {o : Nat} : pj_step 119 (72, L, .ref o :: st, (N, S, H)) = pj_pv 75 L st (N, S, H) (pj_fld (H o) 6 12) := st_getfield q119_72
theorem q119_75 : pj_row 119 75 = some (.aload_n 0, 1, 0, 0, 0) := by decide +kernel
theorem s119_75 {st : List Value} {M : pj_Mem} {l : pj_Loc} {x : Nat} : pj_step 119 (75, some (.ref x) :: l, st, M) = some (76, some (.ref x) :: l, .ref x :: st, M) := st_aload_n q119_75 rfl
theorem q119_76 : pj_row 119 76 = some (.getfield 170, 3, 6, 14, 0) := by decide +kernel
theorem s119_76 {L : pj_Loc} {st : List Value} {N S : Nat} {H : pj_Heap} {o : Nat} : pj_step 119 (76, L, .ref o :: st, (N, S, H)) = pj_pv 79 L st (N, S, H) (pj_fld (H o) 6 14) := st_getfield q119_76
theorem q119_79 : pj_row 119 79 = some (.iaload, 1, 0, 0, 0) := by decide +kernel
theorem s119_79 {L : pj_Loc} {st : List Value} {N S : Nat} {H : pj_Heap} {o : Nat} {i : Int32} : pj_step 119 (79, L, .int i :: .ref o :: st, (N, S, H)) = pj_pi 80 L st (N, S, H) (pj_arl (H o) 0 i) := st_iaload q119_79
theorem q119_80 : pj_row 119 80 = some (.iadd, 1, 0, 0, 0) := by decide +kernel
theorem s119_80 {L : pj_Loc} {st : List Value} {M : pj_Mem} {x y : Int32} : pj_step 119 (80, L, .int y :: .int x :: st, M) = some (81, L, .int (x + y) :: st, M) := st_iadd q119_80
theorem q119_81 : pj_row 119 81 = some (.bipush 48, 2, 0, 0, 0) := by decide +kernel
theorem s119_81 {L : pj_Loc} {st : List Value} {M : pj_Mem}  : pj_step 119 (81, L, st, M) = some (83, L, .int 48 :: st, M) := st_bipush q119_81 (by decide +kernel)
theorem q119_83 : pj_row 119 83 = some (.isub, 1, 0, 0, 0) := by decide +kernel
theorem s119_83 {L : pj_Loc} {st : List Value} {M : pj_Mem} {x y : Int32} : pj_step 119 (83, L, .int y :: .int x :: st, M) = some (84, L, .int (x - y) :: st, M) := st_isub q119_83
theorem q119_84 : pj_row 119 84 = some (.sipush 500, 3, 0, 0, 0) := by decide +kernel
theorem s119_84 {L : pj_Loc} {st : List Value} {M : pj_Mem}  : pj_step 119 (84, L, st, M) = some (87, L, .int 500 :: st, M) := st_sipush q119_84 (by decide +kernel)
theorem q119_87 : pj_row 119 87 = some (.if_icmp .gt 40, 3, 127, 0, 0) := by decide +kernel
theorem s119_87 {L : pj_Loc} {st : List Value} {M : pj_Mem} {x y : Int32} : pj_step 119 (87, L, .int y :: .int x :: st, M) = some (if y < x then 127 else 90, L, st, M) := st_icmp_gt q119_87
theorem q119_90 : pj_row 119 90 = some (.aload_n 0, 1, 0, 0, 0) := by decide +kernel
theorem s119_90 {st : List Value} {M : pj_Mem} {l : pj_Loc} {x : Nat} : pj_step 119 (90, some (.ref x) :: l, st, M) = some (91, some (.ref x) :: l, .ref x :: st, M) := st_aload_n q119_90 rfl
theorem q119_91 : pj_row 119 91 = some (.bipush 10, 2, 0, 0, 0) := by decide +kernel
theorem s119_91 {L : pj_Loc} {st : List Value} {M : pj_Mem}  : pj_step 119 (91, L, st, M) = some (93, L, .int 10 :: st, M) := st_bipush q119_91 (by decide +kernel)
theorem q119_93 : pj_row 119 93 = some (.aload_n 0, 1, 0, 0, 0) := by decide +kernel
theorem s119_93 {st : List Value} {M : pj_Mem} {l : pj_Loc} {x : Nat} : pj_step 119 (93, some (.ref x) :: l, st, M) = some (94, some (.ref x) :: l, .ref x :: st, M) := st_aload_n q119_93 rfl
theorem q119_94 : pj_row 119 94 = some (.getfield 179, 3, 6, 15, 0) := by decide +kernel
theorem s119_94 {L : pj_Loc} {st : List Value} {N S : Nat} {H : pj_Heap} {o : Nat} : pj_step 119 (94, L, .ref o :: st, (N, S, H)) = pj_pv 97 L st (N, S, H) (pj_fld (H o) 6 15) := st_getfield q119_94
theorem q119_97 : pj_row 119 97 = some (.imul, 1, 0, 0, 0) := by decide +kernel
theorem s119_97 {L : pj_Loc} {st : List Value} {M : pj_Mem} {x y : Int32} : pj_step 119 (97, L, .int y :: .int x :: st, M) = some (98, L, .int (x * y) :: st, M) := st_imul q119_97
theorem q119_98 : pj_row 119 98 = some (.aload_n 0, 1, 0, 0, 0) := by decide +kernel
theorem s119_98 {st : List Value} {M : pj_Mem} {l : pj_Loc} {x : Nat} : pj_step 119 (98, some (.ref x) :: l, st, M) = some (99, some (.ref x) :: l, .ref x :: st, M) := st_aload_n q119_98 rfl
theorem q119_99 : pj_row 119 99 = some (.getfield 31, 3, 6, 12, 0) := by decide +kernel
theorem s119_99 {L : pj_Loc} {st : List Value} {N S : Nat} {H : pj_Heap} {o : Nat} : pj_step 119 (99, L, .ref o :: st, (N, S, H)) = pj_pv 102 L st (N, S, H) (pj_fld (H o) 6 12) := st_getfield q119_99
theorem q119_102 : pj_row 119 102 = some (.aload_n 0, 1, 0, 0, 0) := by decide +kernel
theorem s119_102 {st : List Value} {M : pj_Mem} {l : pj_Loc} {x : Nat} : pj_step 119 (102, some (.ref x) :: l, st, M) = some (103, some (.ref x) :: l, .ref x :: st, M) := st_aload_n q119_102 rfl
theorem q119_103 : pj_row 119 103 = some (.getfield 170, 3, 6, 14, 0) := by decide +kernel
theorem s119_103 {L : pj_Loc} {st : List Value} {N S : Nat} {H : pj_Heap} {o : Nat} : pj_step 119 (103, L, .ref o :: st, (N, S, H)) = pj_pv 106 L st (N, S, H) (pj_fld (H o) 6 14) := st_getfield q119_103
theorem q119_106 : pj_row 119 106 = some (.iaload, 1, 0, 0, 0) := by decide +kernel
theorem s119_106 {L : pj_Loc} {st : List Value} {N S : Nat} {H : pj_Heap} {o : Nat} {i : Int32} : pj_step 119 (106, L, .int i :: .ref o :: st, (N, S, H)) = pj_pi 107 L st (N, S, H) (pj_arl (H o) 0 i) := st_iaload q119_106
theorem q119_107 : pj_row 119 107 = some (.iadd, 1, 0, 0, 0) := by decide +kernel
theorem s119_107 {L : pj_Loc} {st : List Value} {M : pj_Mem} {x y : Int32} : pj_step 119 (107, L, .int y :: .int x :: st, M) = some (108, L, .int (x + y) :: st, M) := st_iadd q119_107
theorem q119_108 : pj_row 119 108 = some (.bipush 48, 2, 0, 0, 0) := by decide +kernel
theorem s119_108 {L : pj_Loc} {st : List Value} {M : pj_Mem}  : pj_step 119 (108, L, st, M) = some (110, L, .int 48 :: st, M) := st_bipush q119_108 (by decide +kernel)
theorem q119_110 : pj_row 119 110 = some (.isub, 1, 0, 0, 0) := by decide +kernel
theorem s119_110 {L : pj_Loc} {st : List Value} {M : pj_Mem} {x y : Int32} : pj_step 119 (110, L, .int y :: .int x :: st, M) = some (111, L, .int (x - y) :: st, M) := st_isub q119_110
theorem q119_111 : pj_row 119 111 = some (.putfield 179, 3, 6, 15, 0) := by decide +kernel
theorem s119_111 {L : pj_Loc} {st : List Value} {N S : Nat} {H : pj_Heap} {o : Nat} {v : Value} : pj_step 119 (111, L, v :: .ref o :: st, (N, S, H)) = pj_set 114 L st (N, S, H) o (pj_fset (H o) 6 15 v) := st_putfield q119_111
theorem q119_114 : pj_row 119 114 = some (.aload_n 0, 1, 0, 0, 0) := by decide +kernel
theorem s119_114 {st : List Value} {M : pj_Mem} {l : pj_Loc} {x : Nat} : pj_step 119 (114, some (.ref x) :: l, st, M) = some (115, some (.ref x) :: l, .ref x :: st, M) := st_aload_n q119_114 rfl
theorem q119_115 : pj_row 119 115 = some (.dup, 1, 0, 0, 0) := by decide +kernel
theorem s119_115 {L : pj_Loc} {st : List Value} {M : pj_Mem} {x : Nat} : pj_step 119 (115, L, .ref x :: st, M) = some (116, L, .ref x :: .ref x :: st, M) := st_dup_ref q119_115
theorem s119_115i {L : pj_Loc} {st : List Value} {M : pj_Mem} {x : Int32} : pj_step 119 (115, L, .int x :: st, M) = some (116, L, .int x :: .int x :: st, M) := st_dup_int q119_115
theorem q119_116 : pj_row 119 116 = some (.getfield 170, 3, 6, 14, 0) := by decide +kernel
theorem s119_116 {L : pj_Loc} {st : List Value} {N S : Nat} {H : pj_Heap} {o : Nat} : pj_step 119 (116, L, .ref o :: st, (N, S, H)) = pj_pv 119 L st (N, S, H) (pj_fld (H o) 6 14) := st_getfield q119_116
theorem q119_119 : pj_row 119 119 = some (.iconst 1, 1, 0, 0, 0) := by decide +kernel
theorem s119_119 {L : pj_Loc} {st : List Value} {M : pj_Mem}  : pj_step 119 (119, L, st, M) = some (120, L, .int 1 :: st, M) := st_iconst q119_119 (by decide +kernel)
theorem q119_120 : pj_row 119 120 = some (.iadd, 1, 0, 0, 0) := by decide +kernel
theorem s119_120 {L : pj_Loc} {st : List Value} {M : pj_Mem} {x y : Int32} : pj_step 119 (120, L, .int y :: .int x :: st, M) = some (121, L, .int (x + y) :: st, M) := st_iadd q119_120
theorem q119_121 : pj_row 119 121 = some (.putfield 170, 3, 6, 14, 0) := by decide +kernel
theorem s119_121 {L : pj_Loc} {st : List Value} {N S : Nat} {H : pj_Heap} {o : Nat} {v : Value} : pj_step 119 (121, L, v :: .ref o :: st, (N, S, H)) = pj_set 124 L st (N, S, H) o (pj_fset (H o) 6 14 v) := st_putfield q119_121
theorem q119_124 : pj_row 119 124 = some (.goto (-78), 3, 46, 0, 0) := by decide +kernel
theorem s119_124 {L : pj_Loc} {st : List Value} {M : pj_Mem}  : pj_step 119 (124, L, st, M) = some (46, L, st, M) := st_goto q119_124
theorem q119_127 : pj_row 119 127 = some (.aload_n 0, 1, 0, 0, 0) := by decide +kernel
theorem s119_127 {st : List Value} {M : pj_Mem} {l : pj_Loc} {x : Nat} : pj_step 119 (127, some (.ref x) :: l, st, M) = some (128, some (.ref x) :: l, .ref x :: st, M) := st_aload_n q119_127 rfl
theorem q119_128 : pj_row 119 128 = some (.iload_n 1, 1, 0, 0, 0) := by decide +kernel
theorem s119_128 {st : List Value} {M : pj_Mem} {l : pj_Loc} {a0 : Option Value} {x : Int32} : pj_step 119 (128, a0 :: some (.int x) :: l, st, M) = some (129, a0 :: some (.int x) :: l, .int x :: st, M) := st_iload_n q119_128 rfl
theorem q119_129 : pj_row 119 129 = some (.ifCond .eq 11, 3, 140, 0, 0) := by decide +kernel
theorem s119_129 {L : pj_Loc} {st : List Value} {M : pj_Mem} {x : Int32} : pj_step 119 (129, L, .int x :: st, M) = some (if x = 0 then 140 else 132, L, st, M) := st_if_eq q119_129
theorem q119_132 : pj_row 119 132 = some (.aload_n 0, 1, 0, 0, 0) := by decide +kernel
theorem s119_132 {st : List Value} {M : pj_Mem} {l : pj_Loc} {x : Nat} : pj_step 119 (132, some (.ref x) :: l, st, M) = some (133, some (.ref x) :: l, .ref x :: st, M) := st_aload_n q119_132 rfl
theorem q119_133 : pj_row 119 133 = some (.getfield 179, 3, 6, 15, 0) := by decide +kernel
theorem s119_133 {L : pj_Loc} {st : List Value} {N S : Nat} {H : pj_Heap} {o : Nat} : pj_step 119 (133, L, .ref o :: st, (N, S, H)) = pj_pv 136 L st (N, S, H) (pj_fld (H o) 6 15) := st_getfield q119_133
theorem q119_136 : pj_row 119 136 = some (.ineg, 1, 0, 0, 0) := by decide +kernel
theorem s119_136 {L : pj_Loc} {st : List Value} {M : pj_Mem} {x : Int32} : pj_step 119 (136, L, .int x :: st, M) = some (137, L, .int (-x) :: st, M) := st_ineg q119_136
theorem q119_137 : pj_row 119 137 = some (.goto 7, 3, 144, 0, 0) := by decide +kernel
theorem s119_137 {L : pj_Loc} {st : List Value} {M : pj_Mem}  : pj_step 119 (137, L, st, M) = some (144, L, st, M) := st_goto q119_137
theorem q119_140 : pj_row 119 140 = some (.aload_n 0, 1, 0, 0, 0) := by decide +kernel
theorem s119_140 {st : List Value} {M : pj_Mem} {l : pj_Loc} {x : Nat} : pj_step 119 (140, some (.ref x) :: l, st, M) = some (141, some (.ref x) :: l, .ref x :: st, M) := st_aload_n q119_140 rfl
theorem q119_141 : pj_row 119 141 = some (.getfield 179, 3, 6, 15, 0) := by decide +kernel
theorem s119_141 {L : pj_Loc} {st : List Value} {N S : Nat} {H : pj_Heap} {o : Nat} : pj_step 119 (141, L, .ref o :: st, (N, S, H)) = pj_pv 144 L st (N, S, H) (pj_fld (H o) 6 15) := st_getfield q119_141
theorem q119_144 : pj_row 119 144 = some (.putfield 179, 3, 6, 15, 0) := by decide +kernel
theorem s119_144 {L : pj_Loc} {st : List Value} {N S : Nat} {H : pj_Heap} {o : Nat} {v : Value} : pj_step 119 (144, L, v :: .ref o :: st, (N, S, H)) = pj_set 147 L st (N, S, H) o (pj_fset (H o) 6 15 v) := st_putfield q119_144
theorem q119_147 : pj_row 119 147 = some (.iconst 1, 1, 0, 0, 0) := by decide +kernel
theorem s119_147 {L : pj_Loc} {st : List Value} {M : pj_Mem}  : pj_step 119 (147, L, st, M) = some (148, L, .int 1 :: st, M) := st_iconst q119_147 (by decide +kernel)
theorem q119_148 : pj_row 119 148 = some (.ireturn, 1, 0, 0, 0) := by decide +kernel
theorem t119_148 {L : pj_Loc} {M : pj_Mem} {v : Int32} (hv : v = 0 ∨ v = 1) : pj_Ends 119 (148, L, [.int v], M) (some (.int v), M) := pj_Ends.ret q119_148 (pj_rtn_z rt119 hv)
theorem rt120 : pj_rt 120 = some .int := rfl
theorem q120_0 : pj_row 120 0 = some (.aload_n 0, 1, 0, 0, 0) := by decide +kernel
theorem s120_0 {st : List Value} {M : pj_Mem} {l : pj_Loc} {x : Nat} : pj_step 120 (0, some (.ref x) :: l, st, M) = some (1, some (.ref x) :: l, .ref x :: st, M) := st_aload_n q120_0 rfl
theorem q120_1 : pj_row 120 1 = some (.invokevirtual 195, 3, 115, 1, 0) := by decide +kernel
theorem e120_1 {L : pj_Loc} {st : List Value} {N S : Nat} {H : pj_Heap} {o : Option Value × pj_Mem} {M' : pj_Mem} {x0 : Nat} {r : Int32} (h4 : pj_le4 st = true) (hu : pj_isU 6 (H x0) = true) (h1 : pj_Ends 115 (0, [some (.ref x0), none], [], (N, S, H)) (some (.int r), M')) (h2 : pj_Ends 120 (4, L, .int r :: st, M') o) : pj_Ends 120 (1, L, .ref x0 :: st, (N, S, H)) o := ec_v1 q120_1 (Or.inl rfl) h4 hu rfl h1 h2
theorem q120_4 : pj_row 120 4 = some (.bipush (-6), 2, 0, 0, 0) := by decide +kernel
theorem s120_4 {L : pj_Loc} {st : List Value} {M : pj_Mem}  : pj_step 120 (4, L, st, M) = some (6, L, .int (-6) :: st, M) := st_bipush q120_4 (by decide +kernel)
theorem q120_6 : pj_row 120 6 = some (.if_icmp .eq 6, 3, 12, 0, 0) := by decide +kernel
theorem s120_6 {L : pj_Loc} {st : List Value} {M : pj_Mem} {x y : Int32} : pj_step 120 (6, L, .int y :: .int x :: st, M) = some (if x = y then 12 else 9, L, st, M) := st_icmp_eq q120_6
theorem q120_9 : pj_row 120 9 = some (.bipush (-3), 2, 0, 0, 0) := by decide +kernel
theorem s120_9 {L : pj_Loc} {st : List Value} {M : pj_Mem}  : pj_step 120 (9, L, st, M) = some (11, L, .int (-3) :: st, M) := st_bipush q120_9 (by decide +kernel)
theorem q120_11 : pj_row 120 11 = some (.ireturn, 1, 0, 0, 0) := by decide +kernel
theorem t120_11 {L : pj_Loc} {M : pj_Mem} {v : Int32} : pj_Ends 120 (11, L, [.int v], M) (some (.int v), M) := pj_Ends.ret q120_11 (pj_rtn_i rt120)
theorem q120_12 : pj_row 120 12 = some (.aload_n 0, 1, 0, 0, 0) := by decide +kernel
theorem s120_12 {st : List Value} {M : pj_Mem} {l : pj_Loc} {x : Nat} : pj_step 120 (12, some (.ref x) :: l, st, M) = some (13, some (.ref x) :: l, .ref x :: st, M) := st_aload_n q120_12 rfl
theorem q120_13 : pj_row 120 13 = some (.getfield 7, 3, 6, 0, 0) := by decide +kernel
theorem s120_13 {L : pj_Loc} {st : List Value} {N S : Nat} {H : pj_Heap} {o : Nat} : pj_step 120 (13, L, .ref o :: st, (N, S, H)) = pj_pv 16 L st (N, S, H) (pj_fld (H o) 6 0) := st_getfield q120_13
theorem q120_16 : pj_row 120 16 = some (.bipush 6, 2, 0, 0, 0) := by decide +kernel
theorem s120_16 {L : pj_Loc} {st : List Value} {M : pj_Mem}  : pj_step 120 (16, L, st, M) = some (18, L, .int 6 :: st, M) := st_bipush q120_16 (by decide +kernel)
theorem q120_18 : pj_row 120 18 = some (.iaload, 1, 0, 0, 0) := by decide +kernel
theorem s120_18 {L : pj_Loc} {st : List Value} {N S : Nat} {H : pj_Heap} {o : Nat} {i : Int32} : pj_step 120 (18, L, .int i :: .ref o :: st, (N, S, H)) = pj_pi 19 L st (N, S, H) (pj_arl (H o) 0 i) := st_iaload q120_18
theorem q120_19 : pj_row 120 19 = some (.aload_n 0, 1, 0, 0, 0) := by decide +kernel
theorem s120_19 {st : List Value} {M : pj_Mem} {l : pj_Loc} {x : Nat} : pj_step 120 (19, some (.ref x) :: l, st, M) = some (20, some (.ref x) :: l, .ref x :: st, M) := st_aload_n q120_19 rfl
theorem q120_20 : pj_row 120 20 = some (.getfield 189, 3, 6, 17, 0) := by decide +kernel
theorem s120_20 {L : pj_Loc} {st : List Value} {N S : Nat} {H : pj_Heap} {o : Nat} : pj_step 120 (20, L, .ref o :: st, (N, S, H)) = pj_pv 23 L st (N, S, H) (pj_fld (H o) 6 17) := st_getfield q120_20
theorem q120_23 : pj_row 120 23 = some (.iadd, 1, 0, 0, 0) := by decide +kernel
theorem s120_23 {L : pj_Loc} {st : List Value} {M : pj_Mem} {x y : Int32} : pj_step 120 (23, L, .int y :: .int x :: st, M) = some (24, L, .int (x + y) :: st, M) := st_iadd q120_23
theorem q120_24 : pj_row 120 24 = some (.ldc 81, 2, 0, 0, 100000) := by decide +kernel
theorem s120_24 {L : pj_Loc} {st : List Value} {M : pj_Mem}  : pj_step 120 (24, L, st, M) = some (26, L, .int 100000 :: st, M) := st_ldc q120_24 (by decide +kernel)
theorem q120_26 : pj_row 120 26 = some (.if_icmp .le 6, 3, 32, 0, 0) := by decide +kernel
theorem s120_26 {L : pj_Loc} {st : List Value} {M : pj_Mem} {x y : Int32} : pj_step 120 (26, L, .int y :: .int x :: st, M) = some (if x ≤ y then 32 else 29, L, st, M) := st_icmp_le q120_26
theorem q120_29 : pj_row 120 29 = some (.bipush (-4), 2, 0, 0, 0) := by decide +kernel
theorem s120_29 {L : pj_Loc} {st : List Value} {M : pj_Mem}  : pj_step 120 (29, L, st, M) = some (31, L, .int (-4) :: st, M) := st_bipush q120_29 (by decide +kernel)
theorem q120_31 : pj_row 120 31 = some (.ireturn, 1, 0, 0, 0) := by decide +kernel
theorem t120_31 {L : pj_Loc} {M : pj_Mem} {v : Int32} : pj_Ends 120 (31, L, [.int v], M) (some (.int v), M) := pj_Ends.ret q120_31 (pj_rtn_i rt120)
theorem q120_32 : pj_row 120 32 = some (.aload_n 0, 1, 0, 0, 0) := by decide +kernel
theorem s120_32 {st : List Value} {M : pj_Mem} {l : pj_Loc} {x : Nat} : pj_step 120 (32, some (.ref x) :: l, st, M) = some (33, some (.ref x) :: l, .ref x :: st, M) := st_aload_n q120_32 rfl
theorem q120_33 : pj_row 120 33 = some (.invokevirtual 121, 3, 78, 1, 0) := by decide +kernel
theorem e120_33 {L : pj_Loc} {st : List Value} {N S : Nat} {H : pj_Heap} {o : Option Value × pj_Mem} {M' : pj_Mem} {x0 : Nat} (h4 : pj_le4 st = true) (hu : pj_isU 6 (H x0) = true) (h1 : pj_Ends 78 (0, [some (.ref x0), none], [], (N, S, H)) (none, M')) (h2 : pj_Ends 120 (36, L, st, M') o) : pj_Ends 120 (33, L, .ref x0 :: st, (N, S, H)) o := ec_v1 q120_33 (Or.inl rfl) h4 hu rfl h1 h2
theorem q120_36 : pj_row 120 36 = some (.aload_n 0, 1, 0, 0, 0) := by decide +kernel
theorem s120_36 {st : List Value} {M : pj_Mem} {l : pj_Loc} {x : Nat} : pj_step 120 (36, some (.ref x) :: l, st, M) = some (37, some (.ref x) :: l, .ref x :: st, M) := st_aload_n q120_36 rfl
theorem q120_37 : pj_row 120 37 = some (.iconst 0, 1, 0, 0, 0) := by decide +kernel
theorem s120_37 {L : pj_Loc} {st : List Value} {M : pj_Mem}  : pj_step 120 (37, L, st, M) = some (38, L, .int 0 :: st, M) := st_iconst q120_37 (by decide +kernel)
theorem q120_38 : pj_row 120 38 = some (.putfield 170, 3, 6, 14, 0) := by decide +kernel
theorem s120_38 {L : pj_Loc} {st : List Value} {N S : Nat} {H : pj_Heap} {o : Nat} {v : Value} : pj_step 120 (38, L, v :: .ref o :: st, (N, S, H)) = pj_set 41 L st (N, S, H) o (pj_fset (H o) 6 14 v) := st_putfield q120_38
theorem q120_41 : pj_row 120 41 = some (.iconst 0, 1, 0, 0, 0) := by decide +kernel
theorem s120_41 {L : pj_Loc} {st : List Value} {M : pj_Mem}  : pj_step 120 (41, L, st, M) = some (42, L, .int 0 :: st, M) := st_iconst q120_41 (by decide +kernel)
theorem q120_42 : pj_row 120 42 = some (.istore_n 1, 1, 0, 0, 0) := by decide +kernel
theorem s120_42 {st : List Value} {M : pj_Mem} {l : pj_Loc} {a0 a1 : Option Value} {x : Int32} (h : pj_long a0 = false) : pj_step 120 (42, a0 :: a1 :: l, .int x :: st, M) = some (43, a0 :: some (.int x) :: l, st, M) := st_istore_n q120_42 (pj_st_1 h)
theorem q120_43 : pj_row 120 43 = some (.iconst 1, 1, 0, 0, 0) := by decide +kernel
theorem s120_43 {L : pj_Loc} {st : List Value} {M : pj_Mem}  : pj_step 120 (43, L, st, M) = some (44, L, .int 1 :: st, M) := st_iconst q120_43 (by decide +kernel)
theorem q120_44 : pj_row 120 44 = some (.istore_n 2, 1, 0, 0, 0) := by decide +kernel
theorem s120_44 {st : List Value} {M : pj_Mem} {l : pj_Loc} {a0 a1 a2 : Option Value} {x : Int32} (h : pj_long a1 = false) : pj_step 120 (44, a0 :: a1 :: a2 :: l, .int x :: st, M) = some (45, a0 :: a1 :: some (.int x) :: l, st, M) := st_istore_n q120_44 (pj_st_2 h)
theorem q120_45 : pj_row 120 45 = some (.iload_n 2, 1, 0, 0, 0) := by decide +kernel
theorem s120_45 {st : List Value} {M : pj_Mem} {l : pj_Loc} {a0 a1 : Option Value} {x : Int32} : pj_step 120 (45, a0 :: a1 :: some (.int x) :: l, st, M) = some (46, a0 :: a1 :: some (.int x) :: l, .int x :: st, M) := st_iload_n q120_45 rfl
theorem q120_46 : pj_row 120 46 = some (.ifCond .eq 35, 3, 81, 0, 0) := by decide +kernel
theorem s120_46 {L : pj_Loc} {st : List Value} {M : pj_Mem} {x : Int32} : pj_step 120 (46, L, .int x :: st, M) = some (if x = 0 then 81 else 49, L, st, M) := st_if_eq q120_46
theorem q120_49 : pj_row 120 49 = some (.aload_n 0, 1, 0, 0, 0) := by decide +kernel
theorem s120_49 {st : List Value} {M : pj_Mem} {l : pj_Loc} {x : Nat} : pj_step 120 (49, some (.ref x) :: l, st, M) = some (50, some (.ref x) :: l, .ref x :: st, M) := st_aload_n q120_49 rfl
theorem q120_50 : pj_row 120 50 = some (.invokevirtual 192, 3, 116, 1, 0) := by decide +kernel
theorem e120_50 {L : pj_Loc} {st : List Value} {N S : Nat} {H : pj_Heap} {o : Option Value × pj_Mem} {M' : pj_Mem} {x0 : Nat} {r : Int32} (h4 : pj_le4 st = true) (hu : pj_isU 6 (H x0) = true) (h1 : pj_Ends 116 (0, [some (.ref x0), none], [], (N, S, H)) (some (.int r), M')) (h2 : pj_Ends 120 (53, L, .int r :: st, M') o) : pj_Ends 120 (50, L, .ref x0 :: st, (N, S, H)) o := ec_v1 q120_50 (Or.inl rfl) h4 hu rfl h1 h2
theorem q120_53 : pj_row 120 53 = some (.ifCond .eq 28, 3, 81, 0, 0) := by decide +kernel
theorem s120_53 {L : pj_Loc} {st : List Value} {M : pj_Mem} {x : Int32} : pj_step 120 (53, L, .int x :: st, M) = some (if x = 0 then 81 else 56, L, st, M) := st_if_eq q120_53
theorem q120_56 : pj_row 120 56 = some (.aload_n 0, 1, 0, 0, 0) := by decide +kernel
theorem s120_56 {st : List Value} {M : pj_Mem} {l : pj_Loc} {x : Nat} : pj_step 120 (56, some (.ref x) :: l, st, M) = some (57, some (.ref x) :: l, .ref x :: st, M) := st_aload_n q120_56 rfl
theorem q120_57 : pj_row 120 57 = some (.aload_n 0, 1, 0, 0, 0) := by decide +kernel
theorem s120_57 {st : List Value} {M : pj_Mem} {l : pj_Loc} {x : Nat} : pj_step 120 (57, some (.ref x) :: l, st, M) = some (58, some (.ref x) :: l, .ref x :: st, M) := st_aload_n q120_57 rfl
theorem q120_58 : pj_row 120 58 = some (.getfield 185, 3, 6, 16, 0) := by decide +kernel
theorem s120_58 {L : pj_Loc} {st : List Value} {N S : Nat} {H : pj_Heap} {o : Nat} : pj_step 120 (58, L, .ref o :: st, (N, S, H)) = pj_pv 61 L st (N, S, H) (pj_fld (H o) 6 16) := st_getfield q120_58
theorem q120_61 : pj_row 120 61 = some (.invokevirtual 134, 3, 83, 2, 0) := by decide +kernel
theorem e120_61 {L : pj_Loc} {st : List Value} {N S : Nat} {H : pj_Heap} {o : Option Value × pj_Mem} {M' : pj_Mem} {x0 : Nat} {x1 : Int32} (h4 : pj_le4 st = true) (hu : pj_isU 6 (H x0) = true) (h1 : pj_Ends 83 (0, [some (.ref x0), some (.int x1)], [], (N, S, H)) (none, M')) (h2 : pj_Ends 120 (64, L, st, M') o) : pj_Ends 120 (61, L, .int x1 :: .ref x0 :: st, (N, S, H)) o := ec_v2 q120_61 (Or.inl rfl) h4 hu rfl h1 h2
theorem q120_64 : pj_row 120 64 = some (.iload_n 1, 1, 0, 0, 0) := by decide +kernel
theorem s120_64 {st : List Value} {M : pj_Mem} {l : pj_Loc} {a0 : Option Value} {x : Int32} : pj_step 120 (64, a0 :: some (.int x) :: l, st, M) = some (65, a0 :: some (.int x) :: l, .int x :: st, M) := st_iload_n q120_64 rfl
theorem q120_65 : pj_row 120 65 = some (.aload_n 0, 1, 0, 0, 0) := by decide +kernel
theorem s120_65 {st : List Value} {M : pj_Mem} {l : pj_Loc} {x : Nat} : pj_step 120 (65, some (.ref x) :: l, st, M) = some (66, some (.ref x) :: l, .ref x :: st, M) := st_aload_n q120_65 rfl
theorem q120_66 : pj_row 120 66 = some (.getfield 75, 3, 6, 11, 0) := by decide +kernel
theorem s120_66 {L : pj_Loc} {st : List Value} {N S : Nat} {H : pj_Heap} {o : Nat} : pj_step 120 (66, L, .ref o :: st, (N, S, H)) = pj_pv 69 L st (N, S, H) (pj_fld (H o) 6 11) := st_getfield q120_66
theorem q120_69 : pj_row 120 69 = some (.ior, 1, 0, 0, 0) := by decide +kernel
theorem s120_69 {L : pj_Loc} {st : List Value} {M : pj_Mem} {x y : Int32} : pj_step 120 (69, L, .int y :: .int x :: st, M) = some (70, L, .int (x ||| y) :: st, M) := st_ior q120_69
theorem q120_70 : pj_row 120 70 = some (.istore_n 1, 1, 0, 0, 0) := by decide +kernel
theorem s120_70 {st : List Value} {M : pj_Mem} {l : pj_Loc} {a0 a1 : Option Value} {x : Int32} (h : pj_long a0 = false) : pj_step 120 (70, a0 :: a1 :: l, .int x :: st, M) = some (71, a0 :: some (.int x) :: l, st, M) := st_istore_n q120_70 (pj_st_1 h)
theorem q120_71 : pj_row 120 71 = some (.aload_n 0, 1, 0, 0, 0) := by decide +kernel
theorem s120_71 {st : List Value} {M : pj_Mem} {l : pj_Loc} {x : Nat} : pj_step 120 (71, some (.ref x) :: l, st, M) = some (72, some (.ref x) :: l, .ref x :: st, M) := st_aload_n q120_71 rfl
theorem q120_72 : pj_row 120 72 = some (.bipush 59, 2, 0, 0, 0) := by decide +kernel
theorem s120_72 {L : pj_Loc} {st : List Value} {M : pj_Mem}  : pj_step 120 (72, L, st, M) = some (74, L, .int 59 :: st, M) := st_bipush q120_72 (by decide +kernel)
theorem q120_74 : pj_row 120 74 = some (.invokevirtual 176, 3, 117, 2, 0) := by decide +kernel
theorem e120_74 {L : pj_Loc} {st : List Value} {N S : Nat} {H : pj_Heap} {o : Option Value × pj_Mem} {M' : pj_Mem} {x0 : Nat} {x1 : Int32} {r : Int32} (h4 : pj_le4 st = true) (hu : pj_isU 6 (H x0) = true) (h1 : pj_Ends 117 (0, [some (.ref x0), some (.int x1), none], [], (N, S, H)) (some (.int r), M')) (h2 : pj_Ends 120 (77, L, .int r :: st, M') o) : pj_Ends 120 (74, L, .int x1 :: .ref x0 :: st, (N, S, H)) o := ec_v2 q120_74 (Or.inl rfl) h4 hu rfl h1 h2
theorem q120_77 : pj_row 120 77 = some (.istore_n 2, 1, 0, 0, 0) := by decide +kernel
theorem s120_77 {st : List Value} {M : pj_Mem} {l : pj_Loc} {a0 a1 a2 : Option Value} {x : Int32} (h : pj_long a1 = false) : pj_step 120 (77, a0 :: a1 :: a2 :: l, .int x :: st, M) = some (78, a0 :: a1 :: some (.int x) :: l, st, M) := st_istore_n q120_77 (pj_st_2 h)
theorem q120_78 : pj_row 120 78 = some (.goto (-33), 3, 45, 0, 0) := by decide +kernel
theorem s120_78 {L : pj_Loc} {st : List Value} {M : pj_Mem}  : pj_step 120 (78, L, st, M) = some (45, L, st, M) := st_goto q120_78
theorem q120_81 : pj_row 120 81 = some (.aload_n 0, 1, 0, 0, 0) := by decide +kernel
theorem s120_81 {st : List Value} {M : pj_Mem} {l : pj_Loc} {x : Nat} : pj_step 120 (81, some (.ref x) :: l, st, M) = some (82, some (.ref x) :: l, .ref x :: st, M) := st_aload_n q120_81 rfl
theorem q120_82 : pj_row 120 82 = some (.iconst 0, 1, 0, 0, 0) := by decide +kernel
theorem s120_82 {L : pj_Loc} {st : List Value} {M : pj_Mem}  : pj_step 120 (82, L, st, M) = some (83, L, .int 0 :: st, M) := st_iconst q120_82 (by decide +kernel)
theorem q120_83 : pj_row 120 83 = some (.putfield 152, 3, 6, 13, 0) := by decide +kernel
theorem s120_83 {L : pj_Loc} {st : List Value} {N S : Nat} {H : pj_Heap} {o : Nat} {v : Value} : pj_step 120 (83, L, v :: .ref o :: st, (N, S, H)) = pj_set 86 L st (N, S, H) o (pj_fset (H o) 6 13 v) := st_putfield q120_83
theorem q120_86 : pj_row 120 86 = some (.aload_n 0, 1, 0, 0, 0) := by decide +kernel
theorem s120_86 {st : List Value} {M : pj_Mem} {l : pj_Loc} {x : Nat} : pj_step 120 (86, some (.ref x) :: l, st, M) = some (87, some (.ref x) :: l, .ref x :: st, M) := st_aload_n q120_86 rfl
theorem q120_87 : pj_row 120 87 = some (.iload_n 1, 1, 0, 0, 0) := by decide +kernel
theorem s120_87 {st : List Value} {M : pj_Mem} {l : pj_Loc} {a0 : Option Value} {x : Int32} : pj_step 120 (87, a0 :: some (.int x) :: l, st, M) = some (88, a0 :: some (.int x) :: l, .int x :: st, M) := st_iload_n q120_87 rfl
theorem q120_88 : pj_row 120 88 = some (.invokevirtual 124, 3, 79, 2, 0) := by decide +kernel
theorem e120_88 {L : pj_Loc} {st : List Value} {N S : Nat} {H : pj_Heap} {o : Option Value × pj_Mem} {M' : pj_Mem} {x0 : Nat} {x1 : Int32} {r : Int32} (h4 : pj_le4 st = true) (hu : pj_isU 6 (H x0) = true) (h1 : pj_Ends 79 (0, [some (.ref x0), some (.int x1), none], [], (N, S, H)) (some (.int r), M')) (h2 : pj_Ends 120 (91, L, .int r :: st, M') o) : pj_Ends 120 (88, L, .int x1 :: .ref x0 :: st, (N, S, H)) o := ec_v2 q120_88 (Or.inl rfl) h4 hu rfl h1 h2
theorem q120_91 : pj_row 120 91 = some (.ireturn, 1, 0, 0, 0) := by decide +kernel
theorem t120_91 {L : pj_Loc} {M : pj_Mem} {v : Int32} : pj_Ends 120 (91, L, [.int v], M) (some (.int v), M) := pj_Ends.ret q120_91 (pj_rtn_i rt120)
theorem rt121 : pj_rt 121 = some .int := rfl
theorem q121_0 : pj_row 121 0 = some (.aload_n 0, 1, 0, 0, 0) := by decide +kernel
theorem s121_0 {st : List Value} {M : pj_Mem} {l : pj_Loc} {x : Nat} : pj_step 121 (0, some (.ref x) :: l, st, M) = some (1, some (.ref x) :: l, .ref x :: st, M) := st_aload_n q121_0 rfl
theorem q121_1 : pj_row 121 1 = some (.getfield 34, 3, 6, 3, 0) := by decide +kernel
theorem s121_1 {L : pj_Loc} {st : List Value} {N S : Nat} {H : pj_Heap} {o : Nat} : pj_step 121 (1, L, .ref o :: st, (N, S, H)) = pj_pv 4 L st (N, S, H) (pj_fld (H o) 6 3) := st_getfield q121_1
theorem q121_4 : pj_row 121 4 = some (.ifCond .ne 6, 3, 10, 0, 0) := by decide +kernel
theorem s121_4 {L : pj_Loc} {st : List Value} {M : pj_Mem} {x : Int32} : pj_step 121 (4, L, .int x :: st, M) = some (if ¬ x = 0 then 10 else 7, L, st, M) := st_if_ne q121_4
theorem q121_7 : pj_row 121 7 = some (.bipush (-5), 2, 0, 0, 0) := by decide +kernel
theorem s121_7 {L : pj_Loc} {st : List Value} {M : pj_Mem}  : pj_step 121 (7, L, st, M) = some (9, L, .int (-5) :: st, M) := st_bipush q121_7 (by decide +kernel)
theorem q121_9 : pj_row 121 9 = some (.ireturn, 1, 0, 0, 0) := by decide +kernel
theorem t121_9 {L : pj_Loc} {M : pj_Mem} {v : Int32} : pj_Ends 121 (9, L, [.int v], M) (some (.int v), M) := pj_Ends.ret q121_9 (pj_rtn_i rt121)
theorem q121_10 : pj_row 121 10 = some (.aload_n 0, 1, 0, 0, 0) := by decide +kernel
theorem s121_10 {st : List Value} {M : pj_Mem} {l : pj_Loc} {x : Nat} : pj_step 121 (10, some (.ref x) :: l, st, M) = some (11, some (.ref x) :: l, .ref x :: st, M) := st_aload_n q121_10 rfl
theorem q121_11 : pj_row 121 11 = some (.dup, 1, 0, 0, 0) := by decide +kernel
theorem s121_11 {L : pj_Loc} {st : List Value} {M : pj_Mem} {x : Nat} : pj_step 121 (11, L, .ref x :: st, M) = some (12, L, .ref x :: .ref x :: st, M) := st_dup_ref q121_11
theorem s121_11i {L : pj_Loc} {st : List Value} {M : pj_Mem} {x : Int32} : pj_step 121 (11, L, .int x :: st, M) = some (12, L, .int x :: .int x :: st, M) := st_dup_int q121_11
theorem q121_12 : pj_row 121 12 = some (.getfield 34, 3, 6, 3, 0) := by decide +kernel
theorem s121_12 {L : pj_Loc} {st : List Value} {N S : Nat} {H : pj_Heap} {o : Nat} : pj_step 121 (12, L, .ref o :: st, (N, S, H)) = pj_pv 15 L st (N, S, H) (pj_fld (H o) 6 3) := st_getfield q121_12
theorem q121_15 : pj_row 121 15 = some (.iconst 1, 1, 0, 0, 0) := by decide +kernel
theorem s121_15 {L : pj_Loc} {st : List Value} {M : pj_Mem}  : pj_step 121 (15, L, st, M) = some (16, L, .int 1 :: st, M) := st_iconst q121_15 (by decide +kernel)
theorem q121_16 : pj_row 121 16 = some (.isub, 1, 0, 0, 0) := by decide +kernel
theorem s121_16 {L : pj_Loc} {st : List Value} {M : pj_Mem} {x y : Int32} : pj_step 121 (16, L, .int y :: .int x :: st, M) = some (17, L, .int (x - y) :: st, M) := st_isub q121_16
theorem q121_17 : pj_row 121 17 = some (.putfield 34, 3, 6, 3, 0) := by decide +kernel
theorem s121_17 {L : pj_Loc} {st : List Value} {N S : Nat} {H : pj_Heap} {o : Nat} {v : Value} : pj_step 121 (17, L, v :: .ref o :: st, (N, S, H)) = pj_set 20 L st (N, S, H) o (pj_fset (H o) 6 3 v) := st_putfield q121_17
theorem q121_20 : pj_row 121 20 = some (.iconst 0, 1, 0, 0, 0) := by decide +kernel
theorem s121_20 {L : pj_Loc} {st : List Value} {M : pj_Mem}  : pj_step 121 (20, L, st, M) = some (21, L, .int 0 :: st, M) := st_iconst q121_20 (by decide +kernel)
theorem q121_21 : pj_row 121 21 = some (.istore_n 1, 1, 0, 0, 0) := by decide +kernel
theorem s121_21 {st : List Value} {M : pj_Mem} {l : pj_Loc} {a0 a1 : Option Value} {x : Int32} (h : pj_long a0 = false) : pj_step 121 (21, a0 :: a1 :: l, .int x :: st, M) = some (22, a0 :: some (.int x) :: l, st, M) := st_istore_n q121_21 (pj_st_1 h)
theorem q121_22 : pj_row 121 22 = some (.iload_n 1, 1, 0, 0, 0) := by decide +kernel
theorem s121_22 {st : List Value} {M : pj_Mem} {l : pj_Loc} {a0 : Option Value} {x : Int32} : pj_step 121 (22, a0 :: some (.int x) :: l, st, M) = some (23, a0 :: some (.int x) :: l, .int x :: st, M) := st_iload_n q121_22 rfl
theorem q121_23 : pj_row 121 23 = some (.sipush 152, 3, 0, 0, 0) := by decide +kernel
theorem s121_23 {L : pj_Loc} {st : List Value} {M : pj_Mem}  : pj_step 121 (23, L, st, M) = some (26, L, .int 152 :: st, M) := st_sipush q121_23 (by decide +kernel)
theorem q121_26 : pj_row 121 26 = some (.if_icmp .ge 30, 3, 56, 0, 0) := by decide +kernel
theorem s121_26 {L : pj_Loc} {st : List Value} {M : pj_Mem} {x y : Int32} : pj_step 121 (26, L, .int y :: .int x :: st, M) = some (if y ≤ x then 56 else 29, L, st, M) := st_icmp_ge q121_26
theorem q121_29 : pj_row 121 29 = some (.aload_n 0, 1, 0, 0, 0) := by decide +kernel
theorem s121_29 {st : List Value} {M : pj_Mem} {l : pj_Loc} {x : Nat} : pj_step 121 (29, some (.ref x) :: l, st, M) = some (30, some (.ref x) :: l, .ref x :: st, M) := st_aload_n q121_29 rfl
theorem q121_30 : pj_row 121 30 = some (.getfield 7, 3, 6, 0, 0) := by decide +kernel
theorem s121_30 {L : pj_Loc} {st : List Value} {N S : Nat} {H : pj_Heap} {o : Nat} : pj_step 121 (30, L, .ref o :: st, (N, S, H)) = pj_pv 33 L st (N, S, H) (pj_fld (H o) 6 0) := st_getfield q121_30
theorem q121_33 : pj_row 121 33 = some (.iload_n 1, 1, 0, 0, 0) := by decide +kernel
theorem s121_33 {st : List Value} {M : pj_Mem} {l : pj_Loc} {a0 : Option Value} {x : Int32} : pj_step 121 (33, a0 :: some (.int x) :: l, st, M) = some (34, a0 :: some (.int x) :: l, .int x :: st, M) := st_iload_n q121_33 rfl
theorem q121_34 : pj_row 121 34 = some (.aload_n 0, 1, 0, 0, 0) := by decide +kernel
theorem s121_34 {st : List Value} {M : pj_Mem} {l : pj_Loc} {x : Nat} : pj_step 121 (34, some (.ref x) :: l, st, M) = some (35, some (.ref x) :: l, .ref x :: st, M) := st_aload_n q121_34 rfl
theorem q121_35 : pj_row 121 35 = some (.getfield 16, 3, 6, 2, 0) := by decide +kernel
theorem s121_35 {L : pj_Loc} {st : List Value} {N S : Nat} {H : pj_Heap} {o : Nat} : pj_step 121 (35, L, .ref o :: st, (N, S, H)) = pj_pv 38 L st (N, S, H) (pj_fld (H o) 6 2) := st_getfield q121_35
theorem q121_38 : pj_row 121 38 = some (.sipush 152, 3, 0, 0, 0) := by decide +kernel
theorem s121_38 {L : pj_Loc} {st : List Value} {M : pj_Mem}  : pj_step 121 (38, L, st, M) = some (41, L, .int 152 :: st, M) := st_sipush q121_38 (by decide +kernel)
theorem q121_41 : pj_row 121 41 = some (.aload_n 0, 1, 0, 0, 0) := by decide +kernel
theorem s121_41 {st : List Value} {M : pj_Mem} {l : pj_Loc} {x : Nat} : pj_step 121 (41, some (.ref x) :: l, st, M) = some (42, some (.ref x) :: l, .ref x :: st, M) := st_aload_n q121_41 rfl
theorem q121_42 : pj_row 121 42 = some (.getfield 34, 3, 6, 3, 0) := by decide +kernel
theorem s121_42 {L : pj_Loc} {st : List Value} {N S : Nat} {H : pj_Heap} {o : Nat} : pj_step 121 (42, L, .ref o :: st, (N, S, H)) = pj_pv 45 L st (N, S, H) (pj_fld (H o) 6 3) := st_getfield q121_42
theorem q121_45 : pj_row 121 45 = some (.imul, 1, 0, 0, 0) := by decide +kernel
theorem s121_45 {L : pj_Loc} {st : List Value} {M : pj_Mem} {x y : Int32} : pj_step 121 (45, L, .int y :: .int x :: st, M) = some (46, L, .int (x * y) :: st, M) := st_imul q121_45
theorem q121_46 : pj_row 121 46 = some (.iload_n 1, 1, 0, 0, 0) := by decide +kernel
theorem s121_46 {st : List Value} {M : pj_Mem} {l : pj_Loc} {a0 : Option Value} {x : Int32} : pj_step 121 (46, a0 :: some (.int x) :: l, st, M) = some (47, a0 :: some (.int x) :: l, .int x :: st, M) := st_iload_n q121_46 rfl
theorem q121_47 : pj_row 121 47 = some (.iadd, 1, 0, 0, 0) := by decide +kernel
theorem s121_47 {L : pj_Loc} {st : List Value} {M : pj_Mem} {x y : Int32} : pj_step 121 (47, L, .int y :: .int x :: st, M) = some (48, L, .int (x + y) :: st, M) := st_iadd q121_47
theorem q121_48 : pj_row 121 48 = some (.iaload, 1, 0, 0, 0) := by decide +kernel
theorem s121_48 {L : pj_Loc} {st : List Value} {N S : Nat} {H : pj_Heap} {o : Nat} {i : Int32} : pj_step 121 (48, L, .int i :: .ref o :: st, (N, S, H)) = pj_pi 49 L st (N, S, H) (pj_arl (H o) 0 i) := st_iaload q121_48
theorem q121_49 : pj_row 121 49 = some (.iastore, 1, 0, 0, 0) := by decide +kernel
theorem s121_49 {L : pj_Loc} {st : List Value} {N S : Nat} {H : pj_Heap} {o : Nat} {i x : Int32} : pj_step 121 (49, L, .int x :: .int i :: .ref o :: st, (N, S, H)) = pj_set 50 L st (N, S, H) o (pj_ars (H o) 0 i x) := st_iastore q121_49
theorem q121_50 : pj_row 121 50 = some (.iinc 1 1, 3, 0, 0, 0) := by decide +kernel
theorem s121_50 {st : List Value} {M : pj_Mem} {l : pj_Loc} {a0 : Option Value} {x : Int32} (h : pj_long a0 = false) : pj_step 121 (50, a0 :: some (.int x) :: l, st, M) = some (53, a0 :: some (.int (x + 1)) :: l, st, M) := st_iinc q121_50 rfl (congrArg (fun y => x + y) (show Int32.ofInt 1 = 1 by decide +kernel)) (pj_st_1 h)
theorem q121_53 : pj_row 121 53 = some (.goto (-31), 3, 22, 0, 0) := by decide +kernel
theorem s121_53 {L : pj_Loc} {st : List Value} {M : pj_Mem}  : pj_step 121 (53, L, st, M) = some (22, L, st, M) := st_goto q121_53
theorem q121_56 : pj_row 121 56 = some (.aload_n 0, 1, 0, 0, 0) := by decide +kernel
theorem s121_56 {st : List Value} {M : pj_Mem} {l : pj_Loc} {x : Nat} : pj_step 121 (56, some (.ref x) :: l, st, M) = some (57, some (.ref x) :: l, .ref x :: st, M) := st_aload_n q121_56 rfl
theorem q121_57 : pj_row 121 57 = some (.getfield 34, 3, 6, 3, 0) := by decide +kernel
theorem s121_57 {L : pj_Loc} {st : List Value} {N S : Nat} {H : pj_Heap} {o : Nat} : pj_step 121 (57, L, .ref o :: st, (N, S, H)) = pj_pv 60 L st (N, S, H) (pj_fld (H o) 6 3) := st_getfield q121_57
theorem q121_60 : pj_row 121 60 = some (.ireturn, 1, 0, 0, 0) := by decide +kernel
theorem t121_60 {L : pj_Loc} {M : pj_Mem} {v : Int32} : pj_Ends 121 (60, L, [.int v], M) (some (.int v), M) := pj_Ends.ret q121_60 (pj_rtn_i rt121)
theorem rt122 : pj_rt 122 = some .int := rfl
theorem q122_0 : pj_row 122 0 = some (.iload_n 1, 1, 0, 0, 0) := by decide +kernel
theorem s122_0 {st : List Value} {M : pj_Mem} {l : pj_Loc} {a0 : Option Value} {x : Int32} : pj_step 122 (0, a0 :: some (.int x) :: l, st, M) = some (1, a0 :: some (.int x) :: l, .int x :: st, M) := st_iload_n q122_0 rfl
theorem q122_1 : pj_row 122 1 = some (.i2l, 1, 0, 0, 0) := by decide +kernel
theorem s122_1 {L : pj_Loc} {st : List Value} {M : pj_Mem} {x : Int32} : pj_step 122 (1, L, .int x :: st, M) = some (2, L, .long x.toInt64 :: st, M) := st_i2l q122_1
theorem q122_2 : pj_row 122 2 = some (.lconst 0, 1, 0, 0, 0) := by decide +kernel
theorem s122_2 {L : pj_Loc} {st : List Value} {M : pj_Mem}  : pj_step 122 (2, L, st, M) = some (3, L, .long 0 :: st, M) := st_lconst q122_2 (by decide +kernel)
theorem q122_3 : pj_row 122 3 = some (.lconst 1, 1, 0, 0, 0) := by decide +kernel
theorem s122_3 {L : pj_Loc} {st : List Value} {M : pj_Mem}  : pj_step 122 (3, L, st, M) = some (4, L, .long 1 :: st, M) := st_lconst q122_3 (by decide +kernel)
theorem q122_4 : pj_row 122 4 = some (.invokestatic 42, 3, 77, 3, 0) := by decide +kernel
theorem e122_4 {L : pj_Loc} {st : List Value} {N S : Nat} {H : pj_Heap} {o : Option Value × pj_Mem} {M' : pj_Mem} {x0 : Int64} {x1 : Int64} {x2 : Int64} {r : Int32} (h4 : pj_le4 st = true) (h1 : pj_Ends 77 (0, [some (.long x0), none, some (.long x1), none, some (.long x2), none], [], (N, S, H)) (some (.int r), M')) (h2 : pj_Ends 122 (7, L, .int r :: st, M') o) : pj_Ends 122 (4, L, .long x2 :: .long x1 :: .long x0 :: st, (N, S, H)) o := ec_s3 q122_4 (Or.inl rfl) h4 rfl h1 h2
theorem q122_7 : pj_row 122 7 = some (.ifCond .ne 6, 3, 13, 0, 0) := by decide +kernel
theorem s122_7 {L : pj_Loc} {st : List Value} {M : pj_Mem} {x : Int32} : pj_step 122 (7, L, .int x :: st, M) = some (if ¬ x = 0 then 13 else 10, L, st, M) := st_if_ne q122_7
theorem q122_10 : pj_row 122 10 = some (.bipush (-2), 2, 0, 0, 0) := by decide +kernel
theorem s122_10 {L : pj_Loc} {st : List Value} {M : pj_Mem}  : pj_step 122 (10, L, st, M) = some (12, L, .int (-2) :: st, M) := st_bipush q122_10 (by decide +kernel)
theorem q122_12 : pj_row 122 12 = some (.ireturn, 1, 0, 0, 0) := by decide +kernel
theorem t122_12 {L : pj_Loc} {M : pj_Mem} {v : Int32} : pj_Ends 122 (12, L, [.int v], M) (some (.int v), M) := pj_Ends.ret q122_12 (pj_rtn_i rt122)
theorem q122_13 : pj_row 122 13 = some (.iconst 0, 1, 0, 0, 0) := by decide +kernel
theorem s122_13 {L : pj_Loc} {st : List Value} {M : pj_Mem}  : pj_step 122 (13, L, st, M) = some (14, L, .int 0 :: st, M) := st_iconst q122_13 (by decide +kernel)
theorem q122_14 : pj_row 122 14 = some (.istore_n 2, 1, 0, 0, 0) := by decide +kernel
theorem s122_14 {st : List Value} {M : pj_Mem} {l : pj_Loc} {a0 a1 a2 : Option Value} {x : Int32} (h : pj_long a1 = false) : pj_step 122 (14, a0 :: a1 :: a2 :: l, .int x :: st, M) = some (15, a0 :: a1 :: some (.int x) :: l, st, M) := st_istore_n q122_14 (pj_st_2 h)
theorem q122_15 : pj_row 122 15 = some (.iload_n 2, 1, 0, 0, 0) := by decide +kernel
theorem s122_15 {st : List Value} {M : pj_Mem} {l : pj_Loc} {a0 a1 : Option Value} {x : Int32} : pj_step 122 (15, a0 :: a1 :: some (.int x) :: l, st, M) = some (16, a0 :: a1 :: some (.int x) :: l, .int x :: st, M) := st_iload_n q122_15 rfl
theorem q122_16 : pj_row 122 16 = some (.sipush 152, 3, 0, 0, 0) := by decide +kernel
theorem s122_16 {L : pj_Loc} {st : List Value} {M : pj_Mem}  : pj_step 122 (16, L, st, M) = some (19, L, .int 152 :: st, M) := st_sipush q122_16 (by decide +kernel)
theorem q122_19 : pj_row 122 19 = some (.if_icmp .ge 27, 3, 46, 0, 0) := by decide +kernel
theorem s122_19 {L : pj_Loc} {st : List Value} {M : pj_Mem} {x y : Int32} : pj_step 122 (19, L, .int y :: .int x :: st, M) = some (if y ≤ x then 46 else 22, L, st, M) := st_icmp_ge q122_19
theorem q122_22 : pj_row 122 22 = some (.aload_n 0, 1, 0, 0, 0) := by decide +kernel
theorem s122_22 {st : List Value} {M : pj_Mem} {l : pj_Loc} {x : Nat} : pj_step 122 (22, some (.ref x) :: l, st, M) = some (23, some (.ref x) :: l, .ref x :: st, M) := st_aload_n q122_22 rfl
theorem q122_23 : pj_row 122 23 = some (.getfield 19, 3, 6, 4, 0) := by decide +kernel
theorem s122_23 {L : pj_Loc} {st : List Value} {N S : Nat} {H : pj_Heap} {o : Nat} : pj_step 122 (23, L, .ref o :: st, (N, S, H)) = pj_pv 26 L st (N, S, H) (pj_fld (H o) 6 4) := st_getfield q122_23
theorem q122_26 : pj_row 122 26 = some (.sipush 152, 3, 0, 0, 0) := by decide +kernel
theorem s122_26 {L : pj_Loc} {st : List Value} {M : pj_Mem}  : pj_step 122 (26, L, st, M) = some (29, L, .int 152 :: st, M) := st_sipush q122_26 (by decide +kernel)
theorem q122_29 : pj_row 122 29 = some (.iload_n 1, 1, 0, 0, 0) := by decide +kernel
theorem s122_29 {st : List Value} {M : pj_Mem} {l : pj_Loc} {a0 : Option Value} {x : Int32} : pj_step 122 (29, a0 :: some (.int x) :: l, st, M) = some (30, a0 :: some (.int x) :: l, .int x :: st, M) := st_iload_n q122_29 rfl
theorem q122_30 : pj_row 122 30 = some (.imul, 1, 0, 0, 0) := by decide +kernel
theorem s122_30 {L : pj_Loc} {st : List Value} {M : pj_Mem} {x y : Int32} : pj_step 122 (30, L, .int y :: .int x :: st, M) = some (31, L, .int (x * y) :: st, M) := st_imul q122_30
theorem q122_31 : pj_row 122 31 = some (.iload_n 2, 1, 0, 0, 0) := by decide +kernel
theorem s122_31 {st : List Value} {M : pj_Mem} {l : pj_Loc} {a0 a1 : Option Value} {x : Int32} : pj_step 122 (31, a0 :: a1 :: some (.int x) :: l, st, M) = some (32, a0 :: a1 :: some (.int x) :: l, .int x :: st, M) := st_iload_n q122_31 rfl
theorem q122_32 : pj_row 122 32 = some (.iadd, 1, 0, 0, 0) := by decide +kernel
theorem s122_32 {L : pj_Loc} {st : List Value} {M : pj_Mem} {x y : Int32} : pj_step 122 (32, L, .int y :: .int x :: st, M) = some (33, L, .int (x + y) :: st, M) := st_iadd q122_32
theorem q122_33 : pj_row 122 33 = some (.aload_n 0, 1, 0, 0, 0) := by decide +kernel
theorem s122_33 {st : List Value} {M : pj_Mem} {l : pj_Loc} {x : Nat} : pj_step 122 (33, some (.ref x) :: l, st, M) = some (34, some (.ref x) :: l, .ref x :: st, M) := st_aload_n q122_33 rfl
theorem q122_34 : pj_row 122 34 = some (.getfield 7, 3, 6, 0, 0) := by decide +kernel
theorem s122_34 {L : pj_Loc} {st : List Value} {N S : Nat} {H : pj_Heap} {o : Nat} : pj_step 122 (34, L, .ref o :: st, (N, S, H)) = pj_pv 37 L st (N, S, H) (pj_fld (H o) 6 0) := st_getfield q122_34
theorem q122_37 : pj_row 122 37 = some (.iload_n 2, 1, 0, 0, 0) := by decide +kernel
theorem s122_37 {st : List Value} {M : pj_Mem} {l : pj_Loc} {a0 a1 : Option Value} {x : Int32} : pj_step 122 (37, a0 :: a1 :: some (.int x) :: l, st, M) = some (38, a0 :: a1 :: some (.int x) :: l, .int x :: st, M) := st_iload_n q122_37 rfl
theorem q122_38 : pj_row 122 38 = some (.iaload, 1, 0, 0, 0) := by decide +kernel
theorem s122_38 {L : pj_Loc} {st : List Value} {N S : Nat} {H : pj_Heap} {o : Nat} {i : Int32} : pj_step 122 (38, L, .int i :: .ref o :: st, (N, S, H)) = pj_pi 39 L st (N, S, H) (pj_arl (H o) 0 i) := st_iaload q122_38
theorem q122_39 : pj_row 122 39 = some (.iastore, 1, 0, 0, 0) := by decide +kernel
theorem s122_39 {L : pj_Loc} {st : List Value} {N S : Nat} {H : pj_Heap} {o : Nat} {i x : Int32} : pj_step 122 (39, L, .int x :: .int i :: .ref o :: st, (N, S, H)) = pj_set 40 L st (N, S, H) o (pj_ars (H o) 0 i x) := st_iastore q122_39
theorem q122_40 : pj_row 122 40 = some (.iinc 2 1, 3, 0, 0, 0) := by decide +kernel
theorem s122_40 {st : List Value} {M : pj_Mem} {l : pj_Loc} {a0 a1 : Option Value} {x : Int32} (h : pj_long a1 = false) : pj_step 122 (40, a0 :: a1 :: some (.int x) :: l, st, M) = some (43, a0 :: a1 :: some (.int (x + 1)) :: l, st, M) := st_iinc q122_40 rfl (congrArg (fun y => x + y) (show Int32.ofInt 1 = 1 by decide +kernel)) (pj_st_2 h)
theorem q122_43 : pj_row 122 43 = some (.goto (-28), 3, 15, 0, 0) := by decide +kernel
theorem s122_43 {L : pj_Loc} {st : List Value} {M : pj_Mem}  : pj_step 122 (43, L, st, M) = some (15, L, st, M) := st_goto q122_43
theorem q122_46 : pj_row 122 46 = some (.aload_n 0, 1, 0, 0, 0) := by decide +kernel
theorem s122_46 {st : List Value} {M : pj_Mem} {l : pj_Loc} {x : Nat} : pj_step 122 (46, some (.ref x) :: l, st, M) = some (47, some (.ref x) :: l, .ref x :: st, M) := st_aload_n q122_46 rfl
theorem q122_47 : pj_row 122 47 = some (.getfield 22, 3, 6, 5, 0) := by decide +kernel
theorem s122_47 {L : pj_Loc} {st : List Value} {N S : Nat} {H : pj_Heap} {o : Nat} : pj_step 122 (47, L, .ref o :: st, (N, S, H)) = pj_pv 50 L st (N, S, H) (pj_fld (H o) 6 5) := st_getfield q122_47
theorem q122_50 : pj_row 122 50 = some (.iload_n 1, 1, 0, 0, 0) := by decide +kernel
theorem s122_50 {st : List Value} {M : pj_Mem} {l : pj_Loc} {a0 : Option Value} {x : Int32} : pj_step 122 (50, a0 :: some (.int x) :: l, st, M) = some (51, a0 :: some (.int x) :: l, .int x :: st, M) := st_iload_n q122_50 rfl
theorem q122_51 : pj_row 122 51 = some (.iconst 1, 1, 0, 0, 0) := by decide +kernel
theorem s122_51 {L : pj_Loc} {st : List Value} {M : pj_Mem}  : pj_step 122 (51, L, st, M) = some (52, L, .int 1 :: st, M) := st_iconst q122_51 (by decide +kernel)
theorem q122_52 : pj_row 122 52 = some (.iastore, 1, 0, 0, 0) := by decide +kernel
theorem s122_52 {L : pj_Loc} {st : List Value} {N S : Nat} {H : pj_Heap} {o : Nat} {i x : Int32} : pj_step 122 (52, L, .int x :: .int i :: .ref o :: st, (N, S, H)) = pj_set 53 L st (N, S, H) o (pj_ars (H o) 0 i x) := st_iastore q122_52
theorem q122_53 : pj_row 122 53 = some (.aload_n 0, 1, 0, 0, 0) := by decide +kernel
theorem s122_53 {st : List Value} {M : pj_Mem} {l : pj_Loc} {x : Nat} : pj_step 122 (53, some (.ref x) :: l, st, M) = some (54, some (.ref x) :: l, .ref x :: st, M) := st_aload_n q122_53 rfl
theorem q122_54 : pj_row 122 54 = some (.getfield 7, 3, 6, 0, 0) := by decide +kernel
theorem s122_54 {L : pj_Loc} {st : List Value} {N S : Nat} {H : pj_Heap} {o : Nat} : pj_step 122 (54, L, .ref o :: st, (N, S, H)) = pj_pv 57 L st (N, S, H) (pj_fld (H o) 6 0) := st_getfield q122_54
theorem q122_57 : pj_row 122 57 = some (.bipush 6, 2, 0, 0, 0) := by decide +kernel
theorem s122_57 {L : pj_Loc} {st : List Value} {M : pj_Mem}  : pj_step 122 (57, L, st, M) = some (59, L, .int 6 :: st, M) := st_bipush q122_57 (by decide +kernel)
theorem q122_59 : pj_row 122 59 = some (.iaload, 1, 0, 0, 0) := by decide +kernel
theorem s122_59 {L : pj_Loc} {st : List Value} {N S : Nat} {H : pj_Heap} {o : Nat} {i : Int32} : pj_step 122 (59, L, .int i :: .ref o :: st, (N, S, H)) = pj_pi 60 L st (N, S, H) (pj_arl (H o) 0 i) := st_iaload q122_59
theorem q122_60 : pj_row 122 60 = some (.ireturn, 1, 0, 0, 0) := by decide +kernel
theorem t122_60 {L : pj_Loc} {M : pj_Mem} {v : Int32} : pj_Ends 122 (60, L, [.int v], M) (some (.int v), M) := pj_Ends.ret q122_60 (pj_rtn_i rt122)
theorem rt123 : pj_rt 123 = some .int := rfl
theorem q123_0 : pj_row 123 0 = some (.iload_n 1, 1, 0, 0, 0) := by decide +kernel
theorem s123_0 {st : List Value} {M : pj_Mem} {l : pj_Loc} {a0 : Option Value} {x : Int32} : pj_step 123 (0, a0 :: some (.int x) :: l, st, M) = some (1, a0 :: some (.int x) :: l, .int x :: st, M) := st_iload_n q123_0 rfl
theorem q123_1 : pj_row 123 1 = some (.i2l, 1, 0, 0, 0) := by decide +kernel
theorem s123_1 {L : pj_Loc} {st : List Value} {M : pj_Mem} {x : Int32} : pj_step 123 (1, L, .int x :: st, M) = some (2, L, .long x.toInt64 :: st, M) := st_i2l q123_1
theorem q123_2 : pj_row 123 2 = some (.lconst 0, 1, 0, 0, 0) := by decide +kernel
theorem s123_2 {L : pj_Loc} {st : List Value} {M : pj_Mem}  : pj_step 123 (2, L, st, M) = some (3, L, .long 0 :: st, M) := st_lconst q123_2 (by decide +kernel)
theorem q123_3 : pj_row 123 3 = some (.lconst 1, 1, 0, 0, 0) := by decide +kernel
theorem s123_3 {L : pj_Loc} {st : List Value} {M : pj_Mem}  : pj_step 123 (3, L, st, M) = some (4, L, .long 1 :: st, M) := st_lconst q123_3 (by decide +kernel)
theorem q123_4 : pj_row 123 4 = some (.invokestatic 42, 3, 77, 3, 0) := by decide +kernel
theorem e123_4 {L : pj_Loc} {st : List Value} {N S : Nat} {H : pj_Heap} {o : Option Value × pj_Mem} {M' : pj_Mem} {x0 : Int64} {x1 : Int64} {x2 : Int64} {r : Int32} (h4 : pj_le4 st = true) (h1 : pj_Ends 77 (0, [some (.long x0), none, some (.long x1), none, some (.long x2), none], [], (N, S, H)) (some (.int r), M')) (h2 : pj_Ends 123 (7, L, .int r :: st, M') o) : pj_Ends 123 (4, L, .long x2 :: .long x1 :: .long x0 :: st, (N, S, H)) o := ec_s3 q123_4 (Or.inl rfl) h4 rfl h1 h2
theorem q123_7 : pj_row 123 7 = some (.ifCond .ne 6, 3, 13, 0, 0) := by decide +kernel
theorem s123_7 {L : pj_Loc} {st : List Value} {M : pj_Mem} {x : Int32} : pj_step 123 (7, L, .int x :: st, M) = some (if ¬ x = 0 then 13 else 10, L, st, M) := st_if_ne q123_7
theorem q123_10 : pj_row 123 10 = some (.bipush (-2), 2, 0, 0, 0) := by decide +kernel
theorem s123_10 {L : pj_Loc} {st : List Value} {M : pj_Mem}  : pj_step 123 (10, L, st, M) = some (12, L, .int (-2) :: st, M) := st_bipush q123_10 (by decide +kernel)
theorem q123_12 : pj_row 123 12 = some (.ireturn, 1, 0, 0, 0) := by decide +kernel
theorem t123_12 {L : pj_Loc} {M : pj_Mem} {v : Int32} : pj_Ends 123 (12, L, [.int v], M) (some (.int v), M) := pj_Ends.ret q123_12 (pj_rtn_i rt123)
theorem q123_13 : pj_row 123 13 = some (.aload_n 0, 1, 0, 0, 0) := by decide +kernel
theorem s123_13 {st : List Value} {M : pj_Mem} {l : pj_Loc} {x : Nat} : pj_step 123 (13, some (.ref x) :: l, st, M) = some (14, some (.ref x) :: l, .ref x :: st, M) := st_aload_n q123_13 rfl
theorem q123_14 : pj_row 123 14 = some (.getfield 22, 3, 6, 5, 0) := by decide +kernel
theorem s123_14 {L : pj_Loc} {st : List Value} {N S : Nat} {H : pj_Heap} {o : Nat} : pj_step 123 (14, L, .ref o :: st, (N, S, H)) = pj_pv 17 L st (N, S, H) (pj_fld (H o) 6 5) := st_getfield q123_14
theorem q123_17 : pj_row 123 17 = some (.iload_n 1, 1, 0, 0, 0) := by decide +kernel
theorem s123_17 {st : List Value} {M : pj_Mem} {l : pj_Loc} {a0 : Option Value} {x : Int32} : pj_step 123 (17, a0 :: some (.int x) :: l, st, M) = some (18, a0 :: some (.int x) :: l, .int x :: st, M) := st_iload_n q123_17 rfl
theorem q123_18 : pj_row 123 18 = some (.iaload, 1, 0, 0, 0) := by decide +kernel
theorem s123_18 {L : pj_Loc} {st : List Value} {N S : Nat} {H : pj_Heap} {o : Nat} {i : Int32} : pj_step 123 (18, L, .int i :: .ref o :: st, (N, S, H)) = pj_pi 19 L st (N, S, H) (pj_arl (H o) 0 i) := st_iaload q123_18
theorem q123_19 : pj_row 123 19 = some (.ifCond .ne 6, 3, 25, 0, 0) := by decide +kernel
theorem s123_19 {L : pj_Loc} {st : List Value} {M : pj_Mem} {x : Int32} : pj_step 123 (19, L, .int x :: st, M) = some (if ¬ x = 0 then 25 else 22, L, st, M) := st_if_ne q123_19
theorem q123_22 : pj_row 123 22 = some (.bipush (-5), 2, 0, 0, 0) := by decide +kernel
theorem s123_22 {L : pj_Loc} {st : List Value} {M : pj_Mem}  : pj_step 123 (22, L, st, M) = some (24, L, .int (-5) :: st, M) := st_bipush q123_22 (by decide +kernel)
theorem q123_24 : pj_row 123 24 = some (.ireturn, 1, 0, 0, 0) := by decide +kernel
theorem t123_24 {L : pj_Loc} {M : pj_Mem} {v : Int32} : pj_Ends 123 (24, L, [.int v], M) (some (.int v), M) := pj_Ends.ret q123_24 (pj_rtn_i rt123)
theorem q123_25 : pj_row 123 25 = some (.aload_n 0, 1, 0, 0, 0) := by decide +kernel
theorem s123_25 {st : List Value} {M : pj_Mem} {l : pj_Loc} {x : Nat} : pj_step 123 (25, some (.ref x) :: l, st, M) = some (26, some (.ref x) :: l, .ref x :: st, M) := st_aload_n q123_25 rfl
theorem q123_26 : pj_row 123 26 = some (.invokevirtual 121, 3, 78, 1, 0) := by decide +kernel
theorem e123_26 {L : pj_Loc} {st : List Value} {N S : Nat} {H : pj_Heap} {o : Option Value × pj_Mem} {M' : pj_Mem} {x0 : Nat} (h4 : pj_le4 st = true) (hu : pj_isU 6 (H x0) = true) (h1 : pj_Ends 78 (0, [some (.ref x0), none], [], (N, S, H)) (none, M')) (h2 : pj_Ends 123 (29, L, st, M') o) : pj_Ends 123 (26, L, .ref x0 :: st, (N, S, H)) o := ec_v1 q123_26 (Or.inl rfl) h4 hu rfl h1 h2
theorem q123_29 : pj_row 123 29 = some (.iconst 0, 1, 0, 0, 0) := by decide +kernel
theorem s123_29 {L : pj_Loc} {st : List Value} {M : pj_Mem}  : pj_step 123 (29, L, st, M) = some (30, L, .int 0 :: st, M) := st_iconst q123_29 (by decide +kernel)
theorem q123_30 : pj_row 123 30 = some (.istore_n 2, 1, 0, 0, 0) := by decide +kernel
theorem s123_30 {st : List Value} {M : pj_Mem} {l : pj_Loc} {a0 a1 a2 : Option Value} {x : Int32} (h : pj_long a1 = false) : pj_step 123 (30, a0 :: a1 :: a2 :: l, .int x :: st, M) = some (31, a0 :: a1 :: some (.int x) :: l, st, M) := st_istore_n q123_30 (pj_st_2 h)
theorem q123_31 : pj_row 123 31 = some (.iload_n 2, 1, 0, 0, 0) := by decide +kernel
theorem s123_31 {st : List Value} {M : pj_Mem} {l : pj_Loc} {a0 a1 : Option Value} {x : Int32} : pj_step 123 (31, a0 :: a1 :: some (.int x) :: l, st, M) = some (32, a0 :: a1 :: some (.int x) :: l, .int x :: st, M) := st_iload_n q123_31 rfl
theorem q123_32 : pj_row 123 32 = some (.sipush 152, 3, 0, 0, 0) := by decide +kernel
theorem s123_32 {L : pj_Loc} {st : List Value} {M : pj_Mem}  : pj_step 123 (32, L, st, M) = some (35, L, .int 152 :: st, M) := st_sipush q123_32 (by decide +kernel)
theorem q123_35 : pj_row 123 35 = some (.if_icmp .ge 27, 3, 62, 0, 0) := by decide +kernel
theorem s123_35 {L : pj_Loc} {st : List Value} {M : pj_Mem} {x y : Int32} : pj_step 123 (35, L, .int y :: .int x :: st, M) = some (if y ≤ x then 62 else 38, L, st, M) := st_icmp_ge q123_35
theorem q123_38 : pj_row 123 38 = some (.aload_n 0, 1, 0, 0, 0) := by decide +kernel
theorem s123_38 {st : List Value} {M : pj_Mem} {l : pj_Loc} {x : Nat} : pj_step 123 (38, some (.ref x) :: l, st, M) = some (39, some (.ref x) :: l, .ref x :: st, M) := st_aload_n q123_38 rfl
theorem q123_39 : pj_row 123 39 = some (.getfield 7, 3, 6, 0, 0) := by decide +kernel
theorem s123_39 {L : pj_Loc} {st : List Value} {N S : Nat} {H : pj_Heap} {o : Nat} : pj_step 123 (39, L, .ref o :: st, (N, S, H)) = pj_pv 42 L st (N, S, H) (pj_fld (H o) 6 0) := st_getfield q123_39
theorem q123_42 : pj_row 123 42 = some (.iload_n 2, 1, 0, 0, 0) := by decide +kernel
theorem s123_42 {st : List Value} {M : pj_Mem} {l : pj_Loc} {a0 a1 : Option Value} {x : Int32} : pj_step 123 (42, a0 :: a1 :: some (.int x) :: l, st, M) = some (43, a0 :: a1 :: some (.int x) :: l, .int x :: st, M) := st_iload_n q123_42 rfl
theorem q123_43 : pj_row 123 43 = some (.aload_n 0, 1, 0, 0, 0) := by decide +kernel
theorem s123_43 {st : List Value} {M : pj_Mem} {l : pj_Loc} {x : Nat} : pj_step 123 (43, some (.ref x) :: l, st, M) = some (44, some (.ref x) :: l, .ref x :: st, M) := st_aload_n q123_43 rfl
theorem q123_44 : pj_row 123 44 = some (.getfield 19, 3, 6, 4, 0) := by decide +kernel
theorem s123_44 {L : pj_Loc} {st : List Value} {N S : Nat} {H : pj_Heap} {o : Nat} : pj_step 123 (44, L, .ref o :: st, (N, S, H)) = pj_pv 47 L st (N, S, H) (pj_fld (H o) 6 4) := st_getfield q123_44
theorem q123_47 : pj_row 123 47 = some (.sipush 152, 3, 0, 0, 0) := by decide +kernel
theorem s123_47 {L : pj_Loc} {st : List Value} {M : pj_Mem}  : pj_step 123 (47, L, st, M) = some (50, L, .int 152 :: st, M) := st_sipush q123_47 (by decide +kernel)
theorem q123_50 : pj_row 123 50 = some (.iload_n 1, 1, 0, 0, 0) := by decide +kernel
theorem s123_50 {st : List Value} {M : pj_Mem} {l : pj_Loc} {a0 : Option Value} {x : Int32} : pj_step 123 (50, a0 :: some (.int x) :: l, st, M) = some (51, a0 :: some (.int x) :: l, .int x :: st, M) := st_iload_n q123_50 rfl
theorem q123_51 : pj_row 123 51 = some (.imul, 1, 0, 0, 0) := by decide +kernel
theorem s123_51 {L : pj_Loc} {st : List Value} {M : pj_Mem} {x y : Int32} : pj_step 123 (51, L, .int y :: .int x :: st, M) = some (52, L, .int (x * y) :: st, M) := st_imul q123_51
theorem q123_52 : pj_row 123 52 = some (.iload_n 2, 1, 0, 0, 0) := by decide +kernel
theorem s123_52 {st : List Value} {M : pj_Mem} {l : pj_Loc} {a0 a1 : Option Value} {x : Int32} : pj_step 123 (52, a0 :: a1 :: some (.int x) :: l, st, M) = some (53, a0 :: a1 :: some (.int x) :: l, .int x :: st, M) := st_iload_n q123_52 rfl
theorem q123_53 : pj_row 123 53 = some (.iadd, 1, 0, 0, 0) := by decide +kernel
theorem s123_53 {L : pj_Loc} {st : List Value} {M : pj_Mem} {x y : Int32} : pj_step 123 (53, L, .int y :: .int x :: st, M) = some (54, L, .int (x + y) :: st, M) := st_iadd q123_53
theorem q123_54 : pj_row 123 54 = some (.iaload, 1, 0, 0, 0) := by decide +kernel
theorem s123_54 {L : pj_Loc} {st : List Value} {N S : Nat} {H : pj_Heap} {o : Nat} {i : Int32} : pj_step 123 (54, L, .int i :: .ref o :: st, (N, S, H)) = pj_pi 55 L st (N, S, H) (pj_arl (H o) 0 i) := st_iaload q123_54
theorem q123_55 : pj_row 123 55 = some (.iastore, 1, 0, 0, 0) := by decide +kernel
theorem s123_55 {L : pj_Loc} {st : List Value} {N S : Nat} {H : pj_Heap} {o : Nat} {i x : Int32} : pj_step 123 (55, L, .int x :: .int i :: .ref o :: st, (N, S, H)) = pj_set 56 L st (N, S, H) o (pj_ars (H o) 0 i x) := st_iastore q123_55
theorem q123_56 : pj_row 123 56 = some (.iinc 2 1, 3, 0, 0, 0) := by decide +kernel
theorem s123_56 {st : List Value} {M : pj_Mem} {l : pj_Loc} {a0 a1 : Option Value} {x : Int32} (h : pj_long a1 = false) : pj_step 123 (56, a0 :: a1 :: some (.int x) :: l, st, M) = some (59, a0 :: a1 :: some (.int (x + 1)) :: l, st, M) := st_iinc q123_56 rfl (congrArg (fun y => x + y) (show Int32.ofInt 1 = 1 by decide +kernel)) (pj_st_2 h)
theorem q123_59 : pj_row 123 59 = some (.goto (-28), 3, 31, 0, 0) := by decide +kernel
theorem s123_59 {L : pj_Loc} {st : List Value} {M : pj_Mem}  : pj_step 123 (59, L, st, M) = some (31, L, st, M) := st_goto q123_59
theorem q123_62 : pj_row 123 62 = some (.aload_n 0, 1, 0, 0, 0) := by decide +kernel
theorem s123_62 {st : List Value} {M : pj_Mem} {l : pj_Loc} {x : Nat} : pj_step 123 (62, some (.ref x) :: l, st, M) = some (63, some (.ref x) :: l, .ref x :: st, M) := st_aload_n q123_62 rfl
theorem q123_63 : pj_row 123 63 = some (.aload_n 0, 1, 0, 0, 0) := by decide +kernel
theorem s123_63 {st : List Value} {M : pj_Mem} {l : pj_Loc} {x : Nat} : pj_step 123 (63, some (.ref x) :: l, st, M) = some (64, some (.ref x) :: l, .ref x :: st, M) := st_aload_n q123_63 rfl
theorem q123_64 : pj_row 123 64 = some (.getfield 7, 3, 6, 0, 0) := by decide +kernel
theorem s123_64 {L : pj_Loc} {st : List Value} {N S : Nat} {H : pj_Heap} {o : Nat} : pj_step 123 (64, L, .ref o :: st, (N, S, H)) = pj_pv 67 L st (N, S, H) (pj_fld (H o) 6 0) := st_getfield q123_64
theorem q123_67 : pj_row 123 67 = some (.bipush 6, 2, 0, 0, 0) := by decide +kernel
theorem s123_67 {L : pj_Loc} {st : List Value} {M : pj_Mem}  : pj_step 123 (67, L, st, M) = some (69, L, .int 6 :: st, M) := st_bipush q123_67 (by decide +kernel)
theorem q123_69 : pj_row 123 69 = some (.iaload, 1, 0, 0, 0) := by decide +kernel
theorem s123_69 {L : pj_Loc} {st : List Value} {N S : Nat} {H : pj_Heap} {o : Nat} {i : Int32} : pj_step 123 (69, L, .int i :: .ref o :: st, (N, S, H)) = pj_pi 70 L st (N, S, H) (pj_arl (H o) 0 i) := st_iaload q123_69
theorem q123_70 : pj_row 123 70 = some (.invokevirtual 124, 3, 79, 2, 0) := by decide +kernel
theorem e123_70 {L : pj_Loc} {st : List Value} {N S : Nat} {H : pj_Heap} {o : Option Value × pj_Mem} {M' : pj_Mem} {x0 : Nat} {x1 : Int32} {r : Int32} (h4 : pj_le4 st = true) (hu : pj_isU 6 (H x0) = true) (h1 : pj_Ends 79 (0, [some (.ref x0), some (.int x1), none], [], (N, S, H)) (some (.int r), M')) (h2 : pj_Ends 123 (73, L, .int r :: st, M') o) : pj_Ends 123 (70, L, .int x1 :: .ref x0 :: st, (N, S, H)) o := ec_v2 q123_70 (Or.inl rfl) h4 hu rfl h1 h2
theorem q123_73 : pj_row 123 73 = some (.ireturn, 1, 0, 0, 0) := by decide +kernel
theorem t123_73 {L : pj_Loc} {M : pj_Mem} {v : Int32} : pj_Ends 123 (73, L, [.int v], M) (some (.int v), M) := pj_Ends.ret q123_73 (pj_rtn_i rt123)
