/-! THE STEPS OF EACH METHOD, by program (wip/whole/gen/gen12.py) -/
theorem rt100 : pj_rt 100 = some .int := rfl
theorem q100_0 : pj_row 100 0 = some (.aload_n 0, 1, 0, 0, 0) := by decide +kernel
theorem s100_0 {st : List Value} {M : pj_Mem} {l : pj_Loc} {x : Nat} : pj_step 100 (0, some (.ref x) :: l, st, M) = some (1, some (.ref x) :: l, .ref x :: st, M) := st_aload_n q100_0 rfl
theorem x100_0 {st : List Value} {M : pj_Mem} {l : pj_Loc} {x : Nat} {o9 : Option Value × pj_Mem} : pj_Ends 100 (0, some (.ref x) :: l, st, M) o9 = pj_Ends 100 (1, some (.ref x) :: l, .ref x :: st, M) o9 := pj_xs (s100_0)
theorem q100_1 : pj_row 100 1 = some (.getfield 7, 3, 6, 0, 0) := by decide +kernel
theorem s100_1 {L : pj_Loc} {st : List Value} {N S : Nat} {H : pj_Heap} {o : Nat} : pj_step 100 (1, L, .ref o :: st, (N, S, H)) = pj_pv 4 L st (N, S, H) (pj_fld (H o) 6 0) := st_getfield q100_1
theorem x100_1 {L : pj_Loc} {st : List Value} {N S : Nat} {H : pj_Heap} {o : Nat} {o9 : Option Value × pj_Mem} : pj_Ends 100 (1, L, .ref o :: st, (N, S, H)) o9 = pj_then 100 o9 (pj_pv 4 L st (N, S, H) (pj_fld (H o) 6 0)) := pj_xt q100_1 rfl (pj_cl_nc rfl) (s100_1)
theorem q100_4 : pj_row 100 4 = some (.bipush 26, 2, 0, 0, 0) := by decide +kernel
theorem s100_4 {L : pj_Loc} {st : List Value} {M : pj_Mem}  : pj_step 100 (4, L, st, M) = some (6, L, .int 26 :: st, M) := st_bipush q100_4 (by decide +kernel)
theorem x100_4 {L : pj_Loc} {st : List Value} {M : pj_Mem}  {o9 : Option Value × pj_Mem} : pj_Ends 100 (4, L, st, M) o9 = pj_Ends 100 (6, L, .int 26 :: st, M) o9 := pj_xs (s100_4)
theorem q100_6 : pj_row 100 6 = some (.iaload, 1, 0, 0, 0) := by decide +kernel
theorem s100_6 {L : pj_Loc} {st : List Value} {N S : Nat} {H : pj_Heap} {o : Nat} {i : Int32} : pj_step 100 (6, L, .int i :: .ref o :: st, (N, S, H)) = pj_pi 7 L st (N, S, H) (pj_arl (H o) 0 i) := st_iaload q100_6
theorem x100_6 {L : pj_Loc} {st : List Value} {N S : Nat} {H : pj_Heap} {o : Nat} {i : Int32} {o9 : Option Value × pj_Mem} : pj_Ends 100 (6, L, .int i :: .ref o :: st, (N, S, H)) o9 = pj_then 100 o9 (pj_pi 7 L st (N, S, H) (pj_arl (H o) 0 i)) := pj_xt q100_6 rfl (pj_cl_nc rfl) (s100_6)
theorem q100_7 : pj_row 100 7 = some (.iconst 2, 1, 0, 0, 0) := by decide +kernel
theorem s100_7 {L : pj_Loc} {st : List Value} {M : pj_Mem}  : pj_step 100 (7, L, st, M) = some (8, L, .int 2 :: st, M) := st_iconst q100_7 (by decide +kernel)
theorem x100_7 {L : pj_Loc} {st : List Value} {M : pj_Mem}  {o9 : Option Value × pj_Mem} : pj_Ends 100 (7, L, st, M) o9 = pj_Ends 100 (8, L, .int 2 :: st, M) o9 := pj_xs (s100_7)
theorem q100_8 : pj_row 100 8 = some (.aload_n 0, 1, 0, 0, 0) := by decide +kernel
theorem s100_8 {st : List Value} {M : pj_Mem} {l : pj_Loc} {x : Nat} : pj_step 100 (8, some (.ref x) :: l, st, M) = some (9, some (.ref x) :: l, .ref x :: st, M) := st_aload_n q100_8 rfl
theorem x100_8 {st : List Value} {M : pj_Mem} {l : pj_Loc} {x : Nat} {o9 : Option Value × pj_Mem} : pj_Ends 100 (8, some (.ref x) :: l, st, M) o9 = pj_Ends 100 (9, some (.ref x) :: l, .ref x :: st, M) o9 := pj_xs (s100_8)
theorem q100_9 : pj_row 100 9 = some (.getfield 7, 3, 6, 0, 0) := by decide +kernel
theorem s100_9 {L : pj_Loc} {st : List Value} {N S : Nat} {H : pj_Heap} {o : Nat} : pj_step 100 (9, L, .ref o :: st, (N, S, H)) = pj_pv 12 L st (N, S, H) (pj_fld (H o) 6 0) := st_getfield q100_9
theorem x100_9 {L : pj_Loc} {st : List Value} {N S : Nat} {H : pj_Heap} {o : Nat} {o9 : Option Value × pj_Mem} : pj_Ends 100 (9, L, .ref o :: st, (N, S, H)) o9 = pj_then 100 o9 (pj_pv 12 L st (N, S, H) (pj_fld (H o) 6 0)) := pj_xt q100_9 rfl (pj_cl_nc rfl) (s100_9)
theorem q100_12 : pj_row 100 12 = some (.bipush 27, 2, 0, 0, 0) := by decide +kernel
theorem s100_12 {L : pj_Loc} {st : List Value} {M : pj_Mem}  : pj_step 100 (12, L, st, M) = some (14, L, .int 27 :: st, M) := st_bipush q100_12 (by decide +kernel)
theorem x100_12 {L : pj_Loc} {st : List Value} {M : pj_Mem}  {o9 : Option Value × pj_Mem} : pj_Ends 100 (12, L, st, M) o9 = pj_Ends 100 (14, L, .int 27 :: st, M) o9 := pj_xs (s100_12)
theorem q100_14 : pj_row 100 14 = some (.iaload, 1, 0, 0, 0) := by decide +kernel
theorem s100_14 {L : pj_Loc} {st : List Value} {N S : Nat} {H : pj_Heap} {o : Nat} {i : Int32} : pj_step 100 (14, L, .int i :: .ref o :: st, (N, S, H)) = pj_pi 15 L st (N, S, H) (pj_arl (H o) 0 i) := st_iaload q100_14
theorem x100_14 {L : pj_Loc} {st : List Value} {N S : Nat} {H : pj_Heap} {o : Nat} {i : Int32} {o9 : Option Value × pj_Mem} : pj_Ends 100 (14, L, .int i :: .ref o :: st, (N, S, H)) o9 = pj_then 100 o9 (pj_pi 15 L st (N, S, H) (pj_arl (H o) 0 i)) := pj_xt q100_14 rfl (pj_cl_nc rfl) (s100_14)
theorem q100_15 : pj_row 100 15 = some (.imul, 1, 0, 0, 0) := by decide +kernel
theorem s100_15 {L : pj_Loc} {st : List Value} {M : pj_Mem} {x y : Int32} : pj_step 100 (15, L, .int y :: .int x :: st, M) = some (16, L, .int (x * y) :: st, M) := st_imul q100_15
theorem x100_15 {L : pj_Loc} {st : List Value} {M : pj_Mem} {x y : Int32} {o9 : Option Value × pj_Mem} : pj_Ends 100 (15, L, .int y :: .int x :: st, M) o9 = pj_Ends 100 (16, L, .int (x * y) :: st, M) o9 := pj_xs (s100_15)
theorem q100_16 : pj_row 100 16 = some (.iadd, 1, 0, 0, 0) := by decide +kernel
theorem s100_16 {L : pj_Loc} {st : List Value} {M : pj_Mem} {x y : Int32} : pj_step 100 (16, L, .int y :: .int x :: st, M) = some (17, L, .int (x + y) :: st, M) := st_iadd q100_16
theorem x100_16 {L : pj_Loc} {st : List Value} {M : pj_Mem} {x y : Int32} {o9 : Option Value × pj_Mem} : pj_Ends 100 (16, L, .int y :: .int x :: st, M) o9 = pj_Ends 100 (17, L, .int (x + y) :: st, M) o9 := pj_xs (s100_16)
theorem q100_17 : pj_row 100 17 = some (.iconst 4, 1, 0, 0, 0) := by decide +kernel
theorem s100_17 {L : pj_Loc} {st : List Value} {M : pj_Mem}  : pj_step 100 (17, L, st, M) = some (18, L, .int 4 :: st, M) := st_iconst q100_17 (by decide +kernel)
theorem x100_17 {L : pj_Loc} {st : List Value} {M : pj_Mem}  {o9 : Option Value × pj_Mem} : pj_Ends 100 (17, L, st, M) o9 = pj_Ends 100 (18, L, .int 4 :: st, M) o9 := pj_xs (s100_17)
theorem q100_18 : pj_row 100 18 = some (.aload_n 0, 1, 0, 0, 0) := by decide +kernel
theorem s100_18 {st : List Value} {M : pj_Mem} {l : pj_Loc} {x : Nat} : pj_step 100 (18, some (.ref x) :: l, st, M) = some (19, some (.ref x) :: l, .ref x :: st, M) := st_aload_n q100_18 rfl
theorem x100_18 {st : List Value} {M : pj_Mem} {l : pj_Loc} {x : Nat} {o9 : Option Value × pj_Mem} : pj_Ends 100 (18, some (.ref x) :: l, st, M) o9 = pj_Ends 100 (19, some (.ref x) :: l, .ref x :: st, M) o9 := pj_xs (s100_18)
theorem q100_19 : pj_row 100 19 = some (.getfield 7, 3, 6, 0, 0) := by decide +kernel
theorem s100_19 {L : pj_Loc} {st : List Value} {N S : Nat} {H : pj_Heap} {o : Nat} : pj_step 100 (19, L, .ref o :: st, (N, S, H)) = pj_pv 22 L st (N, S, H) (pj_fld (H o) 6 0) := st_getfield q100_19
theorem x100_19 {L : pj_Loc} {st : List Value} {N S : Nat} {H : pj_Heap} {o : Nat} {o9 : Option Value × pj_Mem} : pj_Ends 100 (19, L, .ref o :: st, (N, S, H)) o9 = pj_then 100 o9 (pj_pv 22 L st (N, S, H) (pj_fld (H o) 6 0)) := pj_xt q100_19 rfl (pj_cl_nc rfl) (s100_19)
theorem q100_22 : pj_row 100 22 = some (.bipush 28, 2, 0, 0, 0) := by decide +kernel
theorem s100_22 {L : pj_Loc} {st : List Value} {M : pj_Mem}  : pj_step 100 (22, L, st, M) = some (24, L, .int 28 :: st, M) := st_bipush q100_22 (by decide +kernel)
theorem x100_22 {L : pj_Loc} {st : List Value} {M : pj_Mem}  {o9 : Option Value × pj_Mem} : pj_Ends 100 (22, L, st, M) o9 = pj_Ends 100 (24, L, .int 28 :: st, M) o9 := pj_xs (s100_22)
theorem q100_24 : pj_row 100 24 = some (.iaload, 1, 0, 0, 0) := by decide +kernel
theorem s100_24 {L : pj_Loc} {st : List Value} {N S : Nat} {H : pj_Heap} {o : Nat} {i : Int32} : pj_step 100 (24, L, .int i :: .ref o :: st, (N, S, H)) = pj_pi 25 L st (N, S, H) (pj_arl (H o) 0 i) := st_iaload q100_24
theorem x100_24 {L : pj_Loc} {st : List Value} {N S : Nat} {H : pj_Heap} {o : Nat} {i : Int32} {o9 : Option Value × pj_Mem} : pj_Ends 100 (24, L, .int i :: .ref o :: st, (N, S, H)) o9 = pj_then 100 o9 (pj_pi 25 L st (N, S, H) (pj_arl (H o) 0 i)) := pj_xt q100_24 rfl (pj_cl_nc rfl) (s100_24)
theorem q100_25 : pj_row 100 25 = some (.imul, 1, 0, 0, 0) := by decide +kernel
theorem s100_25 {L : pj_Loc} {st : List Value} {M : pj_Mem} {x y : Int32} : pj_step 100 (25, L, .int y :: .int x :: st, M) = some (26, L, .int (x * y) :: st, M) := st_imul q100_25
theorem x100_25 {L : pj_Loc} {st : List Value} {M : pj_Mem} {x y : Int32} {o9 : Option Value × pj_Mem} : pj_Ends 100 (25, L, .int y :: .int x :: st, M) o9 = pj_Ends 100 (26, L, .int (x * y) :: st, M) o9 := pj_xs (s100_25)
theorem q100_26 : pj_row 100 26 = some (.iadd, 1, 0, 0, 0) := by decide +kernel
theorem s100_26 {L : pj_Loc} {st : List Value} {M : pj_Mem} {x y : Int32} : pj_step 100 (26, L, .int y :: .int x :: st, M) = some (27, L, .int (x + y) :: st, M) := st_iadd q100_26
theorem x100_26 {L : pj_Loc} {st : List Value} {M : pj_Mem} {x y : Int32} {o9 : Option Value × pj_Mem} : pj_Ends 100 (26, L, .int y :: .int x :: st, M) o9 = pj_Ends 100 (27, L, .int (x + y) :: st, M) o9 := pj_xs (s100_26)
theorem q100_27 : pj_row 100 27 = some (.ireturn, 1, 0, 0, 0) := by decide +kernel
theorem t100_27 {L : pj_Loc} {M : pj_Mem} {v : Int32} : pj_Ends 100 (27, L, [.int v], M) (some (.int v), M) := pj_Ends.ret q100_27 (pj_rtn_i rt100)
theorem rt101 : pj_rt 101 = some .int := rfl
theorem q101_0 : pj_row 101 0 = some (.iload_n 1, 1, 0, 0, 0) := by decide +kernel
theorem s101_0 {st : List Value} {M : pj_Mem} {l : pj_Loc} {a0 : Option Value} {x : Int32} : pj_step 101 (0, a0 :: some (.int x) :: l, st, M) = some (1, a0 :: some (.int x) :: l, .int x :: st, M) := st_iload_n q101_0 rfl
theorem x101_0 {st : List Value} {M : pj_Mem} {l : pj_Loc} {a0 : Option Value} {x : Int32} {o9 : Option Value × pj_Mem} : pj_Ends 101 (0, a0 :: some (.int x) :: l, st, M) o9 = pj_Ends 101 (1, a0 :: some (.int x) :: l, .int x :: st, M) o9 := pj_xs (s101_0)
theorem q101_1 : pj_row 101 1 = some (.invokestatic 137, 3, 99, 1, 0) := by decide +kernel
theorem e101_1 {L : pj_Loc} {st : List Value} {N S : Nat} {H : pj_Heap} {o : Option Value × pj_Mem} {M' : pj_Mem} {x0 : Int32} {r : Int32} (h4 : pj_le4 st = true) (h1 : pj_Ends 99 (0, [some (.int x0)], [], (N, S, H)) (some (.int r), M')) (h2 : pj_Ends 101 (4, L, .int r :: st, M') o) : pj_Ends 101 (1, L, .int x0 :: st, (N, S, H)) o := ec_s1 q101_1 (Or.inl rfl) h4 rfl h1 h2
theorem q101_4 : pj_row 101 4 = some (.ifCond .ne 5, 3, 9, 0, 0) := by decide +kernel
theorem s101_4 {L : pj_Loc} {st : List Value} {M : pj_Mem} {x : Int32} : pj_step 101 (4, L, .int x :: st, M) = some (if ¬ x = 0 then 9 else 7, L, st, M) := st_if_ne q101_4
theorem x101_4 {L : pj_Loc} {st : List Value} {M : pj_Mem} {x : Int32} {o9 : Option Value × pj_Mem} : pj_Ends 101 (4, L, .int x :: st, M) o9 = pj_Ends 101 (if ¬ x = 0 then 9 else 7, L, st, M) o9 := pj_xs (s101_4)
theorem q101_7 : pj_row 101 7 = some (.iconst (-1), 1, 0, 0, 0) := by decide +kernel
theorem s101_7 {L : pj_Loc} {st : List Value} {M : pj_Mem}  : pj_step 101 (7, L, st, M) = some (8, L, .int (-1) :: st, M) := st_iconst q101_7 (by decide +kernel)
theorem x101_7 {L : pj_Loc} {st : List Value} {M : pj_Mem}  {o9 : Option Value × pj_Mem} : pj_Ends 101 (7, L, st, M) o9 = pj_Ends 101 (8, L, .int (-1) :: st, M) o9 := pj_xs (s101_7)
theorem q101_8 : pj_row 101 8 = some (.ireturn, 1, 0, 0, 0) := by decide +kernel
theorem t101_8 {L : pj_Loc} {M : pj_Mem} {v : Int32} : pj_Ends 101 (8, L, [.int v], M) (some (.int v), M) := pj_Ends.ret q101_8 (pj_rtn_i rt101)
theorem q101_9 : pj_row 101 9 = some (.aload_n 0, 1, 0, 0, 0) := by decide +kernel
theorem s101_9 {st : List Value} {M : pj_Mem} {l : pj_Loc} {x : Nat} : pj_step 101 (9, some (.ref x) :: l, st, M) = some (10, some (.ref x) :: l, .ref x :: st, M) := st_aload_n q101_9 rfl
theorem x101_9 {st : List Value} {M : pj_Mem} {l : pj_Loc} {x : Nat} {o9 : Option Value × pj_Mem} : pj_Ends 101 (9, some (.ref x) :: l, st, M) o9 = pj_Ends 101 (10, some (.ref x) :: l, .ref x :: st, M) o9 := pj_xs (s101_9)
theorem q101_10 : pj_row 101 10 = some (.invokevirtual 143, 3, 102, 1, 0) := by decide +kernel
theorem e101_10 {L : pj_Loc} {st : List Value} {N S : Nat} {H : pj_Heap} {o : Option Value × pj_Mem} {M' : pj_Mem} {x0 : Nat} {r : Int32} (h4 : pj_le4 st = true) (hu : pj_isU 6 (H x0) = true) (h1 : pj_Ends 102 (0, [some (.ref x0), none, none], [], (N, S, H)) (some (.int r), M')) (h2 : pj_Ends 101 (13, L, .int r :: st, M') o) : pj_Ends 101 (10, L, .ref x0 :: st, (N, S, H)) o := ec_v1 q101_10 (Or.inl rfl) h4 hu rfl h1 h2
theorem q101_13 : pj_row 101 13 = some (.ifCond .eq 6, 3, 19, 0, 0) := by decide +kernel
theorem s101_13 {L : pj_Loc} {st : List Value} {M : pj_Mem} {x : Int32} : pj_step 101 (13, L, .int x :: st, M) = some (if x = 0 then 19 else 16, L, st, M) := st_if_eq q101_13
theorem x101_13 {L : pj_Loc} {st : List Value} {M : pj_Mem} {x : Int32} {o9 : Option Value × pj_Mem} : pj_Ends 101 (13, L, .int x :: st, M) o9 = pj_Ends 101 (if x = 0 then 19 else 16, L, st, M) o9 := pj_xs (s101_13)
theorem q101_16 : pj_row 101 16 = some (.bipush (-5), 2, 0, 0, 0) := by decide +kernel
theorem s101_16 {L : pj_Loc} {st : List Value} {M : pj_Mem}  : pj_step 101 (16, L, st, M) = some (18, L, .int (-5) :: st, M) := st_bipush q101_16 (by decide +kernel)
theorem x101_16 {L : pj_Loc} {st : List Value} {M : pj_Mem}  {o9 : Option Value × pj_Mem} : pj_Ends 101 (16, L, st, M) o9 = pj_Ends 101 (18, L, .int (-5) :: st, M) o9 := pj_xs (s101_16)
theorem q101_18 : pj_row 101 18 = some (.ireturn, 1, 0, 0, 0) := by decide +kernel
theorem t101_18 {L : pj_Loc} {M : pj_Mem} {v : Int32} : pj_Ends 101 (18, L, [.int v], M) (some (.int v), M) := pj_Ends.ret q101_18 (pj_rtn_i rt101)
theorem q101_19 : pj_row 101 19 = some (.aload_n 0, 1, 0, 0, 0) := by decide +kernel
theorem s101_19 {st : List Value} {M : pj_Mem} {l : pj_Loc} {x : Nat} : pj_step 101 (19, some (.ref x) :: l, st, M) = some (20, some (.ref x) :: l, .ref x :: st, M) := st_aload_n q101_19 rfl
theorem x101_19 {st : List Value} {M : pj_Mem} {l : pj_Loc} {x : Nat} {o9 : Option Value × pj_Mem} : pj_Ends 101 (19, some (.ref x) :: l, st, M) o9 = pj_Ends 101 (20, some (.ref x) :: l, .ref x :: st, M) o9 := pj_xs (s101_19)
theorem q101_20 : pj_row 101 20 = some (.invokevirtual 121, 3, 77, 1, 0) := by decide +kernel
theorem e101_20 {L : pj_Loc} {st : List Value} {N S : Nat} {H : pj_Heap} {o : Option Value × pj_Mem} {M' : pj_Mem} {x0 : Nat} (h4 : pj_le4 st = true) (hu : pj_isU 6 (H x0) = true) (h1 : pj_Ends 77 (0, [some (.ref x0), none], [], (N, S, H)) (none, M')) (h2 : pj_Ends 101 (23, L, st, M') o) : pj_Ends 101 (20, L, .ref x0 :: st, (N, S, H)) o := ec_v1 q101_20 (Or.inl rfl) h4 hu rfl h1 h2
theorem q101_23 : pj_row 101 23 = some (.iconst 1, 1, 0, 0, 0) := by decide +kernel
theorem s101_23 {L : pj_Loc} {st : List Value} {M : pj_Mem}  : pj_step 101 (23, L, st, M) = some (24, L, .int 1 :: st, M) := st_iconst q101_23 (by decide +kernel)
theorem x101_23 {L : pj_Loc} {st : List Value} {M : pj_Mem}  {o9 : Option Value × pj_Mem} : pj_Ends 101 (23, L, st, M) o9 = pj_Ends 101 (24, L, .int 1 :: st, M) o9 := pj_xs (s101_23)
theorem q101_24 : pj_row 101 24 = some (.aload_n 0, 1, 0, 0, 0) := by decide +kernel
theorem s101_24 {st : List Value} {M : pj_Mem} {l : pj_Loc} {x : Nat} : pj_step 101 (24, some (.ref x) :: l, st, M) = some (25, some (.ref x) :: l, .ref x :: st, M) := st_aload_n q101_24 rfl
theorem x101_24 {st : List Value} {M : pj_Mem} {l : pj_Loc} {x : Nat} {o9 : Option Value × pj_Mem} : pj_Ends 101 (24, some (.ref x) :: l, st, M) o9 = pj_Ends 101 (25, some (.ref x) :: l, .ref x :: st, M) o9 := pj_xs (s101_24)
theorem q101_25 : pj_row 101 25 = some (.getfield 7, 3, 6, 0, 0) := by decide +kernel
theorem s101_25 {L : pj_Loc} {st : List Value} {N S : Nat} {H : pj_Heap} {o : Nat} : pj_step 101 (25, L, .ref o :: st, (N, S, H)) = pj_pv 28 L st (N, S, H) (pj_fld (H o) 6 0) := st_getfield q101_25
theorem x101_25 {L : pj_Loc} {st : List Value} {N S : Nat} {H : pj_Heap} {o : Nat} {o9 : Option Value × pj_Mem} : pj_Ends 101 (25, L, .ref o :: st, (N, S, H)) o9 = pj_then 101 o9 (pj_pv 28 L st (N, S, H) (pj_fld (H o) 6 0)) := pj_xt q101_25 rfl (pj_cl_nc rfl) (s101_25)
theorem q101_28 : pj_row 101 28 = some (.bipush 14, 2, 0, 0, 0) := by decide +kernel
theorem s101_28 {L : pj_Loc} {st : List Value} {M : pj_Mem}  : pj_step 101 (28, L, st, M) = some (30, L, .int 14 :: st, M) := st_bipush q101_28 (by decide +kernel)
theorem x101_28 {L : pj_Loc} {st : List Value} {M : pj_Mem}  {o9 : Option Value × pj_Mem} : pj_Ends 101 (28, L, st, M) o9 = pj_Ends 101 (30, L, .int 14 :: st, M) o9 := pj_xs (s101_28)
theorem q101_30 : pj_row 101 30 = some (.iload_n 1, 1, 0, 0, 0) := by decide +kernel
theorem s101_30 {st : List Value} {M : pj_Mem} {l : pj_Loc} {a0 : Option Value} {x : Int32} : pj_step 101 (30, a0 :: some (.int x) :: l, st, M) = some (31, a0 :: some (.int x) :: l, .int x :: st, M) := st_iload_n q101_30 rfl
theorem x101_30 {st : List Value} {M : pj_Mem} {l : pj_Loc} {a0 : Option Value} {x : Int32} {o9 : Option Value × pj_Mem} : pj_Ends 101 (30, a0 :: some (.int x) :: l, st, M) o9 = pj_Ends 101 (31, a0 :: some (.int x) :: l, .int x :: st, M) o9 := pj_xs (s101_30)
theorem q101_31 : pj_row 101 31 = some (.iadd, 1, 0, 0, 0) := by decide +kernel
theorem s101_31 {L : pj_Loc} {st : List Value} {M : pj_Mem} {x y : Int32} : pj_step 101 (31, L, .int y :: .int x :: st, M) = some (32, L, .int (x + y) :: st, M) := st_iadd q101_31
theorem x101_31 {L : pj_Loc} {st : List Value} {M : pj_Mem} {x y : Int32} {o9 : Option Value × pj_Mem} : pj_Ends 101 (31, L, .int y :: .int x :: st, M) o9 = pj_Ends 101 (32, L, .int (x + y) :: st, M) o9 := pj_xs (s101_31)
theorem q101_32 : pj_row 101 32 = some (.iaload, 1, 0, 0, 0) := by decide +kernel
theorem s101_32 {L : pj_Loc} {st : List Value} {N S : Nat} {H : pj_Heap} {o : Nat} {i : Int32} : pj_step 101 (32, L, .int i :: .ref o :: st, (N, S, H)) = pj_pi 33 L st (N, S, H) (pj_arl (H o) 0 i) := st_iaload q101_32
theorem x101_32 {L : pj_Loc} {st : List Value} {N S : Nat} {H : pj_Heap} {o : Nat} {i : Int32} {o9 : Option Value × pj_Mem} : pj_Ends 101 (32, L, .int i :: .ref o :: st, (N, S, H)) o9 = pj_then 101 o9 (pj_pi 33 L st (N, S, H) (pj_arl (H o) 0 i)) := pj_xt q101_32 rfl (pj_cl_nc rfl) (s101_32)
theorem q101_33 : pj_row 101 33 = some (.isub, 1, 0, 0, 0) := by decide +kernel
theorem s101_33 {L : pj_Loc} {st : List Value} {M : pj_Mem} {x y : Int32} : pj_step 101 (33, L, .int y :: .int x :: st, M) = some (34, L, .int (x - y) :: st, M) := st_isub q101_33
theorem x101_33 {L : pj_Loc} {st : List Value} {M : pj_Mem} {x y : Int32} {o9 : Option Value × pj_Mem} : pj_Ends 101 (33, L, .int y :: .int x :: st, M) o9 = pj_Ends 101 (34, L, .int (x - y) :: st, M) o9 := pj_xs (s101_33)
theorem q101_34 : pj_row 101 34 = some (.istore_n 2, 1, 0, 0, 0) := by decide +kernel
theorem s101_34 {st : List Value} {M : pj_Mem} {l : pj_Loc} {a0 a1 a2 : Option Value} {x : Int32} (h : pj_long a1 = false) : pj_step 101 (34, a0 :: a1 :: a2 :: l, .int x :: st, M) = some (35, a0 :: a1 :: some (.int x) :: l, st, M) := st_istore_n q101_34 (pj_st_2 h)
theorem x101_34 {st : List Value} {M : pj_Mem} {l : pj_Loc} {a0 a1 a2 : Option Value} {x : Int32} (h : pj_long a1 = false) {o9 : Option Value × pj_Mem} : pj_Ends 101 (34, a0 :: a1 :: a2 :: l, .int x :: st, M) o9 = pj_Ends 101 (35, a0 :: a1 :: some (.int x) :: l, st, M) o9 := pj_xs (s101_34 h)
theorem q101_35 : pj_row 101 35 = some (.aload_n 0, 1, 0, 0, 0) := by decide +kernel
theorem s101_35 {st : List Value} {M : pj_Mem} {l : pj_Loc} {x : Nat} : pj_step 101 (35, some (.ref x) :: l, st, M) = some (36, some (.ref x) :: l, .ref x :: st, M) := st_aload_n q101_35 rfl
theorem x101_35 {st : List Value} {M : pj_Mem} {l : pj_Loc} {x : Nat} {o9 : Option Value × pj_Mem} : pj_Ends 101 (35, some (.ref x) :: l, st, M) o9 = pj_Ends 101 (36, some (.ref x) :: l, .ref x :: st, M) o9 := pj_xs (s101_35)
theorem q101_36 : pj_row 101 36 = some (.getfield 7, 3, 6, 0, 0) := by decide +kernel
theorem s101_36 {L : pj_Loc} {st : List Value} {N S : Nat} {H : pj_Heap} {o : Nat} : pj_step 101 (36, L, .ref o :: st, (N, S, H)) = pj_pv 39 L st (N, S, H) (pj_fld (H o) 6 0) := st_getfield q101_36
theorem x101_36 {L : pj_Loc} {st : List Value} {N S : Nat} {H : pj_Heap} {o : Nat} {o9 : Option Value × pj_Mem} : pj_Ends 101 (36, L, .ref o :: st, (N, S, H)) o9 = pj_then 101 o9 (pj_pv 39 L st (N, S, H) (pj_fld (H o) 6 0)) := pj_xt q101_36 rfl (pj_cl_nc rfl) (s101_36)
theorem q101_39 : pj_row 101 39 = some (.bipush 14, 2, 0, 0, 0) := by decide +kernel
theorem s101_39 {L : pj_Loc} {st : List Value} {M : pj_Mem}  : pj_step 101 (39, L, st, M) = some (41, L, .int 14 :: st, M) := st_bipush q101_39 (by decide +kernel)
theorem x101_39 {L : pj_Loc} {st : List Value} {M : pj_Mem}  {o9 : Option Value × pj_Mem} : pj_Ends 101 (39, L, st, M) o9 = pj_Ends 101 (41, L, .int 14 :: st, M) o9 := pj_xs (s101_39)
theorem q101_41 : pj_row 101 41 = some (.iload_n 1, 1, 0, 0, 0) := by decide +kernel
theorem s101_41 {st : List Value} {M : pj_Mem} {l : pj_Loc} {a0 : Option Value} {x : Int32} : pj_step 101 (41, a0 :: some (.int x) :: l, st, M) = some (42, a0 :: some (.int x) :: l, .int x :: st, M) := st_iload_n q101_41 rfl
theorem x101_41 {st : List Value} {M : pj_Mem} {l : pj_Loc} {a0 : Option Value} {x : Int32} {o9 : Option Value × pj_Mem} : pj_Ends 101 (41, a0 :: some (.int x) :: l, st, M) o9 = pj_Ends 101 (42, a0 :: some (.int x) :: l, .int x :: st, M) o9 := pj_xs (s101_41)
theorem q101_42 : pj_row 101 42 = some (.iadd, 1, 0, 0, 0) := by decide +kernel
theorem s101_42 {L : pj_Loc} {st : List Value} {M : pj_Mem} {x y : Int32} : pj_step 101 (42, L, .int y :: .int x :: st, M) = some (43, L, .int (x + y) :: st, M) := st_iadd q101_42
theorem x101_42 {L : pj_Loc} {st : List Value} {M : pj_Mem} {x y : Int32} {o9 : Option Value × pj_Mem} : pj_Ends 101 (42, L, .int y :: .int x :: st, M) o9 = pj_Ends 101 (43, L, .int (x + y) :: st, M) o9 := pj_xs (s101_42)
theorem q101_43 : pj_row 101 43 = some (.iconst 1, 1, 0, 0, 0) := by decide +kernel
theorem s101_43 {L : pj_Loc} {st : List Value} {M : pj_Mem}  : pj_step 101 (43, L, st, M) = some (44, L, .int 1 :: st, M) := st_iconst q101_43 (by decide +kernel)
theorem x101_43 {L : pj_Loc} {st : List Value} {M : pj_Mem}  {o9 : Option Value × pj_Mem} : pj_Ends 101 (43, L, st, M) o9 = pj_Ends 101 (44, L, .int 1 :: st, M) o9 := pj_xs (s101_43)
theorem q101_44 : pj_row 101 44 = some (.iastore, 1, 0, 0, 0) := by decide +kernel
theorem s101_44 {L : pj_Loc} {st : List Value} {N S : Nat} {H : pj_Heap} {o : Nat} {i x : Int32} : pj_step 101 (44, L, .int x :: .int i :: .ref o :: st, (N, S, H)) = pj_set 45 L st (N, S, H) o (pj_ars (H o) 0 i x) := st_iastore q101_44
theorem x101_44 {L : pj_Loc} {st : List Value} {N S : Nat} {H : pj_Heap} {o : Nat} {i x : Int32} {o9 : Option Value × pj_Mem} : pj_Ends 101 (44, L, .int x :: .int i :: .ref o :: st, (N, S, H)) o9 = pj_then 101 o9 (pj_set 45 L st (N, S, H) o (pj_ars (H o) 0 i x)) := pj_xt q101_44 rfl (pj_cl_nc rfl) (s101_44)
theorem q101_45 : pj_row 101 45 = some (.aload_n 0, 1, 0, 0, 0) := by decide +kernel
theorem s101_45 {st : List Value} {M : pj_Mem} {l : pj_Loc} {x : Nat} : pj_step 101 (45, some (.ref x) :: l, st, M) = some (46, some (.ref x) :: l, .ref x :: st, M) := st_aload_n q101_45 rfl
theorem x101_45 {st : List Value} {M : pj_Mem} {l : pj_Loc} {x : Nat} {o9 : Option Value × pj_Mem} : pj_Ends 101 (45, some (.ref x) :: l, st, M) o9 = pj_Ends 101 (46, some (.ref x) :: l, .ref x :: st, M) o9 := pj_xs (s101_45)
theorem q101_46 : pj_row 101 46 = some (.getfield 7, 3, 6, 0, 0) := by decide +kernel
theorem s101_46 {L : pj_Loc} {st : List Value} {N S : Nat} {H : pj_Heap} {o : Nat} : pj_step 101 (46, L, .ref o :: st, (N, S, H)) = pj_pv 49 L st (N, S, H) (pj_fld (H o) 6 0) := st_getfield q101_46
theorem x101_46 {L : pj_Loc} {st : List Value} {N S : Nat} {H : pj_Heap} {o : Nat} {o9 : Option Value × pj_Mem} : pj_Ends 101 (46, L, .ref o :: st, (N, S, H)) o9 = pj_then 101 o9 (pj_pv 49 L st (N, S, H) (pj_fld (H o) 6 0)) := pj_xt q101_46 rfl (pj_cl_nc rfl) (s101_46)
theorem q101_49 : pj_row 101 49 = some (.bipush 8, 2, 0, 0, 0) := by decide +kernel
theorem s101_49 {L : pj_Loc} {st : List Value} {M : pj_Mem}  : pj_step 101 (49, L, st, M) = some (51, L, .int 8 :: st, M) := st_bipush q101_49 (by decide +kernel)
theorem x101_49 {L : pj_Loc} {st : List Value} {M : pj_Mem}  {o9 : Option Value × pj_Mem} : pj_Ends 101 (49, L, st, M) o9 = pj_Ends 101 (51, L, .int 8 :: st, M) o9 := pj_xs (s101_49)
theorem q101_51 : pj_row 101 51 = some (.iload_n 1, 1, 0, 0, 0) := by decide +kernel
theorem s101_51 {st : List Value} {M : pj_Mem} {l : pj_Loc} {a0 : Option Value} {x : Int32} : pj_step 101 (51, a0 :: some (.int x) :: l, st, M) = some (52, a0 :: some (.int x) :: l, .int x :: st, M) := st_iload_n q101_51 rfl
theorem x101_51 {st : List Value} {M : pj_Mem} {l : pj_Loc} {a0 : Option Value} {x : Int32} {o9 : Option Value × pj_Mem} : pj_Ends 101 (51, a0 :: some (.int x) :: l, st, M) o9 = pj_Ends 101 (52, a0 :: some (.int x) :: l, .int x :: st, M) o9 := pj_xs (s101_51)
theorem q101_52 : pj_row 101 52 = some (.iadd, 1, 0, 0, 0) := by decide +kernel
theorem s101_52 {L : pj_Loc} {st : List Value} {M : pj_Mem} {x y : Int32} : pj_step 101 (52, L, .int y :: .int x :: st, M) = some (53, L, .int (x + y) :: st, M) := st_iadd q101_52
theorem x101_52 {L : pj_Loc} {st : List Value} {M : pj_Mem} {x y : Int32} {o9 : Option Value × pj_Mem} : pj_Ends 101 (52, L, .int y :: .int x :: st, M) o9 = pj_Ends 101 (53, L, .int (x + y) :: st, M) o9 := pj_xs (s101_52)
theorem q101_53 : pj_row 101 53 = some (.iconst 0, 1, 0, 0, 0) := by decide +kernel
theorem s101_53 {L : pj_Loc} {st : List Value} {M : pj_Mem}  : pj_step 101 (53, L, st, M) = some (54, L, .int 0 :: st, M) := st_iconst q101_53 (by decide +kernel)
theorem x101_53 {L : pj_Loc} {st : List Value} {M : pj_Mem}  {o9 : Option Value × pj_Mem} : pj_Ends 101 (53, L, st, M) o9 = pj_Ends 101 (54, L, .int 0 :: st, M) o9 := pj_xs (s101_53)
theorem q101_54 : pj_row 101 54 = some (.iastore, 1, 0, 0, 0) := by decide +kernel
theorem s101_54 {L : pj_Loc} {st : List Value} {N S : Nat} {H : pj_Heap} {o : Nat} {i x : Int32} : pj_step 101 (54, L, .int x :: .int i :: .ref o :: st, (N, S, H)) = pj_set 55 L st (N, S, H) o (pj_ars (H o) 0 i x) := st_iastore q101_54
theorem x101_54 {L : pj_Loc} {st : List Value} {N S : Nat} {H : pj_Heap} {o : Nat} {i x : Int32} {o9 : Option Value × pj_Mem} : pj_Ends 101 (54, L, .int x :: .int i :: .ref o :: st, (N, S, H)) o9 = pj_then 101 o9 (pj_set 55 L st (N, S, H) o (pj_ars (H o) 0 i x)) := pj_xt q101_54 rfl (pj_cl_nc rfl) (s101_54)
theorem q101_55 : pj_row 101 55 = some (.aload_n 0, 1, 0, 0, 0) := by decide +kernel
theorem s101_55 {st : List Value} {M : pj_Mem} {l : pj_Loc} {x : Nat} : pj_step 101 (55, some (.ref x) :: l, st, M) = some (56, some (.ref x) :: l, .ref x :: st, M) := st_aload_n q101_55 rfl
theorem x101_55 {st : List Value} {M : pj_Mem} {l : pj_Loc} {x : Nat} {o9 : Option Value × pj_Mem} : pj_Ends 101 (55, some (.ref x) :: l, st, M) o9 = pj_Ends 101 (56, some (.ref x) :: l, .ref x :: st, M) o9 := pj_xs (s101_55)
theorem q101_56 : pj_row 101 56 = some (.getfield 7, 3, 6, 0, 0) := by decide +kernel
theorem s101_56 {L : pj_Loc} {st : List Value} {N S : Nat} {H : pj_Heap} {o : Nat} : pj_step 101 (56, L, .ref o :: st, (N, S, H)) = pj_pv 59 L st (N, S, H) (pj_fld (H o) 6 0) := st_getfield q101_56
theorem x101_56 {L : pj_Loc} {st : List Value} {N S : Nat} {H : pj_Heap} {o : Nat} {o9 : Option Value × pj_Mem} : pj_Ends 101 (56, L, .ref o :: st, (N, S, H)) o9 = pj_then 101 o9 (pj_pv 59 L st (N, S, H) (pj_fld (H o) 6 0)) := pj_xt q101_56 rfl (pj_cl_nc rfl) (s101_56)
theorem q101_59 : pj_row 101 59 = some (.bipush 11, 2, 0, 0, 0) := by decide +kernel
theorem s101_59 {L : pj_Loc} {st : List Value} {M : pj_Mem}  : pj_step 101 (59, L, st, M) = some (61, L, .int 11 :: st, M) := st_bipush q101_59 (by decide +kernel)
theorem x101_59 {L : pj_Loc} {st : List Value} {M : pj_Mem}  {o9 : Option Value × pj_Mem} : pj_Ends 101 (59, L, st, M) o9 = pj_Ends 101 (61, L, .int 11 :: st, M) o9 := pj_xs (s101_59)
theorem q101_61 : pj_row 101 61 = some (.iload_n 1, 1, 0, 0, 0) := by decide +kernel
theorem s101_61 {st : List Value} {M : pj_Mem} {l : pj_Loc} {a0 : Option Value} {x : Int32} : pj_step 101 (61, a0 :: some (.int x) :: l, st, M) = some (62, a0 :: some (.int x) :: l, .int x :: st, M) := st_iload_n q101_61 rfl
theorem x101_61 {st : List Value} {M : pj_Mem} {l : pj_Loc} {a0 : Option Value} {x : Int32} {o9 : Option Value × pj_Mem} : pj_Ends 101 (61, a0 :: some (.int x) :: l, st, M) o9 = pj_Ends 101 (62, a0 :: some (.int x) :: l, .int x :: st, M) o9 := pj_xs (s101_61)
theorem q101_62 : pj_row 101 62 = some (.iadd, 1, 0, 0, 0) := by decide +kernel
theorem s101_62 {L : pj_Loc} {st : List Value} {M : pj_Mem} {x y : Int32} : pj_step 101 (62, L, .int y :: .int x :: st, M) = some (63, L, .int (x + y) :: st, M) := st_iadd q101_62
theorem x101_62 {L : pj_Loc} {st : List Value} {M : pj_Mem} {x y : Int32} {o9 : Option Value × pj_Mem} : pj_Ends 101 (62, L, .int y :: .int x :: st, M) o9 = pj_Ends 101 (63, L, .int (x + y) :: st, M) o9 := pj_xs (s101_62)
theorem q101_63 : pj_row 101 63 = some (.iconst 0, 1, 0, 0, 0) := by decide +kernel
theorem s101_63 {L : pj_Loc} {st : List Value} {M : pj_Mem}  : pj_step 101 (63, L, st, M) = some (64, L, .int 0 :: st, M) := st_iconst q101_63 (by decide +kernel)
theorem x101_63 {L : pj_Loc} {st : List Value} {M : pj_Mem}  {o9 : Option Value × pj_Mem} : pj_Ends 101 (63, L, st, M) o9 = pj_Ends 101 (64, L, .int 0 :: st, M) o9 := pj_xs (s101_63)
theorem q101_64 : pj_row 101 64 = some (.iastore, 1, 0, 0, 0) := by decide +kernel
theorem s101_64 {L : pj_Loc} {st : List Value} {N S : Nat} {H : pj_Heap} {o : Nat} {i x : Int32} : pj_step 101 (64, L, .int x :: .int i :: .ref o :: st, (N, S, H)) = pj_set 65 L st (N, S, H) o (pj_ars (H o) 0 i x) := st_iastore q101_64
theorem x101_64 {L : pj_Loc} {st : List Value} {N S : Nat} {H : pj_Heap} {o : Nat} {i x : Int32} {o9 : Option Value × pj_Mem} : pj_Ends 101 (64, L, .int x :: .int i :: .ref o :: st, (N, S, H)) o9 = pj_then 101 o9 (pj_set 65 L st (N, S, H) o (pj_ars (H o) 0 i x)) := pj_xt q101_64 rfl (pj_cl_nc rfl) (s101_64)
theorem q101_65 : pj_row 101 65 = some (.aload_n 0, 1, 0, 0, 0) := by decide +kernel
theorem s101_65 {st : List Value} {M : pj_Mem} {l : pj_Loc} {x : Nat} : pj_step 101 (65, some (.ref x) :: l, st, M) = some (66, some (.ref x) :: l, .ref x :: st, M) := st_aload_n q101_65 rfl
theorem x101_65 {st : List Value} {M : pj_Mem} {l : pj_Loc} {x : Nat} {o9 : Option Value × pj_Mem} : pj_Ends 101 (65, some (.ref x) :: l, st, M) o9 = pj_Ends 101 (66, some (.ref x) :: l, .ref x :: st, M) o9 := pj_xs (s101_65)
theorem q101_66 : pj_row 101 66 = some (.getfield 7, 3, 6, 0, 0) := by decide +kernel
theorem s101_66 {L : pj_Loc} {st : List Value} {N S : Nat} {H : pj_Heap} {o : Nat} : pj_step 101 (66, L, .ref o :: st, (N, S, H)) = pj_pv 69 L st (N, S, H) (pj_fld (H o) 6 0) := st_getfield q101_66
theorem x101_66 {L : pj_Loc} {st : List Value} {N S : Nat} {H : pj_Heap} {o : Nat} {o9 : Option Value × pj_Mem} : pj_Ends 101 (66, L, .ref o :: st, (N, S, H)) o9 = pj_then 101 o9 (pj_pv 69 L st (N, S, H) (pj_fld (H o) 6 0)) := pj_xt q101_66 rfl (pj_cl_nc rfl) (s101_66)
theorem q101_69 : pj_row 101 69 = some (.bipush 17, 2, 0, 0, 0) := by decide +kernel
theorem s101_69 {L : pj_Loc} {st : List Value} {M : pj_Mem}  : pj_step 101 (69, L, st, M) = some (71, L, .int 17 :: st, M) := st_bipush q101_69 (by decide +kernel)
theorem x101_69 {L : pj_Loc} {st : List Value} {M : pj_Mem}  {o9 : Option Value × pj_Mem} : pj_Ends 101 (69, L, st, M) o9 = pj_Ends 101 (71, L, .int 17 :: st, M) o9 := pj_xs (s101_69)
theorem q101_71 : pj_row 101 71 = some (.iload_n 1, 1, 0, 0, 0) := by decide +kernel
theorem s101_71 {st : List Value} {M : pj_Mem} {l : pj_Loc} {a0 : Option Value} {x : Int32} : pj_step 101 (71, a0 :: some (.int x) :: l, st, M) = some (72, a0 :: some (.int x) :: l, .int x :: st, M) := st_iload_n q101_71 rfl
theorem x101_71 {st : List Value} {M : pj_Mem} {l : pj_Loc} {a0 : Option Value} {x : Int32} {o9 : Option Value × pj_Mem} : pj_Ends 101 (71, a0 :: some (.int x) :: l, st, M) o9 = pj_Ends 101 (72, a0 :: some (.int x) :: l, .int x :: st, M) o9 := pj_xs (s101_71)
theorem q101_72 : pj_row 101 72 = some (.iadd, 1, 0, 0, 0) := by decide +kernel
theorem s101_72 {L : pj_Loc} {st : List Value} {M : pj_Mem} {x y : Int32} : pj_step 101 (72, L, .int y :: .int x :: st, M) = some (73, L, .int (x + y) :: st, M) := st_iadd q101_72
theorem x101_72 {L : pj_Loc} {st : List Value} {M : pj_Mem} {x y : Int32} {o9 : Option Value × pj_Mem} : pj_Ends 101 (72, L, .int y :: .int x :: st, M) o9 = pj_Ends 101 (73, L, .int (x + y) :: st, M) o9 := pj_xs (s101_72)
theorem q101_73 : pj_row 101 73 = some (.iconst 0, 1, 0, 0, 0) := by decide +kernel
theorem s101_73 {L : pj_Loc} {st : List Value} {M : pj_Mem}  : pj_step 101 (73, L, st, M) = some (74, L, .int 0 :: st, M) := st_iconst q101_73 (by decide +kernel)
theorem x101_73 {L : pj_Loc} {st : List Value} {M : pj_Mem}  {o9 : Option Value × pj_Mem} : pj_Ends 101 (73, L, st, M) o9 = pj_Ends 101 (74, L, .int 0 :: st, M) o9 := pj_xs (s101_73)
theorem q101_74 : pj_row 101 74 = some (.iastore, 1, 0, 0, 0) := by decide +kernel
theorem s101_74 {L : pj_Loc} {st : List Value} {N S : Nat} {H : pj_Heap} {o : Nat} {i x : Int32} : pj_step 101 (74, L, .int x :: .int i :: .ref o :: st, (N, S, H)) = pj_set 75 L st (N, S, H) o (pj_ars (H o) 0 i x) := st_iastore q101_74
theorem x101_74 {L : pj_Loc} {st : List Value} {N S : Nat} {H : pj_Heap} {o : Nat} {i x : Int32} {o9 : Option Value × pj_Mem} : pj_Ends 101 (74, L, .int x :: .int i :: .ref o :: st, (N, S, H)) o9 = pj_then 101 o9 (pj_set 75 L st (N, S, H) o (pj_ars (H o) 0 i x)) := pj_xt q101_74 rfl (pj_cl_nc rfl) (s101_74)
theorem q101_75 : pj_row 101 75 = some (.aload_n 0, 1, 0, 0, 0) := by decide +kernel
theorem s101_75 {st : List Value} {M : pj_Mem} {l : pj_Loc} {x : Nat} : pj_step 101 (75, some (.ref x) :: l, st, M) = some (76, some (.ref x) :: l, .ref x :: st, M) := st_aload_n q101_75 rfl
theorem x101_75 {st : List Value} {M : pj_Mem} {l : pj_Loc} {x : Nat} {o9 : Option Value × pj_Mem} : pj_Ends 101 (75, some (.ref x) :: l, st, M) o9 = pj_Ends 101 (76, some (.ref x) :: l, .ref x :: st, M) o9 := pj_xs (s101_75)
theorem q101_76 : pj_row 101 76 = some (.iload_n 2, 1, 0, 0, 0) := by decide +kernel
theorem s101_76 {st : List Value} {M : pj_Mem} {l : pj_Loc} {a0 a1 : Option Value} {x : Int32} : pj_step 101 (76, a0 :: a1 :: some (.int x) :: l, st, M) = some (77, a0 :: a1 :: some (.int x) :: l, .int x :: st, M) := st_iload_n q101_76 rfl
theorem x101_76 {st : List Value} {M : pj_Mem} {l : pj_Loc} {a0 a1 : Option Value} {x : Int32} {o9 : Option Value × pj_Mem} : pj_Ends 101 (76, a0 :: a1 :: some (.int x) :: l, st, M) o9 = pj_Ends 101 (77, a0 :: a1 :: some (.int x) :: l, .int x :: st, M) o9 := pj_xs (s101_76)
theorem q101_77 : pj_row 101 77 = some (.invokevirtual 124, 3, 78, 2, 0) := by decide +kernel
theorem e101_77 {L : pj_Loc} {st : List Value} {N S : Nat} {H : pj_Heap} {o : Option Value × pj_Mem} {M' : pj_Mem} {x0 : Nat} {x1 : Int32} {r : Int32} (h4 : pj_le4 st = true) (hu : pj_isU 6 (H x0) = true) (h1 : pj_Ends 78 (0, [some (.ref x0), some (.int x1), none], [], (N, S, H)) (some (.int r), M')) (h2 : pj_Ends 101 (80, L, .int r :: st, M') o) : pj_Ends 101 (77, L, .int x1 :: .ref x0 :: st, (N, S, H)) o := ec_v2 q101_77 (Or.inl rfl) h4 hu rfl h1 h2
theorem q101_80 : pj_row 101 80 = some (.ireturn, 1, 0, 0, 0) := by decide +kernel
theorem t101_80 {L : pj_Loc} {M : pj_Mem} {v : Int32} : pj_Ends 101 (80, L, [.int v], M) (some (.int v), M) := pj_Ends.ret q101_80 (pj_rtn_i rt101)
theorem rt102 : pj_rt 102 = some .int := rfl
theorem q102_0 : pj_row 102 0 = some (.iconst 0, 1, 0, 0, 0) := by decide +kernel
theorem s102_0 {L : pj_Loc} {st : List Value} {M : pj_Mem}  : pj_step 102 (0, L, st, M) = some (1, L, .int 0 :: st, M) := st_iconst q102_0 (by decide +kernel)
theorem x102_0 {L : pj_Loc} {st : List Value} {M : pj_Mem}  {o9 : Option Value × pj_Mem} : pj_Ends 102 (0, L, st, M) o9 = pj_Ends 102 (1, L, .int 0 :: st, M) o9 := pj_xs (s102_0)
theorem q102_1 : pj_row 102 1 = some (.istore_n 1, 1, 0, 0, 0) := by decide +kernel
theorem s102_1 {st : List Value} {M : pj_Mem} {l : pj_Loc} {a0 a1 : Option Value} {x : Int32} (h : pj_long a0 = false) : pj_step 102 (1, a0 :: a1 :: l, .int x :: st, M) = some (2, a0 :: some (.int x) :: l, st, M) := st_istore_n q102_1 (pj_st_1 h)
theorem x102_1 {st : List Value} {M : pj_Mem} {l : pj_Loc} {a0 a1 : Option Value} {x : Int32} (h : pj_long a0 = false) {o9 : Option Value × pj_Mem} : pj_Ends 102 (1, a0 :: a1 :: l, .int x :: st, M) o9 = pj_Ends 102 (2, a0 :: some (.int x) :: l, st, M) o9 := pj_xs (s102_1 h)
theorem q102_2 : pj_row 102 2 = some (.iconst 0, 1, 0, 0, 0) := by decide +kernel
theorem s102_2 {L : pj_Loc} {st : List Value} {M : pj_Mem}  : pj_step 102 (2, L, st, M) = some (3, L, .int 0 :: st, M) := st_iconst q102_2 (by decide +kernel)
theorem x102_2 {L : pj_Loc} {st : List Value} {M : pj_Mem}  {o9 : Option Value × pj_Mem} : pj_Ends 102 (2, L, st, M) o9 = pj_Ends 102 (3, L, .int 0 :: st, M) o9 := pj_xs (s102_2)
theorem q102_3 : pj_row 102 3 = some (.istore_n 2, 1, 0, 0, 0) := by decide +kernel
theorem s102_3 {st : List Value} {M : pj_Mem} {l : pj_Loc} {a0 a1 a2 : Option Value} {x : Int32} (h : pj_long a1 = false) : pj_step 102 (3, a0 :: a1 :: a2 :: l, .int x :: st, M) = some (4, a0 :: a1 :: some (.int x) :: l, st, M) := st_istore_n q102_3 (pj_st_2 h)
theorem x102_3 {st : List Value} {M : pj_Mem} {l : pj_Loc} {a0 a1 a2 : Option Value} {x : Int32} (h : pj_long a1 = false) {o9 : Option Value × pj_Mem} : pj_Ends 102 (3, a0 :: a1 :: a2 :: l, .int x :: st, M) o9 = pj_Ends 102 (4, a0 :: a1 :: some (.int x) :: l, st, M) o9 := pj_xs (s102_3 h)
theorem q102_4 : pj_row 102 4 = some (.iload_n 2, 1, 0, 0, 0) := by decide +kernel
theorem s102_4 {st : List Value} {M : pj_Mem} {l : pj_Loc} {a0 a1 : Option Value} {x : Int32} : pj_step 102 (4, a0 :: a1 :: some (.int x) :: l, st, M) = some (5, a0 :: a1 :: some (.int x) :: l, .int x :: st, M) := st_iload_n q102_4 rfl
theorem x102_4 {st : List Value} {M : pj_Mem} {l : pj_Loc} {a0 a1 : Option Value} {x : Int32} {o9 : Option Value × pj_Mem} : pj_Ends 102 (4, a0 :: a1 :: some (.int x) :: l, st, M) o9 = pj_Ends 102 (5, a0 :: a1 :: some (.int x) :: l, .int x :: st, M) o9 := pj_xs (s102_4)
theorem q102_5 : pj_row 102 5 = some (.iconst 3, 1, 0, 0, 0) := by decide +kernel
theorem s102_5 {L : pj_Loc} {st : List Value} {M : pj_Mem}  : pj_step 102 (5, L, st, M) = some (6, L, .int 3 :: st, M) := st_iconst q102_5 (by decide +kernel)
theorem x102_5 {L : pj_Loc} {st : List Value} {M : pj_Mem}  {o9 : Option Value × pj_Mem} : pj_Ends 102 (5, L, st, M) o9 = pj_Ends 102 (6, L, .int 3 :: st, M) o9 := pj_xs (s102_5)
theorem q102_6 : pj_row 102 6 = some (.if_icmp .ge 33, 3, 39, 0, 0) := by decide +kernel
theorem s102_6 {L : pj_Loc} {st : List Value} {M : pj_Mem} {x y : Int32} : pj_step 102 (6, L, .int y :: .int x :: st, M) = some (if y ≤ x then 39 else 9, L, st, M) := st_icmp_ge q102_6
theorem x102_6 {L : pj_Loc} {st : List Value} {M : pj_Mem} {x y : Int32} {o9 : Option Value × pj_Mem} : pj_Ends 102 (6, L, .int y :: .int x :: st, M) o9 = pj_Ends 102 (if y ≤ x then 39 else 9, L, st, M) o9 := pj_xs (s102_6)
theorem q102_9 : pj_row 102 9 = some (.iload_n 1, 1, 0, 0, 0) := by decide +kernel
theorem s102_9 {st : List Value} {M : pj_Mem} {l : pj_Loc} {a0 : Option Value} {x : Int32} : pj_step 102 (9, a0 :: some (.int x) :: l, st, M) = some (10, a0 :: some (.int x) :: l, .int x :: st, M) := st_iload_n q102_9 rfl
theorem x102_9 {st : List Value} {M : pj_Mem} {l : pj_Loc} {a0 : Option Value} {x : Int32} {o9 : Option Value × pj_Mem} : pj_Ends 102 (9, a0 :: some (.int x) :: l, st, M) o9 = pj_Ends 102 (10, a0 :: some (.int x) :: l, .int x :: st, M) o9 := pj_xs (s102_9)
theorem q102_10 : pj_row 102 10 = some (.aload_n 0, 1, 0, 0, 0) := by decide +kernel
theorem s102_10 {st : List Value} {M : pj_Mem} {l : pj_Loc} {x : Nat} : pj_step 102 (10, some (.ref x) :: l, st, M) = some (11, some (.ref x) :: l, .ref x :: st, M) := st_aload_n q102_10 rfl
theorem x102_10 {st : List Value} {M : pj_Mem} {l : pj_Loc} {x : Nat} {o9 : Option Value × pj_Mem} : pj_Ends 102 (10, some (.ref x) :: l, st, M) o9 = pj_Ends 102 (11, some (.ref x) :: l, .ref x :: st, M) o9 := pj_xs (s102_10)
theorem q102_11 : pj_row 102 11 = some (.getfield 7, 3, 6, 0, 0) := by decide +kernel
theorem s102_11 {L : pj_Loc} {st : List Value} {N S : Nat} {H : pj_Heap} {o : Nat} : pj_step 102 (11, L, .ref o :: st, (N, S, H)) = pj_pv 14 L st (N, S, H) (pj_fld (H o) 6 0) := st_getfield q102_11
theorem x102_11 {L : pj_Loc} {st : List Value} {N S : Nat} {H : pj_Heap} {o : Nat} {o9 : Option Value × pj_Mem} : pj_Ends 102 (11, L, .ref o :: st, (N, S, H)) o9 = pj_then 102 o9 (pj_pv 14 L st (N, S, H) (pj_fld (H o) 6 0)) := pj_xt q102_11 rfl (pj_cl_nc rfl) (s102_11)
theorem q102_14 : pj_row 102 14 = some (.bipush 23, 2, 0, 0, 0) := by decide +kernel
theorem s102_14 {L : pj_Loc} {st : List Value} {M : pj_Mem}  : pj_step 102 (14, L, st, M) = some (16, L, .int 23 :: st, M) := st_bipush q102_14 (by decide +kernel)
theorem x102_14 {L : pj_Loc} {st : List Value} {M : pj_Mem}  {o9 : Option Value × pj_Mem} : pj_Ends 102 (14, L, st, M) o9 = pj_Ends 102 (16, L, .int 23 :: st, M) o9 := pj_xs (s102_14)
theorem q102_16 : pj_row 102 16 = some (.iload_n 2, 1, 0, 0, 0) := by decide +kernel
theorem s102_16 {st : List Value} {M : pj_Mem} {l : pj_Loc} {a0 a1 : Option Value} {x : Int32} : pj_step 102 (16, a0 :: a1 :: some (.int x) :: l, st, M) = some (17, a0 :: a1 :: some (.int x) :: l, .int x :: st, M) := st_iload_n q102_16 rfl
theorem x102_16 {st : List Value} {M : pj_Mem} {l : pj_Loc} {a0 a1 : Option Value} {x : Int32} {o9 : Option Value × pj_Mem} : pj_Ends 102 (16, a0 :: a1 :: some (.int x) :: l, st, M) o9 = pj_Ends 102 (17, a0 :: a1 :: some (.int x) :: l, .int x :: st, M) o9 := pj_xs (s102_16)
theorem q102_17 : pj_row 102 17 = some (.iadd, 1, 0, 0, 0) := by decide +kernel
theorem s102_17 {L : pj_Loc} {st : List Value} {M : pj_Mem} {x y : Int32} : pj_step 102 (17, L, .int y :: .int x :: st, M) = some (18, L, .int (x + y) :: st, M) := st_iadd q102_17
theorem x102_17 {L : pj_Loc} {st : List Value} {M : pj_Mem} {x y : Int32} {o9 : Option Value × pj_Mem} : pj_Ends 102 (17, L, .int y :: .int x :: st, M) o9 = pj_Ends 102 (18, L, .int (x + y) :: st, M) o9 := pj_xs (s102_17)
theorem q102_18 : pj_row 102 18 = some (.iaload, 1, 0, 0, 0) := by decide +kernel
theorem s102_18 {L : pj_Loc} {st : List Value} {N S : Nat} {H : pj_Heap} {o : Nat} {i : Int32} : pj_step 102 (18, L, .int i :: .ref o :: st, (N, S, H)) = pj_pi 19 L st (N, S, H) (pj_arl (H o) 0 i) := st_iaload q102_18
theorem x102_18 {L : pj_Loc} {st : List Value} {N S : Nat} {H : pj_Heap} {o : Nat} {i : Int32} {o9 : Option Value × pj_Mem} : pj_Ends 102 (18, L, .int i :: .ref o :: st, (N, S, H)) o9 = pj_then 102 o9 (pj_pi 19 L st (N, S, H) (pj_arl (H o) 0 i)) := pj_xt q102_18 rfl (pj_cl_nc rfl) (s102_18)
theorem q102_19 : pj_row 102 19 = some (.bipush (-6), 2, 0, 0, 0) := by decide +kernel
theorem s102_19 {L : pj_Loc} {st : List Value} {M : pj_Mem}  : pj_step 102 (19, L, st, M) = some (21, L, .int (-6) :: st, M) := st_bipush q102_19 (by decide +kernel)
theorem x102_19 {L : pj_Loc} {st : List Value} {M : pj_Mem}  {o9 : Option Value × pj_Mem} : pj_Ends 102 (19, L, st, M) o9 = pj_Ends 102 (21, L, .int (-6) :: st, M) o9 := pj_xs (s102_19)
theorem q102_21 : pj_row 102 21 = some (.if_icmp .ne 7, 3, 28, 0, 0) := by decide +kernel
theorem s102_21 {L : pj_Loc} {st : List Value} {M : pj_Mem} {x y : Int32} : pj_step 102 (21, L, .int y :: .int x :: st, M) = some (if ¬ x = y then 28 else 24, L, st, M) := st_icmp_ne q102_21
theorem x102_21 {L : pj_Loc} {st : List Value} {M : pj_Mem} {x y : Int32} {o9 : Option Value × pj_Mem} : pj_Ends 102 (21, L, .int y :: .int x :: st, M) o9 = pj_Ends 102 (if ¬ x = y then 28 else 24, L, st, M) o9 := pj_xs (s102_21)
theorem q102_24 : pj_row 102 24 = some (.iconst 0, 1, 0, 0, 0) := by decide +kernel
theorem s102_24 {L : pj_Loc} {st : List Value} {M : pj_Mem}  : pj_step 102 (24, L, st, M) = some (25, L, .int 0 :: st, M) := st_iconst q102_24 (by decide +kernel)
theorem x102_24 {L : pj_Loc} {st : List Value} {M : pj_Mem}  {o9 : Option Value × pj_Mem} : pj_Ends 102 (24, L, st, M) o9 = pj_Ends 102 (25, L, .int 0 :: st, M) o9 := pj_xs (s102_24)
theorem q102_25 : pj_row 102 25 = some (.goto 6, 3, 31, 0, 0) := by decide +kernel
theorem s102_25 {L : pj_Loc} {st : List Value} {M : pj_Mem}  : pj_step 102 (25, L, st, M) = some (31, L, st, M) := st_goto q102_25
theorem x102_25 {L : pj_Loc} {st : List Value} {M : pj_Mem}  {o9 : Option Value × pj_Mem} : pj_Ends 102 (25, L, st, M) o9 = pj_Ends 102 (31, L, st, M) o9 := pj_xs (s102_25)
theorem q102_28 : pj_row 102 28 = some (.iconst 1, 1, 0, 0, 0) := by decide +kernel
theorem s102_28 {L : pj_Loc} {st : List Value} {M : pj_Mem}  : pj_step 102 (28, L, st, M) = some (29, L, .int 1 :: st, M) := st_iconst q102_28 (by decide +kernel)
theorem x102_28 {L : pj_Loc} {st : List Value} {M : pj_Mem}  {o9 : Option Value × pj_Mem} : pj_Ends 102 (28, L, st, M) o9 = pj_Ends 102 (29, L, .int 1 :: st, M) o9 := pj_xs (s102_28)
theorem q102_29 : pj_row 102 29 = some (.iload_n 2, 1, 0, 0, 0) := by decide +kernel
theorem s102_29 {st : List Value} {M : pj_Mem} {l : pj_Loc} {a0 a1 : Option Value} {x : Int32} : pj_step 102 (29, a0 :: a1 :: some (.int x) :: l, st, M) = some (30, a0 :: a1 :: some (.int x) :: l, .int x :: st, M) := st_iload_n q102_29 rfl
theorem x102_29 {st : List Value} {M : pj_Mem} {l : pj_Loc} {a0 a1 : Option Value} {x : Int32} {o9 : Option Value × pj_Mem} : pj_Ends 102 (29, a0 :: a1 :: some (.int x) :: l, st, M) o9 = pj_Ends 102 (30, a0 :: a1 :: some (.int x) :: l, .int x :: st, M) o9 := pj_xs (s102_29)
theorem q102_30 : pj_row 102 30 = some (.ishl, 1, 0, 0, 0) := by decide +kernel
theorem s102_30 {L : pj_Loc} {st : List Value} {M : pj_Mem} {x y : Int32} : pj_step 102 (30, L, .int y :: .int x :: st, M) = some (31, L, .int (x <<< (y &&& 31)) :: st, M) := st_ishl q102_30
theorem x102_30 {L : pj_Loc} {st : List Value} {M : pj_Mem} {x y : Int32} {o9 : Option Value × pj_Mem} : pj_Ends 102 (30, L, .int y :: .int x :: st, M) o9 = pj_Ends 102 (31, L, .int (x <<< (y &&& 31)) :: st, M) o9 := pj_xs (s102_30)
theorem q102_31 : pj_row 102 31 = some (.ior, 1, 0, 0, 0) := by decide +kernel
theorem s102_31 {L : pj_Loc} {st : List Value} {M : pj_Mem} {x y : Int32} : pj_step 102 (31, L, .int y :: .int x :: st, M) = some (32, L, .int (x ||| y) :: st, M) := st_ior q102_31
theorem x102_31 {L : pj_Loc} {st : List Value} {M : pj_Mem} {x y : Int32} {o9 : Option Value × pj_Mem} : pj_Ends 102 (31, L, .int y :: .int x :: st, M) o9 = pj_Ends 102 (32, L, .int (x ||| y) :: st, M) o9 := pj_xs (s102_31)
theorem q102_32 : pj_row 102 32 = some (.istore_n 1, 1, 0, 0, 0) := by decide +kernel
theorem s102_32 {st : List Value} {M : pj_Mem} {l : pj_Loc} {a0 a1 : Option Value} {x : Int32} (h : pj_long a0 = false) : pj_step 102 (32, a0 :: a1 :: l, .int x :: st, M) = some (33, a0 :: some (.int x) :: l, st, M) := st_istore_n q102_32 (pj_st_1 h)
theorem x102_32 {st : List Value} {M : pj_Mem} {l : pj_Loc} {a0 a1 : Option Value} {x : Int32} (h : pj_long a0 = false) {o9 : Option Value × pj_Mem} : pj_Ends 102 (32, a0 :: a1 :: l, .int x :: st, M) o9 = pj_Ends 102 (33, a0 :: some (.int x) :: l, st, M) o9 := pj_xs (s102_32 h)
theorem q102_33 : pj_row 102 33 = some (.iinc 2 1, 3, 0, 0, 0) := by decide +kernel
theorem s102_33 {st : List Value} {M : pj_Mem} {l : pj_Loc} {a0 a1 : Option Value} {x : Int32} (h : pj_long a1 = false) : pj_step 102 (33, a0 :: a1 :: some (.int x) :: l, st, M) = some (36, a0 :: a1 :: some (.int (x + 1)) :: l, st, M) := st_iinc q102_33 rfl (congrArg (fun y => x + y) (show Int32.ofInt 1 = 1 by decide +kernel)) (pj_st_2 h)
theorem x102_33 {st : List Value} {M : pj_Mem} {l : pj_Loc} {a0 a1 : Option Value} {x : Int32} (h : pj_long a1 = false) {o9 : Option Value × pj_Mem} : pj_Ends 102 (33, a0 :: a1 :: some (.int x) :: l, st, M) o9 = pj_Ends 102 (36, a0 :: a1 :: some (.int (x + 1)) :: l, st, M) o9 := pj_xs (s102_33 h)
theorem q102_36 : pj_row 102 36 = some (.goto (-32), 3, 4, 0, 0) := by decide +kernel
theorem s102_36 {L : pj_Loc} {st : List Value} {M : pj_Mem}  : pj_step 102 (36, L, st, M) = some (4, L, st, M) := st_goto q102_36
theorem x102_36 {L : pj_Loc} {st : List Value} {M : pj_Mem}  {o9 : Option Value × pj_Mem} : pj_Ends 102 (36, L, st, M) o9 = pj_Ends 102 (4, L, st, M) o9 := pj_xs (s102_36)
theorem q102_39 : pj_row 102 39 = some (.iload_n 1, 1, 0, 0, 0) := by decide +kernel
theorem s102_39 {st : List Value} {M : pj_Mem} {l : pj_Loc} {a0 : Option Value} {x : Int32} : pj_step 102 (39, a0 :: some (.int x) :: l, st, M) = some (40, a0 :: some (.int x) :: l, .int x :: st, M) := st_iload_n q102_39 rfl
theorem x102_39 {st : List Value} {M : pj_Mem} {l : pj_Loc} {a0 : Option Value} {x : Int32} {o9 : Option Value × pj_Mem} : pj_Ends 102 (39, a0 :: some (.int x) :: l, st, M) o9 = pj_Ends 102 (40, a0 :: some (.int x) :: l, .int x :: st, M) o9 := pj_xs (s102_39)
theorem q102_40 : pj_row 102 40 = some (.ireturn, 1, 0, 0, 0) := by decide +kernel
theorem t102_40 {L : pj_Loc} {M : pj_Mem} {v : Int32} : pj_Ends 102 (40, L, [.int v], M) (some (.int v), M) := pj_Ends.ret q102_40 (pj_rtn_i rt102)
theorem rt103 : pj_rt 103 = some .int := rfl
theorem q103_0 : pj_row 103 0 = some (.aload_n 0, 1, 0, 0, 0) := by decide +kernel
theorem s103_0 {st : List Value} {M : pj_Mem} {l : pj_Loc} {x : Nat} : pj_step 103 (0, some (.ref x) :: l, st, M) = some (1, some (.ref x) :: l, .ref x :: st, M) := st_aload_n q103_0 rfl
theorem x103_0 {st : List Value} {M : pj_Mem} {l : pj_Loc} {x : Nat} {o9 : Option Value × pj_Mem} : pj_Ends 103 (0, some (.ref x) :: l, st, M) o9 = pj_Ends 103 (1, some (.ref x) :: l, .ref x :: st, M) o9 := pj_xs (s103_0)
theorem q103_1 : pj_row 103 1 = some (.invokevirtual 121, 3, 77, 1, 0) := by decide +kernel
theorem e103_1 {L : pj_Loc} {st : List Value} {N S : Nat} {H : pj_Heap} {o : Option Value × pj_Mem} {M' : pj_Mem} {x0 : Nat} (h4 : pj_le4 st = true) (hu : pj_isU 6 (H x0) = true) (h1 : pj_Ends 77 (0, [some (.ref x0), none], [], (N, S, H)) (none, M')) (h2 : pj_Ends 103 (4, L, st, M') o) : pj_Ends 103 (1, L, .ref x0 :: st, (N, S, H)) o := ec_v1 q103_1 (Or.inl rfl) h4 hu rfl h1 h2
theorem q103_4 : pj_row 103 4 = some (.aload_n 0, 1, 0, 0, 0) := by decide +kernel
theorem s103_4 {st : List Value} {M : pj_Mem} {l : pj_Loc} {x : Nat} : pj_step 103 (4, some (.ref x) :: l, st, M) = some (5, some (.ref x) :: l, .ref x :: st, M) := st_aload_n q103_4 rfl
theorem x103_4 {st : List Value} {M : pj_Mem} {l : pj_Loc} {x : Nat} {o9 : Option Value × pj_Mem} : pj_Ends 103 (4, some (.ref x) :: l, st, M) o9 = pj_Ends 103 (5, some (.ref x) :: l, .ref x :: st, M) o9 := pj_xs (s103_4)
theorem q103_5 : pj_row 103 5 = some (.invokevirtual 143, 3, 102, 1, 0) := by decide +kernel
theorem e103_5 {L : pj_Loc} {st : List Value} {N S : Nat} {H : pj_Heap} {o : Option Value × pj_Mem} {M' : pj_Mem} {x0 : Nat} {r : Int32} (h4 : pj_le4 st = true) (hu : pj_isU 6 (H x0) = true) (h1 : pj_Ends 102 (0, [some (.ref x0), none, none], [], (N, S, H)) (some (.int r), M')) (h2 : pj_Ends 103 (8, L, .int r :: st, M') o) : pj_Ends 103 (5, L, .ref x0 :: st, (N, S, H)) o := ec_v1 q103_5 (Or.inl rfl) h4 hu rfl h1 h2
theorem q103_8 : pj_row 103 8 = some (.invokestatic 52, 3, 86, 1, 0) := by decide +kernel
theorem e103_8 {L : pj_Loc} {st : List Value} {N S : Nat} {H : pj_Heap} {o : Option Value × pj_Mem} {M' : pj_Mem} {x0 : Int32} {r : Int32} (h4 : pj_le4 st = true) (h1 : pj_Ends 86 (0, [some (.int x0)], [], (N, S, H)) (some (.int r), M')) (h2 : pj_Ends 103 (11, L, .int r :: st, M') o) : pj_Ends 103 (8, L, .int x0 :: st, (N, S, H)) o := ec_s1 q103_8 (Or.inl rfl) h4 rfl h1 h2
theorem q103_11 : pj_row 103 11 = some (.istore_n 1, 1, 0, 0, 0) := by decide +kernel
theorem s103_11 {st : List Value} {M : pj_Mem} {l : pj_Loc} {a0 a1 : Option Value} {x : Int32} (h : pj_long a0 = false) : pj_step 103 (11, a0 :: a1 :: l, .int x :: st, M) = some (12, a0 :: some (.int x) :: l, st, M) := st_istore_n q103_11 (pj_st_1 h)
theorem x103_11 {st : List Value} {M : pj_Mem} {l : pj_Loc} {a0 a1 : Option Value} {x : Int32} (h : pj_long a0 = false) {o9 : Option Value × pj_Mem} : pj_Ends 103 (11, a0 :: a1 :: l, .int x :: st, M) o9 = pj_Ends 103 (12, a0 :: some (.int x) :: l, st, M) o9 := pj_xs (s103_11 h)
theorem q103_12 : pj_row 103 12 = some (.iconst 0, 1, 0, 0, 0) := by decide +kernel
theorem s103_12 {L : pj_Loc} {st : List Value} {M : pj_Mem}  : pj_step 103 (12, L, st, M) = some (13, L, .int 0 :: st, M) := st_iconst q103_12 (by decide +kernel)
theorem x103_12 {L : pj_Loc} {st : List Value} {M : pj_Mem}  {o9 : Option Value × pj_Mem} : pj_Ends 103 (12, L, st, M) o9 = pj_Ends 103 (13, L, .int 0 :: st, M) o9 := pj_xs (s103_12)
theorem q103_13 : pj_row 103 13 = some (.istore_n 2, 1, 0, 0, 0) := by decide +kernel
theorem s103_13 {st : List Value} {M : pj_Mem} {l : pj_Loc} {a0 a1 a2 : Option Value} {x : Int32} (h : pj_long a1 = false) : pj_step 103 (13, a0 :: a1 :: a2 :: l, .int x :: st, M) = some (14, a0 :: a1 :: some (.int x) :: l, st, M) := st_istore_n q103_13 (pj_st_2 h)
theorem x103_13 {st : List Value} {M : pj_Mem} {l : pj_Loc} {a0 a1 a2 : Option Value} {x : Int32} (h : pj_long a1 = false) {o9 : Option Value × pj_Mem} : pj_Ends 103 (13, a0 :: a1 :: a2 :: l, .int x :: st, M) o9 = pj_Ends 103 (14, a0 :: a1 :: some (.int x) :: l, st, M) o9 := pj_xs (s103_13 h)
theorem q103_14 : pj_row 103 14 = some (.iload_n 2, 1, 0, 0, 0) := by decide +kernel
theorem s103_14 {st : List Value} {M : pj_Mem} {l : pj_Loc} {a0 a1 : Option Value} {x : Int32} : pj_step 103 (14, a0 :: a1 :: some (.int x) :: l, st, M) = some (15, a0 :: a1 :: some (.int x) :: l, .int x :: st, M) := st_iload_n q103_14 rfl
theorem x103_14 {st : List Value} {M : pj_Mem} {l : pj_Loc} {a0 a1 : Option Value} {x : Int32} {o9 : Option Value × pj_Mem} : pj_Ends 103 (14, a0 :: a1 :: some (.int x) :: l, st, M) o9 = pj_Ends 103 (15, a0 :: a1 :: some (.int x) :: l, .int x :: st, M) o9 := pj_xs (s103_14)
theorem q103_15 : pj_row 103 15 = some (.iconst 3, 1, 0, 0, 0) := by decide +kernel
theorem s103_15 {L : pj_Loc} {st : List Value} {M : pj_Mem}  : pj_step 103 (15, L, st, M) = some (16, L, .int 3 :: st, M) := st_iconst q103_15 (by decide +kernel)
theorem x103_15 {L : pj_Loc} {st : List Value} {M : pj_Mem}  {o9 : Option Value × pj_Mem} : pj_Ends 103 (15, L, st, M) o9 = pj_Ends 103 (16, L, .int 3 :: st, M) o9 := pj_xs (s103_15)
theorem q103_16 : pj_row 103 16 = some (.if_icmp .ge 30, 3, 46, 0, 0) := by decide +kernel
theorem s103_16 {L : pj_Loc} {st : List Value} {M : pj_Mem} {x y : Int32} : pj_step 103 (16, L, .int y :: .int x :: st, M) = some (if y ≤ x then 46 else 19, L, st, M) := st_icmp_ge q103_16
theorem x103_16 {L : pj_Loc} {st : List Value} {M : pj_Mem} {x y : Int32} {o9 : Option Value × pj_Mem} : pj_Ends 103 (16, L, .int y :: .int x :: st, M) o9 = pj_Ends 103 (if y ≤ x then 46 else 19, L, st, M) o9 := pj_xs (s103_16)
theorem q103_19 : pj_row 103 19 = some (.aload_n 0, 1, 0, 0, 0) := by decide +kernel
theorem s103_19 {st : List Value} {M : pj_Mem} {l : pj_Loc} {x : Nat} : pj_step 103 (19, some (.ref x) :: l, st, M) = some (20, some (.ref x) :: l, .ref x :: st, M) := st_aload_n q103_19 rfl
theorem x103_19 {st : List Value} {M : pj_Mem} {l : pj_Loc} {x : Nat} {o9 : Option Value × pj_Mem} : pj_Ends 103 (19, some (.ref x) :: l, st, M) o9 = pj_Ends 103 (20, some (.ref x) :: l, .ref x :: st, M) o9 := pj_xs (s103_19)
theorem q103_20 : pj_row 103 20 = some (.getfield 7, 3, 6, 0, 0) := by decide +kernel
theorem s103_20 {L : pj_Loc} {st : List Value} {N S : Nat} {H : pj_Heap} {o : Nat} : pj_step 103 (20, L, .ref o :: st, (N, S, H)) = pj_pv 23 L st (N, S, H) (pj_fld (H o) 6 0) := st_getfield q103_20
theorem x103_20 {L : pj_Loc} {st : List Value} {N S : Nat} {H : pj_Heap} {o : Nat} {o9 : Option Value × pj_Mem} : pj_Ends 103 (20, L, .ref o :: st, (N, S, H)) o9 = pj_then 103 o9 (pj_pv 23 L st (N, S, H) (pj_fld (H o) 6 0)) := pj_xt q103_20 rfl (pj_cl_nc rfl) (s103_20)
theorem q103_23 : pj_row 103 23 = some (.bipush 23, 2, 0, 0, 0) := by decide +kernel
theorem s103_23 {L : pj_Loc} {st : List Value} {M : pj_Mem}  : pj_step 103 (23, L, st, M) = some (25, L, .int 23 :: st, M) := st_bipush q103_23 (by decide +kernel)
theorem x103_23 {L : pj_Loc} {st : List Value} {M : pj_Mem}  {o9 : Option Value × pj_Mem} : pj_Ends 103 (23, L, st, M) o9 = pj_Ends 103 (25, L, .int 23 :: st, M) o9 := pj_xs (s103_23)
theorem q103_25 : pj_row 103 25 = some (.iload_n 2, 1, 0, 0, 0) := by decide +kernel
theorem s103_25 {st : List Value} {M : pj_Mem} {l : pj_Loc} {a0 a1 : Option Value} {x : Int32} : pj_step 103 (25, a0 :: a1 :: some (.int x) :: l, st, M) = some (26, a0 :: a1 :: some (.int x) :: l, .int x :: st, M) := st_iload_n q103_25 rfl
theorem x103_25 {st : List Value} {M : pj_Mem} {l : pj_Loc} {a0 a1 : Option Value} {x : Int32} {o9 : Option Value × pj_Mem} : pj_Ends 103 (25, a0 :: a1 :: some (.int x) :: l, st, M) o9 = pj_Ends 103 (26, a0 :: a1 :: some (.int x) :: l, .int x :: st, M) o9 := pj_xs (s103_25)
theorem q103_26 : pj_row 103 26 = some (.iadd, 1, 0, 0, 0) := by decide +kernel
theorem s103_26 {L : pj_Loc} {st : List Value} {M : pj_Mem} {x y : Int32} : pj_step 103 (26, L, .int y :: .int x :: st, M) = some (27, L, .int (x + y) :: st, M) := st_iadd q103_26
theorem x103_26 {L : pj_Loc} {st : List Value} {M : pj_Mem} {x y : Int32} {o9 : Option Value × pj_Mem} : pj_Ends 103 (26, L, .int y :: .int x :: st, M) o9 = pj_Ends 103 (27, L, .int (x + y) :: st, M) o9 := pj_xs (s103_26)
theorem q103_27 : pj_row 103 27 = some (.bipush (-6), 2, 0, 0, 0) := by decide +kernel
theorem s103_27 {L : pj_Loc} {st : List Value} {M : pj_Mem}  : pj_step 103 (27, L, st, M) = some (29, L, .int (-6) :: st, M) := st_bipush q103_27 (by decide +kernel)
theorem x103_27 {L : pj_Loc} {st : List Value} {M : pj_Mem}  {o9 : Option Value × pj_Mem} : pj_Ends 103 (27, L, st, M) o9 = pj_Ends 103 (29, L, .int (-6) :: st, M) o9 := pj_xs (s103_27)
theorem q103_29 : pj_row 103 29 = some (.iastore, 1, 0, 0, 0) := by decide +kernel
theorem s103_29 {L : pj_Loc} {st : List Value} {N S : Nat} {H : pj_Heap} {o : Nat} {i x : Int32} : pj_step 103 (29, L, .int x :: .int i :: .ref o :: st, (N, S, H)) = pj_set 30 L st (N, S, H) o (pj_ars (H o) 0 i x) := st_iastore q103_29
theorem x103_29 {L : pj_Loc} {st : List Value} {N S : Nat} {H : pj_Heap} {o : Nat} {i x : Int32} {o9 : Option Value × pj_Mem} : pj_Ends 103 (29, L, .int x :: .int i :: .ref o :: st, (N, S, H)) o9 = pj_then 103 o9 (pj_set 30 L st (N, S, H) o (pj_ars (H o) 0 i x)) := pj_xt q103_29 rfl (pj_cl_nc rfl) (s103_29)
theorem q103_30 : pj_row 103 30 = some (.aload_n 0, 1, 0, 0, 0) := by decide +kernel
theorem s103_30 {st : List Value} {M : pj_Mem} {l : pj_Loc} {x : Nat} : pj_step 103 (30, some (.ref x) :: l, st, M) = some (31, some (.ref x) :: l, .ref x :: st, M) := st_aload_n q103_30 rfl
theorem x103_30 {st : List Value} {M : pj_Mem} {l : pj_Loc} {x : Nat} {o9 : Option Value × pj_Mem} : pj_Ends 103 (30, some (.ref x) :: l, st, M) o9 = pj_Ends 103 (31, some (.ref x) :: l, .ref x :: st, M) o9 := pj_xs (s103_30)
theorem q103_31 : pj_row 103 31 = some (.getfield 7, 3, 6, 0, 0) := by decide +kernel
theorem s103_31 {L : pj_Loc} {st : List Value} {N S : Nat} {H : pj_Heap} {o : Nat} : pj_step 103 (31, L, .ref o :: st, (N, S, H)) = pj_pv 34 L st (N, S, H) (pj_fld (H o) 6 0) := st_getfield q103_31
theorem x103_31 {L : pj_Loc} {st : List Value} {N S : Nat} {H : pj_Heap} {o : Nat} {o9 : Option Value × pj_Mem} : pj_Ends 103 (31, L, .ref o :: st, (N, S, H)) o9 = pj_then 103 o9 (pj_pv 34 L st (N, S, H) (pj_fld (H o) 6 0)) := pj_xt q103_31 rfl (pj_cl_nc rfl) (s103_31)
theorem q103_34 : pj_row 103 34 = some (.bipush 11, 2, 0, 0, 0) := by decide +kernel
theorem s103_34 {L : pj_Loc} {st : List Value} {M : pj_Mem}  : pj_step 103 (34, L, st, M) = some (36, L, .int 11 :: st, M) := st_bipush q103_34 (by decide +kernel)
theorem x103_34 {L : pj_Loc} {st : List Value} {M : pj_Mem}  {o9 : Option Value × pj_Mem} : pj_Ends 103 (34, L, st, M) o9 = pj_Ends 103 (36, L, .int 11 :: st, M) o9 := pj_xs (s103_34)
theorem q103_36 : pj_row 103 36 = some (.iload_n 2, 1, 0, 0, 0) := by decide +kernel
theorem s103_36 {st : List Value} {M : pj_Mem} {l : pj_Loc} {a0 a1 : Option Value} {x : Int32} : pj_step 103 (36, a0 :: a1 :: some (.int x) :: l, st, M) = some (37, a0 :: a1 :: some (.int x) :: l, .int x :: st, M) := st_iload_n q103_36 rfl
theorem x103_36 {st : List Value} {M : pj_Mem} {l : pj_Loc} {a0 a1 : Option Value} {x : Int32} {o9 : Option Value × pj_Mem} : pj_Ends 103 (36, a0 :: a1 :: some (.int x) :: l, st, M) o9 = pj_Ends 103 (37, a0 :: a1 :: some (.int x) :: l, .int x :: st, M) o9 := pj_xs (s103_36)
theorem q103_37 : pj_row 103 37 = some (.iadd, 1, 0, 0, 0) := by decide +kernel
theorem s103_37 {L : pj_Loc} {st : List Value} {M : pj_Mem} {x y : Int32} : pj_step 103 (37, L, .int y :: .int x :: st, M) = some (38, L, .int (x + y) :: st, M) := st_iadd q103_37
theorem x103_37 {L : pj_Loc} {st : List Value} {M : pj_Mem} {x y : Int32} {o9 : Option Value × pj_Mem} : pj_Ends 103 (37, L, .int y :: .int x :: st, M) o9 = pj_Ends 103 (38, L, .int (x + y) :: st, M) o9 := pj_xs (s103_37)
theorem q103_38 : pj_row 103 38 = some (.iconst 0, 1, 0, 0, 0) := by decide +kernel
theorem s103_38 {L : pj_Loc} {st : List Value} {M : pj_Mem}  : pj_step 103 (38, L, st, M) = some (39, L, .int 0 :: st, M) := st_iconst q103_38 (by decide +kernel)
theorem x103_38 {L : pj_Loc} {st : List Value} {M : pj_Mem}  {o9 : Option Value × pj_Mem} : pj_Ends 103 (38, L, st, M) o9 = pj_Ends 103 (39, L, .int 0 :: st, M) o9 := pj_xs (s103_38)
theorem q103_39 : pj_row 103 39 = some (.iastore, 1, 0, 0, 0) := by decide +kernel
theorem s103_39 {L : pj_Loc} {st : List Value} {N S : Nat} {H : pj_Heap} {o : Nat} {i x : Int32} : pj_step 103 (39, L, .int x :: .int i :: .ref o :: st, (N, S, H)) = pj_set 40 L st (N, S, H) o (pj_ars (H o) 0 i x) := st_iastore q103_39
theorem x103_39 {L : pj_Loc} {st : List Value} {N S : Nat} {H : pj_Heap} {o : Nat} {i x : Int32} {o9 : Option Value × pj_Mem} : pj_Ends 103 (39, L, .int x :: .int i :: .ref o :: st, (N, S, H)) o9 = pj_then 103 o9 (pj_set 40 L st (N, S, H) o (pj_ars (H o) 0 i x)) := pj_xt q103_39 rfl (pj_cl_nc rfl) (s103_39)
theorem q103_40 : pj_row 103 40 = some (.iinc 2 1, 3, 0, 0, 0) := by decide +kernel
theorem s103_40 {st : List Value} {M : pj_Mem} {l : pj_Loc} {a0 a1 : Option Value} {x : Int32} (h : pj_long a1 = false) : pj_step 103 (40, a0 :: a1 :: some (.int x) :: l, st, M) = some (43, a0 :: a1 :: some (.int (x + 1)) :: l, st, M) := st_iinc q103_40 rfl (congrArg (fun y => x + y) (show Int32.ofInt 1 = 1 by decide +kernel)) (pj_st_2 h)
theorem x103_40 {st : List Value} {M : pj_Mem} {l : pj_Loc} {a0 a1 : Option Value} {x : Int32} (h : pj_long a1 = false) {o9 : Option Value × pj_Mem} : pj_Ends 103 (40, a0 :: a1 :: some (.int x) :: l, st, M) o9 = pj_Ends 103 (43, a0 :: a1 :: some (.int (x + 1)) :: l, st, M) o9 := pj_xs (s103_40 h)
theorem q103_43 : pj_row 103 43 = some (.goto (-29), 3, 14, 0, 0) := by decide +kernel
theorem s103_43 {L : pj_Loc} {st : List Value} {M : pj_Mem}  : pj_step 103 (43, L, st, M) = some (14, L, st, M) := st_goto q103_43
theorem x103_43 {L : pj_Loc} {st : List Value} {M : pj_Mem}  {o9 : Option Value × pj_Mem} : pj_Ends 103 (43, L, st, M) o9 = pj_Ends 103 (14, L, st, M) o9 := pj_xs (s103_43)
theorem q103_46 : pj_row 103 46 = some (.aload_n 0, 1, 0, 0, 0) := by decide +kernel
theorem s103_46 {st : List Value} {M : pj_Mem} {l : pj_Loc} {x : Nat} : pj_step 103 (46, some (.ref x) :: l, st, M) = some (47, some (.ref x) :: l, .ref x :: st, M) := st_aload_n q103_46 rfl
theorem x103_46 {st : List Value} {M : pj_Mem} {l : pj_Loc} {x : Nat} {o9 : Option Value × pj_Mem} : pj_Ends 103 (46, some (.ref x) :: l, st, M) o9 = pj_Ends 103 (47, some (.ref x) :: l, .ref x :: st, M) o9 := pj_xs (s103_46)
theorem q103_47 : pj_row 103 47 = some (.getfield 7, 3, 6, 0, 0) := by decide +kernel
theorem s103_47 {L : pj_Loc} {st : List Value} {N S : Nat} {H : pj_Heap} {o : Nat} : pj_step 103 (47, L, .ref o :: st, (N, S, H)) = pj_pv 50 L st (N, S, H) (pj_fld (H o) 6 0) := st_getfield q103_47
theorem x103_47 {L : pj_Loc} {st : List Value} {N S : Nat} {H : pj_Heap} {o : Nat} {o9 : Option Value × pj_Mem} : pj_Ends 103 (47, L, .ref o :: st, (N, S, H)) o9 = pj_then 103 o9 (pj_pv 50 L st (N, S, H) (pj_fld (H o) 6 0)) := pj_xt q103_47 rfl (pj_cl_nc rfl) (s103_47)
theorem q103_50 : pj_row 103 50 = some (.bipush 7, 2, 0, 0, 0) := by decide +kernel
theorem s103_50 {L : pj_Loc} {st : List Value} {M : pj_Mem}  : pj_step 103 (50, L, st, M) = some (52, L, .int 7 :: st, M) := st_bipush q103_50 (by decide +kernel)
theorem x103_50 {L : pj_Loc} {st : List Value} {M : pj_Mem}  {o9 : Option Value × pj_Mem} : pj_Ends 103 (50, L, st, M) o9 = pj_Ends 103 (52, L, .int 7 :: st, M) o9 := pj_xs (s103_50)
theorem q103_52 : pj_row 103 52 = some (.iconst 0, 1, 0, 0, 0) := by decide +kernel
theorem s103_52 {L : pj_Loc} {st : List Value} {M : pj_Mem}  : pj_step 103 (52, L, st, M) = some (53, L, .int 0 :: st, M) := st_iconst q103_52 (by decide +kernel)
theorem x103_52 {L : pj_Loc} {st : List Value} {M : pj_Mem}  {o9 : Option Value × pj_Mem} : pj_Ends 103 (52, L, st, M) o9 = pj_Ends 103 (53, L, .int 0 :: st, M) o9 := pj_xs (s103_52)
theorem q103_53 : pj_row 103 53 = some (.iastore, 1, 0, 0, 0) := by decide +kernel
theorem s103_53 {L : pj_Loc} {st : List Value} {N S : Nat} {H : pj_Heap} {o : Nat} {i x : Int32} : pj_step 103 (53, L, .int x :: .int i :: .ref o :: st, (N, S, H)) = pj_set 54 L st (N, S, H) o (pj_ars (H o) 0 i x) := st_iastore q103_53
theorem x103_53 {L : pj_Loc} {st : List Value} {N S : Nat} {H : pj_Heap} {o : Nat} {i x : Int32} {o9 : Option Value × pj_Mem} : pj_Ends 103 (53, L, .int x :: .int i :: .ref o :: st, (N, S, H)) o9 = pj_then 103 o9 (pj_set 54 L st (N, S, H) o (pj_ars (H o) 0 i x)) := pj_xt q103_53 rfl (pj_cl_nc rfl) (s103_53)
theorem q103_54 : pj_row 103 54 = some (.aload_n 0, 1, 0, 0, 0) := by decide +kernel
theorem s103_54 {st : List Value} {M : pj_Mem} {l : pj_Loc} {x : Nat} : pj_step 103 (54, some (.ref x) :: l, st, M) = some (55, some (.ref x) :: l, .ref x :: st, M) := st_aload_n q103_54 rfl
theorem x103_54 {st : List Value} {M : pj_Mem} {l : pj_Loc} {x : Nat} {o9 : Option Value × pj_Mem} : pj_Ends 103 (54, some (.ref x) :: l, st, M) o9 = pj_Ends 103 (55, some (.ref x) :: l, .ref x :: st, M) o9 := pj_xs (s103_54)
theorem q103_55 : pj_row 103 55 = some (.getfield 7, 3, 6, 0, 0) := by decide +kernel
theorem s103_55 {L : pj_Loc} {st : List Value} {N S : Nat} {H : pj_Heap} {o : Nat} : pj_step 103 (55, L, .ref o :: st, (N, S, H)) = pj_pv 58 L st (N, S, H) (pj_fld (H o) 6 0) := st_getfield q103_55
theorem x103_55 {L : pj_Loc} {st : List Value} {N S : Nat} {H : pj_Heap} {o : Nat} {o9 : Option Value × pj_Mem} : pj_Ends 103 (55, L, .ref o :: st, (N, S, H)) o9 = pj_then 103 o9 (pj_pv 58 L st (N, S, H) (pj_fld (H o) 6 0)) := pj_xt q103_55 rfl (pj_cl_nc rfl) (s103_55)
theorem q103_58 : pj_row 103 58 = some (.bipush 29, 2, 0, 0, 0) := by decide +kernel
theorem s103_58 {L : pj_Loc} {st : List Value} {M : pj_Mem}  : pj_step 103 (58, L, st, M) = some (60, L, .int 29 :: st, M) := st_bipush q103_58 (by decide +kernel)
theorem x103_58 {L : pj_Loc} {st : List Value} {M : pj_Mem}  {o9 : Option Value × pj_Mem} : pj_Ends 103 (58, L, st, M) o9 = pj_Ends 103 (60, L, .int 29 :: st, M) o9 := pj_xs (s103_58)
theorem q103_60 : pj_row 103 60 = some (.bipush (-6), 2, 0, 0, 0) := by decide +kernel
theorem s103_60 {L : pj_Loc} {st : List Value} {M : pj_Mem}  : pj_step 103 (60, L, st, M) = some (62, L, .int (-6) :: st, M) := st_bipush q103_60 (by decide +kernel)
theorem x103_60 {L : pj_Loc} {st : List Value} {M : pj_Mem}  {o9 : Option Value × pj_Mem} : pj_Ends 103 (60, L, st, M) o9 = pj_Ends 103 (62, L, .int (-6) :: st, M) o9 := pj_xs (s103_60)
theorem q103_62 : pj_row 103 62 = some (.iastore, 1, 0, 0, 0) := by decide +kernel
theorem s103_62 {L : pj_Loc} {st : List Value} {N S : Nat} {H : pj_Heap} {o : Nat} {i x : Int32} : pj_step 103 (62, L, .int x :: .int i :: .ref o :: st, (N, S, H)) = pj_set 63 L st (N, S, H) o (pj_ars (H o) 0 i x) := st_iastore q103_62
theorem x103_62 {L : pj_Loc} {st : List Value} {N S : Nat} {H : pj_Heap} {o : Nat} {i x : Int32} {o9 : Option Value × pj_Mem} : pj_Ends 103 (62, L, .int x :: .int i :: .ref o :: st, (N, S, H)) o9 = pj_then 103 o9 (pj_set 63 L st (N, S, H) o (pj_ars (H o) 0 i x)) := pj_xt q103_62 rfl (pj_cl_nc rfl) (s103_62)
theorem q103_63 : pj_row 103 63 = some (.aload_n 0, 1, 0, 0, 0) := by decide +kernel
theorem s103_63 {st : List Value} {M : pj_Mem} {l : pj_Loc} {x : Nat} : pj_step 103 (63, some (.ref x) :: l, st, M) = some (64, some (.ref x) :: l, .ref x :: st, M) := st_aload_n q103_63 rfl
theorem x103_63 {st : List Value} {M : pj_Mem} {l : pj_Loc} {x : Nat} {o9 : Option Value × pj_Mem} : pj_Ends 103 (63, some (.ref x) :: l, st, M) o9 = pj_Ends 103 (64, some (.ref x) :: l, .ref x :: st, M) o9 := pj_xs (s103_63)
theorem q103_64 : pj_row 103 64 = some (.getfield 7, 3, 6, 0, 0) := by decide +kernel
theorem s103_64 {L : pj_Loc} {st : List Value} {N S : Nat} {H : pj_Heap} {o : Nat} : pj_step 103 (64, L, .ref o :: st, (N, S, H)) = pj_pv 67 L st (N, S, H) (pj_fld (H o) 6 0) := st_getfield q103_64
theorem x103_64 {L : pj_Loc} {st : List Value} {N S : Nat} {H : pj_Heap} {o : Nat} {o9 : Option Value × pj_Mem} : pj_Ends 103 (64, L, .ref o :: st, (N, S, H)) o9 = pj_then 103 o9 (pj_pv 67 L st (N, S, H) (pj_fld (H o) 6 0)) := pj_xt q103_64 rfl (pj_cl_nc rfl) (s103_64)
theorem q103_67 : pj_row 103 67 = some (.bipush 30, 2, 0, 0, 0) := by decide +kernel
theorem s103_67 {L : pj_Loc} {st : List Value} {M : pj_Mem}  : pj_step 103 (67, L, st, M) = some (69, L, .int 30 :: st, M) := st_bipush q103_67 (by decide +kernel)
theorem x103_67 {L : pj_Loc} {st : List Value} {M : pj_Mem}  {o9 : Option Value × pj_Mem} : pj_Ends 103 (67, L, st, M) o9 = pj_Ends 103 (69, L, .int 30 :: st, M) o9 := pj_xs (s103_67)
theorem q103_69 : pj_row 103 69 = some (.iconst 0, 1, 0, 0, 0) := by decide +kernel
theorem s103_69 {L : pj_Loc} {st : List Value} {M : pj_Mem}  : pj_step 103 (69, L, st, M) = some (70, L, .int 0 :: st, M) := st_iconst q103_69 (by decide +kernel)
theorem x103_69 {L : pj_Loc} {st : List Value} {M : pj_Mem}  {o9 : Option Value × pj_Mem} : pj_Ends 103 (69, L, st, M) o9 = pj_Ends 103 (70, L, .int 0 :: st, M) o9 := pj_xs (s103_69)
theorem q103_70 : pj_row 103 70 = some (.iastore, 1, 0, 0, 0) := by decide +kernel
theorem s103_70 {L : pj_Loc} {st : List Value} {N S : Nat} {H : pj_Heap} {o : Nat} {i x : Int32} : pj_step 103 (70, L, .int x :: .int i :: .ref o :: st, (N, S, H)) = pj_set 71 L st (N, S, H) o (pj_ars (H o) 0 i x) := st_iastore q103_70
theorem x103_70 {L : pj_Loc} {st : List Value} {N S : Nat} {H : pj_Heap} {o : Nat} {i x : Int32} {o9 : Option Value × pj_Mem} : pj_Ends 103 (70, L, .int x :: .int i :: .ref o :: st, (N, S, H)) o9 = pj_then 103 o9 (pj_set 71 L st (N, S, H) o (pj_ars (H o) 0 i x)) := pj_xt q103_70 rfl (pj_cl_nc rfl) (s103_70)
theorem q103_71 : pj_row 103 71 = some (.aload_n 0, 1, 0, 0, 0) := by decide +kernel
theorem s103_71 {st : List Value} {M : pj_Mem} {l : pj_Loc} {x : Nat} : pj_step 103 (71, some (.ref x) :: l, st, M) = some (72, some (.ref x) :: l, .ref x :: st, M) := st_aload_n q103_71 rfl
theorem x103_71 {st : List Value} {M : pj_Mem} {l : pj_Loc} {x : Nat} {o9 : Option Value × pj_Mem} : pj_Ends 103 (71, some (.ref x) :: l, st, M) o9 = pj_Ends 103 (72, some (.ref x) :: l, .ref x :: st, M) o9 := pj_xs (s103_71)
theorem q103_72 : pj_row 103 72 = some (.iload_n 1, 1, 0, 0, 0) := by decide +kernel
theorem s103_72 {st : List Value} {M : pj_Mem} {l : pj_Loc} {a0 : Option Value} {x : Int32} : pj_step 103 (72, a0 :: some (.int x) :: l, st, M) = some (73, a0 :: some (.int x) :: l, .int x :: st, M) := st_iload_n q103_72 rfl
theorem x103_72 {st : List Value} {M : pj_Mem} {l : pj_Loc} {a0 : Option Value} {x : Int32} {o9 : Option Value × pj_Mem} : pj_Ends 103 (72, a0 :: some (.int x) :: l, st, M) o9 = pj_Ends 103 (73, a0 :: some (.int x) :: l, .int x :: st, M) o9 := pj_xs (s103_72)
theorem q103_73 : pj_row 103 73 = some (.invokevirtual 124, 3, 78, 2, 0) := by decide +kernel
theorem e103_73 {L : pj_Loc} {st : List Value} {N S : Nat} {H : pj_Heap} {o : Option Value × pj_Mem} {M' : pj_Mem} {x0 : Nat} {x1 : Int32} {r : Int32} (h4 : pj_le4 st = true) (hu : pj_isU 6 (H x0) = true) (h1 : pj_Ends 78 (0, [some (.ref x0), some (.int x1), none], [], (N, S, H)) (some (.int r), M')) (h2 : pj_Ends 103 (76, L, .int r :: st, M') o) : pj_Ends 103 (73, L, .int x1 :: .ref x0 :: st, (N, S, H)) o := ec_v2 q103_73 (Or.inl rfl) h4 hu rfl h1 h2
theorem q103_76 : pj_row 103 76 = some (.ireturn, 1, 0, 0, 0) := by decide +kernel
theorem t103_76 {L : pj_Loc} {M : pj_Mem} {v : Int32} : pj_Ends 103 (76, L, [.int v], M) (some (.int v), M) := pj_Ends.ret q103_76 (pj_rtn_i rt103)
theorem rt104 : pj_rt 104 = some .int := rfl
theorem q104_0 : pj_row 104 0 = some (.iload_n 1, 1, 0, 0, 0) := by decide +kernel
theorem s104_0 {st : List Value} {M : pj_Mem} {l : pj_Loc} {a0 : Option Value} {x : Int32} : pj_step 104 (0, a0 :: some (.int x) :: l, st, M) = some (1, a0 :: some (.int x) :: l, .int x :: st, M) := st_iload_n q104_0 rfl
theorem x104_0 {st : List Value} {M : pj_Mem} {l : pj_Loc} {a0 : Option Value} {x : Int32} {o9 : Option Value × pj_Mem} : pj_Ends 104 (0, a0 :: some (.int x) :: l, st, M) o9 = pj_Ends 104 (1, a0 :: some (.int x) :: l, .int x :: st, M) o9 := pj_xs (s104_0)
theorem q104_1 : pj_row 104 1 = some (.invokestatic 137, 3, 99, 1, 0) := by decide +kernel
theorem e104_1 {L : pj_Loc} {st : List Value} {N S : Nat} {H : pj_Heap} {o : Option Value × pj_Mem} {M' : pj_Mem} {x0 : Int32} {r : Int32} (h4 : pj_le4 st = true) (h1 : pj_Ends 99 (0, [some (.int x0)], [], (N, S, H)) (some (.int r), M')) (h2 : pj_Ends 104 (4, L, .int r :: st, M') o) : pj_Ends 104 (1, L, .int x0 :: st, (N, S, H)) o := ec_s1 q104_1 (Or.inl rfl) h4 rfl h1 h2
theorem q104_4 : pj_row 104 4 = some (.ifCond .ne 5, 3, 9, 0, 0) := by decide +kernel
theorem s104_4 {L : pj_Loc} {st : List Value} {M : pj_Mem} {x : Int32} : pj_step 104 (4, L, .int x :: st, M) = some (if ¬ x = 0 then 9 else 7, L, st, M) := st_if_ne q104_4
theorem x104_4 {L : pj_Loc} {st : List Value} {M : pj_Mem} {x : Int32} {o9 : Option Value × pj_Mem} : pj_Ends 104 (4, L, .int x :: st, M) o9 = pj_Ends 104 (if ¬ x = 0 then 9 else 7, L, st, M) o9 := pj_xs (s104_4)
theorem q104_7 : pj_row 104 7 = some (.iconst (-1), 1, 0, 0, 0) := by decide +kernel
theorem s104_7 {L : pj_Loc} {st : List Value} {M : pj_Mem}  : pj_step 104 (7, L, st, M) = some (8, L, .int (-1) :: st, M) := st_iconst q104_7 (by decide +kernel)
theorem x104_7 {L : pj_Loc} {st : List Value} {M : pj_Mem}  {o9 : Option Value × pj_Mem} : pj_Ends 104 (7, L, st, M) o9 = pj_Ends 104 (8, L, .int (-1) :: st, M) o9 := pj_xs (s104_7)
theorem q104_8 : pj_row 104 8 = some (.ireturn, 1, 0, 0, 0) := by decide +kernel
theorem t104_8 {L : pj_Loc} {M : pj_Mem} {v : Int32} : pj_Ends 104 (8, L, [.int v], M) (some (.int v), M) := pj_Ends.ret q104_8 (pj_rtn_i rt104)
theorem q104_9 : pj_row 104 9 = some (.iload_n 2, 1, 0, 0, 0) := by decide +kernel
theorem s104_9 {st : List Value} {M : pj_Mem} {l : pj_Loc} {a0 a1 : Option Value} {x : Int32} : pj_step 104 (9, a0 :: a1 :: some (.int x) :: l, st, M) = some (10, a0 :: a1 :: some (.int x) :: l, .int x :: st, M) := st_iload_n q104_9 rfl
theorem x104_9 {st : List Value} {M : pj_Mem} {l : pj_Loc} {a0 a1 : Option Value} {x : Int32} {o9 : Option Value × pj_Mem} : pj_Ends 104 (9, a0 :: a1 :: some (.int x) :: l, st, M) o9 = pj_Ends 104 (10, a0 :: a1 :: some (.int x) :: l, .int x :: st, M) o9 := pj_xs (s104_9)
theorem q104_10 : pj_row 104 10 = some (.tableswitch 108 0 4 #[34, 47, 60, 70, 80], 34, 0, 0, 0) := by decide +kernel
theorem s104_10 {L : pj_Loc} {st : List Value} {M : pj_Mem} {x : Int32} : pj_step 104 (10, L, .int x :: st, M) = some (if x = 0 then 44 else if x = 1 then 57 else if x = 2 then 70 else if x = 3 then 80 else if x = 4 then 90 else 118, L, st, M) := by
  rw [st_tsw q104_10]
  unfold pj_tsw
  by_cases hr : x.toInt < 0 ∨ 4 < x.toInt
  · simp only
    rw [if_pos hr]
    rw [if_neg (show ¬ x = 0 from fun e => by rw [e] at hr; revert hr; decide)]
    rw [if_neg (show ¬ x = 1 from fun e => by rw [e] at hr; revert hr; decide)]
    rw [if_neg (show ¬ x = 2 from fun e => by rw [e] at hr; revert hr; decide)]
    rw [if_neg (show ¬ x = 3 from fun e => by rw [e] at hr; revert hr; decide)]
    rw [if_neg (show ¬ x = 4 from fun e => by rw [e] at hr; revert hr; decide)]
    rfl
  · have h3 : x.toInt = 0 ∨ x.toInt = 1 ∨ x.toInt = 2 ∨ x.toInt = 3 ∨ x.toInt = 4 := by omega
    rcases h3 with h3 | h3 | h3 | h3 | h3
    · have e : x = 0 := Int32.toInt_inj.mp (h3.trans (by decide))
      subst e
      rfl
    · have e : x = 1 := Int32.toInt_inj.mp (h3.trans (by decide))
      subst e
      rfl
    · have e : x = 2 := Int32.toInt_inj.mp (h3.trans (by decide))
      subst e
      rfl
    · have e : x = 3 := Int32.toInt_inj.mp (h3.trans (by decide))
      subst e
      rfl
    · have e : x = 4 := Int32.toInt_inj.mp (h3.trans (by decide))
      subst e
      rfl
theorem x104_10 {L : pj_Loc} {st : List Value} {M : pj_Mem} {x : Int32} {o9 : Option Value × pj_Mem} : pj_Ends 104 (10, L, .int x :: st, M) o9 = pj_Ends 104 (if x = 0 then 44 else if x = 1 then 57 else if x = 2 then 70 else if x = 3 then 80 else if x = 4 then 90 else 118, L, st, M) o9 := pj_xs (s104_10)
theorem q104_44 : pj_row 104 44 = some (.aload_n 0, 1, 0, 0, 0) := by decide +kernel
theorem s104_44 {st : List Value} {M : pj_Mem} {l : pj_Loc} {x : Nat} : pj_step 104 (44, some (.ref x) :: l, st, M) = some (45, some (.ref x) :: l, .ref x :: st, M) := st_aload_n q104_44 rfl
theorem x104_44 {st : List Value} {M : pj_Mem} {l : pj_Loc} {x : Nat} {o9 : Option Value × pj_Mem} : pj_Ends 104 (44, some (.ref x) :: l, st, M) o9 = pj_Ends 104 (45, some (.ref x) :: l, .ref x :: st, M) o9 := pj_xs (s104_44)
theorem q104_45 : pj_row 104 45 = some (.getfield 7, 3, 6, 0, 0) := by decide +kernel
theorem s104_45 {L : pj_Loc} {st : List Value} {N S : Nat} {H : pj_Heap} {o : Nat} : pj_step 104 (45, L, .ref o :: st, (N, S, H)) = pj_pv 48 L st (N, S, H) (pj_fld (H o) 6 0) := st_getfield q104_45
theorem x104_45 {L : pj_Loc} {st : List Value} {N S : Nat} {H : pj_Heap} {o : Nat} {o9 : Option Value × pj_Mem} : pj_Ends 104 (45, L, .ref o :: st, (N, S, H)) o9 = pj_then 104 o9 (pj_pv 48 L st (N, S, H) (pj_fld (H o) 6 0)) := pj_xt q104_45 rfl (pj_cl_nc rfl) (s104_45)
theorem q104_48 : pj_row 104 48 = some (.bipush 8, 2, 0, 0, 0) := by decide +kernel
theorem s104_48 {L : pj_Loc} {st : List Value} {M : pj_Mem}  : pj_step 104 (48, L, st, M) = some (50, L, .int 8 :: st, M) := st_bipush q104_48 (by decide +kernel)
theorem x104_48 {L : pj_Loc} {st : List Value} {M : pj_Mem}  {o9 : Option Value × pj_Mem} : pj_Ends 104 (48, L, st, M) o9 = pj_Ends 104 (50, L, .int 8 :: st, M) o9 := pj_xs (s104_48)
theorem q104_50 : pj_row 104 50 = some (.iload_n 1, 1, 0, 0, 0) := by decide +kernel
theorem s104_50 {st : List Value} {M : pj_Mem} {l : pj_Loc} {a0 : Option Value} {x : Int32} : pj_step 104 (50, a0 :: some (.int x) :: l, st, M) = some (51, a0 :: some (.int x) :: l, .int x :: st, M) := st_iload_n q104_50 rfl
theorem x104_50 {st : List Value} {M : pj_Mem} {l : pj_Loc} {a0 : Option Value} {x : Int32} {o9 : Option Value × pj_Mem} : pj_Ends 104 (50, a0 :: some (.int x) :: l, st, M) o9 = pj_Ends 104 (51, a0 :: some (.int x) :: l, .int x :: st, M) o9 := pj_xs (s104_50)
theorem q104_51 : pj_row 104 51 = some (.iadd, 1, 0, 0, 0) := by decide +kernel
theorem s104_51 {L : pj_Loc} {st : List Value} {M : pj_Mem} {x y : Int32} : pj_step 104 (51, L, .int y :: .int x :: st, M) = some (52, L, .int (x + y) :: st, M) := st_iadd q104_51
theorem x104_51 {L : pj_Loc} {st : List Value} {M : pj_Mem} {x y : Int32} {o9 : Option Value × pj_Mem} : pj_Ends 104 (51, L, .int y :: .int x :: st, M) o9 = pj_Ends 104 (52, L, .int (x + y) :: st, M) o9 := pj_xs (s104_51)
theorem q104_52 : pj_row 104 52 = some (.iaload, 1, 0, 0, 0) := by decide +kernel
theorem s104_52 {L : pj_Loc} {st : List Value} {N S : Nat} {H : pj_Heap} {o : Nat} {i : Int32} : pj_step 104 (52, L, .int i :: .ref o :: st, (N, S, H)) = pj_pi 53 L st (N, S, H) (pj_arl (H o) 0 i) := st_iaload q104_52
theorem x104_52 {L : pj_Loc} {st : List Value} {N S : Nat} {H : pj_Heap} {o : Nat} {i : Int32} {o9 : Option Value × pj_Mem} : pj_Ends 104 (52, L, .int i :: .ref o :: st, (N, S, H)) o9 = pj_then 104 o9 (pj_pi 53 L st (N, S, H) (pj_arl (H o) 0 i)) := pj_xt q104_52 rfl (pj_cl_nc rfl) (s104_52)
theorem q104_53 : pj_row 104 53 = some (.ldc 81, 2, 0, 0, 100000) := by decide +kernel
theorem s104_53 {L : pj_Loc} {st : List Value} {M : pj_Mem}  : pj_step 104 (53, L, st, M) = some (55, L, .int 100000 :: st, M) := st_ldc q104_53 (by decide +kernel)
theorem x104_53 {L : pj_Loc} {st : List Value} {M : pj_Mem}  {o9 : Option Value × pj_Mem} : pj_Ends 104 (53, L, st, M) o9 = pj_Ends 104 (55, L, .int 100000 :: st, M) o9 := pj_xs (s104_53)
theorem q104_55 : pj_row 104 55 = some (.iadd, 1, 0, 0, 0) := by decide +kernel
theorem s104_55 {L : pj_Loc} {st : List Value} {M : pj_Mem} {x y : Int32} : pj_step 104 (55, L, .int y :: .int x :: st, M) = some (56, L, .int (x + y) :: st, M) := st_iadd q104_55
theorem x104_55 {L : pj_Loc} {st : List Value} {M : pj_Mem} {x y : Int32} {o9 : Option Value × pj_Mem} : pj_Ends 104 (55, L, .int y :: .int x :: st, M) o9 = pj_Ends 104 (56, L, .int (x + y) :: st, M) o9 := pj_xs (s104_55)
theorem q104_56 : pj_row 104 56 = some (.ireturn, 1, 0, 0, 0) := by decide +kernel
theorem t104_56 {L : pj_Loc} {M : pj_Mem} {v : Int32} : pj_Ends 104 (56, L, [.int v], M) (some (.int v), M) := pj_Ends.ret q104_56 (pj_rtn_i rt104)
theorem q104_57 : pj_row 104 57 = some (.aload_n 0, 1, 0, 0, 0) := by decide +kernel
theorem s104_57 {st : List Value} {M : pj_Mem} {l : pj_Loc} {x : Nat} : pj_step 104 (57, some (.ref x) :: l, st, M) = some (58, some (.ref x) :: l, .ref x :: st, M) := st_aload_n q104_57 rfl
theorem x104_57 {st : List Value} {M : pj_Mem} {l : pj_Loc} {x : Nat} {o9 : Option Value × pj_Mem} : pj_Ends 104 (57, some (.ref x) :: l, st, M) o9 = pj_Ends 104 (58, some (.ref x) :: l, .ref x :: st, M) o9 := pj_xs (s104_57)
theorem q104_58 : pj_row 104 58 = some (.getfield 7, 3, 6, 0, 0) := by decide +kernel
theorem s104_58 {L : pj_Loc} {st : List Value} {N S : Nat} {H : pj_Heap} {o : Nat} : pj_step 104 (58, L, .ref o :: st, (N, S, H)) = pj_pv 61 L st (N, S, H) (pj_fld (H o) 6 0) := st_getfield q104_58
theorem x104_58 {L : pj_Loc} {st : List Value} {N S : Nat} {H : pj_Heap} {o : Nat} {o9 : Option Value × pj_Mem} : pj_Ends 104 (58, L, .ref o :: st, (N, S, H)) o9 = pj_then 104 o9 (pj_pv 61 L st (N, S, H) (pj_fld (H o) 6 0)) := pj_xt q104_58 rfl (pj_cl_nc rfl) (s104_58)
theorem q104_61 : pj_row 104 61 = some (.bipush 11, 2, 0, 0, 0) := by decide +kernel
theorem s104_61 {L : pj_Loc} {st : List Value} {M : pj_Mem}  : pj_step 104 (61, L, st, M) = some (63, L, .int 11 :: st, M) := st_bipush q104_61 (by decide +kernel)
theorem x104_61 {L : pj_Loc} {st : List Value} {M : pj_Mem}  {o9 : Option Value × pj_Mem} : pj_Ends 104 (61, L, st, M) o9 = pj_Ends 104 (63, L, .int 11 :: st, M) o9 := pj_xs (s104_61)
theorem q104_63 : pj_row 104 63 = some (.iload_n 1, 1, 0, 0, 0) := by decide +kernel
theorem s104_63 {st : List Value} {M : pj_Mem} {l : pj_Loc} {a0 : Option Value} {x : Int32} : pj_step 104 (63, a0 :: some (.int x) :: l, st, M) = some (64, a0 :: some (.int x) :: l, .int x :: st, M) := st_iload_n q104_63 rfl
theorem x104_63 {st : List Value} {M : pj_Mem} {l : pj_Loc} {a0 : Option Value} {x : Int32} {o9 : Option Value × pj_Mem} : pj_Ends 104 (63, a0 :: some (.int x) :: l, st, M) o9 = pj_Ends 104 (64, a0 :: some (.int x) :: l, .int x :: st, M) o9 := pj_xs (s104_63)
theorem q104_64 : pj_row 104 64 = some (.iadd, 1, 0, 0, 0) := by decide +kernel
theorem s104_64 {L : pj_Loc} {st : List Value} {M : pj_Mem} {x y : Int32} : pj_step 104 (64, L, .int y :: .int x :: st, M) = some (65, L, .int (x + y) :: st, M) := st_iadd q104_64
theorem x104_64 {L : pj_Loc} {st : List Value} {M : pj_Mem} {x y : Int32} {o9 : Option Value × pj_Mem} : pj_Ends 104 (64, L, .int y :: .int x :: st, M) o9 = pj_Ends 104 (65, L, .int (x + y) :: st, M) o9 := pj_xs (s104_64)
theorem q104_65 : pj_row 104 65 = some (.iaload, 1, 0, 0, 0) := by decide +kernel
theorem s104_65 {L : pj_Loc} {st : List Value} {N S : Nat} {H : pj_Heap} {o : Nat} {i : Int32} : pj_step 104 (65, L, .int i :: .ref o :: st, (N, S, H)) = pj_pi 66 L st (N, S, H) (pj_arl (H o) 0 i) := st_iaload q104_65
theorem x104_65 {L : pj_Loc} {st : List Value} {N S : Nat} {H : pj_Heap} {o : Nat} {i : Int32} {o9 : Option Value × pj_Mem} : pj_Ends 104 (65, L, .int i :: .ref o :: st, (N, S, H)) o9 = pj_then 104 o9 (pj_pi 66 L st (N, S, H) (pj_arl (H o) 0 i)) := pj_xt q104_65 rfl (pj_cl_nc rfl) (s104_65)
theorem q104_66 : pj_row 104 66 = some (.ldc 81, 2, 0, 0, 100000) := by decide +kernel
theorem s104_66 {L : pj_Loc} {st : List Value} {M : pj_Mem}  : pj_step 104 (66, L, st, M) = some (68, L, .int 100000 :: st, M) := st_ldc q104_66 (by decide +kernel)
theorem x104_66 {L : pj_Loc} {st : List Value} {M : pj_Mem}  {o9 : Option Value × pj_Mem} : pj_Ends 104 (66, L, st, M) o9 = pj_Ends 104 (68, L, .int 100000 :: st, M) o9 := pj_xs (s104_66)
theorem q104_68 : pj_row 104 68 = some (.iadd, 1, 0, 0, 0) := by decide +kernel
theorem s104_68 {L : pj_Loc} {st : List Value} {M : pj_Mem} {x y : Int32} : pj_step 104 (68, L, .int y :: .int x :: st, M) = some (69, L, .int (x + y) :: st, M) := st_iadd q104_68
theorem x104_68 {L : pj_Loc} {st : List Value} {M : pj_Mem} {x y : Int32} {o9 : Option Value × pj_Mem} : pj_Ends 104 (68, L, .int y :: .int x :: st, M) o9 = pj_Ends 104 (69, L, .int (x + y) :: st, M) o9 := pj_xs (s104_68)
theorem q104_69 : pj_row 104 69 = some (.ireturn, 1, 0, 0, 0) := by decide +kernel
theorem t104_69 {L : pj_Loc} {M : pj_Mem} {v : Int32} : pj_Ends 104 (69, L, [.int v], M) (some (.int v), M) := pj_Ends.ret q104_69 (pj_rtn_i rt104)
theorem q104_70 : pj_row 104 70 = some (.aload_n 0, 1, 0, 0, 0) := by decide +kernel
theorem s104_70 {st : List Value} {M : pj_Mem} {l : pj_Loc} {x : Nat} : pj_step 104 (70, some (.ref x) :: l, st, M) = some (71, some (.ref x) :: l, .ref x :: st, M) := st_aload_n q104_70 rfl
theorem x104_70 {st : List Value} {M : pj_Mem} {l : pj_Loc} {x : Nat} {o9 : Option Value × pj_Mem} : pj_Ends 104 (70, some (.ref x) :: l, st, M) o9 = pj_Ends 104 (71, some (.ref x) :: l, .ref x :: st, M) o9 := pj_xs (s104_70)
theorem q104_71 : pj_row 104 71 = some (.getfield 7, 3, 6, 0, 0) := by decide +kernel
theorem s104_71 {L : pj_Loc} {st : List Value} {N S : Nat} {H : pj_Heap} {o : Nat} : pj_step 104 (71, L, .ref o :: st, (N, S, H)) = pj_pv 74 L st (N, S, H) (pj_fld (H o) 6 0) := st_getfield q104_71
theorem x104_71 {L : pj_Loc} {st : List Value} {N S : Nat} {H : pj_Heap} {o : Nat} {o9 : Option Value × pj_Mem} : pj_Ends 104 (71, L, .ref o :: st, (N, S, H)) o9 = pj_then 104 o9 (pj_pv 74 L st (N, S, H) (pj_fld (H o) 6 0)) := pj_xt q104_71 rfl (pj_cl_nc rfl) (s104_71)
theorem q104_74 : pj_row 104 74 = some (.bipush 14, 2, 0, 0, 0) := by decide +kernel
theorem s104_74 {L : pj_Loc} {st : List Value} {M : pj_Mem}  : pj_step 104 (74, L, st, M) = some (76, L, .int 14 :: st, M) := st_bipush q104_74 (by decide +kernel)
theorem x104_74 {L : pj_Loc} {st : List Value} {M : pj_Mem}  {o9 : Option Value × pj_Mem} : pj_Ends 104 (74, L, st, M) o9 = pj_Ends 104 (76, L, .int 14 :: st, M) o9 := pj_xs (s104_74)
theorem q104_76 : pj_row 104 76 = some (.iload_n 1, 1, 0, 0, 0) := by decide +kernel
theorem s104_76 {st : List Value} {M : pj_Mem} {l : pj_Loc} {a0 : Option Value} {x : Int32} : pj_step 104 (76, a0 :: some (.int x) :: l, st, M) = some (77, a0 :: some (.int x) :: l, .int x :: st, M) := st_iload_n q104_76 rfl
theorem x104_76 {st : List Value} {M : pj_Mem} {l : pj_Loc} {a0 : Option Value} {x : Int32} {o9 : Option Value × pj_Mem} : pj_Ends 104 (76, a0 :: some (.int x) :: l, st, M) o9 = pj_Ends 104 (77, a0 :: some (.int x) :: l, .int x :: st, M) o9 := pj_xs (s104_76)
theorem q104_77 : pj_row 104 77 = some (.iadd, 1, 0, 0, 0) := by decide +kernel
theorem s104_77 {L : pj_Loc} {st : List Value} {M : pj_Mem} {x y : Int32} : pj_step 104 (77, L, .int y :: .int x :: st, M) = some (78, L, .int (x + y) :: st, M) := st_iadd q104_77
theorem x104_77 {L : pj_Loc} {st : List Value} {M : pj_Mem} {x y : Int32} {o9 : Option Value × pj_Mem} : pj_Ends 104 (77, L, .int y :: .int x :: st, M) o9 = pj_Ends 104 (78, L, .int (x + y) :: st, M) o9 := pj_xs (s104_77)
theorem q104_78 : pj_row 104 78 = some (.iaload, 1, 0, 0, 0) := by decide +kernel
theorem s104_78 {L : pj_Loc} {st : List Value} {N S : Nat} {H : pj_Heap} {o : Nat} {i : Int32} : pj_step 104 (78, L, .int i :: .ref o :: st, (N, S, H)) = pj_pi 79 L st (N, S, H) (pj_arl (H o) 0 i) := st_iaload q104_78
theorem x104_78 {L : pj_Loc} {st : List Value} {N S : Nat} {H : pj_Heap} {o : Nat} {i : Int32} {o9 : Option Value × pj_Mem} : pj_Ends 104 (78, L, .int i :: .ref o :: st, (N, S, H)) o9 = pj_then 104 o9 (pj_pi 79 L st (N, S, H) (pj_arl (H o) 0 i)) := pj_xt q104_78 rfl (pj_cl_nc rfl) (s104_78)
theorem q104_79 : pj_row 104 79 = some (.ireturn, 1, 0, 0, 0) := by decide +kernel
theorem t104_79 {L : pj_Loc} {M : pj_Mem} {v : Int32} : pj_Ends 104 (79, L, [.int v], M) (some (.int v), M) := pj_Ends.ret q104_79 (pj_rtn_i rt104)
theorem q104_80 : pj_row 104 80 = some (.aload_n 0, 1, 0, 0, 0) := by decide +kernel
theorem s104_80 {st : List Value} {M : pj_Mem} {l : pj_Loc} {x : Nat} : pj_step 104 (80, some (.ref x) :: l, st, M) = some (81, some (.ref x) :: l, .ref x :: st, M) := st_aload_n q104_80 rfl
theorem x104_80 {st : List Value} {M : pj_Mem} {l : pj_Loc} {x : Nat} {o9 : Option Value × pj_Mem} : pj_Ends 104 (80, some (.ref x) :: l, st, M) o9 = pj_Ends 104 (81, some (.ref x) :: l, .ref x :: st, M) o9 := pj_xs (s104_80)
theorem q104_81 : pj_row 104 81 = some (.getfield 7, 3, 6, 0, 0) := by decide +kernel
theorem s104_81 {L : pj_Loc} {st : List Value} {N S : Nat} {H : pj_Heap} {o : Nat} : pj_step 104 (81, L, .ref o :: st, (N, S, H)) = pj_pv 84 L st (N, S, H) (pj_fld (H o) 6 0) := st_getfield q104_81
theorem x104_81 {L : pj_Loc} {st : List Value} {N S : Nat} {H : pj_Heap} {o : Nat} {o9 : Option Value × pj_Mem} : pj_Ends 104 (81, L, .ref o :: st, (N, S, H)) o9 = pj_then 104 o9 (pj_pv 84 L st (N, S, H) (pj_fld (H o) 6 0)) := pj_xt q104_81 rfl (pj_cl_nc rfl) (s104_81)
theorem q104_84 : pj_row 104 84 = some (.bipush 17, 2, 0, 0, 0) := by decide +kernel
theorem s104_84 {L : pj_Loc} {st : List Value} {M : pj_Mem}  : pj_step 104 (84, L, st, M) = some (86, L, .int 17 :: st, M) := st_bipush q104_84 (by decide +kernel)
theorem x104_84 {L : pj_Loc} {st : List Value} {M : pj_Mem}  {o9 : Option Value × pj_Mem} : pj_Ends 104 (84, L, st, M) o9 = pj_Ends 104 (86, L, .int 17 :: st, M) o9 := pj_xs (s104_84)
theorem q104_86 : pj_row 104 86 = some (.iload_n 1, 1, 0, 0, 0) := by decide +kernel
theorem s104_86 {st : List Value} {M : pj_Mem} {l : pj_Loc} {a0 : Option Value} {x : Int32} : pj_step 104 (86, a0 :: some (.int x) :: l, st, M) = some (87, a0 :: some (.int x) :: l, .int x :: st, M) := st_iload_n q104_86 rfl
theorem x104_86 {st : List Value} {M : pj_Mem} {l : pj_Loc} {a0 : Option Value} {x : Int32} {o9 : Option Value × pj_Mem} : pj_Ends 104 (86, a0 :: some (.int x) :: l, st, M) o9 = pj_Ends 104 (87, a0 :: some (.int x) :: l, .int x :: st, M) o9 := pj_xs (s104_86)
theorem q104_87 : pj_row 104 87 = some (.iadd, 1, 0, 0, 0) := by decide +kernel
theorem s104_87 {L : pj_Loc} {st : List Value} {M : pj_Mem} {x y : Int32} : pj_step 104 (87, L, .int y :: .int x :: st, M) = some (88, L, .int (x + y) :: st, M) := st_iadd q104_87
theorem x104_87 {L : pj_Loc} {st : List Value} {M : pj_Mem} {x y : Int32} {o9 : Option Value × pj_Mem} : pj_Ends 104 (87, L, .int y :: .int x :: st, M) o9 = pj_Ends 104 (88, L, .int (x + y) :: st, M) o9 := pj_xs (s104_87)
theorem q104_88 : pj_row 104 88 = some (.iaload, 1, 0, 0, 0) := by decide +kernel
theorem s104_88 {L : pj_Loc} {st : List Value} {N S : Nat} {H : pj_Heap} {o : Nat} {i : Int32} : pj_step 104 (88, L, .int i :: .ref o :: st, (N, S, H)) = pj_pi 89 L st (N, S, H) (pj_arl (H o) 0 i) := st_iaload q104_88
theorem x104_88 {L : pj_Loc} {st : List Value} {N S : Nat} {H : pj_Heap} {o : Nat} {i : Int32} {o9 : Option Value × pj_Mem} : pj_Ends 104 (88, L, .int i :: .ref o :: st, (N, S, H)) o9 = pj_then 104 o9 (pj_pi 89 L st (N, S, H) (pj_arl (H o) 0 i)) := pj_xt q104_88 rfl (pj_cl_nc rfl) (s104_88)
theorem q104_89 : pj_row 104 89 = some (.ireturn, 1, 0, 0, 0) := by decide +kernel
theorem t104_89 {L : pj_Loc} {M : pj_Mem} {v : Int32} : pj_Ends 104 (89, L, [.int v], M) (some (.int v), M) := pj_Ends.ret q104_89 (pj_rtn_i rt104)
theorem q104_90 : pj_row 104 90 = some (.aload_n 0, 1, 0, 0, 0) := by decide +kernel
theorem s104_90 {st : List Value} {M : pj_Mem} {l : pj_Loc} {x : Nat} : pj_step 104 (90, some (.ref x) :: l, st, M) = some (91, some (.ref x) :: l, .ref x :: st, M) := st_aload_n q104_90 rfl
theorem x104_90 {st : List Value} {M : pj_Mem} {l : pj_Loc} {x : Nat} {o9 : Option Value × pj_Mem} : pj_Ends 104 (90, some (.ref x) :: l, st, M) o9 = pj_Ends 104 (91, some (.ref x) :: l, .ref x :: st, M) o9 := pj_xs (s104_90)
theorem q104_91 : pj_row 104 91 = some (.getfield 7, 3, 6, 0, 0) := by decide +kernel
theorem s104_91 {L : pj_Loc} {st : List Value} {N S : Nat} {H : pj_Heap} {o : Nat} : pj_step 104 (91, L, .ref o :: st, (N, S, H)) = pj_pv 94 L st (N, S, H) (pj_fld (H o) 6 0) := st_getfield q104_91
theorem x104_91 {L : pj_Loc} {st : List Value} {N S : Nat} {H : pj_Heap} {o : Nat} {o9 : Option Value × pj_Mem} : pj_Ends 104 (91, L, .ref o :: st, (N, S, H)) o9 = pj_then 104 o9 (pj_pv 94 L st (N, S, H) (pj_fld (H o) 6 0)) := pj_xt q104_91 rfl (pj_cl_nc rfl) (s104_91)
theorem q104_94 : pj_row 104 94 = some (.bipush 6, 2, 0, 0, 0) := by decide +kernel
theorem s104_94 {L : pj_Loc} {st : List Value} {M : pj_Mem}  : pj_step 104 (94, L, st, M) = some (96, L, .int 6 :: st, M) := st_bipush q104_94 (by decide +kernel)
theorem x104_94 {L : pj_Loc} {st : List Value} {M : pj_Mem}  {o9 : Option Value × pj_Mem} : pj_Ends 104 (94, L, st, M) o9 = pj_Ends 104 (96, L, .int 6 :: st, M) o9 := pj_xs (s104_94)
theorem q104_96 : pj_row 104 96 = some (.iaload, 1, 0, 0, 0) := by decide +kernel
theorem s104_96 {L : pj_Loc} {st : List Value} {N S : Nat} {H : pj_Heap} {o : Nat} {i : Int32} : pj_step 104 (96, L, .int i :: .ref o :: st, (N, S, H)) = pj_pi 97 L st (N, S, H) (pj_arl (H o) 0 i) := st_iaload q104_96
theorem x104_96 {L : pj_Loc} {st : List Value} {N S : Nat} {H : pj_Heap} {o : Nat} {i : Int32} {o9 : Option Value × pj_Mem} : pj_Ends 104 (96, L, .int i :: .ref o :: st, (N, S, H)) o9 = pj_then 104 o9 (pj_pi 97 L st (N, S, H) (pj_arl (H o) 0 i)) := pj_xt q104_96 rfl (pj_cl_nc rfl) (s104_96)
theorem q104_97 : pj_row 104 97 = some (.ifCond .ne 8, 3, 105, 0, 0) := by decide +kernel
theorem s104_97 {L : pj_Loc} {st : List Value} {M : pj_Mem} {x : Int32} : pj_step 104 (97, L, .int x :: st, M) = some (if ¬ x = 0 then 105 else 100, L, st, M) := st_if_ne q104_97
theorem x104_97 {L : pj_Loc} {st : List Value} {M : pj_Mem} {x : Int32} {o9 : Option Value × pj_Mem} : pj_Ends 104 (97, L, .int x :: st, M) o9 = pj_Ends 104 (if ¬ x = 0 then 105 else 100, L, st, M) o9 := pj_xs (s104_97)
theorem q104_100 : pj_row 104 100 = some (.bipush (-6), 2, 0, 0, 0) := by decide +kernel
theorem s104_100 {L : pj_Loc} {st : List Value} {M : pj_Mem}  : pj_step 104 (100, L, st, M) = some (102, L, .int (-6) :: st, M) := st_bipush q104_100 (by decide +kernel)
theorem x104_100 {L : pj_Loc} {st : List Value} {M : pj_Mem}  {o9 : Option Value × pj_Mem} : pj_Ends 104 (100, L, st, M) o9 = pj_Ends 104 (102, L, .int (-6) :: st, M) o9 := pj_xs (s104_100)
theorem q104_102 : pj_row 104 102 = some (.goto 15, 3, 117, 0, 0) := by decide +kernel
theorem s104_102 {L : pj_Loc} {st : List Value} {M : pj_Mem}  : pj_step 104 (102, L, st, M) = some (117, L, st, M) := st_goto q104_102
theorem x104_102 {L : pj_Loc} {st : List Value} {M : pj_Mem}  {o9 : Option Value × pj_Mem} : pj_Ends 104 (102, L, st, M) o9 = pj_Ends 104 (117, L, st, M) o9 := pj_xs (s104_102)
theorem q104_105 : pj_row 104 105 = some (.aload_n 0, 1, 0, 0, 0) := by decide +kernel
theorem s104_105 {st : List Value} {M : pj_Mem} {l : pj_Loc} {x : Nat} : pj_step 104 (105, some (.ref x) :: l, st, M) = some (106, some (.ref x) :: l, .ref x :: st, M) := st_aload_n q104_105 rfl
theorem x104_105 {st : List Value} {M : pj_Mem} {l : pj_Loc} {x : Nat} {o9 : Option Value × pj_Mem} : pj_Ends 104 (105, some (.ref x) :: l, st, M) o9 = pj_Ends 104 (106, some (.ref x) :: l, .ref x :: st, M) o9 := pj_xs (s104_105)
theorem q104_106 : pj_row 104 106 = some (.getfield 7, 3, 6, 0, 0) := by decide +kernel
theorem s104_106 {L : pj_Loc} {st : List Value} {N S : Nat} {H : pj_Heap} {o : Nat} : pj_step 104 (106, L, .ref o :: st, (N, S, H)) = pj_pv 109 L st (N, S, H) (pj_fld (H o) 6 0) := st_getfield q104_106
theorem x104_106 {L : pj_Loc} {st : List Value} {N S : Nat} {H : pj_Heap} {o : Nat} {o9 : Option Value × pj_Mem} : pj_Ends 104 (106, L, .ref o :: st, (N, S, H)) o9 = pj_then 104 o9 (pj_pv 109 L st (N, S, H) (pj_fld (H o) 6 0)) := pj_xt q104_106 rfl (pj_cl_nc rfl) (s104_106)
theorem q104_109 : pj_row 104 109 = some (.bipush 20, 2, 0, 0, 0) := by decide +kernel
theorem s104_109 {L : pj_Loc} {st : List Value} {M : pj_Mem}  : pj_step 104 (109, L, st, M) = some (111, L, .int 20 :: st, M) := st_bipush q104_109 (by decide +kernel)
theorem x104_109 {L : pj_Loc} {st : List Value} {M : pj_Mem}  {o9 : Option Value × pj_Mem} : pj_Ends 104 (109, L, st, M) o9 = pj_Ends 104 (111, L, .int 20 :: st, M) o9 := pj_xs (s104_109)
theorem q104_111 : pj_row 104 111 = some (.iload_n 1, 1, 0, 0, 0) := by decide +kernel
theorem s104_111 {st : List Value} {M : pj_Mem} {l : pj_Loc} {a0 : Option Value} {x : Int32} : pj_step 104 (111, a0 :: some (.int x) :: l, st, M) = some (112, a0 :: some (.int x) :: l, .int x :: st, M) := st_iload_n q104_111 rfl
theorem x104_111 {st : List Value} {M : pj_Mem} {l : pj_Loc} {a0 : Option Value} {x : Int32} {o9 : Option Value × pj_Mem} : pj_Ends 104 (111, a0 :: some (.int x) :: l, st, M) o9 = pj_Ends 104 (112, a0 :: some (.int x) :: l, .int x :: st, M) o9 := pj_xs (s104_111)
theorem q104_112 : pj_row 104 112 = some (.iadd, 1, 0, 0, 0) := by decide +kernel
theorem s104_112 {L : pj_Loc} {st : List Value} {M : pj_Mem} {x y : Int32} : pj_step 104 (112, L, .int y :: .int x :: st, M) = some (113, L, .int (x + y) :: st, M) := st_iadd q104_112
theorem x104_112 {L : pj_Loc} {st : List Value} {M : pj_Mem} {x y : Int32} {o9 : Option Value × pj_Mem} : pj_Ends 104 (112, L, .int y :: .int x :: st, M) o9 = pj_Ends 104 (113, L, .int (x + y) :: st, M) o9 := pj_xs (s104_112)
theorem q104_113 : pj_row 104 113 = some (.iaload, 1, 0, 0, 0) := by decide +kernel
theorem s104_113 {L : pj_Loc} {st : List Value} {N S : Nat} {H : pj_Heap} {o : Nat} {i : Int32} : pj_step 104 (113, L, .int i :: .ref o :: st, (N, S, H)) = pj_pi 114 L st (N, S, H) (pj_arl (H o) 0 i) := st_iaload q104_113
theorem x104_113 {L : pj_Loc} {st : List Value} {N S : Nat} {H : pj_Heap} {o : Nat} {i : Int32} {o9 : Option Value × pj_Mem} : pj_Ends 104 (113, L, .int i :: .ref o :: st, (N, S, H)) o9 = pj_then 104 o9 (pj_pi 114 L st (N, S, H) (pj_arl (H o) 0 i)) := pj_xt q104_113 rfl (pj_cl_nc rfl) (s104_113)
theorem q104_114 : pj_row 104 114 = some (.ldc 81, 2, 0, 0, 100000) := by decide +kernel
theorem s104_114 {L : pj_Loc} {st : List Value} {M : pj_Mem}  : pj_step 104 (114, L, st, M) = some (116, L, .int 100000 :: st, M) := st_ldc q104_114 (by decide +kernel)
theorem x104_114 {L : pj_Loc} {st : List Value} {M : pj_Mem}  {o9 : Option Value × pj_Mem} : pj_Ends 104 (114, L, st, M) o9 = pj_Ends 104 (116, L, .int 100000 :: st, M) o9 := pj_xs (s104_114)
theorem q104_116 : pj_row 104 116 = some (.iadd, 1, 0, 0, 0) := by decide +kernel
theorem s104_116 {L : pj_Loc} {st : List Value} {M : pj_Mem} {x y : Int32} : pj_step 104 (116, L, .int y :: .int x :: st, M) = some (117, L, .int (x + y) :: st, M) := st_iadd q104_116
theorem x104_116 {L : pj_Loc} {st : List Value} {M : pj_Mem} {x y : Int32} {o9 : Option Value × pj_Mem} : pj_Ends 104 (116, L, .int y :: .int x :: st, M) o9 = pj_Ends 104 (117, L, .int (x + y) :: st, M) o9 := pj_xs (s104_116)
theorem q104_117 : pj_row 104 117 = some (.ireturn, 1, 0, 0, 0) := by decide +kernel
theorem t104_117 {L : pj_Loc} {M : pj_Mem} {v : Int32} : pj_Ends 104 (117, L, [.int v], M) (some (.int v), M) := pj_Ends.ret q104_117 (pj_rtn_i rt104)
theorem q104_118 : pj_row 104 118 = some (.bipush (-2), 2, 0, 0, 0) := by decide +kernel
theorem s104_118 {L : pj_Loc} {st : List Value} {M : pj_Mem}  : pj_step 104 (118, L, st, M) = some (120, L, .int (-2) :: st, M) := st_bipush q104_118 (by decide +kernel)
theorem x104_118 {L : pj_Loc} {st : List Value} {M : pj_Mem}  {o9 : Option Value × pj_Mem} : pj_Ends 104 (118, L, st, M) o9 = pj_Ends 104 (120, L, .int (-2) :: st, M) o9 := pj_xs (s104_118)
theorem q104_120 : pj_row 104 120 = some (.ireturn, 1, 0, 0, 0) := by decide +kernel
theorem t104_120 {L : pj_Loc} {M : pj_Mem} {v : Int32} : pj_Ends 104 (120, L, [.int v], M) (some (.int v), M) := pj_Ends.ret q104_120 (pj_rtn_i rt104)
theorem rt105 : pj_rt 105 = some .int := rfl
theorem q105_0 : pj_row 105 0 = some (.iload_n 1, 1, 0, 0, 0) := by decide +kernel
theorem s105_0 {st : List Value} {M : pj_Mem} {l : pj_Loc} {a0 : Option Value} {x : Int32} : pj_step 105 (0, a0 :: some (.int x) :: l, st, M) = some (1, a0 :: some (.int x) :: l, .int x :: st, M) := st_iload_n q105_0 rfl
theorem x105_0 {st : List Value} {M : pj_Mem} {l : pj_Loc} {a0 : Option Value} {x : Int32} {o9 : Option Value × pj_Mem} : pj_Ends 105 (0, a0 :: some (.int x) :: l, st, M) o9 = pj_Ends 105 (1, a0 :: some (.int x) :: l, .int x :: st, M) o9 := pj_xs (s105_0)
theorem q105_1 : pj_row 105 1 = some (.invokestatic 137, 3, 99, 1, 0) := by decide +kernel
theorem e105_1 {L : pj_Loc} {st : List Value} {N S : Nat} {H : pj_Heap} {o : Option Value × pj_Mem} {M' : pj_Mem} {x0 : Int32} {r : Int32} (h4 : pj_le4 st = true) (h1 : pj_Ends 99 (0, [some (.int x0)], [], (N, S, H)) (some (.int r), M')) (h2 : pj_Ends 105 (4, L, .int r :: st, M') o) : pj_Ends 105 (1, L, .int x0 :: st, (N, S, H)) o := ec_s1 q105_1 (Or.inl rfl) h4 rfl h1 h2
theorem q105_4 : pj_row 105 4 = some (.ifCond .ne 5, 3, 9, 0, 0) := by decide +kernel
theorem s105_4 {L : pj_Loc} {st : List Value} {M : pj_Mem} {x : Int32} : pj_step 105 (4, L, .int x :: st, M) = some (if ¬ x = 0 then 9 else 7, L, st, M) := st_if_ne q105_4
theorem x105_4 {L : pj_Loc} {st : List Value} {M : pj_Mem} {x : Int32} {o9 : Option Value × pj_Mem} : pj_Ends 105 (4, L, .int x :: st, M) o9 = pj_Ends 105 (if ¬ x = 0 then 9 else 7, L, st, M) o9 := pj_xs (s105_4)
theorem q105_7 : pj_row 105 7 = some (.iconst (-1), 1, 0, 0, 0) := by decide +kernel
theorem s105_7 {L : pj_Loc} {st : List Value} {M : pj_Mem}  : pj_step 105 (7, L, st, M) = some (8, L, .int (-1) :: st, M) := st_iconst q105_7 (by decide +kernel)
theorem x105_7 {L : pj_Loc} {st : List Value} {M : pj_Mem}  {o9 : Option Value × pj_Mem} : pj_Ends 105 (7, L, st, M) o9 = pj_Ends 105 (8, L, .int (-1) :: st, M) o9 := pj_xs (s105_7)
theorem q105_8 : pj_row 105 8 = some (.ireturn, 1, 0, 0, 0) := by decide +kernel
theorem t105_8 {L : pj_Loc} {M : pj_Mem} {v : Int32} : pj_Ends 105 (8, L, [.int v], M) (some (.int v), M) := pj_Ends.ret q105_8 (pj_rtn_i rt105)
theorem q105_9 : pj_row 105 9 = some (.iload_n 2, 1, 0, 0, 0) := by decide +kernel
theorem s105_9 {st : List Value} {M : pj_Mem} {l : pj_Loc} {a0 a1 : Option Value} {x : Int32} : pj_step 105 (9, a0 :: a1 :: some (.int x) :: l, st, M) = some (10, a0 :: a1 :: some (.int x) :: l, .int x :: st, M) := st_iload_n q105_9 rfl
theorem x105_9 {st : List Value} {M : pj_Mem} {l : pj_Loc} {a0 a1 : Option Value} {x : Int32} {o9 : Option Value × pj_Mem} : pj_Ends 105 (9, a0 :: a1 :: some (.int x) :: l, st, M) o9 = pj_Ends 105 (10, a0 :: a1 :: some (.int x) :: l, .int x :: st, M) o9 := pj_xs (s105_9)
theorem q105_10 : pj_row 105 10 = some (.ifCond .ne 15, 3, 25, 0, 0) := by decide +kernel
theorem s105_10 {L : pj_Loc} {st : List Value} {M : pj_Mem} {x : Int32} : pj_step 105 (10, L, .int x :: st, M) = some (if ¬ x = 0 then 25 else 13, L, st, M) := st_if_ne q105_10
theorem x105_10 {L : pj_Loc} {st : List Value} {M : pj_Mem} {x : Int32} {o9 : Option Value × pj_Mem} : pj_Ends 105 (10, L, .int x :: st, M) o9 = pj_Ends 105 (if ¬ x = 0 then 25 else 13, L, st, M) o9 := pj_xs (s105_10)
theorem q105_13 : pj_row 105 13 = some (.aload_n 0, 1, 0, 0, 0) := by decide +kernel
theorem s105_13 {st : List Value} {M : pj_Mem} {l : pj_Loc} {x : Nat} : pj_step 105 (13, some (.ref x) :: l, st, M) = some (14, some (.ref x) :: l, .ref x :: st, M) := st_aload_n q105_13 rfl
theorem x105_13 {st : List Value} {M : pj_Mem} {l : pj_Loc} {x : Nat} {o9 : Option Value × pj_Mem} : pj_Ends 105 (13, some (.ref x) :: l, st, M) o9 = pj_Ends 105 (14, some (.ref x) :: l, .ref x :: st, M) o9 := pj_xs (s105_13)
theorem q105_14 : pj_row 105 14 = some (.getfield 7, 3, 6, 0, 0) := by decide +kernel
theorem s105_14 {L : pj_Loc} {st : List Value} {N S : Nat} {H : pj_Heap} {o : Nat} : pj_step 105 (14, L, .ref o :: st, (N, S, H)) = pj_pv 17 L st (N, S, H) (pj_fld (H o) 6 0) := st_getfield q105_14
theorem x105_14 {L : pj_Loc} {st : List Value} {N S : Nat} {H : pj_Heap} {o : Nat} {o9 : Option Value × pj_Mem} : pj_Ends 105 (14, L, .ref o :: st, (N, S, H)) o9 = pj_then 105 o9 (pj_pv 17 L st (N, S, H) (pj_fld (H o) 6 0)) := pj_xt q105_14 rfl (pj_cl_nc rfl) (s105_14)
theorem q105_17 : pj_row 105 17 = some (.bipush 23, 2, 0, 0, 0) := by decide +kernel
theorem s105_17 {L : pj_Loc} {st : List Value} {M : pj_Mem}  : pj_step 105 (17, L, st, M) = some (19, L, .int 23 :: st, M) := st_bipush q105_17 (by decide +kernel)
theorem x105_17 {L : pj_Loc} {st : List Value} {M : pj_Mem}  {o9 : Option Value × pj_Mem} : pj_Ends 105 (17, L, st, M) o9 = pj_Ends 105 (19, L, .int 23 :: st, M) o9 := pj_xs (s105_17)
theorem q105_19 : pj_row 105 19 = some (.iload_n 1, 1, 0, 0, 0) := by decide +kernel
theorem s105_19 {st : List Value} {M : pj_Mem} {l : pj_Loc} {a0 : Option Value} {x : Int32} : pj_step 105 (19, a0 :: some (.int x) :: l, st, M) = some (20, a0 :: some (.int x) :: l, .int x :: st, M) := st_iload_n q105_19 rfl
theorem x105_19 {st : List Value} {M : pj_Mem} {l : pj_Loc} {a0 : Option Value} {x : Int32} {o9 : Option Value × pj_Mem} : pj_Ends 105 (19, a0 :: some (.int x) :: l, st, M) o9 = pj_Ends 105 (20, a0 :: some (.int x) :: l, .int x :: st, M) o9 := pj_xs (s105_19)
theorem q105_20 : pj_row 105 20 = some (.iadd, 1, 0, 0, 0) := by decide +kernel
theorem s105_20 {L : pj_Loc} {st : List Value} {M : pj_Mem} {x y : Int32} : pj_step 105 (20, L, .int y :: .int x :: st, M) = some (21, L, .int (x + y) :: st, M) := st_iadd q105_20
theorem x105_20 {L : pj_Loc} {st : List Value} {M : pj_Mem} {x y : Int32} {o9 : Option Value × pj_Mem} : pj_Ends 105 (20, L, .int y :: .int x :: st, M) o9 = pj_Ends 105 (21, L, .int (x + y) :: st, M) o9 := pj_xs (s105_20)
theorem q105_21 : pj_row 105 21 = some (.iaload, 1, 0, 0, 0) := by decide +kernel
theorem s105_21 {L : pj_Loc} {st : List Value} {N S : Nat} {H : pj_Heap} {o : Nat} {i : Int32} : pj_step 105 (21, L, .int i :: .ref o :: st, (N, S, H)) = pj_pi 22 L st (N, S, H) (pj_arl (H o) 0 i) := st_iaload q105_21
theorem x105_21 {L : pj_Loc} {st : List Value} {N S : Nat} {H : pj_Heap} {o : Nat} {i : Int32} {o9 : Option Value × pj_Mem} : pj_Ends 105 (21, L, .int i :: .ref o :: st, (N, S, H)) o9 = pj_then 105 o9 (pj_pi 22 L st (N, S, H) (pj_arl (H o) 0 i)) := pj_xt q105_21 rfl (pj_cl_nc rfl) (s105_21)
theorem q105_22 : pj_row 105 22 = some (.goto 22, 3, 44, 0, 0) := by decide +kernel
theorem s105_22 {L : pj_Loc} {st : List Value} {M : pj_Mem}  : pj_step 105 (22, L, st, M) = some (44, L, st, M) := st_goto q105_22
theorem x105_22 {L : pj_Loc} {st : List Value} {M : pj_Mem}  {o9 : Option Value × pj_Mem} : pj_Ends 105 (22, L, st, M) o9 = pj_Ends 105 (44, L, st, M) o9 := pj_xs (s105_22)
theorem q105_25 : pj_row 105 25 = some (.iload_n 2, 1, 0, 0, 0) := by decide +kernel
theorem s105_25 {st : List Value} {M : pj_Mem} {l : pj_Loc} {a0 a1 : Option Value} {x : Int32} : pj_step 105 (25, a0 :: a1 :: some (.int x) :: l, st, M) = some (26, a0 :: a1 :: some (.int x) :: l, .int x :: st, M) := st_iload_n q105_25 rfl
theorem x105_25 {st : List Value} {M : pj_Mem} {l : pj_Loc} {a0 a1 : Option Value} {x : Int32} {o9 : Option Value × pj_Mem} : pj_Ends 105 (25, a0 :: a1 :: some (.int x) :: l, st, M) o9 = pj_Ends 105 (26, a0 :: a1 :: some (.int x) :: l, .int x :: st, M) o9 := pj_xs (s105_25)
theorem q105_26 : pj_row 105 26 = some (.iconst 1, 1, 0, 0, 0) := by decide +kernel
theorem s105_26 {L : pj_Loc} {st : List Value} {M : pj_Mem}  : pj_step 105 (26, L, st, M) = some (27, L, .int 1 :: st, M) := st_iconst q105_26 (by decide +kernel)
theorem x105_26 {L : pj_Loc} {st : List Value} {M : pj_Mem}  {o9 : Option Value × pj_Mem} : pj_Ends 105 (26, L, st, M) o9 = pj_Ends 105 (27, L, .int 1 :: st, M) o9 := pj_xs (s105_26)
theorem q105_27 : pj_row 105 27 = some (.if_icmp .ne 15, 3, 42, 0, 0) := by decide +kernel
theorem s105_27 {L : pj_Loc} {st : List Value} {M : pj_Mem} {x y : Int32} : pj_step 105 (27, L, .int y :: .int x :: st, M) = some (if ¬ x = y then 42 else 30, L, st, M) := st_icmp_ne q105_27
theorem x105_27 {L : pj_Loc} {st : List Value} {M : pj_Mem} {x y : Int32} {o9 : Option Value × pj_Mem} : pj_Ends 105 (27, L, .int y :: .int x :: st, M) o9 = pj_Ends 105 (if ¬ x = y then 42 else 30, L, st, M) o9 := pj_xs (s105_27)
theorem q105_30 : pj_row 105 30 = some (.aload_n 0, 1, 0, 0, 0) := by decide +kernel
theorem s105_30 {st : List Value} {M : pj_Mem} {l : pj_Loc} {x : Nat} : pj_step 105 (30, some (.ref x) :: l, st, M) = some (31, some (.ref x) :: l, .ref x :: st, M) := st_aload_n q105_30 rfl
theorem x105_30 {st : List Value} {M : pj_Mem} {l : pj_Loc} {x : Nat} {o9 : Option Value × pj_Mem} : pj_Ends 105 (30, some (.ref x) :: l, st, M) o9 = pj_Ends 105 (31, some (.ref x) :: l, .ref x :: st, M) o9 := pj_xs (s105_30)
theorem q105_31 : pj_row 105 31 = some (.getfield 7, 3, 6, 0, 0) := by decide +kernel
theorem s105_31 {L : pj_Loc} {st : List Value} {N S : Nat} {H : pj_Heap} {o : Nat} : pj_step 105 (31, L, .ref o :: st, (N, S, H)) = pj_pv 34 L st (N, S, H) (pj_fld (H o) 6 0) := st_getfield q105_31
theorem x105_31 {L : pj_Loc} {st : List Value} {N S : Nat} {H : pj_Heap} {o : Nat} {o9 : Option Value × pj_Mem} : pj_Ends 105 (31, L, .ref o :: st, (N, S, H)) o9 = pj_then 105 o9 (pj_pv 34 L st (N, S, H) (pj_fld (H o) 6 0)) := pj_xt q105_31 rfl (pj_cl_nc rfl) (s105_31)
theorem q105_34 : pj_row 105 34 = some (.bipush 26, 2, 0, 0, 0) := by decide +kernel
theorem s105_34 {L : pj_Loc} {st : List Value} {M : pj_Mem}  : pj_step 105 (34, L, st, M) = some (36, L, .int 26 :: st, M) := st_bipush q105_34 (by decide +kernel)
theorem x105_34 {L : pj_Loc} {st : List Value} {M : pj_Mem}  {o9 : Option Value × pj_Mem} : pj_Ends 105 (34, L, st, M) o9 = pj_Ends 105 (36, L, .int 26 :: st, M) o9 := pj_xs (s105_34)
theorem q105_36 : pj_row 105 36 = some (.iload_n 1, 1, 0, 0, 0) := by decide +kernel
theorem s105_36 {st : List Value} {M : pj_Mem} {l : pj_Loc} {a0 : Option Value} {x : Int32} : pj_step 105 (36, a0 :: some (.int x) :: l, st, M) = some (37, a0 :: some (.int x) :: l, .int x :: st, M) := st_iload_n q105_36 rfl
theorem x105_36 {st : List Value} {M : pj_Mem} {l : pj_Loc} {a0 : Option Value} {x : Int32} {o9 : Option Value × pj_Mem} : pj_Ends 105 (36, a0 :: some (.int x) :: l, st, M) o9 = pj_Ends 105 (37, a0 :: some (.int x) :: l, .int x :: st, M) o9 := pj_xs (s105_36)
theorem q105_37 : pj_row 105 37 = some (.iadd, 1, 0, 0, 0) := by decide +kernel
theorem s105_37 {L : pj_Loc} {st : List Value} {M : pj_Mem} {x y : Int32} : pj_step 105 (37, L, .int y :: .int x :: st, M) = some (38, L, .int (x + y) :: st, M) := st_iadd q105_37
theorem x105_37 {L : pj_Loc} {st : List Value} {M : pj_Mem} {x y : Int32} {o9 : Option Value × pj_Mem} : pj_Ends 105 (37, L, .int y :: .int x :: st, M) o9 = pj_Ends 105 (38, L, .int (x + y) :: st, M) o9 := pj_xs (s105_37)
theorem q105_38 : pj_row 105 38 = some (.iaload, 1, 0, 0, 0) := by decide +kernel
theorem s105_38 {L : pj_Loc} {st : List Value} {N S : Nat} {H : pj_Heap} {o : Nat} {i : Int32} : pj_step 105 (38, L, .int i :: .ref o :: st, (N, S, H)) = pj_pi 39 L st (N, S, H) (pj_arl (H o) 0 i) := st_iaload q105_38
theorem x105_38 {L : pj_Loc} {st : List Value} {N S : Nat} {H : pj_Heap} {o : Nat} {i : Int32} {o9 : Option Value × pj_Mem} : pj_Ends 105 (38, L, .int i :: .ref o :: st, (N, S, H)) o9 = pj_then 105 o9 (pj_pi 39 L st (N, S, H) (pj_arl (H o) 0 i)) := pj_xt q105_38 rfl (pj_cl_nc rfl) (s105_38)
theorem q105_39 : pj_row 105 39 = some (.goto 5, 3, 44, 0, 0) := by decide +kernel
theorem s105_39 {L : pj_Loc} {st : List Value} {M : pj_Mem}  : pj_step 105 (39, L, st, M) = some (44, L, st, M) := st_goto q105_39
theorem x105_39 {L : pj_Loc} {st : List Value} {M : pj_Mem}  {o9 : Option Value × pj_Mem} : pj_Ends 105 (39, L, st, M) o9 = pj_Ends 105 (44, L, st, M) o9 := pj_xs (s105_39)
theorem q105_42 : pj_row 105 42 = some (.bipush (-2), 2, 0, 0, 0) := by decide +kernel
theorem s105_42 {L : pj_Loc} {st : List Value} {M : pj_Mem}  : pj_step 105 (42, L, st, M) = some (44, L, .int (-2) :: st, M) := st_bipush q105_42 (by decide +kernel)
theorem x105_42 {L : pj_Loc} {st : List Value} {M : pj_Mem}  {o9 : Option Value × pj_Mem} : pj_Ends 105 (42, L, st, M) o9 = pj_Ends 105 (44, L, .int (-2) :: st, M) o9 := pj_xs (s105_42)
theorem q105_44 : pj_row 105 44 = some (.ireturn, 1, 0, 0, 0) := by decide +kernel
theorem t105_44 {L : pj_Loc} {M : pj_Mem} {v : Int32} : pj_Ends 105 (44, L, [.int v], M) (some (.int v), M) := pj_Ends.ret q105_44 (pj_rtn_i rt105)
theorem rt106 : pj_rt 106 = some .int := rfl
theorem q106_0 : pj_row 106 0 = some (.iload_n 1, 1, 0, 0, 0) := by decide +kernel
theorem s106_0 {st : List Value} {M : pj_Mem} {l : pj_Loc} {a0 : Option Value} {x : Int32} : pj_step 106 (0, a0 :: some (.int x) :: l, st, M) = some (1, a0 :: some (.int x) :: l, .int x :: st, M) := st_iload_n q106_0 rfl
theorem x106_0 {st : List Value} {M : pj_Mem} {l : pj_Loc} {a0 : Option Value} {x : Int32} {o9 : Option Value × pj_Mem} : pj_Ends 106 (0, a0 :: some (.int x) :: l, st, M) o9 = pj_Ends 106 (1, a0 :: some (.int x) :: l, .int x :: st, M) o9 := pj_xs (s106_0)
theorem q106_1 : pj_row 106 1 = some (.i2l, 1, 0, 0, 0) := by decide +kernel
theorem s106_1 {L : pj_Loc} {st : List Value} {M : pj_Mem} {x : Int32} : pj_step 106 (1, L, .int x :: st, M) = some (2, L, .long x.toInt64 :: st, M) := st_i2l q106_1
theorem x106_1 {L : pj_Loc} {st : List Value} {M : pj_Mem} {x : Int32} {o9 : Option Value × pj_Mem} : pj_Ends 106 (1, L, .int x :: st, M) o9 = pj_Ends 106 (2, L, .long x.toInt64 :: st, M) o9 := pj_xs (s106_1)
theorem q106_2 : pj_row 106 2 = some (.lconst 0, 1, 0, 0, 0) := by decide +kernel
theorem s106_2 {L : pj_Loc} {st : List Value} {M : pj_Mem}  : pj_step 106 (2, L, st, M) = some (3, L, .long 0 :: st, M) := st_lconst q106_2 (by decide +kernel)
theorem x106_2 {L : pj_Loc} {st : List Value} {M : pj_Mem}  {o9 : Option Value × pj_Mem} : pj_Ends 106 (2, L, st, M) o9 = pj_Ends 106 (3, L, .long 0 :: st, M) o9 := pj_xs (s106_2)
theorem q106_3 : pj_row 106 3 = some (.aload_n 0, 1, 0, 0, 0) := by decide +kernel
theorem s106_3 {st : List Value} {M : pj_Mem} {l : pj_Loc} {x : Nat} : pj_step 106 (3, some (.ref x) :: l, st, M) = some (4, some (.ref x) :: l, .ref x :: st, M) := st_aload_n q106_3 rfl
theorem x106_3 {st : List Value} {M : pj_Mem} {l : pj_Loc} {x : Nat} {o9 : Option Value × pj_Mem} : pj_Ends 106 (3, some (.ref x) :: l, st, M) o9 = pj_Ends 106 (4, some (.ref x) :: l, .ref x :: st, M) o9 := pj_xs (s106_3)
theorem q106_4 : pj_row 106 4 = some (.getfield 7, 3, 6, 0, 0) := by decide +kernel
theorem s106_4 {L : pj_Loc} {st : List Value} {N S : Nat} {H : pj_Heap} {o : Nat} : pj_step 106 (4, L, .ref o :: st, (N, S, H)) = pj_pv 7 L st (N, S, H) (pj_fld (H o) 6 0) := st_getfield q106_4
theorem x106_4 {L : pj_Loc} {st : List Value} {N S : Nat} {H : pj_Heap} {o : Nat} {o9 : Option Value × pj_Mem} : pj_Ends 106 (4, L, .ref o :: st, (N, S, H)) o9 = pj_then 106 o9 (pj_pv 7 L st (N, S, H) (pj_fld (H o) 6 0)) := pj_xt q106_4 rfl (pj_cl_nc rfl) (s106_4)
theorem q106_7 : pj_row 106 7 = some (.bipush 30, 2, 0, 0, 0) := by decide +kernel
theorem s106_7 {L : pj_Loc} {st : List Value} {M : pj_Mem}  : pj_step 106 (7, L, st, M) = some (9, L, .int 30 :: st, M) := st_bipush q106_7 (by decide +kernel)
theorem x106_7 {L : pj_Loc} {st : List Value} {M : pj_Mem}  {o9 : Option Value × pj_Mem} : pj_Ends 106 (7, L, st, M) o9 = pj_Ends 106 (9, L, .int 30 :: st, M) o9 := pj_xs (s106_7)
theorem q106_9 : pj_row 106 9 = some (.iaload, 1, 0, 0, 0) := by decide +kernel
theorem s106_9 {L : pj_Loc} {st : List Value} {N S : Nat} {H : pj_Heap} {o : Nat} {i : Int32} : pj_step 106 (9, L, .int i :: .ref o :: st, (N, S, H)) = pj_pi 10 L st (N, S, H) (pj_arl (H o) 0 i) := st_iaload q106_9
theorem x106_9 {L : pj_Loc} {st : List Value} {N S : Nat} {H : pj_Heap} {o : Nat} {i : Int32} {o9 : Option Value × pj_Mem} : pj_Ends 106 (9, L, .int i :: .ref o :: st, (N, S, H)) o9 = pj_then 106 o9 (pj_pi 10 L st (N, S, H) (pj_arl (H o) 0 i)) := pj_xt q106_9 rfl (pj_cl_nc rfl) (s106_9)
theorem q106_10 : pj_row 106 10 = some (.i2l, 1, 0, 0, 0) := by decide +kernel
theorem s106_10 {L : pj_Loc} {st : List Value} {M : pj_Mem} {x : Int32} : pj_step 106 (10, L, .int x :: st, M) = some (11, L, .long x.toInt64 :: st, M) := st_i2l q106_10
theorem x106_10 {L : pj_Loc} {st : List Value} {M : pj_Mem} {x : Int32} {o9 : Option Value × pj_Mem} : pj_Ends 106 (10, L, .int x :: st, M) o9 = pj_Ends 106 (11, L, .long x.toInt64 :: st, M) o9 := pj_xs (s106_10)
theorem q106_11 : pj_row 106 11 = some (.lconst 1, 1, 0, 0, 0) := by decide +kernel
theorem s106_11 {L : pj_Loc} {st : List Value} {M : pj_Mem}  : pj_step 106 (11, L, st, M) = some (12, L, .long 1 :: st, M) := st_lconst q106_11 (by decide +kernel)
theorem x106_11 {L : pj_Loc} {st : List Value} {M : pj_Mem}  {o9 : Option Value × pj_Mem} : pj_Ends 106 (11, L, st, M) o9 = pj_Ends 106 (12, L, .long 1 :: st, M) o9 := pj_xs (s106_11)
theorem q106_12 : pj_row 106 12 = some (.lsub, 1, 0, 0, 0) := by decide +kernel
theorem s106_12 {L : pj_Loc} {st : List Value} {M : pj_Mem} {x y : Int64} : pj_step 106 (12, L, .long y :: .long x :: st, M) = some (13, L, .long (x - y) :: st, M) := st_lsub q106_12
theorem x106_12 {L : pj_Loc} {st : List Value} {M : pj_Mem} {x y : Int64} {o9 : Option Value × pj_Mem} : pj_Ends 106 (12, L, .long y :: .long x :: st, M) o9 = pj_Ends 106 (13, L, .long (x - y) :: st, M) o9 := pj_xs (s106_12)
theorem q106_13 : pj_row 106 13 = some (.invokestatic 42, 3, 76, 3, 0) := by decide +kernel
theorem e106_13 {L : pj_Loc} {st : List Value} {N S : Nat} {H : pj_Heap} {o : Option Value × pj_Mem} {M' : pj_Mem} {x0 : Int64} {x1 : Int64} {x2 : Int64} {r : Int32} (h4 : pj_le4 st = true) (h1 : pj_Ends 76 (0, [some (.long x0), none, some (.long x1), none, some (.long x2), none], [], (N, S, H)) (some (.int r), M')) (h2 : pj_Ends 106 (16, L, .int r :: st, M') o) : pj_Ends 106 (13, L, .long x2 :: .long x1 :: .long x0 :: st, (N, S, H)) o := ec_s3 q106_13 (Or.inl rfl) h4 rfl h1 h2
theorem q106_16 : pj_row 106 16 = some (.ifCond .ne 5, 3, 21, 0, 0) := by decide +kernel
theorem s106_16 {L : pj_Loc} {st : List Value} {M : pj_Mem} {x : Int32} : pj_step 106 (16, L, .int x :: st, M) = some (if ¬ x = 0 then 21 else 19, L, st, M) := st_if_ne q106_16
theorem x106_16 {L : pj_Loc} {st : List Value} {M : pj_Mem} {x : Int32} {o9 : Option Value × pj_Mem} : pj_Ends 106 (16, L, .int x :: st, M) o9 = pj_Ends 106 (if ¬ x = 0 then 21 else 19, L, st, M) o9 := pj_xs (s106_16)
theorem q106_19 : pj_row 106 19 = some (.iconst (-1), 1, 0, 0, 0) := by decide +kernel
theorem s106_19 {L : pj_Loc} {st : List Value} {M : pj_Mem}  : pj_step 106 (19, L, st, M) = some (20, L, .int (-1) :: st, M) := st_iconst q106_19 (by decide +kernel)
theorem x106_19 {L : pj_Loc} {st : List Value} {M : pj_Mem}  {o9 : Option Value × pj_Mem} : pj_Ends 106 (19, L, st, M) o9 = pj_Ends 106 (20, L, .int (-1) :: st, M) o9 := pj_xs (s106_19)
theorem q106_20 : pj_row 106 20 = some (.ireturn, 1, 0, 0, 0) := by decide +kernel
theorem t106_20 {L : pj_Loc} {M : pj_Mem} {v : Int32} : pj_Ends 106 (20, L, [.int v], M) (some (.int v), M) := pj_Ends.ret q106_20 (pj_rtn_i rt106)
theorem q106_21 : pj_row 106 21 = some (.iload_n 2, 1, 0, 0, 0) := by decide +kernel
theorem s106_21 {st : List Value} {M : pj_Mem} {l : pj_Loc} {a0 a1 : Option Value} {x : Int32} : pj_step 106 (21, a0 :: a1 :: some (.int x) :: l, st, M) = some (22, a0 :: a1 :: some (.int x) :: l, .int x :: st, M) := st_iload_n q106_21 rfl
theorem x106_21 {st : List Value} {M : pj_Mem} {l : pj_Loc} {a0 a1 : Option Value} {x : Int32} {o9 : Option Value × pj_Mem} : pj_Ends 106 (21, a0 :: a1 :: some (.int x) :: l, st, M) o9 = pj_Ends 106 (22, a0 :: a1 :: some (.int x) :: l, .int x :: st, M) o9 := pj_xs (s106_21)
theorem q106_22 : pj_row 106 22 = some (.i2l, 1, 0, 0, 0) := by decide +kernel
theorem s106_22 {L : pj_Loc} {st : List Value} {M : pj_Mem} {x : Int32} : pj_step 106 (22, L, .int x :: st, M) = some (23, L, .long x.toInt64 :: st, M) := st_i2l q106_22
theorem x106_22 {L : pj_Loc} {st : List Value} {M : pj_Mem} {x : Int32} {o9 : Option Value × pj_Mem} : pj_Ends 106 (22, L, .int x :: st, M) o9 = pj_Ends 106 (23, L, .long x.toInt64 :: st, M) o9 := pj_xs (s106_22)
theorem q106_23 : pj_row 106 23 = some (.lconst 0, 1, 0, 0, 0) := by decide +kernel
theorem s106_23 {L : pj_Loc} {st : List Value} {M : pj_Mem}  : pj_step 106 (23, L, st, M) = some (24, L, .long 0 :: st, M) := st_lconst q106_23 (by decide +kernel)
theorem x106_23 {L : pj_Loc} {st : List Value} {M : pj_Mem}  {o9 : Option Value × pj_Mem} : pj_Ends 106 (23, L, st, M) o9 = pj_Ends 106 (24, L, .long 0 :: st, M) o9 := pj_xs (s106_23)
theorem q106_24 : pj_row 106 24 = some (.ldc2_w 146, 3, 0, 0, 9) := by decide +kernel
theorem s106_24 {L : pj_Loc} {st : List Value} {M : pj_Mem}  : pj_step 106 (24, L, st, M) = some (27, L, .long 9 :: st, M) := st_ldc2_w q106_24 (by decide +kernel)
theorem x106_24 {L : pj_Loc} {st : List Value} {M : pj_Mem}  {o9 : Option Value × pj_Mem} : pj_Ends 106 (24, L, st, M) o9 = pj_Ends 106 (27, L, .long 9 :: st, M) o9 := pj_xs (s106_24)
theorem q106_27 : pj_row 106 27 = some (.invokestatic 42, 3, 76, 3, 0) := by decide +kernel
theorem e106_27 {L : pj_Loc} {st : List Value} {N S : Nat} {H : pj_Heap} {o : Option Value × pj_Mem} {M' : pj_Mem} {x0 : Int64} {x1 : Int64} {x2 : Int64} {r : Int32} (h4 : pj_le4 st = true) (h1 : pj_Ends 76 (0, [some (.long x0), none, some (.long x1), none, some (.long x2), none], [], (N, S, H)) (some (.int r), M')) (h2 : pj_Ends 106 (30, L, .int r :: st, M') o) : pj_Ends 106 (27, L, .long x2 :: .long x1 :: .long x0 :: st, (N, S, H)) o := ec_s3 q106_27 (Or.inl rfl) h4 rfl h1 h2
theorem q106_30 : pj_row 106 30 = some (.ifCond .eq 20, 3, 50, 0, 0) := by decide +kernel
theorem s106_30 {L : pj_Loc} {st : List Value} {M : pj_Mem} {x : Int32} : pj_step 106 (30, L, .int x :: st, M) = some (if x = 0 then 50 else 33, L, st, M) := st_if_eq q106_30
theorem x106_30 {L : pj_Loc} {st : List Value} {M : pj_Mem} {x : Int32} {o9 : Option Value × pj_Mem} : pj_Ends 106 (30, L, .int x :: st, M) o9 = pj_Ends 106 (if x = 0 then 50 else 33, L, st, M) o9 := pj_xs (s106_30)
theorem q106_33 : pj_row 106 33 = some (.aload_n 0, 1, 0, 0, 0) := by decide +kernel
theorem s106_33 {st : List Value} {M : pj_Mem} {l : pj_Loc} {x : Nat} : pj_step 106 (33, some (.ref x) :: l, st, M) = some (34, some (.ref x) :: l, .ref x :: st, M) := st_aload_n q106_33 rfl
theorem x106_33 {st : List Value} {M : pj_Mem} {l : pj_Loc} {x : Nat} {o9 : Option Value × pj_Mem} : pj_Ends 106 (33, some (.ref x) :: l, st, M) o9 = pj_Ends 106 (34, some (.ref x) :: l, .ref x :: st, M) o9 := pj_xs (s106_33)
theorem q106_34 : pj_row 106 34 = some (.getfield 7, 3, 6, 0, 0) := by decide +kernel
theorem s106_34 {L : pj_Loc} {st : List Value} {N S : Nat} {H : pj_Heap} {o : Nat} : pj_step 106 (34, L, .ref o :: st, (N, S, H)) = pj_pv 37 L st (N, S, H) (pj_fld (H o) 6 0) := st_getfield q106_34
theorem x106_34 {L : pj_Loc} {st : List Value} {N S : Nat} {H : pj_Heap} {o : Nat} {o9 : Option Value × pj_Mem} : pj_Ends 106 (34, L, .ref o :: st, (N, S, H)) o9 = pj_then 106 o9 (pj_pv 37 L st (N, S, H) (pj_fld (H o) 6 0)) := pj_xt q106_34 rfl (pj_cl_nc rfl) (s106_34)
theorem q106_37 : pj_row 106 37 = some (.bipush 31, 2, 0, 0, 0) := by decide +kernel
theorem s106_37 {L : pj_Loc} {st : List Value} {M : pj_Mem}  : pj_step 106 (37, L, st, M) = some (39, L, .int 31 :: st, M) := st_bipush q106_37 (by decide +kernel)
theorem x106_37 {L : pj_Loc} {st : List Value} {M : pj_Mem}  {o9 : Option Value × pj_Mem} : pj_Ends 106 (37, L, st, M) o9 = pj_Ends 106 (39, L, .int 31 :: st, M) o9 := pj_xs (s106_37)
theorem q106_39 : pj_row 106 39 = some (.bipush 10, 2, 0, 0, 0) := by decide +kernel
theorem s106_39 {L : pj_Loc} {st : List Value} {M : pj_Mem}  : pj_step 106 (39, L, st, M) = some (41, L, .int 10 :: st, M) := st_bipush q106_39 (by decide +kernel)
theorem x106_39 {L : pj_Loc} {st : List Value} {M : pj_Mem}  {o9 : Option Value × pj_Mem} : pj_Ends 106 (39, L, st, M) o9 = pj_Ends 106 (41, L, .int 10 :: st, M) o9 := pj_xs (s106_39)
theorem q106_41 : pj_row 106 41 = some (.iload_n 1, 1, 0, 0, 0) := by decide +kernel
theorem s106_41 {st : List Value} {M : pj_Mem} {l : pj_Loc} {a0 : Option Value} {x : Int32} : pj_step 106 (41, a0 :: some (.int x) :: l, st, M) = some (42, a0 :: some (.int x) :: l, .int x :: st, M) := st_iload_n q106_41 rfl
theorem x106_41 {st : List Value} {M : pj_Mem} {l : pj_Loc} {a0 : Option Value} {x : Int32} {o9 : Option Value × pj_Mem} : pj_Ends 106 (41, a0 :: some (.int x) :: l, st, M) o9 = pj_Ends 106 (42, a0 :: some (.int x) :: l, .int x :: st, M) o9 := pj_xs (s106_41)
theorem q106_42 : pj_row 106 42 = some (.imul, 1, 0, 0, 0) := by decide +kernel
theorem s106_42 {L : pj_Loc} {st : List Value} {M : pj_Mem} {x y : Int32} : pj_step 106 (42, L, .int y :: .int x :: st, M) = some (43, L, .int (x * y) :: st, M) := st_imul q106_42
theorem x106_42 {L : pj_Loc} {st : List Value} {M : pj_Mem} {x y : Int32} {o9 : Option Value × pj_Mem} : pj_Ends 106 (42, L, .int y :: .int x :: st, M) o9 = pj_Ends 106 (43, L, .int (x * y) :: st, M) o9 := pj_xs (s106_42)
theorem q106_43 : pj_row 106 43 = some (.iadd, 1, 0, 0, 0) := by decide +kernel
theorem s106_43 {L : pj_Loc} {st : List Value} {M : pj_Mem} {x y : Int32} : pj_step 106 (43, L, .int y :: .int x :: st, M) = some (44, L, .int (x + y) :: st, M) := st_iadd q106_43
theorem x106_43 {L : pj_Loc} {st : List Value} {M : pj_Mem} {x y : Int32} {o9 : Option Value × pj_Mem} : pj_Ends 106 (43, L, .int y :: .int x :: st, M) o9 = pj_Ends 106 (44, L, .int (x + y) :: st, M) o9 := pj_xs (s106_43)
theorem q106_44 : pj_row 106 44 = some (.iload_n 2, 1, 0, 0, 0) := by decide +kernel
theorem s106_44 {st : List Value} {M : pj_Mem} {l : pj_Loc} {a0 a1 : Option Value} {x : Int32} : pj_step 106 (44, a0 :: a1 :: some (.int x) :: l, st, M) = some (45, a0 :: a1 :: some (.int x) :: l, .int x :: st, M) := st_iload_n q106_44 rfl
theorem x106_44 {st : List Value} {M : pj_Mem} {l : pj_Loc} {a0 a1 : Option Value} {x : Int32} {o9 : Option Value × pj_Mem} : pj_Ends 106 (44, a0 :: a1 :: some (.int x) :: l, st, M) o9 = pj_Ends 106 (45, a0 :: a1 :: some (.int x) :: l, .int x :: st, M) o9 := pj_xs (s106_44)
theorem q106_45 : pj_row 106 45 = some (.iadd, 1, 0, 0, 0) := by decide +kernel
theorem s106_45 {L : pj_Loc} {st : List Value} {M : pj_Mem} {x y : Int32} : pj_step 106 (45, L, .int y :: .int x :: st, M) = some (46, L, .int (x + y) :: st, M) := st_iadd q106_45
theorem x106_45 {L : pj_Loc} {st : List Value} {M : pj_Mem} {x y : Int32} {o9 : Option Value × pj_Mem} : pj_Ends 106 (45, L, .int y :: .int x :: st, M) o9 = pj_Ends 106 (46, L, .int (x + y) :: st, M) o9 := pj_xs (s106_45)
theorem q106_46 : pj_row 106 46 = some (.iaload, 1, 0, 0, 0) := by decide +kernel
theorem s106_46 {L : pj_Loc} {st : List Value} {N S : Nat} {H : pj_Heap} {o : Nat} {i : Int32} : pj_step 106 (46, L, .int i :: .ref o :: st, (N, S, H)) = pj_pi 47 L st (N, S, H) (pj_arl (H o) 0 i) := st_iaload q106_46
theorem x106_46 {L : pj_Loc} {st : List Value} {N S : Nat} {H : pj_Heap} {o : Nat} {i : Int32} {o9 : Option Value × pj_Mem} : pj_Ends 106 (46, L, .int i :: .ref o :: st, (N, S, H)) o9 = pj_then 106 o9 (pj_pi 47 L st (N, S, H) (pj_arl (H o) 0 i)) := pj_xt q106_46 rfl (pj_cl_nc rfl) (s106_46)
theorem q106_47 : pj_row 106 47 = some (.goto 5, 3, 52, 0, 0) := by decide +kernel
theorem s106_47 {L : pj_Loc} {st : List Value} {M : pj_Mem}  : pj_step 106 (47, L, st, M) = some (52, L, st, M) := st_goto q106_47
theorem x106_47 {L : pj_Loc} {st : List Value} {M : pj_Mem}  {o9 : Option Value × pj_Mem} : pj_Ends 106 (47, L, st, M) o9 = pj_Ends 106 (52, L, st, M) o9 := pj_xs (s106_47)
theorem q106_50 : pj_row 106 50 = some (.bipush (-2), 2, 0, 0, 0) := by decide +kernel
theorem s106_50 {L : pj_Loc} {st : List Value} {M : pj_Mem}  : pj_step 106 (50, L, st, M) = some (52, L, .int (-2) :: st, M) := st_bipush q106_50 (by decide +kernel)
theorem x106_50 {L : pj_Loc} {st : List Value} {M : pj_Mem}  {o9 : Option Value × pj_Mem} : pj_Ends 106 (50, L, st, M) o9 = pj_Ends 106 (52, L, .int (-2) :: st, M) o9 := pj_xs (s106_50)
theorem q106_52 : pj_row 106 52 = some (.ireturn, 1, 0, 0, 0) := by decide +kernel
theorem t106_52 {L : pj_Loc} {M : pj_Mem} {v : Int32} : pj_Ends 106 (52, L, [.int v], M) (some (.int v), M) := pj_Ends.ret q106_52 (pj_rtn_i rt106)
theorem rt107 : pj_rt 107 = some .int := rfl
theorem q107_0 : pj_row 107 0 = some (.iload_n 1, 1, 0, 0, 0) := by decide +kernel
theorem s107_0 {st : List Value} {M : pj_Mem} {l : pj_Loc} {a0 : Option Value} {x : Int32} : pj_step 107 (0, a0 :: some (.int x) :: l, st, M) = some (1, a0 :: some (.int x) :: l, .int x :: st, M) := st_iload_n q107_0 rfl
theorem x107_0 {st : List Value} {M : pj_Mem} {l : pj_Loc} {a0 : Option Value} {x : Int32} {o9 : Option Value × pj_Mem} : pj_Ends 107 (0, a0 :: some (.int x) :: l, st, M) o9 = pj_Ends 107 (1, a0 :: some (.int x) :: l, .int x :: st, M) o9 := pj_xs (s107_0)
theorem q107_1 : pj_row 107 1 = some (.i2l, 1, 0, 0, 0) := by decide +kernel
theorem s107_1 {L : pj_Loc} {st : List Value} {M : pj_Mem} {x : Int32} : pj_step 107 (1, L, .int x :: st, M) = some (2, L, .long x.toInt64 :: st, M) := st_i2l q107_1
theorem x107_1 {L : pj_Loc} {st : List Value} {M : pj_Mem} {x : Int32} {o9 : Option Value × pj_Mem} : pj_Ends 107 (1, L, .int x :: st, M) o9 = pj_Ends 107 (2, L, .long x.toInt64 :: st, M) o9 := pj_xs (s107_1)
theorem q107_2 : pj_row 107 2 = some (.ldc2_w 148, 3, 0, 0, 8) := by decide +kernel
theorem s107_2 {L : pj_Loc} {st : List Value} {M : pj_Mem}  : pj_step 107 (2, L, st, M) = some (5, L, .long 8 :: st, M) := st_ldc2_w q107_2 (by decide +kernel)
theorem x107_2 {L : pj_Loc} {st : List Value} {M : pj_Mem}  {o9 : Option Value × pj_Mem} : pj_Ends 107 (2, L, st, M) o9 = pj_Ends 107 (5, L, .long 8 :: st, M) o9 := pj_xs (s107_2)
theorem q107_5 : pj_row 107 5 = some (.ldc2_w 150, 3, 0, 0, 13) := by decide +kernel
theorem s107_5 {L : pj_Loc} {st : List Value} {M : pj_Mem}  : pj_step 107 (5, L, st, M) = some (8, L, .long 13 :: st, M) := st_ldc2_w q107_5 (by decide +kernel)
theorem x107_5 {L : pj_Loc} {st : List Value} {M : pj_Mem}  {o9 : Option Value × pj_Mem} : pj_Ends 107 (5, L, st, M) o9 = pj_Ends 107 (8, L, .long 13 :: st, M) o9 := pj_xs (s107_5)
theorem q107_8 : pj_row 107 8 = some (.invokestatic 42, 3, 76, 3, 0) := by decide +kernel
theorem e107_8 {L : pj_Loc} {st : List Value} {N S : Nat} {H : pj_Heap} {o : Option Value × pj_Mem} {M' : pj_Mem} {x0 : Int64} {x1 : Int64} {x2 : Int64} {r : Int32} (h4 : pj_le4 st = true) (h1 : pj_Ends 76 (0, [some (.long x0), none, some (.long x1), none, some (.long x2), none], [], (N, S, H)) (some (.int r), M')) (h2 : pj_Ends 107 (11, L, .int r :: st, M') o) : pj_Ends 107 (8, L, .long x2 :: .long x1 :: .long x0 :: st, (N, S, H)) o := ec_s3 q107_8 (Or.inl rfl) h4 rfl h1 h2
theorem q107_11 : pj_row 107 11 = some (.ifCond .eq 13, 3, 24, 0, 0) := by decide +kernel
theorem s107_11 {L : pj_Loc} {st : List Value} {M : pj_Mem} {x : Int32} : pj_step 107 (11, L, .int x :: st, M) = some (if x = 0 then 24 else 14, L, st, M) := st_if_eq q107_11
theorem x107_11 {L : pj_Loc} {st : List Value} {M : pj_Mem} {x : Int32} {o9 : Option Value × pj_Mem} : pj_Ends 107 (11, L, .int x :: st, M) o9 = pj_Ends 107 (if x = 0 then 24 else 14, L, st, M) o9 := pj_xs (s107_11)
theorem q107_14 : pj_row 107 14 = some (.aload_n 0, 1, 0, 0, 0) := by decide +kernel
theorem s107_14 {st : List Value} {M : pj_Mem} {l : pj_Loc} {x : Nat} : pj_step 107 (14, some (.ref x) :: l, st, M) = some (15, some (.ref x) :: l, .ref x :: st, M) := st_aload_n q107_14 rfl
theorem x107_14 {st : List Value} {M : pj_Mem} {l : pj_Loc} {x : Nat} {o9 : Option Value × pj_Mem} : pj_Ends 107 (14, some (.ref x) :: l, st, M) o9 = pj_Ends 107 (15, some (.ref x) :: l, .ref x :: st, M) o9 := pj_xs (s107_14)
theorem q107_15 : pj_row 107 15 = some (.getfield 7, 3, 6, 0, 0) := by decide +kernel
theorem s107_15 {L : pj_Loc} {st : List Value} {N S : Nat} {H : pj_Heap} {o : Nat} : pj_step 107 (15, L, .ref o :: st, (N, S, H)) = pj_pv 18 L st (N, S, H) (pj_fld (H o) 6 0) := st_getfield q107_15
theorem x107_15 {L : pj_Loc} {st : List Value} {N S : Nat} {H : pj_Heap} {o : Nat} {o9 : Option Value × pj_Mem} : pj_Ends 107 (15, L, .ref o :: st, (N, S, H)) o9 = pj_then 107 o9 (pj_pv 18 L st (N, S, H) (pj_fld (H o) 6 0)) := pj_xt q107_15 rfl (pj_cl_nc rfl) (s107_15)
theorem q107_18 : pj_row 107 18 = some (.iload_n 1, 1, 0, 0, 0) := by decide +kernel
theorem s107_18 {st : List Value} {M : pj_Mem} {l : pj_Loc} {a0 : Option Value} {x : Int32} : pj_step 107 (18, a0 :: some (.int x) :: l, st, M) = some (19, a0 :: some (.int x) :: l, .int x :: st, M) := st_iload_n q107_18 rfl
theorem x107_18 {st : List Value} {M : pj_Mem} {l : pj_Loc} {a0 : Option Value} {x : Int32} {o9 : Option Value × pj_Mem} : pj_Ends 107 (18, a0 :: some (.int x) :: l, st, M) o9 = pj_Ends 107 (19, a0 :: some (.int x) :: l, .int x :: st, M) o9 := pj_xs (s107_18)
theorem q107_19 : pj_row 107 19 = some (.bipush 8, 2, 0, 0, 0) := by decide +kernel
theorem s107_19 {L : pj_Loc} {st : List Value} {M : pj_Mem}  : pj_step 107 (19, L, st, M) = some (21, L, .int 8 :: st, M) := st_bipush q107_19 (by decide +kernel)
theorem x107_19 {L : pj_Loc} {st : List Value} {M : pj_Mem}  {o9 : Option Value × pj_Mem} : pj_Ends 107 (19, L, st, M) o9 = pj_Ends 107 (21, L, .int 8 :: st, M) o9 := pj_xs (s107_19)
theorem q107_21 : pj_row 107 21 = some (.isub, 1, 0, 0, 0) := by decide +kernel
theorem s107_21 {L : pj_Loc} {st : List Value} {M : pj_Mem} {x y : Int32} : pj_step 107 (21, L, .int y :: .int x :: st, M) = some (22, L, .int (x - y) :: st, M) := st_isub q107_21
theorem x107_21 {L : pj_Loc} {st : List Value} {M : pj_Mem} {x y : Int32} {o9 : Option Value × pj_Mem} : pj_Ends 107 (21, L, .int y :: .int x :: st, M) o9 = pj_Ends 107 (22, L, .int (x - y) :: st, M) o9 := pj_xs (s107_21)
theorem q107_22 : pj_row 107 22 = some (.iaload, 1, 0, 0, 0) := by decide +kernel
theorem s107_22 {L : pj_Loc} {st : List Value} {N S : Nat} {H : pj_Heap} {o : Nat} {i : Int32} : pj_step 107 (22, L, .int i :: .ref o :: st, (N, S, H)) = pj_pi 23 L st (N, S, H) (pj_arl (H o) 0 i) := st_iaload q107_22
theorem x107_22 {L : pj_Loc} {st : List Value} {N S : Nat} {H : pj_Heap} {o : Nat} {i : Int32} {o9 : Option Value × pj_Mem} : pj_Ends 107 (22, L, .int i :: .ref o :: st, (N, S, H)) o9 = pj_then 107 o9 (pj_pi 23 L st (N, S, H) (pj_arl (H o) 0 i)) := pj_xt q107_22 rfl (pj_cl_nc rfl) (s107_22)
theorem q107_23 : pj_row 107 23 = some (.ireturn, 1, 0, 0, 0) := by decide +kernel
theorem t107_23 {L : pj_Loc} {M : pj_Mem} {v : Int32} : pj_Ends 107 (23, L, [.int v], M) (some (.int v), M) := pj_Ends.ret q107_23 (pj_rtn_i rt107)
theorem q107_24 : pj_row 107 24 = some (.iload_n 1, 1, 0, 0, 0) := by decide +kernel
theorem s107_24 {st : List Value} {M : pj_Mem} {l : pj_Loc} {a0 : Option Value} {x : Int32} : pj_step 107 (24, a0 :: some (.int x) :: l, st, M) = some (25, a0 :: some (.int x) :: l, .int x :: st, M) := st_iload_n q107_24 rfl
theorem x107_24 {st : List Value} {M : pj_Mem} {l : pj_Loc} {a0 : Option Value} {x : Int32} {o9 : Option Value × pj_Mem} : pj_Ends 107 (24, a0 :: some (.int x) :: l, st, M) o9 = pj_Ends 107 (25, a0 :: some (.int x) :: l, .int x :: st, M) o9 := pj_xs (s107_24)
theorem q107_25 : pj_row 107 25 = some (.tableswitch 149 0 15 #[79, 87, 95, 100, 105, 110, 118, 126, 149, 149, 149, 149, 149, 149, 139, 144], 79, 0, 0, 0) := by decide +kernel
theorem s107_25 {L : pj_Loc} {st : List Value} {M : pj_Mem} {x : Int32} : pj_step 107 (25, L, .int x :: st, M) = some (if x = 0 then 104 else if x = 1 then 112 else if x = 2 then 120 else if x = 3 then 125 else if x = 4 then 130 else if x = 5 then 135 else if x = 6 then 143 else if x = 7 then 151 else if x = 8 then 174 else if x = 9 then 174 else if x = 10 then 174 else if x = 11 then 174 else if x = 12 then 174 else if x = 13 then 174 else if x = 14 then 164 else if x = 15 then 169 else 174, L, st, M) := by
  rw [st_tsw q107_25]
  unfold pj_tsw
  by_cases hr : x.toInt < 0 ∨ 15 < x.toInt
  · simp only
    rw [if_pos hr]
    rw [if_neg (show ¬ x = 0 from fun e => by rw [e] at hr; revert hr; decide)]
    rw [if_neg (show ¬ x = 1 from fun e => by rw [e] at hr; revert hr; decide)]
    rw [if_neg (show ¬ x = 2 from fun e => by rw [e] at hr; revert hr; decide)]
    rw [if_neg (show ¬ x = 3 from fun e => by rw [e] at hr; revert hr; decide)]
    rw [if_neg (show ¬ x = 4 from fun e => by rw [e] at hr; revert hr; decide)]
    rw [if_neg (show ¬ x = 5 from fun e => by rw [e] at hr; revert hr; decide)]
    rw [if_neg (show ¬ x = 6 from fun e => by rw [e] at hr; revert hr; decide)]
    rw [if_neg (show ¬ x = 7 from fun e => by rw [e] at hr; revert hr; decide)]
    rw [if_neg (show ¬ x = 8 from fun e => by rw [e] at hr; revert hr; decide)]
    rw [if_neg (show ¬ x = 9 from fun e => by rw [e] at hr; revert hr; decide)]
    rw [if_neg (show ¬ x = 10 from fun e => by rw [e] at hr; revert hr; decide)]
    rw [if_neg (show ¬ x = 11 from fun e => by rw [e] at hr; revert hr; decide)]
    rw [if_neg (show ¬ x = 12 from fun e => by rw [e] at hr; revert hr; decide)]
    rw [if_neg (show ¬ x = 13 from fun e => by rw [e] at hr; revert hr; decide)]
    rw [if_neg (show ¬ x = 14 from fun e => by rw [e] at hr; revert hr; decide)]
    rw [if_neg (show ¬ x = 15 from fun e => by rw [e] at hr; revert hr; decide)]
    rfl
  · have h3 : x.toInt = 0 ∨ x.toInt = 1 ∨ x.toInt = 2 ∨ x.toInt = 3 ∨ x.toInt = 4 ∨ x.toInt = 5 ∨ x.toInt = 6 ∨ x.toInt = 7 ∨ x.toInt = 8 ∨ x.toInt = 9 ∨ x.toInt = 10 ∨ x.toInt = 11 ∨ x.toInt = 12 ∨ x.toInt = 13 ∨ x.toInt = 14 ∨ x.toInt = 15 := by omega
    rcases h3 with h3 | h3 | h3 | h3 | h3 | h3 | h3 | h3 | h3 | h3 | h3 | h3 | h3 | h3 | h3 | h3
    · have e : x = 0 := Int32.toInt_inj.mp (h3.trans (by decide))
      subst e
      rfl
    · have e : x = 1 := Int32.toInt_inj.mp (h3.trans (by decide))
      subst e
      rfl
    · have e : x = 2 := Int32.toInt_inj.mp (h3.trans (by decide))
      subst e
      rfl
    · have e : x = 3 := Int32.toInt_inj.mp (h3.trans (by decide))
      subst e
      rfl
    · have e : x = 4 := Int32.toInt_inj.mp (h3.trans (by decide))
      subst e
      rfl
    · have e : x = 5 := Int32.toInt_inj.mp (h3.trans (by decide))
      subst e
      rfl
    · have e : x = 6 := Int32.toInt_inj.mp (h3.trans (by decide))
      subst e
      rfl
    · have e : x = 7 := Int32.toInt_inj.mp (h3.trans (by decide))
      subst e
      rfl
    · have e : x = 8 := Int32.toInt_inj.mp (h3.trans (by decide))
      subst e
      rfl
    · have e : x = 9 := Int32.toInt_inj.mp (h3.trans (by decide))
      subst e
      rfl
    · have e : x = 10 := Int32.toInt_inj.mp (h3.trans (by decide))
      subst e
      rfl
    · have e : x = 11 := Int32.toInt_inj.mp (h3.trans (by decide))
      subst e
      rfl
    · have e : x = 12 := Int32.toInt_inj.mp (h3.trans (by decide))
      subst e
      rfl
    · have e : x = 13 := Int32.toInt_inj.mp (h3.trans (by decide))
      subst e
      rfl
    · have e : x = 14 := Int32.toInt_inj.mp (h3.trans (by decide))
      subst e
      rfl
    · have e : x = 15 := Int32.toInt_inj.mp (h3.trans (by decide))
      subst e
      rfl
theorem x107_25 {L : pj_Loc} {st : List Value} {M : pj_Mem} {x : Int32} {o9 : Option Value × pj_Mem} : pj_Ends 107 (25, L, .int x :: st, M) o9 = pj_Ends 107 (if x = 0 then 104 else if x = 1 then 112 else if x = 2 then 120 else if x = 3 then 125 else if x = 4 then 130 else if x = 5 then 135 else if x = 6 then 143 else if x = 7 then 151 else if x = 8 then 174 else if x = 9 then 174 else if x = 10 then 174 else if x = 11 then 174 else if x = 12 then 174 else if x = 13 then 174 else if x = 14 then 164 else if x = 15 then 169 else 174, L, st, M) o9 := pj_xs (s107_25)
theorem q107_104 : pj_row 107 104 = some (.aload_n 0, 1, 0, 0, 0) := by decide +kernel
theorem s107_104 {st : List Value} {M : pj_Mem} {l : pj_Loc} {x : Nat} : pj_step 107 (104, some (.ref x) :: l, st, M) = some (105, some (.ref x) :: l, .ref x :: st, M) := st_aload_n q107_104 rfl
theorem x107_104 {st : List Value} {M : pj_Mem} {l : pj_Loc} {x : Nat} {o9 : Option Value × pj_Mem} : pj_Ends 107 (104, some (.ref x) :: l, st, M) o9 = pj_Ends 107 (105, some (.ref x) :: l, .ref x :: st, M) o9 := pj_xs (s107_104)
theorem q107_105 : pj_row 107 105 = some (.getfield 7, 3, 6, 0, 0) := by decide +kernel
theorem s107_105 {L : pj_Loc} {st : List Value} {N S : Nat} {H : pj_Heap} {o : Nat} : pj_step 107 (105, L, .ref o :: st, (N, S, H)) = pj_pv 108 L st (N, S, H) (pj_fld (H o) 6 0) := st_getfield q107_105
theorem x107_105 {L : pj_Loc} {st : List Value} {N S : Nat} {H : pj_Heap} {o : Nat} {o9 : Option Value × pj_Mem} : pj_Ends 107 (105, L, .ref o :: st, (N, S, H)) o9 = pj_then 107 o9 (pj_pv 108 L st (N, S, H) (pj_fld (H o) 6 0)) := pj_xt q107_105 rfl (pj_cl_nc rfl) (s107_105)
theorem q107_108 : pj_row 107 108 = some (.bipush 6, 2, 0, 0, 0) := by decide +kernel
theorem s107_108 {L : pj_Loc} {st : List Value} {M : pj_Mem}  : pj_step 107 (108, L, st, M) = some (110, L, .int 6 :: st, M) := st_bipush q107_108 (by decide +kernel)
theorem x107_108 {L : pj_Loc} {st : List Value} {M : pj_Mem}  {o9 : Option Value × pj_Mem} : pj_Ends 107 (108, L, st, M) o9 = pj_Ends 107 (110, L, .int 6 :: st, M) o9 := pj_xs (s107_108)
theorem q107_110 : pj_row 107 110 = some (.iaload, 1, 0, 0, 0) := by decide +kernel
theorem s107_110 {L : pj_Loc} {st : List Value} {N S : Nat} {H : pj_Heap} {o : Nat} {i : Int32} : pj_step 107 (110, L, .int i :: .ref o :: st, (N, S, H)) = pj_pi 111 L st (N, S, H) (pj_arl (H o) 0 i) := st_iaload q107_110
theorem x107_110 {L : pj_Loc} {st : List Value} {N S : Nat} {H : pj_Heap} {o : Nat} {i : Int32} {o9 : Option Value × pj_Mem} : pj_Ends 107 (110, L, .int i :: .ref o :: st, (N, S, H)) o9 = pj_then 107 o9 (pj_pi 111 L st (N, S, H) (pj_arl (H o) 0 i)) := pj_xt q107_110 rfl (pj_cl_nc rfl) (s107_110)
theorem q107_111 : pj_row 107 111 = some (.ireturn, 1, 0, 0, 0) := by decide +kernel
theorem t107_111 {L : pj_Loc} {M : pj_Mem} {v : Int32} : pj_Ends 107 (111, L, [.int v], M) (some (.int v), M) := pj_Ends.ret q107_111 (pj_rtn_i rt107)
theorem q107_112 : pj_row 107 112 = some (.aload_n 0, 1, 0, 0, 0) := by decide +kernel
theorem s107_112 {st : List Value} {M : pj_Mem} {l : pj_Loc} {x : Nat} : pj_step 107 (112, some (.ref x) :: l, st, M) = some (113, some (.ref x) :: l, .ref x :: st, M) := st_aload_n q107_112 rfl
theorem x107_112 {st : List Value} {M : pj_Mem} {l : pj_Loc} {x : Nat} {o9 : Option Value × pj_Mem} : pj_Ends 107 (112, some (.ref x) :: l, st, M) o9 = pj_Ends 107 (113, some (.ref x) :: l, .ref x :: st, M) o9 := pj_xs (s107_112)
theorem q107_113 : pj_row 107 113 = some (.getfield 7, 3, 6, 0, 0) := by decide +kernel
theorem s107_113 {L : pj_Loc} {st : List Value} {N S : Nat} {H : pj_Heap} {o : Nat} : pj_step 107 (113, L, .ref o :: st, (N, S, H)) = pj_pv 116 L st (N, S, H) (pj_fld (H o) 6 0) := st_getfield q107_113
theorem x107_113 {L : pj_Loc} {st : List Value} {N S : Nat} {H : pj_Heap} {o : Nat} {o9 : Option Value × pj_Mem} : pj_Ends 107 (113, L, .ref o :: st, (N, S, H)) o9 = pj_then 107 o9 (pj_pv 116 L st (N, S, H) (pj_fld (H o) 6 0)) := pj_xt q107_113 rfl (pj_cl_nc rfl) (s107_113)
theorem q107_116 : pj_row 107 116 = some (.bipush 7, 2, 0, 0, 0) := by decide +kernel
theorem s107_116 {L : pj_Loc} {st : List Value} {M : pj_Mem}  : pj_step 107 (116, L, st, M) = some (118, L, .int 7 :: st, M) := st_bipush q107_116 (by decide +kernel)
theorem x107_116 {L : pj_Loc} {st : List Value} {M : pj_Mem}  {o9 : Option Value × pj_Mem} : pj_Ends 107 (116, L, st, M) o9 = pj_Ends 107 (118, L, .int 7 :: st, M) o9 := pj_xs (s107_116)
theorem q107_118 : pj_row 107 118 = some (.iaload, 1, 0, 0, 0) := by decide +kernel
theorem s107_118 {L : pj_Loc} {st : List Value} {N S : Nat} {H : pj_Heap} {o : Nat} {i : Int32} : pj_step 107 (118, L, .int i :: .ref o :: st, (N, S, H)) = pj_pi 119 L st (N, S, H) (pj_arl (H o) 0 i) := st_iaload q107_118
theorem x107_118 {L : pj_Loc} {st : List Value} {N S : Nat} {H : pj_Heap} {o : Nat} {i : Int32} {o9 : Option Value × pj_Mem} : pj_Ends 107 (118, L, .int i :: .ref o :: st, (N, S, H)) o9 = pj_then 107 o9 (pj_pi 119 L st (N, S, H) (pj_arl (H o) 0 i)) := pj_xt q107_118 rfl (pj_cl_nc rfl) (s107_118)
theorem q107_119 : pj_row 107 119 = some (.ireturn, 1, 0, 0, 0) := by decide +kernel
theorem t107_119 {L : pj_Loc} {M : pj_Mem} {v : Int32} : pj_Ends 107 (119, L, [.int v], M) (some (.int v), M) := pj_Ends.ret q107_119 (pj_rtn_i rt107)
theorem q107_120 : pj_row 107 120 = some (.aload_n 0, 1, 0, 0, 0) := by decide +kernel
theorem s107_120 {st : List Value} {M : pj_Mem} {l : pj_Loc} {x : Nat} : pj_step 107 (120, some (.ref x) :: l, st, M) = some (121, some (.ref x) :: l, .ref x :: st, M) := st_aload_n q107_120 rfl
theorem x107_120 {st : List Value} {M : pj_Mem} {l : pj_Loc} {x : Nat} {o9 : Option Value × pj_Mem} : pj_Ends 107 (120, some (.ref x) :: l, st, M) o9 = pj_Ends 107 (121, some (.ref x) :: l, .ref x :: st, M) o9 := pj_xs (s107_120)
theorem q107_121 : pj_row 107 121 = some (.invokevirtual 48, 3, 85, 1, 0) := by decide +kernel
theorem e107_121 {L : pj_Loc} {st : List Value} {N S : Nat} {H : pj_Heap} {o : Option Value × pj_Mem} {M' : pj_Mem} {x0 : Nat} {r : Int32} (h4 : pj_le4 st = true) (hu : pj_isU 6 (H x0) = true) (h1 : pj_Ends 85 (0, [some (.ref x0)], [], (N, S, H)) (some (.int r), M')) (h2 : pj_Ends 107 (124, L, .int r :: st, M') o) : pj_Ends 107 (121, L, .ref x0 :: st, (N, S, H)) o := ec_v1 q107_121 (Or.inl rfl) h4 hu rfl h1 h2
theorem q107_124 : pj_row 107 124 = some (.ireturn, 1, 0, 0, 0) := by decide +kernel
theorem t107_124 {L : pj_Loc} {M : pj_Mem} {v : Int32} : pj_Ends 107 (124, L, [.int v], M) (some (.int v), M) := pj_Ends.ret q107_124 (pj_rtn_i rt107)
theorem q107_125 : pj_row 107 125 = some (.aload_n 0, 1, 0, 0, 0) := by decide +kernel
theorem s107_125 {st : List Value} {M : pj_Mem} {l : pj_Loc} {x : Nat} : pj_step 107 (125, some (.ref x) :: l, st, M) = some (126, some (.ref x) :: l, .ref x :: st, M) := st_aload_n q107_125 rfl
theorem x107_125 {st : List Value} {M : pj_Mem} {l : pj_Loc} {x : Nat} {o9 : Option Value × pj_Mem} : pj_Ends 107 (125, some (.ref x) :: l, st, M) o9 = pj_Ends 107 (126, some (.ref x) :: l, .ref x :: st, M) o9 := pj_xs (s107_125)
theorem q107_126 : pj_row 107 126 = some (.invokevirtual 143, 3, 102, 1, 0) := by decide +kernel
theorem e107_126 {L : pj_Loc} {st : List Value} {N S : Nat} {H : pj_Heap} {o : Option Value × pj_Mem} {M' : pj_Mem} {x0 : Nat} {r : Int32} (h4 : pj_le4 st = true) (hu : pj_isU 6 (H x0) = true) (h1 : pj_Ends 102 (0, [some (.ref x0), none, none], [], (N, S, H)) (some (.int r), M')) (h2 : pj_Ends 107 (129, L, .int r :: st, M') o) : pj_Ends 107 (126, L, .ref x0 :: st, (N, S, H)) o := ec_v1 q107_126 (Or.inl rfl) h4 hu rfl h1 h2
theorem q107_129 : pj_row 107 129 = some (.ireturn, 1, 0, 0, 0) := by decide +kernel
theorem t107_129 {L : pj_Loc} {M : pj_Mem} {v : Int32} : pj_Ends 107 (129, L, [.int v], M) (some (.int v), M) := pj_Ends.ret q107_129 (pj_rtn_i rt107)
theorem q107_130 : pj_row 107 130 = some (.aload_n 0, 1, 0, 0, 0) := by decide +kernel
theorem s107_130 {st : List Value} {M : pj_Mem} {l : pj_Loc} {x : Nat} : pj_step 107 (130, some (.ref x) :: l, st, M) = some (131, some (.ref x) :: l, .ref x :: st, M) := st_aload_n q107_130 rfl
theorem x107_130 {st : List Value} {M : pj_Mem} {l : pj_Loc} {x : Nat} {o9 : Option Value × pj_Mem} : pj_Ends 107 (130, some (.ref x) :: l, st, M) o9 = pj_Ends 107 (131, some (.ref x) :: l, .ref x :: st, M) o9 := pj_xs (s107_130)
theorem q107_131 : pj_row 107 131 = some (.invokevirtual 140, 3, 100, 1, 0) := by decide +kernel
theorem e107_131 {L : pj_Loc} {st : List Value} {N S : Nat} {H : pj_Heap} {o : Option Value × pj_Mem} {M' : pj_Mem} {x0 : Nat} {r : Int32} (h4 : pj_le4 st = true) (hu : pj_isU 6 (H x0) = true) (h1 : pj_Ends 100 (0, [some (.ref x0)], [], (N, S, H)) (some (.int r), M')) (h2 : pj_Ends 107 (134, L, .int r :: st, M') o) : pj_Ends 107 (131, L, .ref x0 :: st, (N, S, H)) o := ec_v1 q107_131 (Or.inl rfl) h4 hu rfl h1 h2
theorem q107_134 : pj_row 107 134 = some (.ireturn, 1, 0, 0, 0) := by decide +kernel
theorem t107_134 {L : pj_Loc} {M : pj_Mem} {v : Int32} : pj_Ends 107 (134, L, [.int v], M) (some (.int v), M) := pj_Ends.ret q107_134 (pj_rtn_i rt107)
theorem q107_135 : pj_row 107 135 = some (.aload_n 0, 1, 0, 0, 0) := by decide +kernel
theorem s107_135 {st : List Value} {M : pj_Mem} {l : pj_Loc} {x : Nat} : pj_step 107 (135, some (.ref x) :: l, st, M) = some (136, some (.ref x) :: l, .ref x :: st, M) := st_aload_n q107_135 rfl
theorem x107_135 {st : List Value} {M : pj_Mem} {l : pj_Loc} {x : Nat} {o9 : Option Value × pj_Mem} : pj_Ends 107 (135, some (.ref x) :: l, st, M) o9 = pj_Ends 107 (136, some (.ref x) :: l, .ref x :: st, M) o9 := pj_xs (s107_135)
theorem q107_136 : pj_row 107 136 = some (.getfield 7, 3, 6, 0, 0) := by decide +kernel
theorem s107_136 {L : pj_Loc} {st : List Value} {N S : Nat} {H : pj_Heap} {o : Nat} : pj_step 107 (136, L, .ref o :: st, (N, S, H)) = pj_pv 139 L st (N, S, H) (pj_fld (H o) 6 0) := st_getfield q107_136
theorem x107_136 {L : pj_Loc} {st : List Value} {N S : Nat} {H : pj_Heap} {o : Nat} {o9 : Option Value × pj_Mem} : pj_Ends 107 (136, L, .ref o :: st, (N, S, H)) o9 = pj_then 107 o9 (pj_pv 139 L st (N, S, H) (pj_fld (H o) 6 0)) := pj_xt q107_136 rfl (pj_cl_nc rfl) (s107_136)
theorem q107_139 : pj_row 107 139 = some (.bipush 30, 2, 0, 0, 0) := by decide +kernel
theorem s107_139 {L : pj_Loc} {st : List Value} {M : pj_Mem}  : pj_step 107 (139, L, st, M) = some (141, L, .int 30 :: st, M) := st_bipush q107_139 (by decide +kernel)
theorem x107_139 {L : pj_Loc} {st : List Value} {M : pj_Mem}  {o9 : Option Value × pj_Mem} : pj_Ends 107 (139, L, st, M) o9 = pj_Ends 107 (141, L, .int 30 :: st, M) o9 := pj_xs (s107_139)
theorem q107_141 : pj_row 107 141 = some (.iaload, 1, 0, 0, 0) := by decide +kernel
theorem s107_141 {L : pj_Loc} {st : List Value} {N S : Nat} {H : pj_Heap} {o : Nat} {i : Int32} : pj_step 107 (141, L, .int i :: .ref o :: st, (N, S, H)) = pj_pi 142 L st (N, S, H) (pj_arl (H o) 0 i) := st_iaload q107_141
theorem x107_141 {L : pj_Loc} {st : List Value} {N S : Nat} {H : pj_Heap} {o : Nat} {i : Int32} {o9 : Option Value × pj_Mem} : pj_Ends 107 (141, L, .int i :: .ref o :: st, (N, S, H)) o9 = pj_then 107 o9 (pj_pi 142 L st (N, S, H) (pj_arl (H o) 0 i)) := pj_xt q107_141 rfl (pj_cl_nc rfl) (s107_141)
theorem q107_142 : pj_row 107 142 = some (.ireturn, 1, 0, 0, 0) := by decide +kernel
theorem t107_142 {L : pj_Loc} {M : pj_Mem} {v : Int32} : pj_Ends 107 (142, L, [.int v], M) (some (.int v), M) := pj_Ends.ret q107_142 (pj_rtn_i rt107)
theorem q107_143 : pj_row 107 143 = some (.aload_n 0, 1, 0, 0, 0) := by decide +kernel
theorem s107_143 {st : List Value} {M : pj_Mem} {l : pj_Loc} {x : Nat} : pj_step 107 (143, some (.ref x) :: l, st, M) = some (144, some (.ref x) :: l, .ref x :: st, M) := st_aload_n q107_143 rfl
theorem x107_143 {st : List Value} {M : pj_Mem} {l : pj_Loc} {x : Nat} {o9 : Option Value × pj_Mem} : pj_Ends 107 (143, some (.ref x) :: l, st, M) o9 = pj_Ends 107 (144, some (.ref x) :: l, .ref x :: st, M) o9 := pj_xs (s107_143)
theorem q107_144 : pj_row 107 144 = some (.getfield 7, 3, 6, 0, 0) := by decide +kernel
theorem s107_144 {L : pj_Loc} {st : List Value} {N S : Nat} {H : pj_Heap} {o : Nat} : pj_step 107 (144, L, .ref o :: st, (N, S, H)) = pj_pv 147 L st (N, S, H) (pj_fld (H o) 6 0) := st_getfield q107_144
theorem x107_144 {L : pj_Loc} {st : List Value} {N S : Nat} {H : pj_Heap} {o : Nat} {o9 : Option Value × pj_Mem} : pj_Ends 107 (144, L, .ref o :: st, (N, S, H)) o9 = pj_then 107 o9 (pj_pv 147 L st (N, S, H) (pj_fld (H o) 6 0)) := pj_xt q107_144 rfl (pj_cl_nc rfl) (s107_144)
theorem q107_147 : pj_row 107 147 = some (.bipush 29, 2, 0, 0, 0) := by decide +kernel
theorem s107_147 {L : pj_Loc} {st : List Value} {M : pj_Mem}  : pj_step 107 (147, L, st, M) = some (149, L, .int 29 :: st, M) := st_bipush q107_147 (by decide +kernel)
theorem x107_147 {L : pj_Loc} {st : List Value} {M : pj_Mem}  {o9 : Option Value × pj_Mem} : pj_Ends 107 (147, L, st, M) o9 = pj_Ends 107 (149, L, .int 29 :: st, M) o9 := pj_xs (s107_147)
theorem q107_149 : pj_row 107 149 = some (.iaload, 1, 0, 0, 0) := by decide +kernel
theorem s107_149 {L : pj_Loc} {st : List Value} {N S : Nat} {H : pj_Heap} {o : Nat} {i : Int32} : pj_step 107 (149, L, .int i :: .ref o :: st, (N, S, H)) = pj_pi 150 L st (N, S, H) (pj_arl (H o) 0 i) := st_iaload q107_149
theorem x107_149 {L : pj_Loc} {st : List Value} {N S : Nat} {H : pj_Heap} {o : Nat} {i : Int32} {o9 : Option Value × pj_Mem} : pj_Ends 107 (149, L, .int i :: .ref o :: st, (N, S, H)) o9 = pj_then 107 o9 (pj_pi 150 L st (N, S, H) (pj_arl (H o) 0 i)) := pj_xt q107_149 rfl (pj_cl_nc rfl) (s107_149)
theorem q107_150 : pj_row 107 150 = some (.ireturn, 1, 0, 0, 0) := by decide +kernel
theorem t107_150 {L : pj_Loc} {M : pj_Mem} {v : Int32} : pj_Ends 107 (150, L, [.int v], M) (some (.int v), M) := pj_Ends.ret q107_150 (pj_rtn_i rt107)
theorem q107_151 : pj_row 107 151 = some (.aload_n 0, 1, 0, 0, 0) := by decide +kernel
theorem s107_151 {st : List Value} {M : pj_Mem} {l : pj_Loc} {x : Nat} : pj_step 107 (151, some (.ref x) :: l, st, M) = some (152, some (.ref x) :: l, .ref x :: st, M) := st_aload_n q107_151 rfl
theorem x107_151 {st : List Value} {M : pj_Mem} {l : pj_Loc} {x : Nat} {o9 : Option Value × pj_Mem} : pj_Ends 107 (151, some (.ref x) :: l, st, M) o9 = pj_Ends 107 (152, some (.ref x) :: l, .ref x :: st, M) o9 := pj_xs (s107_151)
theorem q107_152 : pj_row 107 152 = some (.invokevirtual 104, 3, 96, 1, 0) := by decide +kernel
theorem e107_152 {L : pj_Loc} {st : List Value} {N S : Nat} {H : pj_Heap} {o : Option Value × pj_Mem} {M' : pj_Mem} {x0 : Nat} {r : Int32} (h4 : pj_le4 st = true) (hu : pj_isU 6 (H x0) = true) (h1 : pj_Ends 96 (0, [some (.ref x0)], [], (N, S, H)) (some (.int r), M')) (h2 : pj_Ends 107 (155, L, .int r :: st, M') o) : pj_Ends 107 (152, L, .ref x0 :: st, (N, S, H)) o := ec_v1 q107_152 (Or.inl rfl) h4 hu rfl h1 h2
theorem q107_155 : pj_row 107 155 = some (.ifCond .eq 7, 3, 162, 0, 0) := by decide +kernel
theorem s107_155 {L : pj_Loc} {st : List Value} {M : pj_Mem} {x : Int32} : pj_step 107 (155, L, .int x :: st, M) = some (if x = 0 then 162 else 158, L, st, M) := st_if_eq q107_155
theorem x107_155 {L : pj_Loc} {st : List Value} {M : pj_Mem} {x : Int32} {o9 : Option Value × pj_Mem} : pj_Ends 107 (155, L, .int x :: st, M) o9 = pj_Ends 107 (if x = 0 then 162 else 158, L, st, M) o9 := pj_xs (s107_155)
theorem q107_158 : pj_row 107 158 = some (.iconst 1, 1, 0, 0, 0) := by decide +kernel
theorem s107_158 {L : pj_Loc} {st : List Value} {M : pj_Mem}  : pj_step 107 (158, L, st, M) = some (159, L, .int 1 :: st, M) := st_iconst q107_158 (by decide +kernel)
theorem x107_158 {L : pj_Loc} {st : List Value} {M : pj_Mem}  {o9 : Option Value × pj_Mem} : pj_Ends 107 (158, L, st, M) o9 = pj_Ends 107 (159, L, .int 1 :: st, M) o9 := pj_xs (s107_158)
theorem q107_159 : pj_row 107 159 = some (.goto 4, 3, 163, 0, 0) := by decide +kernel
theorem s107_159 {L : pj_Loc} {st : List Value} {M : pj_Mem}  : pj_step 107 (159, L, st, M) = some (163, L, st, M) := st_goto q107_159
theorem x107_159 {L : pj_Loc} {st : List Value} {M : pj_Mem}  {o9 : Option Value × pj_Mem} : pj_Ends 107 (159, L, st, M) o9 = pj_Ends 107 (163, L, st, M) o9 := pj_xs (s107_159)
theorem q107_162 : pj_row 107 162 = some (.iconst 0, 1, 0, 0, 0) := by decide +kernel
theorem s107_162 {L : pj_Loc} {st : List Value} {M : pj_Mem}  : pj_step 107 (162, L, st, M) = some (163, L, .int 0 :: st, M) := st_iconst q107_162 (by decide +kernel)
theorem x107_162 {L : pj_Loc} {st : List Value} {M : pj_Mem}  {o9 : Option Value × pj_Mem} : pj_Ends 107 (162, L, st, M) o9 = pj_Ends 107 (163, L, .int 0 :: st, M) o9 := pj_xs (s107_162)
theorem q107_163 : pj_row 107 163 = some (.ireturn, 1, 0, 0, 0) := by decide +kernel
theorem t107_163 {L : pj_Loc} {M : pj_Mem} {v : Int32} : pj_Ends 107 (163, L, [.int v], M) (some (.int v), M) := pj_Ends.ret q107_163 (pj_rtn_i rt107)
theorem q107_164 : pj_row 107 164 = some (.aload_n 0, 1, 0, 0, 0) := by decide +kernel
theorem s107_164 {st : List Value} {M : pj_Mem} {l : pj_Loc} {x : Nat} : pj_step 107 (164, some (.ref x) :: l, st, M) = some (165, some (.ref x) :: l, .ref x :: st, M) := st_aload_n q107_164 rfl
theorem x107_164 {st : List Value} {M : pj_Mem} {l : pj_Loc} {x : Nat} {o9 : Option Value × pj_Mem} : pj_Ends 107 (164, some (.ref x) :: l, st, M) o9 = pj_Ends 107 (165, some (.ref x) :: l, .ref x :: st, M) o9 := pj_xs (s107_164)
theorem q107_165 : pj_row 107 165 = some (.getfield 152, 3, 6, 13, 0) := by decide +kernel
theorem s107_165 {L : pj_Loc} {st : List Value} {N S : Nat} {H : pj_Heap} {o : Nat} : pj_step 107 (165, L, .ref o :: st, (N, S, H)) = pj_pv 168 L st (N, S, H) (pj_fld (H o) 6 13) := st_getfield q107_165
theorem x107_165 {L : pj_Loc} {st : List Value} {N S : Nat} {H : pj_Heap} {o : Nat} {o9 : Option Value × pj_Mem} : pj_Ends 107 (165, L, .ref o :: st, (N, S, H)) o9 = pj_then 107 o9 (pj_pv 168 L st (N, S, H) (pj_fld (H o) 6 13)) := pj_xt q107_165 rfl (pj_cl_nc rfl) (s107_165)
theorem q107_168 : pj_row 107 168 = some (.ireturn, 1, 0, 0, 0) := by decide +kernel
theorem t107_168 {L : pj_Loc} {M : pj_Mem} {v : Int32} : pj_Ends 107 (168, L, [.int v], M) (some (.int v), M) := pj_Ends.ret q107_168 (pj_rtn_i rt107)
theorem q107_169 : pj_row 107 169 = some (.aload_n 0, 1, 0, 0, 0) := by decide +kernel
theorem s107_169 {st : List Value} {M : pj_Mem} {l : pj_Loc} {x : Nat} : pj_step 107 (169, some (.ref x) :: l, st, M) = some (170, some (.ref x) :: l, .ref x :: st, M) := st_aload_n q107_169 rfl
theorem x107_169 {st : List Value} {M : pj_Mem} {l : pj_Loc} {x : Nat} {o9 : Option Value × pj_Mem} : pj_Ends 107 (169, some (.ref x) :: l, st, M) o9 = pj_Ends 107 (170, some (.ref x) :: l, .ref x :: st, M) o9 := pj_xs (s107_169)
theorem q107_170 : pj_row 107 170 = some (.getfield 34, 3, 6, 3, 0) := by decide +kernel
theorem s107_170 {L : pj_Loc} {st : List Value} {N S : Nat} {H : pj_Heap} {o : Nat} : pj_step 107 (170, L, .ref o :: st, (N, S, H)) = pj_pv 173 L st (N, S, H) (pj_fld (H o) 6 3) := st_getfield q107_170
theorem x107_170 {L : pj_Loc} {st : List Value} {N S : Nat} {H : pj_Heap} {o : Nat} {o9 : Option Value × pj_Mem} : pj_Ends 107 (170, L, .ref o :: st, (N, S, H)) o9 = pj_then 107 o9 (pj_pv 173 L st (N, S, H) (pj_fld (H o) 6 3)) := pj_xt q107_170 rfl (pj_cl_nc rfl) (s107_170)
theorem q107_173 : pj_row 107 173 = some (.ireturn, 1, 0, 0, 0) := by decide +kernel
theorem t107_173 {L : pj_Loc} {M : pj_Mem} {v : Int32} : pj_Ends 107 (173, L, [.int v], M) (some (.int v), M) := pj_Ends.ret q107_173 (pj_rtn_i rt107)
theorem q107_174 : pj_row 107 174 = some (.bipush (-2), 2, 0, 0, 0) := by decide +kernel
theorem s107_174 {L : pj_Loc} {st : List Value} {M : pj_Mem}  : pj_step 107 (174, L, st, M) = some (176, L, .int (-2) :: st, M) := st_bipush q107_174 (by decide +kernel)
theorem x107_174 {L : pj_Loc} {st : List Value} {M : pj_Mem}  {o9 : Option Value × pj_Mem} : pj_Ends 107 (174, L, st, M) o9 = pj_Ends 107 (176, L, .int (-2) :: st, M) o9 := pj_xs (s107_174)
theorem q107_176 : pj_row 107 176 = some (.ireturn, 1, 0, 0, 0) := by decide +kernel
theorem t107_176 {L : pj_Loc} {M : pj_Mem} {v : Int32} : pj_Ends 107 (176, L, [.int v], M) (some (.int v), M) := pj_Ends.ret q107_176 (pj_rtn_i rt107)
theorem rt108 : pj_rt 108 = some .int := rfl
theorem q108_0 : pj_row 108 0 = some (.iload_n 1, 1, 0, 0, 0) := by decide +kernel
theorem s108_0 {st : List Value} {M : pj_Mem} {l : pj_Loc} {a0 : Option Value} {x : Int32} : pj_step 108 (0, a0 :: some (.int x) :: l, st, M) = some (1, a0 :: some (.int x) :: l, .int x :: st, M) := st_iload_n q108_0 rfl
theorem x108_0 {st : List Value} {M : pj_Mem} {l : pj_Loc} {a0 : Option Value} {x : Int32} {o9 : Option Value × pj_Mem} : pj_Ends 108 (0, a0 :: some (.int x) :: l, st, M) o9 = pj_Ends 108 (1, a0 :: some (.int x) :: l, .int x :: st, M) o9 := pj_xs (s108_0)
theorem q108_1 : pj_row 108 1 = some (.invokestatic 127, 3, 80, 1, 0) := by decide +kernel
theorem e108_1 {L : pj_Loc} {st : List Value} {N S : Nat} {H : pj_Heap} {o : Option Value × pj_Mem} {M' : pj_Mem} {x0 : Int32} {r : Int32} (h4 : pj_le4 st = true) (h1 : pj_Ends 80 (0, [some (.int x0)], [], (N, S, H)) (some (.int r), M')) (h2 : pj_Ends 108 (4, L, .int r :: st, M') o) : pj_Ends 108 (1, L, .int x0 :: st, (N, S, H)) o := ec_s1 q108_1 (Or.inl rfl) h4 rfl h1 h2
theorem q108_4 : pj_row 108 4 = some (.ifCond .eq 30, 3, 34, 0, 0) := by decide +kernel
theorem s108_4 {L : pj_Loc} {st : List Value} {M : pj_Mem} {x : Int32} : pj_step 108 (4, L, .int x :: st, M) = some (if x = 0 then 34 else 7, L, st, M) := st_if_eq q108_4
theorem x108_4 {L : pj_Loc} {st : List Value} {M : pj_Mem} {x : Int32} {o9 : Option Value × pj_Mem} : pj_Ends 108 (4, L, .int x :: st, M) o9 = pj_Ends 108 (if x = 0 then 34 else 7, L, st, M) o9 := pj_xs (s108_4)
theorem q108_7 : pj_row 108 7 = some (.iload_n 2, 1, 0, 0, 0) := by decide +kernel
theorem s108_7 {st : List Value} {M : pj_Mem} {l : pj_Loc} {a0 a1 : Option Value} {x : Int32} : pj_step 108 (7, a0 :: a1 :: some (.int x) :: l, st, M) = some (8, a0 :: a1 :: some (.int x) :: l, .int x :: st, M) := st_iload_n q108_7 rfl
theorem x108_7 {st : List Value} {M : pj_Mem} {l : pj_Loc} {a0 a1 : Option Value} {x : Int32} {o9 : Option Value × pj_Mem} : pj_Ends 108 (7, a0 :: a1 :: some (.int x) :: l, st, M) o9 = pj_Ends 108 (8, a0 :: a1 :: some (.int x) :: l, .int x :: st, M) o9 := pj_xs (s108_7)
theorem q108_8 : pj_row 108 8 = some (.invokestatic 127, 3, 80, 1, 0) := by decide +kernel
theorem e108_8 {L : pj_Loc} {st : List Value} {N S : Nat} {H : pj_Heap} {o : Option Value × pj_Mem} {M' : pj_Mem} {x0 : Int32} {r : Int32} (h4 : pj_le4 st = true) (h1 : pj_Ends 80 (0, [some (.int x0)], [], (N, S, H)) (some (.int r), M')) (h2 : pj_Ends 108 (11, L, .int r :: st, M') o) : pj_Ends 108 (8, L, .int x0 :: st, (N, S, H)) o := ec_s1 q108_8 (Or.inl rfl) h4 rfl h1 h2
theorem q108_11 : pj_row 108 11 = some (.ifCond .eq 23, 3, 34, 0, 0) := by decide +kernel
theorem s108_11 {L : pj_Loc} {st : List Value} {M : pj_Mem} {x : Int32} : pj_step 108 (11, L, .int x :: st, M) = some (if x = 0 then 34 else 14, L, st, M) := st_if_eq q108_11
theorem x108_11 {L : pj_Loc} {st : List Value} {M : pj_Mem} {x : Int32} {o9 : Option Value × pj_Mem} : pj_Ends 108 (11, L, .int x :: st, M) o9 = pj_Ends 108 (if x = 0 then 34 else 14, L, st, M) o9 := pj_xs (s108_11)
theorem q108_14 : pj_row 108 14 = some (.iload_n 3, 1, 0, 0, 0) := by decide +kernel
theorem s108_14 {st : List Value} {M : pj_Mem} {l : pj_Loc} {a0 a1 a2 : Option Value} {x : Int32} : pj_step 108 (14, a0 :: a1 :: a2 :: some (.int x) :: l, st, M) = some (15, a0 :: a1 :: a2 :: some (.int x) :: l, .int x :: st, M) := st_iload_n q108_14 rfl
theorem x108_14 {st : List Value} {M : pj_Mem} {l : pj_Loc} {a0 a1 a2 : Option Value} {x : Int32} {o9 : Option Value × pj_Mem} : pj_Ends 108 (14, a0 :: a1 :: a2 :: some (.int x) :: l, st, M) o9 = pj_Ends 108 (15, a0 :: a1 :: a2 :: some (.int x) :: l, .int x :: st, M) o9 := pj_xs (s108_14)
theorem q108_15 : pj_row 108 15 = some (.invokestatic 127, 3, 80, 1, 0) := by decide +kernel
theorem e108_15 {L : pj_Loc} {st : List Value} {N S : Nat} {H : pj_Heap} {o : Option Value × pj_Mem} {M' : pj_Mem} {x0 : Int32} {r : Int32} (h4 : pj_le4 st = true) (h1 : pj_Ends 80 (0, [some (.int x0)], [], (N, S, H)) (some (.int r), M')) (h2 : pj_Ends 108 (18, L, .int r :: st, M') o) : pj_Ends 108 (15, L, .int x0 :: st, (N, S, H)) o := ec_s1 q108_15 (Or.inl rfl) h4 rfl h1 h2
theorem q108_18 : pj_row 108 18 = some (.ifCond .eq 16, 3, 34, 0, 0) := by decide +kernel
theorem s108_18 {L : pj_Loc} {st : List Value} {M : pj_Mem} {x : Int32} : pj_step 108 (18, L, .int x :: st, M) = some (if x = 0 then 34 else 21, L, st, M) := st_if_eq q108_18
theorem x108_18 {L : pj_Loc} {st : List Value} {M : pj_Mem} {x : Int32} {o9 : Option Value × pj_Mem} : pj_Ends 108 (18, L, .int x :: st, M) o9 = pj_Ends 108 (if x = 0 then 34 else 21, L, st, M) o9 := pj_xs (s108_18)
theorem q108_21 : pj_row 108 21 = some (.iload 5, 2, 0, 0, 0) := by decide +kernel
theorem s108_21 {st : List Value} {M : pj_Mem} {l : pj_Loc} {a0 a1 a2 a3 a4 : Option Value} {x : Int32} : pj_step 108 (21, a0 :: a1 :: a2 :: a3 :: a4 :: some (.int x) :: l, st, M) = some (23, a0 :: a1 :: a2 :: a3 :: a4 :: some (.int x) :: l, .int x :: st, M) := st_iload q108_21 rfl
theorem x108_21 {st : List Value} {M : pj_Mem} {l : pj_Loc} {a0 a1 a2 a3 a4 : Option Value} {x : Int32} {o9 : Option Value × pj_Mem} : pj_Ends 108 (21, a0 :: a1 :: a2 :: a3 :: a4 :: some (.int x) :: l, st, M) o9 = pj_Ends 108 (23, a0 :: a1 :: a2 :: a3 :: a4 :: some (.int x) :: l, .int x :: st, M) o9 := pj_xs (s108_21)
theorem q108_23 : pj_row 108 23 = some (.i2l, 1, 0, 0, 0) := by decide +kernel
theorem s108_23 {L : pj_Loc} {st : List Value} {M : pj_Mem} {x : Int32} : pj_step 108 (23, L, .int x :: st, M) = some (24, L, .long x.toInt64 :: st, M) := st_i2l q108_23
theorem x108_23 {L : pj_Loc} {st : List Value} {M : pj_Mem} {x : Int32} {o9 : Option Value × pj_Mem} : pj_Ends 108 (23, L, .int x :: st, M) o9 = pj_Ends 108 (24, L, .long x.toInt64 :: st, M) o9 := pj_xs (s108_23)
theorem q108_24 : pj_row 108 24 = some (.lconst 0, 1, 0, 0, 0) := by decide +kernel
theorem s108_24 {L : pj_Loc} {st : List Value} {M : pj_Mem}  : pj_step 108 (24, L, st, M) = some (25, L, .long 0 :: st, M) := st_lconst q108_24 (by decide +kernel)
theorem x108_24 {L : pj_Loc} {st : List Value} {M : pj_Mem}  {o9 : Option Value × pj_Mem} : pj_Ends 108 (24, L, st, M) o9 = pj_Ends 108 (25, L, .long 0 :: st, M) o9 := pj_xs (s108_24)
theorem q108_25 : pj_row 108 25 = some (.ldc2_w 155, 3, 0, 0, 5) := by decide +kernel
theorem s108_25 {L : pj_Loc} {st : List Value} {M : pj_Mem}  : pj_step 108 (25, L, st, M) = some (28, L, .long 5 :: st, M) := st_ldc2_w q108_25 (by decide +kernel)
theorem x108_25 {L : pj_Loc} {st : List Value} {M : pj_Mem}  {o9 : Option Value × pj_Mem} : pj_Ends 108 (25, L, st, M) o9 = pj_Ends 108 (28, L, .long 5 :: st, M) o9 := pj_xs (s108_25)
theorem q108_28 : pj_row 108 28 = some (.invokestatic 42, 3, 76, 3, 0) := by decide +kernel
theorem e108_28 {L : pj_Loc} {st : List Value} {N S : Nat} {H : pj_Heap} {o : Option Value × pj_Mem} {M' : pj_Mem} {x0 : Int64} {x1 : Int64} {x2 : Int64} {r : Int32} (h4 : pj_le4 st = true) (h1 : pj_Ends 76 (0, [some (.long x0), none, some (.long x1), none, some (.long x2), none], [], (N, S, H)) (some (.int r), M')) (h2 : pj_Ends 108 (31, L, .int r :: st, M') o) : pj_Ends 108 (28, L, .long x2 :: .long x1 :: .long x0 :: st, (N, S, H)) o := ec_s3 q108_28 (Or.inl rfl) h4 rfl h1 h2
theorem q108_31 : pj_row 108 31 = some (.ifCond .ne 6, 3, 37, 0, 0) := by decide +kernel
theorem s108_31 {L : pj_Loc} {st : List Value} {M : pj_Mem} {x : Int32} : pj_step 108 (31, L, .int x :: st, M) = some (if ¬ x = 0 then 37 else 34, L, st, M) := st_if_ne q108_31
theorem x108_31 {L : pj_Loc} {st : List Value} {M : pj_Mem} {x : Int32} {o9 : Option Value × pj_Mem} : pj_Ends 108 (31, L, .int x :: st, M) o9 = pj_Ends 108 (if ¬ x = 0 then 37 else 34, L, st, M) o9 := pj_xs (s108_31)
theorem q108_34 : pj_row 108 34 = some (.bipush (-2), 2, 0, 0, 0) := by decide +kernel
theorem s108_34 {L : pj_Loc} {st : List Value} {M : pj_Mem}  : pj_step 108 (34, L, st, M) = some (36, L, .int (-2) :: st, M) := st_bipush q108_34 (by decide +kernel)
theorem x108_34 {L : pj_Loc} {st : List Value} {M : pj_Mem}  {o9 : Option Value × pj_Mem} : pj_Ends 108 (34, L, st, M) o9 = pj_Ends 108 (36, L, .int (-2) :: st, M) o9 := pj_xs (s108_34)
theorem q108_36 : pj_row 108 36 = some (.ireturn, 1, 0, 0, 0) := by decide +kernel
theorem t108_36 {L : pj_Loc} {M : pj_Mem} {v : Int32} : pj_Ends 108 (36, L, [.int v], M) (some (.int v), M) := pj_Ends.ret q108_36 (pj_rtn_i rt108)
theorem q108_37 : pj_row 108 37 = some (.aload_n 0, 1, 0, 0, 0) := by decide +kernel
theorem s108_37 {st : List Value} {M : pj_Mem} {l : pj_Loc} {x : Nat} : pj_step 108 (37, some (.ref x) :: l, st, M) = some (38, some (.ref x) :: l, .ref x :: st, M) := st_aload_n q108_37 rfl
theorem x108_37 {st : List Value} {M : pj_Mem} {l : pj_Loc} {x : Nat} {o9 : Option Value × pj_Mem} : pj_Ends 108 (37, some (.ref x) :: l, st, M) o9 = pj_Ends 108 (38, some (.ref x) :: l, .ref x :: st, M) o9 := pj_xs (s108_37)
theorem q108_38 : pj_row 108 38 = some (.invokevirtual 121, 3, 77, 1, 0) := by decide +kernel
theorem e108_38 {L : pj_Loc} {st : List Value} {N S : Nat} {H : pj_Heap} {o : Option Value × pj_Mem} {M' : pj_Mem} {x0 : Nat} (h4 : pj_le4 st = true) (hu : pj_isU 6 (H x0) = true) (h1 : pj_Ends 77 (0, [some (.ref x0), none], [], (N, S, H)) (none, M')) (h2 : pj_Ends 108 (41, L, st, M') o) : pj_Ends 108 (38, L, .ref x0 :: st, (N, S, H)) o := ec_v1 q108_38 (Or.inl rfl) h4 hu rfl h1 h2
theorem q108_41 : pj_row 108 41 = some (.aload_n 0, 1, 0, 0, 0) := by decide +kernel
theorem s108_41 {st : List Value} {M : pj_Mem} {l : pj_Loc} {x : Nat} : pj_step 108 (41, some (.ref x) :: l, st, M) = some (42, some (.ref x) :: l, .ref x :: st, M) := st_aload_n q108_41 rfl
theorem x108_41 {st : List Value} {M : pj_Mem} {l : pj_Loc} {x : Nat} {o9 : Option Value × pj_Mem} : pj_Ends 108 (41, some (.ref x) :: l, st, M) o9 = pj_Ends 108 (42, some (.ref x) :: l, .ref x :: st, M) o9 := pj_xs (s108_41)
theorem q108_42 : pj_row 108 42 = some (.iload_n 1, 1, 0, 0, 0) := by decide +kernel
theorem s108_42 {st : List Value} {M : pj_Mem} {l : pj_Loc} {a0 : Option Value} {x : Int32} : pj_step 108 (42, a0 :: some (.int x) :: l, st, M) = some (43, a0 :: some (.int x) :: l, .int x :: st, M) := st_iload_n q108_42 rfl
theorem x108_42 {st : List Value} {M : pj_Mem} {l : pj_Loc} {a0 : Option Value} {x : Int32} {o9 : Option Value × pj_Mem} : pj_Ends 108 (42, a0 :: some (.int x) :: l, st, M) o9 = pj_Ends 108 (43, a0 :: some (.int x) :: l, .int x :: st, M) o9 := pj_xs (s108_42)
theorem q108_43 : pj_row 108 43 = some (.iload_n 2, 1, 0, 0, 0) := by decide +kernel
theorem s108_43 {st : List Value} {M : pj_Mem} {l : pj_Loc} {a0 a1 : Option Value} {x : Int32} : pj_step 108 (43, a0 :: a1 :: some (.int x) :: l, st, M) = some (44, a0 :: a1 :: some (.int x) :: l, .int x :: st, M) := st_iload_n q108_43 rfl
theorem x108_43 {st : List Value} {M : pj_Mem} {l : pj_Loc} {a0 a1 : Option Value} {x : Int32} {o9 : Option Value × pj_Mem} : pj_Ends 108 (43, a0 :: a1 :: some (.int x) :: l, st, M) o9 = pj_Ends 108 (44, a0 :: a1 :: some (.int x) :: l, .int x :: st, M) o9 := pj_xs (s108_43)
theorem q108_44 : pj_row 108 44 = some (.iload_n 3, 1, 0, 0, 0) := by decide +kernel
theorem s108_44 {st : List Value} {M : pj_Mem} {l : pj_Loc} {a0 a1 a2 : Option Value} {x : Int32} : pj_step 108 (44, a0 :: a1 :: a2 :: some (.int x) :: l, st, M) = some (45, a0 :: a1 :: a2 :: some (.int x) :: l, .int x :: st, M) := st_iload_n q108_44 rfl
theorem x108_44 {st : List Value} {M : pj_Mem} {l : pj_Loc} {a0 a1 a2 : Option Value} {x : Int32} {o9 : Option Value × pj_Mem} : pj_Ends 108 (44, a0 :: a1 :: a2 :: some (.int x) :: l, st, M) o9 = pj_Ends 108 (45, a0 :: a1 :: a2 :: some (.int x) :: l, .int x :: st, M) o9 := pj_xs (s108_44)
theorem q108_45 : pj_row 108 45 = some (.invokevirtual 130, 3, 81, 4, 0) := by decide +kernel
theorem e108_45 {L : pj_Loc} {st : List Value} {N S : Nat} {H : pj_Heap} {o : Option Value × pj_Mem} {M' : pj_Mem} {x0 : Nat} {x1 : Int32} {x2 : Int32} {x3 : Int32} (h4 : pj_le4 st = true) (hu : pj_isU 6 (H x0) = true) (h1 : pj_Ends 81 (0, [some (.ref x0), some (.int x1), some (.int x2), some (.int x3)], [], (N, S, H)) (none, M')) (h2 : pj_Ends 108 (48, L, st, M') o) : pj_Ends 108 (45, L, .int x3 :: .int x2 :: .int x1 :: .ref x0 :: st, (N, S, H)) o := ec_v4 q108_45 (Or.inl rfl) h4 hu rfl h1 h2
theorem q108_48 : pj_row 108 48 = some (.aload_n 0, 1, 0, 0, 0) := by decide +kernel
theorem s108_48 {st : List Value} {M : pj_Mem} {l : pj_Loc} {x : Nat} : pj_step 108 (48, some (.ref x) :: l, st, M) = some (49, some (.ref x) :: l, .ref x :: st, M) := st_aload_n q108_48 rfl
theorem x108_48 {st : List Value} {M : pj_Mem} {l : pj_Loc} {x : Nat} {o9 : Option Value × pj_Mem} : pj_Ends 108 (48, some (.ref x) :: l, st, M) o9 = pj_Ends 108 (49, some (.ref x) :: l, .ref x :: st, M) o9 := pj_xs (s108_48)
theorem q108_49 : pj_row 108 49 = some (.iload 4, 2, 0, 0, 0) := by decide +kernel
theorem s108_49 {st : List Value} {M : pj_Mem} {l : pj_Loc} {a0 a1 a2 a3 : Option Value} {x : Int32} : pj_step 108 (49, a0 :: a1 :: a2 :: a3 :: some (.int x) :: l, st, M) = some (51, a0 :: a1 :: a2 :: a3 :: some (.int x) :: l, .int x :: st, M) := st_iload q108_49 rfl
theorem x108_49 {st : List Value} {M : pj_Mem} {l : pj_Loc} {a0 a1 a2 a3 : Option Value} {x : Int32} {o9 : Option Value × pj_Mem} : pj_Ends 108 (49, a0 :: a1 :: a2 :: a3 :: some (.int x) :: l, st, M) o9 = pj_Ends 108 (51, a0 :: a1 :: a2 :: a3 :: some (.int x) :: l, .int x :: st, M) o9 := pj_xs (s108_49)
theorem q108_51 : pj_row 108 51 = some (.invokevirtual 134, 3, 82, 2, 0) := by decide +kernel
theorem e108_51 {L : pj_Loc} {st : List Value} {N S : Nat} {H : pj_Heap} {o : Option Value × pj_Mem} {M' : pj_Mem} {x0 : Nat} {x1 : Int32} (h4 : pj_le4 st = true) (hu : pj_isU 6 (H x0) = true) (h1 : pj_Ends 82 (0, [some (.ref x0), some (.int x1)], [], (N, S, H)) (none, M')) (h2 : pj_Ends 108 (54, L, st, M') o) : pj_Ends 108 (51, L, .int x1 :: .ref x0 :: st, (N, S, H)) o := ec_v2 q108_51 (Or.inl rfl) h4 hu rfl h1 h2
theorem q108_54 : pj_row 108 54 = some (.aload_n 0, 1, 0, 0, 0) := by decide +kernel
theorem s108_54 {st : List Value} {M : pj_Mem} {l : pj_Loc} {x : Nat} : pj_step 108 (54, some (.ref x) :: l, st, M) = some (55, some (.ref x) :: l, .ref x :: st, M) := st_aload_n q108_54 rfl
theorem x108_54 {st : List Value} {M : pj_Mem} {l : pj_Loc} {x : Nat} {o9 : Option Value × pj_Mem} : pj_Ends 108 (54, some (.ref x) :: l, st, M) o9 = pj_Ends 108 (55, some (.ref x) :: l, .ref x :: st, M) o9 := pj_xs (s108_54)
theorem q108_55 : pj_row 108 55 = some (.invokevirtual 48, 3, 85, 1, 0) := by decide +kernel
theorem e108_55 {L : pj_Loc} {st : List Value} {N S : Nat} {H : pj_Heap} {o : Option Value × pj_Mem} {M' : pj_Mem} {x0 : Nat} {r : Int32} (h4 : pj_le4 st = true) (hu : pj_isU 6 (H x0) = true) (h1 : pj_Ends 85 (0, [some (.ref x0)], [], (N, S, H)) (some (.int r), M')) (h2 : pj_Ends 108 (58, L, .int r :: st, M') o) : pj_Ends 108 (55, L, .ref x0 :: st, (N, S, H)) o := ec_v1 q108_55 (Or.inl rfl) h4 hu rfl h1 h2
theorem q108_58 : pj_row 108 58 = some (.istore 6, 2, 0, 0, 0) := by decide +kernel
theorem s108_58 {st : List Value} {M : pj_Mem} {l : pj_Loc} {a0 a1 a2 a3 a4 a5 a6 : Option Value} {x : Int32} (h : pj_long a5 = false) : pj_step 108 (58, a0 :: a1 :: a2 :: a3 :: a4 :: a5 :: a6 :: l, .int x :: st, M) = some (60, a0 :: a1 :: a2 :: a3 :: a4 :: a5 :: some (.int x) :: l, st, M) := st_istore q108_58 (pj_st_6 h)
theorem x108_58 {st : List Value} {M : pj_Mem} {l : pj_Loc} {a0 a1 a2 a3 a4 a5 a6 : Option Value} {x : Int32} (h : pj_long a5 = false) {o9 : Option Value × pj_Mem} : pj_Ends 108 (58, a0 :: a1 :: a2 :: a3 :: a4 :: a5 :: a6 :: l, .int x :: st, M) o9 = pj_Ends 108 (60, a0 :: a1 :: a2 :: a3 :: a4 :: a5 :: some (.int x) :: l, st, M) o9 := pj_xs (s108_58 h)
theorem q108_60 : pj_row 108 60 = some (.aload_n 0, 1, 0, 0, 0) := by decide +kernel
theorem s108_60 {st : List Value} {M : pj_Mem} {l : pj_Loc} {x : Nat} : pj_step 108 (60, some (.ref x) :: l, st, M) = some (61, some (.ref x) :: l, .ref x :: st, M) := st_aload_n q108_60 rfl
theorem x108_60 {st : List Value} {M : pj_Mem} {l : pj_Loc} {x : Nat} {o9 : Option Value × pj_Mem} : pj_Ends 108 (60, some (.ref x) :: l, st, M) o9 = pj_Ends 108 (61, some (.ref x) :: l, .ref x :: st, M) o9 := pj_xs (s108_60)
theorem q108_61 : pj_row 108 61 = some (.getfield 7, 3, 6, 0, 0) := by decide +kernel
theorem s108_61 {L : pj_Loc} {st : List Value} {N S : Nat} {H : pj_Heap} {o : Nat} : pj_step 108 (61, L, .ref o :: st, (N, S, H)) = pj_pv 64 L st (N, S, H) (pj_fld (H o) 6 0) := st_getfield q108_61
theorem x108_61 {L : pj_Loc} {st : List Value} {N S : Nat} {H : pj_Heap} {o : Nat} {o9 : Option Value × pj_Mem} : pj_Ends 108 (61, L, .ref o :: st, (N, S, H)) o9 = pj_then 108 o9 (pj_pv 64 L st (N, S, H) (pj_fld (H o) 6 0)) := pj_xt q108_61 rfl (pj_cl_nc rfl) (s108_61)
theorem q108_64 : pj_row 108 64 = some (.bipush 7, 2, 0, 0, 0) := by decide +kernel
theorem s108_64 {L : pj_Loc} {st : List Value} {M : pj_Mem}  : pj_step 108 (64, L, st, M) = some (66, L, .int 7 :: st, M) := st_bipush q108_64 (by decide +kernel)
theorem x108_64 {L : pj_Loc} {st : List Value} {M : pj_Mem}  {o9 : Option Value × pj_Mem} : pj_Ends 108 (64, L, st, M) o9 = pj_Ends 108 (66, L, .int 7 :: st, M) o9 := pj_xs (s108_64)
theorem q108_66 : pj_row 108 66 = some (.iaload, 1, 0, 0, 0) := by decide +kernel
theorem s108_66 {L : pj_Loc} {st : List Value} {N S : Nat} {H : pj_Heap} {o : Nat} {i : Int32} : pj_step 108 (66, L, .int i :: .ref o :: st, (N, S, H)) = pj_pi 67 L st (N, S, H) (pj_arl (H o) 0 i) := st_iaload q108_66
theorem x108_66 {L : pj_Loc} {st : List Value} {N S : Nat} {H : pj_Heap} {o : Nat} {i : Int32} {o9 : Option Value × pj_Mem} : pj_Ends 108 (66, L, .int i :: .ref o :: st, (N, S, H)) o9 = pj_then 108 o9 (pj_pi 67 L st (N, S, H) (pj_arl (H o) 0 i)) := pj_xt q108_66 rfl (pj_cl_nc rfl) (s108_66)
theorem q108_67 : pj_row 108 67 = some (.ifCond .le 7, 3, 74, 0, 0) := by decide +kernel
theorem s108_67 {L : pj_Loc} {st : List Value} {M : pj_Mem} {x : Int32} : pj_step 108 (67, L, .int x :: st, M) = some (if x ≤ 0 then 74 else 70, L, st, M) := st_if_le q108_67
theorem x108_67 {L : pj_Loc} {st : List Value} {M : pj_Mem} {x : Int32} {o9 : Option Value × pj_Mem} : pj_Ends 108 (67, L, .int x :: st, M) o9 = pj_Ends 108 (if x ≤ 0 then 74 else 70, L, st, M) o9 := pj_xs (s108_67)
theorem q108_70 : pj_row 108 70 = some (.iconst 1, 1, 0, 0, 0) := by decide +kernel
theorem s108_70 {L : pj_Loc} {st : List Value} {M : pj_Mem}  : pj_step 108 (70, L, st, M) = some (71, L, .int 1 :: st, M) := st_iconst q108_70 (by decide +kernel)
theorem x108_70 {L : pj_Loc} {st : List Value} {M : pj_Mem}  {o9 : Option Value × pj_Mem} : pj_Ends 108 (70, L, st, M) o9 = pj_Ends 108 (71, L, .int 1 :: st, M) o9 := pj_xs (s108_70)
theorem q108_71 : pj_row 108 71 = some (.goto 4, 3, 75, 0, 0) := by decide +kernel
theorem s108_71 {L : pj_Loc} {st : List Value} {M : pj_Mem}  : pj_step 108 (71, L, st, M) = some (75, L, st, M) := st_goto q108_71
theorem x108_71 {L : pj_Loc} {st : List Value} {M : pj_Mem}  {o9 : Option Value × pj_Mem} : pj_Ends 108 (71, L, st, M) o9 = pj_Ends 108 (75, L, st, M) o9 := pj_xs (s108_71)
theorem q108_74 : pj_row 108 74 = some (.iconst 0, 1, 0, 0, 0) := by decide +kernel
theorem s108_74 {L : pj_Loc} {st : List Value} {M : pj_Mem}  : pj_step 108 (74, L, st, M) = some (75, L, .int 0 :: st, M) := st_iconst q108_74 (by decide +kernel)
theorem x108_74 {L : pj_Loc} {st : List Value} {M : pj_Mem}  {o9 : Option Value × pj_Mem} : pj_Ends 108 (74, L, st, M) o9 = pj_Ends 108 (75, L, .int 0 :: st, M) o9 := pj_xs (s108_74)
theorem q108_75 : pj_row 108 75 = some (.istore 7, 2, 0, 0, 0) := by decide +kernel
theorem s108_75 {st : List Value} {M : pj_Mem} {l : pj_Loc} {a0 a1 a2 a3 a4 a5 a6 a7 : Option Value} {x : Int32} (h : pj_long a6 = false) : pj_step 108 (75, a0 :: a1 :: a2 :: a3 :: a4 :: a5 :: a6 :: a7 :: l, .int x :: st, M) = some (77, a0 :: a1 :: a2 :: a3 :: a4 :: a5 :: a6 :: some (.int x) :: l, st, M) := st_istore q108_75 (pj_st_7 h)
theorem x108_75 {st : List Value} {M : pj_Mem} {l : pj_Loc} {a0 a1 a2 a3 a4 a5 a6 a7 : Option Value} {x : Int32} (h : pj_long a6 = false) {o9 : Option Value × pj_Mem} : pj_Ends 108 (75, a0 :: a1 :: a2 :: a3 :: a4 :: a5 :: a6 :: a7 :: l, .int x :: st, M) o9 = pj_Ends 108 (77, a0 :: a1 :: a2 :: a3 :: a4 :: a5 :: a6 :: some (.int x) :: l, st, M) o9 := pj_xs (s108_75 h)
theorem q108_77 : pj_row 108 77 = some (.aload_n 0, 1, 0, 0, 0) := by decide +kernel
theorem s108_77 {st : List Value} {M : pj_Mem} {l : pj_Loc} {x : Nat} : pj_step 108 (77, some (.ref x) :: l, st, M) = some (78, some (.ref x) :: l, .ref x :: st, M) := st_aload_n q108_77 rfl
theorem x108_77 {st : List Value} {M : pj_Mem} {l : pj_Loc} {x : Nat} {o9 : Option Value × pj_Mem} : pj_Ends 108 (77, some (.ref x) :: l, st, M) o9 = pj_Ends 108 (78, some (.ref x) :: l, .ref x :: st, M) o9 := pj_xs (s108_77)
theorem q108_78 : pj_row 108 78 = some (.invokevirtual 157, 3, 109, 1, 0) := by decide +kernel
theorem e108_78 {L : pj_Loc} {st : List Value} {N S : Nat} {H : pj_Heap} {o : Option Value × pj_Mem} {M' : pj_Mem} {x0 : Nat} (h4 : pj_le4 st = true) (hu : pj_isU 6 (H x0) = true) (h1 : pj_Ends 109 (0, [some (.ref x0), none], [], (N, S, H)) (none, M')) (h2 : pj_Ends 108 (81, L, st, M') o) : pj_Ends 108 (78, L, .ref x0 :: st, (N, S, H)) o := ec_v1 q108_78 (Or.inl rfl) h4 hu rfl h1 h2
theorem q108_81 : pj_row 108 81 = some (.iload 5, 2, 0, 0, 0) := by decide +kernel
theorem s108_81 {st : List Value} {M : pj_Mem} {l : pj_Loc} {a0 a1 a2 a3 a4 : Option Value} {x : Int32} : pj_step 108 (81, a0 :: a1 :: a2 :: a3 :: a4 :: some (.int x) :: l, st, M) = some (83, a0 :: a1 :: a2 :: a3 :: a4 :: some (.int x) :: l, .int x :: st, M) := st_iload q108_81 rfl
theorem x108_81 {st : List Value} {M : pj_Mem} {l : pj_Loc} {a0 a1 a2 a3 a4 : Option Value} {x : Int32} {o9 : Option Value × pj_Mem} : pj_Ends 108 (81, a0 :: a1 :: a2 :: a3 :: a4 :: some (.int x) :: l, st, M) o9 = pj_Ends 108 (83, a0 :: a1 :: a2 :: a3 :: a4 :: some (.int x) :: l, .int x :: st, M) o9 := pj_xs (s108_81)
theorem q108_83 : pj_row 108 83 = some (.ifCond .ne 10, 3, 93, 0, 0) := by decide +kernel
theorem s108_83 {L : pj_Loc} {st : List Value} {M : pj_Mem} {x : Int32} : pj_step 108 (83, L, .int x :: st, M) = some (if ¬ x = 0 then 93 else 86, L, st, M) := st_if_ne q108_83
theorem x108_83 {L : pj_Loc} {st : List Value} {M : pj_Mem} {x : Int32} {o9 : Option Value × pj_Mem} : pj_Ends 108 (83, L, .int x :: st, M) o9 = pj_Ends 108 (if ¬ x = 0 then 93 else 86, L, st, M) o9 := pj_xs (s108_83)
theorem q108_86 : pj_row 108 86 = some (.aload_n 0, 1, 0, 0, 0) := by decide +kernel
theorem s108_86 {st : List Value} {M : pj_Mem} {l : pj_Loc} {x : Nat} : pj_step 108 (86, some (.ref x) :: l, st, M) = some (87, some (.ref x) :: l, .ref x :: st, M) := st_aload_n q108_86 rfl
theorem x108_86 {st : List Value} {M : pj_Mem} {l : pj_Loc} {x : Nat} {o9 : Option Value × pj_Mem} : pj_Ends 108 (86, some (.ref x) :: l, st, M) o9 = pj_Ends 108 (87, some (.ref x) :: l, .ref x :: st, M) o9 := pj_xs (s108_86)
theorem q108_87 : pj_row 108 87 = some (.getfield 75, 3, 6, 11, 0) := by decide +kernel
theorem s108_87 {L : pj_Loc} {st : List Value} {N S : Nat} {H : pj_Heap} {o : Nat} : pj_step 108 (87, L, .ref o :: st, (N, S, H)) = pj_pv 90 L st (N, S, H) (pj_fld (H o) 6 11) := st_getfield q108_87
theorem x108_87 {L : pj_Loc} {st : List Value} {N S : Nat} {H : pj_Heap} {o : Nat} {o9 : Option Value × pj_Mem} : pj_Ends 108 (87, L, .ref o :: st, (N, S, H)) o9 = pj_then 108 o9 (pj_pv 90 L st (N, S, H) (pj_fld (H o) 6 11)) := pj_xt q108_87 rfl (pj_cl_nc rfl) (s108_87)
theorem q108_90 : pj_row 108 90 = some (.goto 58, 3, 148, 0, 0) := by decide +kernel
theorem s108_90 {L : pj_Loc} {st : List Value} {M : pj_Mem}  : pj_step 108 (90, L, st, M) = some (148, L, st, M) := st_goto q108_90
theorem x108_90 {L : pj_Loc} {st : List Value} {M : pj_Mem}  {o9 : Option Value × pj_Mem} : pj_Ends 108 (90, L, st, M) o9 = pj_Ends 108 (148, L, st, M) o9 := pj_xs (s108_90)
theorem q108_93 : pj_row 108 93 = some (.iload 5, 2, 0, 0, 0) := by decide +kernel
theorem s108_93 {st : List Value} {M : pj_Mem} {l : pj_Loc} {a0 a1 a2 a3 a4 : Option Value} {x : Int32} : pj_step 108 (93, a0 :: a1 :: a2 :: a3 :: a4 :: some (.int x) :: l, st, M) = some (95, a0 :: a1 :: a2 :: a3 :: a4 :: some (.int x) :: l, .int x :: st, M) := st_iload q108_93 rfl
theorem x108_93 {st : List Value} {M : pj_Mem} {l : pj_Loc} {a0 a1 a2 a3 a4 : Option Value} {x : Int32} {o9 : Option Value × pj_Mem} : pj_Ends 108 (93, a0 :: a1 :: a2 :: a3 :: a4 :: some (.int x) :: l, st, M) o9 = pj_Ends 108 (95, a0 :: a1 :: a2 :: a3 :: a4 :: some (.int x) :: l, .int x :: st, M) o9 := pj_xs (s108_93)
theorem q108_95 : pj_row 108 95 = some (.iconst 1, 1, 0, 0, 0) := by decide +kernel
theorem s108_95 {L : pj_Loc} {st : List Value} {M : pj_Mem}  : pj_step 108 (95, L, st, M) = some (96, L, .int 1 :: st, M) := st_iconst q108_95 (by decide +kernel)
theorem x108_95 {L : pj_Loc} {st : List Value} {M : pj_Mem}  {o9 : Option Value × pj_Mem} : pj_Ends 108 (95, L, st, M) o9 = pj_Ends 108 (96, L, .int 1 :: st, M) o9 := pj_xs (s108_95)
theorem q108_96 : pj_row 108 96 = some (.if_icmp .ne 13, 3, 109, 0, 0) := by decide +kernel
theorem s108_96 {L : pj_Loc} {st : List Value} {M : pj_Mem} {x y : Int32} : pj_step 108 (96, L, .int y :: .int x :: st, M) = some (if ¬ x = y then 109 else 99, L, st, M) := st_icmp_ne q108_96
theorem x108_96 {L : pj_Loc} {st : List Value} {M : pj_Mem} {x y : Int32} {o9 : Option Value × pj_Mem} : pj_Ends 108 (96, L, .int y :: .int x :: st, M) o9 = pj_Ends 108 (if ¬ x = y then 109 else 99, L, st, M) o9 := pj_xs (s108_96)
theorem q108_99 : pj_row 108 99 = some (.aload_n 0, 1, 0, 0, 0) := by decide +kernel
theorem s108_99 {st : List Value} {M : pj_Mem} {l : pj_Loc} {x : Nat} : pj_step 108 (99, some (.ref x) :: l, st, M) = some (100, some (.ref x) :: l, .ref x :: st, M) := st_aload_n q108_99 rfl
theorem x108_99 {st : List Value} {M : pj_Mem} {l : pj_Loc} {x : Nat} {o9 : Option Value × pj_Mem} : pj_Ends 108 (99, some (.ref x) :: l, st, M) o9 = pj_Ends 108 (100, some (.ref x) :: l, .ref x :: st, M) o9 := pj_xs (s108_99)
theorem q108_100 : pj_row 108 100 = some (.getfield 56, 3, 6, 8, 0) := by decide +kernel
theorem s108_100 {L : pj_Loc} {st : List Value} {N S : Nat} {H : pj_Heap} {o : Nat} : pj_step 108 (100, L, .ref o :: st, (N, S, H)) = pj_pv 103 L st (N, S, H) (pj_fld (H o) 6 8) := st_getfield q108_100
theorem x108_100 {L : pj_Loc} {st : List Value} {N S : Nat} {H : pj_Heap} {o : Nat} {o9 : Option Value × pj_Mem} : pj_Ends 108 (100, L, .ref o :: st, (N, S, H)) o9 = pj_then 108 o9 (pj_pv 103 L st (N, S, H) (pj_fld (H o) 6 8)) := pj_xt q108_100 rfl (pj_cl_nc rfl) (s108_100)
theorem q108_103 : pj_row 108 103 = some (.ldc 81, 2, 0, 0, 100000) := by decide +kernel
theorem s108_103 {L : pj_Loc} {st : List Value} {M : pj_Mem}  : pj_step 108 (103, L, st, M) = some (105, L, .int 100000 :: st, M) := st_ldc q108_103 (by decide +kernel)
theorem x108_103 {L : pj_Loc} {st : List Value} {M : pj_Mem}  {o9 : Option Value × pj_Mem} : pj_Ends 108 (103, L, st, M) o9 = pj_Ends 108 (105, L, .int 100000 :: st, M) o9 := pj_xs (s108_103)
theorem q108_105 : pj_row 108 105 = some (.iadd, 1, 0, 0, 0) := by decide +kernel
theorem s108_105 {L : pj_Loc} {st : List Value} {M : pj_Mem} {x y : Int32} : pj_step 108 (105, L, .int y :: .int x :: st, M) = some (106, L, .int (x + y) :: st, M) := st_iadd q108_105
theorem x108_105 {L : pj_Loc} {st : List Value} {M : pj_Mem} {x y : Int32} {o9 : Option Value × pj_Mem} : pj_Ends 108 (105, L, .int y :: .int x :: st, M) o9 = pj_Ends 108 (106, L, .int (x + y) :: st, M) o9 := pj_xs (s108_105)
theorem q108_106 : pj_row 108 106 = some (.goto 42, 3, 148, 0, 0) := by decide +kernel
theorem s108_106 {L : pj_Loc} {st : List Value} {M : pj_Mem}  : pj_step 108 (106, L, st, M) = some (148, L, st, M) := st_goto q108_106
theorem x108_106 {L : pj_Loc} {st : List Value} {M : pj_Mem}  {o9 : Option Value × pj_Mem} : pj_Ends 108 (106, L, st, M) o9 = pj_Ends 108 (148, L, st, M) o9 := pj_xs (s108_106)
theorem q108_109 : pj_row 108 109 = some (.iload 5, 2, 0, 0, 0) := by decide +kernel
theorem s108_109 {st : List Value} {M : pj_Mem} {l : pj_Loc} {a0 a1 a2 a3 a4 : Option Value} {x : Int32} : pj_step 108 (109, a0 :: a1 :: a2 :: a3 :: a4 :: some (.int x) :: l, st, M) = some (111, a0 :: a1 :: a2 :: a3 :: a4 :: some (.int x) :: l, .int x :: st, M) := st_iload q108_109 rfl
theorem x108_109 {st : List Value} {M : pj_Mem} {l : pj_Loc} {a0 a1 a2 a3 a4 : Option Value} {x : Int32} {o9 : Option Value × pj_Mem} : pj_Ends 108 (109, a0 :: a1 :: a2 :: a3 :: a4 :: some (.int x) :: l, st, M) o9 = pj_Ends 108 (111, a0 :: a1 :: a2 :: a3 :: a4 :: some (.int x) :: l, .int x :: st, M) o9 := pj_xs (s108_109)
theorem q108_111 : pj_row 108 111 = some (.iconst 2, 1, 0, 0, 0) := by decide +kernel
theorem s108_111 {L : pj_Loc} {st : List Value} {M : pj_Mem}  : pj_step 108 (111, L, st, M) = some (112, L, .int 2 :: st, M) := st_iconst q108_111 (by decide +kernel)
theorem x108_111 {L : pj_Loc} {st : List Value} {M : pj_Mem}  {o9 : Option Value × pj_Mem} : pj_Ends 108 (111, L, st, M) o9 = pj_Ends 108 (112, L, .int 2 :: st, M) o9 := pj_xs (s108_111)
theorem q108_112 : pj_row 108 112 = some (.if_icmp .ne 8, 3, 120, 0, 0) := by decide +kernel
theorem s108_112 {L : pj_Loc} {st : List Value} {M : pj_Mem} {x y : Int32} : pj_step 108 (112, L, .int y :: .int x :: st, M) = some (if ¬ x = y then 120 else 115, L, st, M) := st_icmp_ne q108_112
theorem x108_112 {L : pj_Loc} {st : List Value} {M : pj_Mem} {x y : Int32} {o9 : Option Value × pj_Mem} : pj_Ends 108 (112, L, .int y :: .int x :: st, M) o9 = pj_Ends 108 (if ¬ x = y then 120 else 115, L, st, M) o9 := pj_xs (s108_112)
theorem q108_115 : pj_row 108 115 = some (.iload 6, 2, 0, 0, 0) := by decide +kernel
theorem s108_115 {st : List Value} {M : pj_Mem} {l : pj_Loc} {a0 a1 a2 a3 a4 a5 : Option Value} {x : Int32} : pj_step 108 (115, a0 :: a1 :: a2 :: a3 :: a4 :: a5 :: some (.int x) :: l, st, M) = some (117, a0 :: a1 :: a2 :: a3 :: a4 :: a5 :: some (.int x) :: l, .int x :: st, M) := st_iload q108_115 rfl
theorem x108_115 {st : List Value} {M : pj_Mem} {l : pj_Loc} {a0 a1 a2 a3 a4 a5 : Option Value} {x : Int32} {o9 : Option Value × pj_Mem} : pj_Ends 108 (115, a0 :: a1 :: a2 :: a3 :: a4 :: a5 :: some (.int x) :: l, st, M) o9 = pj_Ends 108 (117, a0 :: a1 :: a2 :: a3 :: a4 :: a5 :: some (.int x) :: l, .int x :: st, M) o9 := pj_xs (s108_115)
theorem q108_117 : pj_row 108 117 = some (.goto 31, 3, 148, 0, 0) := by decide +kernel
theorem s108_117 {L : pj_Loc} {st : List Value} {M : pj_Mem}  : pj_step 108 (117, L, st, M) = some (148, L, st, M) := st_goto q108_117
theorem x108_117 {L : pj_Loc} {st : List Value} {M : pj_Mem}  {o9 : Option Value × pj_Mem} : pj_Ends 108 (117, L, st, M) o9 = pj_Ends 108 (148, L, st, M) o9 := pj_xs (s108_117)
theorem q108_120 : pj_row 108 120 = some (.iload 5, 2, 0, 0, 0) := by decide +kernel
theorem s108_120 {st : List Value} {M : pj_Mem} {l : pj_Loc} {a0 a1 a2 a3 a4 : Option Value} {x : Int32} : pj_step 108 (120, a0 :: a1 :: a2 :: a3 :: a4 :: some (.int x) :: l, st, M) = some (122, a0 :: a1 :: a2 :: a3 :: a4 :: some (.int x) :: l, .int x :: st, M) := st_iload q108_120 rfl
theorem x108_120 {st : List Value} {M : pj_Mem} {l : pj_Loc} {a0 a1 a2 a3 a4 : Option Value} {x : Int32} {o9 : Option Value × pj_Mem} : pj_Ends 108 (120, a0 :: a1 :: a2 :: a3 :: a4 :: some (.int x) :: l, st, M) o9 = pj_Ends 108 (122, a0 :: a1 :: a2 :: a3 :: a4 :: some (.int x) :: l, .int x :: st, M) o9 := pj_xs (s108_120)
theorem q108_122 : pj_row 108 122 = some (.iconst 3, 1, 0, 0, 0) := by decide +kernel
theorem s108_122 {L : pj_Loc} {st : List Value} {M : pj_Mem}  : pj_step 108 (122, L, st, M) = some (123, L, .int 3 :: st, M) := st_iconst q108_122 (by decide +kernel)
theorem x108_122 {L : pj_Loc} {st : List Value} {M : pj_Mem}  {o9 : Option Value × pj_Mem} : pj_Ends 108 (122, L, st, M) o9 = pj_Ends 108 (123, L, .int 3 :: st, M) o9 := pj_xs (s108_122)
theorem q108_123 : pj_row 108 123 = some (.if_icmp .ne 10, 3, 133, 0, 0) := by decide +kernel
theorem s108_123 {L : pj_Loc} {st : List Value} {M : pj_Mem} {x y : Int32} : pj_step 108 (123, L, .int y :: .int x :: st, M) = some (if ¬ x = y then 133 else 126, L, st, M) := st_icmp_ne q108_123
theorem x108_123 {L : pj_Loc} {st : List Value} {M : pj_Mem} {x y : Int32} {o9 : Option Value × pj_Mem} : pj_Ends 108 (123, L, .int y :: .int x :: st, M) o9 = pj_Ends 108 (if ¬ x = y then 133 else 126, L, st, M) o9 := pj_xs (s108_123)
theorem q108_126 : pj_row 108 126 = some (.aload_n 0, 1, 0, 0, 0) := by decide +kernel
theorem s108_126 {st : List Value} {M : pj_Mem} {l : pj_Loc} {x : Nat} : pj_step 108 (126, some (.ref x) :: l, st, M) = some (127, some (.ref x) :: l, .ref x :: st, M) := st_aload_n q108_126 rfl
theorem x108_126 {st : List Value} {M : pj_Mem} {l : pj_Loc} {x : Nat} {o9 : Option Value × pj_Mem} : pj_Ends 108 (126, some (.ref x) :: l, st, M) o9 = pj_Ends 108 (127, some (.ref x) :: l, .ref x :: st, M) o9 := pj_xs (s108_126)
theorem q108_127 : pj_row 108 127 = some (.getfield 72, 3, 6, 9, 0) := by decide +kernel
theorem s108_127 {L : pj_Loc} {st : List Value} {N S : Nat} {H : pj_Heap} {o : Nat} : pj_step 108 (127, L, .ref o :: st, (N, S, H)) = pj_pv 130 L st (N, S, H) (pj_fld (H o) 6 9) := st_getfield q108_127
theorem x108_127 {L : pj_Loc} {st : List Value} {N S : Nat} {H : pj_Heap} {o : Nat} {o9 : Option Value × pj_Mem} : pj_Ends 108 (127, L, .ref o :: st, (N, S, H)) o9 = pj_then 108 o9 (pj_pv 130 L st (N, S, H) (pj_fld (H o) 6 9)) := pj_xt q108_127 rfl (pj_cl_nc rfl) (s108_127)
theorem q108_130 : pj_row 108 130 = some (.goto 18, 3, 148, 0, 0) := by decide +kernel
theorem s108_130 {L : pj_Loc} {st : List Value} {M : pj_Mem}  : pj_step 108 (130, L, st, M) = some (148, L, st, M) := st_goto q108_130
theorem x108_130 {L : pj_Loc} {st : List Value} {M : pj_Mem}  {o9 : Option Value × pj_Mem} : pj_Ends 108 (130, L, st, M) o9 = pj_Ends 108 (148, L, st, M) o9 := pj_xs (s108_130)
theorem q108_133 : pj_row 108 133 = some (.iload 5, 2, 0, 0, 0) := by decide +kernel
theorem s108_133 {st : List Value} {M : pj_Mem} {l : pj_Loc} {a0 a1 a2 a3 a4 : Option Value} {x : Int32} : pj_step 108 (133, a0 :: a1 :: a2 :: a3 :: a4 :: some (.int x) :: l, st, M) = some (135, a0 :: a1 :: a2 :: a3 :: a4 :: some (.int x) :: l, .int x :: st, M) := st_iload q108_133 rfl
theorem x108_133 {st : List Value} {M : pj_Mem} {l : pj_Loc} {a0 a1 a2 a3 a4 : Option Value} {x : Int32} {o9 : Option Value × pj_Mem} : pj_Ends 108 (133, a0 :: a1 :: a2 :: a3 :: a4 :: some (.int x) :: l, st, M) o9 = pj_Ends 108 (135, a0 :: a1 :: a2 :: a3 :: a4 :: some (.int x) :: l, .int x :: st, M) o9 := pj_xs (s108_133)
theorem q108_135 : pj_row 108 135 = some (.iconst 4, 1, 0, 0, 0) := by decide +kernel
theorem s108_135 {L : pj_Loc} {st : List Value} {M : pj_Mem}  : pj_step 108 (135, L, st, M) = some (136, L, .int 4 :: st, M) := st_iconst q108_135 (by decide +kernel)
theorem x108_135 {L : pj_Loc} {st : List Value} {M : pj_Mem}  {o9 : Option Value × pj_Mem} : pj_Ends 108 (135, L, st, M) o9 = pj_Ends 108 (136, L, .int 4 :: st, M) o9 := pj_xs (s108_135)
theorem q108_136 : pj_row 108 136 = some (.if_icmp .ne 10, 3, 146, 0, 0) := by decide +kernel
theorem s108_136 {L : pj_Loc} {st : List Value} {M : pj_Mem} {x y : Int32} : pj_step 108 (136, L, .int y :: .int x :: st, M) = some (if ¬ x = y then 146 else 139, L, st, M) := st_icmp_ne q108_136
theorem x108_136 {L : pj_Loc} {st : List Value} {M : pj_Mem} {x y : Int32} {o9 : Option Value × pj_Mem} : pj_Ends 108 (136, L, .int y :: .int x :: st, M) o9 = pj_Ends 108 (if ¬ x = y then 146 else 139, L, st, M) o9 := pj_xs (s108_136)
theorem q108_139 : pj_row 108 139 = some (.aload_n 0, 1, 0, 0, 0) := by decide +kernel
theorem s108_139 {st : List Value} {M : pj_Mem} {l : pj_Loc} {x : Nat} : pj_step 108 (139, some (.ref x) :: l, st, M) = some (140, some (.ref x) :: l, .ref x :: st, M) := st_aload_n q108_139 rfl
theorem x108_139 {st : List Value} {M : pj_Mem} {l : pj_Loc} {x : Nat} {o9 : Option Value × pj_Mem} : pj_Ends 108 (139, some (.ref x) :: l, st, M) o9 = pj_Ends 108 (140, some (.ref x) :: l, .ref x :: st, M) o9 := pj_xs (s108_139)
theorem q108_140 : pj_row 108 140 = some (.getfield 65, 3, 6, 10, 0) := by decide +kernel
theorem s108_140 {L : pj_Loc} {st : List Value} {N S : Nat} {H : pj_Heap} {o : Nat} : pj_step 108 (140, L, .ref o :: st, (N, S, H)) = pj_pv 143 L st (N, S, H) (pj_fld (H o) 6 10) := st_getfield q108_140
theorem x108_140 {L : pj_Loc} {st : List Value} {N S : Nat} {H : pj_Heap} {o : Nat} {o9 : Option Value × pj_Mem} : pj_Ends 108 (140, L, .ref o :: st, (N, S, H)) o9 = pj_then 108 o9 (pj_pv 143 L st (N, S, H) (pj_fld (H o) 6 10)) := pj_xt q108_140 rfl (pj_cl_nc rfl) (s108_140)
theorem q108_143 : pj_row 108 143 = some (.goto 5, 3, 148, 0, 0) := by decide +kernel
theorem s108_143 {L : pj_Loc} {st : List Value} {M : pj_Mem}  : pj_step 108 (143, L, st, M) = some (148, L, st, M) := st_goto q108_143
theorem x108_143 {L : pj_Loc} {st : List Value} {M : pj_Mem}  {o9 : Option Value × pj_Mem} : pj_Ends 108 (143, L, st, M) o9 = pj_Ends 108 (148, L, st, M) o9 := pj_xs (s108_143)
theorem q108_146 : pj_row 108 146 = some (.iload 7, 2, 0, 0, 0) := by decide +kernel
theorem s108_146 {st : List Value} {M : pj_Mem} {l : pj_Loc} {a0 a1 a2 a3 a4 a5 a6 : Option Value} {x : Int32} : pj_step 108 (146, a0 :: a1 :: a2 :: a3 :: a4 :: a5 :: a6 :: some (.int x) :: l, st, M) = some (148, a0 :: a1 :: a2 :: a3 :: a4 :: a5 :: a6 :: some (.int x) :: l, .int x :: st, M) := st_iload q108_146 rfl
theorem x108_146 {st : List Value} {M : pj_Mem} {l : pj_Loc} {a0 a1 a2 a3 a4 a5 a6 : Option Value} {x : Int32} {o9 : Option Value × pj_Mem} : pj_Ends 108 (146, a0 :: a1 :: a2 :: a3 :: a4 :: a5 :: a6 :: some (.int x) :: l, st, M) o9 = pj_Ends 108 (148, a0 :: a1 :: a2 :: a3 :: a4 :: a5 :: a6 :: some (.int x) :: l, .int x :: st, M) o9 := pj_xs (s108_146)
theorem q108_148 : pj_row 108 148 = some (.ireturn, 1, 0, 0, 0) := by decide +kernel
theorem t108_148 {L : pj_Loc} {M : pj_Mem} {v : Int32} : pj_Ends 108 (148, L, [.int v], M) (some (.int v), M) := pj_Ends.ret q108_148 (pj_rtn_i rt108)
theorem rt109 : pj_rt 109 = none := rfl
theorem q109_0 : pj_row 109 0 = some (.iconst 0, 1, 0, 0, 0) := by decide +kernel
theorem s109_0 {L : pj_Loc} {st : List Value} {M : pj_Mem}  : pj_step 109 (0, L, st, M) = some (1, L, .int 0 :: st, M) := st_iconst q109_0 (by decide +kernel)
theorem x109_0 {L : pj_Loc} {st : List Value} {M : pj_Mem}  {o9 : Option Value × pj_Mem} : pj_Ends 109 (0, L, st, M) o9 = pj_Ends 109 (1, L, .int 0 :: st, M) o9 := pj_xs (s109_0)
theorem q109_1 : pj_row 109 1 = some (.istore_n 1, 1, 0, 0, 0) := by decide +kernel
theorem s109_1 {st : List Value} {M : pj_Mem} {l : pj_Loc} {a0 a1 : Option Value} {x : Int32} (h : pj_long a0 = false) : pj_step 109 (1, a0 :: a1 :: l, .int x :: st, M) = some (2, a0 :: some (.int x) :: l, st, M) := st_istore_n q109_1 (pj_st_1 h)
theorem x109_1 {st : List Value} {M : pj_Mem} {l : pj_Loc} {a0 a1 : Option Value} {x : Int32} (h : pj_long a0 = false) {o9 : Option Value × pj_Mem} : pj_Ends 109 (1, a0 :: a1 :: l, .int x :: st, M) o9 = pj_Ends 109 (2, a0 :: some (.int x) :: l, st, M) o9 := pj_xs (s109_1 h)
theorem q109_2 : pj_row 109 2 = some (.iload_n 1, 1, 0, 0, 0) := by decide +kernel
theorem s109_2 {st : List Value} {M : pj_Mem} {l : pj_Loc} {a0 : Option Value} {x : Int32} : pj_step 109 (2, a0 :: some (.int x) :: l, st, M) = some (3, a0 :: some (.int x) :: l, .int x :: st, M) := st_iload_n q109_2 rfl
theorem x109_2 {st : List Value} {M : pj_Mem} {l : pj_Loc} {a0 : Option Value} {x : Int32} {o9 : Option Value × pj_Mem} : pj_Ends 109 (2, a0 :: some (.int x) :: l, st, M) o9 = pj_Ends 109 (3, a0 :: some (.int x) :: l, .int x :: st, M) o9 := pj_xs (s109_2)
theorem q109_3 : pj_row 109 3 = some (.sipush 152, 3, 0, 0, 0) := by decide +kernel
theorem s109_3 {L : pj_Loc} {st : List Value} {M : pj_Mem}  : pj_step 109 (3, L, st, M) = some (6, L, .int 152 :: st, M) := st_sipush q109_3 (by decide +kernel)
theorem x109_3 {L : pj_Loc} {st : List Value} {M : pj_Mem}  {o9 : Option Value × pj_Mem} : pj_Ends 109 (3, L, st, M) o9 = pj_Ends 109 (6, L, .int 152 :: st, M) o9 := pj_xs (s109_3)
theorem q109_6 : pj_row 109 6 = some (.if_icmp .ge 21, 3, 27, 0, 0) := by decide +kernel
theorem s109_6 {L : pj_Loc} {st : List Value} {M : pj_Mem} {x y : Int32} : pj_step 109 (6, L, .int y :: .int x :: st, M) = some (if y ≤ x then 27 else 9, L, st, M) := st_icmp_ge q109_6
theorem x109_6 {L : pj_Loc} {st : List Value} {M : pj_Mem} {x y : Int32} {o9 : Option Value × pj_Mem} : pj_Ends 109 (6, L, .int y :: .int x :: st, M) o9 = pj_Ends 109 (if y ≤ x then 27 else 9, L, st, M) o9 := pj_xs (s109_6)
theorem q109_9 : pj_row 109 9 = some (.aload_n 0, 1, 0, 0, 0) := by decide +kernel
theorem s109_9 {st : List Value} {M : pj_Mem} {l : pj_Loc} {x : Nat} : pj_step 109 (9, some (.ref x) :: l, st, M) = some (10, some (.ref x) :: l, .ref x :: st, M) := st_aload_n q109_9 rfl
theorem x109_9 {st : List Value} {M : pj_Mem} {l : pj_Loc} {x : Nat} {o9 : Option Value × pj_Mem} : pj_Ends 109 (9, some (.ref x) :: l, st, M) o9 = pj_Ends 109 (10, some (.ref x) :: l, .ref x :: st, M) o9 := pj_xs (s109_9)
theorem q109_10 : pj_row 109 10 = some (.getfield 7, 3, 6, 0, 0) := by decide +kernel
theorem s109_10 {L : pj_Loc} {st : List Value} {N S : Nat} {H : pj_Heap} {o : Nat} : pj_step 109 (10, L, .ref o :: st, (N, S, H)) = pj_pv 13 L st (N, S, H) (pj_fld (H o) 6 0) := st_getfield q109_10
theorem x109_10 {L : pj_Loc} {st : List Value} {N S : Nat} {H : pj_Heap} {o : Nat} {o9 : Option Value × pj_Mem} : pj_Ends 109 (10, L, .ref o :: st, (N, S, H)) o9 = pj_then 109 o9 (pj_pv 13 L st (N, S, H) (pj_fld (H o) 6 0)) := pj_xt q109_10 rfl (pj_cl_nc rfl) (s109_10)
theorem q109_13 : pj_row 109 13 = some (.iload_n 1, 1, 0, 0, 0) := by decide +kernel
theorem s109_13 {st : List Value} {M : pj_Mem} {l : pj_Loc} {a0 : Option Value} {x : Int32} : pj_step 109 (13, a0 :: some (.int x) :: l, st, M) = some (14, a0 :: some (.int x) :: l, .int x :: st, M) := st_iload_n q109_13 rfl
theorem x109_13 {st : List Value} {M : pj_Mem} {l : pj_Loc} {a0 : Option Value} {x : Int32} {o9 : Option Value × pj_Mem} : pj_Ends 109 (13, a0 :: some (.int x) :: l, st, M) o9 = pj_Ends 109 (14, a0 :: some (.int x) :: l, .int x :: st, M) o9 := pj_xs (s109_13)
theorem q109_14 : pj_row 109 14 = some (.aload_n 0, 1, 0, 0, 0) := by decide +kernel
theorem s109_14 {st : List Value} {M : pj_Mem} {l : pj_Loc} {x : Nat} : pj_step 109 (14, some (.ref x) :: l, st, M) = some (15, some (.ref x) :: l, .ref x :: st, M) := st_aload_n q109_14 rfl
theorem x109_14 {st : List Value} {M : pj_Mem} {l : pj_Loc} {x : Nat} {o9 : Option Value × pj_Mem} : pj_Ends 109 (14, some (.ref x) :: l, st, M) o9 = pj_Ends 109 (15, some (.ref x) :: l, .ref x :: st, M) o9 := pj_xs (s109_14)
theorem q109_15 : pj_row 109 15 = some (.getfield 13, 3, 6, 1, 0) := by decide +kernel
theorem s109_15 {L : pj_Loc} {st : List Value} {N S : Nat} {H : pj_Heap} {o : Nat} : pj_step 109 (15, L, .ref o :: st, (N, S, H)) = pj_pv 18 L st (N, S, H) (pj_fld (H o) 6 1) := st_getfield q109_15
theorem x109_15 {L : pj_Loc} {st : List Value} {N S : Nat} {H : pj_Heap} {o : Nat} {o9 : Option Value × pj_Mem} : pj_Ends 109 (15, L, .ref o :: st, (N, S, H)) o9 = pj_then 109 o9 (pj_pv 18 L st (N, S, H) (pj_fld (H o) 6 1)) := pj_xt q109_15 rfl (pj_cl_nc rfl) (s109_15)
theorem q109_18 : pj_row 109 18 = some (.iload_n 1, 1, 0, 0, 0) := by decide +kernel
theorem s109_18 {st : List Value} {M : pj_Mem} {l : pj_Loc} {a0 : Option Value} {x : Int32} : pj_step 109 (18, a0 :: some (.int x) :: l, st, M) = some (19, a0 :: some (.int x) :: l, .int x :: st, M) := st_iload_n q109_18 rfl
theorem x109_18 {st : List Value} {M : pj_Mem} {l : pj_Loc} {a0 : Option Value} {x : Int32} {o9 : Option Value × pj_Mem} : pj_Ends 109 (18, a0 :: some (.int x) :: l, st, M) o9 = pj_Ends 109 (19, a0 :: some (.int x) :: l, .int x :: st, M) o9 := pj_xs (s109_18)
theorem q109_19 : pj_row 109 19 = some (.iaload, 1, 0, 0, 0) := by decide +kernel
theorem s109_19 {L : pj_Loc} {st : List Value} {N S : Nat} {H : pj_Heap} {o : Nat} {i : Int32} : pj_step 109 (19, L, .int i :: .ref o :: st, (N, S, H)) = pj_pi 20 L st (N, S, H) (pj_arl (H o) 0 i) := st_iaload q109_19
theorem x109_19 {L : pj_Loc} {st : List Value} {N S : Nat} {H : pj_Heap} {o : Nat} {i : Int32} {o9 : Option Value × pj_Mem} : pj_Ends 109 (19, L, .int i :: .ref o :: st, (N, S, H)) o9 = pj_then 109 o9 (pj_pi 20 L st (N, S, H) (pj_arl (H o) 0 i)) := pj_xt q109_19 rfl (pj_cl_nc rfl) (s109_19)
theorem q109_20 : pj_row 109 20 = some (.iastore, 1, 0, 0, 0) := by decide +kernel
theorem s109_20 {L : pj_Loc} {st : List Value} {N S : Nat} {H : pj_Heap} {o : Nat} {i x : Int32} : pj_step 109 (20, L, .int x :: .int i :: .ref o :: st, (N, S, H)) = pj_set 21 L st (N, S, H) o (pj_ars (H o) 0 i x) := st_iastore q109_20
theorem x109_20 {L : pj_Loc} {st : List Value} {N S : Nat} {H : pj_Heap} {o : Nat} {i x : Int32} {o9 : Option Value × pj_Mem} : pj_Ends 109 (20, L, .int x :: .int i :: .ref o :: st, (N, S, H)) o9 = pj_then 109 o9 (pj_set 21 L st (N, S, H) o (pj_ars (H o) 0 i x)) := pj_xt q109_20 rfl (pj_cl_nc rfl) (s109_20)
theorem q109_21 : pj_row 109 21 = some (.iinc 1 1, 3, 0, 0, 0) := by decide +kernel
theorem s109_21 {st : List Value} {M : pj_Mem} {l : pj_Loc} {a0 : Option Value} {x : Int32} (h : pj_long a0 = false) : pj_step 109 (21, a0 :: some (.int x) :: l, st, M) = some (24, a0 :: some (.int (x + 1)) :: l, st, M) := st_iinc q109_21 rfl (congrArg (fun y => x + y) (show Int32.ofInt 1 = 1 by decide +kernel)) (pj_st_1 h)
theorem x109_21 {st : List Value} {M : pj_Mem} {l : pj_Loc} {a0 : Option Value} {x : Int32} (h : pj_long a0 = false) {o9 : Option Value × pj_Mem} : pj_Ends 109 (21, a0 :: some (.int x) :: l, st, M) o9 = pj_Ends 109 (24, a0 :: some (.int (x + 1)) :: l, st, M) o9 := pj_xs (s109_21 h)
theorem q109_24 : pj_row 109 24 = some (.goto (-22), 3, 2, 0, 0) := by decide +kernel
theorem s109_24 {L : pj_Loc} {st : List Value} {M : pj_Mem}  : pj_step 109 (24, L, st, M) = some (2, L, st, M) := st_goto q109_24
theorem x109_24 {L : pj_Loc} {st : List Value} {M : pj_Mem}  {o9 : Option Value × pj_Mem} : pj_Ends 109 (24, L, st, M) o9 = pj_Ends 109 (2, L, st, M) o9 := pj_xs (s109_24)
theorem q109_27 : pj_row 109 27 = some (.return_, 1, 0, 0, 0) := by decide +kernel
theorem t109_27 {L : pj_Loc} {M : pj_Mem} : pj_Ends 109 (27, L, [], M) (none, M) := pj_Ends.ret q109_27 (pj_rtn_v rt109)
theorem rt110 : pj_rt 110 = some .int := rfl
theorem q110_0 : pj_row 110 0 = some (.iload_n 1, 1, 0, 0, 0) := by decide +kernel
theorem s110_0 {st : List Value} {M : pj_Mem} {l : pj_Loc} {a0 : Option Value} {x : Int32} : pj_step 110 (0, a0 :: some (.int x) :: l, st, M) = some (1, a0 :: some (.int x) :: l, .int x :: st, M) := st_iload_n q110_0 rfl
theorem x110_0 {st : List Value} {M : pj_Mem} {l : pj_Loc} {a0 : Option Value} {x : Int32} {o9 : Option Value × pj_Mem} : pj_Ends 110 (0, a0 :: some (.int x) :: l, st, M) o9 = pj_Ends 110 (1, a0 :: some (.int x) :: l, .int x :: st, M) o9 := pj_xs (s110_0)
theorem q110_1 : pj_row 110 1 = some (.invokestatic 137, 3, 99, 1, 0) := by decide +kernel
theorem e110_1 {L : pj_Loc} {st : List Value} {N S : Nat} {H : pj_Heap} {o : Option Value × pj_Mem} {M' : pj_Mem} {x0 : Int32} {r : Int32} (h4 : pj_le4 st = true) (h1 : pj_Ends 99 (0, [some (.int x0)], [], (N, S, H)) (some (.int r), M')) (h2 : pj_Ends 110 (4, L, .int r :: st, M') o) : pj_Ends 110 (1, L, .int x0 :: st, (N, S, H)) o := ec_s1 q110_1 (Or.inl rfl) h4 rfl h1 h2
theorem q110_4 : pj_row 110 4 = some (.ifCond .ne 5, 3, 9, 0, 0) := by decide +kernel
theorem s110_4 {L : pj_Loc} {st : List Value} {M : pj_Mem} {x : Int32} : pj_step 110 (4, L, .int x :: st, M) = some (if ¬ x = 0 then 9 else 7, L, st, M) := st_if_ne q110_4
theorem x110_4 {L : pj_Loc} {st : List Value} {M : pj_Mem} {x : Int32} {o9 : Option Value × pj_Mem} : pj_Ends 110 (4, L, .int x :: st, M) o9 = pj_Ends 110 (if ¬ x = 0 then 9 else 7, L, st, M) o9 := pj_xs (s110_4)
theorem q110_7 : pj_row 110 7 = some (.iconst (-1), 1, 0, 0, 0) := by decide +kernel
theorem s110_7 {L : pj_Loc} {st : List Value} {M : pj_Mem}  : pj_step 110 (7, L, st, M) = some (8, L, .int (-1) :: st, M) := st_iconst q110_7 (by decide +kernel)
theorem x110_7 {L : pj_Loc} {st : List Value} {M : pj_Mem}  {o9 : Option Value × pj_Mem} : pj_Ends 110 (7, L, st, M) o9 = pj_Ends 110 (8, L, .int (-1) :: st, M) o9 := pj_xs (s110_7)
theorem q110_8 : pj_row 110 8 = some (.ireturn, 1, 0, 0, 0) := by decide +kernel
theorem t110_8 {L : pj_Loc} {M : pj_Mem} {v : Int32} : pj_Ends 110 (8, L, [.int v], M) (some (.int v), M) := pj_Ends.ret q110_8 (pj_rtn_i rt110)
theorem q110_9 : pj_row 110 9 = some (.sipush (-500), 3, 0, 0, 0) := by decide +kernel
theorem s110_9 {L : pj_Loc} {st : List Value} {M : pj_Mem}  : pj_step 110 (9, L, st, M) = some (12, L, .int (-500) :: st, M) := st_sipush q110_9 (by decide +kernel)
theorem x110_9 {L : pj_Loc} {st : List Value} {M : pj_Mem}  {o9 : Option Value × pj_Mem} : pj_Ends 110 (9, L, st, M) o9 = pj_Ends 110 (12, L, .int (-500) :: st, M) o9 := pj_xs (s110_9)
theorem q110_12 : pj_row 110 12 = some (.istore_n 3, 1, 0, 0, 0) := by decide +kernel
theorem s110_12 {st : List Value} {M : pj_Mem} {l : pj_Loc} {a0 a1 a2 a3 : Option Value} {x : Int32} (h : pj_long a2 = false) : pj_step 110 (12, a0 :: a1 :: a2 :: a3 :: l, .int x :: st, M) = some (13, a0 :: a1 :: a2 :: some (.int x) :: l, st, M) := st_istore_n q110_12 (pj_st_3 h)
theorem x110_12 {st : List Value} {M : pj_Mem} {l : pj_Loc} {a0 a1 a2 a3 : Option Value} {x : Int32} (h : pj_long a2 = false) {o9 : Option Value × pj_Mem} : pj_Ends 110 (12, a0 :: a1 :: a2 :: a3 :: l, .int x :: st, M) o9 = pj_Ends 110 (13, a0 :: a1 :: a2 :: some (.int x) :: l, st, M) o9 := pj_xs (s110_12 h)
theorem q110_13 : pj_row 110 13 = some (.iload_n 3, 1, 0, 0, 0) := by decide +kernel
theorem s110_13 {st : List Value} {M : pj_Mem} {l : pj_Loc} {a0 a1 a2 : Option Value} {x : Int32} : pj_step 110 (13, a0 :: a1 :: a2 :: some (.int x) :: l, st, M) = some (14, a0 :: a1 :: a2 :: some (.int x) :: l, .int x :: st, M) := st_iload_n q110_13 rfl
theorem x110_13 {st : List Value} {M : pj_Mem} {l : pj_Loc} {a0 a1 a2 : Option Value} {x : Int32} {o9 : Option Value × pj_Mem} : pj_Ends 110 (13, a0 :: a1 :: a2 :: some (.int x) :: l, st, M) o9 = pj_Ends 110 (14, a0 :: a1 :: a2 :: some (.int x) :: l, .int x :: st, M) o9 := pj_xs (s110_13)
theorem q110_14 : pj_row 110 14 = some (.sipush 500, 3, 0, 0, 0) := by decide +kernel
theorem s110_14 {L : pj_Loc} {st : List Value} {M : pj_Mem}  : pj_step 110 (14, L, st, M) = some (17, L, .int 500 :: st, M) := st_sipush q110_14 (by decide +kernel)
theorem x110_14 {L : pj_Loc} {st : List Value} {M : pj_Mem}  {o9 : Option Value × pj_Mem} : pj_Ends 110 (14, L, st, M) o9 = pj_Ends 110 (17, L, .int 500 :: st, M) o9 := pj_xs (s110_14)
theorem q110_17 : pj_row 110 17 = some (.if_icmp .gt 31, 3, 48, 0, 0) := by decide +kernel
theorem s110_17 {L : pj_Loc} {st : List Value} {M : pj_Mem} {x y : Int32} : pj_step 110 (17, L, .int y :: .int x :: st, M) = some (if y < x then 48 else 20, L, st, M) := st_icmp_gt q110_17
theorem x110_17 {L : pj_Loc} {st : List Value} {M : pj_Mem} {x y : Int32} {o9 : Option Value × pj_Mem} : pj_Ends 110 (17, L, .int y :: .int x :: st, M) o9 = pj_Ends 110 (if y < x then 48 else 20, L, st, M) o9 := pj_xs (s110_17)
theorem q110_20 : pj_row 110 20 = some (.aload_n 0, 1, 0, 0, 0) := by decide +kernel
theorem s110_20 {st : List Value} {M : pj_Mem} {l : pj_Loc} {x : Nat} : pj_step 110 (20, some (.ref x) :: l, st, M) = some (21, some (.ref x) :: l, .ref x :: st, M) := st_aload_n q110_20 rfl
theorem x110_20 {st : List Value} {M : pj_Mem} {l : pj_Loc} {x : Nat} {o9 : Option Value × pj_Mem} : pj_Ends 110 (20, some (.ref x) :: l, st, M) o9 = pj_Ends 110 (21, some (.ref x) :: l, .ref x :: st, M) o9 := pj_xs (s110_20)
theorem q110_21 : pj_row 110 21 = some (.iload_n 3, 1, 0, 0, 0) := by decide +kernel
theorem s110_21 {st : List Value} {M : pj_Mem} {l : pj_Loc} {a0 a1 a2 : Option Value} {x : Int32} : pj_step 110 (21, a0 :: a1 :: a2 :: some (.int x) :: l, st, M) = some (22, a0 :: a1 :: a2 :: some (.int x) :: l, .int x :: st, M) := st_iload_n q110_21 rfl
theorem x110_21 {st : List Value} {M : pj_Mem} {l : pj_Loc} {a0 a1 a2 : Option Value} {x : Int32} {o9 : Option Value × pj_Mem} : pj_Ends 110 (21, a0 :: a1 :: a2 :: some (.int x) :: l, st, M) o9 = pj_Ends 110 (22, a0 :: a1 :: a2 :: some (.int x) :: l, .int x :: st, M) o9 := pj_xs (s110_21)
theorem q110_22 : pj_row 110 22 = some (.iload_n 3, 1, 0, 0, 0) := by decide +kernel
theorem s110_22 {st : List Value} {M : pj_Mem} {l : pj_Loc} {a0 a1 a2 : Option Value} {x : Int32} : pj_step 110 (22, a0 :: a1 :: a2 :: some (.int x) :: l, st, M) = some (23, a0 :: a1 :: a2 :: some (.int x) :: l, .int x :: st, M) := st_iload_n q110_22 rfl
theorem x110_22 {st : List Value} {M : pj_Mem} {l : pj_Loc} {a0 a1 a2 : Option Value} {x : Int32} {o9 : Option Value × pj_Mem} : pj_Ends 110 (22, a0 :: a1 :: a2 :: some (.int x) :: l, st, M) o9 = pj_Ends 110 (23, a0 :: a1 :: a2 :: some (.int x) :: l, .int x :: st, M) o9 := pj_xs (s110_22)
theorem q110_23 : pj_row 110 23 = some (.iload_n 3, 1, 0, 0, 0) := by decide +kernel
theorem s110_23 {st : List Value} {M : pj_Mem} {l : pj_Loc} {a0 a1 a2 : Option Value} {x : Int32} : pj_step 110 (23, a0 :: a1 :: a2 :: some (.int x) :: l, st, M) = some (24, a0 :: a1 :: a2 :: some (.int x) :: l, .int x :: st, M) := st_iload_n q110_23 rfl
theorem x110_23 {st : List Value} {M : pj_Mem} {l : pj_Loc} {a0 a1 a2 : Option Value} {x : Int32} {o9 : Option Value × pj_Mem} : pj_Ends 110 (23, a0 :: a1 :: a2 :: some (.int x) :: l, st, M) o9 = pj_Ends 110 (24, a0 :: a1 :: a2 :: some (.int x) :: l, .int x :: st, M) o9 := pj_xs (s110_23)
theorem q110_24 : pj_row 110 24 = some (.iload_n 2, 1, 0, 0, 0) := by decide +kernel
theorem s110_24 {st : List Value} {M : pj_Mem} {l : pj_Loc} {a0 a1 : Option Value} {x : Int32} : pj_step 110 (24, a0 :: a1 :: some (.int x) :: l, st, M) = some (25, a0 :: a1 :: some (.int x) :: l, .int x :: st, M) := st_iload_n q110_24 rfl
theorem x110_24 {st : List Value} {M : pj_Mem} {l : pj_Loc} {a0 a1 : Option Value} {x : Int32} {o9 : Option Value × pj_Mem} : pj_Ends 110 (24, a0 :: a1 :: some (.int x) :: l, st, M) o9 = pj_Ends 110 (25, a0 :: a1 :: some (.int x) :: l, .int x :: st, M) o9 := pj_xs (s110_24)
theorem q110_25 : pj_row 110 25 = some (.iconst 0, 1, 0, 0, 0) := by decide +kernel
theorem s110_25 {L : pj_Loc} {st : List Value} {M : pj_Mem}  : pj_step 110 (25, L, st, M) = some (26, L, .int 0 :: st, M) := st_iconst q110_25 (by decide +kernel)
theorem x110_25 {L : pj_Loc} {st : List Value} {M : pj_Mem}  {o9 : Option Value × pj_Mem} : pj_Ends 110 (25, L, st, M) o9 = pj_Ends 110 (26, L, .int 0 :: st, M) o9 := pj_xs (s110_25)
theorem q110_26 : pj_row 110 26 = some (.invokevirtual 160, 3, 108, 6, 0) := by decide +kernel
theorem e110_26 {L : pj_Loc} {st : List Value} {N S : Nat} {H : pj_Heap} {o : Option Value × pj_Mem} {M' : pj_Mem} {x0 : Nat} {x1 : Int32} {x2 : Int32} {x3 : Int32} {x4 : Int32} {x5 : Int32} {r : Int32} (h4 : pj_le4 st = true) (hu : pj_isU 6 (H x0) = true) (h1 : pj_Ends 108 (0, [some (.ref x0), some (.int x1), some (.int x2), some (.int x3), some (.int x4), some (.int x5), none, none], [], (N, S, H)) (some (.int r), M')) (h2 : pj_Ends 110 (29, L, .int r :: st, M') o) : pj_Ends 110 (26, L, .int x5 :: .int x4 :: .int x3 :: .int x2 :: .int x1 :: .ref x0 :: st, (N, S, H)) o := ec_v6 q110_26 (Or.inl rfl) h4 hu rfl h1 h2
theorem q110_29 : pj_row 110 29 = some (.iload_n 1, 1, 0, 0, 0) := by decide +kernel
theorem s110_29 {st : List Value} {M : pj_Mem} {l : pj_Loc} {a0 : Option Value} {x : Int32} : pj_step 110 (29, a0 :: some (.int x) :: l, st, M) = some (30, a0 :: some (.int x) :: l, .int x :: st, M) := st_iload_n q110_29 rfl
theorem x110_29 {st : List Value} {M : pj_Mem} {l : pj_Loc} {a0 : Option Value} {x : Int32} {o9 : Option Value × pj_Mem} : pj_Ends 110 (29, a0 :: some (.int x) :: l, st, M) o9 = pj_Ends 110 (30, a0 :: some (.int x) :: l, .int x :: st, M) o9 := pj_xs (s110_29)
theorem q110_30 : pj_row 110 30 = some (.ishr, 1, 0, 0, 0) := by decide +kernel
theorem s110_30 {L : pj_Loc} {st : List Value} {M : pj_Mem} {x y : Int32} : pj_step 110 (30, L, .int y :: .int x :: st, M) = some (31, L, .int (x >>> (y &&& 31)) :: st, M) := st_ishr q110_30
theorem x110_30 {L : pj_Loc} {st : List Value} {M : pj_Mem} {x y : Int32} {o9 : Option Value × pj_Mem} : pj_Ends 110 (30, L, .int y :: .int x :: st, M) o9 = pj_Ends 110 (31, L, .int (x >>> (y &&& 31)) :: st, M) o9 := pj_xs (s110_30)
theorem q110_31 : pj_row 110 31 = some (.iconst 1, 1, 0, 0, 0) := by decide +kernel
theorem s110_31 {L : pj_Loc} {st : List Value} {M : pj_Mem}  : pj_step 110 (31, L, st, M) = some (32, L, .int 1 :: st, M) := st_iconst q110_31 (by decide +kernel)
theorem x110_31 {L : pj_Loc} {st : List Value} {M : pj_Mem}  {o9 : Option Value × pj_Mem} : pj_Ends 110 (31, L, st, M) o9 = pj_Ends 110 (32, L, .int 1 :: st, M) o9 := pj_xs (s110_31)
theorem q110_32 : pj_row 110 32 = some (.iand, 1, 0, 0, 0) := by decide +kernel
theorem s110_32 {L : pj_Loc} {st : List Value} {M : pj_Mem} {x y : Int32} : pj_step 110 (32, L, .int y :: .int x :: st, M) = some (33, L, .int (x &&& y) :: st, M) := st_iand q110_32
theorem x110_32 {L : pj_Loc} {st : List Value} {M : pj_Mem} {x y : Int32} {o9 : Option Value × pj_Mem} : pj_Ends 110 (32, L, .int y :: .int x :: st, M) o9 = pj_Ends 110 (33, L, .int (x &&& y) :: st, M) o9 := pj_xs (s110_32)
theorem q110_33 : pj_row 110 33 = some (.iconst 1, 1, 0, 0, 0) := by decide +kernel
theorem s110_33 {L : pj_Loc} {st : List Value} {M : pj_Mem}  : pj_step 110 (33, L, st, M) = some (34, L, .int 1 :: st, M) := st_iconst q110_33 (by decide +kernel)
theorem x110_33 {L : pj_Loc} {st : List Value} {M : pj_Mem}  {o9 : Option Value × pj_Mem} : pj_Ends 110 (33, L, st, M) o9 = pj_Ends 110 (34, L, .int 1 :: st, M) o9 := pj_xs (s110_33)
theorem q110_34 : pj_row 110 34 = some (.if_icmp .ne 8, 3, 42, 0, 0) := by decide +kernel
theorem s110_34 {L : pj_Loc} {st : List Value} {M : pj_Mem} {x y : Int32} : pj_step 110 (34, L, .int y :: .int x :: st, M) = some (if ¬ x = y then 42 else 37, L, st, M) := st_icmp_ne q110_34
theorem x110_34 {L : pj_Loc} {st : List Value} {M : pj_Mem} {x y : Int32} {o9 : Option Value × pj_Mem} : pj_Ends 110 (34, L, .int y :: .int x :: st, M) o9 = pj_Ends 110 (if ¬ x = y then 42 else 37, L, st, M) o9 := pj_xs (s110_34)
theorem q110_37 : pj_row 110 37 = some (.iload_n 3, 1, 0, 0, 0) := by decide +kernel
theorem s110_37 {st : List Value} {M : pj_Mem} {l : pj_Loc} {a0 a1 a2 : Option Value} {x : Int32} : pj_step 110 (37, a0 :: a1 :: a2 :: some (.int x) :: l, st, M) = some (38, a0 :: a1 :: a2 :: some (.int x) :: l, .int x :: st, M) := st_iload_n q110_37 rfl
theorem x110_37 {st : List Value} {M : pj_Mem} {l : pj_Loc} {a0 a1 a2 : Option Value} {x : Int32} {o9 : Option Value × pj_Mem} : pj_Ends 110 (37, a0 :: a1 :: a2 :: some (.int x) :: l, st, M) o9 = pj_Ends 110 (38, a0 :: a1 :: a2 :: some (.int x) :: l, .int x :: st, M) o9 := pj_xs (s110_37)
theorem q110_38 : pj_row 110 38 = some (.ldc 81, 2, 0, 0, 100000) := by decide +kernel
theorem s110_38 {L : pj_Loc} {st : List Value} {M : pj_Mem}  : pj_step 110 (38, L, st, M) = some (40, L, .int 100000 :: st, M) := st_ldc q110_38 (by decide +kernel)
theorem x110_38 {L : pj_Loc} {st : List Value} {M : pj_Mem}  {o9 : Option Value × pj_Mem} : pj_Ends 110 (38, L, st, M) o9 = pj_Ends 110 (40, L, .int 100000 :: st, M) o9 := pj_xs (s110_38)
theorem q110_40 : pj_row 110 40 = some (.iadd, 1, 0, 0, 0) := by decide +kernel
theorem s110_40 {L : pj_Loc} {st : List Value} {M : pj_Mem} {x y : Int32} : pj_step 110 (40, L, .int y :: .int x :: st, M) = some (41, L, .int (x + y) :: st, M) := st_iadd q110_40
theorem x110_40 {L : pj_Loc} {st : List Value} {M : pj_Mem} {x y : Int32} {o9 : Option Value × pj_Mem} : pj_Ends 110 (40, L, .int y :: .int x :: st, M) o9 = pj_Ends 110 (41, L, .int (x + y) :: st, M) o9 := pj_xs (s110_40)
theorem q110_41 : pj_row 110 41 = some (.ireturn, 1, 0, 0, 0) := by decide +kernel
theorem t110_41 {L : pj_Loc} {M : pj_Mem} {v : Int32} : pj_Ends 110 (41, L, [.int v], M) (some (.int v), M) := pj_Ends.ret q110_41 (pj_rtn_i rt110)
theorem q110_42 : pj_row 110 42 = some (.iinc 3 1, 3, 0, 0, 0) := by decide +kernel
theorem s110_42 {st : List Value} {M : pj_Mem} {l : pj_Loc} {a0 a1 a2 : Option Value} {x : Int32} (h : pj_long a2 = false) : pj_step 110 (42, a0 :: a1 :: a2 :: some (.int x) :: l, st, M) = some (45, a0 :: a1 :: a2 :: some (.int (x + 1)) :: l, st, M) := st_iinc q110_42 rfl (congrArg (fun y => x + y) (show Int32.ofInt 1 = 1 by decide +kernel)) (pj_st_3 h)
theorem x110_42 {st : List Value} {M : pj_Mem} {l : pj_Loc} {a0 a1 a2 : Option Value} {x : Int32} (h : pj_long a2 = false) {o9 : Option Value × pj_Mem} : pj_Ends 110 (42, a0 :: a1 :: a2 :: some (.int x) :: l, st, M) o9 = pj_Ends 110 (45, a0 :: a1 :: a2 :: some (.int (x + 1)) :: l, st, M) o9 := pj_xs (s110_42 h)
theorem q110_45 : pj_row 110 45 = some (.goto (-32), 3, 13, 0, 0) := by decide +kernel
theorem s110_45 {L : pj_Loc} {st : List Value} {M : pj_Mem}  : pj_step 110 (45, L, st, M) = some (13, L, st, M) := st_goto q110_45
theorem x110_45 {L : pj_Loc} {st : List Value} {M : pj_Mem}  {o9 : Option Value × pj_Mem} : pj_Ends 110 (45, L, st, M) o9 = pj_Ends 110 (13, L, st, M) o9 := pj_xs (s110_45)
theorem q110_48 : pj_row 110 48 = some (.bipush (-6), 2, 0, 0, 0) := by decide +kernel
theorem s110_48 {L : pj_Loc} {st : List Value} {M : pj_Mem}  : pj_step 110 (48, L, st, M) = some (50, L, .int (-6) :: st, M) := st_bipush q110_48 (by decide +kernel)
theorem x110_48 {L : pj_Loc} {st : List Value} {M : pj_Mem}  {o9 : Option Value × pj_Mem} : pj_Ends 110 (48, L, st, M) o9 = pj_Ends 110 (50, L, .int (-6) :: st, M) o9 := pj_xs (s110_48)
theorem q110_50 : pj_row 110 50 = some (.ireturn, 1, 0, 0, 0) := by decide +kernel
theorem t110_50 {L : pj_Loc} {M : pj_Mem} {v : Int32} : pj_Ends 110 (50, L, [.int v], M) (some (.int v), M) := pj_Ends.ret q110_50 (pj_rtn_i rt110)
theorem rt111 : pj_rt 111 = some .int := rfl
theorem q111_0 : pj_row 111 0 = some (.iload_n 1, 1, 0, 0, 0) := by decide +kernel
theorem s111_0 {st : List Value} {M : pj_Mem} {l : pj_Loc} {a0 : Option Value} {x : Int32} : pj_step 111 (0, a0 :: some (.int x) :: l, st, M) = some (1, a0 :: some (.int x) :: l, .int x :: st, M) := st_iload_n q111_0 rfl
theorem x111_0 {st : List Value} {M : pj_Mem} {l : pj_Loc} {a0 : Option Value} {x : Int32} {o9 : Option Value × pj_Mem} : pj_Ends 111 (0, a0 :: some (.int x) :: l, st, M) o9 = pj_Ends 111 (1, a0 :: some (.int x) :: l, .int x :: st, M) o9 := pj_xs (s111_0)
theorem q111_1 : pj_row 111 1 = some (.invokestatic 137, 3, 99, 1, 0) := by decide +kernel
theorem e111_1 {L : pj_Loc} {st : List Value} {N S : Nat} {H : pj_Heap} {o : Option Value × pj_Mem} {M' : pj_Mem} {x0 : Int32} {r : Int32} (h4 : pj_le4 st = true) (h1 : pj_Ends 99 (0, [some (.int x0)], [], (N, S, H)) (some (.int r), M')) (h2 : pj_Ends 111 (4, L, .int r :: st, M') o) : pj_Ends 111 (1, L, .int x0 :: st, (N, S, H)) o := ec_s1 q111_1 (Or.inl rfl) h4 rfl h1 h2
theorem q111_4 : pj_row 111 4 = some (.ifCond .ne 5, 3, 9, 0, 0) := by decide +kernel
theorem s111_4 {L : pj_Loc} {st : List Value} {M : pj_Mem} {x : Int32} : pj_step 111 (4, L, .int x :: st, M) = some (if ¬ x = 0 then 9 else 7, L, st, M) := st_if_ne q111_4
theorem x111_4 {L : pj_Loc} {st : List Value} {M : pj_Mem} {x : Int32} {o9 : Option Value × pj_Mem} : pj_Ends 111 (4, L, .int x :: st, M) o9 = pj_Ends 111 (if ¬ x = 0 then 9 else 7, L, st, M) o9 := pj_xs (s111_4)
theorem q111_7 : pj_row 111 7 = some (.iconst (-1), 1, 0, 0, 0) := by decide +kernel
theorem s111_7 {L : pj_Loc} {st : List Value} {M : pj_Mem}  : pj_step 111 (7, L, st, M) = some (8, L, .int (-1) :: st, M) := st_iconst q111_7 (by decide +kernel)
theorem x111_7 {L : pj_Loc} {st : List Value} {M : pj_Mem}  {o9 : Option Value × pj_Mem} : pj_Ends 111 (7, L, st, M) o9 = pj_Ends 111 (8, L, .int (-1) :: st, M) o9 := pj_xs (s111_7)
theorem q111_8 : pj_row 111 8 = some (.ireturn, 1, 0, 0, 0) := by decide +kernel
theorem t111_8 {L : pj_Loc} {M : pj_Mem} {v : Int32} : pj_Ends 111 (8, L, [.int v], M) (some (.int v), M) := pj_Ends.ret q111_8 (pj_rtn_i rt111)
theorem q111_9 : pj_row 111 9 = some (.iload_n 2, 1, 0, 0, 0) := by decide +kernel
theorem s111_9 {st : List Value} {M : pj_Mem} {l : pj_Loc} {a0 a1 : Option Value} {x : Int32} : pj_step 111 (9, a0 :: a1 :: some (.int x) :: l, st, M) = some (10, a0 :: a1 :: some (.int x) :: l, .int x :: st, M) := st_iload_n q111_9 rfl
theorem x111_9 {st : List Value} {M : pj_Mem} {l : pj_Loc} {a0 a1 : Option Value} {x : Int32} {o9 : Option Value × pj_Mem} : pj_Ends 111 (9, a0 :: a1 :: some (.int x) :: l, st, M) o9 = pj_Ends 111 (10, a0 :: a1 :: some (.int x) :: l, .int x :: st, M) o9 := pj_xs (s111_9)
theorem q111_10 : pj_row 111 10 = some (.invokestatic 127, 3, 80, 1, 0) := by decide +kernel
theorem e111_10 {L : pj_Loc} {st : List Value} {N S : Nat} {H : pj_Heap} {o : Option Value × pj_Mem} {M' : pj_Mem} {x0 : Int32} {r : Int32} (h4 : pj_le4 st = true) (h1 : pj_Ends 80 (0, [some (.int x0)], [], (N, S, H)) (some (.int r), M')) (h2 : pj_Ends 111 (13, L, .int r :: st, M') o) : pj_Ends 111 (10, L, .int x0 :: st, (N, S, H)) o := ec_s1 q111_10 (Or.inl rfl) h4 rfl h1 h2
theorem q111_13 : pj_row 111 13 = some (.ifCond .ne 6, 3, 19, 0, 0) := by decide +kernel
theorem s111_13 {L : pj_Loc} {st : List Value} {M : pj_Mem} {x : Int32} : pj_step 111 (13, L, .int x :: st, M) = some (if ¬ x = 0 then 19 else 16, L, st, M) := st_if_ne q111_13
theorem x111_13 {L : pj_Loc} {st : List Value} {M : pj_Mem} {x : Int32} {o9 : Option Value × pj_Mem} : pj_Ends 111 (13, L, .int x :: st, M) o9 = pj_Ends 111 (if ¬ x = 0 then 19 else 16, L, st, M) o9 := pj_xs (s111_13)
theorem q111_16 : pj_row 111 16 = some (.bipush (-2), 2, 0, 0, 0) := by decide +kernel
theorem s111_16 {L : pj_Loc} {st : List Value} {M : pj_Mem}  : pj_step 111 (16, L, st, M) = some (18, L, .int (-2) :: st, M) := st_bipush q111_16 (by decide +kernel)
theorem x111_16 {L : pj_Loc} {st : List Value} {M : pj_Mem}  {o9 : Option Value × pj_Mem} : pj_Ends 111 (16, L, st, M) o9 = pj_Ends 111 (18, L, .int (-2) :: st, M) o9 := pj_xs (s111_16)
theorem q111_18 : pj_row 111 18 = some (.ireturn, 1, 0, 0, 0) := by decide +kernel
theorem t111_18 {L : pj_Loc} {M : pj_Mem} {v : Int32} : pj_Ends 111 (18, L, [.int v], M) (some (.int v), M) := pj_Ends.ret q111_18 (pj_rtn_i rt111)
theorem q111_19 : pj_row 111 19 = some (.aload_n 0, 1, 0, 0, 0) := by decide +kernel
theorem s111_19 {st : List Value} {M : pj_Mem} {l : pj_Loc} {x : Nat} : pj_step 111 (19, some (.ref x) :: l, st, M) = some (20, some (.ref x) :: l, .ref x :: st, M) := st_aload_n q111_19 rfl
theorem x111_19 {st : List Value} {M : pj_Mem} {l : pj_Loc} {x : Nat} {o9 : Option Value × pj_Mem} : pj_Ends 111 (19, some (.ref x) :: l, st, M) o9 = pj_Ends 111 (20, some (.ref x) :: l, .ref x :: st, M) o9 := pj_xs (s111_19)
theorem q111_20 : pj_row 111 20 = some (.invokevirtual 121, 3, 77, 1, 0) := by decide +kernel
theorem e111_20 {L : pj_Loc} {st : List Value} {N S : Nat} {H : pj_Heap} {o : Option Value × pj_Mem} {M' : pj_Mem} {x0 : Nat} (h4 : pj_le4 st = true) (hu : pj_isU 6 (H x0) = true) (h1 : pj_Ends 77 (0, [some (.ref x0), none], [], (N, S, H)) (none, M')) (h2 : pj_Ends 111 (23, L, st, M') o) : pj_Ends 111 (20, L, .ref x0 :: st, (N, S, H)) o := ec_v1 q111_20 (Or.inl rfl) h4 hu rfl h1 h2
theorem q111_23 : pj_row 111 23 = some (.iconst 0, 1, 0, 0, 0) := by decide +kernel
theorem s111_23 {L : pj_Loc} {st : List Value} {M : pj_Mem}  : pj_step 111 (23, L, st, M) = some (24, L, .int 0 :: st, M) := st_iconst q111_23 (by decide +kernel)
theorem x111_23 {L : pj_Loc} {st : List Value} {M : pj_Mem}  {o9 : Option Value × pj_Mem} : pj_Ends 111 (23, L, st, M) o9 = pj_Ends 111 (24, L, .int 0 :: st, M) o9 := pj_xs (s111_23)
theorem q111_24 : pj_row 111 24 = some (.istore_n 3, 1, 0, 0, 0) := by decide +kernel
theorem s111_24 {st : List Value} {M : pj_Mem} {l : pj_Loc} {a0 a1 a2 a3 : Option Value} {x : Int32} (h : pj_long a2 = false) : pj_step 111 (24, a0 :: a1 :: a2 :: a3 :: l, .int x :: st, M) = some (25, a0 :: a1 :: a2 :: some (.int x) :: l, st, M) := st_istore_n q111_24 (pj_st_3 h)
theorem x111_24 {st : List Value} {M : pj_Mem} {l : pj_Loc} {a0 a1 a2 a3 : Option Value} {x : Int32} (h : pj_long a2 = false) {o9 : Option Value × pj_Mem} : pj_Ends 111 (24, a0 :: a1 :: a2 :: a3 :: l, .int x :: st, M) o9 = pj_Ends 111 (25, a0 :: a1 :: a2 :: some (.int x) :: l, st, M) o9 := pj_xs (s111_24 h)
theorem q111_25 : pj_row 111 25 = some (.iload_n 3, 1, 0, 0, 0) := by decide +kernel
theorem s111_25 {st : List Value} {M : pj_Mem} {l : pj_Loc} {a0 a1 a2 : Option Value} {x : Int32} : pj_step 111 (25, a0 :: a1 :: a2 :: some (.int x) :: l, st, M) = some (26, a0 :: a1 :: a2 :: some (.int x) :: l, .int x :: st, M) := st_iload_n q111_25 rfl
theorem x111_25 {st : List Value} {M : pj_Mem} {l : pj_Loc} {a0 a1 a2 : Option Value} {x : Int32} {o9 : Option Value × pj_Mem} : pj_Ends 111 (25, a0 :: a1 :: a2 :: some (.int x) :: l, st, M) o9 = pj_Ends 111 (26, a0 :: a1 :: a2 :: some (.int x) :: l, .int x :: st, M) o9 := pj_xs (s111_25)
theorem q111_26 : pj_row 111 26 = some (.bipush 50, 2, 0, 0, 0) := by decide +kernel
theorem s111_26 {L : pj_Loc} {st : List Value} {M : pj_Mem}  : pj_step 111 (26, L, st, M) = some (28, L, .int 50 :: st, M) := st_bipush q111_26 (by decide +kernel)
theorem x111_26 {L : pj_Loc} {st : List Value} {M : pj_Mem}  {o9 : Option Value × pj_Mem} : pj_Ends 111 (26, L, st, M) o9 = pj_Ends 111 (28, L, .int 50 :: st, M) o9 := pj_xs (s111_26)
theorem q111_28 : pj_row 111 28 = some (.if_icmp .ge 35, 3, 63, 0, 0) := by decide +kernel
theorem s111_28 {L : pj_Loc} {st : List Value} {M : pj_Mem} {x y : Int32} : pj_step 111 (28, L, .int y :: .int x :: st, M) = some (if y ≤ x then 63 else 31, L, st, M) := st_icmp_ge q111_28
theorem x111_28 {L : pj_Loc} {st : List Value} {M : pj_Mem} {x y : Int32} {o9 : Option Value × pj_Mem} : pj_Ends 111 (28, L, .int y :: .int x :: st, M) o9 = pj_Ends 111 (if y ≤ x then 63 else 31, L, st, M) o9 := pj_xs (s111_28)
theorem q111_31 : pj_row 111 31 = some (.aload_n 0, 1, 0, 0, 0) := by decide +kernel
theorem s111_31 {st : List Value} {M : pj_Mem} {l : pj_Loc} {x : Nat} : pj_step 111 (31, some (.ref x) :: l, st, M) = some (32, some (.ref x) :: l, .ref x :: st, M) := st_aload_n q111_31 rfl
theorem x111_31 {st : List Value} {M : pj_Mem} {l : pj_Loc} {x : Nat} {o9 : Option Value × pj_Mem} : pj_Ends 111 (31, some (.ref x) :: l, st, M) o9 = pj_Ends 111 (32, some (.ref x) :: l, .ref x :: st, M) o9 := pj_xs (s111_31)
theorem q111_32 : pj_row 111 32 = some (.getfield 7, 3, 6, 0, 0) := by decide +kernel
theorem s111_32 {L : pj_Loc} {st : List Value} {N S : Nat} {H : pj_Heap} {o : Nat} : pj_step 111 (32, L, .ref o :: st, (N, S, H)) = pj_pv 35 L st (N, S, H) (pj_fld (H o) 6 0) := st_getfield q111_32
theorem x111_32 {L : pj_Loc} {st : List Value} {N S : Nat} {H : pj_Heap} {o : Nat} {o9 : Option Value × pj_Mem} : pj_Ends 111 (32, L, .ref o :: st, (N, S, H)) o9 = pj_then 111 o9 (pj_pv 35 L st (N, S, H) (pj_fld (H o) 6 0)) := pj_xt q111_32 rfl (pj_cl_nc rfl) (s111_32)
theorem q111_35 : pj_row 111 35 = some (.bipush 23, 2, 0, 0, 0) := by decide +kernel
theorem s111_35 {L : pj_Loc} {st : List Value} {M : pj_Mem}  : pj_step 111 (35, L, st, M) = some (37, L, .int 23 :: st, M) := st_bipush q111_35 (by decide +kernel)
theorem x111_35 {L : pj_Loc} {st : List Value} {M : pj_Mem}  {o9 : Option Value × pj_Mem} : pj_Ends 111 (35, L, st, M) o9 = pj_Ends 111 (37, L, .int 23 :: st, M) o9 := pj_xs (s111_35)
theorem q111_37 : pj_row 111 37 = some (.iload_n 1, 1, 0, 0, 0) := by decide +kernel
theorem s111_37 {st : List Value} {M : pj_Mem} {l : pj_Loc} {a0 : Option Value} {x : Int32} : pj_step 111 (37, a0 :: some (.int x) :: l, st, M) = some (38, a0 :: some (.int x) :: l, .int x :: st, M) := st_iload_n q111_37 rfl
theorem x111_37 {st : List Value} {M : pj_Mem} {l : pj_Loc} {a0 : Option Value} {x : Int32} {o9 : Option Value × pj_Mem} : pj_Ends 111 (37, a0 :: some (.int x) :: l, st, M) o9 = pj_Ends 111 (38, a0 :: some (.int x) :: l, .int x :: st, M) o9 := pj_xs (s111_37)
theorem q111_38 : pj_row 111 38 = some (.iadd, 1, 0, 0, 0) := by decide +kernel
theorem s111_38 {L : pj_Loc} {st : List Value} {M : pj_Mem} {x y : Int32} : pj_step 111 (38, L, .int y :: .int x :: st, M) = some (39, L, .int (x + y) :: st, M) := st_iadd q111_38
theorem x111_38 {L : pj_Loc} {st : List Value} {M : pj_Mem} {x y : Int32} {o9 : Option Value × pj_Mem} : pj_Ends 111 (38, L, .int y :: .int x :: st, M) o9 = pj_Ends 111 (39, L, .int (x + y) :: st, M) o9 := pj_xs (s111_38)
theorem q111_39 : pj_row 111 39 = some (.iaload, 1, 0, 0, 0) := by decide +kernel
theorem s111_39 {L : pj_Loc} {st : List Value} {N S : Nat} {H : pj_Heap} {o : Nat} {i : Int32} : pj_step 111 (39, L, .int i :: .ref o :: st, (N, S, H)) = pj_pi 40 L st (N, S, H) (pj_arl (H o) 0 i) := st_iaload q111_39
theorem x111_39 {L : pj_Loc} {st : List Value} {N S : Nat} {H : pj_Heap} {o : Nat} {i : Int32} {o9 : Option Value × pj_Mem} : pj_Ends 111 (39, L, .int i :: .ref o :: st, (N, S, H)) o9 = pj_then 111 o9 (pj_pi 40 L st (N, S, H) (pj_arl (H o) 0 i)) := pj_xt q111_39 rfl (pj_cl_nc rfl) (s111_39)
theorem q111_40 : pj_row 111 40 = some (.bipush (-6), 2, 0, 0, 0) := by decide +kernel
theorem s111_40 {L : pj_Loc} {st : List Value} {M : pj_Mem}  : pj_step 111 (40, L, st, M) = some (42, L, .int (-6) :: st, M) := st_bipush q111_40 (by decide +kernel)
theorem x111_40 {L : pj_Loc} {st : List Value} {M : pj_Mem}  {o9 : Option Value × pj_Mem} : pj_Ends 111 (40, L, st, M) o9 = pj_Ends 111 (42, L, .int (-6) :: st, M) o9 := pj_xs (s111_40)
theorem q111_42 : pj_row 111 42 = some (.if_icmp .ne 21, 3, 63, 0, 0) := by decide +kernel
theorem s111_42 {L : pj_Loc} {st : List Value} {M : pj_Mem} {x y : Int32} : pj_step 111 (42, L, .int y :: .int x :: st, M) = some (if ¬ x = y then 63 else 45, L, st, M) := st_icmp_ne q111_42
theorem x111_42 {L : pj_Loc} {st : List Value} {M : pj_Mem} {x y : Int32} {o9 : Option Value × pj_Mem} : pj_Ends 111 (42, L, .int y :: .int x :: st, M) o9 = pj_Ends 111 (if ¬ x = y then 63 else 45, L, st, M) o9 := pj_xs (s111_42)
theorem q111_45 : pj_row 111 45 = some (.aload_n 0, 1, 0, 0, 0) := by decide +kernel
theorem s111_45 {st : List Value} {M : pj_Mem} {l : pj_Loc} {x : Nat} : pj_step 111 (45, some (.ref x) :: l, st, M) = some (46, some (.ref x) :: l, .ref x :: st, M) := st_aload_n q111_45 rfl
theorem x111_45 {st : List Value} {M : pj_Mem} {l : pj_Loc} {x : Nat} {o9 : Option Value × pj_Mem} : pj_Ends 111 (45, some (.ref x) :: l, st, M) o9 = pj_Ends 111 (46, some (.ref x) :: l, .ref x :: st, M) o9 := pj_xs (s111_45)
theorem q111_46 : pj_row 111 46 = some (.iload_n 2, 1, 0, 0, 0) := by decide +kernel
theorem s111_46 {st : List Value} {M : pj_Mem} {l : pj_Loc} {a0 a1 : Option Value} {x : Int32} : pj_step 111 (46, a0 :: a1 :: some (.int x) :: l, st, M) = some (47, a0 :: a1 :: some (.int x) :: l, .int x :: st, M) := st_iload_n q111_46 rfl
theorem x111_46 {st : List Value} {M : pj_Mem} {l : pj_Loc} {a0 a1 : Option Value} {x : Int32} {o9 : Option Value × pj_Mem} : pj_Ends 111 (46, a0 :: a1 :: some (.int x) :: l, st, M) o9 = pj_Ends 111 (47, a0 :: a1 :: some (.int x) :: l, .int x :: st, M) o9 := pj_xs (s111_46)
theorem q111_47 : pj_row 111 47 = some (.iload_n 2, 1, 0, 0, 0) := by decide +kernel
theorem s111_47 {st : List Value} {M : pj_Mem} {l : pj_Loc} {a0 a1 : Option Value} {x : Int32} : pj_step 111 (47, a0 :: a1 :: some (.int x) :: l, st, M) = some (48, a0 :: a1 :: some (.int x) :: l, .int x :: st, M) := st_iload_n q111_47 rfl
theorem x111_47 {st : List Value} {M : pj_Mem} {l : pj_Loc} {a0 a1 : Option Value} {x : Int32} {o9 : Option Value × pj_Mem} : pj_Ends 111 (47, a0 :: a1 :: some (.int x) :: l, st, M) o9 = pj_Ends 111 (48, a0 :: a1 :: some (.int x) :: l, .int x :: st, M) o9 := pj_xs (s111_47)
theorem q111_48 : pj_row 111 48 = some (.iload_n 2, 1, 0, 0, 0) := by decide +kernel
theorem s111_48 {st : List Value} {M : pj_Mem} {l : pj_Loc} {a0 a1 : Option Value} {x : Int32} : pj_step 111 (48, a0 :: a1 :: some (.int x) :: l, st, M) = some (49, a0 :: a1 :: some (.int x) :: l, .int x :: st, M) := st_iload_n q111_48 rfl
theorem x111_48 {st : List Value} {M : pj_Mem} {l : pj_Loc} {a0 a1 : Option Value} {x : Int32} {o9 : Option Value × pj_Mem} : pj_Ends 111 (48, a0 :: a1 :: some (.int x) :: l, st, M) o9 = pj_Ends 111 (49, a0 :: a1 :: some (.int x) :: l, .int x :: st, M) o9 := pj_xs (s111_48)
theorem q111_49 : pj_row 111 49 = some (.invokevirtual 130, 3, 81, 4, 0) := by decide +kernel
theorem e111_49 {L : pj_Loc} {st : List Value} {N S : Nat} {H : pj_Heap} {o : Option Value × pj_Mem} {M' : pj_Mem} {x0 : Nat} {x1 : Int32} {x2 : Int32} {x3 : Int32} (h4 : pj_le4 st = true) (hu : pj_isU 6 (H x0) = true) (h1 : pj_Ends 81 (0, [some (.ref x0), some (.int x1), some (.int x2), some (.int x3)], [], (N, S, H)) (none, M')) (h2 : pj_Ends 111 (52, L, st, M') o) : pj_Ends 111 (49, L, .int x3 :: .int x2 :: .int x1 :: .ref x0 :: st, (N, S, H)) o := ec_v4 q111_49 (Or.inl rfl) h4 hu rfl h1 h2
theorem q111_52 : pj_row 111 52 = some (.aload_n 0, 1, 0, 0, 0) := by decide +kernel
theorem s111_52 {st : List Value} {M : pj_Mem} {l : pj_Loc} {x : Nat} : pj_step 111 (52, some (.ref x) :: l, st, M) = some (53, some (.ref x) :: l, .ref x :: st, M) := st_aload_n q111_52 rfl
theorem x111_52 {st : List Value} {M : pj_Mem} {l : pj_Loc} {x : Nat} {o9 : Option Value × pj_Mem} : pj_Ends 111 (52, some (.ref x) :: l, st, M) o9 = pj_Ends 111 (53, some (.ref x) :: l, .ref x :: st, M) o9 := pj_xs (s111_52)
theorem q111_53 : pj_row 111 53 = some (.iconst 1, 1, 0, 0, 0) := by decide +kernel
theorem s111_53 {L : pj_Loc} {st : List Value} {M : pj_Mem}  : pj_step 111 (53, L, st, M) = some (54, L, .int 1 :: st, M) := st_iconst q111_53 (by decide +kernel)
theorem x111_53 {L : pj_Loc} {st : List Value} {M : pj_Mem}  {o9 : Option Value × pj_Mem} : pj_Ends 111 (53, L, st, M) o9 = pj_Ends 111 (54, L, .int 1 :: st, M) o9 := pj_xs (s111_53)
theorem q111_54 : pj_row 111 54 = some (.invokevirtual 134, 3, 82, 2, 0) := by decide +kernel
theorem e111_54 {L : pj_Loc} {st : List Value} {N S : Nat} {H : pj_Heap} {o : Option Value × pj_Mem} {M' : pj_Mem} {x0 : Nat} {x1 : Int32} (h4 : pj_le4 st = true) (hu : pj_isU 6 (H x0) = true) (h1 : pj_Ends 82 (0, [some (.ref x0), some (.int x1)], [], (N, S, H)) (none, M')) (h2 : pj_Ends 111 (57, L, st, M') o) : pj_Ends 111 (54, L, .int x1 :: .ref x0 :: st, (N, S, H)) o := ec_v2 q111_54 (Or.inl rfl) h4 hu rfl h1 h2
theorem q111_57 : pj_row 111 57 = some (.iinc 3 1, 3, 0, 0, 0) := by decide +kernel
theorem s111_57 {st : List Value} {M : pj_Mem} {l : pj_Loc} {a0 a1 a2 : Option Value} {x : Int32} (h : pj_long a2 = false) : pj_step 111 (57, a0 :: a1 :: a2 :: some (.int x) :: l, st, M) = some (60, a0 :: a1 :: a2 :: some (.int (x + 1)) :: l, st, M) := st_iinc q111_57 rfl (congrArg (fun y => x + y) (show Int32.ofInt 1 = 1 by decide +kernel)) (pj_st_3 h)
theorem x111_57 {st : List Value} {M : pj_Mem} {l : pj_Loc} {a0 a1 a2 : Option Value} {x : Int32} (h : pj_long a2 = false) {o9 : Option Value × pj_Mem} : pj_Ends 111 (57, a0 :: a1 :: a2 :: some (.int x) :: l, st, M) o9 = pj_Ends 111 (60, a0 :: a1 :: a2 :: some (.int (x + 1)) :: l, st, M) o9 := pj_xs (s111_57 h)
theorem q111_60 : pj_row 111 60 = some (.goto (-35), 3, 25, 0, 0) := by decide +kernel
theorem s111_60 {L : pj_Loc} {st : List Value} {M : pj_Mem}  : pj_step 111 (60, L, st, M) = some (25, L, st, M) := st_goto q111_60
theorem x111_60 {L : pj_Loc} {st : List Value} {M : pj_Mem}  {o9 : Option Value × pj_Mem} : pj_Ends 111 (60, L, st, M) o9 = pj_Ends 111 (25, L, st, M) o9 := pj_xs (s111_60)
theorem q111_63 : pj_row 111 63 = some (.aload_n 0, 1, 0, 0, 0) := by decide +kernel
theorem s111_63 {st : List Value} {M : pj_Mem} {l : pj_Loc} {x : Nat} : pj_step 111 (63, some (.ref x) :: l, st, M) = some (64, some (.ref x) :: l, .ref x :: st, M) := st_aload_n q111_63 rfl
theorem x111_63 {st : List Value} {M : pj_Mem} {l : pj_Loc} {x : Nat} {o9 : Option Value × pj_Mem} : pj_Ends 111 (63, some (.ref x) :: l, st, M) o9 = pj_Ends 111 (64, some (.ref x) :: l, .ref x :: st, M) o9 := pj_xs (s111_63)
theorem q111_64 : pj_row 111 64 = some (.getfield 7, 3, 6, 0, 0) := by decide +kernel
theorem s111_64 {L : pj_Loc} {st : List Value} {N S : Nat} {H : pj_Heap} {o : Nat} : pj_step 111 (64, L, .ref o :: st, (N, S, H)) = pj_pv 67 L st (N, S, H) (pj_fld (H o) 6 0) := st_getfield q111_64
theorem x111_64 {L : pj_Loc} {st : List Value} {N S : Nat} {H : pj_Heap} {o : Nat} {o9 : Option Value × pj_Mem} : pj_Ends 111 (64, L, .ref o :: st, (N, S, H)) o9 = pj_then 111 o9 (pj_pv 67 L st (N, S, H) (pj_fld (H o) 6 0)) := pj_xt q111_64 rfl (pj_cl_nc rfl) (s111_64)
theorem q111_67 : pj_row 111 67 = some (.bipush 23, 2, 0, 0, 0) := by decide +kernel
theorem s111_67 {L : pj_Loc} {st : List Value} {M : pj_Mem}  : pj_step 111 (67, L, st, M) = some (69, L, .int 23 :: st, M) := st_bipush q111_67 (by decide +kernel)
theorem x111_67 {L : pj_Loc} {st : List Value} {M : pj_Mem}  {o9 : Option Value × pj_Mem} : pj_Ends 111 (67, L, st, M) o9 = pj_Ends 111 (69, L, .int 23 :: st, M) o9 := pj_xs (s111_67)
theorem q111_69 : pj_row 111 69 = some (.iload_n 1, 1, 0, 0, 0) := by decide +kernel
theorem s111_69 {st : List Value} {M : pj_Mem} {l : pj_Loc} {a0 : Option Value} {x : Int32} : pj_step 111 (69, a0 :: some (.int x) :: l, st, M) = some (70, a0 :: some (.int x) :: l, .int x :: st, M) := st_iload_n q111_69 rfl
theorem x111_69 {st : List Value} {M : pj_Mem} {l : pj_Loc} {a0 : Option Value} {x : Int32} {o9 : Option Value × pj_Mem} : pj_Ends 111 (69, a0 :: some (.int x) :: l, st, M) o9 = pj_Ends 111 (70, a0 :: some (.int x) :: l, .int x :: st, M) o9 := pj_xs (s111_69)
theorem q111_70 : pj_row 111 70 = some (.iadd, 1, 0, 0, 0) := by decide +kernel
theorem s111_70 {L : pj_Loc} {st : List Value} {M : pj_Mem} {x y : Int32} : pj_step 111 (70, L, .int y :: .int x :: st, M) = some (71, L, .int (x + y) :: st, M) := st_iadd q111_70
theorem x111_70 {L : pj_Loc} {st : List Value} {M : pj_Mem} {x y : Int32} {o9 : Option Value × pj_Mem} : pj_Ends 111 (70, L, .int y :: .int x :: st, M) o9 = pj_Ends 111 (71, L, .int (x + y) :: st, M) o9 := pj_xs (s111_70)
theorem q111_71 : pj_row 111 71 = some (.iaload, 1, 0, 0, 0) := by decide +kernel
theorem s111_71 {L : pj_Loc} {st : List Value} {N S : Nat} {H : pj_Heap} {o : Nat} {i : Int32} : pj_step 111 (71, L, .int i :: .ref o :: st, (N, S, H)) = pj_pi 72 L st (N, S, H) (pj_arl (H o) 0 i) := st_iaload q111_71
theorem x111_71 {L : pj_Loc} {st : List Value} {N S : Nat} {H : pj_Heap} {o : Nat} {i : Int32} {o9 : Option Value × pj_Mem} : pj_Ends 111 (71, L, .int i :: .ref o :: st, (N, S, H)) o9 = pj_then 111 o9 (pj_pi 72 L st (N, S, H) (pj_arl (H o) 0 i)) := pj_xt q111_71 rfl (pj_cl_nc rfl) (s111_71)
theorem q111_72 : pj_row 111 72 = some (.bipush (-6), 2, 0, 0, 0) := by decide +kernel
theorem s111_72 {L : pj_Loc} {st : List Value} {M : pj_Mem}  : pj_step 111 (72, L, st, M) = some (74, L, .int (-6) :: st, M) := st_bipush q111_72 (by decide +kernel)
theorem x111_72 {L : pj_Loc} {st : List Value} {M : pj_Mem}  {o9 : Option Value × pj_Mem} : pj_Ends 111 (72, L, st, M) o9 = pj_Ends 111 (74, L, .int (-6) :: st, M) o9 := pj_xs (s111_72)
theorem q111_74 : pj_row 111 74 = some (.if_icmp .eq 7, 3, 81, 0, 0) := by decide +kernel
theorem s111_74 {L : pj_Loc} {st : List Value} {M : pj_Mem} {x y : Int32} : pj_step 111 (74, L, .int y :: .int x :: st, M) = some (if x = y then 81 else 77, L, st, M) := st_icmp_eq q111_74
theorem x111_74 {L : pj_Loc} {st : List Value} {M : pj_Mem} {x y : Int32} {o9 : Option Value × pj_Mem} : pj_Ends 111 (74, L, .int y :: .int x :: st, M) o9 = pj_Ends 111 (if x = y then 81 else 77, L, st, M) o9 := pj_xs (s111_74)
theorem q111_77 : pj_row 111 77 = some (.iconst 1, 1, 0, 0, 0) := by decide +kernel
theorem s111_77 {L : pj_Loc} {st : List Value} {M : pj_Mem}  : pj_step 111 (77, L, st, M) = some (78, L, .int 1 :: st, M) := st_iconst q111_77 (by decide +kernel)
theorem x111_77 {L : pj_Loc} {st : List Value} {M : pj_Mem}  {o9 : Option Value × pj_Mem} : pj_Ends 111 (77, L, st, M) o9 = pj_Ends 111 (78, L, .int 1 :: st, M) o9 := pj_xs (s111_77)
theorem q111_78 : pj_row 111 78 = some (.goto 4, 3, 82, 0, 0) := by decide +kernel
theorem s111_78 {L : pj_Loc} {st : List Value} {M : pj_Mem}  : pj_step 111 (78, L, st, M) = some (82, L, st, M) := st_goto q111_78
theorem x111_78 {L : pj_Loc} {st : List Value} {M : pj_Mem}  {o9 : Option Value × pj_Mem} : pj_Ends 111 (78, L, st, M) o9 = pj_Ends 111 (82, L, st, M) o9 := pj_xs (s111_78)
theorem q111_81 : pj_row 111 81 = some (.iconst 0, 1, 0, 0, 0) := by decide +kernel
theorem s111_81 {L : pj_Loc} {st : List Value} {M : pj_Mem}  : pj_step 111 (81, L, st, M) = some (82, L, .int 0 :: st, M) := st_iconst q111_81 (by decide +kernel)
theorem x111_81 {L : pj_Loc} {st : List Value} {M : pj_Mem}  {o9 : Option Value × pj_Mem} : pj_Ends 111 (81, L, st, M) o9 = pj_Ends 111 (82, L, .int 0 :: st, M) o9 := pj_xs (s111_81)
theorem q111_82 : pj_row 111 82 = some (.istore 4, 2, 0, 0, 0) := by decide +kernel
theorem s111_82 {st : List Value} {M : pj_Mem} {l : pj_Loc} {a0 a1 a2 a3 a4 : Option Value} {x : Int32} (h : pj_long a3 = false) : pj_step 111 (82, a0 :: a1 :: a2 :: a3 :: a4 :: l, .int x :: st, M) = some (84, a0 :: a1 :: a2 :: a3 :: some (.int x) :: l, st, M) := st_istore q111_82 (pj_st_4 h)
theorem x111_82 {st : List Value} {M : pj_Mem} {l : pj_Loc} {a0 a1 a2 a3 a4 : Option Value} {x : Int32} (h : pj_long a3 = false) {o9 : Option Value × pj_Mem} : pj_Ends 111 (82, a0 :: a1 :: a2 :: a3 :: a4 :: l, .int x :: st, M) o9 = pj_Ends 111 (84, a0 :: a1 :: a2 :: a3 :: some (.int x) :: l, st, M) o9 := pj_xs (s111_82 h)
theorem q111_84 : pj_row 111 84 = some (.aload_n 0, 1, 0, 0, 0) := by decide +kernel
theorem s111_84 {st : List Value} {M : pj_Mem} {l : pj_Loc} {x : Nat} : pj_step 111 (84, some (.ref x) :: l, st, M) = some (85, some (.ref x) :: l, .ref x :: st, M) := st_aload_n q111_84 rfl
theorem x111_84 {st : List Value} {M : pj_Mem} {l : pj_Loc} {x : Nat} {o9 : Option Value × pj_Mem} : pj_Ends 111 (84, some (.ref x) :: l, st, M) o9 = pj_Ends 111 (85, some (.ref x) :: l, .ref x :: st, M) o9 := pj_xs (s111_84)
theorem q111_85 : pj_row 111 85 = some (.invokevirtual 157, 3, 109, 1, 0) := by decide +kernel
theorem e111_85 {L : pj_Loc} {st : List Value} {N S : Nat} {H : pj_Heap} {o : Option Value × pj_Mem} {M' : pj_Mem} {x0 : Nat} (h4 : pj_le4 st = true) (hu : pj_isU 6 (H x0) = true) (h1 : pj_Ends 109 (0, [some (.ref x0), none], [], (N, S, H)) (none, M')) (h2 : pj_Ends 111 (88, L, st, M') o) : pj_Ends 111 (85, L, .ref x0 :: st, (N, S, H)) o := ec_v1 q111_85 (Or.inl rfl) h4 hu rfl h1 h2
theorem q111_88 : pj_row 111 88 = some (.iload 4, 2, 0, 0, 0) := by decide +kernel
theorem s111_88 {st : List Value} {M : pj_Mem} {l : pj_Loc} {a0 a1 a2 a3 : Option Value} {x : Int32} : pj_step 111 (88, a0 :: a1 :: a2 :: a3 :: some (.int x) :: l, st, M) = some (90, a0 :: a1 :: a2 :: a3 :: some (.int x) :: l, .int x :: st, M) := st_iload q111_88 rfl
theorem x111_88 {st : List Value} {M : pj_Mem} {l : pj_Loc} {a0 a1 a2 a3 : Option Value} {x : Int32} {o9 : Option Value × pj_Mem} : pj_Ends 111 (88, a0 :: a1 :: a2 :: a3 :: some (.int x) :: l, st, M) o9 = pj_Ends 111 (90, a0 :: a1 :: a2 :: a3 :: some (.int x) :: l, .int x :: st, M) o9 := pj_xs (s111_88)
theorem q111_90 : pj_row 111 90 = some (.ifCond .eq 7, 3, 97, 0, 0) := by decide +kernel
theorem s111_90 {L : pj_Loc} {st : List Value} {M : pj_Mem} {x : Int32} : pj_step 111 (90, L, .int x :: st, M) = some (if x = 0 then 97 else 93, L, st, M) := st_if_eq q111_90
theorem x111_90 {L : pj_Loc} {st : List Value} {M : pj_Mem} {x : Int32} {o9 : Option Value × pj_Mem} : pj_Ends 111 (90, L, .int x :: st, M) o9 = pj_Ends 111 (if x = 0 then 97 else 93, L, st, M) o9 := pj_xs (s111_90)
theorem q111_93 : pj_row 111 93 = some (.iload_n 3, 1, 0, 0, 0) := by decide +kernel
theorem s111_93 {st : List Value} {M : pj_Mem} {l : pj_Loc} {a0 a1 a2 : Option Value} {x : Int32} : pj_step 111 (93, a0 :: a1 :: a2 :: some (.int x) :: l, st, M) = some (94, a0 :: a1 :: a2 :: some (.int x) :: l, .int x :: st, M) := st_iload_n q111_93 rfl
theorem x111_93 {st : List Value} {M : pj_Mem} {l : pj_Loc} {a0 a1 a2 : Option Value} {x : Int32} {o9 : Option Value × pj_Mem} : pj_Ends 111 (93, a0 :: a1 :: a2 :: some (.int x) :: l, st, M) o9 = pj_Ends 111 (94, a0 :: a1 :: a2 :: some (.int x) :: l, .int x :: st, M) o9 := pj_xs (s111_93)
theorem q111_94 : pj_row 111 94 = some (.goto 5, 3, 99, 0, 0) := by decide +kernel
theorem s111_94 {L : pj_Loc} {st : List Value} {M : pj_Mem}  : pj_step 111 (94, L, st, M) = some (99, L, st, M) := st_goto q111_94
theorem x111_94 {L : pj_Loc} {st : List Value} {M : pj_Mem}  {o9 : Option Value × pj_Mem} : pj_Ends 111 (94, L, st, M) o9 = pj_Ends 111 (99, L, st, M) o9 := pj_xs (s111_94)
theorem q111_97 : pj_row 111 97 = some (.bipush (-6), 2, 0, 0, 0) := by decide +kernel
theorem s111_97 {L : pj_Loc} {st : List Value} {M : pj_Mem}  : pj_step 111 (97, L, st, M) = some (99, L, .int (-6) :: st, M) := st_bipush q111_97 (by decide +kernel)
theorem x111_97 {L : pj_Loc} {st : List Value} {M : pj_Mem}  {o9 : Option Value × pj_Mem} : pj_Ends 111 (97, L, st, M) o9 = pj_Ends 111 (99, L, .int (-6) :: st, M) o9 := pj_xs (s111_97)
theorem q111_99 : pj_row 111 99 = some (.ireturn, 1, 0, 0, 0) := by decide +kernel
theorem t111_99 {L : pj_Loc} {M : pj_Mem} {v : Int32} : pj_Ends 111 (99, L, [.int v], M) (some (.int v), M) := pj_Ends.ret q111_99 (pj_rtn_i rt111)
theorem rt112 : pj_rt 112 = some .int := rfl
theorem q112_0 : pj_row 112 0 = some (.iconst 0, 1, 0, 0, 0) := by decide +kernel
theorem s112_0 {L : pj_Loc} {st : List Value} {M : pj_Mem}  : pj_step 112 (0, L, st, M) = some (1, L, .int 0 :: st, M) := st_iconst q112_0 (by decide +kernel)
theorem x112_0 {L : pj_Loc} {st : List Value} {M : pj_Mem}  {o9 : Option Value × pj_Mem} : pj_Ends 112 (0, L, st, M) o9 = pj_Ends 112 (1, L, .int 0 :: st, M) o9 := pj_xs (s112_0)
theorem q112_1 : pj_row 112 1 = some (.istore_n 3, 1, 0, 0, 0) := by decide +kernel
theorem s112_1 {st : List Value} {M : pj_Mem} {l : pj_Loc} {a0 a1 a2 a3 : Option Value} {x : Int32} (h : pj_long a2 = false) : pj_step 112 (1, a0 :: a1 :: a2 :: a3 :: l, .int x :: st, M) = some (2, a0 :: a1 :: a2 :: some (.int x) :: l, st, M) := st_istore_n q112_1 (pj_st_3 h)
theorem x112_1 {st : List Value} {M : pj_Mem} {l : pj_Loc} {a0 a1 a2 a3 : Option Value} {x : Int32} (h : pj_long a2 = false) {o9 : Option Value × pj_Mem} : pj_Ends 112 (1, a0 :: a1 :: a2 :: a3 :: l, .int x :: st, M) o9 = pj_Ends 112 (2, a0 :: a1 :: a2 :: some (.int x) :: l, st, M) o9 := pj_xs (s112_1 h)
theorem q112_2 : pj_row 112 2 = some (.iconst 1, 1, 0, 0, 0) := by decide +kernel
theorem s112_2 {L : pj_Loc} {st : List Value} {M : pj_Mem}  : pj_step 112 (2, L, st, M) = some (3, L, .int 1 :: st, M) := st_iconst q112_2 (by decide +kernel)
theorem x112_2 {L : pj_Loc} {st : List Value} {M : pj_Mem}  {o9 : Option Value × pj_Mem} : pj_Ends 112 (2, L, st, M) o9 = pj_Ends 112 (3, L, .int 1 :: st, M) o9 := pj_xs (s112_2)
theorem q112_3 : pj_row 112 3 = some (.istore 4, 2, 0, 0, 0) := by decide +kernel
theorem s112_3 {st : List Value} {M : pj_Mem} {l : pj_Loc} {a0 a1 a2 a3 a4 : Option Value} {x : Int32} (h : pj_long a3 = false) : pj_step 112 (3, a0 :: a1 :: a2 :: a3 :: a4 :: l, .int x :: st, M) = some (5, a0 :: a1 :: a2 :: a3 :: some (.int x) :: l, st, M) := st_istore q112_3 (pj_st_4 h)
theorem x112_3 {st : List Value} {M : pj_Mem} {l : pj_Loc} {a0 a1 a2 a3 a4 : Option Value} {x : Int32} (h : pj_long a3 = false) {o9 : Option Value × pj_Mem} : pj_Ends 112 (3, a0 :: a1 :: a2 :: a3 :: a4 :: l, .int x :: st, M) o9 = pj_Ends 112 (5, a0 :: a1 :: a2 :: a3 :: some (.int x) :: l, st, M) o9 := pj_xs (s112_3 h)
theorem q112_5 : pj_row 112 5 = some (.lload_n 1, 1, 0, 0, 0) := by decide +kernel
theorem s112_5 {st : List Value} {M : pj_Mem} {l : pj_Loc} {a0 : Option Value} {x : Int64} : pj_step 112 (5, a0 :: some (.long x) :: l, st, M) = some (6, a0 :: some (.long x) :: l, .long x :: st, M) := st_lload_n q112_5 rfl
theorem x112_5 {st : List Value} {M : pj_Mem} {l : pj_Loc} {a0 : Option Value} {x : Int64} {o9 : Option Value × pj_Mem} : pj_Ends 112 (5, a0 :: some (.long x) :: l, st, M) o9 = pj_Ends 112 (6, a0 :: some (.long x) :: l, .long x :: st, M) o9 := pj_xs (s112_5)
theorem q112_6 : pj_row 112 6 = some (.lstore 5, 2, 0, 0, 0) := by decide +kernel
theorem s112_6 {st : List Value} {M : pj_Mem} {l : pj_Loc} {a0 a1 a2 a3 a4 a5 a6 : Option Value} {x : Int64} (h : pj_long a4 = false) : pj_step 112 (6, a0 :: a1 :: a2 :: a3 :: a4 :: a5 :: a6 :: l, .long x :: st, M) = some (8, a0 :: a1 :: a2 :: a3 :: a4 :: some (.long x) :: none :: l, st, M) := st_lstore q112_6 (pj_stl_5 h)
theorem x112_6 {st : List Value} {M : pj_Mem} {l : pj_Loc} {a0 a1 a2 a3 a4 a5 a6 : Option Value} {x : Int64} (h : pj_long a4 = false) {o9 : Option Value × pj_Mem} : pj_Ends 112 (6, a0 :: a1 :: a2 :: a3 :: a4 :: a5 :: a6 :: l, .long x :: st, M) o9 = pj_Ends 112 (8, a0 :: a1 :: a2 :: a3 :: a4 :: some (.long x) :: none :: l, st, M) o9 := pj_xs (s112_6 h)
theorem q112_8 : pj_row 112 8 = some (.iload_n 3, 1, 0, 0, 0) := by decide +kernel
theorem s112_8 {st : List Value} {M : pj_Mem} {l : pj_Loc} {a0 a1 a2 : Option Value} {x : Int32} : pj_step 112 (8, a0 :: a1 :: a2 :: some (.int x) :: l, st, M) = some (9, a0 :: a1 :: a2 :: some (.int x) :: l, .int x :: st, M) := st_iload_n q112_8 rfl
theorem x112_8 {st : List Value} {M : pj_Mem} {l : pj_Loc} {a0 a1 a2 : Option Value} {x : Int32} {o9 : Option Value × pj_Mem} : pj_Ends 112 (8, a0 :: a1 :: a2 :: some (.int x) :: l, st, M) o9 = pj_Ends 112 (9, a0 :: a1 :: a2 :: some (.int x) :: l, .int x :: st, M) o9 := pj_xs (s112_8)
theorem q112_9 : pj_row 112 9 = some (.bipush 8, 2, 0, 0, 0) := by decide +kernel
theorem s112_9 {L : pj_Loc} {st : List Value} {M : pj_Mem}  : pj_step 112 (9, L, st, M) = some (11, L, .int 8 :: st, M) := st_bipush q112_9 (by decide +kernel)
theorem x112_9 {L : pj_Loc} {st : List Value} {M : pj_Mem}  {o9 : Option Value × pj_Mem} : pj_Ends 112 (9, L, st, M) o9 = pj_Ends 112 (11, L, .int 8 :: st, M) o9 := pj_xs (s112_9)
theorem q112_11 : pj_row 112 11 = some (.if_icmp .ge 57, 3, 68, 0, 0) := by decide +kernel
theorem s112_11 {L : pj_Loc} {st : List Value} {M : pj_Mem} {x y : Int32} : pj_step 112 (11, L, .int y :: .int x :: st, M) = some (if y ≤ x then 68 else 14, L, st, M) := st_icmp_ge q112_11
theorem x112_11 {L : pj_Loc} {st : List Value} {M : pj_Mem} {x y : Int32} {o9 : Option Value × pj_Mem} : pj_Ends 112 (11, L, .int y :: .int x :: st, M) o9 = pj_Ends 112 (if y ≤ x then 68 else 14, L, st, M) o9 := pj_xs (s112_11)
theorem q112_14 : pj_row 112 14 = some (.lload 5, 2, 0, 0, 0) := by decide +kernel
theorem s112_14 {st : List Value} {M : pj_Mem} {l : pj_Loc} {a0 a1 a2 a3 a4 : Option Value} {x : Int64} : pj_step 112 (14, a0 :: a1 :: a2 :: a3 :: a4 :: some (.long x) :: l, st, M) = some (16, a0 :: a1 :: a2 :: a3 :: a4 :: some (.long x) :: l, .long x :: st, M) := st_lload q112_14 rfl
theorem x112_14 {st : List Value} {M : pj_Mem} {l : pj_Loc} {a0 a1 a2 a3 a4 : Option Value} {x : Int64} {o9 : Option Value × pj_Mem} : pj_Ends 112 (14, a0 :: a1 :: a2 :: a3 :: a4 :: some (.long x) :: l, st, M) o9 = pj_Ends 112 (16, a0 :: a1 :: a2 :: a3 :: a4 :: some (.long x) :: l, .long x :: st, M) o9 := pj_xs (s112_14)
theorem q112_16 : pj_row 112 16 = some (.ldc2_w 164, 3, 0, 0, 255) := by decide +kernel
theorem s112_16 {L : pj_Loc} {st : List Value} {M : pj_Mem}  : pj_step 112 (16, L, st, M) = some (19, L, .long 255 :: st, M) := st_ldc2_w q112_16 (by decide +kernel)
theorem x112_16 {L : pj_Loc} {st : List Value} {M : pj_Mem}  {o9 : Option Value × pj_Mem} : pj_Ends 112 (16, L, st, M) o9 = pj_Ends 112 (19, L, .long 255 :: st, M) o9 := pj_xs (s112_16)
theorem q112_19 : pj_row 112 19 = some (.land, 1, 0, 0, 0) := by decide +kernel
theorem s112_19 {L : pj_Loc} {st : List Value} {M : pj_Mem} {x y : Int64} : pj_step 112 (19, L, .long y :: .long x :: st, M) = some (20, L, .long (x &&& y) :: st, M) := st_land q112_19
theorem x112_19 {L : pj_Loc} {st : List Value} {M : pj_Mem} {x y : Int64} {o9 : Option Value × pj_Mem} : pj_Ends 112 (19, L, .long y :: .long x :: st, M) o9 = pj_Ends 112 (20, L, .long (x &&& y) :: st, M) o9 := pj_xs (s112_19)
theorem q112_20 : pj_row 112 20 = some (.lconst 0, 1, 0, 0, 0) := by decide +kernel
theorem s112_20 {L : pj_Loc} {st : List Value} {M : pj_Mem}  : pj_step 112 (20, L, st, M) = some (21, L, .long 0 :: st, M) := st_lconst q112_20 (by decide +kernel)
theorem x112_20 {L : pj_Loc} {st : List Value} {M : pj_Mem}  {o9 : Option Value × pj_Mem} : pj_Ends 112 (20, L, st, M) o9 = pj_Ends 112 (21, L, .long 0 :: st, M) o9 := pj_xs (s112_20)
theorem q112_21 : pj_row 112 21 = some (.lcmp, 1, 0, 0, 0) := by decide +kernel
theorem s112_21 {L : pj_Loc} {st : List Value} {M : pj_Mem} {x y : Int64} : pj_step 112 (21, L, .long y :: .long x :: st, M) = some (22, L, .int (lg_cmp x y) :: st, M) := st_lcmp q112_21
theorem x112_21 {L : pj_Loc} {st : List Value} {M : pj_Mem} {x y : Int64} {o9 : Option Value × pj_Mem} : pj_Ends 112 (21, L, .long y :: .long x :: st, M) o9 = pj_Ends 112 (22, L, .int (lg_cmp x y) :: st, M) o9 := pj_xs (s112_21)
theorem q112_22 : pj_row 112 22 = some (.ifCond .eq 46, 3, 68, 0, 0) := by decide +kernel
theorem s112_22 {L : pj_Loc} {st : List Value} {M : pj_Mem} {x : Int32} : pj_step 112 (22, L, .int x :: st, M) = some (if x = 0 then 68 else 25, L, st, M) := st_if_eq q112_22
theorem x112_22 {L : pj_Loc} {st : List Value} {M : pj_Mem} {x : Int32} {o9 : Option Value × pj_Mem} : pj_Ends 112 (22, L, .int x :: st, M) o9 = pj_Ends 112 (if x = 0 then 68 else 25, L, st, M) o9 := pj_xs (s112_22)
theorem q112_25 : pj_row 112 25 = some (.iload 4, 2, 0, 0, 0) := by decide +kernel
theorem s112_25 {st : List Value} {M : pj_Mem} {l : pj_Loc} {a0 a1 a2 a3 : Option Value} {x : Int32} : pj_step 112 (25, a0 :: a1 :: a2 :: a3 :: some (.int x) :: l, st, M) = some (27, a0 :: a1 :: a2 :: a3 :: some (.int x) :: l, .int x :: st, M) := st_iload q112_25 rfl
theorem x112_25 {st : List Value} {M : pj_Mem} {l : pj_Loc} {a0 a1 a2 a3 : Option Value} {x : Int32} {o9 : Option Value × pj_Mem} : pj_Ends 112 (25, a0 :: a1 :: a2 :: a3 :: some (.int x) :: l, st, M) o9 = pj_Ends 112 (27, a0 :: a1 :: a2 :: a3 :: some (.int x) :: l, .int x :: st, M) o9 := pj_xs (s112_25)
theorem q112_27 : pj_row 112 27 = some (.ifCond .eq 25, 3, 52, 0, 0) := by decide +kernel
theorem s112_27 {L : pj_Loc} {st : List Value} {M : pj_Mem} {x : Int32} : pj_step 112 (27, L, .int x :: st, M) = some (if x = 0 then 52 else 30, L, st, M) := st_if_eq q112_27
theorem x112_27 {L : pj_Loc} {st : List Value} {M : pj_Mem} {x : Int32} {o9 : Option Value × pj_Mem} : pj_Ends 112 (27, L, .int x :: st, M) o9 = pj_Ends 112 (if x = 0 then 52 else 30, L, st, M) o9 := pj_xs (s112_27)
theorem q112_30 : pj_row 112 30 = some (.lload 5, 2, 0, 0, 0) := by decide +kernel
theorem s112_30 {st : List Value} {M : pj_Mem} {l : pj_Loc} {a0 a1 a2 a3 a4 : Option Value} {x : Int64} : pj_step 112 (30, a0 :: a1 :: a2 :: a3 :: a4 :: some (.long x) :: l, st, M) = some (32, a0 :: a1 :: a2 :: a3 :: a4 :: some (.long x) :: l, .long x :: st, M) := st_lload q112_30 rfl
theorem x112_30 {st : List Value} {M : pj_Mem} {l : pj_Loc} {a0 a1 a2 a3 a4 : Option Value} {x : Int64} {o9 : Option Value × pj_Mem} : pj_Ends 112 (30, a0 :: a1 :: a2 :: a3 :: a4 :: some (.long x) :: l, st, M) o9 = pj_Ends 112 (32, a0 :: a1 :: a2 :: a3 :: a4 :: some (.long x) :: l, .long x :: st, M) o9 := pj_xs (s112_30)
theorem q112_32 : pj_row 112 32 = some (.ldc2_w 164, 3, 0, 0, 255) := by decide +kernel
theorem s112_32 {L : pj_Loc} {st : List Value} {M : pj_Mem}  : pj_step 112 (32, L, st, M) = some (35, L, .long 255 :: st, M) := st_ldc2_w q112_32 (by decide +kernel)
theorem x112_32 {L : pj_Loc} {st : List Value} {M : pj_Mem}  {o9 : Option Value × pj_Mem} : pj_Ends 112 (32, L, st, M) o9 = pj_Ends 112 (35, L, .long 255 :: st, M) o9 := pj_xs (s112_32)
theorem q112_35 : pj_row 112 35 = some (.land, 1, 0, 0, 0) := by decide +kernel
theorem s112_35 {L : pj_Loc} {st : List Value} {M : pj_Mem} {x y : Int64} : pj_step 112 (35, L, .long y :: .long x :: st, M) = some (36, L, .long (x &&& y) :: st, M) := st_land q112_35
theorem x112_35 {L : pj_Loc} {st : List Value} {M : pj_Mem} {x y : Int64} {o9 : Option Value × pj_Mem} : pj_Ends 112 (35, L, .long y :: .long x :: st, M) o9 = pj_Ends 112 (36, L, .long (x &&& y) :: st, M) o9 := pj_xs (s112_35)
theorem q112_36 : pj_row 112 36 = some (.ldc2_w 166, 3, 0, 0, 33) := by decide +kernel
theorem s112_36 {L : pj_Loc} {st : List Value} {M : pj_Mem}  : pj_step 112 (36, L, st, M) = some (39, L, .long 33 :: st, M) := st_ldc2_w q112_36 (by decide +kernel)
theorem x112_36 {L : pj_Loc} {st : List Value} {M : pj_Mem}  {o9 : Option Value × pj_Mem} : pj_Ends 112 (36, L, st, M) o9 = pj_Ends 112 (39, L, .long 33 :: st, M) o9 := pj_xs (s112_36)
theorem q112_39 : pj_row 112 39 = some (.ldc2_w 168, 3, 0, 0, 126) := by decide +kernel
theorem s112_39 {L : pj_Loc} {st : List Value} {M : pj_Mem}  : pj_step 112 (39, L, st, M) = some (42, L, .long 126 :: st, M) := st_ldc2_w q112_39 (by decide +kernel)
theorem x112_39 {L : pj_Loc} {st : List Value} {M : pj_Mem}  {o9 : Option Value × pj_Mem} : pj_Ends 112 (39, L, st, M) o9 = pj_Ends 112 (42, L, .long 126 :: st, M) o9 := pj_xs (s112_39)
theorem q112_42 : pj_row 112 42 = some (.invokestatic 42, 3, 76, 3, 0) := by decide +kernel
theorem e112_42 {L : pj_Loc} {st : List Value} {N S : Nat} {H : pj_Heap} {o : Option Value × pj_Mem} {M' : pj_Mem} {x0 : Int64} {x1 : Int64} {x2 : Int64} {r : Int32} (h4 : pj_le4 st = true) (h1 : pj_Ends 76 (0, [some (.long x0), none, some (.long x1), none, some (.long x2), none], [], (N, S, H)) (some (.int r), M')) (h2 : pj_Ends 112 (45, L, .int r :: st, M') o) : pj_Ends 112 (42, L, .long x2 :: .long x1 :: .long x0 :: st, (N, S, H)) o := ec_s3 q112_42 (Or.inl rfl) h4 rfl h1 h2
theorem q112_45 : pj_row 112 45 = some (.ifCond .eq 7, 3, 52, 0, 0) := by decide +kernel
theorem s112_45 {L : pj_Loc} {st : List Value} {M : pj_Mem} {x : Int32} : pj_step 112 (45, L, .int x :: st, M) = some (if x = 0 then 52 else 48, L, st, M) := st_if_eq q112_45
theorem x112_45 {L : pj_Loc} {st : List Value} {M : pj_Mem} {x : Int32} {o9 : Option Value × pj_Mem} : pj_Ends 112 (45, L, .int x :: st, M) o9 = pj_Ends 112 (if x = 0 then 52 else 48, L, st, M) o9 := pj_xs (s112_45)
theorem q112_48 : pj_row 112 48 = some (.iconst 1, 1, 0, 0, 0) := by decide +kernel
theorem s112_48 {L : pj_Loc} {st : List Value} {M : pj_Mem}  : pj_step 112 (48, L, st, M) = some (49, L, .int 1 :: st, M) := st_iconst q112_48 (by decide +kernel)
theorem x112_48 {L : pj_Loc} {st : List Value} {M : pj_Mem}  {o9 : Option Value × pj_Mem} : pj_Ends 112 (48, L, st, M) o9 = pj_Ends 112 (49, L, .int 1 :: st, M) o9 := pj_xs (s112_48)
theorem q112_49 : pj_row 112 49 = some (.goto 4, 3, 53, 0, 0) := by decide +kernel
theorem s112_49 {L : pj_Loc} {st : List Value} {M : pj_Mem}  : pj_step 112 (49, L, st, M) = some (53, L, st, M) := st_goto q112_49
theorem x112_49 {L : pj_Loc} {st : List Value} {M : pj_Mem}  {o9 : Option Value × pj_Mem} : pj_Ends 112 (49, L, st, M) o9 = pj_Ends 112 (53, L, st, M) o9 := pj_xs (s112_49)
theorem q112_52 : pj_row 112 52 = some (.iconst 0, 1, 0, 0, 0) := by decide +kernel
theorem s112_52 {L : pj_Loc} {st : List Value} {M : pj_Mem}  : pj_step 112 (52, L, st, M) = some (53, L, .int 0 :: st, M) := st_iconst q112_52 (by decide +kernel)
theorem x112_52 {L : pj_Loc} {st : List Value} {M : pj_Mem}  {o9 : Option Value × pj_Mem} : pj_Ends 112 (52, L, st, M) o9 = pj_Ends 112 (53, L, .int 0 :: st, M) o9 := pj_xs (s112_52)
theorem q112_53 : pj_row 112 53 = some (.istore 4, 2, 0, 0, 0) := by decide +kernel
theorem s112_53 {st : List Value} {M : pj_Mem} {l : pj_Loc} {a0 a1 a2 a3 a4 : Option Value} {x : Int32} (h : pj_long a3 = false) : pj_step 112 (53, a0 :: a1 :: a2 :: a3 :: a4 :: l, .int x :: st, M) = some (55, a0 :: a1 :: a2 :: a3 :: some (.int x) :: l, st, M) := st_istore q112_53 (pj_st_4 h)
theorem x112_53 {st : List Value} {M : pj_Mem} {l : pj_Loc} {a0 a1 a2 a3 a4 : Option Value} {x : Int32} (h : pj_long a3 = false) {o9 : Option Value × pj_Mem} : pj_Ends 112 (53, a0 :: a1 :: a2 :: a3 :: a4 :: l, .int x :: st, M) o9 = pj_Ends 112 (55, a0 :: a1 :: a2 :: a3 :: some (.int x) :: l, st, M) o9 := pj_xs (s112_53 h)
theorem q112_55 : pj_row 112 55 = some (.lload 5, 2, 0, 0, 0) := by decide +kernel
theorem s112_55 {st : List Value} {M : pj_Mem} {l : pj_Loc} {a0 a1 a2 a3 a4 : Option Value} {x : Int64} : pj_step 112 (55, a0 :: a1 :: a2 :: a3 :: a4 :: some (.long x) :: l, st, M) = some (57, a0 :: a1 :: a2 :: a3 :: a4 :: some (.long x) :: l, .long x :: st, M) := st_lload q112_55 rfl
theorem x112_55 {st : List Value} {M : pj_Mem} {l : pj_Loc} {a0 a1 a2 a3 a4 : Option Value} {x : Int64} {o9 : Option Value × pj_Mem} : pj_Ends 112 (55, a0 :: a1 :: a2 :: a3 :: a4 :: some (.long x) :: l, st, M) o9 = pj_Ends 112 (57, a0 :: a1 :: a2 :: a3 :: a4 :: some (.long x) :: l, .long x :: st, M) o9 := pj_xs (s112_55)
theorem q112_57 : pj_row 112 57 = some (.bipush 8, 2, 0, 0, 0) := by decide +kernel
theorem s112_57 {L : pj_Loc} {st : List Value} {M : pj_Mem}  : pj_step 112 (57, L, st, M) = some (59, L, .int 8 :: st, M) := st_bipush q112_57 (by decide +kernel)
theorem x112_57 {L : pj_Loc} {st : List Value} {M : pj_Mem}  {o9 : Option Value × pj_Mem} : pj_Ends 112 (57, L, st, M) o9 = pj_Ends 112 (59, L, .int 8 :: st, M) o9 := pj_xs (s112_57)
theorem q112_59 : pj_row 112 59 = some (.lushr, 1, 0, 0, 0) := by decide +kernel
theorem s112_59 {L : pj_Loc} {st : List Value} {M : pj_Mem} {x : Int64} {y : Int32} : pj_step 112 (59, L, .int y :: .long x :: st, M) = some (60, L, .long ((x.toUInt64 >>> (y.toInt64.toUInt64 &&& Int64.toUInt64 63)).toInt64) :: st, M) := st_lushr q112_59
theorem x112_59 {L : pj_Loc} {st : List Value} {M : pj_Mem} {x : Int64} {y : Int32} {o9 : Option Value × pj_Mem} : pj_Ends 112 (59, L, .int y :: .long x :: st, M) o9 = pj_Ends 112 (60, L, .long ((x.toUInt64 >>> (y.toInt64.toUInt64 &&& Int64.toUInt64 63)).toInt64) :: st, M) o9 := pj_xs (s112_59)
theorem q112_60 : pj_row 112 60 = some (.lstore 5, 2, 0, 0, 0) := by decide +kernel
theorem s112_60 {st : List Value} {M : pj_Mem} {l : pj_Loc} {a0 a1 a2 a3 a4 a5 a6 : Option Value} {x : Int64} (h : pj_long a4 = false) : pj_step 112 (60, a0 :: a1 :: a2 :: a3 :: a4 :: a5 :: a6 :: l, .long x :: st, M) = some (62, a0 :: a1 :: a2 :: a3 :: a4 :: some (.long x) :: none :: l, st, M) := st_lstore q112_60 (pj_stl_5 h)
theorem x112_60 {st : List Value} {M : pj_Mem} {l : pj_Loc} {a0 a1 a2 a3 a4 a5 a6 : Option Value} {x : Int64} (h : pj_long a4 = false) {o9 : Option Value × pj_Mem} : pj_Ends 112 (60, a0 :: a1 :: a2 :: a3 :: a4 :: a5 :: a6 :: l, .long x :: st, M) o9 = pj_Ends 112 (62, a0 :: a1 :: a2 :: a3 :: a4 :: some (.long x) :: none :: l, st, M) o9 := pj_xs (s112_60 h)
theorem q112_62 : pj_row 112 62 = some (.iinc 3 1, 3, 0, 0, 0) := by decide +kernel
theorem s112_62 {st : List Value} {M : pj_Mem} {l : pj_Loc} {a0 a1 a2 : Option Value} {x : Int32} (h : pj_long a2 = false) : pj_step 112 (62, a0 :: a1 :: a2 :: some (.int x) :: l, st, M) = some (65, a0 :: a1 :: a2 :: some (.int (x + 1)) :: l, st, M) := st_iinc q112_62 rfl (congrArg (fun y => x + y) (show Int32.ofInt 1 = 1 by decide +kernel)) (pj_st_3 h)
theorem x112_62 {st : List Value} {M : pj_Mem} {l : pj_Loc} {a0 a1 a2 : Option Value} {x : Int32} (h : pj_long a2 = false) {o9 : Option Value × pj_Mem} : pj_Ends 112 (62, a0 :: a1 :: a2 :: some (.int x) :: l, st, M) o9 = pj_Ends 112 (65, a0 :: a1 :: a2 :: some (.int (x + 1)) :: l, st, M) o9 := pj_xs (s112_62 h)
theorem q112_65 : pj_row 112 65 = some (.goto (-57), 3, 8, 0, 0) := by decide +kernel
theorem s112_65 {L : pj_Loc} {st : List Value} {M : pj_Mem}  : pj_step 112 (65, L, st, M) = some (8, L, st, M) := st_goto q112_65
theorem x112_65 {L : pj_Loc} {st : List Value} {M : pj_Mem}  {o9 : Option Value × pj_Mem} : pj_Ends 112 (65, L, st, M) o9 = pj_Ends 112 (8, L, st, M) o9 := pj_xs (s112_65)
theorem q112_68 : pj_row 112 68 = some (.iload_n 3, 1, 0, 0, 0) := by decide +kernel
theorem s112_68 {st : List Value} {M : pj_Mem} {l : pj_Loc} {a0 a1 a2 : Option Value} {x : Int32} : pj_step 112 (68, a0 :: a1 :: a2 :: some (.int x) :: l, st, M) = some (69, a0 :: a1 :: a2 :: some (.int x) :: l, .int x :: st, M) := st_iload_n q112_68 rfl
theorem x112_68 {st : List Value} {M : pj_Mem} {l : pj_Loc} {a0 a1 a2 : Option Value} {x : Int32} {o9 : Option Value × pj_Mem} : pj_Ends 112 (68, a0 :: a1 :: a2 :: some (.int x) :: l, st, M) o9 = pj_Ends 112 (69, a0 :: a1 :: a2 :: some (.int x) :: l, .int x :: st, M) o9 := pj_xs (s112_68)
theorem q112_69 : pj_row 112 69 = some (.ifCond .eq 15, 3, 84, 0, 0) := by decide +kernel
theorem s112_69 {L : pj_Loc} {st : List Value} {M : pj_Mem} {x : Int32} : pj_step 112 (69, L, .int x :: st, M) = some (if x = 0 then 84 else 72, L, st, M) := st_if_eq q112_69
theorem x112_69 {L : pj_Loc} {st : List Value} {M : pj_Mem} {x : Int32} {o9 : Option Value × pj_Mem} : pj_Ends 112 (69, L, .int x :: st, M) o9 = pj_Ends 112 (if x = 0 then 84 else 72, L, st, M) o9 := pj_xs (s112_69)
theorem q112_72 : pj_row 112 72 = some (.lload 5, 2, 0, 0, 0) := by decide +kernel
theorem s112_72 {st : List Value} {M : pj_Mem} {l : pj_Loc} {a0 a1 a2 a3 a4 : Option Value} {x : Int64} : pj_step 112 (72, a0 :: a1 :: a2 :: a3 :: a4 :: some (.long x) :: l, st, M) = some (74, a0 :: a1 :: a2 :: a3 :: a4 :: some (.long x) :: l, .long x :: st, M) := st_lload q112_72 rfl
theorem x112_72 {st : List Value} {M : pj_Mem} {l : pj_Loc} {a0 a1 a2 a3 a4 : Option Value} {x : Int64} {o9 : Option Value × pj_Mem} : pj_Ends 112 (72, a0 :: a1 :: a2 :: a3 :: a4 :: some (.long x) :: l, st, M) o9 = pj_Ends 112 (74, a0 :: a1 :: a2 :: a3 :: a4 :: some (.long x) :: l, .long x :: st, M) o9 := pj_xs (s112_72)
theorem q112_74 : pj_row 112 74 = some (.lconst 0, 1, 0, 0, 0) := by decide +kernel
theorem s112_74 {L : pj_Loc} {st : List Value} {M : pj_Mem}  : pj_step 112 (74, L, st, M) = some (75, L, .long 0 :: st, M) := st_lconst q112_74 (by decide +kernel)
theorem x112_74 {L : pj_Loc} {st : List Value} {M : pj_Mem}  {o9 : Option Value × pj_Mem} : pj_Ends 112 (74, L, st, M) o9 = pj_Ends 112 (75, L, .long 0 :: st, M) o9 := pj_xs (s112_74)
theorem q112_75 : pj_row 112 75 = some (.lcmp, 1, 0, 0, 0) := by decide +kernel
theorem s112_75 {L : pj_Loc} {st : List Value} {M : pj_Mem} {x y : Int64} : pj_step 112 (75, L, .long y :: .long x :: st, M) = some (76, L, .int (lg_cmp x y) :: st, M) := st_lcmp q112_75
theorem x112_75 {L : pj_Loc} {st : List Value} {M : pj_Mem} {x y : Int64} {o9 : Option Value × pj_Mem} : pj_Ends 112 (75, L, .long y :: .long x :: st, M) o9 = pj_Ends 112 (76, L, .int (lg_cmp x y) :: st, M) o9 := pj_xs (s112_75)
theorem q112_76 : pj_row 112 76 = some (.ifCond .ne 8, 3, 84, 0, 0) := by decide +kernel
theorem s112_76 {L : pj_Loc} {st : List Value} {M : pj_Mem} {x : Int32} : pj_step 112 (76, L, .int x :: st, M) = some (if ¬ x = 0 then 84 else 79, L, st, M) := st_if_ne q112_76
theorem x112_76 {L : pj_Loc} {st : List Value} {M : pj_Mem} {x : Int32} {o9 : Option Value × pj_Mem} : pj_Ends 112 (76, L, .int x :: st, M) o9 = pj_Ends 112 (if ¬ x = 0 then 84 else 79, L, st, M) o9 := pj_xs (s112_76)
theorem q112_79 : pj_row 112 79 = some (.iload 4, 2, 0, 0, 0) := by decide +kernel
theorem s112_79 {st : List Value} {M : pj_Mem} {l : pj_Loc} {a0 a1 a2 a3 : Option Value} {x : Int32} : pj_step 112 (79, a0 :: a1 :: a2 :: a3 :: some (.int x) :: l, st, M) = some (81, a0 :: a1 :: a2 :: a3 :: some (.int x) :: l, .int x :: st, M) := st_iload q112_79 rfl
theorem x112_79 {st : List Value} {M : pj_Mem} {l : pj_Loc} {a0 a1 a2 a3 : Option Value} {x : Int32} {o9 : Option Value × pj_Mem} : pj_Ends 112 (79, a0 :: a1 :: a2 :: a3 :: some (.int x) :: l, st, M) o9 = pj_Ends 112 (81, a0 :: a1 :: a2 :: a3 :: some (.int x) :: l, .int x :: st, M) o9 := pj_xs (s112_79)
theorem q112_81 : pj_row 112 81 = some (.ifCond .ne 6, 3, 87, 0, 0) := by decide +kernel
theorem s112_81 {L : pj_Loc} {st : List Value} {M : pj_Mem} {x : Int32} : pj_step 112 (81, L, .int x :: st, M) = some (if ¬ x = 0 then 87 else 84, L, st, M) := st_if_ne q112_81
theorem x112_81 {L : pj_Loc} {st : List Value} {M : pj_Mem} {x : Int32} {o9 : Option Value × pj_Mem} : pj_Ends 112 (81, L, .int x :: st, M) o9 = pj_Ends 112 (if ¬ x = 0 then 87 else 84, L, st, M) o9 := pj_xs (s112_81)
theorem q112_84 : pj_row 112 84 = some (.bipush (-2), 2, 0, 0, 0) := by decide +kernel
theorem s112_84 {L : pj_Loc} {st : List Value} {M : pj_Mem}  : pj_step 112 (84, L, st, M) = some (86, L, .int (-2) :: st, M) := st_bipush q112_84 (by decide +kernel)
theorem x112_84 {L : pj_Loc} {st : List Value} {M : pj_Mem}  {o9 : Option Value × pj_Mem} : pj_Ends 112 (84, L, st, M) o9 = pj_Ends 112 (86, L, .int (-2) :: st, M) o9 := pj_xs (s112_84)
theorem q112_86 : pj_row 112 86 = some (.ireturn, 1, 0, 0, 0) := by decide +kernel
theorem t112_86 {L : pj_Loc} {M : pj_Mem} {v : Int32} : pj_Ends 112 (86, L, [.int v], M) (some (.int v), M) := pj_Ends.ret q112_86 (pj_rtn_i rt112)
theorem q112_87 : pj_row 112 87 = some (.aload_n 0, 1, 0, 0, 0) := by decide +kernel
theorem s112_87 {st : List Value} {M : pj_Mem} {l : pj_Loc} {x : Nat} : pj_step 112 (87, some (.ref x) :: l, st, M) = some (88, some (.ref x) :: l, .ref x :: st, M) := st_aload_n q112_87 rfl
theorem x112_87 {st : List Value} {M : pj_Mem} {l : pj_Loc} {x : Nat} {o9 : Option Value × pj_Mem} : pj_Ends 112 (87, some (.ref x) :: l, st, M) o9 = pj_Ends 112 (88, some (.ref x) :: l, .ref x :: st, M) o9 := pj_xs (s112_87)
theorem q112_88 : pj_row 112 88 = some (.getfield 152, 3, 6, 13, 0) := by decide +kernel
theorem s112_88 {L : pj_Loc} {st : List Value} {N S : Nat} {H : pj_Heap} {o : Nat} : pj_step 112 (88, L, .ref o :: st, (N, S, H)) = pj_pv 91 L st (N, S, H) (pj_fld (H o) 6 13) := st_getfield q112_88
theorem x112_88 {L : pj_Loc} {st : List Value} {N S : Nat} {H : pj_Heap} {o : Nat} {o9 : Option Value × pj_Mem} : pj_Ends 112 (88, L, .ref o :: st, (N, S, H)) o9 = pj_then 112 o9 (pj_pv 91 L st (N, S, H) (pj_fld (H o) 6 13)) := pj_xt q112_88 rfl (pj_cl_nc rfl) (s112_88)
theorem q112_91 : pj_row 112 91 = some (.iload_n 3, 1, 0, 0, 0) := by decide +kernel
theorem s112_91 {st : List Value} {M : pj_Mem} {l : pj_Loc} {a0 a1 a2 : Option Value} {x : Int32} : pj_step 112 (91, a0 :: a1 :: a2 :: some (.int x) :: l, st, M) = some (92, a0 :: a1 :: a2 :: some (.int x) :: l, .int x :: st, M) := st_iload_n q112_91 rfl
theorem x112_91 {st : List Value} {M : pj_Mem} {l : pj_Loc} {a0 a1 a2 : Option Value} {x : Int32} {o9 : Option Value × pj_Mem} : pj_Ends 112 (91, a0 :: a1 :: a2 :: some (.int x) :: l, st, M) o9 = pj_Ends 112 (92, a0 :: a1 :: a2 :: some (.int x) :: l, .int x :: st, M) o9 := pj_xs (s112_91)
theorem q112_92 : pj_row 112 92 = some (.iadd, 1, 0, 0, 0) := by decide +kernel
theorem s112_92 {L : pj_Loc} {st : List Value} {M : pj_Mem} {x y : Int32} : pj_step 112 (92, L, .int y :: .int x :: st, M) = some (93, L, .int (x + y) :: st, M) := st_iadd q112_92
theorem x112_92 {L : pj_Loc} {st : List Value} {M : pj_Mem} {x y : Int32} {o9 : Option Value × pj_Mem} : pj_Ends 112 (92, L, .int y :: .int x :: st, M) o9 = pj_Ends 112 (93, L, .int (x + y) :: st, M) o9 := pj_xs (s112_92)
theorem q112_93 : pj_row 112 93 = some (.bipush 80, 2, 0, 0, 0) := by decide +kernel
theorem s112_93 {L : pj_Loc} {st : List Value} {M : pj_Mem}  : pj_step 112 (93, L, st, M) = some (95, L, .int 80 :: st, M) := st_bipush q112_93 (by decide +kernel)
theorem x112_93 {L : pj_Loc} {st : List Value} {M : pj_Mem}  {o9 : Option Value × pj_Mem} : pj_Ends 112 (93, L, st, M) o9 = pj_Ends 112 (95, L, .int 80 :: st, M) o9 := pj_xs (s112_93)
theorem q112_95 : pj_row 112 95 = some (.if_icmp .le 6, 3, 101, 0, 0) := by decide +kernel
theorem s112_95 {L : pj_Loc} {st : List Value} {M : pj_Mem} {x y : Int32} : pj_step 112 (95, L, .int y :: .int x :: st, M) = some (if x ≤ y then 101 else 98, L, st, M) := st_icmp_le q112_95
theorem x112_95 {L : pj_Loc} {st : List Value} {M : pj_Mem} {x y : Int32} {o9 : Option Value × pj_Mem} : pj_Ends 112 (95, L, .int y :: .int x :: st, M) o9 = pj_Ends 112 (if x ≤ y then 101 else 98, L, st, M) o9 := pj_xs (s112_95)
theorem q112_98 : pj_row 112 98 = some (.bipush (-4), 2, 0, 0, 0) := by decide +kernel
theorem s112_98 {L : pj_Loc} {st : List Value} {M : pj_Mem}  : pj_step 112 (98, L, st, M) = some (100, L, .int (-4) :: st, M) := st_bipush q112_98 (by decide +kernel)
theorem x112_98 {L : pj_Loc} {st : List Value} {M : pj_Mem}  {o9 : Option Value × pj_Mem} : pj_Ends 112 (98, L, st, M) o9 = pj_Ends 112 (100, L, .int (-4) :: st, M) o9 := pj_xs (s112_98)
theorem q112_100 : pj_row 112 100 = some (.ireturn, 1, 0, 0, 0) := by decide +kernel
theorem t112_100 {L : pj_Loc} {M : pj_Mem} {v : Int32} : pj_Ends 112 (100, L, [.int v], M) (some (.int v), M) := pj_Ends.ret q112_100 (pj_rtn_i rt112)
theorem q112_101 : pj_row 112 101 = some (.iload_n 3, 1, 0, 0, 0) := by decide +kernel
theorem s112_101 {st : List Value} {M : pj_Mem} {l : pj_Loc} {a0 a1 a2 : Option Value} {x : Int32} : pj_step 112 (101, a0 :: a1 :: a2 :: some (.int x) :: l, st, M) = some (102, a0 :: a1 :: a2 :: some (.int x) :: l, .int x :: st, M) := st_iload_n q112_101 rfl
theorem x112_101 {st : List Value} {M : pj_Mem} {l : pj_Loc} {a0 a1 a2 : Option Value} {x : Int32} {o9 : Option Value × pj_Mem} : pj_Ends 112 (101, a0 :: a1 :: a2 :: some (.int x) :: l, st, M) o9 = pj_Ends 112 (102, a0 :: a1 :: a2 :: some (.int x) :: l, .int x :: st, M) o9 := pj_xs (s112_101)
theorem q112_102 : pj_row 112 102 = some (.iconst 1, 1, 0, 0, 0) := by decide +kernel
theorem s112_102 {L : pj_Loc} {st : List Value} {M : pj_Mem}  : pj_step 112 (102, L, st, M) = some (103, L, .int 1 :: st, M) := st_iconst q112_102 (by decide +kernel)
theorem x112_102 {L : pj_Loc} {st : List Value} {M : pj_Mem}  {o9 : Option Value × pj_Mem} : pj_Ends 112 (102, L, st, M) o9 = pj_Ends 112 (103, L, .int 1 :: st, M) o9 := pj_xs (s112_102)
theorem q112_103 : pj_row 112 103 = some (.isub, 1, 0, 0, 0) := by decide +kernel
theorem s112_103 {L : pj_Loc} {st : List Value} {M : pj_Mem} {x y : Int32} : pj_step 112 (103, L, .int y :: .int x :: st, M) = some (104, L, .int (x - y) :: st, M) := st_isub q112_103
theorem x112_103 {L : pj_Loc} {st : List Value} {M : pj_Mem} {x y : Int32} {o9 : Option Value × pj_Mem} : pj_Ends 112 (103, L, .int y :: .int x :: st, M) o9 = pj_Ends 112 (104, L, .int (x - y) :: st, M) o9 := pj_xs (s112_103)
theorem q112_104 : pj_row 112 104 = some (.istore 7, 2, 0, 0, 0) := by decide +kernel
theorem s112_104 {st : List Value} {M : pj_Mem} {l : pj_Loc} {a0 a1 a2 a3 a4 a5 a6 a7 : Option Value} {x : Int32} (h : pj_long a6 = false) : pj_step 112 (104, a0 :: a1 :: a2 :: a3 :: a4 :: a5 :: a6 :: a7 :: l, .int x :: st, M) = some (106, a0 :: a1 :: a2 :: a3 :: a4 :: a5 :: a6 :: some (.int x) :: l, st, M) := st_istore q112_104 (pj_st_7 h)
theorem x112_104 {st : List Value} {M : pj_Mem} {l : pj_Loc} {a0 a1 a2 a3 a4 a5 a6 a7 : Option Value} {x : Int32} (h : pj_long a6 = false) {o9 : Option Value × pj_Mem} : pj_Ends 112 (104, a0 :: a1 :: a2 :: a3 :: a4 :: a5 :: a6 :: a7 :: l, .int x :: st, M) o9 = pj_Ends 112 (106, a0 :: a1 :: a2 :: a3 :: a4 :: a5 :: a6 :: some (.int x) :: l, st, M) o9 := pj_xs (s112_104 h)
theorem q112_106 : pj_row 112 106 = some (.iload 7, 2, 0, 0, 0) := by decide +kernel
theorem s112_106 {st : List Value} {M : pj_Mem} {l : pj_Loc} {a0 a1 a2 a3 a4 a5 a6 : Option Value} {x : Int32} : pj_step 112 (106, a0 :: a1 :: a2 :: a3 :: a4 :: a5 :: a6 :: some (.int x) :: l, st, M) = some (108, a0 :: a1 :: a2 :: a3 :: a4 :: a5 :: a6 :: some (.int x) :: l, .int x :: st, M) := st_iload q112_106 rfl
theorem x112_106 {st : List Value} {M : pj_Mem} {l : pj_Loc} {a0 a1 a2 a3 a4 a5 a6 : Option Value} {x : Int32} {o9 : Option Value × pj_Mem} : pj_Ends 112 (106, a0 :: a1 :: a2 :: a3 :: a4 :: a5 :: a6 :: some (.int x) :: l, st, M) o9 = pj_Ends 112 (108, a0 :: a1 :: a2 :: a3 :: a4 :: a5 :: a6 :: some (.int x) :: l, .int x :: st, M) o9 := pj_xs (s112_106)
theorem q112_108 : pj_row 112 108 = some (.ifCond .lt 40, 3, 148, 0, 0) := by decide +kernel
theorem s112_108 {L : pj_Loc} {st : List Value} {M : pj_Mem} {x : Int32} : pj_step 112 (108, L, .int x :: st, M) = some (if x < 0 then 148 else 111, L, st, M) := st_if_lt q112_108
theorem x112_108 {L : pj_Loc} {st : List Value} {M : pj_Mem} {x : Int32} {o9 : Option Value × pj_Mem} : pj_Ends 112 (108, L, .int x :: st, M) o9 = pj_Ends 112 (if x < 0 then 148 else 111, L, st, M) o9 := pj_xs (s112_108)
theorem q112_111 : pj_row 112 111 = some (.aload_n 0, 1, 0, 0, 0) := by decide +kernel
theorem s112_111 {st : List Value} {M : pj_Mem} {l : pj_Loc} {x : Nat} : pj_step 112 (111, some (.ref x) :: l, st, M) = some (112, some (.ref x) :: l, .ref x :: st, M) := st_aload_n q112_111 rfl
theorem x112_111 {st : List Value} {M : pj_Mem} {l : pj_Loc} {x : Nat} {o9 : Option Value × pj_Mem} : pj_Ends 112 (111, some (.ref x) :: l, st, M) o9 = pj_Ends 112 (112, some (.ref x) :: l, .ref x :: st, M) o9 := pj_xs (s112_111)
theorem q112_112 : pj_row 112 112 = some (.getfield 31, 3, 6, 12, 0) := by decide +kernel
theorem s112_112 {L : pj_Loc} {st : List Value} {N S : Nat} {H : pj_Heap} {o : Nat} : pj_step 112 (112, L, .ref o :: st, (N, S, H)) = pj_pv 115 L st (N, S, H) (pj_fld (H o) 6 12) := st_getfield q112_112
theorem x112_112 {L : pj_Loc} {st : List Value} {N S : Nat} {H : pj_Heap} {o : Nat} {o9 : Option Value × pj_Mem} : pj_Ends 112 (112, L, .ref o :: st, (N, S, H)) o9 = pj_then 112 o9 (pj_pv 115 L st (N, S, H) (pj_fld (H o) 6 12)) := pj_xt q112_112 rfl (pj_cl_nc rfl) (s112_112)
theorem q112_115 : pj_row 112 115 = some (.aload_n 0, 1, 0, 0, 0) := by decide +kernel
theorem s112_115 {st : List Value} {M : pj_Mem} {l : pj_Loc} {x : Nat} : pj_step 112 (115, some (.ref x) :: l, st, M) = some (116, some (.ref x) :: l, .ref x :: st, M) := st_aload_n q112_115 rfl
theorem x112_115 {st : List Value} {M : pj_Mem} {l : pj_Loc} {x : Nat} {o9 : Option Value × pj_Mem} : pj_Ends 112 (115, some (.ref x) :: l, st, M) o9 = pj_Ends 112 (116, some (.ref x) :: l, .ref x :: st, M) o9 := pj_xs (s112_115)
theorem q112_116 : pj_row 112 116 = some (.getfield 152, 3, 6, 13, 0) := by decide +kernel
theorem s112_116 {L : pj_Loc} {st : List Value} {N S : Nat} {H : pj_Heap} {o : Nat} : pj_step 112 (116, L, .ref o :: st, (N, S, H)) = pj_pv 119 L st (N, S, H) (pj_fld (H o) 6 13) := st_getfield q112_116
theorem x112_116 {L : pj_Loc} {st : List Value} {N S : Nat} {H : pj_Heap} {o : Nat} {o9 : Option Value × pj_Mem} : pj_Ends 112 (116, L, .ref o :: st, (N, S, H)) o9 = pj_then 112 o9 (pj_pv 119 L st (N, S, H) (pj_fld (H o) 6 13)) := pj_xt q112_116 rfl (pj_cl_nc rfl) (s112_116)
theorem q112_119 : pj_row 112 119 = some (.lload_n 1, 1, 0, 0, 0) := by decide +kernel
theorem s112_119 {st : List Value} {M : pj_Mem} {l : pj_Loc} {a0 : Option Value} {x : Int64} : pj_step 112 (119, a0 :: some (.long x) :: l, st, M) = some (120, a0 :: some (.long x) :: l, .long x :: st, M) := st_lload_n q112_119 rfl
theorem x112_119 {st : List Value} {M : pj_Mem} {l : pj_Loc} {a0 : Option Value} {x : Int64} {o9 : Option Value × pj_Mem} : pj_Ends 112 (119, a0 :: some (.long x) :: l, st, M) o9 = pj_Ends 112 (120, a0 :: some (.long x) :: l, .long x :: st, M) o9 := pj_xs (s112_119)
theorem q112_120 : pj_row 112 120 = some (.bipush 8, 2, 0, 0, 0) := by decide +kernel
theorem s112_120 {L : pj_Loc} {st : List Value} {M : pj_Mem}  : pj_step 112 (120, L, st, M) = some (122, L, .int 8 :: st, M) := st_bipush q112_120 (by decide +kernel)
theorem x112_120 {L : pj_Loc} {st : List Value} {M : pj_Mem}  {o9 : Option Value × pj_Mem} : pj_Ends 112 (120, L, st, M) o9 = pj_Ends 112 (122, L, .int 8 :: st, M) o9 := pj_xs (s112_120)
theorem q112_122 : pj_row 112 122 = some (.iload 7, 2, 0, 0, 0) := by decide +kernel
theorem s112_122 {st : List Value} {M : pj_Mem} {l : pj_Loc} {a0 a1 a2 a3 a4 a5 a6 : Option Value} {x : Int32} : pj_step 112 (122, a0 :: a1 :: a2 :: a3 :: a4 :: a5 :: a6 :: some (.int x) :: l, st, M) = some (124, a0 :: a1 :: a2 :: a3 :: a4 :: a5 :: a6 :: some (.int x) :: l, .int x :: st, M) := st_iload q112_122 rfl
theorem x112_122 {st : List Value} {M : pj_Mem} {l : pj_Loc} {a0 a1 a2 a3 a4 a5 a6 : Option Value} {x : Int32} {o9 : Option Value × pj_Mem} : pj_Ends 112 (122, a0 :: a1 :: a2 :: a3 :: a4 :: a5 :: a6 :: some (.int x) :: l, st, M) o9 = pj_Ends 112 (124, a0 :: a1 :: a2 :: a3 :: a4 :: a5 :: a6 :: some (.int x) :: l, .int x :: st, M) o9 := pj_xs (s112_122)
theorem q112_124 : pj_row 112 124 = some (.imul, 1, 0, 0, 0) := by decide +kernel
theorem s112_124 {L : pj_Loc} {st : List Value} {M : pj_Mem} {x y : Int32} : pj_step 112 (124, L, .int y :: .int x :: st, M) = some (125, L, .int (x * y) :: st, M) := st_imul q112_124
theorem x112_124 {L : pj_Loc} {st : List Value} {M : pj_Mem} {x y : Int32} {o9 : Option Value × pj_Mem} : pj_Ends 112 (124, L, .int y :: .int x :: st, M) o9 = pj_Ends 112 (125, L, .int (x * y) :: st, M) o9 := pj_xs (s112_124)
theorem q112_125 : pj_row 112 125 = some (.lushr, 1, 0, 0, 0) := by decide +kernel
theorem s112_125 {L : pj_Loc} {st : List Value} {M : pj_Mem} {x : Int64} {y : Int32} : pj_step 112 (125, L, .int y :: .long x :: st, M) = some (126, L, .long ((x.toUInt64 >>> (y.toInt64.toUInt64 &&& Int64.toUInt64 63)).toInt64) :: st, M) := st_lushr q112_125
theorem x112_125 {L : pj_Loc} {st : List Value} {M : pj_Mem} {x : Int64} {y : Int32} {o9 : Option Value × pj_Mem} : pj_Ends 112 (125, L, .int y :: .long x :: st, M) o9 = pj_Ends 112 (126, L, .long ((x.toUInt64 >>> (y.toInt64.toUInt64 &&& Int64.toUInt64 63)).toInt64) :: st, M) o9 := pj_xs (s112_125)
theorem q112_126 : pj_row 112 126 = some (.ldc2_w 164, 3, 0, 0, 255) := by decide +kernel
theorem s112_126 {L : pj_Loc} {st : List Value} {M : pj_Mem}  : pj_step 112 (126, L, st, M) = some (129, L, .long 255 :: st, M) := st_ldc2_w q112_126 (by decide +kernel)
theorem x112_126 {L : pj_Loc} {st : List Value} {M : pj_Mem}  {o9 : Option Value × pj_Mem} : pj_Ends 112 (126, L, st, M) o9 = pj_Ends 112 (129, L, .long 255 :: st, M) o9 := pj_xs (s112_126)
theorem q112_129 : pj_row 112 129 = some (.land, 1, 0, 0, 0) := by decide +kernel
theorem s112_129 {L : pj_Loc} {st : List Value} {M : pj_Mem} {x y : Int64} : pj_step 112 (129, L, .long y :: .long x :: st, M) = some (130, L, .long (x &&& y) :: st, M) := st_land q112_129
theorem x112_129 {L : pj_Loc} {st : List Value} {M : pj_Mem} {x y : Int64} {o9 : Option Value × pj_Mem} : pj_Ends 112 (129, L, .long y :: .long x :: st, M) o9 = pj_Ends 112 (130, L, .long (x &&& y) :: st, M) o9 := pj_xs (s112_129)
theorem q112_130 : pj_row 112 130 = some (.l2i, 1, 0, 0, 0) := by decide +kernel
theorem s112_130 {L : pj_Loc} {st : List Value} {M : pj_Mem} {x : Int64} : pj_step 112 (130, L, .long x :: st, M) = some (131, L, .int x.toInt32 :: st, M) := st_l2i q112_130
theorem x112_130 {L : pj_Loc} {st : List Value} {M : pj_Mem} {x : Int64} {o9 : Option Value × pj_Mem} : pj_Ends 112 (130, L, .long x :: st, M) o9 = pj_Ends 112 (131, L, .int x.toInt32 :: st, M) o9 := pj_xs (s112_130)
theorem q112_131 : pj_row 112 131 = some (.iastore, 1, 0, 0, 0) := by decide +kernel
theorem s112_131 {L : pj_Loc} {st : List Value} {N S : Nat} {H : pj_Heap} {o : Nat} {i x : Int32} : pj_step 112 (131, L, .int x :: .int i :: .ref o :: st, (N, S, H)) = pj_set 132 L st (N, S, H) o (pj_ars (H o) 0 i x) := st_iastore q112_131
theorem x112_131 {L : pj_Loc} {st : List Value} {N S : Nat} {H : pj_Heap} {o : Nat} {i x : Int32} {o9 : Option Value × pj_Mem} : pj_Ends 112 (131, L, .int x :: .int i :: .ref o :: st, (N, S, H)) o9 = pj_then 112 o9 (pj_set 132 L st (N, S, H) o (pj_ars (H o) 0 i x)) := pj_xt q112_131 rfl (pj_cl_nc rfl) (s112_131)
theorem q112_132 : pj_row 112 132 = some (.aload_n 0, 1, 0, 0, 0) := by decide +kernel
theorem s112_132 {st : List Value} {M : pj_Mem} {l : pj_Loc} {x : Nat} : pj_step 112 (132, some (.ref x) :: l, st, M) = some (133, some (.ref x) :: l, .ref x :: st, M) := st_aload_n q112_132 rfl
theorem x112_132 {st : List Value} {M : pj_Mem} {l : pj_Loc} {x : Nat} {o9 : Option Value × pj_Mem} : pj_Ends 112 (132, some (.ref x) :: l, st, M) o9 = pj_Ends 112 (133, some (.ref x) :: l, .ref x :: st, M) o9 := pj_xs (s112_132)
theorem q112_133 : pj_row 112 133 = some (.dup, 1, 0, 0, 0) := by decide +kernel
theorem s112_133 {L : pj_Loc} {st : List Value} {M : pj_Mem} {x : Nat} : pj_step 112 (133, L, .ref x :: st, M) = some (134, L, .ref x :: .ref x :: st, M) := st_dup_ref q112_133
theorem x112_133 {L : pj_Loc} {st : List Value} {M : pj_Mem} {x : Nat} {o9 : Option Value × pj_Mem} : pj_Ends 112 (133, L, .ref x :: st, M) o9 = pj_Ends 112 (134, L, .ref x :: .ref x :: st, M) o9 := pj_xs (s112_133)
theorem s112_133i {L : pj_Loc} {st : List Value} {M : pj_Mem} {x : Int32} : pj_step 112 (133, L, .int x :: st, M) = some (134, L, .int x :: .int x :: st, M) := st_dup_int q112_133
theorem x112_133i {L : pj_Loc} {st : List Value} {M : pj_Mem} {x : Int32} {o9 : Option Value × pj_Mem} : pj_Ends 112 (133, L, .int x :: st, M) o9 = pj_Ends 112 (134, L, .int x :: .int x :: st, M) o9 := pj_xs (s112_133i)
theorem q112_134 : pj_row 112 134 = some (.getfield 152, 3, 6, 13, 0) := by decide +kernel
theorem s112_134 {L : pj_Loc} {st : List Value} {N S : Nat} {H : pj_Heap} {o : Nat} : pj_step 112 (134, L, .ref o :: st, (N, S, H)) = pj_pv 137 L st (N, S, H) (pj_fld (H o) 6 13) := st_getfield q112_134
theorem x112_134 {L : pj_Loc} {st : List Value} {N S : Nat} {H : pj_Heap} {o : Nat} {o9 : Option Value × pj_Mem} : pj_Ends 112 (134, L, .ref o :: st, (N, S, H)) o9 = pj_then 112 o9 (pj_pv 137 L st (N, S, H) (pj_fld (H o) 6 13)) := pj_xt q112_134 rfl (pj_cl_nc rfl) (s112_134)
theorem q112_137 : pj_row 112 137 = some (.iconst 1, 1, 0, 0, 0) := by decide +kernel
theorem s112_137 {L : pj_Loc} {st : List Value} {M : pj_Mem}  : pj_step 112 (137, L, st, M) = some (138, L, .int 1 :: st, M) := st_iconst q112_137 (by decide +kernel)
theorem x112_137 {L : pj_Loc} {st : List Value} {M : pj_Mem}  {o9 : Option Value × pj_Mem} : pj_Ends 112 (137, L, st, M) o9 = pj_Ends 112 (138, L, .int 1 :: st, M) o9 := pj_xs (s112_137)
theorem q112_138 : pj_row 112 138 = some (.iadd, 1, 0, 0, 0) := by decide +kernel
theorem s112_138 {L : pj_Loc} {st : List Value} {M : pj_Mem} {x y : Int32} : pj_step 112 (138, L, .int y :: .int x :: st, M) = some (139, L, .int (x + y) :: st, M) := st_iadd q112_138
theorem x112_138 {L : pj_Loc} {st : List Value} {M : pj_Mem} {x y : Int32} {o9 : Option Value × pj_Mem} : pj_Ends 112 (138, L, .int y :: .int x :: st, M) o9 = pj_Ends 112 (139, L, .int (x + y) :: st, M) o9 := pj_xs (s112_138)
theorem q112_139 : pj_row 112 139 = some (.putfield 152, 3, 6, 13, 0) := by decide +kernel
theorem s112_139 {L : pj_Loc} {st : List Value} {N S : Nat} {H : pj_Heap} {o : Nat} {v : Value} : pj_step 112 (139, L, v :: .ref o :: st, (N, S, H)) = pj_set 142 L st (N, S, H) o (pj_fset (H o) 6 13 v) := st_putfield q112_139
theorem x112_139 {L : pj_Loc} {st : List Value} {N S : Nat} {H : pj_Heap} {o : Nat} {v : Value} {o9 : Option Value × pj_Mem} : pj_Ends 112 (139, L, v :: .ref o :: st, (N, S, H)) o9 = pj_then 112 o9 (pj_set 142 L st (N, S, H) o (pj_fset (H o) 6 13 v)) := pj_xt q112_139 rfl (pj_cl_nc rfl) (s112_139)
theorem q112_142 : pj_row 112 142 = some (.iinc 7 (-1), 3, 0, 0, 0) := by decide +kernel
theorem s112_142 {st : List Value} {M : pj_Mem} {l : pj_Loc} {a0 a1 a2 a3 a4 a5 a6 : Option Value} {x : Int32} (h : pj_long a6 = false) : pj_step 112 (142, a0 :: a1 :: a2 :: a3 :: a4 :: a5 :: a6 :: some (.int x) :: l, st, M) = some (145, a0 :: a1 :: a2 :: a3 :: a4 :: a5 :: a6 :: some (.int (x + (-1))) :: l, st, M) := st_iinc q112_142 rfl (congrArg (fun y => x + y) (show Int32.ofInt (-1) = (-1) by decide +kernel)) (pj_st_7 h)
theorem x112_142 {st : List Value} {M : pj_Mem} {l : pj_Loc} {a0 a1 a2 a3 a4 a5 a6 : Option Value} {x : Int32} (h : pj_long a6 = false) {o9 : Option Value × pj_Mem} : pj_Ends 112 (142, a0 :: a1 :: a2 :: a3 :: a4 :: a5 :: a6 :: some (.int x) :: l, st, M) o9 = pj_Ends 112 (145, a0 :: a1 :: a2 :: a3 :: a4 :: a5 :: a6 :: some (.int (x + (-1))) :: l, st, M) o9 := pj_xs (s112_142 h)
theorem q112_145 : pj_row 112 145 = some (.goto (-39), 3, 106, 0, 0) := by decide +kernel
theorem s112_145 {L : pj_Loc} {st : List Value} {M : pj_Mem}  : pj_step 112 (145, L, st, M) = some (106, L, st, M) := st_goto q112_145
theorem x112_145 {L : pj_Loc} {st : List Value} {M : pj_Mem}  {o9 : Option Value × pj_Mem} : pj_Ends 112 (145, L, st, M) o9 = pj_Ends 112 (106, L, st, M) o9 := pj_xs (s112_145)
theorem q112_148 : pj_row 112 148 = some (.aload_n 0, 1, 0, 0, 0) := by decide +kernel
theorem s112_148 {st : List Value} {M : pj_Mem} {l : pj_Loc} {x : Nat} : pj_step 112 (148, some (.ref x) :: l, st, M) = some (149, some (.ref x) :: l, .ref x :: st, M) := st_aload_n q112_148 rfl
theorem x112_148 {st : List Value} {M : pj_Mem} {l : pj_Loc} {x : Nat} {o9 : Option Value × pj_Mem} : pj_Ends 112 (148, some (.ref x) :: l, st, M) o9 = pj_Ends 112 (149, some (.ref x) :: l, .ref x :: st, M) o9 := pj_xs (s112_148)
theorem q112_149 : pj_row 112 149 = some (.getfield 152, 3, 6, 13, 0) := by decide +kernel
theorem s112_149 {L : pj_Loc} {st : List Value} {N S : Nat} {H : pj_Heap} {o : Nat} : pj_step 112 (149, L, .ref o :: st, (N, S, H)) = pj_pv 152 L st (N, S, H) (pj_fld (H o) 6 13) := st_getfield q112_149
theorem x112_149 {L : pj_Loc} {st : List Value} {N S : Nat} {H : pj_Heap} {o : Nat} {o9 : Option Value × pj_Mem} : pj_Ends 112 (149, L, .ref o :: st, (N, S, H)) o9 = pj_then 112 o9 (pj_pv 152 L st (N, S, H) (pj_fld (H o) 6 13)) := pj_xt q112_149 rfl (pj_cl_nc rfl) (s112_149)
theorem q112_152 : pj_row 112 152 = some (.ireturn, 1, 0, 0, 0) := by decide +kernel
theorem t112_152 {L : pj_Loc} {M : pj_Mem} {v : Int32} : pj_Ends 112 (152, L, [.int v], M) (some (.int v), M) := pj_Ends.ret q112_152 (pj_rtn_i rt112)
theorem rt113 : pj_rt 113 = some .int := rfl
theorem q113_0 : pj_row 113 0 = some (.aload_n 0, 1, 0, 0, 0) := by decide +kernel
theorem s113_0 {st : List Value} {M : pj_Mem} {l : pj_Loc} {x : Nat} : pj_step 113 (0, some (.ref x) :: l, st, M) = some (1, some (.ref x) :: l, .ref x :: st, M) := st_aload_n q113_0 rfl
theorem x113_0 {st : List Value} {M : pj_Mem} {l : pj_Loc} {x : Nat} {o9 : Option Value × pj_Mem} : pj_Ends 113 (0, some (.ref x) :: l, st, M) o9 = pj_Ends 113 (1, some (.ref x) :: l, .ref x :: st, M) o9 := pj_xs (s113_0)
theorem q113_1 : pj_row 113 1 = some (.getfield 152, 3, 6, 13, 0) := by decide +kernel
theorem s113_1 {L : pj_Loc} {st : List Value} {N S : Nat} {H : pj_Heap} {o : Nat} : pj_step 113 (1, L, .ref o :: st, (N, S, H)) = pj_pv 4 L st (N, S, H) (pj_fld (H o) 6 13) := st_getfield q113_1
theorem x113_1 {L : pj_Loc} {st : List Value} {N S : Nat} {H : pj_Heap} {o : Nat} {o9 : Option Value × pj_Mem} : pj_Ends 113 (1, L, .ref o :: st, (N, S, H)) o9 = pj_then 113 o9 (pj_pv 4 L st (N, S, H) (pj_fld (H o) 6 13)) := pj_xt q113_1 rfl (pj_cl_nc rfl) (s113_1)
theorem q113_4 : pj_row 113 4 = some (.istore_n 1, 1, 0, 0, 0) := by decide +kernel
theorem s113_4 {st : List Value} {M : pj_Mem} {l : pj_Loc} {a0 a1 : Option Value} {x : Int32} (h : pj_long a0 = false) : pj_step 113 (4, a0 :: a1 :: l, .int x :: st, M) = some (5, a0 :: some (.int x) :: l, st, M) := st_istore_n q113_4 (pj_st_1 h)
theorem x113_4 {st : List Value} {M : pj_Mem} {l : pj_Loc} {a0 a1 : Option Value} {x : Int32} (h : pj_long a0 = false) {o9 : Option Value × pj_Mem} : pj_Ends 113 (4, a0 :: a1 :: l, .int x :: st, M) o9 = pj_Ends 113 (5, a0 :: some (.int x) :: l, st, M) o9 := pj_xs (s113_4 h)
theorem q113_5 : pj_row 113 5 = some (.aload_n 0, 1, 0, 0, 0) := by decide +kernel
theorem s113_5 {st : List Value} {M : pj_Mem} {l : pj_Loc} {x : Nat} : pj_step 113 (5, some (.ref x) :: l, st, M) = some (6, some (.ref x) :: l, .ref x :: st, M) := st_aload_n q113_5 rfl
theorem x113_5 {st : List Value} {M : pj_Mem} {l : pj_Loc} {x : Nat} {o9 : Option Value × pj_Mem} : pj_Ends 113 (5, some (.ref x) :: l, st, M) o9 = pj_Ends 113 (6, some (.ref x) :: l, .ref x :: st, M) o9 := pj_xs (s113_5)
theorem q113_6 : pj_row 113 6 = some (.iconst 0, 1, 0, 0, 0) := by decide +kernel
theorem s113_6 {L : pj_Loc} {st : List Value} {M : pj_Mem}  : pj_step 113 (6, L, st, M) = some (7, L, .int 0 :: st, M) := st_iconst q113_6 (by decide +kernel)
theorem x113_6 {L : pj_Loc} {st : List Value} {M : pj_Mem}  {o9 : Option Value × pj_Mem} : pj_Ends 113 (6, L, st, M) o9 = pj_Ends 113 (7, L, .int 0 :: st, M) o9 := pj_xs (s113_6)
theorem q113_7 : pj_row 113 7 = some (.putfield 152, 3, 6, 13, 0) := by decide +kernel
theorem s113_7 {L : pj_Loc} {st : List Value} {N S : Nat} {H : pj_Heap} {o : Nat} {v : Value} : pj_step 113 (7, L, v :: .ref o :: st, (N, S, H)) = pj_set 10 L st (N, S, H) o (pj_fset (H o) 6 13 v) := st_putfield q113_7
theorem x113_7 {L : pj_Loc} {st : List Value} {N S : Nat} {H : pj_Heap} {o : Nat} {v : Value} {o9 : Option Value × pj_Mem} : pj_Ends 113 (7, L, v :: .ref o :: st, (N, S, H)) o9 = pj_then 113 o9 (pj_set 10 L st (N, S, H) o (pj_fset (H o) 6 13 v)) := pj_xt q113_7 rfl (pj_cl_nc rfl) (s113_7)
theorem q113_10 : pj_row 113 10 = some (.iload_n 1, 1, 0, 0, 0) := by decide +kernel
theorem s113_10 {st : List Value} {M : pj_Mem} {l : pj_Loc} {a0 : Option Value} {x : Int32} : pj_step 113 (10, a0 :: some (.int x) :: l, st, M) = some (11, a0 :: some (.int x) :: l, .int x :: st, M) := st_iload_n q113_10 rfl
theorem x113_10 {st : List Value} {M : pj_Mem} {l : pj_Loc} {a0 : Option Value} {x : Int32} {o9 : Option Value × pj_Mem} : pj_Ends 113 (10, a0 :: some (.int x) :: l, st, M) o9 = pj_Ends 113 (11, a0 :: some (.int x) :: l, .int x :: st, M) o9 := pj_xs (s113_10)
theorem q113_11 : pj_row 113 11 = some (.ireturn, 1, 0, 0, 0) := by decide +kernel
theorem t113_11 {L : pj_Loc} {M : pj_Mem} {v : Int32} : pj_Ends 113 (11, L, [.int v], M) (some (.int v), M) := pj_Ends.ret q113_11 (pj_rtn_i rt113)
theorem rt114 : pj_rt 114 = some .int := rfl
theorem q114_0 : pj_row 114 0 = some (.aload_n 0, 1, 0, 0, 0) := by decide +kernel
theorem s114_0 {st : List Value} {M : pj_Mem} {l : pj_Loc} {x : Nat} : pj_step 114 (0, some (.ref x) :: l, st, M) = some (1, some (.ref x) :: l, .ref x :: st, M) := st_aload_n q114_0 rfl
theorem x114_0 {st : List Value} {M : pj_Mem} {l : pj_Loc} {x : Nat} {o9 : Option Value × pj_Mem} : pj_Ends 114 (0, some (.ref x) :: l, st, M) o9 = pj_Ends 114 (1, some (.ref x) :: l, .ref x :: st, M) o9 := pj_xs (s114_0)
theorem q114_1 : pj_row 114 1 = some (.iconst 0, 1, 0, 0, 0) := by decide +kernel
theorem s114_1 {L : pj_Loc} {st : List Value} {M : pj_Mem}  : pj_step 114 (1, L, st, M) = some (2, L, .int 0 :: st, M) := st_iconst q114_1 (by decide +kernel)
theorem x114_1 {L : pj_Loc} {st : List Value} {M : pj_Mem}  {o9 : Option Value × pj_Mem} : pj_Ends 114 (1, L, st, M) o9 = pj_Ends 114 (2, L, .int 0 :: st, M) o9 := pj_xs (s114_1)
theorem q114_2 : pj_row 114 2 = some (.putfield 170, 3, 6, 14, 0) := by decide +kernel
theorem s114_2 {L : pj_Loc} {st : List Value} {N S : Nat} {H : pj_Heap} {o : Nat} {v : Value} : pj_step 114 (2, L, v :: .ref o :: st, (N, S, H)) = pj_set 5 L st (N, S, H) o (pj_fset (H o) 6 14 v) := st_putfield q114_2
theorem x114_2 {L : pj_Loc} {st : List Value} {N S : Nat} {H : pj_Heap} {o : Nat} {v : Value} {o9 : Option Value × pj_Mem} : pj_Ends 114 (2, L, v :: .ref o :: st, (N, S, H)) o9 = pj_then 114 o9 (pj_set 5 L st (N, S, H) o (pj_fset (H o) 6 14 v)) := pj_xt q114_2 rfl (pj_cl_nc rfl) (s114_2)
theorem q114_5 : pj_row 114 5 = some (.aload_n 0, 1, 0, 0, 0) := by decide +kernel
theorem s114_5 {st : List Value} {M : pj_Mem} {l : pj_Loc} {x : Nat} : pj_step 114 (5, some (.ref x) :: l, st, M) = some (6, some (.ref x) :: l, .ref x :: st, M) := st_aload_n q114_5 rfl
theorem x114_5 {st : List Value} {M : pj_Mem} {l : pj_Loc} {x : Nat} {o9 : Option Value × pj_Mem} : pj_Ends 114 (5, some (.ref x) :: l, st, M) o9 = pj_Ends 114 (6, some (.ref x) :: l, .ref x :: st, M) o9 := pj_xs (s114_5)
theorem q114_6 : pj_row 114 6 = some (.iconst 0, 1, 0, 0, 0) := by decide +kernel
theorem s114_6 {L : pj_Loc} {st : List Value} {M : pj_Mem}  : pj_step 114 (6, L, st, M) = some (7, L, .int 0 :: st, M) := st_iconst q114_6 (by decide +kernel)
theorem x114_6 {L : pj_Loc} {st : List Value} {M : pj_Mem}  {o9 : Option Value × pj_Mem} : pj_Ends 114 (6, L, st, M) o9 = pj_Ends 114 (7, L, .int 0 :: st, M) o9 := pj_xs (s114_6)
theorem q114_7 : pj_row 114 7 = some (.putfield 189, 3, 6, 17, 0) := by decide +kernel
theorem s114_7 {L : pj_Loc} {st : List Value} {N S : Nat} {H : pj_Heap} {o : Nat} {v : Value} : pj_step 114 (7, L, v :: .ref o :: st, (N, S, H)) = pj_set 10 L st (N, S, H) o (pj_fset (H o) 6 17 v) := st_putfield q114_7
theorem x114_7 {L : pj_Loc} {st : List Value} {N S : Nat} {H : pj_Heap} {o : Nat} {v : Value} {o9 : Option Value × pj_Mem} : pj_Ends 114 (7, L, v :: .ref o :: st, (N, S, H)) o9 = pj_then 114 o9 (pj_set 10 L st (N, S, H) o (pj_fset (H o) 6 17 v)) := pj_xt q114_7 rfl (pj_cl_nc rfl) (s114_7)
theorem q114_10 : pj_row 114 10 = some (.iconst 1, 1, 0, 0, 0) := by decide +kernel
theorem s114_10 {L : pj_Loc} {st : List Value} {M : pj_Mem}  : pj_step 114 (10, L, st, M) = some (11, L, .int 1 :: st, M) := st_iconst q114_10 (by decide +kernel)
theorem x114_10 {L : pj_Loc} {st : List Value} {M : pj_Mem}  {o9 : Option Value × pj_Mem} : pj_Ends 114 (10, L, st, M) o9 = pj_Ends 114 (11, L, .int 1 :: st, M) o9 := pj_xs (s114_10)
theorem q114_11 : pj_row 114 11 = some (.istore_n 1, 1, 0, 0, 0) := by decide +kernel
theorem s114_11 {st : List Value} {M : pj_Mem} {l : pj_Loc} {a0 a1 : Option Value} {x : Int32} (h : pj_long a0 = false) : pj_step 114 (11, a0 :: a1 :: l, .int x :: st, M) = some (12, a0 :: some (.int x) :: l, st, M) := st_istore_n q114_11 (pj_st_1 h)
theorem x114_11 {st : List Value} {M : pj_Mem} {l : pj_Loc} {a0 a1 : Option Value} {x : Int32} (h : pj_long a0 = false) {o9 : Option Value × pj_Mem} : pj_Ends 114 (11, a0 :: a1 :: l, .int x :: st, M) o9 = pj_Ends 114 (12, a0 :: some (.int x) :: l, st, M) o9 := pj_xs (s114_11 h)
theorem q114_12 : pj_row 114 12 = some (.iload_n 1, 1, 0, 0, 0) := by decide +kernel
theorem s114_12 {st : List Value} {M : pj_Mem} {l : pj_Loc} {a0 : Option Value} {x : Int32} : pj_step 114 (12, a0 :: some (.int x) :: l, st, M) = some (13, a0 :: some (.int x) :: l, .int x :: st, M) := st_iload_n q114_12 rfl
theorem x114_12 {st : List Value} {M : pj_Mem} {l : pj_Loc} {a0 : Option Value} {x : Int32} {o9 : Option Value × pj_Mem} : pj_Ends 114 (12, a0 :: some (.int x) :: l, st, M) o9 = pj_Ends 114 (13, a0 :: some (.int x) :: l, .int x :: st, M) o9 := pj_xs (s114_12)
theorem q114_13 : pj_row 114 13 = some (.ifCond .eq 35, 3, 48, 0, 0) := by decide +kernel
theorem s114_13 {L : pj_Loc} {st : List Value} {M : pj_Mem} {x : Int32} : pj_step 114 (13, L, .int x :: st, M) = some (if x = 0 then 48 else 16, L, st, M) := st_if_eq q114_13
theorem x114_13 {L : pj_Loc} {st : List Value} {M : pj_Mem} {x : Int32} {o9 : Option Value × pj_Mem} : pj_Ends 114 (13, L, .int x :: st, M) o9 = pj_Ends 114 (if x = 0 then 48 else 16, L, st, M) o9 := pj_xs (s114_13)
theorem q114_16 : pj_row 114 16 = some (.aload_n 0, 1, 0, 0, 0) := by decide +kernel
theorem s114_16 {st : List Value} {M : pj_Mem} {l : pj_Loc} {x : Nat} : pj_step 114 (16, some (.ref x) :: l, st, M) = some (17, some (.ref x) :: l, .ref x :: st, M) := st_aload_n q114_16 rfl
theorem x114_16 {st : List Value} {M : pj_Mem} {l : pj_Loc} {x : Nat} {o9 : Option Value × pj_Mem} : pj_Ends 114 (16, some (.ref x) :: l, st, M) o9 = pj_Ends 114 (17, some (.ref x) :: l, .ref x :: st, M) o9 := pj_xs (s114_16)
theorem q114_17 : pj_row 114 17 = some (.invokevirtual 192, 3, 115, 1, 0) := by decide +kernel
theorem e114_17 {L : pj_Loc} {st : List Value} {N S : Nat} {H : pj_Heap} {o : Option Value × pj_Mem} {M' : pj_Mem} {x0 : Nat} {r : Int32} (h4 : pj_le4 st = true) (hu : pj_isU 6 (H x0) = true) (h1 : pj_Ends 115 (0, [some (.ref x0), none], [], (N, S, H)) (some (.int r), M')) (h2 : pj_Ends 114 (20, L, .int r :: st, M') o) : pj_Ends 114 (17, L, .ref x0 :: st, (N, S, H)) o := ec_v1 q114_17 (Or.inl rfl) h4 hu rfl h1 h2
theorem q114_20 : pj_row 114 20 = some (.ifCond .ne 8, 3, 28, 0, 0) := by decide +kernel
theorem s114_20 {L : pj_Loc} {st : List Value} {M : pj_Mem} {x : Int32} : pj_step 114 (20, L, .int x :: st, M) = some (if ¬ x = 0 then 28 else 23, L, st, M) := st_if_ne q114_20
theorem x114_20 {L : pj_Loc} {st : List Value} {M : pj_Mem} {x : Int32} {o9 : Option Value × pj_Mem} : pj_Ends 114 (20, L, .int x :: st, M) o9 = pj_Ends 114 (if ¬ x = 0 then 28 else 23, L, st, M) o9 := pj_xs (s114_20)
theorem q114_23 : pj_row 114 23 = some (.aload_n 0, 1, 0, 0, 0) := by decide +kernel
theorem s114_23 {st : List Value} {M : pj_Mem} {l : pj_Loc} {x : Nat} : pj_step 114 (23, some (.ref x) :: l, st, M) = some (24, some (.ref x) :: l, .ref x :: st, M) := st_aload_n q114_23 rfl
theorem x114_23 {st : List Value} {M : pj_Mem} {l : pj_Loc} {x : Nat} {o9 : Option Value × pj_Mem} : pj_Ends 114 (23, some (.ref x) :: l, st, M) o9 = pj_Ends 114 (24, some (.ref x) :: l, .ref x :: st, M) o9 := pj_xs (s114_23)
theorem q114_24 : pj_row 114 24 = some (.getfield 170, 3, 6, 14, 0) := by decide +kernel
theorem s114_24 {L : pj_Loc} {st : List Value} {N S : Nat} {H : pj_Heap} {o : Nat} : pj_step 114 (24, L, .ref o :: st, (N, S, H)) = pj_pv 27 L st (N, S, H) (pj_fld (H o) 6 14) := st_getfield q114_24
theorem x114_24 {L : pj_Loc} {st : List Value} {N S : Nat} {H : pj_Heap} {o : Nat} {o9 : Option Value × pj_Mem} : pj_Ends 114 (24, L, .ref o :: st, (N, S, H)) o9 = pj_then 114 o9 (pj_pv 27 L st (N, S, H) (pj_fld (H o) 6 14)) := pj_xt q114_24 rfl (pj_cl_nc rfl) (s114_24)
theorem q114_27 : pj_row 114 27 = some (.ireturn, 1, 0, 0, 0) := by decide +kernel
theorem t114_27 {L : pj_Loc} {M : pj_Mem} {v : Int32} : pj_Ends 114 (27, L, [.int v], M) (some (.int v), M) := pj_Ends.ret q114_27 (pj_rtn_i rt114)
theorem q114_28 : pj_row 114 28 = some (.aload_n 0, 1, 0, 0, 0) := by decide +kernel
theorem s114_28 {st : List Value} {M : pj_Mem} {l : pj_Loc} {x : Nat} : pj_step 114 (28, some (.ref x) :: l, st, M) = some (29, some (.ref x) :: l, .ref x :: st, M) := st_aload_n q114_28 rfl
theorem x114_28 {st : List Value} {M : pj_Mem} {l : pj_Loc} {x : Nat} {o9 : Option Value × pj_Mem} : pj_Ends 114 (28, some (.ref x) :: l, st, M) o9 = pj_Ends 114 (29, some (.ref x) :: l, .ref x :: st, M) o9 := pj_xs (s114_28)
theorem q114_29 : pj_row 114 29 = some (.dup, 1, 0, 0, 0) := by decide +kernel
theorem s114_29 {L : pj_Loc} {st : List Value} {M : pj_Mem} {x : Nat} : pj_step 114 (29, L, .ref x :: st, M) = some (30, L, .ref x :: .ref x :: st, M) := st_dup_ref q114_29
theorem x114_29 {L : pj_Loc} {st : List Value} {M : pj_Mem} {x : Nat} {o9 : Option Value × pj_Mem} : pj_Ends 114 (29, L, .ref x :: st, M) o9 = pj_Ends 114 (30, L, .ref x :: .ref x :: st, M) o9 := pj_xs (s114_29)
theorem s114_29i {L : pj_Loc} {st : List Value} {M : pj_Mem} {x : Int32} : pj_step 114 (29, L, .int x :: st, M) = some (30, L, .int x :: .int x :: st, M) := st_dup_int q114_29
theorem x114_29i {L : pj_Loc} {st : List Value} {M : pj_Mem} {x : Int32} {o9 : Option Value × pj_Mem} : pj_Ends 114 (29, L, .int x :: st, M) o9 = pj_Ends 114 (30, L, .int x :: .int x :: st, M) o9 := pj_xs (s114_29i)
theorem q114_30 : pj_row 114 30 = some (.getfield 189, 3, 6, 17, 0) := by decide +kernel
theorem s114_30 {L : pj_Loc} {st : List Value} {N S : Nat} {H : pj_Heap} {o : Nat} : pj_step 114 (30, L, .ref o :: st, (N, S, H)) = pj_pv 33 L st (N, S, H) (pj_fld (H o) 6 17) := st_getfield q114_30
theorem x114_30 {L : pj_Loc} {st : List Value} {N S : Nat} {H : pj_Heap} {o : Nat} {o9 : Option Value × pj_Mem} : pj_Ends 114 (30, L, .ref o :: st, (N, S, H)) o9 = pj_then 114 o9 (pj_pv 33 L st (N, S, H) (pj_fld (H o) 6 17)) := pj_xt q114_30 rfl (pj_cl_nc rfl) (s114_30)
theorem q114_33 : pj_row 114 33 = some (.iconst 1, 1, 0, 0, 0) := by decide +kernel
theorem s114_33 {L : pj_Loc} {st : List Value} {M : pj_Mem}  : pj_step 114 (33, L, st, M) = some (34, L, .int 1 :: st, M) := st_iconst q114_33 (by decide +kernel)
theorem x114_33 {L : pj_Loc} {st : List Value} {M : pj_Mem}  {o9 : Option Value × pj_Mem} : pj_Ends 114 (33, L, st, M) o9 = pj_Ends 114 (34, L, .int 1 :: st, M) o9 := pj_xs (s114_33)
theorem q114_34 : pj_row 114 34 = some (.iadd, 1, 0, 0, 0) := by decide +kernel
theorem s114_34 {L : pj_Loc} {st : List Value} {M : pj_Mem} {x y : Int32} : pj_step 114 (34, L, .int y :: .int x :: st, M) = some (35, L, .int (x + y) :: st, M) := st_iadd q114_34
theorem x114_34 {L : pj_Loc} {st : List Value} {M : pj_Mem} {x y : Int32} {o9 : Option Value × pj_Mem} : pj_Ends 114 (34, L, .int y :: .int x :: st, M) o9 = pj_Ends 114 (35, L, .int (x + y) :: st, M) o9 := pj_xs (s114_34)
theorem q114_35 : pj_row 114 35 = some (.putfield 189, 3, 6, 17, 0) := by decide +kernel
theorem s114_35 {L : pj_Loc} {st : List Value} {N S : Nat} {H : pj_Heap} {o : Nat} {v : Value} : pj_step 114 (35, L, v :: .ref o :: st, (N, S, H)) = pj_set 38 L st (N, S, H) o (pj_fset (H o) 6 17 v) := st_putfield q114_35
theorem x114_35 {L : pj_Loc} {st : List Value} {N S : Nat} {H : pj_Heap} {o : Nat} {v : Value} {o9 : Option Value × pj_Mem} : pj_Ends 114 (35, L, v :: .ref o :: st, (N, S, H)) o9 = pj_then 114 o9 (pj_set 38 L st (N, S, H) o (pj_fset (H o) 6 17 v)) := pj_xt q114_35 rfl (pj_cl_nc rfl) (s114_35)
theorem q114_38 : pj_row 114 38 = some (.aload_n 0, 1, 0, 0, 0) := by decide +kernel
theorem s114_38 {st : List Value} {M : pj_Mem} {l : pj_Loc} {x : Nat} : pj_step 114 (38, some (.ref x) :: l, st, M) = some (39, some (.ref x) :: l, .ref x :: st, M) := st_aload_n q114_38 rfl
theorem x114_38 {st : List Value} {M : pj_Mem} {l : pj_Loc} {x : Nat} {o9 : Option Value × pj_Mem} : pj_Ends 114 (38, some (.ref x) :: l, st, M) o9 = pj_Ends 114 (39, some (.ref x) :: l, .ref x :: st, M) o9 := pj_xs (s114_38)
theorem q114_39 : pj_row 114 39 = some (.bipush 59, 2, 0, 0, 0) := by decide +kernel
theorem s114_39 {L : pj_Loc} {st : List Value} {M : pj_Mem}  : pj_step 114 (39, L, st, M) = some (41, L, .int 59 :: st, M) := st_bipush q114_39 (by decide +kernel)
theorem x114_39 {L : pj_Loc} {st : List Value} {M : pj_Mem}  {o9 : Option Value × pj_Mem} : pj_Ends 114 (39, L, st, M) o9 = pj_Ends 114 (41, L, .int 59 :: st, M) o9 := pj_xs (s114_39)
theorem q114_41 : pj_row 114 41 = some (.invokevirtual 176, 3, 116, 2, 0) := by decide +kernel
theorem e114_41 {L : pj_Loc} {st : List Value} {N S : Nat} {H : pj_Heap} {o : Option Value × pj_Mem} {M' : pj_Mem} {x0 : Nat} {x1 : Int32} {r : Int32} (h4 : pj_le4 st = true) (hu : pj_isU 6 (H x0) = true) (h1 : pj_Ends 116 (0, [some (.ref x0), some (.int x1), none], [], (N, S, H)) (some (.int r), M')) (h2 : pj_Ends 114 (44, L, .int r :: st, M') o) : pj_Ends 114 (41, L, .int x1 :: .ref x0 :: st, (N, S, H)) o := ec_v2 q114_41 (Or.inl rfl) h4 hu rfl h1 h2
theorem q114_44 : pj_row 114 44 = some (.istore_n 1, 1, 0, 0, 0) := by decide +kernel
theorem s114_44 {st : List Value} {M : pj_Mem} {l : pj_Loc} {a0 a1 : Option Value} {x : Int32} (h : pj_long a0 = false) : pj_step 114 (44, a0 :: a1 :: l, .int x :: st, M) = some (45, a0 :: some (.int x) :: l, st, M) := st_istore_n q114_44 (pj_st_1 h)
theorem x114_44 {st : List Value} {M : pj_Mem} {l : pj_Loc} {a0 a1 : Option Value} {x : Int32} (h : pj_long a0 = false) {o9 : Option Value × pj_Mem} : pj_Ends 114 (44, a0 :: a1 :: l, .int x :: st, M) o9 = pj_Ends 114 (45, a0 :: some (.int x) :: l, st, M) o9 := pj_xs (s114_44 h)
theorem q114_45 : pj_row 114 45 = some (.goto (-33), 3, 12, 0, 0) := by decide +kernel
theorem s114_45 {L : pj_Loc} {st : List Value} {M : pj_Mem}  : pj_step 114 (45, L, st, M) = some (12, L, st, M) := st_goto q114_45
theorem x114_45 {L : pj_Loc} {st : List Value} {M : pj_Mem}  {o9 : Option Value × pj_Mem} : pj_Ends 114 (45, L, st, M) o9 = pj_Ends 114 (12, L, st, M) o9 := pj_xs (s114_45)
theorem q114_48 : pj_row 114 48 = some (.aload_n 0, 1, 0, 0, 0) := by decide +kernel
theorem s114_48 {st : List Value} {M : pj_Mem} {l : pj_Loc} {x : Nat} : pj_step 114 (48, some (.ref x) :: l, st, M) = some (49, some (.ref x) :: l, .ref x :: st, M) := st_aload_n q114_48 rfl
theorem x114_48 {st : List Value} {M : pj_Mem} {l : pj_Loc} {x : Nat} {o9 : Option Value × pj_Mem} : pj_Ends 114 (48, some (.ref x) :: l, st, M) o9 = pj_Ends 114 (49, some (.ref x) :: l, .ref x :: st, M) o9 := pj_xs (s114_48)
theorem q114_49 : pj_row 114 49 = some (.getfield 170, 3, 6, 14, 0) := by decide +kernel
theorem s114_49 {L : pj_Loc} {st : List Value} {N S : Nat} {H : pj_Heap} {o : Nat} : pj_step 114 (49, L, .ref o :: st, (N, S, H)) = pj_pv 52 L st (N, S, H) (pj_fld (H o) 6 14) := st_getfield q114_49
theorem x114_49 {L : pj_Loc} {st : List Value} {N S : Nat} {H : pj_Heap} {o : Nat} {o9 : Option Value × pj_Mem} : pj_Ends 114 (49, L, .ref o :: st, (N, S, H)) o9 = pj_then 114 o9 (pj_pv 52 L st (N, S, H) (pj_fld (H o) 6 14)) := pj_xt q114_49 rfl (pj_cl_nc rfl) (s114_49)
theorem q114_52 : pj_row 114 52 = some (.aload_n 0, 1, 0, 0, 0) := by decide +kernel
theorem s114_52 {st : List Value} {M : pj_Mem} {l : pj_Loc} {x : Nat} : pj_step 114 (52, some (.ref x) :: l, st, M) = some (53, some (.ref x) :: l, .ref x :: st, M) := st_aload_n q114_52 rfl
theorem x114_52 {st : List Value} {M : pj_Mem} {l : pj_Loc} {x : Nat} {o9 : Option Value × pj_Mem} : pj_Ends 114 (52, some (.ref x) :: l, st, M) o9 = pj_Ends 114 (53, some (.ref x) :: l, .ref x :: st, M) o9 := pj_xs (s114_52)
theorem q114_53 : pj_row 114 53 = some (.getfield 152, 3, 6, 13, 0) := by decide +kernel
theorem s114_53 {L : pj_Loc} {st : List Value} {N S : Nat} {H : pj_Heap} {o : Nat} : pj_step 114 (53, L, .ref o :: st, (N, S, H)) = pj_pv 56 L st (N, S, H) (pj_fld (H o) 6 13) := st_getfield q114_53
theorem x114_53 {L : pj_Loc} {st : List Value} {N S : Nat} {H : pj_Heap} {o : Nat} {o9 : Option Value × pj_Mem} : pj_Ends 114 (53, L, .ref o :: st, (N, S, H)) o9 = pj_then 114 o9 (pj_pv 56 L st (N, S, H) (pj_fld (H o) 6 13)) := pj_xt q114_53 rfl (pj_cl_nc rfl) (s114_53)
theorem q114_56 : pj_row 114 56 = some (.if_icmp .ne 8, 3, 64, 0, 0) := by decide +kernel
theorem s114_56 {L : pj_Loc} {st : List Value} {M : pj_Mem} {x y : Int32} : pj_step 114 (56, L, .int y :: .int x :: st, M) = some (if ¬ x = y then 64 else 59, L, st, M) := st_icmp_ne q114_56
theorem x114_56 {L : pj_Loc} {st : List Value} {M : pj_Mem} {x y : Int32} {o9 : Option Value × pj_Mem} : pj_Ends 114 (56, L, .int y :: .int x :: st, M) o9 = pj_Ends 114 (if ¬ x = y then 64 else 59, L, st, M) o9 := pj_xs (s114_56)
theorem q114_59 : pj_row 114 59 = some (.bipush (-6), 2, 0, 0, 0) := by decide +kernel
theorem s114_59 {L : pj_Loc} {st : List Value} {M : pj_Mem}  : pj_step 114 (59, L, st, M) = some (61, L, .int (-6) :: st, M) := st_bipush q114_59 (by decide +kernel)
theorem x114_59 {L : pj_Loc} {st : List Value} {M : pj_Mem}  {o9 : Option Value × pj_Mem} : pj_Ends 114 (59, L, st, M) o9 = pj_Ends 114 (61, L, .int (-6) :: st, M) o9 := pj_xs (s114_59)
theorem q114_61 : pj_row 114 61 = some (.goto 7, 3, 68, 0, 0) := by decide +kernel
theorem s114_61 {L : pj_Loc} {st : List Value} {M : pj_Mem}  : pj_step 114 (61, L, st, M) = some (68, L, st, M) := st_goto q114_61
theorem x114_61 {L : pj_Loc} {st : List Value} {M : pj_Mem}  {o9 : Option Value × pj_Mem} : pj_Ends 114 (61, L, st, M) o9 = pj_Ends 114 (68, L, st, M) o9 := pj_xs (s114_61)
theorem q114_64 : pj_row 114 64 = some (.aload_n 0, 1, 0, 0, 0) := by decide +kernel
theorem s114_64 {st : List Value} {M : pj_Mem} {l : pj_Loc} {x : Nat} : pj_step 114 (64, some (.ref x) :: l, st, M) = some (65, some (.ref x) :: l, .ref x :: st, M) := st_aload_n q114_64 rfl
theorem x114_64 {st : List Value} {M : pj_Mem} {l : pj_Loc} {x : Nat} {o9 : Option Value × pj_Mem} : pj_Ends 114 (64, some (.ref x) :: l, st, M) o9 = pj_Ends 114 (65, some (.ref x) :: l, .ref x :: st, M) o9 := pj_xs (s114_64)
theorem q114_65 : pj_row 114 65 = some (.getfield 170, 3, 6, 14, 0) := by decide +kernel
theorem s114_65 {L : pj_Loc} {st : List Value} {N S : Nat} {H : pj_Heap} {o : Nat} : pj_step 114 (65, L, .ref o :: st, (N, S, H)) = pj_pv 68 L st (N, S, H) (pj_fld (H o) 6 14) := st_getfield q114_65
theorem x114_65 {L : pj_Loc} {st : List Value} {N S : Nat} {H : pj_Heap} {o : Nat} {o9 : Option Value × pj_Mem} : pj_Ends 114 (65, L, .ref o :: st, (N, S, H)) o9 = pj_then 114 o9 (pj_pv 68 L st (N, S, H) (pj_fld (H o) 6 14)) := pj_xt q114_65 rfl (pj_cl_nc rfl) (s114_65)
theorem q114_68 : pj_row 114 68 = some (.ireturn, 1, 0, 0, 0) := by decide +kernel
theorem t114_68 {L : pj_Loc} {M : pj_Mem} {v : Int32} : pj_Ends 114 (68, L, [.int v], M) (some (.int v), M) := pj_Ends.ret q114_68 (pj_rtn_i rt114)
theorem rt115 : pj_rt 115 = some .boolean := rfl
theorem q115_0 : pj_row 115 0 = some (.iconst 0, 1, 0, 0, 0) := by decide +kernel
theorem s115_0 {L : pj_Loc} {st : List Value} {M : pj_Mem}  : pj_step 115 (0, L, st, M) = some (1, L, .int 0 :: st, M) := st_iconst q115_0 (by decide +kernel)
theorem x115_0 {L : pj_Loc} {st : List Value} {M : pj_Mem}  {o9 : Option Value × pj_Mem} : pj_Ends 115 (0, L, st, M) o9 = pj_Ends 115 (1, L, .int 0 :: st, M) o9 := pj_xs (s115_0)
theorem q115_1 : pj_row 115 1 = some (.istore_n 1, 1, 0, 0, 0) := by decide +kernel
theorem s115_1 {st : List Value} {M : pj_Mem} {l : pj_Loc} {a0 a1 : Option Value} {x : Int32} (h : pj_long a0 = false) : pj_step 115 (1, a0 :: a1 :: l, .int x :: st, M) = some (2, a0 :: some (.int x) :: l, st, M) := st_istore_n q115_1 (pj_st_1 h)
theorem x115_1 {st : List Value} {M : pj_Mem} {l : pj_Loc} {a0 a1 : Option Value} {x : Int32} (h : pj_long a0 = false) {o9 : Option Value × pj_Mem} : pj_Ends 115 (1, a0 :: a1 :: l, .int x :: st, M) o9 = pj_Ends 115 (2, a0 :: some (.int x) :: l, st, M) o9 := pj_xs (s115_1 h)
theorem q115_2 : pj_row 115 2 = some (.iload_n 1, 1, 0, 0, 0) := by decide +kernel
theorem s115_2 {st : List Value} {M : pj_Mem} {l : pj_Loc} {a0 : Option Value} {x : Int32} : pj_step 115 (2, a0 :: some (.int x) :: l, st, M) = some (3, a0 :: some (.int x) :: l, .int x :: st, M) := st_iload_n q115_2 rfl
theorem x115_2 {st : List Value} {M : pj_Mem} {l : pj_Loc} {a0 : Option Value} {x : Int32} {o9 : Option Value × pj_Mem} : pj_Ends 115 (2, a0 :: some (.int x) :: l, st, M) o9 = pj_Ends 115 (3, a0 :: some (.int x) :: l, .int x :: st, M) o9 := pj_xs (s115_2)
theorem q115_3 : pj_row 115 3 = some (.iconst 3, 1, 0, 0, 0) := by decide +kernel
theorem s115_3 {L : pj_Loc} {st : List Value} {M : pj_Mem}  : pj_step 115 (3, L, st, M) = some (4, L, .int 3 :: st, M) := st_iconst q115_3 (by decide +kernel)
theorem x115_3 {L : pj_Loc} {st : List Value} {M : pj_Mem}  {o9 : Option Value × pj_Mem} : pj_Ends 115 (3, L, st, M) o9 = pj_Ends 115 (4, L, .int 3 :: st, M) o9 := pj_xs (s115_3)
theorem q115_4 : pj_row 115 4 = some (.if_icmp .ge 41, 3, 45, 0, 0) := by decide +kernel
theorem s115_4 {L : pj_Loc} {st : List Value} {M : pj_Mem} {x y : Int32} : pj_step 115 (4, L, .int y :: .int x :: st, M) = some (if y ≤ x then 45 else 7, L, st, M) := st_icmp_ge q115_4
theorem x115_4 {L : pj_Loc} {st : List Value} {M : pj_Mem} {x y : Int32} {o9 : Option Value × pj_Mem} : pj_Ends 115 (4, L, .int y :: .int x :: st, M) o9 = pj_Ends 115 (if y ≤ x then 45 else 7, L, st, M) o9 := pj_xs (s115_4)
theorem q115_7 : pj_row 115 7 = some (.iload_n 1, 1, 0, 0, 0) := by decide +kernel
theorem s115_7 {st : List Value} {M : pj_Mem} {l : pj_Loc} {a0 : Option Value} {x : Int32} : pj_step 115 (7, a0 :: some (.int x) :: l, st, M) = some (8, a0 :: some (.int x) :: l, .int x :: st, M) := st_iload_n q115_7 rfl
theorem x115_7 {st : List Value} {M : pj_Mem} {l : pj_Loc} {a0 : Option Value} {x : Int32} {o9 : Option Value × pj_Mem} : pj_Ends 115 (7, a0 :: some (.int x) :: l, st, M) o9 = pj_Ends 115 (8, a0 :: some (.int x) :: l, .int x :: st, M) o9 := pj_xs (s115_7)
theorem q115_8 : pj_row 115 8 = some (.ifCond .le 12, 3, 20, 0, 0) := by decide +kernel
theorem s115_8 {L : pj_Loc} {st : List Value} {M : pj_Mem} {x : Int32} : pj_step 115 (8, L, .int x :: st, M) = some (if x ≤ 0 then 20 else 11, L, st, M) := st_if_le q115_8
theorem x115_8 {L : pj_Loc} {st : List Value} {M : pj_Mem} {x : Int32} {o9 : Option Value × pj_Mem} : pj_Ends 115 (8, L, .int x :: st, M) o9 = pj_Ends 115 (if x ≤ 0 then 20 else 11, L, st, M) o9 := pj_xs (s115_8)
theorem q115_11 : pj_row 115 11 = some (.aload_n 0, 1, 0, 0, 0) := by decide +kernel
theorem s115_11 {st : List Value} {M : pj_Mem} {l : pj_Loc} {x : Nat} : pj_step 115 (11, some (.ref x) :: l, st, M) = some (12, some (.ref x) :: l, .ref x :: st, M) := st_aload_n q115_11 rfl
theorem x115_11 {st : List Value} {M : pj_Mem} {l : pj_Loc} {x : Nat} {o9 : Option Value × pj_Mem} : pj_Ends 115 (11, some (.ref x) :: l, st, M) o9 = pj_Ends 115 (12, some (.ref x) :: l, .ref x :: st, M) o9 := pj_xs (s115_11)
theorem q115_12 : pj_row 115 12 = some (.bipush 44, 2, 0, 0, 0) := by decide +kernel
theorem s115_12 {L : pj_Loc} {st : List Value} {M : pj_Mem}  : pj_step 115 (12, L, st, M) = some (14, L, .int 44 :: st, M) := st_bipush q115_12 (by decide +kernel)
theorem x115_12 {L : pj_Loc} {st : List Value} {M : pj_Mem}  {o9 : Option Value × pj_Mem} : pj_Ends 115 (12, L, st, M) o9 = pj_Ends 115 (14, L, .int 44 :: st, M) o9 := pj_xs (s115_12)
theorem q115_14 : pj_row 115 14 = some (.invokevirtual 176, 3, 116, 2, 0) := by decide +kernel
theorem e115_14 {L : pj_Loc} {st : List Value} {N S : Nat} {H : pj_Heap} {o : Option Value × pj_Mem} {M' : pj_Mem} {x0 : Nat} {x1 : Int32} {r : Int32} (h4 : pj_le4 st = true) (hu : pj_isU 6 (H x0) = true) (h1 : pj_Ends 116 (0, [some (.ref x0), some (.int x1), none], [], (N, S, H)) (some (.int r), M')) (h2 : pj_Ends 115 (17, L, .int r :: st, M') o) : pj_Ends 115 (14, L, .int x1 :: .ref x0 :: st, (N, S, H)) o := ec_v2 q115_14 (Or.inl rfl) h4 hu rfl h1 h2
theorem q115_17 : pj_row 115 17 = some (.ifCond .eq 10, 3, 27, 0, 0) := by decide +kernel
theorem s115_17 {L : pj_Loc} {st : List Value} {M : pj_Mem} {x : Int32} : pj_step 115 (17, L, .int x :: st, M) = some (if x = 0 then 27 else 20, L, st, M) := st_if_eq q115_17
theorem x115_17 {L : pj_Loc} {st : List Value} {M : pj_Mem} {x : Int32} {o9 : Option Value × pj_Mem} : pj_Ends 115 (17, L, .int x :: st, M) o9 = pj_Ends 115 (if x = 0 then 27 else 20, L, st, M) o9 := pj_xs (s115_17)
theorem q115_20 : pj_row 115 20 = some (.aload_n 0, 1, 0, 0, 0) := by decide +kernel
theorem s115_20 {st : List Value} {M : pj_Mem} {l : pj_Loc} {x : Nat} : pj_step 115 (20, some (.ref x) :: l, st, M) = some (21, some (.ref x) :: l, .ref x :: st, M) := st_aload_n q115_20 rfl
theorem x115_20 {st : List Value} {M : pj_Mem} {l : pj_Loc} {x : Nat} {o9 : Option Value × pj_Mem} : pj_Ends 115 (20, some (.ref x) :: l, st, M) o9 = pj_Ends 115 (21, some (.ref x) :: l, .ref x :: st, M) o9 := pj_xs (s115_20)
theorem q115_21 : pj_row 115 21 = some (.invokevirtual 182, 3, 118, 1, 0) := by decide +kernel
theorem e115_21 {L : pj_Loc} {st : List Value} {N S : Nat} {H : pj_Heap} {o : Option Value × pj_Mem} {M' : pj_Mem} {x0 : Nat} {r : Int32} (h4 : pj_le4 st = true) (hu : pj_isU 6 (H x0) = true) (h1 : pj_Ends 118 (0, [some (.ref x0), none], [], (N, S, H)) (some (.int r), M')) (h2 : pj_Ends 115 (24, L, .int r :: st, M') o) : pj_Ends 115 (21, L, .ref x0 :: st, (N, S, H)) o := ec_v1 q115_21 (Or.inl rfl) h4 hu rfl h1 h2
theorem q115_24 : pj_row 115 24 = some (.ifCond .ne 5, 3, 29, 0, 0) := by decide +kernel
theorem s115_24 {L : pj_Loc} {st : List Value} {M : pj_Mem} {x : Int32} : pj_step 115 (24, L, .int x :: st, M) = some (if ¬ x = 0 then 29 else 27, L, st, M) := st_if_ne q115_24
theorem x115_24 {L : pj_Loc} {st : List Value} {M : pj_Mem} {x : Int32} {o9 : Option Value × pj_Mem} : pj_Ends 115 (24, L, .int x :: st, M) o9 = pj_Ends 115 (if ¬ x = 0 then 29 else 27, L, st, M) o9 := pj_xs (s115_24)
theorem q115_27 : pj_row 115 27 = some (.iconst 0, 1, 0, 0, 0) := by decide +kernel
theorem s115_27 {L : pj_Loc} {st : List Value} {M : pj_Mem}  : pj_step 115 (27, L, st, M) = some (28, L, .int 0 :: st, M) := st_iconst q115_27 (by decide +kernel)
theorem x115_27 {L : pj_Loc} {st : List Value} {M : pj_Mem}  {o9 : Option Value × pj_Mem} : pj_Ends 115 (27, L, st, M) o9 = pj_Ends 115 (28, L, .int 0 :: st, M) o9 := pj_xs (s115_27)
theorem q115_28 : pj_row 115 28 = some (.ireturn, 1, 0, 0, 0) := by decide +kernel
theorem t115_28 {L : pj_Loc} {M : pj_Mem} {v : Int32} (hv : v = 0 ∨ v = 1) : pj_Ends 115 (28, L, [.int v], M) (some (.int v), M) := pj_Ends.ret q115_28 (pj_rtn_z rt115 hv)
theorem q115_29 : pj_row 115 29 = some (.aload_n 0, 1, 0, 0, 0) := by decide +kernel
theorem s115_29 {st : List Value} {M : pj_Mem} {l : pj_Loc} {x : Nat} : pj_step 115 (29, some (.ref x) :: l, st, M) = some (30, some (.ref x) :: l, .ref x :: st, M) := st_aload_n q115_29 rfl
theorem x115_29 {st : List Value} {M : pj_Mem} {l : pj_Loc} {x : Nat} {o9 : Option Value × pj_Mem} : pj_Ends 115 (29, some (.ref x) :: l, st, M) o9 = pj_Ends 115 (30, some (.ref x) :: l, .ref x :: st, M) o9 := pj_xs (s115_29)
theorem q115_30 : pj_row 115 30 = some (.getfield 25, 3, 6, 6, 0) := by decide +kernel
theorem s115_30 {L : pj_Loc} {st : List Value} {N S : Nat} {H : pj_Heap} {o : Nat} : pj_step 115 (30, L, .ref o :: st, (N, S, H)) = pj_pv 33 L st (N, S, H) (pj_fld (H o) 6 6) := st_getfield q115_30
theorem x115_30 {L : pj_Loc} {st : List Value} {N S : Nat} {H : pj_Heap} {o : Nat} {o9 : Option Value × pj_Mem} : pj_Ends 115 (30, L, .ref o :: st, (N, S, H)) o9 = pj_then 115 o9 (pj_pv 33 L st (N, S, H) (pj_fld (H o) 6 6)) := pj_xt q115_30 rfl (pj_cl_nc rfl) (s115_30)
theorem q115_33 : pj_row 115 33 = some (.iload_n 1, 1, 0, 0, 0) := by decide +kernel
theorem s115_33 {st : List Value} {M : pj_Mem} {l : pj_Loc} {a0 : Option Value} {x : Int32} : pj_step 115 (33, a0 :: some (.int x) :: l, st, M) = some (34, a0 :: some (.int x) :: l, .int x :: st, M) := st_iload_n q115_33 rfl
theorem x115_33 {st : List Value} {M : pj_Mem} {l : pj_Loc} {a0 : Option Value} {x : Int32} {o9 : Option Value × pj_Mem} : pj_Ends 115 (33, a0 :: some (.int x) :: l, st, M) o9 = pj_Ends 115 (34, a0 :: some (.int x) :: l, .int x :: st, M) o9 := pj_xs (s115_33)
theorem q115_34 : pj_row 115 34 = some (.aload_n 0, 1, 0, 0, 0) := by decide +kernel
theorem s115_34 {st : List Value} {M : pj_Mem} {l : pj_Loc} {x : Nat} : pj_step 115 (34, some (.ref x) :: l, st, M) = some (35, some (.ref x) :: l, .ref x :: st, M) := st_aload_n q115_34 rfl
theorem x115_34 {st : List Value} {M : pj_Mem} {l : pj_Loc} {x : Nat} {o9 : Option Value × pj_Mem} : pj_Ends 115 (34, some (.ref x) :: l, st, M) o9 = pj_Ends 115 (35, some (.ref x) :: l, .ref x :: st, M) o9 := pj_xs (s115_34)
theorem q115_35 : pj_row 115 35 = some (.getfield 179, 3, 6, 15, 0) := by decide +kernel
theorem s115_35 {L : pj_Loc} {st : List Value} {N S : Nat} {H : pj_Heap} {o : Nat} : pj_step 115 (35, L, .ref o :: st, (N, S, H)) = pj_pv 38 L st (N, S, H) (pj_fld (H o) 6 15) := st_getfield q115_35
theorem x115_35 {L : pj_Loc} {st : List Value} {N S : Nat} {H : pj_Heap} {o : Nat} {o9 : Option Value × pj_Mem} : pj_Ends 115 (35, L, .ref o :: st, (N, S, H)) o9 = pj_then 115 o9 (pj_pv 38 L st (N, S, H) (pj_fld (H o) 6 15)) := pj_xt q115_35 rfl (pj_cl_nc rfl) (s115_35)
theorem q115_38 : pj_row 115 38 = some (.iastore, 1, 0, 0, 0) := by decide +kernel
theorem s115_38 {L : pj_Loc} {st : List Value} {N S : Nat} {H : pj_Heap} {o : Nat} {i x : Int32} : pj_step 115 (38, L, .int x :: .int i :: .ref o :: st, (N, S, H)) = pj_set 39 L st (N, S, H) o (pj_ars (H o) 0 i x) := st_iastore q115_38
theorem x115_38 {L : pj_Loc} {st : List Value} {N S : Nat} {H : pj_Heap} {o : Nat} {i x : Int32} {o9 : Option Value × pj_Mem} : pj_Ends 115 (38, L, .int x :: .int i :: .ref o :: st, (N, S, H)) o9 = pj_then 115 o9 (pj_set 39 L st (N, S, H) o (pj_ars (H o) 0 i x)) := pj_xt q115_38 rfl (pj_cl_nc rfl) (s115_38)
theorem q115_39 : pj_row 115 39 = some (.iinc 1 1, 3, 0, 0, 0) := by decide +kernel
theorem s115_39 {st : List Value} {M : pj_Mem} {l : pj_Loc} {a0 : Option Value} {x : Int32} (h : pj_long a0 = false) : pj_step 115 (39, a0 :: some (.int x) :: l, st, M) = some (42, a0 :: some (.int (x + 1)) :: l, st, M) := st_iinc q115_39 rfl (congrArg (fun y => x + y) (show Int32.ofInt 1 = 1 by decide +kernel)) (pj_st_1 h)
theorem x115_39 {st : List Value} {M : pj_Mem} {l : pj_Loc} {a0 : Option Value} {x : Int32} (h : pj_long a0 = false) {o9 : Option Value × pj_Mem} : pj_Ends 115 (39, a0 :: some (.int x) :: l, st, M) o9 = pj_Ends 115 (42, a0 :: some (.int (x + 1)) :: l, st, M) o9 := pj_xs (s115_39 h)
theorem q115_42 : pj_row 115 42 = some (.goto (-40), 3, 2, 0, 0) := by decide +kernel
theorem s115_42 {L : pj_Loc} {st : List Value} {M : pj_Mem}  : pj_step 115 (42, L, st, M) = some (2, L, st, M) := st_goto q115_42
theorem x115_42 {L : pj_Loc} {st : List Value} {M : pj_Mem}  {o9 : Option Value × pj_Mem} : pj_Ends 115 (42, L, st, M) o9 = pj_Ends 115 (2, L, st, M) o9 := pj_xs (s115_42)
theorem q115_45 : pj_row 115 45 = some (.aload_n 0, 1, 0, 0, 0) := by decide +kernel
theorem s115_45 {st : List Value} {M : pj_Mem} {l : pj_Loc} {x : Nat} : pj_step 115 (45, some (.ref x) :: l, st, M) = some (46, some (.ref x) :: l, .ref x :: st, M) := st_aload_n q115_45 rfl
theorem x115_45 {st : List Value} {M : pj_Mem} {l : pj_Loc} {x : Nat} {o9 : Option Value × pj_Mem} : pj_Ends 115 (45, some (.ref x) :: l, st, M) o9 = pj_Ends 115 (46, some (.ref x) :: l, .ref x :: st, M) o9 := pj_xs (s115_45)
theorem q115_46 : pj_row 115 46 = some (.aload_n 0, 1, 0, 0, 0) := by decide +kernel
theorem s115_46 {st : List Value} {M : pj_Mem} {l : pj_Loc} {x : Nat} : pj_step 115 (46, some (.ref x) :: l, st, M) = some (47, some (.ref x) :: l, .ref x :: st, M) := st_aload_n q115_46 rfl
theorem x115_46 {st : List Value} {M : pj_Mem} {l : pj_Loc} {x : Nat} {o9 : Option Value × pj_Mem} : pj_Ends 115 (46, some (.ref x) :: l, st, M) o9 = pj_Ends 115 (47, some (.ref x) :: l, .ref x :: st, M) o9 := pj_xs (s115_46)
theorem q115_47 : pj_row 115 47 = some (.bipush 99, 2, 0, 0, 0) := by decide +kernel
theorem s115_47 {L : pj_Loc} {st : List Value} {M : pj_Mem}  : pj_step 115 (47, L, st, M) = some (49, L, .int 99 :: st, M) := st_bipush q115_47 (by decide +kernel)
theorem x115_47 {L : pj_Loc} {st : List Value} {M : pj_Mem}  {o9 : Option Value × pj_Mem} : pj_Ends 115 (47, L, st, M) o9 = pj_Ends 115 (49, L, .int 99 :: st, M) o9 := pj_xs (s115_47)
theorem q115_49 : pj_row 115 49 = some (.invokevirtual 176, 3, 116, 2, 0) := by decide +kernel
theorem e115_49 {L : pj_Loc} {st : List Value} {N S : Nat} {H : pj_Heap} {o : Option Value × pj_Mem} {M' : pj_Mem} {x0 : Nat} {x1 : Int32} {r : Int32} (h4 : pj_le4 st = true) (hu : pj_isU 6 (H x0) = true) (h1 : pj_Ends 116 (0, [some (.ref x0), some (.int x1), none], [], (N, S, H)) (some (.int r), M')) (h2 : pj_Ends 115 (52, L, .int r :: st, M') o) : pj_Ends 115 (49, L, .int x1 :: .ref x0 :: st, (N, S, H)) o := ec_v2 q115_49 (Or.inl rfl) h4 hu rfl h1 h2
theorem q115_52 : pj_row 115 52 = some (.putfield 185, 3, 6, 16, 0) := by decide +kernel
theorem s115_52 {L : pj_Loc} {st : List Value} {N S : Nat} {H : pj_Heap} {o : Nat} {v : Value} : pj_step 115 (52, L, v :: .ref o :: st, (N, S, H)) = pj_set 55 L st (N, S, H) o (pj_fset (H o) 6 16 v) := st_putfield q115_52
theorem x115_52 {L : pj_Loc} {st : List Value} {N S : Nat} {H : pj_Heap} {o : Nat} {v : Value} {o9 : Option Value × pj_Mem} : pj_Ends 115 (52, L, v :: .ref o :: st, (N, S, H)) o9 = pj_then 115 o9 (pj_set 55 L st (N, S, H) o (pj_fset (H o) 6 16 v)) := pj_xt q115_52 rfl (pj_cl_nc rfl) (s115_52)
theorem q115_55 : pj_row 115 55 = some (.iconst 1, 1, 0, 0, 0) := by decide +kernel
theorem s115_55 {L : pj_Loc} {st : List Value} {M : pj_Mem}  : pj_step 115 (55, L, st, M) = some (56, L, .int 1 :: st, M) := st_iconst q115_55 (by decide +kernel)
theorem x115_55 {L : pj_Loc} {st : List Value} {M : pj_Mem}  {o9 : Option Value × pj_Mem} : pj_Ends 115 (55, L, st, M) o9 = pj_Ends 115 (56, L, .int 1 :: st, M) o9 := pj_xs (s115_55)
theorem q115_56 : pj_row 115 56 = some (.ireturn, 1, 0, 0, 0) := by decide +kernel
theorem t115_56 {L : pj_Loc} {M : pj_Mem} {v : Int32} (hv : v = 0 ∨ v = 1) : pj_Ends 115 (56, L, [.int v], M) (some (.int v), M) := pj_Ends.ret q115_56 (pj_rtn_z rt115 hv)
theorem rt116 : pj_rt 116 = some .boolean := rfl
theorem q116_0 : pj_row 116 0 = some (.aload_n 0, 1, 0, 0, 0) := by decide +kernel
theorem s116_0 {st : List Value} {M : pj_Mem} {l : pj_Loc} {x : Nat} : pj_step 116 (0, some (.ref x) :: l, st, M) = some (1, some (.ref x) :: l, .ref x :: st, M) := st_aload_n q116_0 rfl
theorem x116_0 {st : List Value} {M : pj_Mem} {l : pj_Loc} {x : Nat} {o9 : Option Value × pj_Mem} : pj_Ends 116 (0, some (.ref x) :: l, st, M) o9 = pj_Ends 116 (1, some (.ref x) :: l, .ref x :: st, M) o9 := pj_xs (s116_0)
theorem q116_1 : pj_row 116 1 = some (.iload_n 1, 1, 0, 0, 0) := by decide +kernel
theorem s116_1 {st : List Value} {M : pj_Mem} {l : pj_Loc} {a0 : Option Value} {x : Int32} : pj_step 116 (1, a0 :: some (.int x) :: l, st, M) = some (2, a0 :: some (.int x) :: l, .int x :: st, M) := st_iload_n q116_1 rfl
theorem x116_1 {st : List Value} {M : pj_Mem} {l : pj_Loc} {a0 : Option Value} {x : Int32} {o9 : Option Value × pj_Mem} : pj_Ends 116 (1, a0 :: some (.int x) :: l, st, M) o9 = pj_Ends 116 (2, a0 :: some (.int x) :: l, .int x :: st, M) o9 := pj_xs (s116_1)
theorem q116_2 : pj_row 116 2 = some (.iload_n 1, 1, 0, 0, 0) := by decide +kernel
theorem s116_2 {st : List Value} {M : pj_Mem} {l : pj_Loc} {a0 : Option Value} {x : Int32} : pj_step 116 (2, a0 :: some (.int x) :: l, st, M) = some (3, a0 :: some (.int x) :: l, .int x :: st, M) := st_iload_n q116_2 rfl
theorem x116_2 {st : List Value} {M : pj_Mem} {l : pj_Loc} {a0 : Option Value} {x : Int32} {o9 : Option Value × pj_Mem} : pj_Ends 116 (2, a0 :: some (.int x) :: l, st, M) o9 = pj_Ends 116 (3, a0 :: some (.int x) :: l, .int x :: st, M) o9 := pj_xs (s116_2)
theorem q116_3 : pj_row 116 3 = some (.invokevirtual 173, 3, 117, 3, 0) := by decide +kernel
theorem e116_3 {L : pj_Loc} {st : List Value} {N S : Nat} {H : pj_Heap} {o : Option Value × pj_Mem} {M' : pj_Mem} {x0 : Nat} {x1 : Int32} {x2 : Int32} {r : Int32} (h4 : pj_le4 st = true) (hu : pj_isU 6 (H x0) = true) (h1 : pj_Ends 117 (0, [some (.ref x0), some (.int x1), some (.int x2)], [], (N, S, H)) (some (.int r), M')) (h2 : pj_Ends 116 (6, L, .int r :: st, M') o) : pj_Ends 116 (3, L, .int x2 :: .int x1 :: .ref x0 :: st, (N, S, H)) o := ec_v3 q116_3 (Or.inl rfl) h4 hu rfl h1 h2
theorem q116_6 : pj_row 116 6 = some (.istore_n 2, 1, 0, 0, 0) := by decide +kernel
theorem s116_6 {st : List Value} {M : pj_Mem} {l : pj_Loc} {a0 a1 a2 : Option Value} {x : Int32} (h : pj_long a1 = false) : pj_step 116 (6, a0 :: a1 :: a2 :: l, .int x :: st, M) = some (7, a0 :: a1 :: some (.int x) :: l, st, M) := st_istore_n q116_6 (pj_st_2 h)
theorem x116_6 {st : List Value} {M : pj_Mem} {l : pj_Loc} {a0 a1 a2 : Option Value} {x : Int32} (h : pj_long a1 = false) {o9 : Option Value × pj_Mem} : pj_Ends 116 (6, a0 :: a1 :: a2 :: l, .int x :: st, M) o9 = pj_Ends 116 (7, a0 :: a1 :: some (.int x) :: l, st, M) o9 := pj_xs (s116_6 h)
theorem q116_7 : pj_row 116 7 = some (.aload_n 0, 1, 0, 0, 0) := by decide +kernel
theorem s116_7 {st : List Value} {M : pj_Mem} {l : pj_Loc} {x : Nat} : pj_step 116 (7, some (.ref x) :: l, st, M) = some (8, some (.ref x) :: l, .ref x :: st, M) := st_aload_n q116_7 rfl
theorem x116_7 {st : List Value} {M : pj_Mem} {l : pj_Loc} {x : Nat} {o9 : Option Value × pj_Mem} : pj_Ends 116 (7, some (.ref x) :: l, st, M) o9 = pj_Ends 116 (8, some (.ref x) :: l, .ref x :: st, M) o9 := pj_xs (s116_7)
theorem q116_8 : pj_row 116 8 = some (.dup, 1, 0, 0, 0) := by decide +kernel
theorem s116_8 {L : pj_Loc} {st : List Value} {M : pj_Mem} {x : Nat} : pj_step 116 (8, L, .ref x :: st, M) = some (9, L, .ref x :: .ref x :: st, M) := st_dup_ref q116_8
theorem x116_8 {L : pj_Loc} {st : List Value} {M : pj_Mem} {x : Nat} {o9 : Option Value × pj_Mem} : pj_Ends 116 (8, L, .ref x :: st, M) o9 = pj_Ends 116 (9, L, .ref x :: .ref x :: st, M) o9 := pj_xs (s116_8)
theorem s116_8i {L : pj_Loc} {st : List Value} {M : pj_Mem} {x : Int32} : pj_step 116 (8, L, .int x :: st, M) = some (9, L, .int x :: .int x :: st, M) := st_dup_int q116_8
theorem x116_8i {L : pj_Loc} {st : List Value} {M : pj_Mem} {x : Int32} {o9 : Option Value × pj_Mem} : pj_Ends 116 (8, L, .int x :: st, M) o9 = pj_Ends 116 (9, L, .int x :: .int x :: st, M) o9 := pj_xs (s116_8i)
theorem q116_9 : pj_row 116 9 = some (.getfield 170, 3, 6, 14, 0) := by decide +kernel
theorem s116_9 {L : pj_Loc} {st : List Value} {N S : Nat} {H : pj_Heap} {o : Nat} : pj_step 116 (9, L, .ref o :: st, (N, S, H)) = pj_pv 12 L st (N, S, H) (pj_fld (H o) 6 14) := st_getfield q116_9
theorem x116_9 {L : pj_Loc} {st : List Value} {N S : Nat} {H : pj_Heap} {o : Nat} {o9 : Option Value × pj_Mem} : pj_Ends 116 (9, L, .ref o :: st, (N, S, H)) o9 = pj_then 116 o9 (pj_pv 12 L st (N, S, H) (pj_fld (H o) 6 14)) := pj_xt q116_9 rfl (pj_cl_nc rfl) (s116_9)
theorem q116_12 : pj_row 116 12 = some (.iload_n 2, 1, 0, 0, 0) := by decide +kernel
theorem s116_12 {st : List Value} {M : pj_Mem} {l : pj_Loc} {a0 a1 : Option Value} {x : Int32} : pj_step 116 (12, a0 :: a1 :: some (.int x) :: l, st, M) = some (13, a0 :: a1 :: some (.int x) :: l, .int x :: st, M) := st_iload_n q116_12 rfl
theorem x116_12 {st : List Value} {M : pj_Mem} {l : pj_Loc} {a0 a1 : Option Value} {x : Int32} {o9 : Option Value × pj_Mem} : pj_Ends 116 (12, a0 :: a1 :: some (.int x) :: l, st, M) o9 = pj_Ends 116 (13, a0 :: a1 :: some (.int x) :: l, .int x :: st, M) o9 := pj_xs (s116_12)
theorem q116_13 : pj_row 116 13 = some (.ifCond .eq 7, 3, 20, 0, 0) := by decide +kernel
theorem s116_13 {L : pj_Loc} {st : List Value} {M : pj_Mem} {x : Int32} : pj_step 116 (13, L, .int x :: st, M) = some (if x = 0 then 20 else 16, L, st, M) := st_if_eq q116_13
theorem x116_13 {L : pj_Loc} {st : List Value} {M : pj_Mem} {x : Int32} {o9 : Option Value × pj_Mem} : pj_Ends 116 (13, L, .int x :: st, M) o9 = pj_Ends 116 (if x = 0 then 20 else 16, L, st, M) o9 := pj_xs (s116_13)
theorem q116_16 : pj_row 116 16 = some (.iconst 1, 1, 0, 0, 0) := by decide +kernel
theorem s116_16 {L : pj_Loc} {st : List Value} {M : pj_Mem}  : pj_step 116 (16, L, st, M) = some (17, L, .int 1 :: st, M) := st_iconst q116_16 (by decide +kernel)
theorem x116_16 {L : pj_Loc} {st : List Value} {M : pj_Mem}  {o9 : Option Value × pj_Mem} : pj_Ends 116 (16, L, st, M) o9 = pj_Ends 116 (17, L, .int 1 :: st, M) o9 := pj_xs (s116_16)
theorem q116_17 : pj_row 116 17 = some (.goto 4, 3, 21, 0, 0) := by decide +kernel
theorem s116_17 {L : pj_Loc} {st : List Value} {M : pj_Mem}  : pj_step 116 (17, L, st, M) = some (21, L, st, M) := st_goto q116_17
theorem x116_17 {L : pj_Loc} {st : List Value} {M : pj_Mem}  {o9 : Option Value × pj_Mem} : pj_Ends 116 (17, L, st, M) o9 = pj_Ends 116 (21, L, st, M) o9 := pj_xs (s116_17)
theorem q116_20 : pj_row 116 20 = some (.iconst 0, 1, 0, 0, 0) := by decide +kernel
theorem s116_20 {L : pj_Loc} {st : List Value} {M : pj_Mem}  : pj_step 116 (20, L, st, M) = some (21, L, .int 0 :: st, M) := st_iconst q116_20 (by decide +kernel)
theorem x116_20 {L : pj_Loc} {st : List Value} {M : pj_Mem}  {o9 : Option Value × pj_Mem} : pj_Ends 116 (20, L, st, M) o9 = pj_Ends 116 (21, L, .int 0 :: st, M) o9 := pj_xs (s116_20)
theorem q116_21 : pj_row 116 21 = some (.iadd, 1, 0, 0, 0) := by decide +kernel
theorem s116_21 {L : pj_Loc} {st : List Value} {M : pj_Mem} {x y : Int32} : pj_step 116 (21, L, .int y :: .int x :: st, M) = some (22, L, .int (x + y) :: st, M) := st_iadd q116_21
theorem x116_21 {L : pj_Loc} {st : List Value} {M : pj_Mem} {x y : Int32} {o9 : Option Value × pj_Mem} : pj_Ends 116 (21, L, .int y :: .int x :: st, M) o9 = pj_Ends 116 (22, L, .int (x + y) :: st, M) o9 := pj_xs (s116_21)
theorem q116_22 : pj_row 116 22 = some (.putfield 170, 3, 6, 14, 0) := by decide +kernel
theorem s116_22 {L : pj_Loc} {st : List Value} {N S : Nat} {H : pj_Heap} {o : Nat} {v : Value} : pj_step 116 (22, L, v :: .ref o :: st, (N, S, H)) = pj_set 25 L st (N, S, H) o (pj_fset (H o) 6 14 v) := st_putfield q116_22
theorem x116_22 {L : pj_Loc} {st : List Value} {N S : Nat} {H : pj_Heap} {o : Nat} {v : Value} {o9 : Option Value × pj_Mem} : pj_Ends 116 (22, L, v :: .ref o :: st, (N, S, H)) o9 = pj_then 116 o9 (pj_set 25 L st (N, S, H) o (pj_fset (H o) 6 14 v)) := pj_xt q116_22 rfl (pj_cl_nc rfl) (s116_22)
theorem q116_25 : pj_row 116 25 = some (.iload_n 2, 1, 0, 0, 0) := by decide +kernel
theorem s116_25 {st : List Value} {M : pj_Mem} {l : pj_Loc} {a0 a1 : Option Value} {x : Int32} : pj_step 116 (25, a0 :: a1 :: some (.int x) :: l, st, M) = some (26, a0 :: a1 :: some (.int x) :: l, .int x :: st, M) := st_iload_n q116_25 rfl
theorem x116_25 {st : List Value} {M : pj_Mem} {l : pj_Loc} {a0 a1 : Option Value} {x : Int32} {o9 : Option Value × pj_Mem} : pj_Ends 116 (25, a0 :: a1 :: some (.int x) :: l, st, M) o9 = pj_Ends 116 (26, a0 :: a1 :: some (.int x) :: l, .int x :: st, M) o9 := pj_xs (s116_25)
theorem q116_26 : pj_row 116 26 = some (.ireturn, 1, 0, 0, 0) := by decide +kernel
theorem t116_26 {L : pj_Loc} {M : pj_Mem} {v : Int32} (hv : v = 0 ∨ v = 1) : pj_Ends 116 (26, L, [.int v], M) (some (.int v), M) := pj_Ends.ret q116_26 (pj_rtn_z rt116 hv)
theorem rt117 : pj_rt 117 = some .boolean := rfl
theorem q117_0 : pj_row 117 0 = some (.aload_n 0, 1, 0, 0, 0) := by decide +kernel
theorem s117_0 {st : List Value} {M : pj_Mem} {l : pj_Loc} {x : Nat} : pj_step 117 (0, some (.ref x) :: l, st, M) = some (1, some (.ref x) :: l, .ref x :: st, M) := st_aload_n q117_0 rfl
theorem x117_0 {st : List Value} {M : pj_Mem} {l : pj_Loc} {x : Nat} {o9 : Option Value × pj_Mem} : pj_Ends 117 (0, some (.ref x) :: l, st, M) o9 = pj_Ends 117 (1, some (.ref x) :: l, .ref x :: st, M) o9 := pj_xs (s117_0)
theorem q117_1 : pj_row 117 1 = some (.getfield 170, 3, 6, 14, 0) := by decide +kernel
theorem s117_1 {L : pj_Loc} {st : List Value} {N S : Nat} {H : pj_Heap} {o : Nat} : pj_step 117 (1, L, .ref o :: st, (N, S, H)) = pj_pv 4 L st (N, S, H) (pj_fld (H o) 6 14) := st_getfield q117_1
theorem x117_1 {L : pj_Loc} {st : List Value} {N S : Nat} {H : pj_Heap} {o : Nat} {o9 : Option Value × pj_Mem} : pj_Ends 117 (1, L, .ref o :: st, (N, S, H)) o9 = pj_then 117 o9 (pj_pv 4 L st (N, S, H) (pj_fld (H o) 6 14)) := pj_xt q117_1 rfl (pj_cl_nc rfl) (s117_1)
theorem q117_4 : pj_row 117 4 = some (.aload_n 0, 1, 0, 0, 0) := by decide +kernel
theorem s117_4 {st : List Value} {M : pj_Mem} {l : pj_Loc} {x : Nat} : pj_step 117 (4, some (.ref x) :: l, st, M) = some (5, some (.ref x) :: l, .ref x :: st, M) := st_aload_n q117_4 rfl
theorem x117_4 {st : List Value} {M : pj_Mem} {l : pj_Loc} {x : Nat} {o9 : Option Value × pj_Mem} : pj_Ends 117 (4, some (.ref x) :: l, st, M) o9 = pj_Ends 117 (5, some (.ref x) :: l, .ref x :: st, M) o9 := pj_xs (s117_4)
theorem q117_5 : pj_row 117 5 = some (.getfield 152, 3, 6, 13, 0) := by decide +kernel
theorem s117_5 {L : pj_Loc} {st : List Value} {N S : Nat} {H : pj_Heap} {o : Nat} : pj_step 117 (5, L, .ref o :: st, (N, S, H)) = pj_pv 8 L st (N, S, H) (pj_fld (H o) 6 13) := st_getfield q117_5
theorem x117_5 {L : pj_Loc} {st : List Value} {N S : Nat} {H : pj_Heap} {o : Nat} {o9 : Option Value × pj_Mem} : pj_Ends 117 (5, L, .ref o :: st, (N, S, H)) o9 = pj_then 117 o9 (pj_pv 8 L st (N, S, H) (pj_fld (H o) 6 13)) := pj_xt q117_5 rfl (pj_cl_nc rfl) (s117_5)
theorem q117_8 : pj_row 117 8 = some (.if_icmp .ge 27, 3, 35, 0, 0) := by decide +kernel
theorem s117_8 {L : pj_Loc} {st : List Value} {M : pj_Mem} {x y : Int32} : pj_step 117 (8, L, .int y :: .int x :: st, M) = some (if y ≤ x then 35 else 11, L, st, M) := st_icmp_ge q117_8
theorem x117_8 {L : pj_Loc} {st : List Value} {M : pj_Mem} {x y : Int32} {o9 : Option Value × pj_Mem} : pj_Ends 117 (8, L, .int y :: .int x :: st, M) o9 = pj_Ends 117 (if y ≤ x then 35 else 11, L, st, M) o9 := pj_xs (s117_8)
theorem q117_11 : pj_row 117 11 = some (.aload_n 0, 1, 0, 0, 0) := by decide +kernel
theorem s117_11 {st : List Value} {M : pj_Mem} {l : pj_Loc} {x : Nat} : pj_step 117 (11, some (.ref x) :: l, st, M) = some (12, some (.ref x) :: l, .ref x :: st, M) := st_aload_n q117_11 rfl
theorem x117_11 {st : List Value} {M : pj_Mem} {l : pj_Loc} {x : Nat} {o9 : Option Value × pj_Mem} : pj_Ends 117 (11, some (.ref x) :: l, st, M) o9 = pj_Ends 117 (12, some (.ref x) :: l, .ref x :: st, M) o9 := pj_xs (s117_11)
theorem q117_12 : pj_row 117 12 = some (.getfield 31, 3, 6, 12, 0) := by decide +kernel
theorem s117_12 {L : pj_Loc} {st : List Value} {N S : Nat} {H : pj_Heap} {o : Nat} : pj_step 117 (12, L, .ref o :: st, (N, S, H)) = pj_pv 15 L st (N, S, H) (pj_fld (H o) 6 12) := st_getfield q117_12
theorem x117_12 {L : pj_Loc} {st : List Value} {N S : Nat} {H : pj_Heap} {o : Nat} {o9 : Option Value × pj_Mem} : pj_Ends 117 (12, L, .ref o :: st, (N, S, H)) o9 = pj_then 117 o9 (pj_pv 15 L st (N, S, H) (pj_fld (H o) 6 12)) := pj_xt q117_12 rfl (pj_cl_nc rfl) (s117_12)
theorem q117_15 : pj_row 117 15 = some (.aload_n 0, 1, 0, 0, 0) := by decide +kernel
theorem s117_15 {st : List Value} {M : pj_Mem} {l : pj_Loc} {x : Nat} : pj_step 117 (15, some (.ref x) :: l, st, M) = some (16, some (.ref x) :: l, .ref x :: st, M) := st_aload_n q117_15 rfl
theorem x117_15 {st : List Value} {M : pj_Mem} {l : pj_Loc} {x : Nat} {o9 : Option Value × pj_Mem} : pj_Ends 117 (15, some (.ref x) :: l, st, M) o9 = pj_Ends 117 (16, some (.ref x) :: l, .ref x :: st, M) o9 := pj_xs (s117_15)
theorem q117_16 : pj_row 117 16 = some (.getfield 170, 3, 6, 14, 0) := by decide +kernel
theorem s117_16 {L : pj_Loc} {st : List Value} {N S : Nat} {H : pj_Heap} {o : Nat} : pj_step 117 (16, L, .ref o :: st, (N, S, H)) = pj_pv 19 L st (N, S, H) (pj_fld (H o) 6 14) := st_getfield q117_16
theorem x117_16 {L : pj_Loc} {st : List Value} {N S : Nat} {H : pj_Heap} {o : Nat} {o9 : Option Value × pj_Mem} : pj_Ends 117 (16, L, .ref o :: st, (N, S, H)) o9 = pj_then 117 o9 (pj_pv 19 L st (N, S, H) (pj_fld (H o) 6 14)) := pj_xt q117_16 rfl (pj_cl_nc rfl) (s117_16)
theorem q117_19 : pj_row 117 19 = some (.iaload, 1, 0, 0, 0) := by decide +kernel
theorem s117_19 {L : pj_Loc} {st : List Value} {N S : Nat} {H : pj_Heap} {o : Nat} {i : Int32} : pj_step 117 (19, L, .int i :: .ref o :: st, (N, S, H)) = pj_pi 20 L st (N, S, H) (pj_arl (H o) 0 i) := st_iaload q117_19
theorem x117_19 {L : pj_Loc} {st : List Value} {N S : Nat} {H : pj_Heap} {o : Nat} {i : Int32} {o9 : Option Value × pj_Mem} : pj_Ends 117 (19, L, .int i :: .ref o :: st, (N, S, H)) o9 = pj_then 117 o9 (pj_pi 20 L st (N, S, H) (pj_arl (H o) 0 i)) := pj_xt q117_19 rfl (pj_cl_nc rfl) (s117_19)
theorem q117_20 : pj_row 117 20 = some (.i2l, 1, 0, 0, 0) := by decide +kernel
theorem s117_20 {L : pj_Loc} {st : List Value} {M : pj_Mem} {x : Int32} : pj_step 117 (20, L, .int x :: st, M) = some (21, L, .long x.toInt64 :: st, M) := st_i2l q117_20
theorem x117_20 {L : pj_Loc} {st : List Value} {M : pj_Mem} {x : Int32} {o9 : Option Value × pj_Mem} : pj_Ends 117 (20, L, .int x :: st, M) o9 = pj_Ends 117 (21, L, .long x.toInt64 :: st, M) o9 := pj_xs (s117_20)
theorem q117_21 : pj_row 117 21 = some (.iload_n 1, 1, 0, 0, 0) := by decide +kernel
theorem s117_21 {st : List Value} {M : pj_Mem} {l : pj_Loc} {a0 : Option Value} {x : Int32} : pj_step 117 (21, a0 :: some (.int x) :: l, st, M) = some (22, a0 :: some (.int x) :: l, .int x :: st, M) := st_iload_n q117_21 rfl
theorem x117_21 {st : List Value} {M : pj_Mem} {l : pj_Loc} {a0 : Option Value} {x : Int32} {o9 : Option Value × pj_Mem} : pj_Ends 117 (21, a0 :: some (.int x) :: l, st, M) o9 = pj_Ends 117 (22, a0 :: some (.int x) :: l, .int x :: st, M) o9 := pj_xs (s117_21)
theorem q117_22 : pj_row 117 22 = some (.i2l, 1, 0, 0, 0) := by decide +kernel
theorem s117_22 {L : pj_Loc} {st : List Value} {M : pj_Mem} {x : Int32} : pj_step 117 (22, L, .int x :: st, M) = some (23, L, .long x.toInt64 :: st, M) := st_i2l q117_22
theorem x117_22 {L : pj_Loc} {st : List Value} {M : pj_Mem} {x : Int32} {o9 : Option Value × pj_Mem} : pj_Ends 117 (22, L, .int x :: st, M) o9 = pj_Ends 117 (23, L, .long x.toInt64 :: st, M) o9 := pj_xs (s117_22)
theorem q117_23 : pj_row 117 23 = some (.iload_n 2, 1, 0, 0, 0) := by decide +kernel
theorem s117_23 {st : List Value} {M : pj_Mem} {l : pj_Loc} {a0 a1 : Option Value} {x : Int32} : pj_step 117 (23, a0 :: a1 :: some (.int x) :: l, st, M) = some (24, a0 :: a1 :: some (.int x) :: l, .int x :: st, M) := st_iload_n q117_23 rfl
theorem x117_23 {st : List Value} {M : pj_Mem} {l : pj_Loc} {a0 a1 : Option Value} {x : Int32} {o9 : Option Value × pj_Mem} : pj_Ends 117 (23, a0 :: a1 :: some (.int x) :: l, st, M) o9 = pj_Ends 117 (24, a0 :: a1 :: some (.int x) :: l, .int x :: st, M) o9 := pj_xs (s117_23)
theorem q117_24 : pj_row 117 24 = some (.i2l, 1, 0, 0, 0) := by decide +kernel
theorem s117_24 {L : pj_Loc} {st : List Value} {M : pj_Mem} {x : Int32} : pj_step 117 (24, L, .int x :: st, M) = some (25, L, .long x.toInt64 :: st, M) := st_i2l q117_24
theorem x117_24 {L : pj_Loc} {st : List Value} {M : pj_Mem} {x : Int32} {o9 : Option Value × pj_Mem} : pj_Ends 117 (24, L, .int x :: st, M) o9 = pj_Ends 117 (25, L, .long x.toInt64 :: st, M) o9 := pj_xs (s117_24)
theorem q117_25 : pj_row 117 25 = some (.invokestatic 42, 3, 76, 3, 0) := by decide +kernel
theorem e117_25 {L : pj_Loc} {st : List Value} {N S : Nat} {H : pj_Heap} {o : Option Value × pj_Mem} {M' : pj_Mem} {x0 : Int64} {x1 : Int64} {x2 : Int64} {r : Int32} (h4 : pj_le4 st = true) (h1 : pj_Ends 76 (0, [some (.long x0), none, some (.long x1), none, some (.long x2), none], [], (N, S, H)) (some (.int r), M')) (h2 : pj_Ends 117 (28, L, .int r :: st, M') o) : pj_Ends 117 (25, L, .long x2 :: .long x1 :: .long x0 :: st, (N, S, H)) o := ec_s3 q117_25 (Or.inl rfl) h4 rfl h1 h2
theorem q117_28 : pj_row 117 28 = some (.ifCond .eq 7, 3, 35, 0, 0) := by decide +kernel
theorem s117_28 {L : pj_Loc} {st : List Value} {M : pj_Mem} {x : Int32} : pj_step 117 (28, L, .int x :: st, M) = some (if x = 0 then 35 else 31, L, st, M) := st_if_eq q117_28
theorem x117_28 {L : pj_Loc} {st : List Value} {M : pj_Mem} {x : Int32} {o9 : Option Value × pj_Mem} : pj_Ends 117 (28, L, .int x :: st, M) o9 = pj_Ends 117 (if x = 0 then 35 else 31, L, st, M) o9 := pj_xs (s117_28)
theorem q117_31 : pj_row 117 31 = some (.iconst 1, 1, 0, 0, 0) := by decide +kernel
theorem s117_31 {L : pj_Loc} {st : List Value} {M : pj_Mem}  : pj_step 117 (31, L, st, M) = some (32, L, .int 1 :: st, M) := st_iconst q117_31 (by decide +kernel)
theorem x117_31 {L : pj_Loc} {st : List Value} {M : pj_Mem}  {o9 : Option Value × pj_Mem} : pj_Ends 117 (31, L, st, M) o9 = pj_Ends 117 (32, L, .int 1 :: st, M) o9 := pj_xs (s117_31)
theorem q117_32 : pj_row 117 32 = some (.goto 4, 3, 36, 0, 0) := by decide +kernel
theorem s117_32 {L : pj_Loc} {st : List Value} {M : pj_Mem}  : pj_step 117 (32, L, st, M) = some (36, L, st, M) := st_goto q117_32
theorem x117_32 {L : pj_Loc} {st : List Value} {M : pj_Mem}  {o9 : Option Value × pj_Mem} : pj_Ends 117 (32, L, st, M) o9 = pj_Ends 117 (36, L, st, M) o9 := pj_xs (s117_32)
theorem q117_35 : pj_row 117 35 = some (.iconst 0, 1, 0, 0, 0) := by decide +kernel
theorem s117_35 {L : pj_Loc} {st : List Value} {M : pj_Mem}  : pj_step 117 (35, L, st, M) = some (36, L, .int 0 :: st, M) := st_iconst q117_35 (by decide +kernel)
theorem x117_35 {L : pj_Loc} {st : List Value} {M : pj_Mem}  {o9 : Option Value × pj_Mem} : pj_Ends 117 (35, L, st, M) o9 = pj_Ends 117 (36, L, .int 0 :: st, M) o9 := pj_xs (s117_35)
theorem q117_36 : pj_row 117 36 = some (.ireturn, 1, 0, 0, 0) := by decide +kernel
theorem t117_36 {L : pj_Loc} {M : pj_Mem} {v : Int32} (hv : v = 0 ∨ v = 1) : pj_Ends 117 (36, L, [.int v], M) (some (.int v), M) := pj_Ends.ret q117_36 (pj_rtn_z rt117 hv)
theorem rt118 : pj_rt 118 = some .boolean := rfl
theorem q118_0 : pj_row 118 0 = some (.aload_n 0, 1, 0, 0, 0) := by decide +kernel
theorem s118_0 {st : List Value} {M : pj_Mem} {l : pj_Loc} {x : Nat} : pj_step 118 (0, some (.ref x) :: l, st, M) = some (1, some (.ref x) :: l, .ref x :: st, M) := st_aload_n q118_0 rfl
theorem x118_0 {st : List Value} {M : pj_Mem} {l : pj_Loc} {x : Nat} {o9 : Option Value × pj_Mem} : pj_Ends 118 (0, some (.ref x) :: l, st, M) o9 = pj_Ends 118 (1, some (.ref x) :: l, .ref x :: st, M) o9 := pj_xs (s118_0)
theorem q118_1 : pj_row 118 1 = some (.bipush 45, 2, 0, 0, 0) := by decide +kernel
theorem s118_1 {L : pj_Loc} {st : List Value} {M : pj_Mem}  : pj_step 118 (1, L, st, M) = some (3, L, .int 45 :: st, M) := st_bipush q118_1 (by decide +kernel)
theorem x118_1 {L : pj_Loc} {st : List Value} {M : pj_Mem}  {o9 : Option Value × pj_Mem} : pj_Ends 118 (1, L, st, M) o9 = pj_Ends 118 (3, L, .int 45 :: st, M) o9 := pj_xs (s118_1)
theorem q118_3 : pj_row 118 3 = some (.invokevirtual 176, 3, 116, 2, 0) := by decide +kernel
theorem e118_3 {L : pj_Loc} {st : List Value} {N S : Nat} {H : pj_Heap} {o : Option Value × pj_Mem} {M' : pj_Mem} {x0 : Nat} {x1 : Int32} {r : Int32} (h4 : pj_le4 st = true) (hu : pj_isU 6 (H x0) = true) (h1 : pj_Ends 116 (0, [some (.ref x0), some (.int x1), none], [], (N, S, H)) (some (.int r), M')) (h2 : pj_Ends 118 (6, L, .int r :: st, M') o) : pj_Ends 118 (3, L, .int x1 :: .ref x0 :: st, (N, S, H)) o := ec_v2 q118_3 (Or.inl rfl) h4 hu rfl h1 h2
theorem q118_6 : pj_row 118 6 = some (.istore_n 1, 1, 0, 0, 0) := by decide +kernel
theorem s118_6 {st : List Value} {M : pj_Mem} {l : pj_Loc} {a0 a1 : Option Value} {x : Int32} (h : pj_long a0 = false) : pj_step 118 (6, a0 :: a1 :: l, .int x :: st, M) = some (7, a0 :: some (.int x) :: l, st, M) := st_istore_n q118_6 (pj_st_1 h)
theorem x118_6 {st : List Value} {M : pj_Mem} {l : pj_Loc} {a0 a1 : Option Value} {x : Int32} (h : pj_long a0 = false) {o9 : Option Value × pj_Mem} : pj_Ends 118 (6, a0 :: a1 :: l, .int x :: st, M) o9 = pj_Ends 118 (7, a0 :: some (.int x) :: l, st, M) o9 := pj_xs (s118_6 h)
theorem q118_7 : pj_row 118 7 = some (.aload_n 0, 1, 0, 0, 0) := by decide +kernel
theorem s118_7 {st : List Value} {M : pj_Mem} {l : pj_Loc} {x : Nat} : pj_step 118 (7, some (.ref x) :: l, st, M) = some (8, some (.ref x) :: l, .ref x :: st, M) := st_aload_n q118_7 rfl
theorem x118_7 {st : List Value} {M : pj_Mem} {l : pj_Loc} {x : Nat} {o9 : Option Value × pj_Mem} : pj_Ends 118 (7, some (.ref x) :: l, st, M) o9 = pj_Ends 118 (8, some (.ref x) :: l, .ref x :: st, M) o9 := pj_xs (s118_7)
theorem q118_8 : pj_row 118 8 = some (.bipush 48, 2, 0, 0, 0) := by decide +kernel
theorem s118_8 {L : pj_Loc} {st : List Value} {M : pj_Mem}  : pj_step 118 (8, L, st, M) = some (10, L, .int 48 :: st, M) := st_bipush q118_8 (by decide +kernel)
theorem x118_8 {L : pj_Loc} {st : List Value} {M : pj_Mem}  {o9 : Option Value × pj_Mem} : pj_Ends 118 (8, L, st, M) o9 = pj_Ends 118 (10, L, .int 48 :: st, M) o9 := pj_xs (s118_8)
theorem q118_10 : pj_row 118 10 = some (.bipush 57, 2, 0, 0, 0) := by decide +kernel
theorem s118_10 {L : pj_Loc} {st : List Value} {M : pj_Mem}  : pj_step 118 (10, L, st, M) = some (12, L, .int 57 :: st, M) := st_bipush q118_10 (by decide +kernel)
theorem x118_10 {L : pj_Loc} {st : List Value} {M : pj_Mem}  {o9 : Option Value × pj_Mem} : pj_Ends 118 (10, L, st, M) o9 = pj_Ends 118 (12, L, .int 57 :: st, M) o9 := pj_xs (s118_10)
theorem q118_12 : pj_row 118 12 = some (.invokevirtual 173, 3, 117, 3, 0) := by decide +kernel
theorem e118_12 {L : pj_Loc} {st : List Value} {N S : Nat} {H : pj_Heap} {o : Option Value × pj_Mem} {M' : pj_Mem} {x0 : Nat} {x1 : Int32} {x2 : Int32} {r : Int32} (h4 : pj_le4 st = true) (hu : pj_isU 6 (H x0) = true) (h1 : pj_Ends 117 (0, [some (.ref x0), some (.int x1), some (.int x2)], [], (N, S, H)) (some (.int r), M')) (h2 : pj_Ends 118 (15, L, .int r :: st, M') o) : pj_Ends 118 (12, L, .int x2 :: .int x1 :: .ref x0 :: st, (N, S, H)) o := ec_v3 q118_12 (Or.inl rfl) h4 hu rfl h1 h2
theorem q118_15 : pj_row 118 15 = some (.ifCond .ne 5, 3, 20, 0, 0) := by decide +kernel
theorem s118_15 {L : pj_Loc} {st : List Value} {M : pj_Mem} {x : Int32} : pj_step 118 (15, L, .int x :: st, M) = some (if ¬ x = 0 then 20 else 18, L, st, M) := st_if_ne q118_15
theorem x118_15 {L : pj_Loc} {st : List Value} {M : pj_Mem} {x : Int32} {o9 : Option Value × pj_Mem} : pj_Ends 118 (15, L, .int x :: st, M) o9 = pj_Ends 118 (if ¬ x = 0 then 20 else 18, L, st, M) o9 := pj_xs (s118_15)
theorem q118_18 : pj_row 118 18 = some (.iconst 0, 1, 0, 0, 0) := by decide +kernel
theorem s118_18 {L : pj_Loc} {st : List Value} {M : pj_Mem}  : pj_step 118 (18, L, st, M) = some (19, L, .int 0 :: st, M) := st_iconst q118_18 (by decide +kernel)
theorem x118_18 {L : pj_Loc} {st : List Value} {M : pj_Mem}  {o9 : Option Value × pj_Mem} : pj_Ends 118 (18, L, st, M) o9 = pj_Ends 118 (19, L, .int 0 :: st, M) o9 := pj_xs (s118_18)
theorem q118_19 : pj_row 118 19 = some (.ireturn, 1, 0, 0, 0) := by decide +kernel
theorem t118_19 {L : pj_Loc} {M : pj_Mem} {v : Int32} (hv : v = 0 ∨ v = 1) : pj_Ends 118 (19, L, [.int v], M) (some (.int v), M) := pj_Ends.ret q118_19 (pj_rtn_z rt118 hv)
theorem q118_20 : pj_row 118 20 = some (.aload_n 0, 1, 0, 0, 0) := by decide +kernel
theorem s118_20 {st : List Value} {M : pj_Mem} {l : pj_Loc} {x : Nat} : pj_step 118 (20, some (.ref x) :: l, st, M) = some (21, some (.ref x) :: l, .ref x :: st, M) := st_aload_n q118_20 rfl
theorem x118_20 {st : List Value} {M : pj_Mem} {l : pj_Loc} {x : Nat} {o9 : Option Value × pj_Mem} : pj_Ends 118 (20, some (.ref x) :: l, st, M) o9 = pj_Ends 118 (21, some (.ref x) :: l, .ref x :: st, M) o9 := pj_xs (s118_20)
theorem q118_21 : pj_row 118 21 = some (.aload_n 0, 1, 0, 0, 0) := by decide +kernel
theorem s118_21 {st : List Value} {M : pj_Mem} {l : pj_Loc} {x : Nat} : pj_step 118 (21, some (.ref x) :: l, st, M) = some (22, some (.ref x) :: l, .ref x :: st, M) := st_aload_n q118_21 rfl
theorem x118_21 {st : List Value} {M : pj_Mem} {l : pj_Loc} {x : Nat} {o9 : Option Value × pj_Mem} : pj_Ends 118 (21, some (.ref x) :: l, st, M) o9 = pj_Ends 118 (22, some (.ref x) :: l, .ref x :: st, M) o9 := pj_xs (s118_21)
theorem q118_22 : pj_row 118 22 = some (.getfield 31, 3, 6, 12, 0) := by decide +kernel
theorem s118_22 {L : pj_Loc} {st : List Value} {N S : Nat} {H : pj_Heap} {o : Nat} : pj_step 118 (22, L, .ref o :: st, (N, S, H)) = pj_pv 25 L st (N, S, H) (pj_fld (H o) 6 12) := st_getfield q118_22
theorem x118_22 {L : pj_Loc} {st : List Value} {N S : Nat} {H : pj_Heap} {o : Nat} {o9 : Option Value × pj_Mem} : pj_Ends 118 (22, L, .ref o :: st, (N, S, H)) o9 = pj_then 118 o9 (pj_pv 25 L st (N, S, H) (pj_fld (H o) 6 12)) := pj_xt q118_22 rfl (pj_cl_nc rfl) (s118_22)
theorem q118_25 : pj_row 118 25 = some (.aload_n 0, 1, 0, 0, 0) := by decide +kernel
theorem s118_25 {st : List Value} {M : pj_Mem} {l : pj_Loc} {x : Nat} : pj_step 118 (25, some (.ref x) :: l, st, M) = some (26, some (.ref x) :: l, .ref x :: st, M) := st_aload_n q118_25 rfl
theorem x118_25 {st : List Value} {M : pj_Mem} {l : pj_Loc} {x : Nat} {o9 : Option Value × pj_Mem} : pj_Ends 118 (25, some (.ref x) :: l, st, M) o9 = pj_Ends 118 (26, some (.ref x) :: l, .ref x :: st, M) o9 := pj_xs (s118_25)
theorem q118_26 : pj_row 118 26 = some (.getfield 170, 3, 6, 14, 0) := by decide +kernel
theorem s118_26 {L : pj_Loc} {st : List Value} {N S : Nat} {H : pj_Heap} {o : Nat} : pj_step 118 (26, L, .ref o :: st, (N, S, H)) = pj_pv 29 L st (N, S, H) (pj_fld (H o) 6 14) := st_getfield q118_26
theorem x118_26 {L : pj_Loc} {st : List Value} {N S : Nat} {H : pj_Heap} {o : Nat} {o9 : Option Value × pj_Mem} : pj_Ends 118 (26, L, .ref o :: st, (N, S, H)) o9 = pj_then 118 o9 (pj_pv 29 L st (N, S, H) (pj_fld (H o) 6 14)) := pj_xt q118_26 rfl (pj_cl_nc rfl) (s118_26)
theorem q118_29 : pj_row 118 29 = some (.iaload, 1, 0, 0, 0) := by decide +kernel
theorem s118_29 {L : pj_Loc} {st : List Value} {N S : Nat} {H : pj_Heap} {o : Nat} {i : Int32} : pj_step 118 (29, L, .int i :: .ref o :: st, (N, S, H)) = pj_pi 30 L st (N, S, H) (pj_arl (H o) 0 i) := st_iaload q118_29
theorem x118_29 {L : pj_Loc} {st : List Value} {N S : Nat} {H : pj_Heap} {o : Nat} {i : Int32} {o9 : Option Value × pj_Mem} : pj_Ends 118 (29, L, .int i :: .ref o :: st, (N, S, H)) o9 = pj_then 118 o9 (pj_pi 30 L st (N, S, H) (pj_arl (H o) 0 i)) := pj_xt q118_29 rfl (pj_cl_nc rfl) (s118_29)
theorem q118_30 : pj_row 118 30 = some (.bipush 48, 2, 0, 0, 0) := by decide +kernel
theorem s118_30 {L : pj_Loc} {st : List Value} {M : pj_Mem}  : pj_step 118 (30, L, st, M) = some (32, L, .int 48 :: st, M) := st_bipush q118_30 (by decide +kernel)
theorem x118_30 {L : pj_Loc} {st : List Value} {M : pj_Mem}  {o9 : Option Value × pj_Mem} : pj_Ends 118 (30, L, st, M) o9 = pj_Ends 118 (32, L, .int 48 :: st, M) o9 := pj_xs (s118_30)
theorem q118_32 : pj_row 118 32 = some (.isub, 1, 0, 0, 0) := by decide +kernel
theorem s118_32 {L : pj_Loc} {st : List Value} {M : pj_Mem} {x y : Int32} : pj_step 118 (32, L, .int y :: .int x :: st, M) = some (33, L, .int (x - y) :: st, M) := st_isub q118_32
theorem x118_32 {L : pj_Loc} {st : List Value} {M : pj_Mem} {x y : Int32} {o9 : Option Value × pj_Mem} : pj_Ends 118 (32, L, .int y :: .int x :: st, M) o9 = pj_Ends 118 (33, L, .int (x - y) :: st, M) o9 := pj_xs (s118_32)
theorem q118_33 : pj_row 118 33 = some (.putfield 179, 3, 6, 15, 0) := by decide +kernel
theorem s118_33 {L : pj_Loc} {st : List Value} {N S : Nat} {H : pj_Heap} {o : Nat} {v : Value} : pj_step 118 (33, L, v :: .ref o :: st, (N, S, H)) = pj_set 36 L st (N, S, H) o (pj_fset (H o) 6 15 v) := st_putfield q118_33
theorem x118_33 {L : pj_Loc} {st : List Value} {N S : Nat} {H : pj_Heap} {o : Nat} {v : Value} {o9 : Option Value × pj_Mem} : pj_Ends 118 (33, L, v :: .ref o :: st, (N, S, H)) o9 = pj_then 118 o9 (pj_set 36 L st (N, S, H) o (pj_fset (H o) 6 15 v)) := pj_xt q118_33 rfl (pj_cl_nc rfl) (s118_33)
theorem q118_36 : pj_row 118 36 = some (.aload_n 0, 1, 0, 0, 0) := by decide +kernel
theorem s118_36 {st : List Value} {M : pj_Mem} {l : pj_Loc} {x : Nat} : pj_step 118 (36, some (.ref x) :: l, st, M) = some (37, some (.ref x) :: l, .ref x :: st, M) := st_aload_n q118_36 rfl
theorem x118_36 {st : List Value} {M : pj_Mem} {l : pj_Loc} {x : Nat} {o9 : Option Value × pj_Mem} : pj_Ends 118 (36, some (.ref x) :: l, st, M) o9 = pj_Ends 118 (37, some (.ref x) :: l, .ref x :: st, M) o9 := pj_xs (s118_36)
theorem q118_37 : pj_row 118 37 = some (.dup, 1, 0, 0, 0) := by decide +kernel
theorem s118_37 {L : pj_Loc} {st : List Value} {M : pj_Mem} {x : Nat} : pj_step 118 (37, L, .ref x :: st, M) = some (38, L, .ref x :: .ref x :: st, M) := st_dup_ref q118_37
theorem x118_37 {L : pj_Loc} {st : List Value} {M : pj_Mem} {x : Nat} {o9 : Option Value × pj_Mem} : pj_Ends 118 (37, L, .ref x :: st, M) o9 = pj_Ends 118 (38, L, .ref x :: .ref x :: st, M) o9 := pj_xs (s118_37)
theorem s118_37i {L : pj_Loc} {st : List Value} {M : pj_Mem} {x : Int32} : pj_step 118 (37, L, .int x :: st, M) = some (38, L, .int x :: .int x :: st, M) := st_dup_int q118_37
theorem x118_37i {L : pj_Loc} {st : List Value} {M : pj_Mem} {x : Int32} {o9 : Option Value × pj_Mem} : pj_Ends 118 (37, L, .int x :: st, M) o9 = pj_Ends 118 (38, L, .int x :: .int x :: st, M) o9 := pj_xs (s118_37i)
theorem q118_38 : pj_row 118 38 = some (.getfield 170, 3, 6, 14, 0) := by decide +kernel
theorem s118_38 {L : pj_Loc} {st : List Value} {N S : Nat} {H : pj_Heap} {o : Nat} : pj_step 118 (38, L, .ref o :: st, (N, S, H)) = pj_pv 41 L st (N, S, H) (pj_fld (H o) 6 14) := st_getfield q118_38
theorem x118_38 {L : pj_Loc} {st : List Value} {N S : Nat} {H : pj_Heap} {o : Nat} {o9 : Option Value × pj_Mem} : pj_Ends 118 (38, L, .ref o :: st, (N, S, H)) o9 = pj_then 118 o9 (pj_pv 41 L st (N, S, H) (pj_fld (H o) 6 14)) := pj_xt q118_38 rfl (pj_cl_nc rfl) (s118_38)
theorem q118_41 : pj_row 118 41 = some (.iconst 1, 1, 0, 0, 0) := by decide +kernel
theorem s118_41 {L : pj_Loc} {st : List Value} {M : pj_Mem}  : pj_step 118 (41, L, st, M) = some (42, L, .int 1 :: st, M) := st_iconst q118_41 (by decide +kernel)
theorem x118_41 {L : pj_Loc} {st : List Value} {M : pj_Mem}  {o9 : Option Value × pj_Mem} : pj_Ends 118 (41, L, st, M) o9 = pj_Ends 118 (42, L, .int 1 :: st, M) o9 := pj_xs (s118_41)
theorem q118_42 : pj_row 118 42 = some (.iadd, 1, 0, 0, 0) := by decide +kernel
theorem s118_42 {L : pj_Loc} {st : List Value} {M : pj_Mem} {x y : Int32} : pj_step 118 (42, L, .int y :: .int x :: st, M) = some (43, L, .int (x + y) :: st, M) := st_iadd q118_42
theorem x118_42 {L : pj_Loc} {st : List Value} {M : pj_Mem} {x y : Int32} {o9 : Option Value × pj_Mem} : pj_Ends 118 (42, L, .int y :: .int x :: st, M) o9 = pj_Ends 118 (43, L, .int (x + y) :: st, M) o9 := pj_xs (s118_42)
theorem q118_43 : pj_row 118 43 = some (.putfield 170, 3, 6, 14, 0) := by decide +kernel
theorem s118_43 {L : pj_Loc} {st : List Value} {N S : Nat} {H : pj_Heap} {o : Nat} {v : Value} : pj_step 118 (43, L, v :: .ref o :: st, (N, S, H)) = pj_set 46 L st (N, S, H) o (pj_fset (H o) 6 14 v) := st_putfield q118_43
theorem x118_43 {L : pj_Loc} {st : List Value} {N S : Nat} {H : pj_Heap} {o : Nat} {v : Value} {o9 : Option Value × pj_Mem} : pj_Ends 118 (43, L, v :: .ref o :: st, (N, S, H)) o9 = pj_then 118 o9 (pj_set 46 L st (N, S, H) o (pj_fset (H o) 6 14 v)) := pj_xt q118_43 rfl (pj_cl_nc rfl) (s118_43)
theorem q118_46 : pj_row 118 46 = some (.aload_n 0, 1, 0, 0, 0) := by decide +kernel
theorem s118_46 {st : List Value} {M : pj_Mem} {l : pj_Loc} {x : Nat} : pj_step 118 (46, some (.ref x) :: l, st, M) = some (47, some (.ref x) :: l, .ref x :: st, M) := st_aload_n q118_46 rfl
theorem x118_46 {st : List Value} {M : pj_Mem} {l : pj_Loc} {x : Nat} {o9 : Option Value × pj_Mem} : pj_Ends 118 (46, some (.ref x) :: l, st, M) o9 = pj_Ends 118 (47, some (.ref x) :: l, .ref x :: st, M) o9 := pj_xs (s118_46)
theorem q118_47 : pj_row 118 47 = some (.getfield 179, 3, 6, 15, 0) := by decide +kernel
theorem s118_47 {L : pj_Loc} {st : List Value} {N S : Nat} {H : pj_Heap} {o : Nat} : pj_step 118 (47, L, .ref o :: st, (N, S, H)) = pj_pv 50 L st (N, S, H) (pj_fld (H o) 6 15) := st_getfield q118_47
theorem x118_47 {L : pj_Loc} {st : List Value} {N S : Nat} {H : pj_Heap} {o : Nat} {o9 : Option Value × pj_Mem} : pj_Ends 118 (47, L, .ref o :: st, (N, S, H)) o9 = pj_then 118 o9 (pj_pv 50 L st (N, S, H) (pj_fld (H o) 6 15)) := pj_xt q118_47 rfl (pj_cl_nc rfl) (s118_47)
theorem q118_50 : pj_row 118 50 = some (.ifCond .le 77, 3, 127, 0, 0) := by decide +kernel
theorem s118_50 {L : pj_Loc} {st : List Value} {M : pj_Mem} {x : Int32} : pj_step 118 (50, L, .int x :: st, M) = some (if x ≤ 0 then 127 else 53, L, st, M) := st_if_le q118_50
theorem x118_50 {L : pj_Loc} {st : List Value} {M : pj_Mem} {x : Int32} {o9 : Option Value × pj_Mem} : pj_Ends 118 (50, L, .int x :: st, M) o9 = pj_Ends 118 (if x ≤ 0 then 127 else 53, L, st, M) o9 := pj_xs (s118_50)
theorem q118_53 : pj_row 118 53 = some (.aload_n 0, 1, 0, 0, 0) := by decide +kernel
theorem s118_53 {st : List Value} {M : pj_Mem} {l : pj_Loc} {x : Nat} : pj_step 118 (53, some (.ref x) :: l, st, M) = some (54, some (.ref x) :: l, .ref x :: st, M) := st_aload_n q118_53 rfl
theorem x118_53 {st : List Value} {M : pj_Mem} {l : pj_Loc} {x : Nat} {o9 : Option Value × pj_Mem} : pj_Ends 118 (53, some (.ref x) :: l, st, M) o9 = pj_Ends 118 (54, some (.ref x) :: l, .ref x :: st, M) o9 := pj_xs (s118_53)
theorem q118_54 : pj_row 118 54 = some (.bipush 48, 2, 0, 0, 0) := by decide +kernel
theorem s118_54 {L : pj_Loc} {st : List Value} {M : pj_Mem}  : pj_step 118 (54, L, st, M) = some (56, L, .int 48 :: st, M) := st_bipush q118_54 (by decide +kernel)
theorem x118_54 {L : pj_Loc} {st : List Value} {M : pj_Mem}  {o9 : Option Value × pj_Mem} : pj_Ends 118 (54, L, st, M) o9 = pj_Ends 118 (56, L, .int 48 :: st, M) o9 := pj_xs (s118_54)
theorem q118_56 : pj_row 118 56 = some (.bipush 57, 2, 0, 0, 0) := by decide +kernel
theorem s118_56 {L : pj_Loc} {st : List Value} {M : pj_Mem}  : pj_step 118 (56, L, st, M) = some (58, L, .int 57 :: st, M) := st_bipush q118_56 (by decide +kernel)
theorem x118_56 {L : pj_Loc} {st : List Value} {M : pj_Mem}  {o9 : Option Value × pj_Mem} : pj_Ends 118 (56, L, st, M) o9 = pj_Ends 118 (58, L, .int 57 :: st, M) o9 := pj_xs (s118_56)
theorem q118_58 : pj_row 118 58 = some (.invokevirtual 173, 3, 117, 3, 0) := by decide +kernel
theorem e118_58 {L : pj_Loc} {st : List Value} {N S : Nat} {H : pj_Heap} {o : Option Value × pj_Mem} {M' : pj_Mem} {x0 : Nat} {x1 : Int32} {x2 : Int32} {r : Int32} (h4 : pj_le4 st = true) (hu : pj_isU 6 (H x0) = true) (h1 : pj_Ends 117 (0, [some (.ref x0), some (.int x1), some (.int x2)], [], (N, S, H)) (some (.int r), M')) (h2 : pj_Ends 118 (61, L, .int r :: st, M') o) : pj_Ends 118 (58, L, .int x2 :: .int x1 :: .ref x0 :: st, (N, S, H)) o := ec_v3 q118_58 (Or.inl rfl) h4 hu rfl h1 h2
theorem q118_61 : pj_row 118 61 = some (.ifCond .eq 66, 3, 127, 0, 0) := by decide +kernel
theorem s118_61 {L : pj_Loc} {st : List Value} {M : pj_Mem} {x : Int32} : pj_step 118 (61, L, .int x :: st, M) = some (if x = 0 then 127 else 64, L, st, M) := st_if_eq q118_61
theorem x118_61 {L : pj_Loc} {st : List Value} {M : pj_Mem} {x : Int32} {o9 : Option Value × pj_Mem} : pj_Ends 118 (61, L, .int x :: st, M) o9 = pj_Ends 118 (if x = 0 then 127 else 64, L, st, M) o9 := pj_xs (s118_61)
theorem q118_64 : pj_row 118 64 = some (.bipush 10, 2, 0, 0, 0) := by decide +kernel
theorem s118_64 {L : pj_Loc} {st : List Value} {M : pj_Mem}  : pj_step 118 (64, L, st, M) = some (66, L, .int 10 :: st, M) := st_bipush q118_64 (by decide +kernel)
theorem x118_64 {L : pj_Loc} {st : List Value} {M : pj_Mem}  {o9 : Option Value × pj_Mem} : pj_Ends 118 (64, L, st, M) o9 = pj_Ends 118 (66, L, .int 10 :: st, M) o9 := pj_xs (s118_64)
theorem q118_66 : pj_row 118 66 = some (.aload_n 0, 1, 0, 0, 0) := by decide +kernel
theorem s118_66 {st : List Value} {M : pj_Mem} {l : pj_Loc} {x : Nat} : pj_step 118 (66, some (.ref x) :: l, st, M) = some (67, some (.ref x) :: l, .ref x :: st, M) := st_aload_n q118_66 rfl
theorem x118_66 {st : List Value} {M : pj_Mem} {l : pj_Loc} {x : Nat} {o9 : Option Value × pj_Mem} : pj_Ends 118 (66, some (.ref x) :: l, st, M) o9 = pj_Ends 118 (67, some (.ref x) :: l, .ref x :: st, M) o9 := pj_xs (s118_66)
theorem q118_67 : pj_row 118 67 = some (.getfield 179, 3, 6, 15, 0) := by decide +kernel
theorem s118_67 {L : pj_Loc} {st : List Value} {N S : Nat} {H : pj_Heap} {o : Nat} : pj_step 118 (67, L, .ref o :: st, (N, S, H)) = pj_pv 70 L st (N, S, H) (pj_fld (H o) 6 15) := st_getfield q118_67
theorem x118_67 {L : pj_Loc} {st : List Value} {N S : Nat} {H : pj_Heap} {o : Nat} {o9 : Option Value × pj_Mem} : pj_Ends 118 (67, L, .ref o :: st, (N, S, H)) o9 = pj_then 118 o9 (pj_pv 70 L st (N, S, H) (pj_fld (H o) 6 15)) := pj_xt q118_67 rfl (pj_cl_nc rfl) (s118_67)
theorem q118_70 : pj_row 118 70 = some (.imul, 1, 0, 0, 0) := by decide +kernel
theorem s118_70 {L : pj_Loc} {st : List Value} {M : pj_Mem} {x y : Int32} : pj_step 118 (70, L, .int y :: .int x :: st, M) = some (71, L, .int (x * y) :: st, M) := st_imul q118_70
theorem x118_70 {L : pj_Loc} {st : List Value} {M : pj_Mem} {x y : Int32} {o9 : Option Value × pj_Mem} : pj_Ends 118 (70, L, .int y :: .int x :: st, M) o9 = pj_Ends 118 (71, L, .int (x * y) :: st, M) o9 := pj_xs (s118_70)
theorem q118_71 : pj_row 118 71 = some (.aload_n 0, 1, 0, 0, 0) := by decide +kernel
theorem s118_71 {st : List Value} {M : pj_Mem} {l : pj_Loc} {x : Nat} : pj_step 118 (71, some (.ref x) :: l, st, M) = some (72, some (.ref x) :: l, .ref x :: st, M) := st_aload_n q118_71 rfl
theorem x118_71 {st : List Value} {M : pj_Mem} {l : pj_Loc} {x : Nat} {o9 : Option Value × pj_Mem} : pj_Ends 118 (71, some (.ref x) :: l, st, M) o9 = pj_Ends 118 (72, some (.ref x) :: l, .ref x :: st, M) o9 := pj_xs (s118_71)
theorem q118_72 : pj_row 118 72 = some (.getfield 31, 3, 6, 12, 0) := by decide +kernel
theorem s118_72 {L : pj_Loc} {st : List Value} {N S : Nat} {H : pj_Heap} {o : Nat} : pj_step 118 (72, L, .ref o :: st, (N, S, H)) = pj_pv 75 L st (N, S, H) (pj_fld (H o) 6 12) := st_getfield q118_72
theorem x118_72 {L : pj_Loc} {st : List Value} {N S : Nat} {H : pj_Heap} {o : Nat} {o9 : Option Value × pj_Mem} : pj_Ends 118 (72, L, .ref o :: st, (N, S, H)) o9 = pj_then 118 o9 (pj_pv 75 L st (N, S, H) (pj_fld (H o) 6 12)) := pj_xt q118_72 rfl (pj_cl_nc rfl) (s118_72)
theorem q118_75 : pj_row 118 75 = some (.aload_n 0, 1, 0, 0, 0) := by decide +kernel
theorem s118_75 {st : List Value} {M : pj_Mem} {l : pj_Loc} {x : Nat} : pj_step 118 (75, some (.ref x) :: l, st, M) = some (76, some (.ref x) :: l, .ref x :: st, M) := st_aload_n q118_75 rfl
theorem x118_75 {st : List Value} {M : pj_Mem} {l : pj_Loc} {x : Nat} {o9 : Option Value × pj_Mem} : pj_Ends 118 (75, some (.ref x) :: l, st, M) o9 = pj_Ends 118 (76, some (.ref x) :: l, .ref x :: st, M) o9 := pj_xs (s118_75)
theorem q118_76 : pj_row 118 76 = some (.getfield 170, 3, 6, 14, 0) := by decide +kernel
theorem s118_76 {L : pj_Loc} {st : List Value} {N S : Nat} {H : pj_Heap} {o : Nat} : pj_step 118 (76, L, .ref o :: st, (N, S, H)) = pj_pv 79 L st (N, S, H) (pj_fld (H o) 6 14) := st_getfield q118_76
theorem x118_76 {L : pj_Loc} {st : List Value} {N S : Nat} {H : pj_Heap} {o : Nat} {o9 : Option Value × pj_Mem} : pj_Ends 118 (76, L, .ref o :: st, (N, S, H)) o9 = pj_then 118 o9 (pj_pv 79 L st (N, S, H) (pj_fld (H o) 6 14)) := pj_xt q118_76 rfl (pj_cl_nc rfl) (s118_76)
theorem q118_79 : pj_row 118 79 = some (.iaload, 1, 0, 0, 0) := by decide +kernel
theorem s118_79 {L : pj_Loc} {st : List Value} {N S : Nat} {H : pj_Heap} {o : Nat} {i : Int32} : pj_step 118 (79, L, .int i :: .ref o :: st, (N, S, H)) = pj_pi 80 L st (N, S, H) (pj_arl (H o) 0 i) := st_iaload q118_79
theorem x118_79 {L : pj_Loc} {st : List Value} {N S : Nat} {H : pj_Heap} {o : Nat} {i : Int32} {o9 : Option Value × pj_Mem} : pj_Ends 118 (79, L, .int i :: .ref o :: st, (N, S, H)) o9 = pj_then 118 o9 (pj_pi 80 L st (N, S, H) (pj_arl (H o) 0 i)) := pj_xt q118_79 rfl (pj_cl_nc rfl) (s118_79)
theorem q118_80 : pj_row 118 80 = some (.iadd, 1, 0, 0, 0) := by decide +kernel
theorem s118_80 {L : pj_Loc} {st : List Value} {M : pj_Mem} {x y : Int32} : pj_step 118 (80, L, .int y :: .int x :: st, M) = some (81, L, .int (x + y) :: st, M) := st_iadd q118_80
theorem x118_80 {L : pj_Loc} {st : List Value} {M : pj_Mem} {x y : Int32} {o9 : Option Value × pj_Mem} : pj_Ends 118 (80, L, .int y :: .int x :: st, M) o9 = pj_Ends 118 (81, L, .int (x + y) :: st, M) o9 := pj_xs (s118_80)
theorem q118_81 : pj_row 118 81 = some (.bipush 48, 2, 0, 0, 0) := by decide +kernel
theorem s118_81 {L : pj_Loc} {st : List Value} {M : pj_Mem}  : pj_step 118 (81, L, st, M) = some (83, L, .int 48 :: st, M) := st_bipush q118_81 (by decide +kernel)
theorem x118_81 {L : pj_Loc} {st : List Value} {M : pj_Mem}  {o9 : Option Value × pj_Mem} : pj_Ends 118 (81, L, st, M) o9 = pj_Ends 118 (83, L, .int 48 :: st, M) o9 := pj_xs (s118_81)
theorem q118_83 : pj_row 118 83 = some (.isub, 1, 0, 0, 0) := by decide +kernel
theorem s118_83 {L : pj_Loc} {st : List Value} {M : pj_Mem} {x y : Int32} : pj_step 118 (83, L, .int y :: .int x :: st, M) = some (84, L, .int (x - y) :: st, M) := st_isub q118_83
theorem x118_83 {L : pj_Loc} {st : List Value} {M : pj_Mem} {x y : Int32} {o9 : Option Value × pj_Mem} : pj_Ends 118 (83, L, .int y :: .int x :: st, M) o9 = pj_Ends 118 (84, L, .int (x - y) :: st, M) o9 := pj_xs (s118_83)
theorem q118_84 : pj_row 118 84 = some (.sipush 500, 3, 0, 0, 0) := by decide +kernel
theorem s118_84 {L : pj_Loc} {st : List Value} {M : pj_Mem}  : pj_step 118 (84, L, st, M) = some (87, L, .int 500 :: st, M) := st_sipush q118_84 (by decide +kernel)
theorem x118_84 {L : pj_Loc} {st : List Value} {M : pj_Mem}  {o9 : Option Value × pj_Mem} : pj_Ends 118 (84, L, st, M) o9 = pj_Ends 118 (87, L, .int 500 :: st, M) o9 := pj_xs (s118_84)
theorem q118_87 : pj_row 118 87 = some (.if_icmp .gt 40, 3, 127, 0, 0) := by decide +kernel
theorem s118_87 {L : pj_Loc} {st : List Value} {M : pj_Mem} {x y : Int32} : pj_step 118 (87, L, .int y :: .int x :: st, M) = some (if y < x then 127 else 90, L, st, M) := st_icmp_gt q118_87
theorem x118_87 {L : pj_Loc} {st : List Value} {M : pj_Mem} {x y : Int32} {o9 : Option Value × pj_Mem} : pj_Ends 118 (87, L, .int y :: .int x :: st, M) o9 = pj_Ends 118 (if y < x then 127 else 90, L, st, M) o9 := pj_xs (s118_87)
theorem q118_90 : pj_row 118 90 = some (.aload_n 0, 1, 0, 0, 0) := by decide +kernel
theorem s118_90 {st : List Value} {M : pj_Mem} {l : pj_Loc} {x : Nat} : pj_step 118 (90, some (.ref x) :: l, st, M) = some (91, some (.ref x) :: l, .ref x :: st, M) := st_aload_n q118_90 rfl
theorem x118_90 {st : List Value} {M : pj_Mem} {l : pj_Loc} {x : Nat} {o9 : Option Value × pj_Mem} : pj_Ends 118 (90, some (.ref x) :: l, st, M) o9 = pj_Ends 118 (91, some (.ref x) :: l, .ref x :: st, M) o9 := pj_xs (s118_90)
theorem q118_91 : pj_row 118 91 = some (.bipush 10, 2, 0, 0, 0) := by decide +kernel
theorem s118_91 {L : pj_Loc} {st : List Value} {M : pj_Mem}  : pj_step 118 (91, L, st, M) = some (93, L, .int 10 :: st, M) := st_bipush q118_91 (by decide +kernel)
theorem x118_91 {L : pj_Loc} {st : List Value} {M : pj_Mem}  {o9 : Option Value × pj_Mem} : pj_Ends 118 (91, L, st, M) o9 = pj_Ends 118 (93, L, .int 10 :: st, M) o9 := pj_xs (s118_91)
theorem q118_93 : pj_row 118 93 = some (.aload_n 0, 1, 0, 0, 0) := by decide +kernel
theorem s118_93 {st : List Value} {M : pj_Mem} {l : pj_Loc} {x : Nat} : pj_step 118 (93, some (.ref x) :: l, st, M) = some (94, some (.ref x) :: l, .ref x :: st, M) := st_aload_n q118_93 rfl
theorem x118_93 {st : List Value} {M : pj_Mem} {l : pj_Loc} {x : Nat} {o9 : Option Value × pj_Mem} : pj_Ends 118 (93, some (.ref x) :: l, st, M) o9 = pj_Ends 118 (94, some (.ref x) :: l, .ref x :: st, M) o9 := pj_xs (s118_93)
theorem q118_94 : pj_row 118 94 = some (.getfield 179, 3, 6, 15, 0) := by decide +kernel
theorem s118_94 {L : pj_Loc} {st : List Value} {N S : Nat} {H : pj_Heap} {o : Nat} : pj_step 118 (94, L, .ref o :: st, (N, S, H)) = pj_pv 97 L st (N, S, H) (pj_fld (H o) 6 15) := st_getfield q118_94
theorem x118_94 {L : pj_Loc} {st : List Value} {N S : Nat} {H : pj_Heap} {o : Nat} {o9 : Option Value × pj_Mem} : pj_Ends 118 (94, L, .ref o :: st, (N, S, H)) o9 = pj_then 118 o9 (pj_pv 97 L st (N, S, H) (pj_fld (H o) 6 15)) := pj_xt q118_94 rfl (pj_cl_nc rfl) (s118_94)
theorem q118_97 : pj_row 118 97 = some (.imul, 1, 0, 0, 0) := by decide +kernel
theorem s118_97 {L : pj_Loc} {st : List Value} {M : pj_Mem} {x y : Int32} : pj_step 118 (97, L, .int y :: .int x :: st, M) = some (98, L, .int (x * y) :: st, M) := st_imul q118_97
theorem x118_97 {L : pj_Loc} {st : List Value} {M : pj_Mem} {x y : Int32} {o9 : Option Value × pj_Mem} : pj_Ends 118 (97, L, .int y :: .int x :: st, M) o9 = pj_Ends 118 (98, L, .int (x * y) :: st, M) o9 := pj_xs (s118_97)
theorem q118_98 : pj_row 118 98 = some (.aload_n 0, 1, 0, 0, 0) := by decide +kernel
theorem s118_98 {st : List Value} {M : pj_Mem} {l : pj_Loc} {x : Nat} : pj_step 118 (98, some (.ref x) :: l, st, M) = some (99, some (.ref x) :: l, .ref x :: st, M) := st_aload_n q118_98 rfl
theorem x118_98 {st : List Value} {M : pj_Mem} {l : pj_Loc} {x : Nat} {o9 : Option Value × pj_Mem} : pj_Ends 118 (98, some (.ref x) :: l, st, M) o9 = pj_Ends 118 (99, some (.ref x) :: l, .ref x :: st, M) o9 := pj_xs (s118_98)
theorem q118_99 : pj_row 118 99 = some (.getfield 31, 3, 6, 12, 0) := by decide +kernel
theorem s118_99 {L : pj_Loc} {st : List Value} {N S : Nat} {H : pj_Heap} {o : Nat} : pj_step 118 (99, L, .ref o :: st, (N, S, H)) = pj_pv 102 L st (N, S, H) (pj_fld (H o) 6 12) := st_getfield q118_99
theorem x118_99 {L : pj_Loc} {st : List Value} {N S : Nat} {H : pj_Heap} {o : Nat} {o9 : Option Value × pj_Mem} : pj_Ends 118 (99, L, .ref o :: st, (N, S, H)) o9 = pj_then 118 o9 (pj_pv 102 L st (N, S, H) (pj_fld (H o) 6 12)) := pj_xt q118_99 rfl (pj_cl_nc rfl) (s118_99)
theorem q118_102 : pj_row 118 102 = some (.aload_n 0, 1, 0, 0, 0) := by decide +kernel
theorem s118_102 {st : List Value} {M : pj_Mem} {l : pj_Loc} {x : Nat} : pj_step 118 (102, some (.ref x) :: l, st, M) = some (103, some (.ref x) :: l, .ref x :: st, M) := st_aload_n q118_102 rfl
theorem x118_102 {st : List Value} {M : pj_Mem} {l : pj_Loc} {x : Nat} {o9 : Option Value × pj_Mem} : pj_Ends 118 (102, some (.ref x) :: l, st, M) o9 = pj_Ends 118 (103, some (.ref x) :: l, .ref x :: st, M) o9 := pj_xs (s118_102)
theorem q118_103 : pj_row 118 103 = some (.getfield 170, 3, 6, 14, 0) := by decide +kernel
theorem s118_103 {L : pj_Loc} {st : List Value} {N S : Nat} {H : pj_Heap} {o : Nat} : pj_step 118 (103, L, .ref o :: st, (N, S, H)) = pj_pv 106 L st (N, S, H) (pj_fld (H o) 6 14) := st_getfield q118_103
theorem x118_103 {L : pj_Loc} {st : List Value} {N S : Nat} {H : pj_Heap} {o : Nat} {o9 : Option Value × pj_Mem} : pj_Ends 118 (103, L, .ref o :: st, (N, S, H)) o9 = pj_then 118 o9 (pj_pv 106 L st (N, S, H) (pj_fld (H o) 6 14)) := pj_xt q118_103 rfl (pj_cl_nc rfl) (s118_103)
theorem q118_106 : pj_row 118 106 = some (.iaload, 1, 0, 0, 0) := by decide +kernel
theorem s118_106 {L : pj_Loc} {st : List Value} {N S : Nat} {H : pj_Heap} {o : Nat} {i : Int32} : pj_step 118 (106, L, .int i :: .ref o :: st, (N, S, H)) = pj_pi 107 L st (N, S, H) (pj_arl (H o) 0 i) := st_iaload q118_106
theorem x118_106 {L : pj_Loc} {st : List Value} {N S : Nat} {H : pj_Heap} {o : Nat} {i : Int32} {o9 : Option Value × pj_Mem} : pj_Ends 118 (106, L, .int i :: .ref o :: st, (N, S, H)) o9 = pj_then 118 o9 (pj_pi 107 L st (N, S, H) (pj_arl (H o) 0 i)) := pj_xt q118_106 rfl (pj_cl_nc rfl) (s118_106)
theorem q118_107 : pj_row 118 107 = some (.iadd, 1, 0, 0, 0) := by decide +kernel
theorem s118_107 {L : pj_Loc} {st : List Value} {M : pj_Mem} {x y : Int32} : pj_step 118 (107, L, .int y :: .int x :: st, M) = some (108, L, .int (x + y) :: st, M) := st_iadd q118_107
theorem x118_107 {L : pj_Loc} {st : List Value} {M : pj_Mem} {x y : Int32} {o9 : Option Value × pj_Mem} : pj_Ends 118 (107, L, .int y :: .int x :: st, M) o9 = pj_Ends 118 (108, L, .int (x + y) :: st, M) o9 := pj_xs (s118_107)
theorem q118_108 : pj_row 118 108 = some (.bipush 48, 2, 0, 0, 0) := by decide +kernel
theorem s118_108 {L : pj_Loc} {st : List Value} {M : pj_Mem}  : pj_step 118 (108, L, st, M) = some (110, L, .int 48 :: st, M) := st_bipush q118_108 (by decide +kernel)
theorem x118_108 {L : pj_Loc} {st : List Value} {M : pj_Mem}  {o9 : Option Value × pj_Mem} : pj_Ends 118 (108, L, st, M) o9 = pj_Ends 118 (110, L, .int 48 :: st, M) o9 := pj_xs (s118_108)
theorem q118_110 : pj_row 118 110 = some (.isub, 1, 0, 0, 0) := by decide +kernel
theorem s118_110 {L : pj_Loc} {st : List Value} {M : pj_Mem} {x y : Int32} : pj_step 118 (110, L, .int y :: .int x :: st, M) = some (111, L, .int (x - y) :: st, M) := st_isub q118_110
theorem x118_110 {L : pj_Loc} {st : List Value} {M : pj_Mem} {x y : Int32} {o9 : Option Value × pj_Mem} : pj_Ends 118 (110, L, .int y :: .int x :: st, M) o9 = pj_Ends 118 (111, L, .int (x - y) :: st, M) o9 := pj_xs (s118_110)
theorem q118_111 : pj_row 118 111 = some (.putfield 179, 3, 6, 15, 0) := by decide +kernel
theorem s118_111 {L : pj_Loc} {st : List Value} {N S : Nat} {H : pj_Heap} {o : Nat} {v : Value} : pj_step 118 (111, L, v :: .ref o :: st, (N, S, H)) = pj_set 114 L st (N, S, H) o (pj_fset (H o) 6 15 v) := st_putfield q118_111
theorem x118_111 {L : pj_Loc} {st : List Value} {N S : Nat} {H : pj_Heap} {o : Nat} {v : Value} {o9 : Option Value × pj_Mem} : pj_Ends 118 (111, L, v :: .ref o :: st, (N, S, H)) o9 = pj_then 118 o9 (pj_set 114 L st (N, S, H) o (pj_fset (H o) 6 15 v)) := pj_xt q118_111 rfl (pj_cl_nc rfl) (s118_111)
theorem q118_114 : pj_row 118 114 = some (.aload_n 0, 1, 0, 0, 0) := by decide +kernel
theorem s118_114 {st : List Value} {M : pj_Mem} {l : pj_Loc} {x : Nat} : pj_step 118 (114, some (.ref x) :: l, st, M) = some (115, some (.ref x) :: l, .ref x :: st, M) := st_aload_n q118_114 rfl
theorem x118_114 {st : List Value} {M : pj_Mem} {l : pj_Loc} {x : Nat} {o9 : Option Value × pj_Mem} : pj_Ends 118 (114, some (.ref x) :: l, st, M) o9 = pj_Ends 118 (115, some (.ref x) :: l, .ref x :: st, M) o9 := pj_xs (s118_114)
theorem q118_115 : pj_row 118 115 = some (.dup, 1, 0, 0, 0) := by decide +kernel
theorem s118_115 {L : pj_Loc} {st : List Value} {M : pj_Mem} {x : Nat} : pj_step 118 (115, L, .ref x :: st, M) = some (116, L, .ref x :: .ref x :: st, M) := st_dup_ref q118_115
theorem x118_115 {L : pj_Loc} {st : List Value} {M : pj_Mem} {x : Nat} {o9 : Option Value × pj_Mem} : pj_Ends 118 (115, L, .ref x :: st, M) o9 = pj_Ends 118 (116, L, .ref x :: .ref x :: st, M) o9 := pj_xs (s118_115)
theorem s118_115i {L : pj_Loc} {st : List Value} {M : pj_Mem} {x : Int32} : pj_step 118 (115, L, .int x :: st, M) = some (116, L, .int x :: .int x :: st, M) := st_dup_int q118_115
theorem x118_115i {L : pj_Loc} {st : List Value} {M : pj_Mem} {x : Int32} {o9 : Option Value × pj_Mem} : pj_Ends 118 (115, L, .int x :: st, M) o9 = pj_Ends 118 (116, L, .int x :: .int x :: st, M) o9 := pj_xs (s118_115i)
theorem q118_116 : pj_row 118 116 = some (.getfield 170, 3, 6, 14, 0) := by decide +kernel
theorem s118_116 {L : pj_Loc} {st : List Value} {N S : Nat} {H : pj_Heap} {o : Nat} : pj_step 118 (116, L, .ref o :: st, (N, S, H)) = pj_pv 119 L st (N, S, H) (pj_fld (H o) 6 14) := st_getfield q118_116
theorem x118_116 {L : pj_Loc} {st : List Value} {N S : Nat} {H : pj_Heap} {o : Nat} {o9 : Option Value × pj_Mem} : pj_Ends 118 (116, L, .ref o :: st, (N, S, H)) o9 = pj_then 118 o9 (pj_pv 119 L st (N, S, H) (pj_fld (H o) 6 14)) := pj_xt q118_116 rfl (pj_cl_nc rfl) (s118_116)
theorem q118_119 : pj_row 118 119 = some (.iconst 1, 1, 0, 0, 0) := by decide +kernel
theorem s118_119 {L : pj_Loc} {st : List Value} {M : pj_Mem}  : pj_step 118 (119, L, st, M) = some (120, L, .int 1 :: st, M) := st_iconst q118_119 (by decide +kernel)
theorem x118_119 {L : pj_Loc} {st : List Value} {M : pj_Mem}  {o9 : Option Value × pj_Mem} : pj_Ends 118 (119, L, st, M) o9 = pj_Ends 118 (120, L, .int 1 :: st, M) o9 := pj_xs (s118_119)
theorem q118_120 : pj_row 118 120 = some (.iadd, 1, 0, 0, 0) := by decide +kernel
theorem s118_120 {L : pj_Loc} {st : List Value} {M : pj_Mem} {x y : Int32} : pj_step 118 (120, L, .int y :: .int x :: st, M) = some (121, L, .int (x + y) :: st, M) := st_iadd q118_120
theorem x118_120 {L : pj_Loc} {st : List Value} {M : pj_Mem} {x y : Int32} {o9 : Option Value × pj_Mem} : pj_Ends 118 (120, L, .int y :: .int x :: st, M) o9 = pj_Ends 118 (121, L, .int (x + y) :: st, M) o9 := pj_xs (s118_120)
theorem q118_121 : pj_row 118 121 = some (.putfield 170, 3, 6, 14, 0) := by decide +kernel
theorem s118_121 {L : pj_Loc} {st : List Value} {N S : Nat} {H : pj_Heap} {o : Nat} {v : Value} : pj_step 118 (121, L, v :: .ref o :: st, (N, S, H)) = pj_set 124 L st (N, S, H) o (pj_fset (H o) 6 14 v) := st_putfield q118_121
theorem x118_121 {L : pj_Loc} {st : List Value} {N S : Nat} {H : pj_Heap} {o : Nat} {v : Value} {o9 : Option Value × pj_Mem} : pj_Ends 118 (121, L, v :: .ref o :: st, (N, S, H)) o9 = pj_then 118 o9 (pj_set 124 L st (N, S, H) o (pj_fset (H o) 6 14 v)) := pj_xt q118_121 rfl (pj_cl_nc rfl) (s118_121)
theorem q118_124 : pj_row 118 124 = some (.goto (-78), 3, 46, 0, 0) := by decide +kernel
theorem s118_124 {L : pj_Loc} {st : List Value} {M : pj_Mem}  : pj_step 118 (124, L, st, M) = some (46, L, st, M) := st_goto q118_124
theorem x118_124 {L : pj_Loc} {st : List Value} {M : pj_Mem}  {o9 : Option Value × pj_Mem} : pj_Ends 118 (124, L, st, M) o9 = pj_Ends 118 (46, L, st, M) o9 := pj_xs (s118_124)
theorem q118_127 : pj_row 118 127 = some (.aload_n 0, 1, 0, 0, 0) := by decide +kernel
theorem s118_127 {st : List Value} {M : pj_Mem} {l : pj_Loc} {x : Nat} : pj_step 118 (127, some (.ref x) :: l, st, M) = some (128, some (.ref x) :: l, .ref x :: st, M) := st_aload_n q118_127 rfl
theorem x118_127 {st : List Value} {M : pj_Mem} {l : pj_Loc} {x : Nat} {o9 : Option Value × pj_Mem} : pj_Ends 118 (127, some (.ref x) :: l, st, M) o9 = pj_Ends 118 (128, some (.ref x) :: l, .ref x :: st, M) o9 := pj_xs (s118_127)
theorem q118_128 : pj_row 118 128 = some (.iload_n 1, 1, 0, 0, 0) := by decide +kernel
theorem s118_128 {st : List Value} {M : pj_Mem} {l : pj_Loc} {a0 : Option Value} {x : Int32} : pj_step 118 (128, a0 :: some (.int x) :: l, st, M) = some (129, a0 :: some (.int x) :: l, .int x :: st, M) := st_iload_n q118_128 rfl
theorem x118_128 {st : List Value} {M : pj_Mem} {l : pj_Loc} {a0 : Option Value} {x : Int32} {o9 : Option Value × pj_Mem} : pj_Ends 118 (128, a0 :: some (.int x) :: l, st, M) o9 = pj_Ends 118 (129, a0 :: some (.int x) :: l, .int x :: st, M) o9 := pj_xs (s118_128)
theorem q118_129 : pj_row 118 129 = some (.ifCond .eq 11, 3, 140, 0, 0) := by decide +kernel
theorem s118_129 {L : pj_Loc} {st : List Value} {M : pj_Mem} {x : Int32} : pj_step 118 (129, L, .int x :: st, M) = some (if x = 0 then 140 else 132, L, st, M) := st_if_eq q118_129
theorem x118_129 {L : pj_Loc} {st : List Value} {M : pj_Mem} {x : Int32} {o9 : Option Value × pj_Mem} : pj_Ends 118 (129, L, .int x :: st, M) o9 = pj_Ends 118 (if x = 0 then 140 else 132, L, st, M) o9 := pj_xs (s118_129)
theorem q118_132 : pj_row 118 132 = some (.aload_n 0, 1, 0, 0, 0) := by decide +kernel
theorem s118_132 {st : List Value} {M : pj_Mem} {l : pj_Loc} {x : Nat} : pj_step 118 (132, some (.ref x) :: l, st, M) = some (133, some (.ref x) :: l, .ref x :: st, M) := st_aload_n q118_132 rfl
theorem x118_132 {st : List Value} {M : pj_Mem} {l : pj_Loc} {x : Nat} {o9 : Option Value × pj_Mem} : pj_Ends 118 (132, some (.ref x) :: l, st, M) o9 = pj_Ends 118 (133, some (.ref x) :: l, .ref x :: st, M) o9 := pj_xs (s118_132)
theorem q118_133 : pj_row 118 133 = some (.getfield 179, 3, 6, 15, 0) := by decide +kernel
theorem s118_133 {L : pj_Loc} {st : List Value} {N S : Nat} {H : pj_Heap} {o : Nat} : pj_step 118 (133, L, .ref o :: st, (N, S, H)) = pj_pv 136 L st (N, S, H) (pj_fld (H o) 6 15) := st_getfield q118_133
theorem x118_133 {L : pj_Loc} {st : List Value} {N S : Nat} {H : pj_Heap} {o : Nat} {o9 : Option Value × pj_Mem} : pj_Ends 118 (133, L, .ref o :: st, (N, S, H)) o9 = pj_then 118 o9 (pj_pv 136 L st (N, S, H) (pj_fld (H o) 6 15)) := pj_xt q118_133 rfl (pj_cl_nc rfl) (s118_133)
theorem q118_136 : pj_row 118 136 = some (.ineg, 1, 0, 0, 0) := by decide +kernel
theorem s118_136 {L : pj_Loc} {st : List Value} {M : pj_Mem} {x : Int32} : pj_step 118 (136, L, .int x :: st, M) = some (137, L, .int (-x) :: st, M) := st_ineg q118_136
theorem x118_136 {L : pj_Loc} {st : List Value} {M : pj_Mem} {x : Int32} {o9 : Option Value × pj_Mem} : pj_Ends 118 (136, L, .int x :: st, M) o9 = pj_Ends 118 (137, L, .int (-x) :: st, M) o9 := pj_xs (s118_136)
theorem q118_137 : pj_row 118 137 = some (.goto 7, 3, 144, 0, 0) := by decide +kernel
theorem s118_137 {L : pj_Loc} {st : List Value} {M : pj_Mem}  : pj_step 118 (137, L, st, M) = some (144, L, st, M) := st_goto q118_137
theorem x118_137 {L : pj_Loc} {st : List Value} {M : pj_Mem}  {o9 : Option Value × pj_Mem} : pj_Ends 118 (137, L, st, M) o9 = pj_Ends 118 (144, L, st, M) o9 := pj_xs (s118_137)
theorem q118_140 : pj_row 118 140 = some (.aload_n 0, 1, 0, 0, 0) := by decide +kernel
theorem s118_140 {st : List Value} {M : pj_Mem} {l : pj_Loc} {x : Nat} : pj_step 118 (140, some (.ref x) :: l, st, M) = some (141, some (.ref x) :: l, .ref x :: st, M) := st_aload_n q118_140 rfl
theorem x118_140 {st : List Value} {M : pj_Mem} {l : pj_Loc} {x : Nat} {o9 : Option Value × pj_Mem} : pj_Ends 118 (140, some (.ref x) :: l, st, M) o9 = pj_Ends 118 (141, some (.ref x) :: l, .ref x :: st, M) o9 := pj_xs (s118_140)
theorem q118_141 : pj_row 118 141 = some (.getfield 179, 3, 6, 15, 0) := by decide +kernel
theorem s118_141 {L : pj_Loc} {st : List Value} {N S : Nat} {H : pj_Heap} {o : Nat} : pj_step 118 (141, L, .ref o :: st, (N, S, H)) = pj_pv 144 L st (N, S, H) (pj_fld (H o) 6 15) := st_getfield q118_141
theorem x118_141 {L : pj_Loc} {st : List Value} {N S : Nat} {H : pj_Heap} {o : Nat} {o9 : Option Value × pj_Mem} : pj_Ends 118 (141, L, .ref o :: st, (N, S, H)) o9 = pj_then 118 o9 (pj_pv 144 L st (N, S, H) (pj_fld (H o) 6 15)) := pj_xt q118_141 rfl (pj_cl_nc rfl) (s118_141)
theorem q118_144 : pj_row 118 144 = some (.putfield 179, 3, 6, 15, 0) := by decide +kernel
theorem s118_144 {L : pj_Loc} {st : List Value} {N S : Nat} {H : pj_Heap} {o : Nat} {v : Value} : pj_step 118 (144, L, v :: .ref o :: st, (N, S, H)) = pj_set 147 L st (N, S, H) o (pj_fset (H o) 6 15 v) := st_putfield q118_144
theorem x118_144 {L : pj_Loc} {st : List Value} {N S : Nat} {H : pj_Heap} {o : Nat} {v : Value} {o9 : Option Value × pj_Mem} : pj_Ends 118 (144, L, v :: .ref o :: st, (N, S, H)) o9 = pj_then 118 o9 (pj_set 147 L st (N, S, H) o (pj_fset (H o) 6 15 v)) := pj_xt q118_144 rfl (pj_cl_nc rfl) (s118_144)
theorem q118_147 : pj_row 118 147 = some (.iconst 1, 1, 0, 0, 0) := by decide +kernel
theorem s118_147 {L : pj_Loc} {st : List Value} {M : pj_Mem}  : pj_step 118 (147, L, st, M) = some (148, L, .int 1 :: st, M) := st_iconst q118_147 (by decide +kernel)
theorem x118_147 {L : pj_Loc} {st : List Value} {M : pj_Mem}  {o9 : Option Value × pj_Mem} : pj_Ends 118 (147, L, st, M) o9 = pj_Ends 118 (148, L, .int 1 :: st, M) o9 := pj_xs (s118_147)
theorem q118_148 : pj_row 118 148 = some (.ireturn, 1, 0, 0, 0) := by decide +kernel
theorem t118_148 {L : pj_Loc} {M : pj_Mem} {v : Int32} (hv : v = 0 ∨ v = 1) : pj_Ends 118 (148, L, [.int v], M) (some (.int v), M) := pj_Ends.ret q118_148 (pj_rtn_z rt118 hv)
theorem rt119 : pj_rt 119 = some .int := rfl
theorem q119_0 : pj_row 119 0 = some (.aload_n 0, 1, 0, 0, 0) := by decide +kernel
theorem s119_0 {st : List Value} {M : pj_Mem} {l : pj_Loc} {x : Nat} : pj_step 119 (0, some (.ref x) :: l, st, M) = some (1, some (.ref x) :: l, .ref x :: st, M) := st_aload_n q119_0 rfl
theorem x119_0 {st : List Value} {M : pj_Mem} {l : pj_Loc} {x : Nat} {o9 : Option Value × pj_Mem} : pj_Ends 119 (0, some (.ref x) :: l, st, M) o9 = pj_Ends 119 (1, some (.ref x) :: l, .ref x :: st, M) o9 := pj_xs (s119_0)
theorem q119_1 : pj_row 119 1 = some (.invokevirtual 195, 3, 114, 1, 0) := by decide +kernel
theorem e119_1 {L : pj_Loc} {st : List Value} {N S : Nat} {H : pj_Heap} {o : Option Value × pj_Mem} {M' : pj_Mem} {x0 : Nat} {r : Int32} (h4 : pj_le4 st = true) (hu : pj_isU 6 (H x0) = true) (h1 : pj_Ends 114 (0, [some (.ref x0), none], [], (N, S, H)) (some (.int r), M')) (h2 : pj_Ends 119 (4, L, .int r :: st, M') o) : pj_Ends 119 (1, L, .ref x0 :: st, (N, S, H)) o := ec_v1 q119_1 (Or.inl rfl) h4 hu rfl h1 h2
theorem q119_4 : pj_row 119 4 = some (.bipush (-6), 2, 0, 0, 0) := by decide +kernel
theorem s119_4 {L : pj_Loc} {st : List Value} {M : pj_Mem}  : pj_step 119 (4, L, st, M) = some (6, L, .int (-6) :: st, M) := st_bipush q119_4 (by decide +kernel)
theorem x119_4 {L : pj_Loc} {st : List Value} {M : pj_Mem}  {o9 : Option Value × pj_Mem} : pj_Ends 119 (4, L, st, M) o9 = pj_Ends 119 (6, L, .int (-6) :: st, M) o9 := pj_xs (s119_4)
theorem q119_6 : pj_row 119 6 = some (.if_icmp .eq 6, 3, 12, 0, 0) := by decide +kernel
theorem s119_6 {L : pj_Loc} {st : List Value} {M : pj_Mem} {x y : Int32} : pj_step 119 (6, L, .int y :: .int x :: st, M) = some (if x = y then 12 else 9, L, st, M) := st_icmp_eq q119_6
theorem x119_6 {L : pj_Loc} {st : List Value} {M : pj_Mem} {x y : Int32} {o9 : Option Value × pj_Mem} : pj_Ends 119 (6, L, .int y :: .int x :: st, M) o9 = pj_Ends 119 (if x = y then 12 else 9, L, st, M) o9 := pj_xs (s119_6)
theorem q119_9 : pj_row 119 9 = some (.bipush (-3), 2, 0, 0, 0) := by decide +kernel
theorem s119_9 {L : pj_Loc} {st : List Value} {M : pj_Mem}  : pj_step 119 (9, L, st, M) = some (11, L, .int (-3) :: st, M) := st_bipush q119_9 (by decide +kernel)
theorem x119_9 {L : pj_Loc} {st : List Value} {M : pj_Mem}  {o9 : Option Value × pj_Mem} : pj_Ends 119 (9, L, st, M) o9 = pj_Ends 119 (11, L, .int (-3) :: st, M) o9 := pj_xs (s119_9)
theorem q119_11 : pj_row 119 11 = some (.ireturn, 1, 0, 0, 0) := by decide +kernel
theorem t119_11 {L : pj_Loc} {M : pj_Mem} {v : Int32} : pj_Ends 119 (11, L, [.int v], M) (some (.int v), M) := pj_Ends.ret q119_11 (pj_rtn_i rt119)
theorem q119_12 : pj_row 119 12 = some (.aload_n 0, 1, 0, 0, 0) := by decide +kernel
theorem s119_12 {st : List Value} {M : pj_Mem} {l : pj_Loc} {x : Nat} : pj_step 119 (12, some (.ref x) :: l, st, M) = some (13, some (.ref x) :: l, .ref x :: st, M) := st_aload_n q119_12 rfl
theorem x119_12 {st : List Value} {M : pj_Mem} {l : pj_Loc} {x : Nat} {o9 : Option Value × pj_Mem} : pj_Ends 119 (12, some (.ref x) :: l, st, M) o9 = pj_Ends 119 (13, some (.ref x) :: l, .ref x :: st, M) o9 := pj_xs (s119_12)
theorem q119_13 : pj_row 119 13 = some (.getfield 7, 3, 6, 0, 0) := by decide +kernel
theorem s119_13 {L : pj_Loc} {st : List Value} {N S : Nat} {H : pj_Heap} {o : Nat} : pj_step 119 (13, L, .ref o :: st, (N, S, H)) = pj_pv 16 L st (N, S, H) (pj_fld (H o) 6 0) := st_getfield q119_13
theorem x119_13 {L : pj_Loc} {st : List Value} {N S : Nat} {H : pj_Heap} {o : Nat} {o9 : Option Value × pj_Mem} : pj_Ends 119 (13, L, .ref o :: st, (N, S, H)) o9 = pj_then 119 o9 (pj_pv 16 L st (N, S, H) (pj_fld (H o) 6 0)) := pj_xt q119_13 rfl (pj_cl_nc rfl) (s119_13)
theorem q119_16 : pj_row 119 16 = some (.bipush 6, 2, 0, 0, 0) := by decide +kernel
theorem s119_16 {L : pj_Loc} {st : List Value} {M : pj_Mem}  : pj_step 119 (16, L, st, M) = some (18, L, .int 6 :: st, M) := st_bipush q119_16 (by decide +kernel)
theorem x119_16 {L : pj_Loc} {st : List Value} {M : pj_Mem}  {o9 : Option Value × pj_Mem} : pj_Ends 119 (16, L, st, M) o9 = pj_Ends 119 (18, L, .int 6 :: st, M) o9 := pj_xs (s119_16)
theorem q119_18 : pj_row 119 18 = some (.iaload, 1, 0, 0, 0) := by decide +kernel
theorem s119_18 {L : pj_Loc} {st : List Value} {N S : Nat} {H : pj_Heap} {o : Nat} {i : Int32} : pj_step 119 (18, L, .int i :: .ref o :: st, (N, S, H)) = pj_pi 19 L st (N, S, H) (pj_arl (H o) 0 i) := st_iaload q119_18
theorem x119_18 {L : pj_Loc} {st : List Value} {N S : Nat} {H : pj_Heap} {o : Nat} {i : Int32} {o9 : Option Value × pj_Mem} : pj_Ends 119 (18, L, .int i :: .ref o :: st, (N, S, H)) o9 = pj_then 119 o9 (pj_pi 19 L st (N, S, H) (pj_arl (H o) 0 i)) := pj_xt q119_18 rfl (pj_cl_nc rfl) (s119_18)
theorem q119_19 : pj_row 119 19 = some (.aload_n 0, 1, 0, 0, 0) := by decide +kernel
theorem s119_19 {st : List Value} {M : pj_Mem} {l : pj_Loc} {x : Nat} : pj_step 119 (19, some (.ref x) :: l, st, M) = some (20, some (.ref x) :: l, .ref x :: st, M) := st_aload_n q119_19 rfl
theorem x119_19 {st : List Value} {M : pj_Mem} {l : pj_Loc} {x : Nat} {o9 : Option Value × pj_Mem} : pj_Ends 119 (19, some (.ref x) :: l, st, M) o9 = pj_Ends 119 (20, some (.ref x) :: l, .ref x :: st, M) o9 := pj_xs (s119_19)
theorem q119_20 : pj_row 119 20 = some (.getfield 189, 3, 6, 17, 0) := by decide +kernel
theorem s119_20 {L : pj_Loc} {st : List Value} {N S : Nat} {H : pj_Heap} {o : Nat} : pj_step 119 (20, L, .ref o :: st, (N, S, H)) = pj_pv 23 L st (N, S, H) (pj_fld (H o) 6 17) := st_getfield q119_20
theorem x119_20 {L : pj_Loc} {st : List Value} {N S : Nat} {H : pj_Heap} {o : Nat} {o9 : Option Value × pj_Mem} : pj_Ends 119 (20, L, .ref o :: st, (N, S, H)) o9 = pj_then 119 o9 (pj_pv 23 L st (N, S, H) (pj_fld (H o) 6 17)) := pj_xt q119_20 rfl (pj_cl_nc rfl) (s119_20)
theorem q119_23 : pj_row 119 23 = some (.iadd, 1, 0, 0, 0) := by decide +kernel
theorem s119_23 {L : pj_Loc} {st : List Value} {M : pj_Mem} {x y : Int32} : pj_step 119 (23, L, .int y :: .int x :: st, M) = some (24, L, .int (x + y) :: st, M) := st_iadd q119_23
theorem x119_23 {L : pj_Loc} {st : List Value} {M : pj_Mem} {x y : Int32} {o9 : Option Value × pj_Mem} : pj_Ends 119 (23, L, .int y :: .int x :: st, M) o9 = pj_Ends 119 (24, L, .int (x + y) :: st, M) o9 := pj_xs (s119_23)
theorem q119_24 : pj_row 119 24 = some (.ldc 81, 2, 0, 0, 100000) := by decide +kernel
theorem s119_24 {L : pj_Loc} {st : List Value} {M : pj_Mem}  : pj_step 119 (24, L, st, M) = some (26, L, .int 100000 :: st, M) := st_ldc q119_24 (by decide +kernel)
theorem x119_24 {L : pj_Loc} {st : List Value} {M : pj_Mem}  {o9 : Option Value × pj_Mem} : pj_Ends 119 (24, L, st, M) o9 = pj_Ends 119 (26, L, .int 100000 :: st, M) o9 := pj_xs (s119_24)
theorem q119_26 : pj_row 119 26 = some (.if_icmp .le 6, 3, 32, 0, 0) := by decide +kernel
theorem s119_26 {L : pj_Loc} {st : List Value} {M : pj_Mem} {x y : Int32} : pj_step 119 (26, L, .int y :: .int x :: st, M) = some (if x ≤ y then 32 else 29, L, st, M) := st_icmp_le q119_26
theorem x119_26 {L : pj_Loc} {st : List Value} {M : pj_Mem} {x y : Int32} {o9 : Option Value × pj_Mem} : pj_Ends 119 (26, L, .int y :: .int x :: st, M) o9 = pj_Ends 119 (if x ≤ y then 32 else 29, L, st, M) o9 := pj_xs (s119_26)
theorem q119_29 : pj_row 119 29 = some (.bipush (-4), 2, 0, 0, 0) := by decide +kernel
theorem s119_29 {L : pj_Loc} {st : List Value} {M : pj_Mem}  : pj_step 119 (29, L, st, M) = some (31, L, .int (-4) :: st, M) := st_bipush q119_29 (by decide +kernel)
theorem x119_29 {L : pj_Loc} {st : List Value} {M : pj_Mem}  {o9 : Option Value × pj_Mem} : pj_Ends 119 (29, L, st, M) o9 = pj_Ends 119 (31, L, .int (-4) :: st, M) o9 := pj_xs (s119_29)
theorem q119_31 : pj_row 119 31 = some (.ireturn, 1, 0, 0, 0) := by decide +kernel
theorem t119_31 {L : pj_Loc} {M : pj_Mem} {v : Int32} : pj_Ends 119 (31, L, [.int v], M) (some (.int v), M) := pj_Ends.ret q119_31 (pj_rtn_i rt119)
theorem q119_32 : pj_row 119 32 = some (.aload_n 0, 1, 0, 0, 0) := by decide +kernel
theorem s119_32 {st : List Value} {M : pj_Mem} {l : pj_Loc} {x : Nat} : pj_step 119 (32, some (.ref x) :: l, st, M) = some (33, some (.ref x) :: l, .ref x :: st, M) := st_aload_n q119_32 rfl
theorem x119_32 {st : List Value} {M : pj_Mem} {l : pj_Loc} {x : Nat} {o9 : Option Value × pj_Mem} : pj_Ends 119 (32, some (.ref x) :: l, st, M) o9 = pj_Ends 119 (33, some (.ref x) :: l, .ref x :: st, M) o9 := pj_xs (s119_32)
theorem q119_33 : pj_row 119 33 = some (.invokevirtual 121, 3, 77, 1, 0) := by decide +kernel
theorem e119_33 {L : pj_Loc} {st : List Value} {N S : Nat} {H : pj_Heap} {o : Option Value × pj_Mem} {M' : pj_Mem} {x0 : Nat} (h4 : pj_le4 st = true) (hu : pj_isU 6 (H x0) = true) (h1 : pj_Ends 77 (0, [some (.ref x0), none], [], (N, S, H)) (none, M')) (h2 : pj_Ends 119 (36, L, st, M') o) : pj_Ends 119 (33, L, .ref x0 :: st, (N, S, H)) o := ec_v1 q119_33 (Or.inl rfl) h4 hu rfl h1 h2
theorem q119_36 : pj_row 119 36 = some (.aload_n 0, 1, 0, 0, 0) := by decide +kernel
theorem s119_36 {st : List Value} {M : pj_Mem} {l : pj_Loc} {x : Nat} : pj_step 119 (36, some (.ref x) :: l, st, M) = some (37, some (.ref x) :: l, .ref x :: st, M) := st_aload_n q119_36 rfl
theorem x119_36 {st : List Value} {M : pj_Mem} {l : pj_Loc} {x : Nat} {o9 : Option Value × pj_Mem} : pj_Ends 119 (36, some (.ref x) :: l, st, M) o9 = pj_Ends 119 (37, some (.ref x) :: l, .ref x :: st, M) o9 := pj_xs (s119_36)
theorem q119_37 : pj_row 119 37 = some (.iconst 0, 1, 0, 0, 0) := by decide +kernel
theorem s119_37 {L : pj_Loc} {st : List Value} {M : pj_Mem}  : pj_step 119 (37, L, st, M) = some (38, L, .int 0 :: st, M) := st_iconst q119_37 (by decide +kernel)
theorem x119_37 {L : pj_Loc} {st : List Value} {M : pj_Mem}  {o9 : Option Value × pj_Mem} : pj_Ends 119 (37, L, st, M) o9 = pj_Ends 119 (38, L, .int 0 :: st, M) o9 := pj_xs (s119_37)
theorem q119_38 : pj_row 119 38 = some (.putfield 170, 3, 6, 14, 0) := by decide +kernel
theorem s119_38 {L : pj_Loc} {st : List Value} {N S : Nat} {H : pj_Heap} {o : Nat} {v : Value} : pj_step 119 (38, L, v :: .ref o :: st, (N, S, H)) = pj_set 41 L st (N, S, H) o (pj_fset (H o) 6 14 v) := st_putfield q119_38
theorem x119_38 {L : pj_Loc} {st : List Value} {N S : Nat} {H : pj_Heap} {o : Nat} {v : Value} {o9 : Option Value × pj_Mem} : pj_Ends 119 (38, L, v :: .ref o :: st, (N, S, H)) o9 = pj_then 119 o9 (pj_set 41 L st (N, S, H) o (pj_fset (H o) 6 14 v)) := pj_xt q119_38 rfl (pj_cl_nc rfl) (s119_38)
theorem q119_41 : pj_row 119 41 = some (.iconst 0, 1, 0, 0, 0) := by decide +kernel
theorem s119_41 {L : pj_Loc} {st : List Value} {M : pj_Mem}  : pj_step 119 (41, L, st, M) = some (42, L, .int 0 :: st, M) := st_iconst q119_41 (by decide +kernel)
theorem x119_41 {L : pj_Loc} {st : List Value} {M : pj_Mem}  {o9 : Option Value × pj_Mem} : pj_Ends 119 (41, L, st, M) o9 = pj_Ends 119 (42, L, .int 0 :: st, M) o9 := pj_xs (s119_41)
theorem q119_42 : pj_row 119 42 = some (.istore_n 1, 1, 0, 0, 0) := by decide +kernel
theorem s119_42 {st : List Value} {M : pj_Mem} {l : pj_Loc} {a0 a1 : Option Value} {x : Int32} (h : pj_long a0 = false) : pj_step 119 (42, a0 :: a1 :: l, .int x :: st, M) = some (43, a0 :: some (.int x) :: l, st, M) := st_istore_n q119_42 (pj_st_1 h)
theorem x119_42 {st : List Value} {M : pj_Mem} {l : pj_Loc} {a0 a1 : Option Value} {x : Int32} (h : pj_long a0 = false) {o9 : Option Value × pj_Mem} : pj_Ends 119 (42, a0 :: a1 :: l, .int x :: st, M) o9 = pj_Ends 119 (43, a0 :: some (.int x) :: l, st, M) o9 := pj_xs (s119_42 h)
theorem q119_43 : pj_row 119 43 = some (.iconst 1, 1, 0, 0, 0) := by decide +kernel
theorem s119_43 {L : pj_Loc} {st : List Value} {M : pj_Mem}  : pj_step 119 (43, L, st, M) = some (44, L, .int 1 :: st, M) := st_iconst q119_43 (by decide +kernel)
theorem x119_43 {L : pj_Loc} {st : List Value} {M : pj_Mem}  {o9 : Option Value × pj_Mem} : pj_Ends 119 (43, L, st, M) o9 = pj_Ends 119 (44, L, .int 1 :: st, M) o9 := pj_xs (s119_43)
theorem q119_44 : pj_row 119 44 = some (.istore_n 2, 1, 0, 0, 0) := by decide +kernel
theorem s119_44 {st : List Value} {M : pj_Mem} {l : pj_Loc} {a0 a1 a2 : Option Value} {x : Int32} (h : pj_long a1 = false) : pj_step 119 (44, a0 :: a1 :: a2 :: l, .int x :: st, M) = some (45, a0 :: a1 :: some (.int x) :: l, st, M) := st_istore_n q119_44 (pj_st_2 h)
theorem x119_44 {st : List Value} {M : pj_Mem} {l : pj_Loc} {a0 a1 a2 : Option Value} {x : Int32} (h : pj_long a1 = false) {o9 : Option Value × pj_Mem} : pj_Ends 119 (44, a0 :: a1 :: a2 :: l, .int x :: st, M) o9 = pj_Ends 119 (45, a0 :: a1 :: some (.int x) :: l, st, M) o9 := pj_xs (s119_44 h)
theorem q119_45 : pj_row 119 45 = some (.iload_n 2, 1, 0, 0, 0) := by decide +kernel
theorem s119_45 {st : List Value} {M : pj_Mem} {l : pj_Loc} {a0 a1 : Option Value} {x : Int32} : pj_step 119 (45, a0 :: a1 :: some (.int x) :: l, st, M) = some (46, a0 :: a1 :: some (.int x) :: l, .int x :: st, M) := st_iload_n q119_45 rfl
theorem x119_45 {st : List Value} {M : pj_Mem} {l : pj_Loc} {a0 a1 : Option Value} {x : Int32} {o9 : Option Value × pj_Mem} : pj_Ends 119 (45, a0 :: a1 :: some (.int x) :: l, st, M) o9 = pj_Ends 119 (46, a0 :: a1 :: some (.int x) :: l, .int x :: st, M) o9 := pj_xs (s119_45)
theorem q119_46 : pj_row 119 46 = some (.ifCond .eq 35, 3, 81, 0, 0) := by decide +kernel
theorem s119_46 {L : pj_Loc} {st : List Value} {M : pj_Mem} {x : Int32} : pj_step 119 (46, L, .int x :: st, M) = some (if x = 0 then 81 else 49, L, st, M) := st_if_eq q119_46
theorem x119_46 {L : pj_Loc} {st : List Value} {M : pj_Mem} {x : Int32} {o9 : Option Value × pj_Mem} : pj_Ends 119 (46, L, .int x :: st, M) o9 = pj_Ends 119 (if x = 0 then 81 else 49, L, st, M) o9 := pj_xs (s119_46)
theorem q119_49 : pj_row 119 49 = some (.aload_n 0, 1, 0, 0, 0) := by decide +kernel
theorem s119_49 {st : List Value} {M : pj_Mem} {l : pj_Loc} {x : Nat} : pj_step 119 (49, some (.ref x) :: l, st, M) = some (50, some (.ref x) :: l, .ref x :: st, M) := st_aload_n q119_49 rfl
theorem x119_49 {st : List Value} {M : pj_Mem} {l : pj_Loc} {x : Nat} {o9 : Option Value × pj_Mem} : pj_Ends 119 (49, some (.ref x) :: l, st, M) o9 = pj_Ends 119 (50, some (.ref x) :: l, .ref x :: st, M) o9 := pj_xs (s119_49)
theorem q119_50 : pj_row 119 50 = some (.invokevirtual 192, 3, 115, 1, 0) := by decide +kernel
theorem e119_50 {L : pj_Loc} {st : List Value} {N S : Nat} {H : pj_Heap} {o : Option Value × pj_Mem} {M' : pj_Mem} {x0 : Nat} {r : Int32} (h4 : pj_le4 st = true) (hu : pj_isU 6 (H x0) = true) (h1 : pj_Ends 115 (0, [some (.ref x0), none], [], (N, S, H)) (some (.int r), M')) (h2 : pj_Ends 119 (53, L, .int r :: st, M') o) : pj_Ends 119 (50, L, .ref x0 :: st, (N, S, H)) o := ec_v1 q119_50 (Or.inl rfl) h4 hu rfl h1 h2
theorem q119_53 : pj_row 119 53 = some (.ifCond .eq 28, 3, 81, 0, 0) := by decide +kernel
theorem s119_53 {L : pj_Loc} {st : List Value} {M : pj_Mem} {x : Int32} : pj_step 119 (53, L, .int x :: st, M) = some (if x = 0 then 81 else 56, L, st, M) := st_if_eq q119_53
theorem x119_53 {L : pj_Loc} {st : List Value} {M : pj_Mem} {x : Int32} {o9 : Option Value × pj_Mem} : pj_Ends 119 (53, L, .int x :: st, M) o9 = pj_Ends 119 (if x = 0 then 81 else 56, L, st, M) o9 := pj_xs (s119_53)
theorem q119_56 : pj_row 119 56 = some (.aload_n 0, 1, 0, 0, 0) := by decide +kernel
theorem s119_56 {st : List Value} {M : pj_Mem} {l : pj_Loc} {x : Nat} : pj_step 119 (56, some (.ref x) :: l, st, M) = some (57, some (.ref x) :: l, .ref x :: st, M) := st_aload_n q119_56 rfl
theorem x119_56 {st : List Value} {M : pj_Mem} {l : pj_Loc} {x : Nat} {o9 : Option Value × pj_Mem} : pj_Ends 119 (56, some (.ref x) :: l, st, M) o9 = pj_Ends 119 (57, some (.ref x) :: l, .ref x :: st, M) o9 := pj_xs (s119_56)
theorem q119_57 : pj_row 119 57 = some (.aload_n 0, 1, 0, 0, 0) := by decide +kernel
theorem s119_57 {st : List Value} {M : pj_Mem} {l : pj_Loc} {x : Nat} : pj_step 119 (57, some (.ref x) :: l, st, M) = some (58, some (.ref x) :: l, .ref x :: st, M) := st_aload_n q119_57 rfl
theorem x119_57 {st : List Value} {M : pj_Mem} {l : pj_Loc} {x : Nat} {o9 : Option Value × pj_Mem} : pj_Ends 119 (57, some (.ref x) :: l, st, M) o9 = pj_Ends 119 (58, some (.ref x) :: l, .ref x :: st, M) o9 := pj_xs (s119_57)
theorem q119_58 : pj_row 119 58 = some (.getfield 185, 3, 6, 16, 0) := by decide +kernel
theorem s119_58 {L : pj_Loc} {st : List Value} {N S : Nat} {H : pj_Heap} {o : Nat} : pj_step 119 (58, L, .ref o :: st, (N, S, H)) = pj_pv 61 L st (N, S, H) (pj_fld (H o) 6 16) := st_getfield q119_58
theorem x119_58 {L : pj_Loc} {st : List Value} {N S : Nat} {H : pj_Heap} {o : Nat} {o9 : Option Value × pj_Mem} : pj_Ends 119 (58, L, .ref o :: st, (N, S, H)) o9 = pj_then 119 o9 (pj_pv 61 L st (N, S, H) (pj_fld (H o) 6 16)) := pj_xt q119_58 rfl (pj_cl_nc rfl) (s119_58)
theorem q119_61 : pj_row 119 61 = some (.invokevirtual 134, 3, 82, 2, 0) := by decide +kernel
theorem e119_61 {L : pj_Loc} {st : List Value} {N S : Nat} {H : pj_Heap} {o : Option Value × pj_Mem} {M' : pj_Mem} {x0 : Nat} {x1 : Int32} (h4 : pj_le4 st = true) (hu : pj_isU 6 (H x0) = true) (h1 : pj_Ends 82 (0, [some (.ref x0), some (.int x1)], [], (N, S, H)) (none, M')) (h2 : pj_Ends 119 (64, L, st, M') o) : pj_Ends 119 (61, L, .int x1 :: .ref x0 :: st, (N, S, H)) o := ec_v2 q119_61 (Or.inl rfl) h4 hu rfl h1 h2
theorem q119_64 : pj_row 119 64 = some (.iload_n 1, 1, 0, 0, 0) := by decide +kernel
theorem s119_64 {st : List Value} {M : pj_Mem} {l : pj_Loc} {a0 : Option Value} {x : Int32} : pj_step 119 (64, a0 :: some (.int x) :: l, st, M) = some (65, a0 :: some (.int x) :: l, .int x :: st, M) := st_iload_n q119_64 rfl
theorem x119_64 {st : List Value} {M : pj_Mem} {l : pj_Loc} {a0 : Option Value} {x : Int32} {o9 : Option Value × pj_Mem} : pj_Ends 119 (64, a0 :: some (.int x) :: l, st, M) o9 = pj_Ends 119 (65, a0 :: some (.int x) :: l, .int x :: st, M) o9 := pj_xs (s119_64)
theorem q119_65 : pj_row 119 65 = some (.aload_n 0, 1, 0, 0, 0) := by decide +kernel
theorem s119_65 {st : List Value} {M : pj_Mem} {l : pj_Loc} {x : Nat} : pj_step 119 (65, some (.ref x) :: l, st, M) = some (66, some (.ref x) :: l, .ref x :: st, M) := st_aload_n q119_65 rfl
theorem x119_65 {st : List Value} {M : pj_Mem} {l : pj_Loc} {x : Nat} {o9 : Option Value × pj_Mem} : pj_Ends 119 (65, some (.ref x) :: l, st, M) o9 = pj_Ends 119 (66, some (.ref x) :: l, .ref x :: st, M) o9 := pj_xs (s119_65)
theorem q119_66 : pj_row 119 66 = some (.getfield 75, 3, 6, 11, 0) := by decide +kernel
theorem s119_66 {L : pj_Loc} {st : List Value} {N S : Nat} {H : pj_Heap} {o : Nat} : pj_step 119 (66, L, .ref o :: st, (N, S, H)) = pj_pv 69 L st (N, S, H) (pj_fld (H o) 6 11) := st_getfield q119_66
theorem x119_66 {L : pj_Loc} {st : List Value} {N S : Nat} {H : pj_Heap} {o : Nat} {o9 : Option Value × pj_Mem} : pj_Ends 119 (66, L, .ref o :: st, (N, S, H)) o9 = pj_then 119 o9 (pj_pv 69 L st (N, S, H) (pj_fld (H o) 6 11)) := pj_xt q119_66 rfl (pj_cl_nc rfl) (s119_66)
theorem q119_69 : pj_row 119 69 = some (.ior, 1, 0, 0, 0) := by decide +kernel
theorem s119_69 {L : pj_Loc} {st : List Value} {M : pj_Mem} {x y : Int32} : pj_step 119 (69, L, .int y :: .int x :: st, M) = some (70, L, .int (x ||| y) :: st, M) := st_ior q119_69
theorem x119_69 {L : pj_Loc} {st : List Value} {M : pj_Mem} {x y : Int32} {o9 : Option Value × pj_Mem} : pj_Ends 119 (69, L, .int y :: .int x :: st, M) o9 = pj_Ends 119 (70, L, .int (x ||| y) :: st, M) o9 := pj_xs (s119_69)
theorem q119_70 : pj_row 119 70 = some (.istore_n 1, 1, 0, 0, 0) := by decide +kernel
theorem s119_70 {st : List Value} {M : pj_Mem} {l : pj_Loc} {a0 a1 : Option Value} {x : Int32} (h : pj_long a0 = false) : pj_step 119 (70, a0 :: a1 :: l, .int x :: st, M) = some (71, a0 :: some (.int x) :: l, st, M) := st_istore_n q119_70 (pj_st_1 h)
theorem x119_70 {st : List Value} {M : pj_Mem} {l : pj_Loc} {a0 a1 : Option Value} {x : Int32} (h : pj_long a0 = false) {o9 : Option Value × pj_Mem} : pj_Ends 119 (70, a0 :: a1 :: l, .int x :: st, M) o9 = pj_Ends 119 (71, a0 :: some (.int x) :: l, st, M) o9 := pj_xs (s119_70 h)
theorem q119_71 : pj_row 119 71 = some (.aload_n 0, 1, 0, 0, 0) := by decide +kernel
theorem s119_71 {st : List Value} {M : pj_Mem} {l : pj_Loc} {x : Nat} : pj_step 119 (71, some (.ref x) :: l, st, M) = some (72, some (.ref x) :: l, .ref x :: st, M) := st_aload_n q119_71 rfl
theorem x119_71 {st : List Value} {M : pj_Mem} {l : pj_Loc} {x : Nat} {o9 : Option Value × pj_Mem} : pj_Ends 119 (71, some (.ref x) :: l, st, M) o9 = pj_Ends 119 (72, some (.ref x) :: l, .ref x :: st, M) o9 := pj_xs (s119_71)
theorem q119_72 : pj_row 119 72 = some (.bipush 59, 2, 0, 0, 0) := by decide +kernel
theorem s119_72 {L : pj_Loc} {st : List Value} {M : pj_Mem}  : pj_step 119 (72, L, st, M) = some (74, L, .int 59 :: st, M) := st_bipush q119_72 (by decide +kernel)
theorem x119_72 {L : pj_Loc} {st : List Value} {M : pj_Mem}  {o9 : Option Value × pj_Mem} : pj_Ends 119 (72, L, st, M) o9 = pj_Ends 119 (74, L, .int 59 :: st, M) o9 := pj_xs (s119_72)
theorem q119_74 : pj_row 119 74 = some (.invokevirtual 176, 3, 116, 2, 0) := by decide +kernel
theorem e119_74 {L : pj_Loc} {st : List Value} {N S : Nat} {H : pj_Heap} {o : Option Value × pj_Mem} {M' : pj_Mem} {x0 : Nat} {x1 : Int32} {r : Int32} (h4 : pj_le4 st = true) (hu : pj_isU 6 (H x0) = true) (h1 : pj_Ends 116 (0, [some (.ref x0), some (.int x1), none], [], (N, S, H)) (some (.int r), M')) (h2 : pj_Ends 119 (77, L, .int r :: st, M') o) : pj_Ends 119 (74, L, .int x1 :: .ref x0 :: st, (N, S, H)) o := ec_v2 q119_74 (Or.inl rfl) h4 hu rfl h1 h2
theorem q119_77 : pj_row 119 77 = some (.istore_n 2, 1, 0, 0, 0) := by decide +kernel
theorem s119_77 {st : List Value} {M : pj_Mem} {l : pj_Loc} {a0 a1 a2 : Option Value} {x : Int32} (h : pj_long a1 = false) : pj_step 119 (77, a0 :: a1 :: a2 :: l, .int x :: st, M) = some (78, a0 :: a1 :: some (.int x) :: l, st, M) := st_istore_n q119_77 (pj_st_2 h)
theorem x119_77 {st : List Value} {M : pj_Mem} {l : pj_Loc} {a0 a1 a2 : Option Value} {x : Int32} (h : pj_long a1 = false) {o9 : Option Value × pj_Mem} : pj_Ends 119 (77, a0 :: a1 :: a2 :: l, .int x :: st, M) o9 = pj_Ends 119 (78, a0 :: a1 :: some (.int x) :: l, st, M) o9 := pj_xs (s119_77 h)
theorem q119_78 : pj_row 119 78 = some (.goto (-33), 3, 45, 0, 0) := by decide +kernel
theorem s119_78 {L : pj_Loc} {st : List Value} {M : pj_Mem}  : pj_step 119 (78, L, st, M) = some (45, L, st, M) := st_goto q119_78
theorem x119_78 {L : pj_Loc} {st : List Value} {M : pj_Mem}  {o9 : Option Value × pj_Mem} : pj_Ends 119 (78, L, st, M) o9 = pj_Ends 119 (45, L, st, M) o9 := pj_xs (s119_78)
theorem q119_81 : pj_row 119 81 = some (.aload_n 0, 1, 0, 0, 0) := by decide +kernel
theorem s119_81 {st : List Value} {M : pj_Mem} {l : pj_Loc} {x : Nat} : pj_step 119 (81, some (.ref x) :: l, st, M) = some (82, some (.ref x) :: l, .ref x :: st, M) := st_aload_n q119_81 rfl
theorem x119_81 {st : List Value} {M : pj_Mem} {l : pj_Loc} {x : Nat} {o9 : Option Value × pj_Mem} : pj_Ends 119 (81, some (.ref x) :: l, st, M) o9 = pj_Ends 119 (82, some (.ref x) :: l, .ref x :: st, M) o9 := pj_xs (s119_81)
theorem q119_82 : pj_row 119 82 = some (.iconst 0, 1, 0, 0, 0) := by decide +kernel
theorem s119_82 {L : pj_Loc} {st : List Value} {M : pj_Mem}  : pj_step 119 (82, L, st, M) = some (83, L, .int 0 :: st, M) := st_iconst q119_82 (by decide +kernel)
theorem x119_82 {L : pj_Loc} {st : List Value} {M : pj_Mem}  {o9 : Option Value × pj_Mem} : pj_Ends 119 (82, L, st, M) o9 = pj_Ends 119 (83, L, .int 0 :: st, M) o9 := pj_xs (s119_82)
theorem q119_83 : pj_row 119 83 = some (.putfield 152, 3, 6, 13, 0) := by decide +kernel
theorem s119_83 {L : pj_Loc} {st : List Value} {N S : Nat} {H : pj_Heap} {o : Nat} {v : Value} : pj_step 119 (83, L, v :: .ref o :: st, (N, S, H)) = pj_set 86 L st (N, S, H) o (pj_fset (H o) 6 13 v) := st_putfield q119_83
theorem x119_83 {L : pj_Loc} {st : List Value} {N S : Nat} {H : pj_Heap} {o : Nat} {v : Value} {o9 : Option Value × pj_Mem} : pj_Ends 119 (83, L, v :: .ref o :: st, (N, S, H)) o9 = pj_then 119 o9 (pj_set 86 L st (N, S, H) o (pj_fset (H o) 6 13 v)) := pj_xt q119_83 rfl (pj_cl_nc rfl) (s119_83)
theorem q119_86 : pj_row 119 86 = some (.aload_n 0, 1, 0, 0, 0) := by decide +kernel
theorem s119_86 {st : List Value} {M : pj_Mem} {l : pj_Loc} {x : Nat} : pj_step 119 (86, some (.ref x) :: l, st, M) = some (87, some (.ref x) :: l, .ref x :: st, M) := st_aload_n q119_86 rfl
theorem x119_86 {st : List Value} {M : pj_Mem} {l : pj_Loc} {x : Nat} {o9 : Option Value × pj_Mem} : pj_Ends 119 (86, some (.ref x) :: l, st, M) o9 = pj_Ends 119 (87, some (.ref x) :: l, .ref x :: st, M) o9 := pj_xs (s119_86)
theorem q119_87 : pj_row 119 87 = some (.iload_n 1, 1, 0, 0, 0) := by decide +kernel
theorem s119_87 {st : List Value} {M : pj_Mem} {l : pj_Loc} {a0 : Option Value} {x : Int32} : pj_step 119 (87, a0 :: some (.int x) :: l, st, M) = some (88, a0 :: some (.int x) :: l, .int x :: st, M) := st_iload_n q119_87 rfl
theorem x119_87 {st : List Value} {M : pj_Mem} {l : pj_Loc} {a0 : Option Value} {x : Int32} {o9 : Option Value × pj_Mem} : pj_Ends 119 (87, a0 :: some (.int x) :: l, st, M) o9 = pj_Ends 119 (88, a0 :: some (.int x) :: l, .int x :: st, M) o9 := pj_xs (s119_87)
theorem q119_88 : pj_row 119 88 = some (.invokevirtual 124, 3, 78, 2, 0) := by decide +kernel
theorem e119_88 {L : pj_Loc} {st : List Value} {N S : Nat} {H : pj_Heap} {o : Option Value × pj_Mem} {M' : pj_Mem} {x0 : Nat} {x1 : Int32} {r : Int32} (h4 : pj_le4 st = true) (hu : pj_isU 6 (H x0) = true) (h1 : pj_Ends 78 (0, [some (.ref x0), some (.int x1), none], [], (N, S, H)) (some (.int r), M')) (h2 : pj_Ends 119 (91, L, .int r :: st, M') o) : pj_Ends 119 (88, L, .int x1 :: .ref x0 :: st, (N, S, H)) o := ec_v2 q119_88 (Or.inl rfl) h4 hu rfl h1 h2
theorem q119_91 : pj_row 119 91 = some (.ireturn, 1, 0, 0, 0) := by decide +kernel
theorem t119_91 {L : pj_Loc} {M : pj_Mem} {v : Int32} : pj_Ends 119 (91, L, [.int v], M) (some (.int v), M) := pj_Ends.ret q119_91 (pj_rtn_i rt119)
theorem rt120 : pj_rt 120 = some .int := rfl
theorem q120_0 : pj_row 120 0 = some (.aload_n 0, 1, 0, 0, 0) := by decide +kernel
theorem s120_0 {st : List Value} {M : pj_Mem} {l : pj_Loc} {x : Nat} : pj_step 120 (0, some (.ref x) :: l, st, M) = some (1, some (.ref x) :: l, .ref x :: st, M) := st_aload_n q120_0 rfl
theorem x120_0 {st : List Value} {M : pj_Mem} {l : pj_Loc} {x : Nat} {o9 : Option Value × pj_Mem} : pj_Ends 120 (0, some (.ref x) :: l, st, M) o9 = pj_Ends 120 (1, some (.ref x) :: l, .ref x :: st, M) o9 := pj_xs (s120_0)
theorem q120_1 : pj_row 120 1 = some (.getfield 34, 3, 6, 3, 0) := by decide +kernel
theorem s120_1 {L : pj_Loc} {st : List Value} {N S : Nat} {H : pj_Heap} {o : Nat} : pj_step 120 (1, L, .ref o :: st, (N, S, H)) = pj_pv 4 L st (N, S, H) (pj_fld (H o) 6 3) := st_getfield q120_1
theorem x120_1 {L : pj_Loc} {st : List Value} {N S : Nat} {H : pj_Heap} {o : Nat} {o9 : Option Value × pj_Mem} : pj_Ends 120 (1, L, .ref o :: st, (N, S, H)) o9 = pj_then 120 o9 (pj_pv 4 L st (N, S, H) (pj_fld (H o) 6 3)) := pj_xt q120_1 rfl (pj_cl_nc rfl) (s120_1)
theorem q120_4 : pj_row 120 4 = some (.ifCond .ne 6, 3, 10, 0, 0) := by decide +kernel
theorem s120_4 {L : pj_Loc} {st : List Value} {M : pj_Mem} {x : Int32} : pj_step 120 (4, L, .int x :: st, M) = some (if ¬ x = 0 then 10 else 7, L, st, M) := st_if_ne q120_4
theorem x120_4 {L : pj_Loc} {st : List Value} {M : pj_Mem} {x : Int32} {o9 : Option Value × pj_Mem} : pj_Ends 120 (4, L, .int x :: st, M) o9 = pj_Ends 120 (if ¬ x = 0 then 10 else 7, L, st, M) o9 := pj_xs (s120_4)
theorem q120_7 : pj_row 120 7 = some (.bipush (-5), 2, 0, 0, 0) := by decide +kernel
theorem s120_7 {L : pj_Loc} {st : List Value} {M : pj_Mem}  : pj_step 120 (7, L, st, M) = some (9, L, .int (-5) :: st, M) := st_bipush q120_7 (by decide +kernel)
theorem x120_7 {L : pj_Loc} {st : List Value} {M : pj_Mem}  {o9 : Option Value × pj_Mem} : pj_Ends 120 (7, L, st, M) o9 = pj_Ends 120 (9, L, .int (-5) :: st, M) o9 := pj_xs (s120_7)
theorem q120_9 : pj_row 120 9 = some (.ireturn, 1, 0, 0, 0) := by decide +kernel
theorem t120_9 {L : pj_Loc} {M : pj_Mem} {v : Int32} : pj_Ends 120 (9, L, [.int v], M) (some (.int v), M) := pj_Ends.ret q120_9 (pj_rtn_i rt120)
theorem q120_10 : pj_row 120 10 = some (.aload_n 0, 1, 0, 0, 0) := by decide +kernel
theorem s120_10 {st : List Value} {M : pj_Mem} {l : pj_Loc} {x : Nat} : pj_step 120 (10, some (.ref x) :: l, st, M) = some (11, some (.ref x) :: l, .ref x :: st, M) := st_aload_n q120_10 rfl
theorem x120_10 {st : List Value} {M : pj_Mem} {l : pj_Loc} {x : Nat} {o9 : Option Value × pj_Mem} : pj_Ends 120 (10, some (.ref x) :: l, st, M) o9 = pj_Ends 120 (11, some (.ref x) :: l, .ref x :: st, M) o9 := pj_xs (s120_10)
theorem q120_11 : pj_row 120 11 = some (.dup, 1, 0, 0, 0) := by decide +kernel
theorem s120_11 {L : pj_Loc} {st : List Value} {M : pj_Mem} {x : Nat} : pj_step 120 (11, L, .ref x :: st, M) = some (12, L, .ref x :: .ref x :: st, M) := st_dup_ref q120_11
theorem x120_11 {L : pj_Loc} {st : List Value} {M : pj_Mem} {x : Nat} {o9 : Option Value × pj_Mem} : pj_Ends 120 (11, L, .ref x :: st, M) o9 = pj_Ends 120 (12, L, .ref x :: .ref x :: st, M) o9 := pj_xs (s120_11)
theorem s120_11i {L : pj_Loc} {st : List Value} {M : pj_Mem} {x : Int32} : pj_step 120 (11, L, .int x :: st, M) = some (12, L, .int x :: .int x :: st, M) := st_dup_int q120_11
theorem x120_11i {L : pj_Loc} {st : List Value} {M : pj_Mem} {x : Int32} {o9 : Option Value × pj_Mem} : pj_Ends 120 (11, L, .int x :: st, M) o9 = pj_Ends 120 (12, L, .int x :: .int x :: st, M) o9 := pj_xs (s120_11i)
theorem q120_12 : pj_row 120 12 = some (.getfield 34, 3, 6, 3, 0) := by decide +kernel
theorem s120_12 {L : pj_Loc} {st : List Value} {N S : Nat} {H : pj_Heap} {o : Nat} : pj_step 120 (12, L, .ref o :: st, (N, S, H)) = pj_pv 15 L st (N, S, H) (pj_fld (H o) 6 3) := st_getfield q120_12
theorem x120_12 {L : pj_Loc} {st : List Value} {N S : Nat} {H : pj_Heap} {o : Nat} {o9 : Option Value × pj_Mem} : pj_Ends 120 (12, L, .ref o :: st, (N, S, H)) o9 = pj_then 120 o9 (pj_pv 15 L st (N, S, H) (pj_fld (H o) 6 3)) := pj_xt q120_12 rfl (pj_cl_nc rfl) (s120_12)
theorem q120_15 : pj_row 120 15 = some (.iconst 1, 1, 0, 0, 0) := by decide +kernel
theorem s120_15 {L : pj_Loc} {st : List Value} {M : pj_Mem}  : pj_step 120 (15, L, st, M) = some (16, L, .int 1 :: st, M) := st_iconst q120_15 (by decide +kernel)
theorem x120_15 {L : pj_Loc} {st : List Value} {M : pj_Mem}  {o9 : Option Value × pj_Mem} : pj_Ends 120 (15, L, st, M) o9 = pj_Ends 120 (16, L, .int 1 :: st, M) o9 := pj_xs (s120_15)
theorem q120_16 : pj_row 120 16 = some (.isub, 1, 0, 0, 0) := by decide +kernel
theorem s120_16 {L : pj_Loc} {st : List Value} {M : pj_Mem} {x y : Int32} : pj_step 120 (16, L, .int y :: .int x :: st, M) = some (17, L, .int (x - y) :: st, M) := st_isub q120_16
theorem x120_16 {L : pj_Loc} {st : List Value} {M : pj_Mem} {x y : Int32} {o9 : Option Value × pj_Mem} : pj_Ends 120 (16, L, .int y :: .int x :: st, M) o9 = pj_Ends 120 (17, L, .int (x - y) :: st, M) o9 := pj_xs (s120_16)
theorem q120_17 : pj_row 120 17 = some (.putfield 34, 3, 6, 3, 0) := by decide +kernel
theorem s120_17 {L : pj_Loc} {st : List Value} {N S : Nat} {H : pj_Heap} {o : Nat} {v : Value} : pj_step 120 (17, L, v :: .ref o :: st, (N, S, H)) = pj_set 20 L st (N, S, H) o (pj_fset (H o) 6 3 v) := st_putfield q120_17
theorem x120_17 {L : pj_Loc} {st : List Value} {N S : Nat} {H : pj_Heap} {o : Nat} {v : Value} {o9 : Option Value × pj_Mem} : pj_Ends 120 (17, L, v :: .ref o :: st, (N, S, H)) o9 = pj_then 120 o9 (pj_set 20 L st (N, S, H) o (pj_fset (H o) 6 3 v)) := pj_xt q120_17 rfl (pj_cl_nc rfl) (s120_17)
theorem q120_20 : pj_row 120 20 = some (.iconst 0, 1, 0, 0, 0) := by decide +kernel
theorem s120_20 {L : pj_Loc} {st : List Value} {M : pj_Mem}  : pj_step 120 (20, L, st, M) = some (21, L, .int 0 :: st, M) := st_iconst q120_20 (by decide +kernel)
theorem x120_20 {L : pj_Loc} {st : List Value} {M : pj_Mem}  {o9 : Option Value × pj_Mem} : pj_Ends 120 (20, L, st, M) o9 = pj_Ends 120 (21, L, .int 0 :: st, M) o9 := pj_xs (s120_20)
theorem q120_21 : pj_row 120 21 = some (.istore_n 1, 1, 0, 0, 0) := by decide +kernel
theorem s120_21 {st : List Value} {M : pj_Mem} {l : pj_Loc} {a0 a1 : Option Value} {x : Int32} (h : pj_long a0 = false) : pj_step 120 (21, a0 :: a1 :: l, .int x :: st, M) = some (22, a0 :: some (.int x) :: l, st, M) := st_istore_n q120_21 (pj_st_1 h)
theorem x120_21 {st : List Value} {M : pj_Mem} {l : pj_Loc} {a0 a1 : Option Value} {x : Int32} (h : pj_long a0 = false) {o9 : Option Value × pj_Mem} : pj_Ends 120 (21, a0 :: a1 :: l, .int x :: st, M) o9 = pj_Ends 120 (22, a0 :: some (.int x) :: l, st, M) o9 := pj_xs (s120_21 h)
theorem q120_22 : pj_row 120 22 = some (.iload_n 1, 1, 0, 0, 0) := by decide +kernel
theorem s120_22 {st : List Value} {M : pj_Mem} {l : pj_Loc} {a0 : Option Value} {x : Int32} : pj_step 120 (22, a0 :: some (.int x) :: l, st, M) = some (23, a0 :: some (.int x) :: l, .int x :: st, M) := st_iload_n q120_22 rfl
theorem x120_22 {st : List Value} {M : pj_Mem} {l : pj_Loc} {a0 : Option Value} {x : Int32} {o9 : Option Value × pj_Mem} : pj_Ends 120 (22, a0 :: some (.int x) :: l, st, M) o9 = pj_Ends 120 (23, a0 :: some (.int x) :: l, .int x :: st, M) o9 := pj_xs (s120_22)
theorem q120_23 : pj_row 120 23 = some (.sipush 152, 3, 0, 0, 0) := by decide +kernel
theorem s120_23 {L : pj_Loc} {st : List Value} {M : pj_Mem}  : pj_step 120 (23, L, st, M) = some (26, L, .int 152 :: st, M) := st_sipush q120_23 (by decide +kernel)
theorem x120_23 {L : pj_Loc} {st : List Value} {M : pj_Mem}  {o9 : Option Value × pj_Mem} : pj_Ends 120 (23, L, st, M) o9 = pj_Ends 120 (26, L, .int 152 :: st, M) o9 := pj_xs (s120_23)
theorem q120_26 : pj_row 120 26 = some (.if_icmp .ge 30, 3, 56, 0, 0) := by decide +kernel
theorem s120_26 {L : pj_Loc} {st : List Value} {M : pj_Mem} {x y : Int32} : pj_step 120 (26, L, .int y :: .int x :: st, M) = some (if y ≤ x then 56 else 29, L, st, M) := st_icmp_ge q120_26
theorem x120_26 {L : pj_Loc} {st : List Value} {M : pj_Mem} {x y : Int32} {o9 : Option Value × pj_Mem} : pj_Ends 120 (26, L, .int y :: .int x :: st, M) o9 = pj_Ends 120 (if y ≤ x then 56 else 29, L, st, M) o9 := pj_xs (s120_26)
theorem q120_29 : pj_row 120 29 = some (.aload_n 0, 1, 0, 0, 0) := by decide +kernel
theorem s120_29 {st : List Value} {M : pj_Mem} {l : pj_Loc} {x : Nat} : pj_step 120 (29, some (.ref x) :: l, st, M) = some (30, some (.ref x) :: l, .ref x :: st, M) := st_aload_n q120_29 rfl
theorem x120_29 {st : List Value} {M : pj_Mem} {l : pj_Loc} {x : Nat} {o9 : Option Value × pj_Mem} : pj_Ends 120 (29, some (.ref x) :: l, st, M) o9 = pj_Ends 120 (30, some (.ref x) :: l, .ref x :: st, M) o9 := pj_xs (s120_29)
theorem q120_30 : pj_row 120 30 = some (.getfield 7, 3, 6, 0, 0) := by decide +kernel
theorem s120_30 {L : pj_Loc} {st : List Value} {N S : Nat} {H : pj_Heap} {o : Nat} : pj_step 120 (30, L, .ref o :: st, (N, S, H)) = pj_pv 33 L st (N, S, H) (pj_fld (H o) 6 0) := st_getfield q120_30
theorem x120_30 {L : pj_Loc} {st : List Value} {N S : Nat} {H : pj_Heap} {o : Nat} {o9 : Option Value × pj_Mem} : pj_Ends 120 (30, L, .ref o :: st, (N, S, H)) o9 = pj_then 120 o9 (pj_pv 33 L st (N, S, H) (pj_fld (H o) 6 0)) := pj_xt q120_30 rfl (pj_cl_nc rfl) (s120_30)
theorem q120_33 : pj_row 120 33 = some (.iload_n 1, 1, 0, 0, 0) := by decide +kernel
theorem s120_33 {st : List Value} {M : pj_Mem} {l : pj_Loc} {a0 : Option Value} {x : Int32} : pj_step 120 (33, a0 :: some (.int x) :: l, st, M) = some (34, a0 :: some (.int x) :: l, .int x :: st, M) := st_iload_n q120_33 rfl
theorem x120_33 {st : List Value} {M : pj_Mem} {l : pj_Loc} {a0 : Option Value} {x : Int32} {o9 : Option Value × pj_Mem} : pj_Ends 120 (33, a0 :: some (.int x) :: l, st, M) o9 = pj_Ends 120 (34, a0 :: some (.int x) :: l, .int x :: st, M) o9 := pj_xs (s120_33)
theorem q120_34 : pj_row 120 34 = some (.aload_n 0, 1, 0, 0, 0) := by decide +kernel
theorem s120_34 {st : List Value} {M : pj_Mem} {l : pj_Loc} {x : Nat} : pj_step 120 (34, some (.ref x) :: l, st, M) = some (35, some (.ref x) :: l, .ref x :: st, M) := st_aload_n q120_34 rfl
theorem x120_34 {st : List Value} {M : pj_Mem} {l : pj_Loc} {x : Nat} {o9 : Option Value × pj_Mem} : pj_Ends 120 (34, some (.ref x) :: l, st, M) o9 = pj_Ends 120 (35, some (.ref x) :: l, .ref x :: st, M) o9 := pj_xs (s120_34)
theorem q120_35 : pj_row 120 35 = some (.getfield 16, 3, 6, 2, 0) := by decide +kernel
theorem s120_35 {L : pj_Loc} {st : List Value} {N S : Nat} {H : pj_Heap} {o : Nat} : pj_step 120 (35, L, .ref o :: st, (N, S, H)) = pj_pv 38 L st (N, S, H) (pj_fld (H o) 6 2) := st_getfield q120_35
theorem x120_35 {L : pj_Loc} {st : List Value} {N S : Nat} {H : pj_Heap} {o : Nat} {o9 : Option Value × pj_Mem} : pj_Ends 120 (35, L, .ref o :: st, (N, S, H)) o9 = pj_then 120 o9 (pj_pv 38 L st (N, S, H) (pj_fld (H o) 6 2)) := pj_xt q120_35 rfl (pj_cl_nc rfl) (s120_35)
theorem q120_38 : pj_row 120 38 = some (.sipush 152, 3, 0, 0, 0) := by decide +kernel
theorem s120_38 {L : pj_Loc} {st : List Value} {M : pj_Mem}  : pj_step 120 (38, L, st, M) = some (41, L, .int 152 :: st, M) := st_sipush q120_38 (by decide +kernel)
theorem x120_38 {L : pj_Loc} {st : List Value} {M : pj_Mem}  {o9 : Option Value × pj_Mem} : pj_Ends 120 (38, L, st, M) o9 = pj_Ends 120 (41, L, .int 152 :: st, M) o9 := pj_xs (s120_38)
theorem q120_41 : pj_row 120 41 = some (.aload_n 0, 1, 0, 0, 0) := by decide +kernel
theorem s120_41 {st : List Value} {M : pj_Mem} {l : pj_Loc} {x : Nat} : pj_step 120 (41, some (.ref x) :: l, st, M) = some (42, some (.ref x) :: l, .ref x :: st, M) := st_aload_n q120_41 rfl
theorem x120_41 {st : List Value} {M : pj_Mem} {l : pj_Loc} {x : Nat} {o9 : Option Value × pj_Mem} : pj_Ends 120 (41, some (.ref x) :: l, st, M) o9 = pj_Ends 120 (42, some (.ref x) :: l, .ref x :: st, M) o9 := pj_xs (s120_41)
theorem q120_42 : pj_row 120 42 = some (.getfield 34, 3, 6, 3, 0) := by decide +kernel
theorem s120_42 {L : pj_Loc} {st : List Value} {N S : Nat} {H : pj_Heap} {o : Nat} : pj_step 120 (42, L, .ref o :: st, (N, S, H)) = pj_pv 45 L st (N, S, H) (pj_fld (H o) 6 3) := st_getfield q120_42
theorem x120_42 {L : pj_Loc} {st : List Value} {N S : Nat} {H : pj_Heap} {o : Nat} {o9 : Option Value × pj_Mem} : pj_Ends 120 (42, L, .ref o :: st, (N, S, H)) o9 = pj_then 120 o9 (pj_pv 45 L st (N, S, H) (pj_fld (H o) 6 3)) := pj_xt q120_42 rfl (pj_cl_nc rfl) (s120_42)
theorem q120_45 : pj_row 120 45 = some (.imul, 1, 0, 0, 0) := by decide +kernel
theorem s120_45 {L : pj_Loc} {st : List Value} {M : pj_Mem} {x y : Int32} : pj_step 120 (45, L, .int y :: .int x :: st, M) = some (46, L, .int (x * y) :: st, M) := st_imul q120_45
theorem x120_45 {L : pj_Loc} {st : List Value} {M : pj_Mem} {x y : Int32} {o9 : Option Value × pj_Mem} : pj_Ends 120 (45, L, .int y :: .int x :: st, M) o9 = pj_Ends 120 (46, L, .int (x * y) :: st, M) o9 := pj_xs (s120_45)
theorem q120_46 : pj_row 120 46 = some (.iload_n 1, 1, 0, 0, 0) := by decide +kernel
theorem s120_46 {st : List Value} {M : pj_Mem} {l : pj_Loc} {a0 : Option Value} {x : Int32} : pj_step 120 (46, a0 :: some (.int x) :: l, st, M) = some (47, a0 :: some (.int x) :: l, .int x :: st, M) := st_iload_n q120_46 rfl
theorem x120_46 {st : List Value} {M : pj_Mem} {l : pj_Loc} {a0 : Option Value} {x : Int32} {o9 : Option Value × pj_Mem} : pj_Ends 120 (46, a0 :: some (.int x) :: l, st, M) o9 = pj_Ends 120 (47, a0 :: some (.int x) :: l, .int x :: st, M) o9 := pj_xs (s120_46)
theorem q120_47 : pj_row 120 47 = some (.iadd, 1, 0, 0, 0) := by decide +kernel
theorem s120_47 {L : pj_Loc} {st : List Value} {M : pj_Mem} {x y : Int32} : pj_step 120 (47, L, .int y :: .int x :: st, M) = some (48, L, .int (x + y) :: st, M) := st_iadd q120_47
theorem x120_47 {L : pj_Loc} {st : List Value} {M : pj_Mem} {x y : Int32} {o9 : Option Value × pj_Mem} : pj_Ends 120 (47, L, .int y :: .int x :: st, M) o9 = pj_Ends 120 (48, L, .int (x + y) :: st, M) o9 := pj_xs (s120_47)
theorem q120_48 : pj_row 120 48 = some (.iaload, 1, 0, 0, 0) := by decide +kernel
theorem s120_48 {L : pj_Loc} {st : List Value} {N S : Nat} {H : pj_Heap} {o : Nat} {i : Int32} : pj_step 120 (48, L, .int i :: .ref o :: st, (N, S, H)) = pj_pi 49 L st (N, S, H) (pj_arl (H o) 0 i) := st_iaload q120_48
theorem x120_48 {L : pj_Loc} {st : List Value} {N S : Nat} {H : pj_Heap} {o : Nat} {i : Int32} {o9 : Option Value × pj_Mem} : pj_Ends 120 (48, L, .int i :: .ref o :: st, (N, S, H)) o9 = pj_then 120 o9 (pj_pi 49 L st (N, S, H) (pj_arl (H o) 0 i)) := pj_xt q120_48 rfl (pj_cl_nc rfl) (s120_48)
theorem q120_49 : pj_row 120 49 = some (.iastore, 1, 0, 0, 0) := by decide +kernel
theorem s120_49 {L : pj_Loc} {st : List Value} {N S : Nat} {H : pj_Heap} {o : Nat} {i x : Int32} : pj_step 120 (49, L, .int x :: .int i :: .ref o :: st, (N, S, H)) = pj_set 50 L st (N, S, H) o (pj_ars (H o) 0 i x) := st_iastore q120_49
theorem x120_49 {L : pj_Loc} {st : List Value} {N S : Nat} {H : pj_Heap} {o : Nat} {i x : Int32} {o9 : Option Value × pj_Mem} : pj_Ends 120 (49, L, .int x :: .int i :: .ref o :: st, (N, S, H)) o9 = pj_then 120 o9 (pj_set 50 L st (N, S, H) o (pj_ars (H o) 0 i x)) := pj_xt q120_49 rfl (pj_cl_nc rfl) (s120_49)
theorem q120_50 : pj_row 120 50 = some (.iinc 1 1, 3, 0, 0, 0) := by decide +kernel
theorem s120_50 {st : List Value} {M : pj_Mem} {l : pj_Loc} {a0 : Option Value} {x : Int32} (h : pj_long a0 = false) : pj_step 120 (50, a0 :: some (.int x) :: l, st, M) = some (53, a0 :: some (.int (x + 1)) :: l, st, M) := st_iinc q120_50 rfl (congrArg (fun y => x + y) (show Int32.ofInt 1 = 1 by decide +kernel)) (pj_st_1 h)
theorem x120_50 {st : List Value} {M : pj_Mem} {l : pj_Loc} {a0 : Option Value} {x : Int32} (h : pj_long a0 = false) {o9 : Option Value × pj_Mem} : pj_Ends 120 (50, a0 :: some (.int x) :: l, st, M) o9 = pj_Ends 120 (53, a0 :: some (.int (x + 1)) :: l, st, M) o9 := pj_xs (s120_50 h)
theorem q120_53 : pj_row 120 53 = some (.goto (-31), 3, 22, 0, 0) := by decide +kernel
theorem s120_53 {L : pj_Loc} {st : List Value} {M : pj_Mem}  : pj_step 120 (53, L, st, M) = some (22, L, st, M) := st_goto q120_53
theorem x120_53 {L : pj_Loc} {st : List Value} {M : pj_Mem}  {o9 : Option Value × pj_Mem} : pj_Ends 120 (53, L, st, M) o9 = pj_Ends 120 (22, L, st, M) o9 := pj_xs (s120_53)
theorem q120_56 : pj_row 120 56 = some (.aload_n 0, 1, 0, 0, 0) := by decide +kernel
theorem s120_56 {st : List Value} {M : pj_Mem} {l : pj_Loc} {x : Nat} : pj_step 120 (56, some (.ref x) :: l, st, M) = some (57, some (.ref x) :: l, .ref x :: st, M) := st_aload_n q120_56 rfl
theorem x120_56 {st : List Value} {M : pj_Mem} {l : pj_Loc} {x : Nat} {o9 : Option Value × pj_Mem} : pj_Ends 120 (56, some (.ref x) :: l, st, M) o9 = pj_Ends 120 (57, some (.ref x) :: l, .ref x :: st, M) o9 := pj_xs (s120_56)
theorem q120_57 : pj_row 120 57 = some (.getfield 34, 3, 6, 3, 0) := by decide +kernel
theorem s120_57 {L : pj_Loc} {st : List Value} {N S : Nat} {H : pj_Heap} {o : Nat} : pj_step 120 (57, L, .ref o :: st, (N, S, H)) = pj_pv 60 L st (N, S, H) (pj_fld (H o) 6 3) := st_getfield q120_57
theorem x120_57 {L : pj_Loc} {st : List Value} {N S : Nat} {H : pj_Heap} {o : Nat} {o9 : Option Value × pj_Mem} : pj_Ends 120 (57, L, .ref o :: st, (N, S, H)) o9 = pj_then 120 o9 (pj_pv 60 L st (N, S, H) (pj_fld (H o) 6 3)) := pj_xt q120_57 rfl (pj_cl_nc rfl) (s120_57)
theorem q120_60 : pj_row 120 60 = some (.ireturn, 1, 0, 0, 0) := by decide +kernel
theorem t120_60 {L : pj_Loc} {M : pj_Mem} {v : Int32} : pj_Ends 120 (60, L, [.int v], M) (some (.int v), M) := pj_Ends.ret q120_60 (pj_rtn_i rt120)
theorem rt121 : pj_rt 121 = some .int := rfl
theorem q121_0 : pj_row 121 0 = some (.iload_n 1, 1, 0, 0, 0) := by decide +kernel
theorem s121_0 {st : List Value} {M : pj_Mem} {l : pj_Loc} {a0 : Option Value} {x : Int32} : pj_step 121 (0, a0 :: some (.int x) :: l, st, M) = some (1, a0 :: some (.int x) :: l, .int x :: st, M) := st_iload_n q121_0 rfl
theorem x121_0 {st : List Value} {M : pj_Mem} {l : pj_Loc} {a0 : Option Value} {x : Int32} {o9 : Option Value × pj_Mem} : pj_Ends 121 (0, a0 :: some (.int x) :: l, st, M) o9 = pj_Ends 121 (1, a0 :: some (.int x) :: l, .int x :: st, M) o9 := pj_xs (s121_0)
theorem q121_1 : pj_row 121 1 = some (.i2l, 1, 0, 0, 0) := by decide +kernel
theorem s121_1 {L : pj_Loc} {st : List Value} {M : pj_Mem} {x : Int32} : pj_step 121 (1, L, .int x :: st, M) = some (2, L, .long x.toInt64 :: st, M) := st_i2l q121_1
theorem x121_1 {L : pj_Loc} {st : List Value} {M : pj_Mem} {x : Int32} {o9 : Option Value × pj_Mem} : pj_Ends 121 (1, L, .int x :: st, M) o9 = pj_Ends 121 (2, L, .long x.toInt64 :: st, M) o9 := pj_xs (s121_1)
theorem q121_2 : pj_row 121 2 = some (.lconst 0, 1, 0, 0, 0) := by decide +kernel
theorem s121_2 {L : pj_Loc} {st : List Value} {M : pj_Mem}  : pj_step 121 (2, L, st, M) = some (3, L, .long 0 :: st, M) := st_lconst q121_2 (by decide +kernel)
theorem x121_2 {L : pj_Loc} {st : List Value} {M : pj_Mem}  {o9 : Option Value × pj_Mem} : pj_Ends 121 (2, L, st, M) o9 = pj_Ends 121 (3, L, .long 0 :: st, M) o9 := pj_xs (s121_2)
theorem q121_3 : pj_row 121 3 = some (.lconst 1, 1, 0, 0, 0) := by decide +kernel
theorem s121_3 {L : pj_Loc} {st : List Value} {M : pj_Mem}  : pj_step 121 (3, L, st, M) = some (4, L, .long 1 :: st, M) := st_lconst q121_3 (by decide +kernel)
theorem x121_3 {L : pj_Loc} {st : List Value} {M : pj_Mem}  {o9 : Option Value × pj_Mem} : pj_Ends 121 (3, L, st, M) o9 = pj_Ends 121 (4, L, .long 1 :: st, M) o9 := pj_xs (s121_3)
theorem q121_4 : pj_row 121 4 = some (.invokestatic 42, 3, 76, 3, 0) := by decide +kernel
theorem e121_4 {L : pj_Loc} {st : List Value} {N S : Nat} {H : pj_Heap} {o : Option Value × pj_Mem} {M' : pj_Mem} {x0 : Int64} {x1 : Int64} {x2 : Int64} {r : Int32} (h4 : pj_le4 st = true) (h1 : pj_Ends 76 (0, [some (.long x0), none, some (.long x1), none, some (.long x2), none], [], (N, S, H)) (some (.int r), M')) (h2 : pj_Ends 121 (7, L, .int r :: st, M') o) : pj_Ends 121 (4, L, .long x2 :: .long x1 :: .long x0 :: st, (N, S, H)) o := ec_s3 q121_4 (Or.inl rfl) h4 rfl h1 h2
theorem q121_7 : pj_row 121 7 = some (.ifCond .ne 6, 3, 13, 0, 0) := by decide +kernel
theorem s121_7 {L : pj_Loc} {st : List Value} {M : pj_Mem} {x : Int32} : pj_step 121 (7, L, .int x :: st, M) = some (if ¬ x = 0 then 13 else 10, L, st, M) := st_if_ne q121_7
theorem x121_7 {L : pj_Loc} {st : List Value} {M : pj_Mem} {x : Int32} {o9 : Option Value × pj_Mem} : pj_Ends 121 (7, L, .int x :: st, M) o9 = pj_Ends 121 (if ¬ x = 0 then 13 else 10, L, st, M) o9 := pj_xs (s121_7)
theorem q121_10 : pj_row 121 10 = some (.bipush (-2), 2, 0, 0, 0) := by decide +kernel
theorem s121_10 {L : pj_Loc} {st : List Value} {M : pj_Mem}  : pj_step 121 (10, L, st, M) = some (12, L, .int (-2) :: st, M) := st_bipush q121_10 (by decide +kernel)
theorem x121_10 {L : pj_Loc} {st : List Value} {M : pj_Mem}  {o9 : Option Value × pj_Mem} : pj_Ends 121 (10, L, st, M) o9 = pj_Ends 121 (12, L, .int (-2) :: st, M) o9 := pj_xs (s121_10)
theorem q121_12 : pj_row 121 12 = some (.ireturn, 1, 0, 0, 0) := by decide +kernel
theorem t121_12 {L : pj_Loc} {M : pj_Mem} {v : Int32} : pj_Ends 121 (12, L, [.int v], M) (some (.int v), M) := pj_Ends.ret q121_12 (pj_rtn_i rt121)
theorem q121_13 : pj_row 121 13 = some (.iconst 0, 1, 0, 0, 0) := by decide +kernel
theorem s121_13 {L : pj_Loc} {st : List Value} {M : pj_Mem}  : pj_step 121 (13, L, st, M) = some (14, L, .int 0 :: st, M) := st_iconst q121_13 (by decide +kernel)
theorem x121_13 {L : pj_Loc} {st : List Value} {M : pj_Mem}  {o9 : Option Value × pj_Mem} : pj_Ends 121 (13, L, st, M) o9 = pj_Ends 121 (14, L, .int 0 :: st, M) o9 := pj_xs (s121_13)
theorem q121_14 : pj_row 121 14 = some (.istore_n 2, 1, 0, 0, 0) := by decide +kernel
theorem s121_14 {st : List Value} {M : pj_Mem} {l : pj_Loc} {a0 a1 a2 : Option Value} {x : Int32} (h : pj_long a1 = false) : pj_step 121 (14, a0 :: a1 :: a2 :: l, .int x :: st, M) = some (15, a0 :: a1 :: some (.int x) :: l, st, M) := st_istore_n q121_14 (pj_st_2 h)
theorem x121_14 {st : List Value} {M : pj_Mem} {l : pj_Loc} {a0 a1 a2 : Option Value} {x : Int32} (h : pj_long a1 = false) {o9 : Option Value × pj_Mem} : pj_Ends 121 (14, a0 :: a1 :: a2 :: l, .int x :: st, M) o9 = pj_Ends 121 (15, a0 :: a1 :: some (.int x) :: l, st, M) o9 := pj_xs (s121_14 h)
theorem q121_15 : pj_row 121 15 = some (.iload_n 2, 1, 0, 0, 0) := by decide +kernel
theorem s121_15 {st : List Value} {M : pj_Mem} {l : pj_Loc} {a0 a1 : Option Value} {x : Int32} : pj_step 121 (15, a0 :: a1 :: some (.int x) :: l, st, M) = some (16, a0 :: a1 :: some (.int x) :: l, .int x :: st, M) := st_iload_n q121_15 rfl
theorem x121_15 {st : List Value} {M : pj_Mem} {l : pj_Loc} {a0 a1 : Option Value} {x : Int32} {o9 : Option Value × pj_Mem} : pj_Ends 121 (15, a0 :: a1 :: some (.int x) :: l, st, M) o9 = pj_Ends 121 (16, a0 :: a1 :: some (.int x) :: l, .int x :: st, M) o9 := pj_xs (s121_15)
theorem q121_16 : pj_row 121 16 = some (.sipush 152, 3, 0, 0, 0) := by decide +kernel
theorem s121_16 {L : pj_Loc} {st : List Value} {M : pj_Mem}  : pj_step 121 (16, L, st, M) = some (19, L, .int 152 :: st, M) := st_sipush q121_16 (by decide +kernel)
theorem x121_16 {L : pj_Loc} {st : List Value} {M : pj_Mem}  {o9 : Option Value × pj_Mem} : pj_Ends 121 (16, L, st, M) o9 = pj_Ends 121 (19, L, .int 152 :: st, M) o9 := pj_xs (s121_16)
theorem q121_19 : pj_row 121 19 = some (.if_icmp .ge 27, 3, 46, 0, 0) := by decide +kernel
theorem s121_19 {L : pj_Loc} {st : List Value} {M : pj_Mem} {x y : Int32} : pj_step 121 (19, L, .int y :: .int x :: st, M) = some (if y ≤ x then 46 else 22, L, st, M) := st_icmp_ge q121_19
theorem x121_19 {L : pj_Loc} {st : List Value} {M : pj_Mem} {x y : Int32} {o9 : Option Value × pj_Mem} : pj_Ends 121 (19, L, .int y :: .int x :: st, M) o9 = pj_Ends 121 (if y ≤ x then 46 else 22, L, st, M) o9 := pj_xs (s121_19)
theorem q121_22 : pj_row 121 22 = some (.aload_n 0, 1, 0, 0, 0) := by decide +kernel
theorem s121_22 {st : List Value} {M : pj_Mem} {l : pj_Loc} {x : Nat} : pj_step 121 (22, some (.ref x) :: l, st, M) = some (23, some (.ref x) :: l, .ref x :: st, M) := st_aload_n q121_22 rfl
theorem x121_22 {st : List Value} {M : pj_Mem} {l : pj_Loc} {x : Nat} {o9 : Option Value × pj_Mem} : pj_Ends 121 (22, some (.ref x) :: l, st, M) o9 = pj_Ends 121 (23, some (.ref x) :: l, .ref x :: st, M) o9 := pj_xs (s121_22)
theorem q121_23 : pj_row 121 23 = some (.getfield 19, 3, 6, 4, 0) := by decide +kernel
theorem s121_23 {L : pj_Loc} {st : List Value} {N S : Nat} {H : pj_Heap} {o : Nat} : pj_step 121 (23, L, .ref o :: st, (N, S, H)) = pj_pv 26 L st (N, S, H) (pj_fld (H o) 6 4) := st_getfield q121_23
theorem x121_23 {L : pj_Loc} {st : List Value} {N S : Nat} {H : pj_Heap} {o : Nat} {o9 : Option Value × pj_Mem} : pj_Ends 121 (23, L, .ref o :: st, (N, S, H)) o9 = pj_then 121 o9 (pj_pv 26 L st (N, S, H) (pj_fld (H o) 6 4)) := pj_xt q121_23 rfl (pj_cl_nc rfl) (s121_23)
theorem q121_26 : pj_row 121 26 = some (.sipush 152, 3, 0, 0, 0) := by decide +kernel
theorem s121_26 {L : pj_Loc} {st : List Value} {M : pj_Mem}  : pj_step 121 (26, L, st, M) = some (29, L, .int 152 :: st, M) := st_sipush q121_26 (by decide +kernel)
theorem x121_26 {L : pj_Loc} {st : List Value} {M : pj_Mem}  {o9 : Option Value × pj_Mem} : pj_Ends 121 (26, L, st, M) o9 = pj_Ends 121 (29, L, .int 152 :: st, M) o9 := pj_xs (s121_26)
theorem q121_29 : pj_row 121 29 = some (.iload_n 1, 1, 0, 0, 0) := by decide +kernel
theorem s121_29 {st : List Value} {M : pj_Mem} {l : pj_Loc} {a0 : Option Value} {x : Int32} : pj_step 121 (29, a0 :: some (.int x) :: l, st, M) = some (30, a0 :: some (.int x) :: l, .int x :: st, M) := st_iload_n q121_29 rfl
theorem x121_29 {st : List Value} {M : pj_Mem} {l : pj_Loc} {a0 : Option Value} {x : Int32} {o9 : Option Value × pj_Mem} : pj_Ends 121 (29, a0 :: some (.int x) :: l, st, M) o9 = pj_Ends 121 (30, a0 :: some (.int x) :: l, .int x :: st, M) o9 := pj_xs (s121_29)
theorem q121_30 : pj_row 121 30 = some (.imul, 1, 0, 0, 0) := by decide +kernel
theorem s121_30 {L : pj_Loc} {st : List Value} {M : pj_Mem} {x y : Int32} : pj_step 121 (30, L, .int y :: .int x :: st, M) = some (31, L, .int (x * y) :: st, M) := st_imul q121_30
theorem x121_30 {L : pj_Loc} {st : List Value} {M : pj_Mem} {x y : Int32} {o9 : Option Value × pj_Mem} : pj_Ends 121 (30, L, .int y :: .int x :: st, M) o9 = pj_Ends 121 (31, L, .int (x * y) :: st, M) o9 := pj_xs (s121_30)
theorem q121_31 : pj_row 121 31 = some (.iload_n 2, 1, 0, 0, 0) := by decide +kernel
theorem s121_31 {st : List Value} {M : pj_Mem} {l : pj_Loc} {a0 a1 : Option Value} {x : Int32} : pj_step 121 (31, a0 :: a1 :: some (.int x) :: l, st, M) = some (32, a0 :: a1 :: some (.int x) :: l, .int x :: st, M) := st_iload_n q121_31 rfl
theorem x121_31 {st : List Value} {M : pj_Mem} {l : pj_Loc} {a0 a1 : Option Value} {x : Int32} {o9 : Option Value × pj_Mem} : pj_Ends 121 (31, a0 :: a1 :: some (.int x) :: l, st, M) o9 = pj_Ends 121 (32, a0 :: a1 :: some (.int x) :: l, .int x :: st, M) o9 := pj_xs (s121_31)
theorem q121_32 : pj_row 121 32 = some (.iadd, 1, 0, 0, 0) := by decide +kernel
theorem s121_32 {L : pj_Loc} {st : List Value} {M : pj_Mem} {x y : Int32} : pj_step 121 (32, L, .int y :: .int x :: st, M) = some (33, L, .int (x + y) :: st, M) := st_iadd q121_32
theorem x121_32 {L : pj_Loc} {st : List Value} {M : pj_Mem} {x y : Int32} {o9 : Option Value × pj_Mem} : pj_Ends 121 (32, L, .int y :: .int x :: st, M) o9 = pj_Ends 121 (33, L, .int (x + y) :: st, M) o9 := pj_xs (s121_32)
theorem q121_33 : pj_row 121 33 = some (.aload_n 0, 1, 0, 0, 0) := by decide +kernel
theorem s121_33 {st : List Value} {M : pj_Mem} {l : pj_Loc} {x : Nat} : pj_step 121 (33, some (.ref x) :: l, st, M) = some (34, some (.ref x) :: l, .ref x :: st, M) := st_aload_n q121_33 rfl
theorem x121_33 {st : List Value} {M : pj_Mem} {l : pj_Loc} {x : Nat} {o9 : Option Value × pj_Mem} : pj_Ends 121 (33, some (.ref x) :: l, st, M) o9 = pj_Ends 121 (34, some (.ref x) :: l, .ref x :: st, M) o9 := pj_xs (s121_33)
theorem q121_34 : pj_row 121 34 = some (.getfield 7, 3, 6, 0, 0) := by decide +kernel
theorem s121_34 {L : pj_Loc} {st : List Value} {N S : Nat} {H : pj_Heap} {o : Nat} : pj_step 121 (34, L, .ref o :: st, (N, S, H)) = pj_pv 37 L st (N, S, H) (pj_fld (H o) 6 0) := st_getfield q121_34
theorem x121_34 {L : pj_Loc} {st : List Value} {N S : Nat} {H : pj_Heap} {o : Nat} {o9 : Option Value × pj_Mem} : pj_Ends 121 (34, L, .ref o :: st, (N, S, H)) o9 = pj_then 121 o9 (pj_pv 37 L st (N, S, H) (pj_fld (H o) 6 0)) := pj_xt q121_34 rfl (pj_cl_nc rfl) (s121_34)
theorem q121_37 : pj_row 121 37 = some (.iload_n 2, 1, 0, 0, 0) := by decide +kernel
theorem s121_37 {st : List Value} {M : pj_Mem} {l : pj_Loc} {a0 a1 : Option Value} {x : Int32} : pj_step 121 (37, a0 :: a1 :: some (.int x) :: l, st, M) = some (38, a0 :: a1 :: some (.int x) :: l, .int x :: st, M) := st_iload_n q121_37 rfl
theorem x121_37 {st : List Value} {M : pj_Mem} {l : pj_Loc} {a0 a1 : Option Value} {x : Int32} {o9 : Option Value × pj_Mem} : pj_Ends 121 (37, a0 :: a1 :: some (.int x) :: l, st, M) o9 = pj_Ends 121 (38, a0 :: a1 :: some (.int x) :: l, .int x :: st, M) o9 := pj_xs (s121_37)
theorem q121_38 : pj_row 121 38 = some (.iaload, 1, 0, 0, 0) := by decide +kernel
theorem s121_38 {L : pj_Loc} {st : List Value} {N S : Nat} {H : pj_Heap} {o : Nat} {i : Int32} : pj_step 121 (38, L, .int i :: .ref o :: st, (N, S, H)) = pj_pi 39 L st (N, S, H) (pj_arl (H o) 0 i) := st_iaload q121_38
theorem x121_38 {L : pj_Loc} {st : List Value} {N S : Nat} {H : pj_Heap} {o : Nat} {i : Int32} {o9 : Option Value × pj_Mem} : pj_Ends 121 (38, L, .int i :: .ref o :: st, (N, S, H)) o9 = pj_then 121 o9 (pj_pi 39 L st (N, S, H) (pj_arl (H o) 0 i)) := pj_xt q121_38 rfl (pj_cl_nc rfl) (s121_38)
theorem q121_39 : pj_row 121 39 = some (.iastore, 1, 0, 0, 0) := by decide +kernel
theorem s121_39 {L : pj_Loc} {st : List Value} {N S : Nat} {H : pj_Heap} {o : Nat} {i x : Int32} : pj_step 121 (39, L, .int x :: .int i :: .ref o :: st, (N, S, H)) = pj_set 40 L st (N, S, H) o (pj_ars (H o) 0 i x) := st_iastore q121_39
theorem x121_39 {L : pj_Loc} {st : List Value} {N S : Nat} {H : pj_Heap} {o : Nat} {i x : Int32} {o9 : Option Value × pj_Mem} : pj_Ends 121 (39, L, .int x :: .int i :: .ref o :: st, (N, S, H)) o9 = pj_then 121 o9 (pj_set 40 L st (N, S, H) o (pj_ars (H o) 0 i x)) := pj_xt q121_39 rfl (pj_cl_nc rfl) (s121_39)
theorem q121_40 : pj_row 121 40 = some (.iinc 2 1, 3, 0, 0, 0) := by decide +kernel
theorem s121_40 {st : List Value} {M : pj_Mem} {l : pj_Loc} {a0 a1 : Option Value} {x : Int32} (h : pj_long a1 = false) : pj_step 121 (40, a0 :: a1 :: some (.int x) :: l, st, M) = some (43, a0 :: a1 :: some (.int (x + 1)) :: l, st, M) := st_iinc q121_40 rfl (congrArg (fun y => x + y) (show Int32.ofInt 1 = 1 by decide +kernel)) (pj_st_2 h)
theorem x121_40 {st : List Value} {M : pj_Mem} {l : pj_Loc} {a0 a1 : Option Value} {x : Int32} (h : pj_long a1 = false) {o9 : Option Value × pj_Mem} : pj_Ends 121 (40, a0 :: a1 :: some (.int x) :: l, st, M) o9 = pj_Ends 121 (43, a0 :: a1 :: some (.int (x + 1)) :: l, st, M) o9 := pj_xs (s121_40 h)
theorem q121_43 : pj_row 121 43 = some (.goto (-28), 3, 15, 0, 0) := by decide +kernel
theorem s121_43 {L : pj_Loc} {st : List Value} {M : pj_Mem}  : pj_step 121 (43, L, st, M) = some (15, L, st, M) := st_goto q121_43
theorem x121_43 {L : pj_Loc} {st : List Value} {M : pj_Mem}  {o9 : Option Value × pj_Mem} : pj_Ends 121 (43, L, st, M) o9 = pj_Ends 121 (15, L, st, M) o9 := pj_xs (s121_43)
theorem q121_46 : pj_row 121 46 = some (.aload_n 0, 1, 0, 0, 0) := by decide +kernel
theorem s121_46 {st : List Value} {M : pj_Mem} {l : pj_Loc} {x : Nat} : pj_step 121 (46, some (.ref x) :: l, st, M) = some (47, some (.ref x) :: l, .ref x :: st, M) := st_aload_n q121_46 rfl
theorem x121_46 {st : List Value} {M : pj_Mem} {l : pj_Loc} {x : Nat} {o9 : Option Value × pj_Mem} : pj_Ends 121 (46, some (.ref x) :: l, st, M) o9 = pj_Ends 121 (47, some (.ref x) :: l, .ref x :: st, M) o9 := pj_xs (s121_46)
theorem q121_47 : pj_row 121 47 = some (.getfield 22, 3, 6, 5, 0) := by decide +kernel
theorem s121_47 {L : pj_Loc} {st : List Value} {N S : Nat} {H : pj_Heap} {o : Nat} : pj_step 121 (47, L, .ref o :: st, (N, S, H)) = pj_pv 50 L st (N, S, H) (pj_fld (H o) 6 5) := st_getfield q121_47
theorem x121_47 {L : pj_Loc} {st : List Value} {N S : Nat} {H : pj_Heap} {o : Nat} {o9 : Option Value × pj_Mem} : pj_Ends 121 (47, L, .ref o :: st, (N, S, H)) o9 = pj_then 121 o9 (pj_pv 50 L st (N, S, H) (pj_fld (H o) 6 5)) := pj_xt q121_47 rfl (pj_cl_nc rfl) (s121_47)
theorem q121_50 : pj_row 121 50 = some (.iload_n 1, 1, 0, 0, 0) := by decide +kernel
theorem s121_50 {st : List Value} {M : pj_Mem} {l : pj_Loc} {a0 : Option Value} {x : Int32} : pj_step 121 (50, a0 :: some (.int x) :: l, st, M) = some (51, a0 :: some (.int x) :: l, .int x :: st, M) := st_iload_n q121_50 rfl
theorem x121_50 {st : List Value} {M : pj_Mem} {l : pj_Loc} {a0 : Option Value} {x : Int32} {o9 : Option Value × pj_Mem} : pj_Ends 121 (50, a0 :: some (.int x) :: l, st, M) o9 = pj_Ends 121 (51, a0 :: some (.int x) :: l, .int x :: st, M) o9 := pj_xs (s121_50)
theorem q121_51 : pj_row 121 51 = some (.iconst 1, 1, 0, 0, 0) := by decide +kernel
theorem s121_51 {L : pj_Loc} {st : List Value} {M : pj_Mem}  : pj_step 121 (51, L, st, M) = some (52, L, .int 1 :: st, M) := st_iconst q121_51 (by decide +kernel)
theorem x121_51 {L : pj_Loc} {st : List Value} {M : pj_Mem}  {o9 : Option Value × pj_Mem} : pj_Ends 121 (51, L, st, M) o9 = pj_Ends 121 (52, L, .int 1 :: st, M) o9 := pj_xs (s121_51)
theorem q121_52 : pj_row 121 52 = some (.iastore, 1, 0, 0, 0) := by decide +kernel
theorem s121_52 {L : pj_Loc} {st : List Value} {N S : Nat} {H : pj_Heap} {o : Nat} {i x : Int32} : pj_step 121 (52, L, .int x :: .int i :: .ref o :: st, (N, S, H)) = pj_set 53 L st (N, S, H) o (pj_ars (H o) 0 i x) := st_iastore q121_52
theorem x121_52 {L : pj_Loc} {st : List Value} {N S : Nat} {H : pj_Heap} {o : Nat} {i x : Int32} {o9 : Option Value × pj_Mem} : pj_Ends 121 (52, L, .int x :: .int i :: .ref o :: st, (N, S, H)) o9 = pj_then 121 o9 (pj_set 53 L st (N, S, H) o (pj_ars (H o) 0 i x)) := pj_xt q121_52 rfl (pj_cl_nc rfl) (s121_52)
theorem q121_53 : pj_row 121 53 = some (.aload_n 0, 1, 0, 0, 0) := by decide +kernel
theorem s121_53 {st : List Value} {M : pj_Mem} {l : pj_Loc} {x : Nat} : pj_step 121 (53, some (.ref x) :: l, st, M) = some (54, some (.ref x) :: l, .ref x :: st, M) := st_aload_n q121_53 rfl
theorem x121_53 {st : List Value} {M : pj_Mem} {l : pj_Loc} {x : Nat} {o9 : Option Value × pj_Mem} : pj_Ends 121 (53, some (.ref x) :: l, st, M) o9 = pj_Ends 121 (54, some (.ref x) :: l, .ref x :: st, M) o9 := pj_xs (s121_53)
theorem q121_54 : pj_row 121 54 = some (.getfield 7, 3, 6, 0, 0) := by decide +kernel
theorem s121_54 {L : pj_Loc} {st : List Value} {N S : Nat} {H : pj_Heap} {o : Nat} : pj_step 121 (54, L, .ref o :: st, (N, S, H)) = pj_pv 57 L st (N, S, H) (pj_fld (H o) 6 0) := st_getfield q121_54
theorem x121_54 {L : pj_Loc} {st : List Value} {N S : Nat} {H : pj_Heap} {o : Nat} {o9 : Option Value × pj_Mem} : pj_Ends 121 (54, L, .ref o :: st, (N, S, H)) o9 = pj_then 121 o9 (pj_pv 57 L st (N, S, H) (pj_fld (H o) 6 0)) := pj_xt q121_54 rfl (pj_cl_nc rfl) (s121_54)
theorem q121_57 : pj_row 121 57 = some (.bipush 6, 2, 0, 0, 0) := by decide +kernel
theorem s121_57 {L : pj_Loc} {st : List Value} {M : pj_Mem}  : pj_step 121 (57, L, st, M) = some (59, L, .int 6 :: st, M) := st_bipush q121_57 (by decide +kernel)
theorem x121_57 {L : pj_Loc} {st : List Value} {M : pj_Mem}  {o9 : Option Value × pj_Mem} : pj_Ends 121 (57, L, st, M) o9 = pj_Ends 121 (59, L, .int 6 :: st, M) o9 := pj_xs (s121_57)
theorem q121_59 : pj_row 121 59 = some (.iaload, 1, 0, 0, 0) := by decide +kernel
theorem s121_59 {L : pj_Loc} {st : List Value} {N S : Nat} {H : pj_Heap} {o : Nat} {i : Int32} : pj_step 121 (59, L, .int i :: .ref o :: st, (N, S, H)) = pj_pi 60 L st (N, S, H) (pj_arl (H o) 0 i) := st_iaload q121_59
theorem x121_59 {L : pj_Loc} {st : List Value} {N S : Nat} {H : pj_Heap} {o : Nat} {i : Int32} {o9 : Option Value × pj_Mem} : pj_Ends 121 (59, L, .int i :: .ref o :: st, (N, S, H)) o9 = pj_then 121 o9 (pj_pi 60 L st (N, S, H) (pj_arl (H o) 0 i)) := pj_xt q121_59 rfl (pj_cl_nc rfl) (s121_59)
theorem q121_60 : pj_row 121 60 = some (.ireturn, 1, 0, 0, 0) := by decide +kernel
theorem t121_60 {L : pj_Loc} {M : pj_Mem} {v : Int32} : pj_Ends 121 (60, L, [.int v], M) (some (.int v), M) := pj_Ends.ret q121_60 (pj_rtn_i rt121)
theorem rt122 : pj_rt 122 = some .int := rfl
theorem q122_0 : pj_row 122 0 = some (.iload_n 1, 1, 0, 0, 0) := by decide +kernel
theorem s122_0 {st : List Value} {M : pj_Mem} {l : pj_Loc} {a0 : Option Value} {x : Int32} : pj_step 122 (0, a0 :: some (.int x) :: l, st, M) = some (1, a0 :: some (.int x) :: l, .int x :: st, M) := st_iload_n q122_0 rfl
theorem x122_0 {st : List Value} {M : pj_Mem} {l : pj_Loc} {a0 : Option Value} {x : Int32} {o9 : Option Value × pj_Mem} : pj_Ends 122 (0, a0 :: some (.int x) :: l, st, M) o9 = pj_Ends 122 (1, a0 :: some (.int x) :: l, .int x :: st, M) o9 := pj_xs (s122_0)
theorem q122_1 : pj_row 122 1 = some (.i2l, 1, 0, 0, 0) := by decide +kernel
theorem s122_1 {L : pj_Loc} {st : List Value} {M : pj_Mem} {x : Int32} : pj_step 122 (1, L, .int x :: st, M) = some (2, L, .long x.toInt64 :: st, M) := st_i2l q122_1
theorem x122_1 {L : pj_Loc} {st : List Value} {M : pj_Mem} {x : Int32} {o9 : Option Value × pj_Mem} : pj_Ends 122 (1, L, .int x :: st, M) o9 = pj_Ends 122 (2, L, .long x.toInt64 :: st, M) o9 := pj_xs (s122_1)
theorem q122_2 : pj_row 122 2 = some (.lconst 0, 1, 0, 0, 0) := by decide +kernel
theorem s122_2 {L : pj_Loc} {st : List Value} {M : pj_Mem}  : pj_step 122 (2, L, st, M) = some (3, L, .long 0 :: st, M) := st_lconst q122_2 (by decide +kernel)
theorem x122_2 {L : pj_Loc} {st : List Value} {M : pj_Mem}  {o9 : Option Value × pj_Mem} : pj_Ends 122 (2, L, st, M) o9 = pj_Ends 122 (3, L, .long 0 :: st, M) o9 := pj_xs (s122_2)
theorem q122_3 : pj_row 122 3 = some (.lconst 1, 1, 0, 0, 0) := by decide +kernel
theorem s122_3 {L : pj_Loc} {st : List Value} {M : pj_Mem}  : pj_step 122 (3, L, st, M) = some (4, L, .long 1 :: st, M) := st_lconst q122_3 (by decide +kernel)
theorem x122_3 {L : pj_Loc} {st : List Value} {M : pj_Mem}  {o9 : Option Value × pj_Mem} : pj_Ends 122 (3, L, st, M) o9 = pj_Ends 122 (4, L, .long 1 :: st, M) o9 := pj_xs (s122_3)
theorem q122_4 : pj_row 122 4 = some (.invokestatic 42, 3, 76, 3, 0) := by decide +kernel
theorem e122_4 {L : pj_Loc} {st : List Value} {N S : Nat} {H : pj_Heap} {o : Option Value × pj_Mem} {M' : pj_Mem} {x0 : Int64} {x1 : Int64} {x2 : Int64} {r : Int32} (h4 : pj_le4 st = true) (h1 : pj_Ends 76 (0, [some (.long x0), none, some (.long x1), none, some (.long x2), none], [], (N, S, H)) (some (.int r), M')) (h2 : pj_Ends 122 (7, L, .int r :: st, M') o) : pj_Ends 122 (4, L, .long x2 :: .long x1 :: .long x0 :: st, (N, S, H)) o := ec_s3 q122_4 (Or.inl rfl) h4 rfl h1 h2
theorem q122_7 : pj_row 122 7 = some (.ifCond .ne 6, 3, 13, 0, 0) := by decide +kernel
theorem s122_7 {L : pj_Loc} {st : List Value} {M : pj_Mem} {x : Int32} : pj_step 122 (7, L, .int x :: st, M) = some (if ¬ x = 0 then 13 else 10, L, st, M) := st_if_ne q122_7
theorem x122_7 {L : pj_Loc} {st : List Value} {M : pj_Mem} {x : Int32} {o9 : Option Value × pj_Mem} : pj_Ends 122 (7, L, .int x :: st, M) o9 = pj_Ends 122 (if ¬ x = 0 then 13 else 10, L, st, M) o9 := pj_xs (s122_7)
theorem q122_10 : pj_row 122 10 = some (.bipush (-2), 2, 0, 0, 0) := by decide +kernel
theorem s122_10 {L : pj_Loc} {st : List Value} {M : pj_Mem}  : pj_step 122 (10, L, st, M) = some (12, L, .int (-2) :: st, M) := st_bipush q122_10 (by decide +kernel)
theorem x122_10 {L : pj_Loc} {st : List Value} {M : pj_Mem}  {o9 : Option Value × pj_Mem} : pj_Ends 122 (10, L, st, M) o9 = pj_Ends 122 (12, L, .int (-2) :: st, M) o9 := pj_xs (s122_10)
theorem q122_12 : pj_row 122 12 = some (.ireturn, 1, 0, 0, 0) := by decide +kernel
theorem t122_12 {L : pj_Loc} {M : pj_Mem} {v : Int32} : pj_Ends 122 (12, L, [.int v], M) (some (.int v), M) := pj_Ends.ret q122_12 (pj_rtn_i rt122)
theorem q122_13 : pj_row 122 13 = some (.aload_n 0, 1, 0, 0, 0) := by decide +kernel
theorem s122_13 {st : List Value} {M : pj_Mem} {l : pj_Loc} {x : Nat} : pj_step 122 (13, some (.ref x) :: l, st, M) = some (14, some (.ref x) :: l, .ref x :: st, M) := st_aload_n q122_13 rfl
theorem x122_13 {st : List Value} {M : pj_Mem} {l : pj_Loc} {x : Nat} {o9 : Option Value × pj_Mem} : pj_Ends 122 (13, some (.ref x) :: l, st, M) o9 = pj_Ends 122 (14, some (.ref x) :: l, .ref x :: st, M) o9 := pj_xs (s122_13)
theorem q122_14 : pj_row 122 14 = some (.getfield 22, 3, 6, 5, 0) := by decide +kernel
theorem s122_14 {L : pj_Loc} {st : List Value} {N S : Nat} {H : pj_Heap} {o : Nat} : pj_step 122 (14, L, .ref o :: st, (N, S, H)) = pj_pv 17 L st (N, S, H) (pj_fld (H o) 6 5) := st_getfield q122_14
theorem x122_14 {L : pj_Loc} {st : List Value} {N S : Nat} {H : pj_Heap} {o : Nat} {o9 : Option Value × pj_Mem} : pj_Ends 122 (14, L, .ref o :: st, (N, S, H)) o9 = pj_then 122 o9 (pj_pv 17 L st (N, S, H) (pj_fld (H o) 6 5)) := pj_xt q122_14 rfl (pj_cl_nc rfl) (s122_14)
theorem q122_17 : pj_row 122 17 = some (.iload_n 1, 1, 0, 0, 0) := by decide +kernel
theorem s122_17 {st : List Value} {M : pj_Mem} {l : pj_Loc} {a0 : Option Value} {x : Int32} : pj_step 122 (17, a0 :: some (.int x) :: l, st, M) = some (18, a0 :: some (.int x) :: l, .int x :: st, M) := st_iload_n q122_17 rfl
theorem x122_17 {st : List Value} {M : pj_Mem} {l : pj_Loc} {a0 : Option Value} {x : Int32} {o9 : Option Value × pj_Mem} : pj_Ends 122 (17, a0 :: some (.int x) :: l, st, M) o9 = pj_Ends 122 (18, a0 :: some (.int x) :: l, .int x :: st, M) o9 := pj_xs (s122_17)
theorem q122_18 : pj_row 122 18 = some (.iaload, 1, 0, 0, 0) := by decide +kernel
theorem s122_18 {L : pj_Loc} {st : List Value} {N S : Nat} {H : pj_Heap} {o : Nat} {i : Int32} : pj_step 122 (18, L, .int i :: .ref o :: st, (N, S, H)) = pj_pi 19 L st (N, S, H) (pj_arl (H o) 0 i) := st_iaload q122_18
theorem x122_18 {L : pj_Loc} {st : List Value} {N S : Nat} {H : pj_Heap} {o : Nat} {i : Int32} {o9 : Option Value × pj_Mem} : pj_Ends 122 (18, L, .int i :: .ref o :: st, (N, S, H)) o9 = pj_then 122 o9 (pj_pi 19 L st (N, S, H) (pj_arl (H o) 0 i)) := pj_xt q122_18 rfl (pj_cl_nc rfl) (s122_18)
theorem q122_19 : pj_row 122 19 = some (.ifCond .ne 6, 3, 25, 0, 0) := by decide +kernel
theorem s122_19 {L : pj_Loc} {st : List Value} {M : pj_Mem} {x : Int32} : pj_step 122 (19, L, .int x :: st, M) = some (if ¬ x = 0 then 25 else 22, L, st, M) := st_if_ne q122_19
theorem x122_19 {L : pj_Loc} {st : List Value} {M : pj_Mem} {x : Int32} {o9 : Option Value × pj_Mem} : pj_Ends 122 (19, L, .int x :: st, M) o9 = pj_Ends 122 (if ¬ x = 0 then 25 else 22, L, st, M) o9 := pj_xs (s122_19)
theorem q122_22 : pj_row 122 22 = some (.bipush (-5), 2, 0, 0, 0) := by decide +kernel
theorem s122_22 {L : pj_Loc} {st : List Value} {M : pj_Mem}  : pj_step 122 (22, L, st, M) = some (24, L, .int (-5) :: st, M) := st_bipush q122_22 (by decide +kernel)
theorem x122_22 {L : pj_Loc} {st : List Value} {M : pj_Mem}  {o9 : Option Value × pj_Mem} : pj_Ends 122 (22, L, st, M) o9 = pj_Ends 122 (24, L, .int (-5) :: st, M) o9 := pj_xs (s122_22)
theorem q122_24 : pj_row 122 24 = some (.ireturn, 1, 0, 0, 0) := by decide +kernel
theorem t122_24 {L : pj_Loc} {M : pj_Mem} {v : Int32} : pj_Ends 122 (24, L, [.int v], M) (some (.int v), M) := pj_Ends.ret q122_24 (pj_rtn_i rt122)
theorem q122_25 : pj_row 122 25 = some (.aload_n 0, 1, 0, 0, 0) := by decide +kernel
theorem s122_25 {st : List Value} {M : pj_Mem} {l : pj_Loc} {x : Nat} : pj_step 122 (25, some (.ref x) :: l, st, M) = some (26, some (.ref x) :: l, .ref x :: st, M) := st_aload_n q122_25 rfl
theorem x122_25 {st : List Value} {M : pj_Mem} {l : pj_Loc} {x : Nat} {o9 : Option Value × pj_Mem} : pj_Ends 122 (25, some (.ref x) :: l, st, M) o9 = pj_Ends 122 (26, some (.ref x) :: l, .ref x :: st, M) o9 := pj_xs (s122_25)
theorem q122_26 : pj_row 122 26 = some (.invokevirtual 121, 3, 77, 1, 0) := by decide +kernel
theorem e122_26 {L : pj_Loc} {st : List Value} {N S : Nat} {H : pj_Heap} {o : Option Value × pj_Mem} {M' : pj_Mem} {x0 : Nat} (h4 : pj_le4 st = true) (hu : pj_isU 6 (H x0) = true) (h1 : pj_Ends 77 (0, [some (.ref x0), none], [], (N, S, H)) (none, M')) (h2 : pj_Ends 122 (29, L, st, M') o) : pj_Ends 122 (26, L, .ref x0 :: st, (N, S, H)) o := ec_v1 q122_26 (Or.inl rfl) h4 hu rfl h1 h2
theorem q122_29 : pj_row 122 29 = some (.iconst 0, 1, 0, 0, 0) := by decide +kernel
theorem s122_29 {L : pj_Loc} {st : List Value} {M : pj_Mem}  : pj_step 122 (29, L, st, M) = some (30, L, .int 0 :: st, M) := st_iconst q122_29 (by decide +kernel)
theorem x122_29 {L : pj_Loc} {st : List Value} {M : pj_Mem}  {o9 : Option Value × pj_Mem} : pj_Ends 122 (29, L, st, M) o9 = pj_Ends 122 (30, L, .int 0 :: st, M) o9 := pj_xs (s122_29)
theorem q122_30 : pj_row 122 30 = some (.istore_n 2, 1, 0, 0, 0) := by decide +kernel
theorem s122_30 {st : List Value} {M : pj_Mem} {l : pj_Loc} {a0 a1 a2 : Option Value} {x : Int32} (h : pj_long a1 = false) : pj_step 122 (30, a0 :: a1 :: a2 :: l, .int x :: st, M) = some (31, a0 :: a1 :: some (.int x) :: l, st, M) := st_istore_n q122_30 (pj_st_2 h)
theorem x122_30 {st : List Value} {M : pj_Mem} {l : pj_Loc} {a0 a1 a2 : Option Value} {x : Int32} (h : pj_long a1 = false) {o9 : Option Value × pj_Mem} : pj_Ends 122 (30, a0 :: a1 :: a2 :: l, .int x :: st, M) o9 = pj_Ends 122 (31, a0 :: a1 :: some (.int x) :: l, st, M) o9 := pj_xs (s122_30 h)
theorem q122_31 : pj_row 122 31 = some (.iload_n 2, 1, 0, 0, 0) := by decide +kernel
theorem s122_31 {st : List Value} {M : pj_Mem} {l : pj_Loc} {a0 a1 : Option Value} {x : Int32} : pj_step 122 (31, a0 :: a1 :: some (.int x) :: l, st, M) = some (32, a0 :: a1 :: some (.int x) :: l, .int x :: st, M) := st_iload_n q122_31 rfl
theorem x122_31 {st : List Value} {M : pj_Mem} {l : pj_Loc} {a0 a1 : Option Value} {x : Int32} {o9 : Option Value × pj_Mem} : pj_Ends 122 (31, a0 :: a1 :: some (.int x) :: l, st, M) o9 = pj_Ends 122 (32, a0 :: a1 :: some (.int x) :: l, .int x :: st, M) o9 := pj_xs (s122_31)
theorem q122_32 : pj_row 122 32 = some (.sipush 152, 3, 0, 0, 0) := by decide +kernel
theorem s122_32 {L : pj_Loc} {st : List Value} {M : pj_Mem}  : pj_step 122 (32, L, st, M) = some (35, L, .int 152 :: st, M) := st_sipush q122_32 (by decide +kernel)
theorem x122_32 {L : pj_Loc} {st : List Value} {M : pj_Mem}  {o9 : Option Value × pj_Mem} : pj_Ends 122 (32, L, st, M) o9 = pj_Ends 122 (35, L, .int 152 :: st, M) o9 := pj_xs (s122_32)
theorem q122_35 : pj_row 122 35 = some (.if_icmp .ge 27, 3, 62, 0, 0) := by decide +kernel
theorem s122_35 {L : pj_Loc} {st : List Value} {M : pj_Mem} {x y : Int32} : pj_step 122 (35, L, .int y :: .int x :: st, M) = some (if y ≤ x then 62 else 38, L, st, M) := st_icmp_ge q122_35
theorem x122_35 {L : pj_Loc} {st : List Value} {M : pj_Mem} {x y : Int32} {o9 : Option Value × pj_Mem} : pj_Ends 122 (35, L, .int y :: .int x :: st, M) o9 = pj_Ends 122 (if y ≤ x then 62 else 38, L, st, M) o9 := pj_xs (s122_35)
theorem q122_38 : pj_row 122 38 = some (.aload_n 0, 1, 0, 0, 0) := by decide +kernel
theorem s122_38 {st : List Value} {M : pj_Mem} {l : pj_Loc} {x : Nat} : pj_step 122 (38, some (.ref x) :: l, st, M) = some (39, some (.ref x) :: l, .ref x :: st, M) := st_aload_n q122_38 rfl
theorem x122_38 {st : List Value} {M : pj_Mem} {l : pj_Loc} {x : Nat} {o9 : Option Value × pj_Mem} : pj_Ends 122 (38, some (.ref x) :: l, st, M) o9 = pj_Ends 122 (39, some (.ref x) :: l, .ref x :: st, M) o9 := pj_xs (s122_38)
theorem q122_39 : pj_row 122 39 = some (.getfield 7, 3, 6, 0, 0) := by decide +kernel
theorem s122_39 {L : pj_Loc} {st : List Value} {N S : Nat} {H : pj_Heap} {o : Nat} : pj_step 122 (39, L, .ref o :: st, (N, S, H)) = pj_pv 42 L st (N, S, H) (pj_fld (H o) 6 0) := st_getfield q122_39
theorem x122_39 {L : pj_Loc} {st : List Value} {N S : Nat} {H : pj_Heap} {o : Nat} {o9 : Option Value × pj_Mem} : pj_Ends 122 (39, L, .ref o :: st, (N, S, H)) o9 = pj_then 122 o9 (pj_pv 42 L st (N, S, H) (pj_fld (H o) 6 0)) := pj_xt q122_39 rfl (pj_cl_nc rfl) (s122_39)
theorem q122_42 : pj_row 122 42 = some (.iload_n 2, 1, 0, 0, 0) := by decide +kernel
theorem s122_42 {st : List Value} {M : pj_Mem} {l : pj_Loc} {a0 a1 : Option Value} {x : Int32} : pj_step 122 (42, a0 :: a1 :: some (.int x) :: l, st, M) = some (43, a0 :: a1 :: some (.int x) :: l, .int x :: st, M) := st_iload_n q122_42 rfl
theorem x122_42 {st : List Value} {M : pj_Mem} {l : pj_Loc} {a0 a1 : Option Value} {x : Int32} {o9 : Option Value × pj_Mem} : pj_Ends 122 (42, a0 :: a1 :: some (.int x) :: l, st, M) o9 = pj_Ends 122 (43, a0 :: a1 :: some (.int x) :: l, .int x :: st, M) o9 := pj_xs (s122_42)
theorem q122_43 : pj_row 122 43 = some (.aload_n 0, 1, 0, 0, 0) := by decide +kernel
theorem s122_43 {st : List Value} {M : pj_Mem} {l : pj_Loc} {x : Nat} : pj_step 122 (43, some (.ref x) :: l, st, M) = some (44, some (.ref x) :: l, .ref x :: st, M) := st_aload_n q122_43 rfl
theorem x122_43 {st : List Value} {M : pj_Mem} {l : pj_Loc} {x : Nat} {o9 : Option Value × pj_Mem} : pj_Ends 122 (43, some (.ref x) :: l, st, M) o9 = pj_Ends 122 (44, some (.ref x) :: l, .ref x :: st, M) o9 := pj_xs (s122_43)
theorem q122_44 : pj_row 122 44 = some (.getfield 19, 3, 6, 4, 0) := by decide +kernel
theorem s122_44 {L : pj_Loc} {st : List Value} {N S : Nat} {H : pj_Heap} {o : Nat} : pj_step 122 (44, L, .ref o :: st, (N, S, H)) = pj_pv 47 L st (N, S, H) (pj_fld (H o) 6 4) := st_getfield q122_44
theorem x122_44 {L : pj_Loc} {st : List Value} {N S : Nat} {H : pj_Heap} {o : Nat} {o9 : Option Value × pj_Mem} : pj_Ends 122 (44, L, .ref o :: st, (N, S, H)) o9 = pj_then 122 o9 (pj_pv 47 L st (N, S, H) (pj_fld (H o) 6 4)) := pj_xt q122_44 rfl (pj_cl_nc rfl) (s122_44)
theorem q122_47 : pj_row 122 47 = some (.sipush 152, 3, 0, 0, 0) := by decide +kernel
theorem s122_47 {L : pj_Loc} {st : List Value} {M : pj_Mem}  : pj_step 122 (47, L, st, M) = some (50, L, .int 152 :: st, M) := st_sipush q122_47 (by decide +kernel)
theorem x122_47 {L : pj_Loc} {st : List Value} {M : pj_Mem}  {o9 : Option Value × pj_Mem} : pj_Ends 122 (47, L, st, M) o9 = pj_Ends 122 (50, L, .int 152 :: st, M) o9 := pj_xs (s122_47)
theorem q122_50 : pj_row 122 50 = some (.iload_n 1, 1, 0, 0, 0) := by decide +kernel
theorem s122_50 {st : List Value} {M : pj_Mem} {l : pj_Loc} {a0 : Option Value} {x : Int32} : pj_step 122 (50, a0 :: some (.int x) :: l, st, M) = some (51, a0 :: some (.int x) :: l, .int x :: st, M) := st_iload_n q122_50 rfl
theorem x122_50 {st : List Value} {M : pj_Mem} {l : pj_Loc} {a0 : Option Value} {x : Int32} {o9 : Option Value × pj_Mem} : pj_Ends 122 (50, a0 :: some (.int x) :: l, st, M) o9 = pj_Ends 122 (51, a0 :: some (.int x) :: l, .int x :: st, M) o9 := pj_xs (s122_50)
theorem q122_51 : pj_row 122 51 = some (.imul, 1, 0, 0, 0) := by decide +kernel
theorem s122_51 {L : pj_Loc} {st : List Value} {M : pj_Mem} {x y : Int32} : pj_step 122 (51, L, .int y :: .int x :: st, M) = some (52, L, .int (x * y) :: st, M) := st_imul q122_51
theorem x122_51 {L : pj_Loc} {st : List Value} {M : pj_Mem} {x y : Int32} {o9 : Option Value × pj_Mem} : pj_Ends 122 (51, L, .int y :: .int x :: st, M) o9 = pj_Ends 122 (52, L, .int (x * y) :: st, M) o9 := pj_xs (s122_51)
theorem q122_52 : pj_row 122 52 = some (.iload_n 2, 1, 0, 0, 0) := by decide +kernel
theorem s122_52 {st : List Value} {M : pj_Mem} {l : pj_Loc} {a0 a1 : Option Value} {x : Int32} : pj_step 122 (52, a0 :: a1 :: some (.int x) :: l, st, M) = some (53, a0 :: a1 :: some (.int x) :: l, .int x :: st, M) := st_iload_n q122_52 rfl
theorem x122_52 {st : List Value} {M : pj_Mem} {l : pj_Loc} {a0 a1 : Option Value} {x : Int32} {o9 : Option Value × pj_Mem} : pj_Ends 122 (52, a0 :: a1 :: some (.int x) :: l, st, M) o9 = pj_Ends 122 (53, a0 :: a1 :: some (.int x) :: l, .int x :: st, M) o9 := pj_xs (s122_52)
theorem q122_53 : pj_row 122 53 = some (.iadd, 1, 0, 0, 0) := by decide +kernel
theorem s122_53 {L : pj_Loc} {st : List Value} {M : pj_Mem} {x y : Int32} : pj_step 122 (53, L, .int y :: .int x :: st, M) = some (54, L, .int (x + y) :: st, M) := st_iadd q122_53
theorem x122_53 {L : pj_Loc} {st : List Value} {M : pj_Mem} {x y : Int32} {o9 : Option Value × pj_Mem} : pj_Ends 122 (53, L, .int y :: .int x :: st, M) o9 = pj_Ends 122 (54, L, .int (x + y) :: st, M) o9 := pj_xs (s122_53)
theorem q122_54 : pj_row 122 54 = some (.iaload, 1, 0, 0, 0) := by decide +kernel
theorem s122_54 {L : pj_Loc} {st : List Value} {N S : Nat} {H : pj_Heap} {o : Nat} {i : Int32} : pj_step 122 (54, L, .int i :: .ref o :: st, (N, S, H)) = pj_pi 55 L st (N, S, H) (pj_arl (H o) 0 i) := st_iaload q122_54
theorem x122_54 {L : pj_Loc} {st : List Value} {N S : Nat} {H : pj_Heap} {o : Nat} {i : Int32} {o9 : Option Value × pj_Mem} : pj_Ends 122 (54, L, .int i :: .ref o :: st, (N, S, H)) o9 = pj_then 122 o9 (pj_pi 55 L st (N, S, H) (pj_arl (H o) 0 i)) := pj_xt q122_54 rfl (pj_cl_nc rfl) (s122_54)
theorem q122_55 : pj_row 122 55 = some (.iastore, 1, 0, 0, 0) := by decide +kernel
theorem s122_55 {L : pj_Loc} {st : List Value} {N S : Nat} {H : pj_Heap} {o : Nat} {i x : Int32} : pj_step 122 (55, L, .int x :: .int i :: .ref o :: st, (N, S, H)) = pj_set 56 L st (N, S, H) o (pj_ars (H o) 0 i x) := st_iastore q122_55
theorem x122_55 {L : pj_Loc} {st : List Value} {N S : Nat} {H : pj_Heap} {o : Nat} {i x : Int32} {o9 : Option Value × pj_Mem} : pj_Ends 122 (55, L, .int x :: .int i :: .ref o :: st, (N, S, H)) o9 = pj_then 122 o9 (pj_set 56 L st (N, S, H) o (pj_ars (H o) 0 i x)) := pj_xt q122_55 rfl (pj_cl_nc rfl) (s122_55)
theorem q122_56 : pj_row 122 56 = some (.iinc 2 1, 3, 0, 0, 0) := by decide +kernel
theorem s122_56 {st : List Value} {M : pj_Mem} {l : pj_Loc} {a0 a1 : Option Value} {x : Int32} (h : pj_long a1 = false) : pj_step 122 (56, a0 :: a1 :: some (.int x) :: l, st, M) = some (59, a0 :: a1 :: some (.int (x + 1)) :: l, st, M) := st_iinc q122_56 rfl (congrArg (fun y => x + y) (show Int32.ofInt 1 = 1 by decide +kernel)) (pj_st_2 h)
theorem x122_56 {st : List Value} {M : pj_Mem} {l : pj_Loc} {a0 a1 : Option Value} {x : Int32} (h : pj_long a1 = false) {o9 : Option Value × pj_Mem} : pj_Ends 122 (56, a0 :: a1 :: some (.int x) :: l, st, M) o9 = pj_Ends 122 (59, a0 :: a1 :: some (.int (x + 1)) :: l, st, M) o9 := pj_xs (s122_56 h)
theorem q122_59 : pj_row 122 59 = some (.goto (-28), 3, 31, 0, 0) := by decide +kernel
theorem s122_59 {L : pj_Loc} {st : List Value} {M : pj_Mem}  : pj_step 122 (59, L, st, M) = some (31, L, st, M) := st_goto q122_59
theorem x122_59 {L : pj_Loc} {st : List Value} {M : pj_Mem}  {o9 : Option Value × pj_Mem} : pj_Ends 122 (59, L, st, M) o9 = pj_Ends 122 (31, L, st, M) o9 := pj_xs (s122_59)
theorem q122_62 : pj_row 122 62 = some (.aload_n 0, 1, 0, 0, 0) := by decide +kernel
theorem s122_62 {st : List Value} {M : pj_Mem} {l : pj_Loc} {x : Nat} : pj_step 122 (62, some (.ref x) :: l, st, M) = some (63, some (.ref x) :: l, .ref x :: st, M) := st_aload_n q122_62 rfl
theorem x122_62 {st : List Value} {M : pj_Mem} {l : pj_Loc} {x : Nat} {o9 : Option Value × pj_Mem} : pj_Ends 122 (62, some (.ref x) :: l, st, M) o9 = pj_Ends 122 (63, some (.ref x) :: l, .ref x :: st, M) o9 := pj_xs (s122_62)
theorem q122_63 : pj_row 122 63 = some (.aload_n 0, 1, 0, 0, 0) := by decide +kernel
theorem s122_63 {st : List Value} {M : pj_Mem} {l : pj_Loc} {x : Nat} : pj_step 122 (63, some (.ref x) :: l, st, M) = some (64, some (.ref x) :: l, .ref x :: st, M) := st_aload_n q122_63 rfl
theorem x122_63 {st : List Value} {M : pj_Mem} {l : pj_Loc} {x : Nat} {o9 : Option Value × pj_Mem} : pj_Ends 122 (63, some (.ref x) :: l, st, M) o9 = pj_Ends 122 (64, some (.ref x) :: l, .ref x :: st, M) o9 := pj_xs (s122_63)
theorem q122_64 : pj_row 122 64 = some (.getfield 7, 3, 6, 0, 0) := by decide +kernel
theorem s122_64 {L : pj_Loc} {st : List Value} {N S : Nat} {H : pj_Heap} {o : Nat} : pj_step 122 (64, L, .ref o :: st, (N, S, H)) = pj_pv 67 L st (N, S, H) (pj_fld (H o) 6 0) := st_getfield q122_64
theorem x122_64 {L : pj_Loc} {st : List Value} {N S : Nat} {H : pj_Heap} {o : Nat} {o9 : Option Value × pj_Mem} : pj_Ends 122 (64, L, .ref o :: st, (N, S, H)) o9 = pj_then 122 o9 (pj_pv 67 L st (N, S, H) (pj_fld (H o) 6 0)) := pj_xt q122_64 rfl (pj_cl_nc rfl) (s122_64)
theorem q122_67 : pj_row 122 67 = some (.bipush 6, 2, 0, 0, 0) := by decide +kernel
theorem s122_67 {L : pj_Loc} {st : List Value} {M : pj_Mem}  : pj_step 122 (67, L, st, M) = some (69, L, .int 6 :: st, M) := st_bipush q122_67 (by decide +kernel)
theorem x122_67 {L : pj_Loc} {st : List Value} {M : pj_Mem}  {o9 : Option Value × pj_Mem} : pj_Ends 122 (67, L, st, M) o9 = pj_Ends 122 (69, L, .int 6 :: st, M) o9 := pj_xs (s122_67)
theorem q122_69 : pj_row 122 69 = some (.iaload, 1, 0, 0, 0) := by decide +kernel
theorem s122_69 {L : pj_Loc} {st : List Value} {N S : Nat} {H : pj_Heap} {o : Nat} {i : Int32} : pj_step 122 (69, L, .int i :: .ref o :: st, (N, S, H)) = pj_pi 70 L st (N, S, H) (pj_arl (H o) 0 i) := st_iaload q122_69
theorem x122_69 {L : pj_Loc} {st : List Value} {N S : Nat} {H : pj_Heap} {o : Nat} {i : Int32} {o9 : Option Value × pj_Mem} : pj_Ends 122 (69, L, .int i :: .ref o :: st, (N, S, H)) o9 = pj_then 122 o9 (pj_pi 70 L st (N, S, H) (pj_arl (H o) 0 i)) := pj_xt q122_69 rfl (pj_cl_nc rfl) (s122_69)
theorem q122_70 : pj_row 122 70 = some (.invokevirtual 124, 3, 78, 2, 0) := by decide +kernel
theorem e122_70 {L : pj_Loc} {st : List Value} {N S : Nat} {H : pj_Heap} {o : Option Value × pj_Mem} {M' : pj_Mem} {x0 : Nat} {x1 : Int32} {r : Int32} (h4 : pj_le4 st = true) (hu : pj_isU 6 (H x0) = true) (h1 : pj_Ends 78 (0, [some (.ref x0), some (.int x1), none], [], (N, S, H)) (some (.int r), M')) (h2 : pj_Ends 122 (73, L, .int r :: st, M') o) : pj_Ends 122 (70, L, .int x1 :: .ref x0 :: st, (N, S, H)) o := ec_v2 q122_70 (Or.inl rfl) h4 hu rfl h1 h2
theorem q122_73 : pj_row 122 73 = some (.ireturn, 1, 0, 0, 0) := by decide +kernel
theorem t122_73 {L : pj_Loc} {M : pj_Mem} {v : Int32} : pj_Ends 122 (73, L, [.int v], M) (some (.int v), M) := pj_Ends.ret q122_73 (pj_rtn_i rt122)
