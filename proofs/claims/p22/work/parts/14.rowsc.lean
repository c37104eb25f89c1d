/-! THE STEPS OF EACH METHOD, by program (wip/whole/gen/gen12.py) -/
theorem rt50 : pj_rt 50 = some .int := rfl
theorem q50_0 : pj_row 50 0 = some (.aload_n 0, 1, 0, 0, 0) := by decide +kernel
theorem s50_0 {st : List Value} {M : pj_Mem} {l : pj_Loc} {x : Nat} : pj_step 50 (0, some (.ref x) :: l, st, M) = some (1, some (.ref x) :: l, .ref x :: st, M) := st_aload_n q50_0 rfl
theorem x50_0 {st : List Value} {M : pj_Mem} {l : pj_Loc} {x : Nat} {o9 : Option Value × pj_Mem} : pj_Ends 50 (0, some (.ref x) :: l, st, M) o9 = pj_Ends 50 (1, some (.ref x) :: l, .ref x :: st, M) o9 := pj_xs (s50_0)
theorem q50_1 : pj_row 50 1 = some (.getfield 148, 3, 5, 5, 0) := by decide +kernel
theorem s50_1 {L : pj_Loc} {st : List Value} {N S : Nat} {H : pj_Heap} {o : Nat} : pj_step 50 (1, L, .ref o :: st, (N, S, H)) = pj_pv 4 L st (N, S, H) (pj_fld (H o) 5 5) := st_getfield q50_1
theorem x50_1 {L : pj_Loc} {st : List Value} {N S : Nat} {H : pj_Heap} {o : Nat} {o9 : Option Value × pj_Mem} : pj_Ends 50 (1, L, .ref o :: st, (N, S, H)) o9 = pj_then 50 o9 (pj_pv 4 L st (N, S, H) (pj_fld (H o) 5 5)) := pj_xt q50_1 rfl (pj_cl_nc rfl) (s50_1)
theorem q50_4 : pj_row 50 4 = some (.ifCond .le 12, 3, 16, 0, 0) := by decide +kernel
theorem s50_4 {L : pj_Loc} {st : List Value} {M : pj_Mem} {x : Int32} : pj_step 50 (4, L, .int x :: st, M) = some (if x ≤ 0 then 16 else 7, L, st, M) := st_if_le q50_4
theorem x50_4 {L : pj_Loc} {st : List Value} {M : pj_Mem} {x : Int32} {o9 : Option Value × pj_Mem} : pj_Ends 50 (4, L, .int x :: st, M) o9 = pj_Ends 50 (if x ≤ 0 then 16 else 7, L, st, M) o9 := pj_xs (s50_4)
theorem q50_7 : pj_row 50 7 = some (.aload_n 0, 1, 0, 0, 0) := by decide +kernel
theorem s50_7 {st : List Value} {M : pj_Mem} {l : pj_Loc} {x : Nat} : pj_step 50 (7, some (.ref x) :: l, st, M) = some (8, some (.ref x) :: l, .ref x :: st, M) := st_aload_n q50_7 rfl
theorem x50_7 {st : List Value} {M : pj_Mem} {l : pj_Loc} {x : Nat} {o9 : Option Value × pj_Mem} : pj_Ends 50 (7, some (.ref x) :: l, st, M) o9 = pj_Ends 50 (8, some (.ref x) :: l, .ref x :: st, M) o9 := pj_xs (s50_7)
theorem q50_8 : pj_row 50 8 = some (.getfield 148, 3, 5, 5, 0) := by decide +kernel
theorem s50_8 {L : pj_Loc} {st : List Value} {N S : Nat} {H : pj_Heap} {o : Nat} : pj_step 50 (8, L, .ref o :: st, (N, S, H)) = pj_pv 11 L st (N, S, H) (pj_fld (H o) 5 5) := st_getfield q50_8
theorem x50_8 {L : pj_Loc} {st : List Value} {N S : Nat} {H : pj_Heap} {o : Nat} {o9 : Option Value × pj_Mem} : pj_Ends 50 (8, L, .ref o :: st, (N, S, H)) o9 = pj_then 50 o9 (pj_pv 11 L st (N, S, H) (pj_fld (H o) 5 5)) := pj_xt q50_8 rfl (pj_cl_nc rfl) (s50_8)
theorem q50_11 : pj_row 50 11 = some (.bipush 6, 2, 0, 0, 0) := by decide +kernel
theorem s50_11 {L : pj_Loc} {st : List Value} {M : pj_Mem}  : pj_step 50 (11, L, st, M) = some (13, L, .int 6 :: st, M) := st_bipush q50_11 (by decide +kernel)
theorem x50_11 {L : pj_Loc} {st : List Value} {M : pj_Mem}  {o9 : Option Value × pj_Mem} : pj_Ends 50 (11, L, st, M) o9 = pj_Ends 50 (13, L, .int 6 :: st, M) o9 := pj_xs (s50_11)
theorem q50_13 : pj_row 50 13 = some (.if_icmp .le 6, 3, 19, 0, 0) := by decide +kernel
theorem s50_13 {L : pj_Loc} {st : List Value} {M : pj_Mem} {x y : Int32} : pj_step 50 (13, L, .int y :: .int x :: st, M) = some (if x ≤ y then 19 else 16, L, st, M) := st_icmp_le q50_13
theorem x50_13 {L : pj_Loc} {st : List Value} {M : pj_Mem} {x y : Int32} {o9 : Option Value × pj_Mem} : pj_Ends 50 (13, L, .int y :: .int x :: st, M) o9 = pj_Ends 50 (if x ≤ y then 19 else 16, L, st, M) o9 := pj_xs (s50_13)
theorem q50_16 : pj_row 50 16 = some (.bipush (-5), 2, 0, 0, 0) := by decide +kernel
theorem s50_16 {L : pj_Loc} {st : List Value} {M : pj_Mem}  : pj_step 50 (16, L, st, M) = some (18, L, .int (-5) :: st, M) := st_bipush q50_16 (by decide +kernel)
theorem x50_16 {L : pj_Loc} {st : List Value} {M : pj_Mem}  {o9 : Option Value × pj_Mem} : pj_Ends 50 (16, L, st, M) o9 = pj_Ends 50 (18, L, .int (-5) :: st, M) o9 := pj_xs (s50_16)
theorem q50_18 : pj_row 50 18 = some (.ireturn, 1, 0, 0, 0) := by decide +kernel
theorem t50_18 {L : pj_Loc} {M : pj_Mem} {v : Int32} : pj_Ends 50 (18, L, [.int v], M) (some (.int v), M) := pj_Ends.ret q50_18 (pj_rtn_i rt50)
theorem q50_19 : pj_row 50 19 = some (.aload_n 0, 1, 0, 0, 0) := by decide +kernel
theorem s50_19 {st : List Value} {M : pj_Mem} {l : pj_Loc} {x : Nat} : pj_step 50 (19, some (.ref x) :: l, st, M) = some (20, some (.ref x) :: l, .ref x :: st, M) := st_aload_n q50_19 rfl
theorem x50_19 {st : List Value} {M : pj_Mem} {l : pj_Loc} {x : Nat} {o9 : Option Value × pj_Mem} : pj_Ends 50 (19, some (.ref x) :: l, st, M) o9 = pj_Ends 50 (20, some (.ref x) :: l, .ref x :: st, M) o9 := pj_xs (s50_19)
theorem q50_20 : pj_row 50 20 = some (.dup, 1, 0, 0, 0) := by decide +kernel
theorem s50_20 {L : pj_Loc} {st : List Value} {M : pj_Mem} {x : Nat} : pj_step 50 (20, L, .ref x :: st, M) = some (21, L, .ref x :: .ref x :: st, M) := st_dup_ref q50_20
theorem x50_20 {L : pj_Loc} {st : List Value} {M : pj_Mem} {x : Nat} {o9 : Option Value × pj_Mem} : pj_Ends 50 (20, L, .ref x :: st, M) o9 = pj_Ends 50 (21, L, .ref x :: .ref x :: st, M) o9 := pj_xs (s50_20)
theorem s50_20i {L : pj_Loc} {st : List Value} {M : pj_Mem} {x : Int32} : pj_step 50 (20, L, .int x :: st, M) = some (21, L, .int x :: .int x :: st, M) := st_dup_int q50_20
theorem x50_20i {L : pj_Loc} {st : List Value} {M : pj_Mem} {x : Int32} {o9 : Option Value × pj_Mem} : pj_Ends 50 (20, L, .int x :: st, M) o9 = pj_Ends 50 (21, L, .int x :: .int x :: st, M) o9 := pj_xs (s50_20i)
theorem q50_21 : pj_row 50 21 = some (.getfield 148, 3, 5, 5, 0) := by decide +kernel
theorem s50_21 {L : pj_Loc} {st : List Value} {N S : Nat} {H : pj_Heap} {o : Nat} : pj_step 50 (21, L, .ref o :: st, (N, S, H)) = pj_pv 24 L st (N, S, H) (pj_fld (H o) 5 5) := st_getfield q50_21
theorem x50_21 {L : pj_Loc} {st : List Value} {N S : Nat} {H : pj_Heap} {o : Nat} {o9 : Option Value × pj_Mem} : pj_Ends 50 (21, L, .ref o :: st, (N, S, H)) o9 = pj_then 50 o9 (pj_pv 24 L st (N, S, H) (pj_fld (H o) 5 5)) := pj_xt q50_21 rfl (pj_cl_nc rfl) (s50_21)
theorem q50_24 : pj_row 50 24 = some (.iconst 1, 1, 0, 0, 0) := by decide +kernel
theorem s50_24 {L : pj_Loc} {st : List Value} {M : pj_Mem}  : pj_step 50 (24, L, st, M) = some (25, L, .int 1 :: st, M) := st_iconst q50_24 (by decide +kernel)
theorem x50_24 {L : pj_Loc} {st : List Value} {M : pj_Mem}  {o9 : Option Value × pj_Mem} : pj_Ends 50 (24, L, st, M) o9 = pj_Ends 50 (25, L, .int 1 :: st, M) o9 := pj_xs (s50_24)
theorem q50_25 : pj_row 50 25 = some (.isub, 1, 0, 0, 0) := by decide +kernel
theorem s50_25 {L : pj_Loc} {st : List Value} {M : pj_Mem} {x y : Int32} : pj_step 50 (25, L, .int y :: .int x :: st, M) = some (26, L, .int (x - y) :: st, M) := st_isub q50_25
theorem x50_25 {L : pj_Loc} {st : List Value} {M : pj_Mem} {x y : Int32} {o9 : Option Value × pj_Mem} : pj_Ends 50 (25, L, .int y :: .int x :: st, M) o9 = pj_Ends 50 (26, L, .int (x - y) :: st, M) o9 := pj_xs (s50_25)
theorem q50_26 : pj_row 50 26 = some (.putfield 148, 3, 5, 5, 0) := by decide +kernel
theorem s50_26 {L : pj_Loc} {st : List Value} {N S : Nat} {H : pj_Heap} {o : Nat} {v : Value} : pj_step 50 (26, L, v :: .ref o :: st, (N, S, H)) = pj_set 29 L st (N, S, H) o (pj_fset (H o) 5 5 v) := st_putfield q50_26
theorem x50_26 {L : pj_Loc} {st : List Value} {N S : Nat} {H : pj_Heap} {o : Nat} {v : Value} {o9 : Option Value × pj_Mem} : pj_Ends 50 (26, L, v :: .ref o :: st, (N, S, H)) o9 = pj_then 50 o9 (pj_set 29 L st (N, S, H) o (pj_fset (H o) 5 5 v)) := pj_xt q50_26 rfl (pj_cl_nc rfl) (s50_26)
theorem q50_29 : pj_row 50 29 = some (.aload_n 0, 1, 0, 0, 0) := by decide +kernel
theorem s50_29 {st : List Value} {M : pj_Mem} {l : pj_Loc} {x : Nat} : pj_step 50 (29, some (.ref x) :: l, st, M) = some (30, some (.ref x) :: l, .ref x :: st, M) := st_aload_n q50_29 rfl
theorem x50_29 {st : List Value} {M : pj_Mem} {l : pj_Loc} {x : Nat} {o9 : Option Value × pj_Mem} : pj_Ends 50 (29, some (.ref x) :: l, st, M) o9 = pj_Ends 50 (30, some (.ref x) :: l, .ref x :: st, M) o9 := pj_xs (s50_29)
theorem q50_30 : pj_row 50 30 = some (.getfield 10, 3, 5, 0, 0) := by decide +kernel
theorem s50_30 {L : pj_Loc} {st : List Value} {N S : Nat} {H : pj_Heap} {o : Nat} : pj_step 50 (30, L, .ref o :: st, (N, S, H)) = pj_pv 33 L st (N, S, H) (pj_fld (H o) 5 0) := st_getfield q50_30
theorem x50_30 {L : pj_Loc} {st : List Value} {N S : Nat} {H : pj_Heap} {o : Nat} {o9 : Option Value × pj_Mem} : pj_Ends 50 (30, L, .ref o :: st, (N, S, H)) o9 = pj_then 50 o9 (pj_pv 33 L st (N, S, H) (pj_fld (H o) 5 0)) := pj_xt q50_30 rfl (pj_cl_nc rfl) (s50_30)
theorem q50_33 : pj_row 50 33 = some (.aload_n 0, 1, 0, 0, 0) := by decide +kernel
theorem s50_33 {st : List Value} {M : pj_Mem} {l : pj_Loc} {x : Nat} : pj_step 50 (33, some (.ref x) :: l, st, M) = some (34, some (.ref x) :: l, .ref x :: st, M) := st_aload_n q50_33 rfl
theorem x50_33 {st : List Value} {M : pj_Mem} {l : pj_Loc} {x : Nat} {o9 : Option Value × pj_Mem} : pj_Ends 50 (33, some (.ref x) :: l, st, M) o9 = pj_Ends 50 (34, some (.ref x) :: l, .ref x :: st, M) o9 := pj_xs (s50_33)
theorem q50_34 : pj_row 50 34 = some (.getfield 37, 3, 5, 4, 0) := by decide +kernel
theorem s50_34 {L : pj_Loc} {st : List Value} {N S : Nat} {H : pj_Heap} {o : Nat} : pj_step 50 (34, L, .ref o :: st, (N, S, H)) = pj_pv 37 L st (N, S, H) (pj_fld (H o) 5 4) := st_getfield q50_34
theorem x50_34 {L : pj_Loc} {st : List Value} {N S : Nat} {H : pj_Heap} {o : Nat} {o9 : Option Value × pj_Mem} : pj_Ends 50 (34, L, .ref o :: st, (N, S, H)) o9 = pj_then 50 o9 (pj_pv 37 L st (N, S, H) (pj_fld (H o) 5 4)) := pj_xt q50_34 rfl (pj_cl_nc rfl) (s50_34)
theorem q50_37 : pj_row 50 37 = some (.aload_n 0, 1, 0, 0, 0) := by decide +kernel
theorem s50_37 {st : List Value} {M : pj_Mem} {l : pj_Loc} {x : Nat} : pj_step 50 (37, some (.ref x) :: l, st, M) = some (38, some (.ref x) :: l, .ref x :: st, M) := st_aload_n q50_37 rfl
theorem x50_37 {st : List Value} {M : pj_Mem} {l : pj_Loc} {x : Nat} {o9 : Option Value × pj_Mem} : pj_Ends 50 (37, some (.ref x) :: l, st, M) o9 = pj_Ends 50 (38, some (.ref x) :: l, .ref x :: st, M) o9 := pj_xs (s50_37)
theorem q50_38 : pj_row 50 38 = some (.getfield 148, 3, 5, 5, 0) := by decide +kernel
theorem s50_38 {L : pj_Loc} {st : List Value} {N S : Nat} {H : pj_Heap} {o : Nat} : pj_step 50 (38, L, .ref o :: st, (N, S, H)) = pj_pv 41 L st (N, S, H) (pj_fld (H o) 5 5) := st_getfield q50_38
theorem x50_38 {L : pj_Loc} {st : List Value} {N S : Nat} {H : pj_Heap} {o : Nat} {o9 : Option Value × pj_Mem} : pj_Ends 50 (38, L, .ref o :: st, (N, S, H)) o9 = pj_then 50 o9 (pj_pv 41 L st (N, S, H) (pj_fld (H o) 5 5)) := pj_xt q50_38 rfl (pj_cl_nc rfl) (s50_38)
theorem q50_41 : pj_row 50 41 = some (.aaload, 1, 0, 0, 0) := by decide +kernel
theorem s50_41 {L : pj_Loc} {st : List Value} {N S : Nat} {H : pj_Heap} {o : Nat} {i : Int32} : pj_step 50 (41, L, .int i :: .ref o :: st, (N, S, H)) = pj_pv 42 L st (N, S, H) (pj_qrl (H o) i) := st_aaload q50_41
theorem x50_41 {L : pj_Loc} {st : List Value} {N S : Nat} {H : pj_Heap} {o : Nat} {i : Int32} {o9 : Option Value × pj_Mem} : pj_Ends 50 (41, L, .int i :: .ref o :: st, (N, S, H)) o9 = pj_then 50 o9 (pj_pv 42 L st (N, S, H) (pj_qrl (H o) i)) := pj_xt q50_41 rfl (pj_cl_nc rfl) (s50_41)
theorem q50_42 : pj_row 50 42 = some (.invokevirtual 172, 3, 32, 2, 0) := by decide +kernel
theorem e50_42 {L : pj_Loc} {st : List Value} {N S : Nat} {H : pj_Heap} {o : Option Value × pj_Mem} {M' : pj_Mem} {x0 : Nat} {x1 : Nat} (h4 : pj_le4 st = true) (hu : pj_isU 4 (H x0) = true) (h1 : pj_Ends 32 (0, [some (.ref x0), some (.ref x1)], [], (N, S, H)) (none, M')) (h2 : pj_Ends 50 (45, L, st, M') o) : pj_Ends 50 (42, L, .ref x1 :: .ref x0 :: st, (N, S, H)) o := ec_v2 q50_42 (Or.inl rfl) h4 hu rfl h1 h2
theorem q50_45 : pj_row 50 45 = some (.aload_n 0, 1, 0, 0, 0) := by decide +kernel
theorem s50_45 {st : List Value} {M : pj_Mem} {l : pj_Loc} {x : Nat} : pj_step 50 (45, some (.ref x) :: l, st, M) = some (46, some (.ref x) :: l, .ref x :: st, M) := st_aload_n q50_45 rfl
theorem x50_45 {st : List Value} {M : pj_Mem} {l : pj_Loc} {x : Nat} {o9 : Option Value × pj_Mem} : pj_Ends 50 (45, some (.ref x) :: l, st, M) o9 = pj_Ends 50 (46, some (.ref x) :: l, .ref x :: st, M) o9 := pj_xs (s50_45)
theorem q50_46 : pj_row 50 46 = some (.getfield 148, 3, 5, 5, 0) := by decide +kernel
theorem s50_46 {L : pj_Loc} {st : List Value} {N S : Nat} {H : pj_Heap} {o : Nat} : pj_step 50 (46, L, .ref o :: st, (N, S, H)) = pj_pv 49 L st (N, S, H) (pj_fld (H o) 5 5) := st_getfield q50_46
theorem x50_46 {L : pj_Loc} {st : List Value} {N S : Nat} {H : pj_Heap} {o : Nat} {o9 : Option Value × pj_Mem} : pj_Ends 50 (46, L, .ref o :: st, (N, S, H)) o9 = pj_then 50 o9 (pj_pv 49 L st (N, S, H) (pj_fld (H o) 5 5)) := pj_xt q50_46 rfl (pj_cl_nc rfl) (s50_46)
theorem q50_49 : pj_row 50 49 = some (.ireturn, 1, 0, 0, 0) := by decide +kernel
theorem t50_49 {L : pj_Loc} {M : pj_Mem} {v : Int32} : pj_Ends 50 (49, L, [.int v], M) (some (.int v), M) := pj_Ends.ret q50_49 (pj_rtn_i rt50)
theorem rt51 : pj_rt 51 = some .boolean := rfl
theorem q51_0 : pj_row 51 0 = some (.iload_n 3, 1, 0, 0, 0) := by decide +kernel
theorem s51_0 {st : List Value} {M : pj_Mem} {l : pj_Loc} {a0 a1 a2 : Option Value} {x : Int32} : pj_step 51 (0, a0 :: a1 :: a2 :: some (.int x) :: l, st, M) = some (1, a0 :: a1 :: a2 :: some (.int x) :: l, .int x :: st, M) := st_iload_n q51_0 rfl
theorem x51_0 {st : List Value} {M : pj_Mem} {l : pj_Loc} {a0 a1 a2 : Option Value} {x : Int32} {o9 : Option Value × pj_Mem} : pj_Ends 51 (0, a0 :: a1 :: a2 :: some (.int x) :: l, st, M) o9 = pj_Ends 51 (1, a0 :: a1 :: a2 :: some (.int x) :: l, .int x :: st, M) o9 := pj_xs (s51_0)
theorem q51_1 : pj_row 51 1 = some (.iconst 5, 1, 0, 0, 0) := by decide +kernel
theorem s51_1 {L : pj_Loc} {st : List Value} {M : pj_Mem}  : pj_step 51 (1, L, st, M) = some (2, L, .int 5 :: st, M) := st_iconst q51_1 (by decide +kernel)
theorem x51_1 {L : pj_Loc} {st : List Value} {M : pj_Mem}  {o9 : Option Value × pj_Mem} : pj_Ends 51 (1, L, st, M) o9 = pj_Ends 51 (2, L, .int 5 :: st, M) o9 := pj_xs (s51_1)
theorem q51_2 : pj_row 51 2 = some (.invokestatic 25, 3, 40, 2, 0) := by decide +kernel
theorem e51_2 {L : pj_Loc} {st : List Value} {N S : Nat} {H : pj_Heap} {o : Option Value × pj_Mem} {M' : pj_Mem} {x0 : Int32} {x1 : Int32} {r : Int32} (h4 : pj_le4 st = true) (h1 : pj_Ends 40 (0, [some (.int x0), some (.int x1)], [], (N, S, H)) (some (.int r), M')) (h2 : pj_Ends 51 (5, L, .int r :: st, M') o) : pj_Ends 51 (2, L, .int x1 :: .int x0 :: st, (N, S, H)) o := ec_s2 q51_2 (Or.inl rfl) h4 rfl h1 h2
theorem q51_5 : pj_row 51 5 = some (.ifCond .ne 19, 3, 24, 0, 0) := by decide +kernel
theorem s51_5 {L : pj_Loc} {st : List Value} {M : pj_Mem} {x : Int32} : pj_step 51 (5, L, .int x :: st, M) = some (if ¬ x = 0 then 24 else 8, L, st, M) := st_if_ne q51_5
theorem x51_5 {L : pj_Loc} {st : List Value} {M : pj_Mem} {x : Int32} {o9 : Option Value × pj_Mem} : pj_Ends 51 (5, L, .int x :: st, M) o9 = pj_Ends 51 (if ¬ x = 0 then 24 else 8, L, st, M) o9 := pj_xs (s51_5)
theorem q51_8 : pj_row 51 8 = some (.iload_n 3, 1, 0, 0, 0) := by decide +kernel
theorem s51_8 {st : List Value} {M : pj_Mem} {l : pj_Loc} {a0 a1 a2 : Option Value} {x : Int32} : pj_step 51 (8, a0 :: a1 :: a2 :: some (.int x) :: l, st, M) = some (9, a0 :: a1 :: a2 :: some (.int x) :: l, .int x :: st, M) := st_iload_n q51_8 rfl
theorem x51_8 {st : List Value} {M : pj_Mem} {l : pj_Loc} {a0 a1 a2 : Option Value} {x : Int32} {o9 : Option Value × pj_Mem} : pj_Ends 51 (8, a0 :: a1 :: a2 :: some (.int x) :: l, st, M) o9 = pj_Ends 51 (9, a0 :: a1 :: a2 :: some (.int x) :: l, .int x :: st, M) o9 := pj_xs (s51_8)
theorem q51_9 : pj_row 51 9 = some (.iconst 3, 1, 0, 0, 0) := by decide +kernel
theorem s51_9 {L : pj_Loc} {st : List Value} {M : pj_Mem}  : pj_step 51 (9, L, st, M) = some (10, L, .int 3 :: st, M) := st_iconst q51_9 (by decide +kernel)
theorem x51_9 {L : pj_Loc} {st : List Value} {M : pj_Mem}  {o9 : Option Value × pj_Mem} : pj_Ends 51 (9, L, st, M) o9 = pj_Ends 51 (10, L, .int 3 :: st, M) o9 := pj_xs (s51_9)
theorem q51_10 : pj_row 51 10 = some (.ishr, 1, 0, 0, 0) := by decide +kernel
theorem s51_10 {L : pj_Loc} {st : List Value} {M : pj_Mem} {x y : Int32} : pj_step 51 (10, L, .int y :: .int x :: st, M) = some (11, L, .int (x >>> (y &&& 31)) :: st, M) := st_ishr q51_10
theorem x51_10 {L : pj_Loc} {st : List Value} {M : pj_Mem} {x y : Int32} {o9 : Option Value × pj_Mem} : pj_Ends 51 (10, L, .int y :: .int x :: st, M) o9 = pj_Ends 51 (11, L, .int (x >>> (y &&& 31)) :: st, M) o9 := pj_xs (s51_10)
theorem q51_11 : pj_row 51 11 = some (.sipush 1001, 3, 0, 0, 0) := by decide +kernel
theorem s51_11 {L : pj_Loc} {st : List Value} {M : pj_Mem}  : pj_step 51 (11, L, st, M) = some (14, L, .int 1001 :: st, M) := st_sipush q51_11 (by decide +kernel)
theorem x51_11 {L : pj_Loc} {st : List Value} {M : pj_Mem}  {o9 : Option Value × pj_Mem} : pj_Ends 51 (11, L, st, M) o9 = pj_Ends 51 (14, L, .int 1001 :: st, M) o9 := pj_xs (s51_11)
theorem q51_14 : pj_row 51 14 = some (.invokestatic 25, 3, 40, 2, 0) := by decide +kernel
theorem e51_14 {L : pj_Loc} {st : List Value} {N S : Nat} {H : pj_Heap} {o : Option Value × pj_Mem} {M' : pj_Mem} {x0 : Int32} {x1 : Int32} {r : Int32} (h4 : pj_le4 st = true) (h1 : pj_Ends 40 (0, [some (.int x0), some (.int x1)], [], (N, S, H)) (some (.int r), M')) (h2 : pj_Ends 51 (17, L, .int r :: st, M') o) : pj_Ends 51 (14, L, .int x1 :: .int x0 :: st, (N, S, H)) o := ec_s2 q51_14 (Or.inl rfl) h4 rfl h1 h2
theorem q51_17 : pj_row 51 17 = some (.sipush 500, 3, 0, 0, 0) := by decide +kernel
theorem s51_17 {L : pj_Loc} {st : List Value} {M : pj_Mem}  : pj_step 51 (17, L, st, M) = some (20, L, .int 500 :: st, M) := st_sipush q51_17 (by decide +kernel)
theorem x51_17 {L : pj_Loc} {st : List Value} {M : pj_Mem}  {o9 : Option Value × pj_Mem} : pj_Ends 51 (17, L, st, M) o9 = pj_Ends 51 (20, L, .int 500 :: st, M) o9 := pj_xs (s51_17)
theorem q51_20 : pj_row 51 20 = some (.isub, 1, 0, 0, 0) := by decide +kernel
theorem s51_20 {L : pj_Loc} {st : List Value} {M : pj_Mem} {x y : Int32} : pj_step 51 (20, L, .int y :: .int x :: st, M) = some (21, L, .int (x - y) :: st, M) := st_isub q51_20
theorem x51_20 {L : pj_Loc} {st : List Value} {M : pj_Mem} {x y : Int32} {o9 : Option Value × pj_Mem} : pj_Ends 51 (20, L, .int y :: .int x :: st, M) o9 = pj_Ends 51 (21, L, .int (x - y) :: st, M) o9 := pj_xs (s51_20)
theorem q51_21 : pj_row 51 21 = some (.goto 34, 3, 55, 0, 0) := by decide +kernel
theorem s51_21 {L : pj_Loc} {st : List Value} {M : pj_Mem}  : pj_step 51 (21, L, st, M) = some (55, L, st, M) := st_goto q51_21
theorem x51_21 {L : pj_Loc} {st : List Value} {M : pj_Mem}  {o9 : Option Value × pj_Mem} : pj_Ends 51 (21, L, st, M) o9 = pj_Ends 51 (55, L, st, M) o9 := pj_xs (s51_21)
theorem q51_24 : pj_row 51 24 = some (.iload_n 3, 1, 0, 0, 0) := by decide +kernel
theorem s51_24 {st : List Value} {M : pj_Mem} {l : pj_Loc} {a0 a1 a2 : Option Value} {x : Int32} : pj_step 51 (24, a0 :: a1 :: a2 :: some (.int x) :: l, st, M) = some (25, a0 :: a1 :: a2 :: some (.int x) :: l, .int x :: st, M) := st_iload_n q51_24 rfl
theorem x51_24 {st : List Value} {M : pj_Mem} {l : pj_Loc} {a0 a1 a2 : Option Value} {x : Int32} {o9 : Option Value × pj_Mem} : pj_Ends 51 (24, a0 :: a1 :: a2 :: some (.int x) :: l, st, M) o9 = pj_Ends 51 (25, a0 :: a1 :: a2 :: some (.int x) :: l, .int x :: st, M) o9 := pj_xs (s51_24)
theorem q51_25 : pj_row 51 25 = some (.iconst 3, 1, 0, 0, 0) := by decide +kernel
theorem s51_25 {L : pj_Loc} {st : List Value} {M : pj_Mem}  : pj_step 51 (25, L, st, M) = some (26, L, .int 3 :: st, M) := st_iconst q51_25 (by decide +kernel)
theorem x51_25 {L : pj_Loc} {st : List Value} {M : pj_Mem}  {o9 : Option Value × pj_Mem} : pj_Ends 51 (25, L, st, M) o9 = pj_Ends 51 (26, L, .int 3 :: st, M) o9 := pj_xs (s51_25)
theorem q51_26 : pj_row 51 26 = some (.ishr, 1, 0, 0, 0) := by decide +kernel
theorem s51_26 {L : pj_Loc} {st : List Value} {M : pj_Mem} {x y : Int32} : pj_step 51 (26, L, .int y :: .int x :: st, M) = some (27, L, .int (x >>> (y &&& 31)) :: st, M) := st_ishr q51_26
theorem x51_26 {L : pj_Loc} {st : List Value} {M : pj_Mem} {x y : Int32} {o9 : Option Value × pj_Mem} : pj_Ends 51 (26, L, .int y :: .int x :: st, M) o9 = pj_Ends 51 (27, L, .int (x >>> (y &&& 31)) :: st, M) o9 := pj_xs (s51_26)
theorem q51_27 : pj_row 51 27 = some (.iconst 4, 1, 0, 0, 0) := by decide +kernel
theorem s51_27 {L : pj_Loc} {st : List Value} {M : pj_Mem}  : pj_step 51 (27, L, st, M) = some (28, L, .int 4 :: st, M) := st_iconst q51_27 (by decide +kernel)
theorem x51_27 {L : pj_Loc} {st : List Value} {M : pj_Mem}  {o9 : Option Value × pj_Mem} : pj_Ends 51 (27, L, st, M) o9 = pj_Ends 51 (28, L, .int 4 :: st, M) o9 := pj_xs (s51_27)
theorem q51_28 : pj_row 51 28 = some (.invokestatic 25, 3, 40, 2, 0) := by decide +kernel
theorem e51_28 {L : pj_Loc} {st : List Value} {N S : Nat} {H : pj_Heap} {o : Option Value × pj_Mem} {M' : pj_Mem} {x0 : Int32} {x1 : Int32} {r : Int32} (h4 : pj_le4 st = true) (h1 : pj_Ends 40 (0, [some (.int x0), some (.int x1)], [], (N, S, H)) (some (.int r), M')) (h2 : pj_Ends 51 (31, L, .int r :: st, M') o) : pj_Ends 51 (28, L, .int x1 :: .int x0 :: st, (N, S, H)) o := ec_s2 q51_28 (Or.inl rfl) h4 rfl h1 h2
theorem q51_31 : pj_row 51 31 = some (.ifCond .ne 16, 3, 47, 0, 0) := by decide +kernel
theorem s51_31 {L : pj_Loc} {st : List Value} {M : pj_Mem} {x : Int32} : pj_step 51 (31, L, .int x :: st, M) = some (if ¬ x = 0 then 47 else 34, L, st, M) := st_if_ne q51_31
theorem x51_31 {L : pj_Loc} {st : List Value} {M : pj_Mem} {x : Int32} {o9 : Option Value × pj_Mem} : pj_Ends 51 (31, L, .int x :: st, M) o9 = pj_Ends 51 (if ¬ x = 0 then 47 else 34, L, st, M) o9 := pj_xs (s51_31)
theorem q51_34 : pj_row 51 34 = some (.iload_n 3, 1, 0, 0, 0) := by decide +kernel
theorem s51_34 {st : List Value} {M : pj_Mem} {l : pj_Loc} {a0 a1 a2 : Option Value} {x : Int32} : pj_step 51 (34, a0 :: a1 :: a2 :: some (.int x) :: l, st, M) = some (35, a0 :: a1 :: a2 :: some (.int x) :: l, .int x :: st, M) := st_iload_n q51_34 rfl
theorem x51_34 {st : List Value} {M : pj_Mem} {l : pj_Loc} {a0 a1 a2 : Option Value} {x : Int32} {o9 : Option Value × pj_Mem} : pj_Ends 51 (34, a0 :: a1 :: a2 :: some (.int x) :: l, st, M) o9 = pj_Ends 51 (35, a0 :: a1 :: a2 :: some (.int x) :: l, .int x :: st, M) o9 := pj_xs (s51_34)
theorem q51_35 : pj_row 51 35 = some (.iconst 5, 1, 0, 0, 0) := by decide +kernel
theorem s51_35 {L : pj_Loc} {st : List Value} {M : pj_Mem}  : pj_step 51 (35, L, st, M) = some (36, L, .int 5 :: st, M) := st_iconst q51_35 (by decide +kernel)
theorem x51_35 {L : pj_Loc} {st : List Value} {M : pj_Mem}  {o9 : Option Value × pj_Mem} : pj_Ends 51 (35, L, st, M) o9 = pj_Ends 51 (36, L, .int 5 :: st, M) o9 := pj_xs (s51_35)
theorem q51_36 : pj_row 51 36 = some (.ishr, 1, 0, 0, 0) := by decide +kernel
theorem s51_36 {L : pj_Loc} {st : List Value} {M : pj_Mem} {x y : Int32} : pj_step 51 (36, L, .int y :: .int x :: st, M) = some (37, L, .int (x >>> (y &&& 31)) :: st, M) := st_ishr q51_36
theorem x51_36 {L : pj_Loc} {st : List Value} {M : pj_Mem} {x y : Int32} {o9 : Option Value × pj_Mem} : pj_Ends 51 (36, L, .int y :: .int x :: st, M) o9 = pj_Ends 51 (37, L, .int (x >>> (y &&& 31)) :: st, M) o9 := pj_xs (s51_36)
theorem q51_37 : pj_row 51 37 = some (.bipush 7, 2, 0, 0, 0) := by decide +kernel
theorem s51_37 {L : pj_Loc} {st : List Value} {M : pj_Mem}  : pj_step 51 (37, L, st, M) = some (39, L, .int 7 :: st, M) := st_bipush q51_37 (by decide +kernel)
theorem x51_37 {L : pj_Loc} {st : List Value} {M : pj_Mem}  {o9 : Option Value × pj_Mem} : pj_Ends 51 (37, L, st, M) o9 = pj_Ends 51 (39, L, .int 7 :: st, M) o9 := pj_xs (s51_37)
theorem q51_39 : pj_row 51 39 = some (.invokestatic 25, 3, 40, 2, 0) := by decide +kernel
theorem e51_39 {L : pj_Loc} {st : List Value} {N S : Nat} {H : pj_Heap} {o : Option Value × pj_Mem} {M' : pj_Mem} {x0 : Int32} {x1 : Int32} {r : Int32} (h4 : pj_le4 st = true) (h1 : pj_Ends 40 (0, [some (.int x0), some (.int x1)], [], (N, S, H)) (some (.int r), M')) (h2 : pj_Ends 51 (42, L, .int r :: st, M') o) : pj_Ends 51 (39, L, .int x1 :: .int x0 :: st, (N, S, H)) o := ec_s2 q51_39 (Or.inl rfl) h4 rfl h1 h2
theorem q51_42 : pj_row 51 42 = some (.iconst 3, 1, 0, 0, 0) := by decide +kernel
theorem s51_42 {L : pj_Loc} {st : List Value} {M : pj_Mem}  : pj_step 51 (42, L, st, M) = some (43, L, .int 3 :: st, M) := st_iconst q51_42 (by decide +kernel)
theorem x51_42 {L : pj_Loc} {st : List Value} {M : pj_Mem}  {o9 : Option Value × pj_Mem} : pj_Ends 51 (42, L, st, M) o9 = pj_Ends 51 (43, L, .int 3 :: st, M) o9 := pj_xs (s51_42)
theorem q51_43 : pj_row 51 43 = some (.isub, 1, 0, 0, 0) := by decide +kernel
theorem s51_43 {L : pj_Loc} {st : List Value} {M : pj_Mem} {x y : Int32} : pj_step 51 (43, L, .int y :: .int x :: st, M) = some (44, L, .int (x - y) :: st, M) := st_isub q51_43
theorem x51_43 {L : pj_Loc} {st : List Value} {M : pj_Mem} {x y : Int32} {o9 : Option Value × pj_Mem} : pj_Ends 51 (43, L, .int y :: .int x :: st, M) o9 = pj_Ends 51 (44, L, .int (x - y) :: st, M) o9 := pj_xs (s51_43)
theorem q51_44 : pj_row 51 44 = some (.goto 11, 3, 55, 0, 0) := by decide +kernel
theorem s51_44 {L : pj_Loc} {st : List Value} {M : pj_Mem}  : pj_step 51 (44, L, st, M) = some (55, L, st, M) := st_goto q51_44
theorem x51_44 {L : pj_Loc} {st : List Value} {M : pj_Mem}  {o9 : Option Value × pj_Mem} : pj_Ends 51 (44, L, st, M) o9 = pj_Ends 51 (55, L, st, M) o9 := pj_xs (s51_44)
theorem q51_47 : pj_row 51 47 = some (.iload_n 3, 1, 0, 0, 0) := by decide +kernel
theorem s51_47 {st : List Value} {M : pj_Mem} {l : pj_Loc} {a0 a1 a2 : Option Value} {x : Int32} : pj_step 51 (47, a0 :: a1 :: a2 :: some (.int x) :: l, st, M) = some (48, a0 :: a1 :: a2 :: some (.int x) :: l, .int x :: st, M) := st_iload_n q51_47 rfl
theorem x51_47 {st : List Value} {M : pj_Mem} {l : pj_Loc} {a0 a1 a2 : Option Value} {x : Int32} {o9 : Option Value × pj_Mem} : pj_Ends 51 (47, a0 :: a1 :: a2 :: some (.int x) :: l, st, M) o9 = pj_Ends 51 (48, a0 :: a1 :: a2 :: some (.int x) :: l, .int x :: st, M) o9 := pj_xs (s51_47)
theorem q51_48 : pj_row 51 48 = some (.iconst 5, 1, 0, 0, 0) := by decide +kernel
theorem s51_48 {L : pj_Loc} {st : List Value} {M : pj_Mem}  : pj_step 51 (48, L, st, M) = some (49, L, .int 5 :: st, M) := st_iconst q51_48 (by decide +kernel)
theorem x51_48 {L : pj_Loc} {st : List Value} {M : pj_Mem}  {o9 : Option Value × pj_Mem} : pj_Ends 51 (48, L, st, M) o9 = pj_Ends 51 (49, L, .int 5 :: st, M) o9 := pj_xs (s51_48)
theorem q51_49 : pj_row 51 49 = some (.ishr, 1, 0, 0, 0) := by decide +kernel
theorem s51_49 {L : pj_Loc} {st : List Value} {M : pj_Mem} {x y : Int32} : pj_step 51 (49, L, .int y :: .int x :: st, M) = some (50, L, .int (x >>> (y &&& 31)) :: st, M) := st_ishr q51_49
theorem x51_49 {L : pj_Loc} {st : List Value} {M : pj_Mem} {x y : Int32} {o9 : Option Value × pj_Mem} : pj_Ends 51 (49, L, .int y :: .int x :: st, M) o9 = pj_Ends 51 (50, L, .int (x >>> (y &&& 31)) :: st, M) o9 := pj_xs (s51_49)
theorem q51_50 : pj_row 51 50 = some (.bipush 80, 2, 0, 0, 0) := by decide +kernel
theorem s51_50 {L : pj_Loc} {st : List Value} {M : pj_Mem}  : pj_step 51 (50, L, st, M) = some (52, L, .int 80 :: st, M) := st_bipush q51_50 (by decide +kernel)
theorem x51_50 {L : pj_Loc} {st : List Value} {M : pj_Mem}  {o9 : Option Value × pj_Mem} : pj_Ends 51 (50, L, st, M) o9 = pj_Ends 51 (52, L, .int 80 :: st, M) o9 := pj_xs (s51_50)
theorem q51_52 : pj_row 51 52 = some (.invokestatic 25, 3, 40, 2, 0) := by decide +kernel
theorem e51_52 {L : pj_Loc} {st : List Value} {N S : Nat} {H : pj_Heap} {o : Option Value × pj_Mem} {M' : pj_Mem} {x0 : Int32} {x1 : Int32} {r : Int32} (h4 : pj_le4 st = true) (h1 : pj_Ends 40 (0, [some (.int x0), some (.int x1)], [], (N, S, H)) (some (.int r), M')) (h2 : pj_Ends 51 (55, L, .int r :: st, M') o) : pj_Ends 51 (52, L, .int x1 :: .int x0 :: st, (N, S, H)) o := ec_s2 q51_52 (Or.inl rfl) h4 rfl h1 h2
theorem q51_55 : pj_row 51 55 = some (.istore 4, 2, 0, 0, 0) := by decide +kernel
theorem s51_55 {st : List Value} {M : pj_Mem} {l : pj_Loc} {a0 a1 a2 a3 a4 : Option Value} {x : Int32} (h : pj_long a3 = false) : pj_step 51 (55, a0 :: a1 :: a2 :: a3 :: a4 :: l, .int x :: st, M) = some (57, a0 :: a1 :: a2 :: a3 :: some (.int x) :: l, st, M) := st_istore q51_55 (pj_st_4 h)
theorem x51_55 {st : List Value} {M : pj_Mem} {l : pj_Loc} {a0 a1 a2 a3 a4 : Option Value} {x : Int32} (h : pj_long a3 = false) {o9 : Option Value × pj_Mem} : pj_Ends 51 (55, a0 :: a1 :: a2 :: a3 :: a4 :: l, .int x :: st, M) o9 = pj_Ends 51 (57, a0 :: a1 :: a2 :: a3 :: some (.int x) :: l, st, M) o9 := pj_xs (s51_55 h)
theorem q51_57 : pj_row 51 57 = some (.iload_n 3, 1, 0, 0, 0) := by decide +kernel
theorem s51_57 {st : List Value} {M : pj_Mem} {l : pj_Loc} {a0 a1 a2 : Option Value} {x : Int32} : pj_step 51 (57, a0 :: a1 :: a2 :: some (.int x) :: l, st, M) = some (58, a0 :: a1 :: a2 :: some (.int x) :: l, .int x :: st, M) := st_iload_n q51_57 rfl
theorem x51_57 {st : List Value} {M : pj_Mem} {l : pj_Loc} {a0 a1 a2 : Option Value} {x : Int32} {o9 : Option Value × pj_Mem} : pj_Ends 51 (57, a0 :: a1 :: a2 :: some (.int x) :: l, st, M) o9 = pj_Ends 51 (58, a0 :: a1 :: a2 :: some (.int x) :: l, .int x :: st, M) o9 := pj_xs (s51_57)
theorem q51_58 : pj_row 51 58 = some (.bipush 12, 2, 0, 0, 0) := by decide +kernel
theorem s51_58 {L : pj_Loc} {st : List Value} {M : pj_Mem}  : pj_step 51 (58, L, st, M) = some (60, L, .int 12 :: st, M) := st_bipush q51_58 (by decide +kernel)
theorem x51_58 {L : pj_Loc} {st : List Value} {M : pj_Mem}  {o9 : Option Value × pj_Mem} : pj_Ends 51 (58, L, st, M) o9 = pj_Ends 51 (60, L, .int 12 :: st, M) o9 := pj_xs (s51_58)
theorem q51_60 : pj_row 51 60 = some (.ishr, 1, 0, 0, 0) := by decide +kernel
theorem s51_60 {L : pj_Loc} {st : List Value} {M : pj_Mem} {x y : Int32} : pj_step 51 (60, L, .int y :: .int x :: st, M) = some (61, L, .int (x >>> (y &&& 31)) :: st, M) := st_ishr q51_60
theorem x51_60 {L : pj_Loc} {st : List Value} {M : pj_Mem} {x y : Int32} {o9 : Option Value × pj_Mem} : pj_Ends 51 (60, L, .int y :: .int x :: st, M) o9 = pj_Ends 51 (61, L, .int (x >>> (y &&& 31)) :: st, M) o9 := pj_xs (s51_60)
theorem q51_61 : pj_row 51 61 = some (.bipush 9, 2, 0, 0, 0) := by decide +kernel
theorem s51_61 {L : pj_Loc} {st : List Value} {M : pj_Mem}  : pj_step 51 (61, L, st, M) = some (63, L, .int 9 :: st, M) := st_bipush q51_61 (by decide +kernel)
theorem x51_61 {L : pj_Loc} {st : List Value} {M : pj_Mem}  {o9 : Option Value × pj_Mem} : pj_Ends 51 (61, L, st, M) o9 = pj_Ends 51 (63, L, .int 9 :: st, M) o9 := pj_xs (s51_61)
theorem q51_63 : pj_row 51 63 = some (.invokestatic 25, 3, 40, 2, 0) := by decide +kernel
theorem e51_63 {L : pj_Loc} {st : List Value} {N S : Nat} {H : pj_Heap} {o : Option Value × pj_Mem} {M' : pj_Mem} {x0 : Int32} {x1 : Int32} {r : Int32} (h4 : pj_le4 st = true) (h1 : pj_Ends 40 (0, [some (.int x0), some (.int x1)], [], (N, S, H)) (some (.int r), M')) (h2 : pj_Ends 51 (66, L, .int r :: st, M') o) : pj_Ends 51 (63, L, .int x1 :: .int x0 :: st, (N, S, H)) o := ec_s2 q51_63 (Or.inl rfl) h4 rfl h1 h2
theorem q51_66 : pj_row 51 66 = some (.ifCond .ne 16, 3, 82, 0, 0) := by decide +kernel
theorem s51_66 {L : pj_Loc} {st : List Value} {M : pj_Mem} {x : Int32} : pj_step 51 (66, L, .int x :: st, M) = some (if ¬ x = 0 then 82 else 69, L, st, M) := st_if_ne q51_66
theorem x51_66 {L : pj_Loc} {st : List Value} {M : pj_Mem} {x : Int32} {o9 : Option Value × pj_Mem} : pj_Ends 51 (66, L, .int x :: st, M) o9 = pj_Ends 51 (if ¬ x = 0 then 82 else 69, L, st, M) o9 := pj_xs (s51_66)
theorem q51_69 : pj_row 51 69 = some (.iload_n 3, 1, 0, 0, 0) := by decide +kernel
theorem s51_69 {st : List Value} {M : pj_Mem} {l : pj_Loc} {a0 a1 a2 : Option Value} {x : Int32} : pj_step 51 (69, a0 :: a1 :: a2 :: some (.int x) :: l, st, M) = some (70, a0 :: a1 :: a2 :: some (.int x) :: l, .int x :: st, M) := st_iload_n q51_69 rfl
theorem x51_69 {st : List Value} {M : pj_Mem} {l : pj_Loc} {a0 a1 a2 : Option Value} {x : Int32} {o9 : Option Value × pj_Mem} : pj_Ends 51 (69, a0 :: a1 :: a2 :: some (.int x) :: l, st, M) o9 = pj_Ends 51 (70, a0 :: a1 :: a2 :: some (.int x) :: l, .int x :: st, M) o9 := pj_xs (s51_69)
theorem q51_70 : pj_row 51 70 = some (.bipush 15, 2, 0, 0, 0) := by decide +kernel
theorem s51_70 {L : pj_Loc} {st : List Value} {M : pj_Mem}  : pj_step 51 (70, L, st, M) = some (72, L, .int 15 :: st, M) := st_bipush q51_70 (by decide +kernel)
theorem x51_70 {L : pj_Loc} {st : List Value} {M : pj_Mem}  {o9 : Option Value × pj_Mem} : pj_Ends 51 (70, L, st, M) o9 = pj_Ends 51 (72, L, .int 15 :: st, M) o9 := pj_xs (s51_70)
theorem q51_72 : pj_row 51 72 = some (.ishr, 1, 0, 0, 0) := by decide +kernel
theorem s51_72 {L : pj_Loc} {st : List Value} {M : pj_Mem} {x y : Int32} : pj_step 51 (72, L, .int y :: .int x :: st, M) = some (73, L, .int (x >>> (y &&& 31)) :: st, M) := st_ishr q51_72
theorem x51_72 {L : pj_Loc} {st : List Value} {M : pj_Mem} {x y : Int32} {o9 : Option Value × pj_Mem} : pj_Ends 51 (72, L, .int y :: .int x :: st, M) o9 = pj_Ends 51 (73, L, .int (x >>> (y &&& 31)) :: st, M) o9 := pj_xs (s51_72)
theorem q51_73 : pj_row 51 73 = some (.sipush 501, 3, 0, 0, 0) := by decide +kernel
theorem s51_73 {L : pj_Loc} {st : List Value} {M : pj_Mem}  : pj_step 51 (73, L, st, M) = some (76, L, .int 501 :: st, M) := st_sipush q51_73 (by decide +kernel)
theorem x51_73 {L : pj_Loc} {st : List Value} {M : pj_Mem}  {o9 : Option Value × pj_Mem} : pj_Ends 51 (73, L, st, M) o9 = pj_Ends 51 (76, L, .int 501 :: st, M) o9 := pj_xs (s51_73)
theorem q51_76 : pj_row 51 76 = some (.invokestatic 25, 3, 40, 2, 0) := by decide +kernel
theorem e51_76 {L : pj_Loc} {st : List Value} {N S : Nat} {H : pj_Heap} {o : Option Value × pj_Mem} {M' : pj_Mem} {x0 : Int32} {x1 : Int32} {r : Int32} (h4 : pj_le4 st = true) (h1 : pj_Ends 40 (0, [some (.int x0), some (.int x1)], [], (N, S, H)) (some (.int r), M')) (h2 : pj_Ends 51 (79, L, .int r :: st, M') o) : pj_Ends 51 (76, L, .int x1 :: .int x0 :: st, (N, S, H)) o := ec_s2 q51_76 (Or.inl rfl) h4 rfl h1 h2
theorem q51_79 : pj_row 51 79 = some (.goto 26, 3, 105, 0, 0) := by decide +kernel
theorem s51_79 {L : pj_Loc} {st : List Value} {M : pj_Mem}  : pj_step 51 (79, L, st, M) = some (105, L, st, M) := st_goto q51_79
theorem x51_79 {L : pj_Loc} {st : List Value} {M : pj_Mem}  {o9 : Option Value × pj_Mem} : pj_Ends 51 (79, L, st, M) o9 = pj_Ends 51 (105, L, st, M) o9 := pj_xs (s51_79)
theorem q51_82 : pj_row 51 82 = some (.iload 4, 2, 0, 0, 0) := by decide +kernel
theorem s51_82 {st : List Value} {M : pj_Mem} {l : pj_Loc} {a0 a1 a2 a3 : Option Value} {x : Int32} : pj_step 51 (82, a0 :: a1 :: a2 :: a3 :: some (.int x) :: l, st, M) = some (84, a0 :: a1 :: a2 :: a3 :: some (.int x) :: l, .int x :: st, M) := st_iload q51_82 rfl
theorem x51_82 {st : List Value} {M : pj_Mem} {l : pj_Loc} {a0 a1 a2 a3 : Option Value} {x : Int32} {o9 : Option Value × pj_Mem} : pj_Ends 51 (82, a0 :: a1 :: a2 :: a3 :: some (.int x) :: l, st, M) o9 = pj_Ends 51 (84, a0 :: a1 :: a2 :: a3 :: some (.int x) :: l, .int x :: st, M) o9 := pj_xs (s51_82)
theorem q51_84 : pj_row 51 84 = some (.iload 4, 2, 0, 0, 0) := by decide +kernel
theorem s51_84 {st : List Value} {M : pj_Mem} {l : pj_Loc} {a0 a1 a2 a3 : Option Value} {x : Int32} : pj_step 51 (84, a0 :: a1 :: a2 :: a3 :: some (.int x) :: l, st, M) = some (86, a0 :: a1 :: a2 :: a3 :: some (.int x) :: l, .int x :: st, M) := st_iload q51_84 rfl
theorem x51_84 {st : List Value} {M : pj_Mem} {l : pj_Loc} {a0 a1 a2 a3 : Option Value} {x : Int32} {o9 : Option Value × pj_Mem} : pj_Ends 51 (84, a0 :: a1 :: a2 :: a3 :: some (.int x) :: l, st, M) o9 = pj_Ends 51 (86, a0 :: a1 :: a2 :: a3 :: some (.int x) :: l, .int x :: st, M) o9 := pj_xs (s51_84)
theorem q51_86 : pj_row 51 86 = some (.sipush 500, 3, 0, 0, 0) := by decide +kernel
theorem s51_86 {L : pj_Loc} {st : List Value} {M : pj_Mem}  : pj_step 51 (86, L, st, M) = some (89, L, .int 500 :: st, M) := st_sipush q51_86 (by decide +kernel)
theorem x51_86 {L : pj_Loc} {st : List Value} {M : pj_Mem}  {o9 : Option Value × pj_Mem} : pj_Ends 51 (86, L, st, M) o9 = pj_Ends 51 (89, L, .int 500 :: st, M) o9 := pj_xs (s51_86)
theorem q51_89 : pj_row 51 89 = some (.if_icmp .ge 14, 3, 103, 0, 0) := by decide +kernel
theorem s51_89 {L : pj_Loc} {st : List Value} {M : pj_Mem} {x y : Int32} : pj_step 51 (89, L, .int y :: .int x :: st, M) = some (if y ≤ x then 103 else 92, L, st, M) := st_icmp_ge q51_89
theorem x51_89 {L : pj_Loc} {st : List Value} {M : pj_Mem} {x y : Int32} {o9 : Option Value × pj_Mem} : pj_Ends 51 (89, L, .int y :: .int x :: st, M) o9 = pj_Ends 51 (if y ≤ x then 103 else 92, L, st, M) o9 := pj_xs (s51_89)
theorem q51_92 : pj_row 51 92 = some (.iload_n 3, 1, 0, 0, 0) := by decide +kernel
theorem s51_92 {st : List Value} {M : pj_Mem} {l : pj_Loc} {a0 a1 a2 : Option Value} {x : Int32} : pj_step 51 (92, a0 :: a1 :: a2 :: some (.int x) :: l, st, M) = some (93, a0 :: a1 :: a2 :: some (.int x) :: l, .int x :: st, M) := st_iload_n q51_92 rfl
theorem x51_92 {st : List Value} {M : pj_Mem} {l : pj_Loc} {a0 a1 a2 : Option Value} {x : Int32} {o9 : Option Value × pj_Mem} : pj_Ends 51 (92, a0 :: a1 :: a2 :: some (.int x) :: l, st, M) o9 = pj_Ends 51 (93, a0 :: a1 :: a2 :: some (.int x) :: l, .int x :: st, M) o9 := pj_xs (s51_92)
theorem q51_93 : pj_row 51 93 = some (.bipush 15, 2, 0, 0, 0) := by decide +kernel
theorem s51_93 {L : pj_Loc} {st : List Value} {M : pj_Mem}  : pj_step 51 (93, L, st, M) = some (95, L, .int 15 :: st, M) := st_bipush q51_93 (by decide +kernel)
theorem x51_93 {L : pj_Loc} {st : List Value} {M : pj_Mem}  {o9 : Option Value × pj_Mem} : pj_Ends 51 (93, L, st, M) o9 = pj_Ends 51 (95, L, .int 15 :: st, M) o9 := pj_xs (s51_93)
theorem q51_95 : pj_row 51 95 = some (.ishr, 1, 0, 0, 0) := by decide +kernel
theorem s51_95 {L : pj_Loc} {st : List Value} {M : pj_Mem} {x y : Int32} : pj_step 51 (95, L, .int y :: .int x :: st, M) = some (96, L, .int (x >>> (y &&& 31)) :: st, M) := st_ishr q51_95
theorem x51_95 {L : pj_Loc} {st : List Value} {M : pj_Mem} {x y : Int32} {o9 : Option Value × pj_Mem} : pj_Ends 51 (95, L, .int y :: .int x :: st, M) o9 = pj_Ends 51 (96, L, .int (x >>> (y &&& 31)) :: st, M) o9 := pj_xs (s51_95)
theorem q51_96 : pj_row 51 96 = some (.iconst 2, 1, 0, 0, 0) := by decide +kernel
theorem s51_96 {L : pj_Loc} {st : List Value} {M : pj_Mem}  : pj_step 51 (96, L, st, M) = some (97, L, .int 2 :: st, M) := st_iconst q51_96 (by decide +kernel)
theorem x51_96 {L : pj_Loc} {st : List Value} {M : pj_Mem}  {o9 : Option Value × pj_Mem} : pj_Ends 51 (96, L, st, M) o9 = pj_Ends 51 (97, L, .int 2 :: st, M) o9 := pj_xs (s51_96)
theorem q51_97 : pj_row 51 97 = some (.invokestatic 25, 3, 40, 2, 0) := by decide +kernel
theorem e51_97 {L : pj_Loc} {st : List Value} {N S : Nat} {H : pj_Heap} {o : Option Value × pj_Mem} {M' : pj_Mem} {x0 : Int32} {x1 : Int32} {r : Int32} (h4 : pj_le4 st = true) (h1 : pj_Ends 40 (0, [some (.int x0), some (.int x1)], [], (N, S, H)) (some (.int r), M')) (h2 : pj_Ends 51 (100, L, .int r :: st, M') o) : pj_Ends 51 (97, L, .int x1 :: .int x0 :: st, (N, S, H)) o := ec_s2 q51_97 (Or.inl rfl) h4 rfl h1 h2
theorem q51_100 : pj_row 51 100 = some (.goto 4, 3, 104, 0, 0) := by decide +kernel
theorem s51_100 {L : pj_Loc} {st : List Value} {M : pj_Mem}  : pj_step 51 (100, L, st, M) = some (104, L, st, M) := st_goto q51_100
theorem x51_100 {L : pj_Loc} {st : List Value} {M : pj_Mem}  {o9 : Option Value × pj_Mem} : pj_Ends 51 (100, L, st, M) o9 = pj_Ends 51 (104, L, st, M) o9 := pj_xs (s51_100)
theorem q51_103 : pj_row 51 103 = some (.iconst 0, 1, 0, 0, 0) := by decide +kernel
theorem s51_103 {L : pj_Loc} {st : List Value} {M : pj_Mem}  : pj_step 51 (103, L, st, M) = some (104, L, .int 0 :: st, M) := st_iconst q51_103 (by decide +kernel)
theorem x51_103 {L : pj_Loc} {st : List Value} {M : pj_Mem}  {o9 : Option Value × pj_Mem} : pj_Ends 51 (103, L, st, M) o9 = pj_Ends 51 (104, L, .int 0 :: st, M) o9 := pj_xs (s51_103)
theorem q51_104 : pj_row 51 104 = some (.iadd, 1, 0, 0, 0) := by decide +kernel
theorem s51_104 {L : pj_Loc} {st : List Value} {M : pj_Mem} {x y : Int32} : pj_step 51 (104, L, .int y :: .int x :: st, M) = some (105, L, .int (x + y) :: st, M) := st_iadd q51_104
theorem x51_104 {L : pj_Loc} {st : List Value} {M : pj_Mem} {x y : Int32} {o9 : Option Value × pj_Mem} : pj_Ends 51 (104, L, .int y :: .int x :: st, M) o9 = pj_Ends 51 (105, L, .int (x + y) :: st, M) o9 := pj_xs (s51_104)
theorem q51_105 : pj_row 51 105 = some (.istore 5, 2, 0, 0, 0) := by decide +kernel
theorem s51_105 {st : List Value} {M : pj_Mem} {l : pj_Loc} {a0 a1 a2 a3 a4 a5 : Option Value} {x : Int32} (h : pj_long a4 = false) : pj_step 51 (105, a0 :: a1 :: a2 :: a3 :: a4 :: a5 :: l, .int x :: st, M) = some (107, a0 :: a1 :: a2 :: a3 :: a4 :: some (.int x) :: l, st, M) := st_istore q51_105 (pj_st_5 h)
theorem x51_105 {st : List Value} {M : pj_Mem} {l : pj_Loc} {a0 a1 a2 a3 a4 a5 : Option Value} {x : Int32} (h : pj_long a4 = false) {o9 : Option Value × pj_Mem} : pj_Ends 51 (105, a0 :: a1 :: a2 :: a3 :: a4 :: a5 :: l, .int x :: st, M) o9 = pj_Ends 51 (107, a0 :: a1 :: a2 :: a3 :: a4 :: some (.int x) :: l, st, M) o9 := pj_xs (s51_105 h)
theorem q51_107 : pj_row 51 107 = some (.iload_n 3, 1, 0, 0, 0) := by decide +kernel
theorem s51_107 {st : List Value} {M : pj_Mem} {l : pj_Loc} {a0 a1 a2 : Option Value} {x : Int32} : pj_step 51 (107, a0 :: a1 :: a2 :: some (.int x) :: l, st, M) = some (108, a0 :: a1 :: a2 :: some (.int x) :: l, .int x :: st, M) := st_iload_n q51_107 rfl
theorem x51_107 {st : List Value} {M : pj_Mem} {l : pj_Loc} {a0 a1 a2 : Option Value} {x : Int32} {o9 : Option Value × pj_Mem} : pj_Ends 51 (107, a0 :: a1 :: a2 :: some (.int x) :: l, st, M) o9 = pj_Ends 51 (108, a0 :: a1 :: a2 :: some (.int x) :: l, .int x :: st, M) o9 := pj_xs (s51_107)
theorem q51_108 : pj_row 51 108 = some (.bipush 18, 2, 0, 0, 0) := by decide +kernel
theorem s51_108 {L : pj_Loc} {st : List Value} {M : pj_Mem}  : pj_step 51 (108, L, st, M) = some (110, L, .int 18 :: st, M) := st_bipush q51_108 (by decide +kernel)
theorem x51_108 {L : pj_Loc} {st : List Value} {M : pj_Mem}  {o9 : Option Value × pj_Mem} : pj_Ends 51 (108, L, st, M) o9 = pj_Ends 51 (110, L, .int 18 :: st, M) o9 := pj_xs (s51_108)
theorem q51_110 : pj_row 51 110 = some (.ishr, 1, 0, 0, 0) := by decide +kernel
theorem s51_110 {L : pj_Loc} {st : List Value} {M : pj_Mem} {x y : Int32} : pj_step 51 (110, L, .int y :: .int x :: st, M) = some (111, L, .int (x >>> (y &&& 31)) :: st, M) := st_ishr q51_110
theorem x51_110 {L : pj_Loc} {st : List Value} {M : pj_Mem} {x y : Int32} {o9 : Option Value × pj_Mem} : pj_Ends 51 (110, L, .int y :: .int x :: st, M) o9 = pj_Ends 51 (111, L, .int (x >>> (y &&& 31)) :: st, M) o9 := pj_xs (s51_110)
theorem q51_111 : pj_row 51 111 = some (.bipush 9, 2, 0, 0, 0) := by decide +kernel
theorem s51_111 {L : pj_Loc} {st : List Value} {M : pj_Mem}  : pj_step 51 (111, L, st, M) = some (113, L, .int 9 :: st, M) := st_bipush q51_111 (by decide +kernel)
theorem x51_111 {L : pj_Loc} {st : List Value} {M : pj_Mem}  {o9 : Option Value × pj_Mem} : pj_Ends 51 (111, L, st, M) o9 = pj_Ends 51 (113, L, .int 9 :: st, M) o9 := pj_xs (s51_111)
theorem q51_113 : pj_row 51 113 = some (.invokestatic 25, 3, 40, 2, 0) := by decide +kernel
theorem e51_113 {L : pj_Loc} {st : List Value} {N S : Nat} {H : pj_Heap} {o : Option Value × pj_Mem} {M' : pj_Mem} {x0 : Int32} {x1 : Int32} {r : Int32} (h4 : pj_le4 st = true) (h1 : pj_Ends 40 (0, [some (.int x0), some (.int x1)], [], (N, S, H)) (some (.int r), M')) (h2 : pj_Ends 51 (116, L, .int r :: st, M') o) : pj_Ends 51 (113, L, .int x1 :: .int x0 :: st, (N, S, H)) o := ec_s2 q51_113 (Or.inl rfl) h4 rfl h1 h2
theorem q51_116 : pj_row 51 116 = some (.ifCond .ne 9, 3, 125, 0, 0) := by decide +kernel
theorem s51_116 {L : pj_Loc} {st : List Value} {M : pj_Mem} {x : Int32} : pj_step 51 (116, L, .int x :: st, M) = some (if ¬ x = 0 then 125 else 119, L, st, M) := st_if_ne q51_116
theorem x51_116 {L : pj_Loc} {st : List Value} {M : pj_Mem} {x : Int32} {o9 : Option Value × pj_Mem} : pj_Ends 51 (116, L, .int x :: st, M) o9 = pj_Ends 51 (if ¬ x = 0 then 125 else 119, L, st, M) o9 := pj_xs (s51_116)
theorem q51_119 : pj_row 51 119 = some (.iload 4, 2, 0, 0, 0) := by decide +kernel
theorem s51_119 {st : List Value} {M : pj_Mem} {l : pj_Loc} {a0 a1 a2 a3 : Option Value} {x : Int32} : pj_step 51 (119, a0 :: a1 :: a2 :: a3 :: some (.int x) :: l, st, M) = some (121, a0 :: a1 :: a2 :: a3 :: some (.int x) :: l, .int x :: st, M) := st_iload q51_119 rfl
theorem x51_119 {st : List Value} {M : pj_Mem} {l : pj_Loc} {a0 a1 a2 a3 : Option Value} {x : Int32} {o9 : Option Value × pj_Mem} : pj_Ends 51 (119, a0 :: a1 :: a2 :: a3 :: some (.int x) :: l, st, M) o9 = pj_Ends 51 (121, a0 :: a1 :: a2 :: a3 :: some (.int x) :: l, .int x :: st, M) o9 := pj_xs (s51_119)
theorem q51_121 : pj_row 51 121 = some (.ineg, 1, 0, 0, 0) := by decide +kernel
theorem s51_121 {L : pj_Loc} {st : List Value} {M : pj_Mem} {x : Int32} : pj_step 51 (121, L, .int x :: st, M) = some (122, L, .int (-x) :: st, M) := st_ineg q51_121
theorem x51_121 {L : pj_Loc} {st : List Value} {M : pj_Mem} {x : Int32} {o9 : Option Value × pj_Mem} : pj_Ends 51 (121, L, .int x :: st, M) o9 = pj_Ends 51 (122, L, .int (-x) :: st, M) o9 := pj_xs (s51_121)
theorem q51_122 : pj_row 51 122 = some (.goto 26, 3, 148, 0, 0) := by decide +kernel
theorem s51_122 {L : pj_Loc} {st : List Value} {M : pj_Mem}  : pj_step 51 (122, L, st, M) = some (148, L, st, M) := st_goto q51_122
theorem x51_122 {L : pj_Loc} {st : List Value} {M : pj_Mem}  {o9 : Option Value × pj_Mem} : pj_Ends 51 (122, L, st, M) o9 = pj_Ends 51 (148, L, st, M) o9 := pj_xs (s51_122)
theorem q51_125 : pj_row 51 125 = some (.iload 4, 2, 0, 0, 0) := by decide +kernel
theorem s51_125 {st : List Value} {M : pj_Mem} {l : pj_Loc} {a0 a1 a2 a3 : Option Value} {x : Int32} : pj_step 51 (125, a0 :: a1 :: a2 :: a3 :: some (.int x) :: l, st, M) = some (127, a0 :: a1 :: a2 :: a3 :: some (.int x) :: l, .int x :: st, M) := st_iload q51_125 rfl
theorem x51_125 {st : List Value} {M : pj_Mem} {l : pj_Loc} {a0 a1 a2 a3 : Option Value} {x : Int32} {o9 : Option Value × pj_Mem} : pj_Ends 51 (125, a0 :: a1 :: a2 :: a3 :: some (.int x) :: l, st, M) o9 = pj_Ends 51 (127, a0 :: a1 :: a2 :: a3 :: some (.int x) :: l, .int x :: st, M) o9 := pj_xs (s51_125)
theorem q51_127 : pj_row 51 127 = some (.iload 4, 2, 0, 0, 0) := by decide +kernel
theorem s51_127 {st : List Value} {M : pj_Mem} {l : pj_Loc} {a0 a1 a2 a3 : Option Value} {x : Int32} : pj_step 51 (127, a0 :: a1 :: a2 :: a3 :: some (.int x) :: l, st, M) = some (129, a0 :: a1 :: a2 :: a3 :: some (.int x) :: l, .int x :: st, M) := st_iload q51_127 rfl
theorem x51_127 {st : List Value} {M : pj_Mem} {l : pj_Loc} {a0 a1 a2 a3 : Option Value} {x : Int32} {o9 : Option Value × pj_Mem} : pj_Ends 51 (127, a0 :: a1 :: a2 :: a3 :: some (.int x) :: l, st, M) o9 = pj_Ends 51 (129, a0 :: a1 :: a2 :: a3 :: some (.int x) :: l, .int x :: st, M) o9 := pj_xs (s51_127)
theorem q51_129 : pj_row 51 129 = some (.sipush (-500), 3, 0, 0, 0) := by decide +kernel
theorem s51_129 {L : pj_Loc} {st : List Value} {M : pj_Mem}  : pj_step 51 (129, L, st, M) = some (132, L, .int (-500) :: st, M) := st_sipush q51_129 (by decide +kernel)
theorem x51_129 {L : pj_Loc} {st : List Value} {M : pj_Mem}  {o9 : Option Value × pj_Mem} : pj_Ends 51 (129, L, st, M) o9 = pj_Ends 51 (132, L, .int (-500) :: st, M) o9 := pj_xs (s51_129)
theorem q51_132 : pj_row 51 132 = some (.if_icmp .le 14, 3, 146, 0, 0) := by decide +kernel
theorem s51_132 {L : pj_Loc} {st : List Value} {M : pj_Mem} {x y : Int32} : pj_step 51 (132, L, .int y :: .int x :: st, M) = some (if x ≤ y then 146 else 135, L, st, M) := st_icmp_le q51_132
theorem x51_132 {L : pj_Loc} {st : List Value} {M : pj_Mem} {x y : Int32} {o9 : Option Value × pj_Mem} : pj_Ends 51 (132, L, .int y :: .int x :: st, M) o9 = pj_Ends 51 (if x ≤ y then 146 else 135, L, st, M) o9 := pj_xs (s51_132)
theorem q51_135 : pj_row 51 135 = some (.iload_n 3, 1, 0, 0, 0) := by decide +kernel
theorem s51_135 {st : List Value} {M : pj_Mem} {l : pj_Loc} {a0 a1 a2 : Option Value} {x : Int32} : pj_step 51 (135, a0 :: a1 :: a2 :: some (.int x) :: l, st, M) = some (136, a0 :: a1 :: a2 :: some (.int x) :: l, .int x :: st, M) := st_iload_n q51_135 rfl
theorem x51_135 {st : List Value} {M : pj_Mem} {l : pj_Loc} {a0 a1 a2 : Option Value} {x : Int32} {o9 : Option Value × pj_Mem} : pj_Ends 51 (135, a0 :: a1 :: a2 :: some (.int x) :: l, st, M) o9 = pj_Ends 51 (136, a0 :: a1 :: a2 :: some (.int x) :: l, .int x :: st, M) o9 := pj_xs (s51_135)
theorem q51_136 : pj_row 51 136 = some (.bipush 21, 2, 0, 0, 0) := by decide +kernel
theorem s51_136 {L : pj_Loc} {st : List Value} {M : pj_Mem}  : pj_step 51 (136, L, st, M) = some (138, L, .int 21 :: st, M) := st_bipush q51_136 (by decide +kernel)
theorem x51_136 {L : pj_Loc} {st : List Value} {M : pj_Mem}  {o9 : Option Value × pj_Mem} : pj_Ends 51 (136, L, st, M) o9 = pj_Ends 51 (138, L, .int 21 :: st, M) o9 := pj_xs (s51_136)
theorem q51_138 : pj_row 51 138 = some (.ishr, 1, 0, 0, 0) := by decide +kernel
theorem s51_138 {L : pj_Loc} {st : List Value} {M : pj_Mem} {x y : Int32} : pj_step 51 (138, L, .int y :: .int x :: st, M) = some (139, L, .int (x >>> (y &&& 31)) :: st, M) := st_ishr q51_138
theorem x51_138 {L : pj_Loc} {st : List Value} {M : pj_Mem} {x y : Int32} {o9 : Option Value × pj_Mem} : pj_Ends 51 (138, L, .int y :: .int x :: st, M) o9 = pj_Ends 51 (139, L, .int (x >>> (y &&& 31)) :: st, M) o9 := pj_xs (s51_138)
theorem q51_139 : pj_row 51 139 = some (.iconst 2, 1, 0, 0, 0) := by decide +kernel
theorem s51_139 {L : pj_Loc} {st : List Value} {M : pj_Mem}  : pj_step 51 (139, L, st, M) = some (140, L, .int 2 :: st, M) := st_iconst q51_139 (by decide +kernel)
theorem x51_139 {L : pj_Loc} {st : List Value} {M : pj_Mem}  {o9 : Option Value × pj_Mem} : pj_Ends 51 (139, L, st, M) o9 = pj_Ends 51 (140, L, .int 2 :: st, M) o9 := pj_xs (s51_139)
theorem q51_140 : pj_row 51 140 = some (.invokestatic 25, 3, 40, 2, 0) := by decide +kernel
theorem e51_140 {L : pj_Loc} {st : List Value} {N S : Nat} {H : pj_Heap} {o : Option Value × pj_Mem} {M' : pj_Mem} {x0 : Int32} {x1 : Int32} {r : Int32} (h4 : pj_le4 st = true) (h1 : pj_Ends 40 (0, [some (.int x0), some (.int x1)], [], (N, S, H)) (some (.int r), M')) (h2 : pj_Ends 51 (143, L, .int r :: st, M') o) : pj_Ends 51 (140, L, .int x1 :: .int x0 :: st, (N, S, H)) o := ec_s2 q51_140 (Or.inl rfl) h4 rfl h1 h2
theorem q51_143 : pj_row 51 143 = some (.goto 4, 3, 147, 0, 0) := by decide +kernel
theorem s51_143 {L : pj_Loc} {st : List Value} {M : pj_Mem}  : pj_step 51 (143, L, st, M) = some (147, L, st, M) := st_goto q51_143
theorem x51_143 {L : pj_Loc} {st : List Value} {M : pj_Mem}  {o9 : Option Value × pj_Mem} : pj_Ends 51 (143, L, st, M) o9 = pj_Ends 51 (147, L, st, M) o9 := pj_xs (s51_143)
theorem q51_146 : pj_row 51 146 = some (.iconst 0, 1, 0, 0, 0) := by decide +kernel
theorem s51_146 {L : pj_Loc} {st : List Value} {M : pj_Mem}  : pj_step 51 (146, L, st, M) = some (147, L, .int 0 :: st, M) := st_iconst q51_146 (by decide +kernel)
theorem x51_146 {L : pj_Loc} {st : List Value} {M : pj_Mem}  {o9 : Option Value × pj_Mem} : pj_Ends 51 (146, L, st, M) o9 = pj_Ends 51 (147, L, .int 0 :: st, M) o9 := pj_xs (s51_146)
theorem q51_147 : pj_row 51 147 = some (.isub, 1, 0, 0, 0) := by decide +kernel
theorem s51_147 {L : pj_Loc} {st : List Value} {M : pj_Mem} {x y : Int32} : pj_step 51 (147, L, .int y :: .int x :: st, M) = some (148, L, .int (x - y) :: st, M) := st_isub q51_147
theorem x51_147 {L : pj_Loc} {st : List Value} {M : pj_Mem} {x y : Int32} {o9 : Option Value × pj_Mem} : pj_Ends 51 (147, L, .int y :: .int x :: st, M) o9 = pj_Ends 51 (148, L, .int (x - y) :: st, M) o9 := pj_xs (s51_147)
theorem q51_148 : pj_row 51 148 = some (.istore 6, 2, 0, 0, 0) := by decide +kernel
theorem s51_148 {st : List Value} {M : pj_Mem} {l : pj_Loc} {a0 a1 a2 a3 a4 a5 a6 : Option Value} {x : Int32} (h : pj_long a5 = false) : pj_step 51 (148, a0 :: a1 :: a2 :: a3 :: a4 :: a5 :: a6 :: l, .int x :: st, M) = some (150, a0 :: a1 :: a2 :: a3 :: a4 :: a5 :: some (.int x) :: l, st, M) := st_istore q51_148 (pj_st_6 h)
theorem x51_148 {st : List Value} {M : pj_Mem} {l : pj_Loc} {a0 a1 a2 a3 a4 a5 a6 : Option Value} {x : Int32} (h : pj_long a5 = false) {o9 : Option Value × pj_Mem} : pj_Ends 51 (148, a0 :: a1 :: a2 :: a3 :: a4 :: a5 :: a6 :: l, .int x :: st, M) o9 = pj_Ends 51 (150, a0 :: a1 :: a2 :: a3 :: a4 :: a5 :: some (.int x) :: l, st, M) o9 := pj_xs (s51_148 h)
theorem q51_150 : pj_row 51 150 = some (.iload_n 3, 1, 0, 0, 0) := by decide +kernel
theorem s51_150 {st : List Value} {M : pj_Mem} {l : pj_Loc} {a0 a1 a2 : Option Value} {x : Int32} : pj_step 51 (150, a0 :: a1 :: a2 :: some (.int x) :: l, st, M) = some (151, a0 :: a1 :: a2 :: some (.int x) :: l, .int x :: st, M) := st_iload_n q51_150 rfl
theorem x51_150 {st : List Value} {M : pj_Mem} {l : pj_Loc} {a0 a1 a2 : Option Value} {x : Int32} {o9 : Option Value × pj_Mem} : pj_Ends 51 (150, a0 :: a1 :: a2 :: some (.int x) :: l, st, M) o9 = pj_Ends 51 (151, a0 :: a1 :: a2 :: some (.int x) :: l, .int x :: st, M) o9 := pj_xs (s51_150)
theorem q51_151 : pj_row 51 151 = some (.bipush 23, 2, 0, 0, 0) := by decide +kernel
theorem s51_151 {L : pj_Loc} {st : List Value} {M : pj_Mem}  : pj_step 51 (151, L, st, M) = some (153, L, .int 23 :: st, M) := st_bipush q51_151 (by decide +kernel)
theorem x51_151 {L : pj_Loc} {st : List Value} {M : pj_Mem}  {o9 : Option Value × pj_Mem} : pj_Ends 51 (151, L, st, M) o9 = pj_Ends 51 (153, L, .int 23 :: st, M) o9 := pj_xs (s51_151)
theorem q51_153 : pj_row 51 153 = some (.ishr, 1, 0, 0, 0) := by decide +kernel
theorem s51_153 {L : pj_Loc} {st : List Value} {M : pj_Mem} {x y : Int32} : pj_step 51 (153, L, .int y :: .int x :: st, M) = some (154, L, .int (x >>> (y &&& 31)) :: st, M) := st_ishr q51_153
theorem x51_153 {L : pj_Loc} {st : List Value} {M : pj_Mem} {x y : Int32} {o9 : Option Value × pj_Mem} : pj_Ends 51 (153, L, .int y :: .int x :: st, M) o9 = pj_Ends 51 (154, L, .int (x >>> (y &&& 31)) :: st, M) o9 := pj_xs (s51_153)
theorem q51_154 : pj_row 51 154 = some (.iconst 3, 1, 0, 0, 0) := by decide +kernel
theorem s51_154 {L : pj_Loc} {st : List Value} {M : pj_Mem}  : pj_step 51 (154, L, st, M) = some (155, L, .int 3 :: st, M) := st_iconst q51_154 (by decide +kernel)
theorem x51_154 {L : pj_Loc} {st : List Value} {M : pj_Mem}  {o9 : Option Value × pj_Mem} : pj_Ends 51 (154, L, st, M) o9 = pj_Ends 51 (155, L, .int 3 :: st, M) o9 := pj_xs (s51_154)
theorem q51_155 : pj_row 51 155 = some (.invokestatic 25, 3, 40, 2, 0) := by decide +kernel
theorem e51_155 {L : pj_Loc} {st : List Value} {N S : Nat} {H : pj_Heap} {o : Option Value × pj_Mem} {M' : pj_Mem} {x0 : Int32} {x1 : Int32} {r : Int32} (h4 : pj_le4 st = true) (h1 : pj_Ends 40 (0, [some (.int x0), some (.int x1)], [], (N, S, H)) (some (.int r), M')) (h2 : pj_Ends 51 (158, L, .int r :: st, M') o) : pj_Ends 51 (155, L, .int x1 :: .int x0 :: st, (N, S, H)) o := ec_s2 q51_155 (Or.inl rfl) h4 rfl h1 h2
theorem q51_158 : pj_row 51 158 = some (.ifCond .le 7, 3, 165, 0, 0) := by decide +kernel
theorem s51_158 {L : pj_Loc} {st : List Value} {M : pj_Mem} {x : Int32} : pj_step 51 (158, L, .int x :: st, M) = some (if x ≤ 0 then 165 else 161, L, st, M) := st_if_le q51_158
theorem x51_158 {L : pj_Loc} {st : List Value} {M : pj_Mem} {x : Int32} {o9 : Option Value × pj_Mem} : pj_Ends 51 (158, L, .int x :: st, M) o9 = pj_Ends 51 (if x ≤ 0 then 165 else 161, L, st, M) o9 := pj_xs (s51_158)
theorem q51_161 : pj_row 51 161 = some (.iconst 1, 1, 0, 0, 0) := by decide +kernel
theorem s51_161 {L : pj_Loc} {st : List Value} {M : pj_Mem}  : pj_step 51 (161, L, st, M) = some (162, L, .int 1 :: st, M) := st_iconst q51_161 (by decide +kernel)
theorem x51_161 {L : pj_Loc} {st : List Value} {M : pj_Mem}  {o9 : Option Value × pj_Mem} : pj_Ends 51 (161, L, st, M) o9 = pj_Ends 51 (162, L, .int 1 :: st, M) o9 := pj_xs (s51_161)
theorem q51_162 : pj_row 51 162 = some (.goto 4, 3, 166, 0, 0) := by decide +kernel
theorem s51_162 {L : pj_Loc} {st : List Value} {M : pj_Mem}  : pj_step 51 (162, L, st, M) = some (166, L, st, M) := st_goto q51_162
theorem x51_162 {L : pj_Loc} {st : List Value} {M : pj_Mem}  {o9 : Option Value × pj_Mem} : pj_Ends 51 (162, L, st, M) o9 = pj_Ends 51 (166, L, st, M) o9 := pj_xs (s51_162)
theorem q51_165 : pj_row 51 165 = some (.iconst 0, 1, 0, 0, 0) := by decide +kernel
theorem s51_165 {L : pj_Loc} {st : List Value} {M : pj_Mem}  : pj_step 51 (165, L, st, M) = some (166, L, .int 0 :: st, M) := st_iconst q51_165 (by decide +kernel)
theorem x51_165 {L : pj_Loc} {st : List Value} {M : pj_Mem}  {o9 : Option Value × pj_Mem} : pj_Ends 51 (165, L, st, M) o9 = pj_Ends 51 (166, L, .int 0 :: st, M) o9 := pj_xs (s51_165)
theorem q51_166 : pj_row 51 166 = some (.istore 7, 2, 0, 0, 0) := by decide +kernel
theorem s51_166 {st : List Value} {M : pj_Mem} {l : pj_Loc} {a0 a1 a2 a3 a4 a5 a6 a7 : Option Value} {x : Int32} (h : pj_long a6 = false) : pj_step 51 (166, a0 :: a1 :: a2 :: a3 :: a4 :: a5 :: a6 :: a7 :: l, .int x :: st, M) = some (168, a0 :: a1 :: a2 :: a3 :: a4 :: a5 :: a6 :: some (.int x) :: l, st, M) := st_istore q51_166 (pj_st_7 h)
theorem x51_166 {st : List Value} {M : pj_Mem} {l : pj_Loc} {a0 a1 a2 a3 a4 a5 a6 a7 : Option Value} {x : Int32} (h : pj_long a6 = false) {o9 : Option Value × pj_Mem} : pj_Ends 51 (166, a0 :: a1 :: a2 :: a3 :: a4 :: a5 :: a6 :: a7 :: l, .int x :: st, M) o9 = pj_Ends 51 (168, a0 :: a1 :: a2 :: a3 :: a4 :: a5 :: a6 :: some (.int x) :: l, st, M) o9 := pj_xs (s51_166 h)
theorem q51_168 : pj_row 51 168 = some (.aload_n 0, 1, 0, 0, 0) := by decide +kernel
theorem s51_168 {st : List Value} {M : pj_Mem} {l : pj_Loc} {x : Nat} : pj_step 51 (168, some (.ref x) :: l, st, M) = some (169, some (.ref x) :: l, .ref x :: st, M) := st_aload_n q51_168 rfl
theorem x51_168 {st : List Value} {M : pj_Mem} {l : pj_Loc} {x : Nat} {o9 : Option Value × pj_Mem} : pj_Ends 51 (168, some (.ref x) :: l, st, M) o9 = pj_Ends 51 (169, some (.ref x) :: l, .ref x :: st, M) o9 := pj_xs (s51_168)
theorem q51_169 : pj_row 51 169 = some (.iconst 3, 1, 0, 0, 0) := by decide +kernel
theorem s51_169 {L : pj_Loc} {st : List Value} {M : pj_Mem}  : pj_step 51 (169, L, st, M) = some (170, L, .int 3 :: st, M) := st_iconst q51_169 (by decide +kernel)
theorem x51_169 {L : pj_Loc} {st : List Value} {M : pj_Mem}  {o9 : Option Value × pj_Mem} : pj_Ends 51 (169, L, st, M) o9 = pj_Ends 51 (170, L, .int 3 :: st, M) o9 := pj_xs (s51_169)
theorem q51_170 : pj_row 51 170 = some (.invokevirtual 28, 3, 10, 2, 0) := by decide +kernel
theorem e51_170 {L : pj_Loc} {st : List Value} {N S : Nat} {H : pj_Heap} {o : Option Value × pj_Mem} {M' : pj_Mem} {x0 : Nat} {x1 : Int32} {r : Int32} (h4 : pj_le4 st = true) (hu : pj_isU 5 (H x0) = true) (h1 : pj_Ends 10 (0, [some (.ref x0), some (.int x1)], [], (N, S, H)) (some (.int r), M')) (h2 : pj_Ends 51 (173, L, .int r :: st, M') o) : pj_Ends 51 (170, L, .int x1 :: .ref x0 :: st, (N, S, H)) o := ec_v2 q51_170 (Or.inl rfl) h4 hu rfl h1 h2
theorem q51_173 : pj_row 51 173 = some (.istore 8, 2, 0, 0, 0) := by decide +kernel
theorem s51_173 {st : List Value} {M : pj_Mem} {l : pj_Loc} {a0 a1 a2 a3 a4 a5 a6 a7 a8 : Option Value} {x : Int32} (h : pj_long a7 = false) : pj_step 51 (173, a0 :: a1 :: a2 :: a3 :: a4 :: a5 :: a6 :: a7 :: a8 :: l, .int x :: st, M) = some (175, a0 :: a1 :: a2 :: a3 :: a4 :: a5 :: a6 :: a7 :: some (.int x) :: l, st, M) := st_istore q51_173 (pj_st_8 h)
theorem x51_173 {st : List Value} {M : pj_Mem} {l : pj_Loc} {a0 a1 a2 a3 a4 a5 a6 a7 a8 : Option Value} {x : Int32} (h : pj_long a7 = false) {o9 : Option Value × pj_Mem} : pj_Ends 51 (173, a0 :: a1 :: a2 :: a3 :: a4 :: a5 :: a6 :: a7 :: a8 :: l, .int x :: st, M) o9 = pj_Ends 51 (175, a0 :: a1 :: a2 :: a3 :: a4 :: a5 :: a6 :: a7 :: some (.int x) :: l, st, M) o9 := pj_xs (s51_173 h)
theorem q51_175 : pj_row 51 175 = some (.aload_n 0, 1, 0, 0, 0) := by decide +kernel
theorem s51_175 {st : List Value} {M : pj_Mem} {l : pj_Loc} {x : Nat} : pj_step 51 (175, some (.ref x) :: l, st, M) = some (176, some (.ref x) :: l, .ref x :: st, M) := st_aload_n q51_175 rfl
theorem x51_175 {st : List Value} {M : pj_Mem} {l : pj_Loc} {x : Nat} {o9 : Option Value × pj_Mem} : pj_Ends 51 (175, some (.ref x) :: l, st, M) o9 = pj_Ends 51 (176, some (.ref x) :: l, .ref x :: st, M) o9 := pj_xs (s51_175)
theorem q51_176 : pj_row 51 176 = some (.iconst 2, 1, 0, 0, 0) := by decide +kernel
theorem s51_176 {L : pj_Loc} {st : List Value} {M : pj_Mem}  : pj_step 51 (176, L, st, M) = some (177, L, .int 2 :: st, M) := st_iconst q51_176 (by decide +kernel)
theorem x51_176 {L : pj_Loc} {st : List Value} {M : pj_Mem}  {o9 : Option Value × pj_Mem} : pj_Ends 51 (176, L, st, M) o9 = pj_Ends 51 (177, L, .int 2 :: st, M) o9 := pj_xs (s51_176)
theorem q51_177 : pj_row 51 177 = some (.invokevirtual 28, 3, 10, 2, 0) := by decide +kernel
theorem e51_177 {L : pj_Loc} {st : List Value} {N S : Nat} {H : pj_Heap} {o : Option Value × pj_Mem} {M' : pj_Mem} {x0 : Nat} {x1 : Int32} {r : Int32} (h4 : pj_le4 st = true) (hu : pj_isU 5 (H x0) = true) (h1 : pj_Ends 10 (0, [some (.ref x0), some (.int x1)], [], (N, S, H)) (some (.int r), M')) (h2 : pj_Ends 51 (180, L, .int r :: st, M') o) : pj_Ends 51 (177, L, .int x1 :: .ref x0 :: st, (N, S, H)) o := ec_v2 q51_177 (Or.inl rfl) h4 hu rfl h1 h2
theorem q51_180 : pj_row 51 180 = some (.istore 9, 2, 0, 0, 0) := by decide +kernel
theorem s51_180 {st : List Value} {M : pj_Mem} {l : pj_Loc} {a0 a1 a2 a3 a4 a5 a6 a7 a8 a9 : Option Value} {x : Int32} (h : pj_long a8 = false) : pj_step 51 (180, a0 :: a1 :: a2 :: a3 :: a4 :: a5 :: a6 :: a7 :: a8 :: a9 :: l, .int x :: st, M) = some (182, a0 :: a1 :: a2 :: a3 :: a4 :: a5 :: a6 :: a7 :: a8 :: some (.int x) :: l, st, M) := st_istore q51_180 (pj_st_9 h)
theorem x51_180 {st : List Value} {M : pj_Mem} {l : pj_Loc} {a0 a1 a2 a3 a4 a5 a6 a7 a8 a9 : Option Value} {x : Int32} (h : pj_long a8 = false) {o9 : Option Value × pj_Mem} : pj_Ends 51 (180, a0 :: a1 :: a2 :: a3 :: a4 :: a5 :: a6 :: a7 :: a8 :: a9 :: l, .int x :: st, M) o9 = pj_Ends 51 (182, a0 :: a1 :: a2 :: a3 :: a4 :: a5 :: a6 :: a7 :: a8 :: some (.int x) :: l, st, M) o9 := pj_xs (s51_180 h)
theorem q51_182 : pj_row 51 182 = some (.aload_n 0, 1, 0, 0, 0) := by decide +kernel
theorem s51_182 {st : List Value} {M : pj_Mem} {l : pj_Loc} {x : Nat} : pj_step 51 (182, some (.ref x) :: l, st, M) = some (183, some (.ref x) :: l, .ref x :: st, M) := st_aload_n q51_182 rfl
theorem x51_182 {st : List Value} {M : pj_Mem} {l : pj_Loc} {x : Nat} {o9 : Option Value × pj_Mem} : pj_Ends 51 (182, some (.ref x) :: l, st, M) o9 = pj_Ends 51 (183, some (.ref x) :: l, .ref x :: st, M) o9 := pj_xs (s51_182)
theorem q51_183 : pj_row 51 183 = some (.iload 4, 2, 0, 0, 0) := by decide +kernel
theorem s51_183 {st : List Value} {M : pj_Mem} {l : pj_Loc} {a0 a1 a2 a3 : Option Value} {x : Int32} : pj_step 51 (183, a0 :: a1 :: a2 :: a3 :: some (.int x) :: l, st, M) = some (185, a0 :: a1 :: a2 :: a3 :: some (.int x) :: l, .int x :: st, M) := st_iload q51_183 rfl
theorem x51_183 {st : List Value} {M : pj_Mem} {l : pj_Loc} {a0 a1 a2 a3 : Option Value} {x : Int32} {o9 : Option Value × pj_Mem} : pj_Ends 51 (183, a0 :: a1 :: a2 :: a3 :: some (.int x) :: l, st, M) o9 = pj_Ends 51 (185, a0 :: a1 :: a2 :: a3 :: some (.int x) :: l, .int x :: st, M) o9 := pj_xs (s51_183)
theorem q51_185 : pj_row 51 185 = some (.iload 5, 2, 0, 0, 0) := by decide +kernel
theorem s51_185 {st : List Value} {M : pj_Mem} {l : pj_Loc} {a0 a1 a2 a3 a4 : Option Value} {x : Int32} : pj_step 51 (185, a0 :: a1 :: a2 :: a3 :: a4 :: some (.int x) :: l, st, M) = some (187, a0 :: a1 :: a2 :: a3 :: a4 :: some (.int x) :: l, .int x :: st, M) := st_iload q51_185 rfl
theorem x51_185 {st : List Value} {M : pj_Mem} {l : pj_Loc} {a0 a1 a2 a3 a4 : Option Value} {x : Int32} {o9 : Option Value × pj_Mem} : pj_Ends 51 (185, a0 :: a1 :: a2 :: a3 :: a4 :: some (.int x) :: l, st, M) o9 = pj_Ends 51 (187, a0 :: a1 :: a2 :: a3 :: a4 :: some (.int x) :: l, .int x :: st, M) o9 := pj_xs (s51_185)
theorem q51_187 : pj_row 51 187 = some (.iload 6, 2, 0, 0, 0) := by decide +kernel
theorem s51_187 {st : List Value} {M : pj_Mem} {l : pj_Loc} {a0 a1 a2 a3 a4 a5 : Option Value} {x : Int32} : pj_step 51 (187, a0 :: a1 :: a2 :: a3 :: a4 :: a5 :: some (.int x) :: l, st, M) = some (189, a0 :: a1 :: a2 :: a3 :: a4 :: a5 :: some (.int x) :: l, .int x :: st, M) := st_iload q51_187 rfl
theorem x51_187 {st : List Value} {M : pj_Mem} {l : pj_Loc} {a0 a1 a2 a3 a4 a5 : Option Value} {x : Int32} {o9 : Option Value × pj_Mem} : pj_Ends 51 (187, a0 :: a1 :: a2 :: a3 :: a4 :: a5 :: some (.int x) :: l, st, M) o9 = pj_Ends 51 (189, a0 :: a1 :: a2 :: a3 :: a4 :: a5 :: some (.int x) :: l, .int x :: st, M) o9 := pj_xs (s51_187)
theorem q51_189 : pj_row 51 189 = some (.iload 7, 2, 0, 0, 0) := by decide +kernel
theorem s51_189 {st : List Value} {M : pj_Mem} {l : pj_Loc} {a0 a1 a2 a3 a4 a5 a6 : Option Value} {x : Int32} : pj_step 51 (189, a0 :: a1 :: a2 :: a3 :: a4 :: a5 :: a6 :: some (.int x) :: l, st, M) = some (191, a0 :: a1 :: a2 :: a3 :: a4 :: a5 :: a6 :: some (.int x) :: l, .int x :: st, M) := st_iload q51_189 rfl
theorem x51_189 {st : List Value} {M : pj_Mem} {l : pj_Loc} {a0 a1 a2 a3 a4 a5 a6 : Option Value} {x : Int32} {o9 : Option Value × pj_Mem} : pj_Ends 51 (189, a0 :: a1 :: a2 :: a3 :: a4 :: a5 :: a6 :: some (.int x) :: l, st, M) o9 = pj_Ends 51 (191, a0 :: a1 :: a2 :: a3 :: a4 :: a5 :: a6 :: some (.int x) :: l, .int x :: st, M) o9 := pj_xs (s51_189)
theorem q51_191 : pj_row 51 191 = some (.iconst 0, 1, 0, 0, 0) := by decide +kernel
theorem s51_191 {L : pj_Loc} {st : List Value} {M : pj_Mem}  : pj_step 51 (191, L, st, M) = some (192, L, .int 0 :: st, M) := st_iconst q51_191 (by decide +kernel)
theorem x51_191 {L : pj_Loc} {st : List Value} {M : pj_Mem}  {o9 : Option Value × pj_Mem} : pj_Ends 51 (191, L, st, M) o9 = pj_Ends 51 (192, L, .int 0 :: st, M) o9 := pj_xs (s51_191)
theorem q51_192 : pj_row 51 192 = some (.invokevirtual 32, 3, 52, 6, 0) := by decide +kernel
theorem e51_192 {L : pj_Loc} {st : List Value} {N S : Nat} {H : pj_Heap} {o : Option Value × pj_Mem} {M' : pj_Mem} {x0 : Nat} {x1 : Int32} {x2 : Int32} {x3 : Int32} {x4 : Int32} {x5 : Int32} {r : Int32} (h4 : pj_le4 st = true) (hu : pj_isU 5 (H x0) = true) (h1 : pj_Ends 52 (0, [some (.ref x0), some (.int x1), some (.int x2), some (.int x3), some (.int x4), some (.int x5)], [], (N, S, H)) (some (.int r), M')) (h2 : pj_Ends 51 (195, L, .int r :: st, M') o) : pj_Ends 51 (192, L, .int x5 :: .int x4 :: .int x3 :: .int x2 :: .int x1 :: .ref x0 :: st, (N, S, H)) o := ec_v6 q51_192 (Or.inl rfl) h4 hu rfl h1 h2
theorem q51_195 : pj_row 51 195 = some (.istore 10, 2, 0, 0, 0) := by decide +kernel
theorem s51_195 {st : List Value} {M : pj_Mem} {l : pj_Loc} {a0 a1 a2 a3 a4 a5 a6 a7 a8 a9 a10 : Option Value} {x : Int32} (h : pj_long a9 = false) : pj_step 51 (195, a0 :: a1 :: a2 :: a3 :: a4 :: a5 :: a6 :: a7 :: a8 :: a9 :: a10 :: l, .int x :: st, M) = some (197, a0 :: a1 :: a2 :: a3 :: a4 :: a5 :: a6 :: a7 :: a8 :: a9 :: some (.int x) :: l, st, M) := st_istore q51_195 (pj_st_10 h)
theorem x51_195 {st : List Value} {M : pj_Mem} {l : pj_Loc} {a0 a1 a2 a3 a4 a5 a6 a7 a8 a9 a10 : Option Value} {x : Int32} (h : pj_long a9 = false) {o9 : Option Value × pj_Mem} : pj_Ends 51 (195, a0 :: a1 :: a2 :: a3 :: a4 :: a5 :: a6 :: a7 :: a8 :: a9 :: a10 :: l, .int x :: st, M) o9 = pj_Ends 51 (197, a0 :: a1 :: a2 :: a3 :: a4 :: a5 :: a6 :: a7 :: a8 :: a9 :: some (.int x) :: l, st, M) o9 := pj_xs (s51_195 h)
theorem q51_197 : pj_row 51 197 = some (.aload_n 0, 1, 0, 0, 0) := by decide +kernel
theorem s51_197 {st : List Value} {M : pj_Mem} {l : pj_Loc} {x : Nat} : pj_step 51 (197, some (.ref x) :: l, st, M) = some (198, some (.ref x) :: l, .ref x :: st, M) := st_aload_n q51_197 rfl
theorem x51_197 {st : List Value} {M : pj_Mem} {l : pj_Loc} {x : Nat} {o9 : Option Value × pj_Mem} : pj_Ends 51 (197, some (.ref x) :: l, st, M) o9 = pj_Ends 51 (198, some (.ref x) :: l, .ref x :: st, M) o9 := pj_xs (s51_197)
theorem q51_198 : pj_row 51 198 = some (.iload 4, 2, 0, 0, 0) := by decide +kernel
theorem s51_198 {st : List Value} {M : pj_Mem} {l : pj_Loc} {a0 a1 a2 a3 : Option Value} {x : Int32} : pj_step 51 (198, a0 :: a1 :: a2 :: a3 :: some (.int x) :: l, st, M) = some (200, a0 :: a1 :: a2 :: a3 :: some (.int x) :: l, .int x :: st, M) := st_iload q51_198 rfl
theorem x51_198 {st : List Value} {M : pj_Mem} {l : pj_Loc} {a0 a1 a2 a3 : Option Value} {x : Int32} {o9 : Option Value × pj_Mem} : pj_Ends 51 (198, a0 :: a1 :: a2 :: a3 :: some (.int x) :: l, st, M) o9 = pj_Ends 51 (200, a0 :: a1 :: a2 :: a3 :: some (.int x) :: l, .int x :: st, M) o9 := pj_xs (s51_198)
theorem q51_200 : pj_row 51 200 = some (.iload 5, 2, 0, 0, 0) := by decide +kernel
theorem s51_200 {st : List Value} {M : pj_Mem} {l : pj_Loc} {a0 a1 a2 a3 a4 : Option Value} {x : Int32} : pj_step 51 (200, a0 :: a1 :: a2 :: a3 :: a4 :: some (.int x) :: l, st, M) = some (202, a0 :: a1 :: a2 :: a3 :: a4 :: some (.int x) :: l, .int x :: st, M) := st_iload q51_200 rfl
theorem x51_200 {st : List Value} {M : pj_Mem} {l : pj_Loc} {a0 a1 a2 a3 a4 : Option Value} {x : Int32} {o9 : Option Value × pj_Mem} : pj_Ends 51 (200, a0 :: a1 :: a2 :: a3 :: a4 :: some (.int x) :: l, st, M) o9 = pj_Ends 51 (202, a0 :: a1 :: a2 :: a3 :: a4 :: some (.int x) :: l, .int x :: st, M) o9 := pj_xs (s51_200)
theorem q51_202 : pj_row 51 202 = some (.iload 6, 2, 0, 0, 0) := by decide +kernel
theorem s51_202 {st : List Value} {M : pj_Mem} {l : pj_Loc} {a0 a1 a2 a3 a4 a5 : Option Value} {x : Int32} : pj_step 51 (202, a0 :: a1 :: a2 :: a3 :: a4 :: a5 :: some (.int x) :: l, st, M) = some (204, a0 :: a1 :: a2 :: a3 :: a4 :: a5 :: some (.int x) :: l, .int x :: st, M) := st_iload q51_202 rfl
theorem x51_202 {st : List Value} {M : pj_Mem} {l : pj_Loc} {a0 a1 a2 a3 a4 a5 : Option Value} {x : Int32} {o9 : Option Value × pj_Mem} : pj_Ends 51 (202, a0 :: a1 :: a2 :: a3 :: a4 :: a5 :: some (.int x) :: l, st, M) o9 = pj_Ends 51 (204, a0 :: a1 :: a2 :: a3 :: a4 :: a5 :: some (.int x) :: l, .int x :: st, M) o9 := pj_xs (s51_202)
theorem q51_204 : pj_row 51 204 = some (.iload 7, 2, 0, 0, 0) := by decide +kernel
theorem s51_204 {st : List Value} {M : pj_Mem} {l : pj_Loc} {a0 a1 a2 a3 a4 a5 a6 : Option Value} {x : Int32} : pj_step 51 (204, a0 :: a1 :: a2 :: a3 :: a4 :: a5 :: a6 :: some (.int x) :: l, st, M) = some (206, a0 :: a1 :: a2 :: a3 :: a4 :: a5 :: a6 :: some (.int x) :: l, .int x :: st, M) := st_iload q51_204 rfl
theorem x51_204 {st : List Value} {M : pj_Mem} {l : pj_Loc} {a0 a1 a2 a3 a4 a5 a6 : Option Value} {x : Int32} {o9 : Option Value × pj_Mem} : pj_Ends 51 (204, a0 :: a1 :: a2 :: a3 :: a4 :: a5 :: a6 :: some (.int x) :: l, st, M) o9 = pj_Ends 51 (206, a0 :: a1 :: a2 :: a3 :: a4 :: a5 :: a6 :: some (.int x) :: l, .int x :: st, M) o9 := pj_xs (s51_204)
theorem q51_206 : pj_row 51 206 = some (.iconst 1, 1, 0, 0, 0) := by decide +kernel
theorem s51_206 {L : pj_Loc} {st : List Value} {M : pj_Mem}  : pj_step 51 (206, L, st, M) = some (207, L, .int 1 :: st, M) := st_iconst q51_206 (by decide +kernel)
theorem x51_206 {L : pj_Loc} {st : List Value} {M : pj_Mem}  {o9 : Option Value × pj_Mem} : pj_Ends 51 (206, L, st, M) o9 = pj_Ends 51 (207, L, .int 1 :: st, M) o9 := pj_xs (s51_206)
theorem q51_207 : pj_row 51 207 = some (.invokevirtual 32, 3, 52, 6, 0) := by decide +kernel
theorem e51_207 {L : pj_Loc} {st : List Value} {N S : Nat} {H : pj_Heap} {o : Option Value × pj_Mem} {M' : pj_Mem} {x0 : Nat} {x1 : Int32} {x2 : Int32} {x3 : Int32} {x4 : Int32} {x5 : Int32} {r : Int32} (h4 : pj_le4 st = true) (hu : pj_isU 5 (H x0) = true) (h1 : pj_Ends 52 (0, [some (.ref x0), some (.int x1), some (.int x2), some (.int x3), some (.int x4), some (.int x5)], [], (N, S, H)) (some (.int r), M')) (h2 : pj_Ends 51 (210, L, .int r :: st, M') o) : pj_Ends 51 (207, L, .int x5 :: .int x4 :: .int x3 :: .int x2 :: .int x1 :: .ref x0 :: st, (N, S, H)) o := ec_v6 q51_207 (Or.inl rfl) h4 hu rfl h1 h2
theorem q51_210 : pj_row 51 210 = some (.istore 11, 2, 0, 0, 0) := by decide +kernel
theorem s51_210 {st : List Value} {M : pj_Mem} {l : pj_Loc} {a0 a1 a2 a3 a4 a5 a6 a7 a8 a9 a10 a11 : Option Value} {x : Int32} (h : pj_long a10 = false) : pj_step 51 (210, a0 :: a1 :: a2 :: a3 :: a4 :: a5 :: a6 :: a7 :: a8 :: a9 :: a10 :: a11 :: l, .int x :: st, M) = some (212, a0 :: a1 :: a2 :: a3 :: a4 :: a5 :: a6 :: a7 :: a8 :: a9 :: a10 :: some (.int x) :: l, st, M) := st_istore q51_210 (pj_st_11 h)
theorem x51_210 {st : List Value} {M : pj_Mem} {l : pj_Loc} {a0 a1 a2 a3 a4 a5 a6 a7 a8 a9 a10 a11 : Option Value} {x : Int32} (h : pj_long a10 = false) {o9 : Option Value × pj_Mem} : pj_Ends 51 (210, a0 :: a1 :: a2 :: a3 :: a4 :: a5 :: a6 :: a7 :: a8 :: a9 :: a10 :: a11 :: l, .int x :: st, M) o9 = pj_Ends 51 (212, a0 :: a1 :: a2 :: a3 :: a4 :: a5 :: a6 :: a7 :: a8 :: a9 :: a10 :: some (.int x) :: l, st, M) o9 := pj_xs (s51_210 h)
theorem q51_212 : pj_row 51 212 = some (.aload_n 0, 1, 0, 0, 0) := by decide +kernel
theorem s51_212 {st : List Value} {M : pj_Mem} {l : pj_Loc} {x : Nat} : pj_step 51 (212, some (.ref x) :: l, st, M) = some (213, some (.ref x) :: l, .ref x :: st, M) := st_aload_n q51_212 rfl
theorem x51_212 {st : List Value} {M : pj_Mem} {l : pj_Loc} {x : Nat} {o9 : Option Value × pj_Mem} : pj_Ends 51 (212, some (.ref x) :: l, st, M) o9 = pj_Ends 51 (213, some (.ref x) :: l, .ref x :: st, M) o9 := pj_xs (s51_212)
theorem q51_213 : pj_row 51 213 = some (.iload 4, 2, 0, 0, 0) := by decide +kernel
theorem s51_213 {st : List Value} {M : pj_Mem} {l : pj_Loc} {a0 a1 a2 a3 : Option Value} {x : Int32} : pj_step 51 (213, a0 :: a1 :: a2 :: a3 :: some (.int x) :: l, st, M) = some (215, a0 :: a1 :: a2 :: a3 :: some (.int x) :: l, .int x :: st, M) := st_iload q51_213 rfl
theorem x51_213 {st : List Value} {M : pj_Mem} {l : pj_Loc} {a0 a1 a2 a3 : Option Value} {x : Int32} {o9 : Option Value × pj_Mem} : pj_Ends 51 (213, a0 :: a1 :: a2 :: a3 :: some (.int x) :: l, st, M) o9 = pj_Ends 51 (215, a0 :: a1 :: a2 :: a3 :: some (.int x) :: l, .int x :: st, M) o9 := pj_xs (s51_213)
theorem q51_215 : pj_row 51 215 = some (.iload 5, 2, 0, 0, 0) := by decide +kernel
theorem s51_215 {st : List Value} {M : pj_Mem} {l : pj_Loc} {a0 a1 a2 a3 a4 : Option Value} {x : Int32} : pj_step 51 (215, a0 :: a1 :: a2 :: a3 :: a4 :: some (.int x) :: l, st, M) = some (217, a0 :: a1 :: a2 :: a3 :: a4 :: some (.int x) :: l, .int x :: st, M) := st_iload q51_215 rfl
theorem x51_215 {st : List Value} {M : pj_Mem} {l : pj_Loc} {a0 a1 a2 a3 a4 : Option Value} {x : Int32} {o9 : Option Value × pj_Mem} : pj_Ends 51 (215, a0 :: a1 :: a2 :: a3 :: a4 :: some (.int x) :: l, st, M) o9 = pj_Ends 51 (217, a0 :: a1 :: a2 :: a3 :: a4 :: some (.int x) :: l, .int x :: st, M) o9 := pj_xs (s51_215)
theorem q51_217 : pj_row 51 217 = some (.iload 6, 2, 0, 0, 0) := by decide +kernel
theorem s51_217 {st : List Value} {M : pj_Mem} {l : pj_Loc} {a0 a1 a2 a3 a4 a5 : Option Value} {x : Int32} : pj_step 51 (217, a0 :: a1 :: a2 :: a3 :: a4 :: a5 :: some (.int x) :: l, st, M) = some (219, a0 :: a1 :: a2 :: a3 :: a4 :: a5 :: some (.int x) :: l, .int x :: st, M) := st_iload q51_217 rfl
theorem x51_217 {st : List Value} {M : pj_Mem} {l : pj_Loc} {a0 a1 a2 a3 a4 a5 : Option Value} {x : Int32} {o9 : Option Value × pj_Mem} : pj_Ends 51 (217, a0 :: a1 :: a2 :: a3 :: a4 :: a5 :: some (.int x) :: l, st, M) o9 = pj_Ends 51 (219, a0 :: a1 :: a2 :: a3 :: a4 :: a5 :: some (.int x) :: l, .int x :: st, M) o9 := pj_xs (s51_217)
theorem q51_219 : pj_row 51 219 = some (.iload 7, 2, 0, 0, 0) := by decide +kernel
theorem s51_219 {st : List Value} {M : pj_Mem} {l : pj_Loc} {a0 a1 a2 a3 a4 a5 a6 : Option Value} {x : Int32} : pj_step 51 (219, a0 :: a1 :: a2 :: a3 :: a4 :: a5 :: a6 :: some (.int x) :: l, st, M) = some (221, a0 :: a1 :: a2 :: a3 :: a4 :: a5 :: a6 :: some (.int x) :: l, .int x :: st, M) := st_iload q51_219 rfl
theorem x51_219 {st : List Value} {M : pj_Mem} {l : pj_Loc} {a0 a1 a2 a3 a4 a5 a6 : Option Value} {x : Int32} {o9 : Option Value × pj_Mem} : pj_Ends 51 (219, a0 :: a1 :: a2 :: a3 :: a4 :: a5 :: a6 :: some (.int x) :: l, st, M) o9 = pj_Ends 51 (221, a0 :: a1 :: a2 :: a3 :: a4 :: a5 :: a6 :: some (.int x) :: l, .int x :: st, M) o9 := pj_xs (s51_219)
theorem q51_221 : pj_row 51 221 = some (.invokevirtual 19, 3, 54, 5, 0) := by decide +kernel
theorem e51_221 {L : pj_Loc} {st : List Value} {N S : Nat} {H : pj_Heap} {o : Option Value × pj_Mem} {M' : pj_Mem} {x0 : Nat} {x1 : Int32} {x2 : Int32} {x3 : Int32} {x4 : Int32} {r : Int32} (h4 : pj_le4 st = true) (hu : pj_isU 5 (H x0) = true) (h1 : pj_Ends 54 (0, [some (.ref x0), some (.int x1), some (.int x2), some (.int x3), some (.int x4)], [], (N, S, H)) (some (.int r), M')) (h2 : pj_Ends 51 (224, L, .int r :: st, M') o) : pj_Ends 51 (221, L, .int x4 :: .int x3 :: .int x2 :: .int x1 :: .ref x0 :: st, (N, S, H)) o := ec_v5 q51_221 (Or.inl rfl) h4 hu rfl h1 h2
theorem q51_224 : pj_row 51 224 = some (.istore 12, 2, 0, 0, 0) := by decide +kernel
theorem s51_224 {st : List Value} {M : pj_Mem} {l : pj_Loc} {a0 a1 a2 a3 a4 a5 a6 a7 a8 a9 a10 a11 a12 : Option Value} {x : Int32} (h : pj_long a11 = false) : pj_step 51 (224, a0 :: a1 :: a2 :: a3 :: a4 :: a5 :: a6 :: a7 :: a8 :: a9 :: a10 :: a11 :: a12 :: l, .int x :: st, M) = some (226, a0 :: a1 :: a2 :: a3 :: a4 :: a5 :: a6 :: a7 :: a8 :: a9 :: a10 :: a11 :: some (.int x) :: l, st, M) := st_istore q51_224 (pj_st_12 h)
theorem x51_224 {st : List Value} {M : pj_Mem} {l : pj_Loc} {a0 a1 a2 a3 a4 a5 a6 a7 a8 a9 a10 a11 a12 : Option Value} {x : Int32} (h : pj_long a11 = false) {o9 : Option Value × pj_Mem} : pj_Ends 51 (224, a0 :: a1 :: a2 :: a3 :: a4 :: a5 :: a6 :: a7 :: a8 :: a9 :: a10 :: a11 :: a12 :: l, .int x :: st, M) o9 = pj_Ends 51 (226, a0 :: a1 :: a2 :: a3 :: a4 :: a5 :: a6 :: a7 :: a8 :: a9 :: a10 :: a11 :: some (.int x) :: l, st, M) o9 := pj_xs (s51_224 h)
theorem q51_226 : pj_row 51 226 = some (.iload 12, 2, 0, 0, 0) := by decide +kernel
theorem s51_226 {st : List Value} {M : pj_Mem} {l : pj_Loc} {a0 a1 a2 a3 a4 a5 a6 a7 a8 a9 a10 a11 : Option Value} {x : Int32} : pj_step 51 (226, a0 :: a1 :: a2 :: a3 :: a4 :: a5 :: a6 :: a7 :: a8 :: a9 :: a10 :: a11 :: some (.int x) :: l, st, M) = some (228, a0 :: a1 :: a2 :: a3 :: a4 :: a5 :: a6 :: a7 :: a8 :: a9 :: a10 :: a11 :: some (.int x) :: l, .int x :: st, M) := st_iload q51_226 rfl
theorem x51_226 {st : List Value} {M : pj_Mem} {l : pj_Loc} {a0 a1 a2 a3 a4 a5 a6 a7 a8 a9 a10 a11 : Option Value} {x : Int32} {o9 : Option Value × pj_Mem} : pj_Ends 51 (226, a0 :: a1 :: a2 :: a3 :: a4 :: a5 :: a6 :: a7 :: a8 :: a9 :: a10 :: a11 :: some (.int x) :: l, st, M) o9 = pj_Ends 51 (228, a0 :: a1 :: a2 :: a3 :: a4 :: a5 :: a6 :: a7 :: a8 :: a9 :: a10 :: a11 :: some (.int x) :: l, .int x :: st, M) o9 := pj_xs (s51_226)
theorem q51_228 : pj_row 51 228 = some (.iload 10, 2, 0, 0, 0) := by decide +kernel
theorem s51_228 {st : List Value} {M : pj_Mem} {l : pj_Loc} {a0 a1 a2 a3 a4 a5 a6 a7 a8 a9 : Option Value} {x : Int32} : pj_step 51 (228, a0 :: a1 :: a2 :: a3 :: a4 :: a5 :: a6 :: a7 :: a8 :: a9 :: some (.int x) :: l, st, M) = some (230, a0 :: a1 :: a2 :: a3 :: a4 :: a5 :: a6 :: a7 :: a8 :: a9 :: some (.int x) :: l, .int x :: st, M) := st_iload q51_228 rfl
theorem x51_228 {st : List Value} {M : pj_Mem} {l : pj_Loc} {a0 a1 a2 a3 a4 a5 a6 a7 a8 a9 : Option Value} {x : Int32} {o9 : Option Value × pj_Mem} : pj_Ends 51 (228, a0 :: a1 :: a2 :: a3 :: a4 :: a5 :: a6 :: a7 :: a8 :: a9 :: some (.int x) :: l, st, M) o9 = pj_Ends 51 (230, a0 :: a1 :: a2 :: a3 :: a4 :: a5 :: a6 :: a7 :: a8 :: a9 :: some (.int x) :: l, .int x :: st, M) o9 := pj_xs (s51_228)
theorem q51_230 : pj_row 51 230 = some (.if_icmp .ne 72, 3, 302, 0, 0) := by decide +kernel
theorem s51_230 {L : pj_Loc} {st : List Value} {M : pj_Mem} {x y : Int32} : pj_step 51 (230, L, .int y :: .int x :: st, M) = some (if ¬ x = y then 302 else 233, L, st, M) := st_icmp_ne q51_230
theorem x51_230 {L : pj_Loc} {st : List Value} {M : pj_Mem} {x y : Int32} {o9 : Option Value × pj_Mem} : pj_Ends 51 (230, L, .int y :: .int x :: st, M) o9 = pj_Ends 51 (if ¬ x = y then 302 else 233, L, st, M) o9 := pj_xs (s51_230)
theorem q51_233 : pj_row 51 233 = some (.iload 12, 2, 0, 0, 0) := by decide +kernel
theorem s51_233 {st : List Value} {M : pj_Mem} {l : pj_Loc} {a0 a1 a2 a3 a4 a5 a6 a7 a8 a9 a10 a11 : Option Value} {x : Int32} : pj_step 51 (233, a0 :: a1 :: a2 :: a3 :: a4 :: a5 :: a6 :: a7 :: a8 :: a9 :: a10 :: a11 :: some (.int x) :: l, st, M) = some (235, a0 :: a1 :: a2 :: a3 :: a4 :: a5 :: a6 :: a7 :: a8 :: a9 :: a10 :: a11 :: some (.int x) :: l, .int x :: st, M) := st_iload q51_233 rfl
theorem x51_233 {st : List Value} {M : pj_Mem} {l : pj_Loc} {a0 a1 a2 a3 a4 a5 a6 a7 a8 a9 a10 a11 : Option Value} {x : Int32} {o9 : Option Value × pj_Mem} : pj_Ends 51 (233, a0 :: a1 :: a2 :: a3 :: a4 :: a5 :: a6 :: a7 :: a8 :: a9 :: a10 :: a11 :: some (.int x) :: l, st, M) o9 = pj_Ends 51 (235, a0 :: a1 :: a2 :: a3 :: a4 :: a5 :: a6 :: a7 :: a8 :: a9 :: a10 :: a11 :: some (.int x) :: l, .int x :: st, M) o9 := pj_xs (s51_233)
theorem q51_235 : pj_row 51 235 = some (.aload_n 1, 1, 0, 0, 0) := by decide +kernel
theorem s51_235 {st : List Value} {M : pj_Mem} {l : pj_Loc} {a0 : Option Value} {x : Nat} : pj_step 51 (235, a0 :: some (.ref x) :: l, st, M) = some (236, a0 :: some (.ref x) :: l, .ref x :: st, M) := st_aload_n q51_235 rfl
theorem x51_235 {st : List Value} {M : pj_Mem} {l : pj_Loc} {a0 : Option Value} {x : Nat} {o9 : Option Value × pj_Mem} : pj_Ends 51 (235, a0 :: some (.ref x) :: l, st, M) o9 = pj_Ends 51 (236, a0 :: some (.ref x) :: l, .ref x :: st, M) o9 := pj_xs (s51_235)
theorem q51_236 : pj_row 51 236 = some (.iload_n 2, 1, 0, 0, 0) := by decide +kernel
theorem s51_236 {st : List Value} {M : pj_Mem} {l : pj_Loc} {a0 a1 : Option Value} {x : Int32} : pj_step 51 (236, a0 :: a1 :: some (.int x) :: l, st, M) = some (237, a0 :: a1 :: some (.int x) :: l, .int x :: st, M) := st_iload_n q51_236 rfl
theorem x51_236 {st : List Value} {M : pj_Mem} {l : pj_Loc} {a0 a1 : Option Value} {x : Int32} {o9 : Option Value × pj_Mem} : pj_Ends 51 (236, a0 :: a1 :: some (.int x) :: l, st, M) o9 = pj_Ends 51 (237, a0 :: a1 :: some (.int x) :: l, .int x :: st, M) o9 := pj_xs (s51_236)
theorem q51_237 : pj_row 51 237 = some (.iload 4, 2, 0, 0, 0) := by decide +kernel
theorem s51_237 {st : List Value} {M : pj_Mem} {l : pj_Loc} {a0 a1 a2 a3 : Option Value} {x : Int32} : pj_step 51 (237, a0 :: a1 :: a2 :: a3 :: some (.int x) :: l, st, M) = some (239, a0 :: a1 :: a2 :: a3 :: some (.int x) :: l, .int x :: st, M) := st_iload q51_237 rfl
theorem x51_237 {st : List Value} {M : pj_Mem} {l : pj_Loc} {a0 a1 a2 a3 : Option Value} {x : Int32} {o9 : Option Value × pj_Mem} : pj_Ends 51 (237, a0 :: a1 :: a2 :: a3 :: some (.int x) :: l, st, M) o9 = pj_Ends 51 (239, a0 :: a1 :: a2 :: a3 :: some (.int x) :: l, .int x :: st, M) o9 := pj_xs (s51_237)
theorem q51_239 : pj_row 51 239 = some (.iload 5, 2, 0, 0, 0) := by decide +kernel
theorem s51_239 {st : List Value} {M : pj_Mem} {l : pj_Loc} {a0 a1 a2 a3 a4 : Option Value} {x : Int32} : pj_step 51 (239, a0 :: a1 :: a2 :: a3 :: a4 :: some (.int x) :: l, st, M) = some (241, a0 :: a1 :: a2 :: a3 :: a4 :: some (.int x) :: l, .int x :: st, M) := st_iload q51_239 rfl
theorem x51_239 {st : List Value} {M : pj_Mem} {l : pj_Loc} {a0 a1 a2 a3 a4 : Option Value} {x : Int32} {o9 : Option Value × pj_Mem} : pj_Ends 51 (239, a0 :: a1 :: a2 :: a3 :: a4 :: some (.int x) :: l, st, M) o9 = pj_Ends 51 (241, a0 :: a1 :: a2 :: a3 :: a4 :: some (.int x) :: l, .int x :: st, M) o9 := pj_xs (s51_239)
theorem q51_241 : pj_row 51 241 = some (.iload 6, 2, 0, 0, 0) := by decide +kernel
theorem s51_241 {st : List Value} {M : pj_Mem} {l : pj_Loc} {a0 a1 a2 a3 a4 a5 : Option Value} {x : Int32} : pj_step 51 (241, a0 :: a1 :: a2 :: a3 :: a4 :: a5 :: some (.int x) :: l, st, M) = some (243, a0 :: a1 :: a2 :: a3 :: a4 :: a5 :: some (.int x) :: l, .int x :: st, M) := st_iload q51_241 rfl
theorem x51_241 {st : List Value} {M : pj_Mem} {l : pj_Loc} {a0 a1 a2 a3 a4 a5 : Option Value} {x : Int32} {o9 : Option Value × pj_Mem} : pj_Ends 51 (241, a0 :: a1 :: a2 :: a3 :: a4 :: a5 :: some (.int x) :: l, st, M) o9 = pj_Ends 51 (243, a0 :: a1 :: a2 :: a3 :: a4 :: a5 :: some (.int x) :: l, .int x :: st, M) o9 := pj_xs (s51_241)
theorem q51_243 : pj_row 51 243 = some (.iload 7, 2, 0, 0, 0) := by decide +kernel
theorem s51_243 {st : List Value} {M : pj_Mem} {l : pj_Loc} {a0 a1 a2 a3 a4 a5 a6 : Option Value} {x : Int32} : pj_step 51 (243, a0 :: a1 :: a2 :: a3 :: a4 :: a5 :: a6 :: some (.int x) :: l, st, M) = some (245, a0 :: a1 :: a2 :: a3 :: a4 :: a5 :: a6 :: some (.int x) :: l, .int x :: st, M) := st_iload q51_243 rfl
theorem x51_243 {st : List Value} {M : pj_Mem} {l : pj_Loc} {a0 a1 a2 a3 a4 a5 a6 : Option Value} {x : Int32} {o9 : Option Value × pj_Mem} : pj_Ends 51 (243, a0 :: a1 :: a2 :: a3 :: a4 :: a5 :: a6 :: some (.int x) :: l, st, M) o9 = pj_Ends 51 (245, a0 :: a1 :: a2 :: a3 :: a4 :: a5 :: a6 :: some (.int x) :: l, .int x :: st, M) o9 := pj_xs (s51_243)
theorem q51_245 : pj_row 51 245 = some (.invokestatic 36, 3, 55, 6, 0) := by decide +kernel
theorem e51_245 {L : pj_Loc} {st : List Value} {N S : Nat} {H : pj_Heap} {o : Option Value × pj_Mem} {M' : pj_Mem} {x0 : Nat} {x1 : Int32} {x2 : Int32} {x3 : Int32} {x4 : Int32} {x5 : Int32} {r : Int32} (h4 : pj_le4 st = true) (h1 : pj_Ends 55 (0, [some (.ref x0), some (.int x1), some (.int x2), some (.int x3), some (.int x4), some (.int x5)], [], (N, S, H)) (some (.int r), M')) (h2 : pj_Ends 51 (248, L, .int r :: st, M') o) : pj_Ends 51 (245, L, .int x5 :: .int x4 :: .int x3 :: .int x2 :: .int x1 :: .ref x0 :: st, (N, S, H)) o := ec_s6 q51_245 (Or.inl rfl) h4 rfl h1 h2
theorem q51_248 : pj_row 51 248 = some (.if_icmp .ne 54, 3, 302, 0, 0) := by decide +kernel
theorem s51_248 {L : pj_Loc} {st : List Value} {M : pj_Mem} {x y : Int32} : pj_step 51 (248, L, .int y :: .int x :: st, M) = some (if ¬ x = y then 302 else 251, L, st, M) := st_icmp_ne q51_248
theorem x51_248 {L : pj_Loc} {st : List Value} {M : pj_Mem} {x y : Int32} {o9 : Option Value × pj_Mem} : pj_Ends 51 (248, L, .int y :: .int x :: st, M) o9 = pj_Ends 51 (if ¬ x = y then 302 else 251, L, st, M) o9 := pj_xs (s51_248)
theorem q51_251 : pj_row 51 251 = some (.iload 8, 2, 0, 0, 0) := by decide +kernel
theorem s51_251 {st : List Value} {M : pj_Mem} {l : pj_Loc} {a0 a1 a2 a3 a4 a5 a6 a7 : Option Value} {x : Int32} : pj_step 51 (251, a0 :: a1 :: a2 :: a3 :: a4 :: a5 :: a6 :: a7 :: some (.int x) :: l, st, M) = some (253, a0 :: a1 :: a2 :: a3 :: a4 :: a5 :: a6 :: a7 :: some (.int x) :: l, .int x :: st, M) := st_iload q51_251 rfl
theorem x51_251 {st : List Value} {M : pj_Mem} {l : pj_Loc} {a0 a1 a2 a3 a4 a5 a6 a7 : Option Value} {x : Int32} {o9 : Option Value × pj_Mem} : pj_Ends 51 (251, a0 :: a1 :: a2 :: a3 :: a4 :: a5 :: a6 :: a7 :: some (.int x) :: l, st, M) o9 = pj_Ends 51 (253, a0 :: a1 :: a2 :: a3 :: a4 :: a5 :: a6 :: a7 :: some (.int x) :: l, .int x :: st, M) o9 := pj_xs (s51_251)
theorem q51_253 : pj_row 51 253 = some (.iload 12, 2, 0, 0, 0) := by decide +kernel
theorem s51_253 {st : List Value} {M : pj_Mem} {l : pj_Loc} {a0 a1 a2 a3 a4 a5 a6 a7 a8 a9 a10 a11 : Option Value} {x : Int32} : pj_step 51 (253, a0 :: a1 :: a2 :: a3 :: a4 :: a5 :: a6 :: a7 :: a8 :: a9 :: a10 :: a11 :: some (.int x) :: l, st, M) = some (255, a0 :: a1 :: a2 :: a3 :: a4 :: a5 :: a6 :: a7 :: a8 :: a9 :: a10 :: a11 :: some (.int x) :: l, .int x :: st, M) := st_iload q51_253 rfl
theorem x51_253 {st : List Value} {M : pj_Mem} {l : pj_Loc} {a0 a1 a2 a3 a4 a5 a6 a7 a8 a9 a10 a11 : Option Value} {x : Int32} {o9 : Option Value × pj_Mem} : pj_Ends 51 (253, a0 :: a1 :: a2 :: a3 :: a4 :: a5 :: a6 :: a7 :: a8 :: a9 :: a10 :: a11 :: some (.int x) :: l, st, M) o9 = pj_Ends 51 (255, a0 :: a1 :: a2 :: a3 :: a4 :: a5 :: a6 :: a7 :: a8 :: a9 :: a10 :: a11 :: some (.int x) :: l, .int x :: st, M) o9 := pj_xs (s51_253)
theorem q51_255 : pj_row 51 255 = some (.iand, 1, 0, 0, 0) := by decide +kernel
theorem s51_255 {L : pj_Loc} {st : List Value} {M : pj_Mem} {x y : Int32} : pj_step 51 (255, L, .int y :: .int x :: st, M) = some (256, L, .int (x &&& y) :: st, M) := st_iand q51_255
theorem x51_255 {L : pj_Loc} {st : List Value} {M : pj_Mem} {x y : Int32} {o9 : Option Value × pj_Mem} : pj_Ends 51 (255, L, .int y :: .int x :: st, M) o9 = pj_Ends 51 (256, L, .int (x &&& y) :: st, M) o9 := pj_xs (s51_255)
theorem q51_256 : pj_row 51 256 = some (.ifCond .ne 46, 3, 302, 0, 0) := by decide +kernel
theorem s51_256 {L : pj_Loc} {st : List Value} {M : pj_Mem} {x : Int32} : pj_step 51 (256, L, .int x :: st, M) = some (if ¬ x = 0 then 302 else 259, L, st, M) := st_if_ne q51_256
theorem x51_256 {L : pj_Loc} {st : List Value} {M : pj_Mem} {x : Int32} {o9 : Option Value × pj_Mem} : pj_Ends 51 (256, L, .int x :: st, M) o9 = pj_Ends 51 (if ¬ x = 0 then 302 else 259, L, st, M) o9 := pj_xs (s51_256)
theorem q51_259 : pj_row 51 259 = some (.aload_n 0, 1, 0, 0, 0) := by decide +kernel
theorem s51_259 {st : List Value} {M : pj_Mem} {l : pj_Loc} {x : Nat} : pj_step 51 (259, some (.ref x) :: l, st, M) = some (260, some (.ref x) :: l, .ref x :: st, M) := st_aload_n q51_259 rfl
theorem x51_259 {st : List Value} {M : pj_Mem} {l : pj_Loc} {x : Nat} {o9 : Option Value × pj_Mem} : pj_Ends 51 (259, some (.ref x) :: l, st, M) o9 = pj_Ends 51 (260, some (.ref x) :: l, .ref x :: st, M) o9 := pj_xs (s51_259)
theorem q51_260 : pj_row 51 260 = some (.iconst 3, 1, 0, 0, 0) := by decide +kernel
theorem s51_260 {L : pj_Loc} {st : List Value} {M : pj_Mem}  : pj_step 51 (260, L, st, M) = some (261, L, .int 3 :: st, M) := st_iconst q51_260 (by decide +kernel)
theorem x51_260 {L : pj_Loc} {st : List Value} {M : pj_Mem}  {o9 : Option Value × pj_Mem} : pj_Ends 51 (260, L, st, M) o9 = pj_Ends 51 (261, L, .int 3 :: st, M) o9 := pj_xs (s51_260)
theorem q51_261 : pj_row 51 261 = some (.invokevirtual 28, 3, 10, 2, 0) := by decide +kernel
theorem e51_261 {L : pj_Loc} {st : List Value} {N S : Nat} {H : pj_Heap} {o : Option Value × pj_Mem} {M' : pj_Mem} {x0 : Nat} {x1 : Int32} {r : Int32} (h4 : pj_le4 st = true) (hu : pj_isU 5 (H x0) = true) (h1 : pj_Ends 10 (0, [some (.ref x0), some (.int x1)], [], (N, S, H)) (some (.int r), M')) (h2 : pj_Ends 51 (264, L, .int r :: st, M') o) : pj_Ends 51 (261, L, .int x1 :: .ref x0 :: st, (N, S, H)) o := ec_v2 q51_261 (Or.inl rfl) h4 hu rfl h1 h2
theorem q51_264 : pj_row 51 264 = some (.iload 8, 2, 0, 0, 0) := by decide +kernel
theorem s51_264 {st : List Value} {M : pj_Mem} {l : pj_Loc} {a0 a1 a2 a3 a4 a5 a6 a7 : Option Value} {x : Int32} : pj_step 51 (264, a0 :: a1 :: a2 :: a3 :: a4 :: a5 :: a6 :: a7 :: some (.int x) :: l, st, M) = some (266, a0 :: a1 :: a2 :: a3 :: a4 :: a5 :: a6 :: a7 :: some (.int x) :: l, .int x :: st, M) := st_iload q51_264 rfl
theorem x51_264 {st : List Value} {M : pj_Mem} {l : pj_Loc} {a0 a1 a2 a3 a4 a5 a6 a7 : Option Value} {x : Int32} {o9 : Option Value × pj_Mem} : pj_Ends 51 (264, a0 :: a1 :: a2 :: a3 :: a4 :: a5 :: a6 :: a7 :: some (.int x) :: l, st, M) o9 = pj_Ends 51 (266, a0 :: a1 :: a2 :: a3 :: a4 :: a5 :: a6 :: a7 :: some (.int x) :: l, .int x :: st, M) o9 := pj_xs (s51_264)
theorem q51_266 : pj_row 51 266 = some (.iload 12, 2, 0, 0, 0) := by decide +kernel
theorem s51_266 {st : List Value} {M : pj_Mem} {l : pj_Loc} {a0 a1 a2 a3 a4 a5 a6 a7 a8 a9 a10 a11 : Option Value} {x : Int32} : pj_step 51 (266, a0 :: a1 :: a2 :: a3 :: a4 :: a5 :: a6 :: a7 :: a8 :: a9 :: a10 :: a11 :: some (.int x) :: l, st, M) = some (268, a0 :: a1 :: a2 :: a3 :: a4 :: a5 :: a6 :: a7 :: a8 :: a9 :: a10 :: a11 :: some (.int x) :: l, .int x :: st, M) := st_iload q51_266 rfl
theorem x51_266 {st : List Value} {M : pj_Mem} {l : pj_Loc} {a0 a1 a2 a3 a4 a5 a6 a7 a8 a9 a10 a11 : Option Value} {x : Int32} {o9 : Option Value × pj_Mem} : pj_Ends 51 (266, a0 :: a1 :: a2 :: a3 :: a4 :: a5 :: a6 :: a7 :: a8 :: a9 :: a10 :: a11 :: some (.int x) :: l, st, M) o9 = pj_Ends 51 (268, a0 :: a1 :: a2 :: a3 :: a4 :: a5 :: a6 :: a7 :: a8 :: a9 :: a10 :: a11 :: some (.int x) :: l, .int x :: st, M) o9 := pj_xs (s51_266)
theorem q51_268 : pj_row 51 268 = some (.ior, 1, 0, 0, 0) := by decide +kernel
theorem s51_268 {L : pj_Loc} {st : List Value} {M : pj_Mem} {x y : Int32} : pj_step 51 (268, L, .int y :: .int x :: st, M) = some (269, L, .int (x ||| y) :: st, M) := st_ior q51_268
theorem x51_268 {L : pj_Loc} {st : List Value} {M : pj_Mem} {x y : Int32} {o9 : Option Value × pj_Mem} : pj_Ends 51 (268, L, .int y :: .int x :: st, M) o9 = pj_Ends 51 (269, L, .int (x ||| y) :: st, M) o9 := pj_xs (s51_268)
theorem q51_269 : pj_row 51 269 = some (.if_icmp .ne 33, 3, 302, 0, 0) := by decide +kernel
theorem s51_269 {L : pj_Loc} {st : List Value} {M : pj_Mem} {x y : Int32} : pj_step 51 (269, L, .int y :: .int x :: st, M) = some (if ¬ x = y then 302 else 272, L, st, M) := st_icmp_ne q51_269
theorem x51_269 {L : pj_Loc} {st : List Value} {M : pj_Mem} {x y : Int32} {o9 : Option Value × pj_Mem} : pj_Ends 51 (269, L, .int y :: .int x :: st, M) o9 = pj_Ends 51 (if ¬ x = y then 302 else 272, L, st, M) o9 := pj_xs (s51_269)
theorem q51_272 : pj_row 51 272 = some (.aload_n 0, 1, 0, 0, 0) := by decide +kernel
theorem s51_272 {st : List Value} {M : pj_Mem} {l : pj_Loc} {x : Nat} : pj_step 51 (272, some (.ref x) :: l, st, M) = some (273, some (.ref x) :: l, .ref x :: st, M) := st_aload_n q51_272 rfl
theorem x51_272 {st : List Value} {M : pj_Mem} {l : pj_Loc} {x : Nat} {o9 : Option Value × pj_Mem} : pj_Ends 51 (272, some (.ref x) :: l, st, M) o9 = pj_Ends 51 (273, some (.ref x) :: l, .ref x :: st, M) o9 := pj_xs (s51_272)
theorem q51_273 : pj_row 51 273 = some (.iconst 2, 1, 0, 0, 0) := by decide +kernel
theorem s51_273 {L : pj_Loc} {st : List Value} {M : pj_Mem}  : pj_step 51 (273, L, st, M) = some (274, L, .int 2 :: st, M) := st_iconst q51_273 (by decide +kernel)
theorem x51_273 {L : pj_Loc} {st : List Value} {M : pj_Mem}  {o9 : Option Value × pj_Mem} : pj_Ends 51 (273, L, st, M) o9 = pj_Ends 51 (274, L, .int 2 :: st, M) o9 := pj_xs (s51_273)
theorem q51_274 : pj_row 51 274 = some (.invokevirtual 28, 3, 10, 2, 0) := by decide +kernel
theorem e51_274 {L : pj_Loc} {st : List Value} {N S : Nat} {H : pj_Heap} {o : Option Value × pj_Mem} {M' : pj_Mem} {x0 : Nat} {x1 : Int32} {r : Int32} (h4 : pj_le4 st = true) (hu : pj_isU 5 (H x0) = true) (h1 : pj_Ends 10 (0, [some (.ref x0), some (.int x1)], [], (N, S, H)) (some (.int r), M')) (h2 : pj_Ends 51 (277, L, .int r :: st, M') o) : pj_Ends 51 (274, L, .int x1 :: .ref x0 :: st, (N, S, H)) o := ec_v2 q51_274 (Or.inl rfl) h4 hu rfl h1 h2
theorem q51_277 : pj_row 51 277 = some (.iload 9, 2, 0, 0, 0) := by decide +kernel
theorem s51_277 {st : List Value} {M : pj_Mem} {l : pj_Loc} {a0 a1 a2 a3 a4 a5 a6 a7 a8 : Option Value} {x : Int32} : pj_step 51 (277, a0 :: a1 :: a2 :: a3 :: a4 :: a5 :: a6 :: a7 :: a8 :: some (.int x) :: l, st, M) = some (279, a0 :: a1 :: a2 :: a3 :: a4 :: a5 :: a6 :: a7 :: a8 :: some (.int x) :: l, .int x :: st, M) := st_iload q51_277 rfl
theorem x51_277 {st : List Value} {M : pj_Mem} {l : pj_Loc} {a0 a1 a2 a3 a4 a5 a6 a7 a8 : Option Value} {x : Int32} {o9 : Option Value × pj_Mem} : pj_Ends 51 (277, a0 :: a1 :: a2 :: a3 :: a4 :: a5 :: a6 :: a7 :: a8 :: some (.int x) :: l, st, M) o9 = pj_Ends 51 (279, a0 :: a1 :: a2 :: a3 :: a4 :: a5 :: a6 :: a7 :: a8 :: some (.int x) :: l, .int x :: st, M) o9 := pj_xs (s51_277)
theorem q51_279 : pj_row 51 279 = some (.iconst (-1), 1, 0, 0, 0) := by decide +kernel
theorem s51_279 {L : pj_Loc} {st : List Value} {M : pj_Mem}  : pj_step 51 (279, L, st, M) = some (280, L, .int (-1) :: st, M) := st_iconst q51_279 (by decide +kernel)
theorem x51_279 {L : pj_Loc} {st : List Value} {M : pj_Mem}  {o9 : Option Value × pj_Mem} : pj_Ends 51 (279, L, st, M) o9 = pj_Ends 51 (280, L, .int (-1) :: st, M) o9 := pj_xs (s51_279)
theorem q51_280 : pj_row 51 280 = some (.ixor, 1, 0, 0, 0) := by decide +kernel
theorem s51_280 {L : pj_Loc} {st : List Value} {M : pj_Mem} {x y : Int32} : pj_step 51 (280, L, .int y :: .int x :: st, M) = some (281, L, .int (x ^^^ y) :: st, M) := st_ixor q51_280
theorem x51_280 {L : pj_Loc} {st : List Value} {M : pj_Mem} {x y : Int32} {o9 : Option Value × pj_Mem} : pj_Ends 51 (280, L, .int y :: .int x :: st, M) o9 = pj_Ends 51 (281, L, .int (x ^^^ y) :: st, M) o9 := pj_xs (s51_280)
theorem q51_281 : pj_row 51 281 = some (.iand, 1, 0, 0, 0) := by decide +kernel
theorem s51_281 {L : pj_Loc} {st : List Value} {M : pj_Mem} {x y : Int32} : pj_step 51 (281, L, .int y :: .int x :: st, M) = some (282, L, .int (x &&& y) :: st, M) := st_iand q51_281
theorem x51_281 {L : pj_Loc} {st : List Value} {M : pj_Mem} {x y : Int32} {o9 : Option Value × pj_Mem} : pj_Ends 51 (281, L, .int y :: .int x :: st, M) o9 = pj_Ends 51 (282, L, .int (x &&& y) :: st, M) o9 := pj_xs (s51_281)
theorem q51_282 : pj_row 51 282 = some (.ifCond .ne 20, 3, 302, 0, 0) := by decide +kernel
theorem s51_282 {L : pj_Loc} {st : List Value} {M : pj_Mem} {x : Int32} : pj_step 51 (282, L, .int x :: st, M) = some (if ¬ x = 0 then 302 else 285, L, st, M) := st_if_ne q51_282
theorem x51_282 {L : pj_Loc} {st : List Value} {M : pj_Mem} {x : Int32} {o9 : Option Value × pj_Mem} : pj_Ends 51 (282, L, .int x :: st, M) o9 = pj_Ends 51 (if ¬ x = 0 then 302 else 285, L, st, M) o9 := pj_xs (s51_282)
theorem q51_285 : pj_row 51 285 = some (.iload 12, 2, 0, 0, 0) := by decide +kernel
theorem s51_285 {st : List Value} {M : pj_Mem} {l : pj_Loc} {a0 a1 a2 a3 a4 a5 a6 a7 a8 a9 a10 a11 : Option Value} {x : Int32} : pj_step 51 (285, a0 :: a1 :: a2 :: a3 :: a4 :: a5 :: a6 :: a7 :: a8 :: a9 :: a10 :: a11 :: some (.int x) :: l, st, M) = some (287, a0 :: a1 :: a2 :: a3 :: a4 :: a5 :: a6 :: a7 :: a8 :: a9 :: a10 :: a11 :: some (.int x) :: l, .int x :: st, M) := st_iload q51_285 rfl
theorem x51_285 {st : List Value} {M : pj_Mem} {l : pj_Loc} {a0 a1 a2 a3 a4 a5 a6 a7 a8 a9 a10 a11 : Option Value} {x : Int32} {o9 : Option Value × pj_Mem} : pj_Ends 51 (285, a0 :: a1 :: a2 :: a3 :: a4 :: a5 :: a6 :: a7 :: a8 :: a9 :: a10 :: a11 :: some (.int x) :: l, st, M) o9 = pj_Ends 51 (287, a0 :: a1 :: a2 :: a3 :: a4 :: a5 :: a6 :: a7 :: a8 :: a9 :: a10 :: a11 :: some (.int x) :: l, .int x :: st, M) o9 := pj_xs (s51_285)
theorem q51_287 : pj_row 51 287 = some (.ifCond .eq 11, 3, 298, 0, 0) := by decide +kernel
theorem s51_287 {L : pj_Loc} {st : List Value} {M : pj_Mem} {x : Int32} : pj_step 51 (287, L, .int x :: st, M) = some (if x = 0 then 298 else 290, L, st, M) := st_if_eq q51_287
theorem x51_287 {L : pj_Loc} {st : List Value} {M : pj_Mem} {x : Int32} {o9 : Option Value × pj_Mem} : pj_Ends 51 (287, L, .int x :: st, M) o9 = pj_Ends 51 (if x = 0 then 298 else 290, L, st, M) o9 := pj_xs (s51_287)
theorem q51_290 : pj_row 51 290 = some (.aload_n 0, 1, 0, 0, 0) := by decide +kernel
theorem s51_290 {st : List Value} {M : pj_Mem} {l : pj_Loc} {x : Nat} : pj_step 51 (290, some (.ref x) :: l, st, M) = some (291, some (.ref x) :: l, .ref x :: st, M) := st_aload_n q51_290 rfl
theorem x51_290 {st : List Value} {M : pj_Mem} {l : pj_Loc} {x : Nat} {o9 : Option Value × pj_Mem} : pj_Ends 51 (290, some (.ref x) :: l, st, M) o9 = pj_Ends 51 (291, some (.ref x) :: l, .ref x :: st, M) o9 := pj_xs (s51_290)
theorem q51_291 : pj_row 51 291 = some (.iconst 1, 1, 0, 0, 0) := by decide +kernel
theorem s51_291 {L : pj_Loc} {st : List Value} {M : pj_Mem}  : pj_step 51 (291, L, st, M) = some (292, L, .int 1 :: st, M) := st_iconst q51_291 (by decide +kernel)
theorem x51_291 {L : pj_Loc} {st : List Value} {M : pj_Mem}  {o9 : Option Value × pj_Mem} : pj_Ends 51 (291, L, st, M) o9 = pj_Ends 51 (292, L, .int 1 :: st, M) o9 := pj_xs (s51_291)
theorem q51_292 : pj_row 51 292 = some (.invokevirtual 28, 3, 10, 2, 0) := by decide +kernel
theorem e51_292 {L : pj_Loc} {st : List Value} {N S : Nat} {H : pj_Heap} {o : Option Value × pj_Mem} {M' : pj_Mem} {x0 : Nat} {x1 : Int32} {r : Int32} (h4 : pj_le4 st = true) (hu : pj_isU 5 (H x0) = true) (h1 : pj_Ends 10 (0, [some (.ref x0), some (.int x1)], [], (N, S, H)) (some (.int r), M')) (h2 : pj_Ends 51 (295, L, .int r :: st, M') o) : pj_Ends 51 (292, L, .int x1 :: .ref x0 :: st, (N, S, H)) o := ec_v2 q51_292 (Or.inl rfl) h4 hu rfl h1 h2
theorem q51_295 : pj_row 51 295 = some (.ifCond .le 7, 3, 302, 0, 0) := by decide +kernel
theorem s51_295 {L : pj_Loc} {st : List Value} {M : pj_Mem} {x : Int32} : pj_step 51 (295, L, .int x :: st, M) = some (if x ≤ 0 then 302 else 298, L, st, M) := st_if_le q51_295
theorem x51_295 {L : pj_Loc} {st : List Value} {M : pj_Mem} {x : Int32} {o9 : Option Value × pj_Mem} : pj_Ends 51 (295, L, .int x :: st, M) o9 = pj_Ends 51 (if x ≤ 0 then 302 else 298, L, st, M) o9 := pj_xs (s51_295)
theorem q51_298 : pj_row 51 298 = some (.iconst 1, 1, 0, 0, 0) := by decide +kernel
theorem s51_298 {L : pj_Loc} {st : List Value} {M : pj_Mem}  : pj_step 51 (298, L, st, M) = some (299, L, .int 1 :: st, M) := st_iconst q51_298 (by decide +kernel)
theorem x51_298 {L : pj_Loc} {st : List Value} {M : pj_Mem}  {o9 : Option Value × pj_Mem} : pj_Ends 51 (298, L, st, M) o9 = pj_Ends 51 (299, L, .int 1 :: st, M) o9 := pj_xs (s51_298)
theorem q51_299 : pj_row 51 299 = some (.goto 4, 3, 303, 0, 0) := by decide +kernel
theorem s51_299 {L : pj_Loc} {st : List Value} {M : pj_Mem}  : pj_step 51 (299, L, st, M) = some (303, L, st, M) := st_goto q51_299
theorem x51_299 {L : pj_Loc} {st : List Value} {M : pj_Mem}  {o9 : Option Value × pj_Mem} : pj_Ends 51 (299, L, st, M) o9 = pj_Ends 51 (303, L, st, M) o9 := pj_xs (s51_299)
theorem q51_302 : pj_row 51 302 = some (.iconst 0, 1, 0, 0, 0) := by decide +kernel
theorem s51_302 {L : pj_Loc} {st : List Value} {M : pj_Mem}  : pj_step 51 (302, L, st, M) = some (303, L, .int 0 :: st, M) := st_iconst q51_302 (by decide +kernel)
theorem x51_302 {L : pj_Loc} {st : List Value} {M : pj_Mem}  {o9 : Option Value × pj_Mem} : pj_Ends 51 (302, L, st, M) o9 = pj_Ends 51 (303, L, .int 0 :: st, M) o9 := pj_xs (s51_302)
theorem q51_303 : pj_row 51 303 = some (.istore 13, 2, 0, 0, 0) := by decide +kernel
theorem s51_303 {st : List Value} {M : pj_Mem} {l : pj_Loc} {a0 a1 a2 a3 a4 a5 a6 a7 a8 a9 a10 a11 a12 a13 : Option Value} {x : Int32} (h : pj_long a12 = false) : pj_step 51 (303, a0 :: a1 :: a2 :: a3 :: a4 :: a5 :: a6 :: a7 :: a8 :: a9 :: a10 :: a11 :: a12 :: a13 :: l, .int x :: st, M) = some (305, a0 :: a1 :: a2 :: a3 :: a4 :: a5 :: a6 :: a7 :: a8 :: a9 :: a10 :: a11 :: a12 :: some (.int x) :: l, st, M) := st_istore q51_303 (pj_st_13 h)
theorem x51_303 {st : List Value} {M : pj_Mem} {l : pj_Loc} {a0 a1 a2 a3 a4 a5 a6 a7 a8 a9 a10 a11 a12 a13 : Option Value} {x : Int32} (h : pj_long a12 = false) {o9 : Option Value × pj_Mem} : pj_Ends 51 (303, a0 :: a1 :: a2 :: a3 :: a4 :: a5 :: a6 :: a7 :: a8 :: a9 :: a10 :: a11 :: a12 :: a13 :: l, .int x :: st, M) o9 = pj_Ends 51 (305, a0 :: a1 :: a2 :: a3 :: a4 :: a5 :: a6 :: a7 :: a8 :: a9 :: a10 :: a11 :: a12 :: some (.int x) :: l, st, M) o9 := pj_xs (s51_303 h)
theorem q51_305 : pj_row 51 305 = some (.iload 13, 2, 0, 0, 0) := by decide +kernel
theorem s51_305 {st : List Value} {M : pj_Mem} {l : pj_Loc} {a0 a1 a2 a3 a4 a5 a6 a7 a8 a9 a10 a11 a12 : Option Value} {x : Int32} : pj_step 51 (305, a0 :: a1 :: a2 :: a3 :: a4 :: a5 :: a6 :: a7 :: a8 :: a9 :: a10 :: a11 :: a12 :: some (.int x) :: l, st, M) = some (307, a0 :: a1 :: a2 :: a3 :: a4 :: a5 :: a6 :: a7 :: a8 :: a9 :: a10 :: a11 :: a12 :: some (.int x) :: l, .int x :: st, M) := st_iload q51_305 rfl
theorem x51_305 {st : List Value} {M : pj_Mem} {l : pj_Loc} {a0 a1 a2 a3 a4 a5 a6 a7 a8 a9 a10 a11 a12 : Option Value} {x : Int32} {o9 : Option Value × pj_Mem} : pj_Ends 51 (305, a0 :: a1 :: a2 :: a3 :: a4 :: a5 :: a6 :: a7 :: a8 :: a9 :: a10 :: a11 :: a12 :: some (.int x) :: l, st, M) o9 = pj_Ends 51 (307, a0 :: a1 :: a2 :: a3 :: a4 :: a5 :: a6 :: a7 :: a8 :: a9 :: a10 :: a11 :: a12 :: some (.int x) :: l, .int x :: st, M) o9 := pj_xs (s51_305)
theorem q51_307 : pj_row 51 307 = some (.ifCond .eq 62, 3, 369, 0, 0) := by decide +kernel
theorem s51_307 {L : pj_Loc} {st : List Value} {M : pj_Mem} {x : Int32} : pj_step 51 (307, L, .int x :: st, M) = some (if x = 0 then 369 else 310, L, st, M) := st_if_eq q51_307
theorem x51_307 {L : pj_Loc} {st : List Value} {M : pj_Mem} {x : Int32} {o9 : Option Value × pj_Mem} : pj_Ends 51 (307, L, .int x :: st, M) o9 = pj_Ends 51 (if x = 0 then 369 else 310, L, st, M) o9 := pj_xs (s51_307)
theorem q51_310 : pj_row 51 310 = some (.iload 12, 2, 0, 0, 0) := by decide +kernel
theorem s51_310 {st : List Value} {M : pj_Mem} {l : pj_Loc} {a0 a1 a2 a3 a4 a5 a6 a7 a8 a9 a10 a11 : Option Value} {x : Int32} : pj_step 51 (310, a0 :: a1 :: a2 :: a3 :: a4 :: a5 :: a6 :: a7 :: a8 :: a9 :: a10 :: a11 :: some (.int x) :: l, st, M) = some (312, a0 :: a1 :: a2 :: a3 :: a4 :: a5 :: a6 :: a7 :: a8 :: a9 :: a10 :: a11 :: some (.int x) :: l, .int x :: st, M) := st_iload q51_310 rfl
theorem x51_310 {st : List Value} {M : pj_Mem} {l : pj_Loc} {a0 a1 a2 a3 a4 a5 a6 a7 a8 a9 a10 a11 : Option Value} {x : Int32} {o9 : Option Value × pj_Mem} : pj_Ends 51 (310, a0 :: a1 :: a2 :: a3 :: a4 :: a5 :: a6 :: a7 :: a8 :: a9 :: a10 :: a11 :: some (.int x) :: l, st, M) o9 = pj_Ends 51 (312, a0 :: a1 :: a2 :: a3 :: a4 :: a5 :: a6 :: a7 :: a8 :: a9 :: a10 :: a11 :: some (.int x) :: l, .int x :: st, M) o9 := pj_xs (s51_310)
theorem q51_312 : pj_row 51 312 = some (.iconst 4, 1, 0, 0, 0) := by decide +kernel
theorem s51_312 {L : pj_Loc} {st : List Value} {M : pj_Mem}  : pj_step 51 (312, L, st, M) = some (313, L, .int 4 :: st, M) := st_iconst q51_312 (by decide +kernel)
theorem x51_312 {L : pj_Loc} {st : List Value} {M : pj_Mem}  {o9 : Option Value × pj_Mem} : pj_Ends 51 (312, L, st, M) o9 = pj_Ends 51 (313, L, .int 4 :: st, M) o9 := pj_xs (s51_312)
theorem q51_313 : pj_row 51 313 = some (.iand, 1, 0, 0, 0) := by decide +kernel
theorem s51_313 {L : pj_Loc} {st : List Value} {M : pj_Mem} {x y : Int32} : pj_step 51 (313, L, .int y :: .int x :: st, M) = some (314, L, .int (x &&& y) :: st, M) := st_iand q51_313
theorem x51_313 {L : pj_Loc} {st : List Value} {M : pj_Mem} {x y : Int32} {o9 : Option Value × pj_Mem} : pj_Ends 51 (313, L, .int y :: .int x :: st, M) o9 = pj_Ends 51 (314, L, .int (x &&& y) :: st, M) o9 := pj_xs (s51_313)
theorem q51_314 : pj_row 51 314 = some (.ifCond .eq 13, 3, 327, 0, 0) := by decide +kernel
theorem s51_314 {L : pj_Loc} {st : List Value} {M : pj_Mem} {x : Int32} : pj_step 51 (314, L, .int x :: st, M) = some (if x = 0 then 327 else 317, L, st, M) := st_if_eq q51_314
theorem x51_314 {L : pj_Loc} {st : List Value} {M : pj_Mem} {x : Int32} {o9 : Option Value × pj_Mem} : pj_Ends 51 (314, L, .int x :: st, M) o9 = pj_Ends 51 (if x = 0 then 327 else 317, L, st, M) o9 := pj_xs (s51_314)
theorem q51_317 : pj_row 51 317 = some (.aload_n 0, 1, 0, 0, 0) := by decide +kernel
theorem s51_317 {st : List Value} {M : pj_Mem} {l : pj_Loc} {x : Nat} : pj_step 51 (317, some (.ref x) :: l, st, M) = some (318, some (.ref x) :: l, .ref x :: st, M) := st_aload_n q51_317 rfl
theorem x51_317 {st : List Value} {M : pj_Mem} {l : pj_Loc} {x : Nat} {o9 : Option Value × pj_Mem} : pj_Ends 51 (317, some (.ref x) :: l, st, M) o9 = pj_Ends 51 (318, some (.ref x) :: l, .ref x :: st, M) o9 := pj_xs (s51_317)
theorem q51_318 : pj_row 51 318 = some (.iconst 3, 1, 0, 0, 0) := by decide +kernel
theorem s51_318 {L : pj_Loc} {st : List Value} {M : pj_Mem}  : pj_step 51 (318, L, st, M) = some (319, L, .int 3 :: st, M) := st_iconst q51_318 (by decide +kernel)
theorem x51_318 {L : pj_Loc} {st : List Value} {M : pj_Mem}  {o9 : Option Value × pj_Mem} : pj_Ends 51 (318, L, st, M) o9 = pj_Ends 51 (319, L, .int 3 :: st, M) o9 := pj_xs (s51_318)
theorem q51_319 : pj_row 51 319 = some (.invokevirtual 28, 3, 10, 2, 0) := by decide +kernel
theorem e51_319 {L : pj_Loc} {st : List Value} {N S : Nat} {H : pj_Heap} {o : Option Value × pj_Mem} {M' : pj_Mem} {x0 : Nat} {x1 : Int32} {r : Int32} (h4 : pj_le4 st = true) (hu : pj_isU 5 (H x0) = true) (h1 : pj_Ends 10 (0, [some (.ref x0), some (.int x1)], [], (N, S, H)) (some (.int r), M')) (h2 : pj_Ends 51 (322, L, .int r :: st, M') o) : pj_Ends 51 (319, L, .int x1 :: .ref x0 :: st, (N, S, H)) o := ec_v2 q51_319 (Or.inl rfl) h4 hu rfl h1 h2
theorem q51_322 : pj_row 51 322 = some (.iconst 2, 1, 0, 0, 0) := by decide +kernel
theorem s51_322 {L : pj_Loc} {st : List Value} {M : pj_Mem}  : pj_step 51 (322, L, st, M) = some (323, L, .int 2 :: st, M) := st_iconst q51_322 (by decide +kernel)
theorem x51_322 {L : pj_Loc} {st : List Value} {M : pj_Mem}  {o9 : Option Value × pj_Mem} : pj_Ends 51 (322, L, st, M) o9 = pj_Ends 51 (323, L, .int 2 :: st, M) o9 := pj_xs (s51_322)
theorem q51_323 : pj_row 51 323 = some (.iand, 1, 0, 0, 0) := by decide +kernel
theorem s51_323 {L : pj_Loc} {st : List Value} {M : pj_Mem} {x y : Int32} : pj_step 51 (323, L, .int y :: .int x :: st, M) = some (324, L, .int (x &&& y) :: st, M) := st_iand q51_323
theorem x51_323 {L : pj_Loc} {st : List Value} {M : pj_Mem} {x y : Int32} {o9 : Option Value × pj_Mem} : pj_Ends 51 (323, L, .int y :: .int x :: st, M) o9 = pj_Ends 51 (324, L, .int (x &&& y) :: st, M) o9 := pj_xs (s51_323)
theorem q51_324 : pj_row 51 324 = some (.ifCond .eq 45, 3, 369, 0, 0) := by decide +kernel
theorem s51_324 {L : pj_Loc} {st : List Value} {M : pj_Mem} {x : Int32} : pj_step 51 (324, L, .int x :: st, M) = some (if x = 0 then 369 else 327, L, st, M) := st_if_eq q51_324
theorem x51_324 {L : pj_Loc} {st : List Value} {M : pj_Mem} {x : Int32} {o9 : Option Value × pj_Mem} : pj_Ends 51 (324, L, .int x :: st, M) o9 = pj_Ends 51 (if x = 0 then 369 else 327, L, st, M) o9 := pj_xs (s51_324)
theorem q51_327 : pj_row 51 327 = some (.iload 12, 2, 0, 0, 0) := by decide +kernel
theorem s51_327 {st : List Value} {M : pj_Mem} {l : pj_Loc} {a0 a1 a2 a3 a4 a5 a6 a7 a8 a9 a10 a11 : Option Value} {x : Int32} : pj_step 51 (327, a0 :: a1 :: a2 :: a3 :: a4 :: a5 :: a6 :: a7 :: a8 :: a9 :: a10 :: a11 :: some (.int x) :: l, st, M) = some (329, a0 :: a1 :: a2 :: a3 :: a4 :: a5 :: a6 :: a7 :: a8 :: a9 :: a10 :: a11 :: some (.int x) :: l, .int x :: st, M) := st_iload q51_327 rfl
theorem x51_327 {st : List Value} {M : pj_Mem} {l : pj_Loc} {a0 a1 a2 a3 a4 a5 a6 a7 a8 a9 a10 a11 : Option Value} {x : Int32} {o9 : Option Value × pj_Mem} : pj_Ends 51 (327, a0 :: a1 :: a2 :: a3 :: a4 :: a5 :: a6 :: a7 :: a8 :: a9 :: a10 :: a11 :: some (.int x) :: l, st, M) o9 = pj_Ends 51 (329, a0 :: a1 :: a2 :: a3 :: a4 :: a5 :: a6 :: a7 :: a8 :: a9 :: a10 :: a11 :: some (.int x) :: l, .int x :: st, M) o9 := pj_xs (s51_327)
theorem q51_329 : pj_row 51 329 = some (.iconst 2, 1, 0, 0, 0) := by decide +kernel
theorem s51_329 {L : pj_Loc} {st : List Value} {M : pj_Mem}  : pj_step 51 (329, L, st, M) = some (330, L, .int 2 :: st, M) := st_iconst q51_329 (by decide +kernel)
theorem x51_329 {L : pj_Loc} {st : List Value} {M : pj_Mem}  {o9 : Option Value × pj_Mem} : pj_Ends 51 (329, L, st, M) o9 = pj_Ends 51 (330, L, .int 2 :: st, M) o9 := pj_xs (s51_329)
theorem q51_330 : pj_row 51 330 = some (.iand, 1, 0, 0, 0) := by decide +kernel
theorem s51_330 {L : pj_Loc} {st : List Value} {M : pj_Mem} {x y : Int32} : pj_step 51 (330, L, .int y :: .int x :: st, M) = some (331, L, .int (x &&& y) :: st, M) := st_iand q51_330
theorem x51_330 {L : pj_Loc} {st : List Value} {M : pj_Mem} {x y : Int32} {o9 : Option Value × pj_Mem} : pj_Ends 51 (330, L, .int y :: .int x :: st, M) o9 = pj_Ends 51 (331, L, .int (x &&& y) :: st, M) o9 := pj_xs (s51_330)
theorem q51_331 : pj_row 51 331 = some (.ifCond .eq 23, 3, 354, 0, 0) := by decide +kernel
theorem s51_331 {L : pj_Loc} {st : List Value} {M : pj_Mem} {x : Int32} : pj_step 51 (331, L, .int x :: st, M) = some (if x = 0 then 354 else 334, L, st, M) := st_if_eq q51_331
theorem x51_331 {L : pj_Loc} {st : List Value} {M : pj_Mem} {x : Int32} {o9 : Option Value × pj_Mem} : pj_Ends 51 (331, L, .int x :: st, M) o9 = pj_Ends 51 (if x = 0 then 354 else 334, L, st, M) o9 := pj_xs (s51_331)
theorem q51_334 : pj_row 51 334 = some (.aload_n 0, 1, 0, 0, 0) := by decide +kernel
theorem s51_334 {st : List Value} {M : pj_Mem} {l : pj_Loc} {x : Nat} : pj_step 51 (334, some (.ref x) :: l, st, M) = some (335, some (.ref x) :: l, .ref x :: st, M) := st_aload_n q51_334 rfl
theorem x51_334 {st : List Value} {M : pj_Mem} {l : pj_Loc} {x : Nat} {o9 : Option Value × pj_Mem} : pj_Ends 51 (334, some (.ref x) :: l, st, M) o9 = pj_Ends 51 (335, some (.ref x) :: l, .ref x :: st, M) o9 := pj_xs (s51_334)
theorem q51_335 : pj_row 51 335 = some (.iconst 3, 1, 0, 0, 0) := by decide +kernel
theorem s51_335 {L : pj_Loc} {st : List Value} {M : pj_Mem}  : pj_step 51 (335, L, st, M) = some (336, L, .int 3 :: st, M) := st_iconst q51_335 (by decide +kernel)
theorem x51_335 {L : pj_Loc} {st : List Value} {M : pj_Mem}  {o9 : Option Value × pj_Mem} : pj_Ends 51 (335, L, st, M) o9 = pj_Ends 51 (336, L, .int 3 :: st, M) o9 := pj_xs (s51_335)
theorem q51_336 : pj_row 51 336 = some (.invokevirtual 28, 3, 10, 2, 0) := by decide +kernel
theorem e51_336 {L : pj_Loc} {st : List Value} {N S : Nat} {H : pj_Heap} {o : Option Value × pj_Mem} {M' : pj_Mem} {x0 : Nat} {x1 : Int32} {r : Int32} (h4 : pj_le4 st = true) (hu : pj_isU 5 (H x0) = true) (h1 : pj_Ends 10 (0, [some (.ref x0), some (.int x1)], [], (N, S, H)) (some (.int r), M')) (h2 : pj_Ends 51 (339, L, .int r :: st, M') o) : pj_Ends 51 (336, L, .int x1 :: .ref x0 :: st, (N, S, H)) o := ec_v2 q51_336 (Or.inl rfl) h4 hu rfl h1 h2
theorem q51_339 : pj_row 51 339 = some (.iconst 1, 1, 0, 0, 0) := by decide +kernel
theorem s51_339 {L : pj_Loc} {st : List Value} {M : pj_Mem}  : pj_step 51 (339, L, st, M) = some (340, L, .int 1 :: st, M) := st_iconst q51_339 (by decide +kernel)
theorem x51_339 {L : pj_Loc} {st : List Value} {M : pj_Mem}  {o9 : Option Value × pj_Mem} : pj_Ends 51 (339, L, st, M) o9 = pj_Ends 51 (340, L, .int 1 :: st, M) o9 := pj_xs (s51_339)
theorem q51_340 : pj_row 51 340 = some (.iand, 1, 0, 0, 0) := by decide +kernel
theorem s51_340 {L : pj_Loc} {st : List Value} {M : pj_Mem} {x y : Int32} : pj_step 51 (340, L, .int y :: .int x :: st, M) = some (341, L, .int (x &&& y) :: st, M) := st_iand q51_340
theorem x51_340 {L : pj_Loc} {st : List Value} {M : pj_Mem} {x y : Int32} {o9 : Option Value × pj_Mem} : pj_Ends 51 (340, L, .int y :: .int x :: st, M) o9 = pj_Ends 51 (341, L, .int (x &&& y) :: st, M) o9 := pj_xs (s51_340)
theorem q51_341 : pj_row 51 341 = some (.ifCond .ne 13, 3, 354, 0, 0) := by decide +kernel
theorem s51_341 {L : pj_Loc} {st : List Value} {M : pj_Mem} {x : Int32} : pj_step 51 (341, L, .int x :: st, M) = some (if ¬ x = 0 then 354 else 344, L, st, M) := st_if_ne q51_341
theorem x51_341 {L : pj_Loc} {st : List Value} {M : pj_Mem} {x : Int32} {o9 : Option Value × pj_Mem} : pj_Ends 51 (341, L, .int x :: st, M) o9 = pj_Ends 51 (if ¬ x = 0 then 354 else 344, L, st, M) o9 := pj_xs (s51_341)
theorem q51_344 : pj_row 51 344 = some (.aload_n 0, 1, 0, 0, 0) := by decide +kernel
theorem s51_344 {st : List Value} {M : pj_Mem} {l : pj_Loc} {x : Nat} : pj_step 51 (344, some (.ref x) :: l, st, M) = some (345, some (.ref x) :: l, .ref x :: st, M) := st_aload_n q51_344 rfl
theorem x51_344 {st : List Value} {M : pj_Mem} {l : pj_Loc} {x : Nat} {o9 : Option Value × pj_Mem} : pj_Ends 51 (344, some (.ref x) :: l, st, M) o9 = pj_Ends 51 (345, some (.ref x) :: l, .ref x :: st, M) o9 := pj_xs (s51_344)
theorem q51_345 : pj_row 51 345 = some (.iconst 4, 1, 0, 0, 0) := by decide +kernel
theorem s51_345 {L : pj_Loc} {st : List Value} {M : pj_Mem}  : pj_step 51 (345, L, st, M) = some (346, L, .int 4 :: st, M) := st_iconst q51_345 (by decide +kernel)
theorem x51_345 {L : pj_Loc} {st : List Value} {M : pj_Mem}  {o9 : Option Value × pj_Mem} : pj_Ends 51 (345, L, st, M) o9 = pj_Ends 51 (346, L, .int 4 :: st, M) o9 := pj_xs (s51_345)
theorem q51_346 : pj_row 51 346 = some (.invokevirtual 28, 3, 10, 2, 0) := by decide +kernel
theorem e51_346 {L : pj_Loc} {st : List Value} {N S : Nat} {H : pj_Heap} {o : Option Value × pj_Mem} {M' : pj_Mem} {x0 : Nat} {x1 : Int32} {r : Int32} (h4 : pj_le4 st = true) (hu : pj_isU 5 (H x0) = true) (h1 : pj_Ends 10 (0, [some (.ref x0), some (.int x1)], [], (N, S, H)) (some (.int r), M')) (h2 : pj_Ends 51 (349, L, .int r :: st, M') o) : pj_Ends 51 (346, L, .int x1 :: .ref x0 :: st, (N, S, H)) o := ec_v2 q51_346 (Or.inl rfl) h4 hu rfl h1 h2
theorem q51_349 : pj_row 51 349 = some (.iconst 1, 1, 0, 0, 0) := by decide +kernel
theorem s51_349 {L : pj_Loc} {st : List Value} {M : pj_Mem}  : pj_step 51 (349, L, st, M) = some (350, L, .int 1 :: st, M) := st_iconst q51_349 (by decide +kernel)
theorem x51_349 {L : pj_Loc} {st : List Value} {M : pj_Mem}  {o9 : Option Value × pj_Mem} : pj_Ends 51 (349, L, st, M) o9 = pj_Ends 51 (350, L, .int 1 :: st, M) o9 := pj_xs (s51_349)
theorem q51_350 : pj_row 51 350 = some (.iand, 1, 0, 0, 0) := by decide +kernel
theorem s51_350 {L : pj_Loc} {st : List Value} {M : pj_Mem} {x y : Int32} : pj_step 51 (350, L, .int y :: .int x :: st, M) = some (351, L, .int (x &&& y) :: st, M) := st_iand q51_350
theorem x51_350 {L : pj_Loc} {st : List Value} {M : pj_Mem} {x y : Int32} {o9 : Option Value × pj_Mem} : pj_Ends 51 (350, L, .int y :: .int x :: st, M) o9 = pj_Ends 51 (351, L, .int (x &&& y) :: st, M) o9 := pj_xs (s51_350)
theorem q51_351 : pj_row 51 351 = some (.ifCond .eq 18, 3, 369, 0, 0) := by decide +kernel
theorem s51_351 {L : pj_Loc} {st : List Value} {M : pj_Mem} {x : Int32} : pj_step 51 (351, L, .int x :: st, M) = some (if x = 0 then 369 else 354, L, st, M) := st_if_eq q51_351
theorem x51_351 {L : pj_Loc} {st : List Value} {M : pj_Mem} {x : Int32} {o9 : Option Value × pj_Mem} : pj_Ends 51 (351, L, .int x :: st, M) o9 = pj_Ends 51 (if x = 0 then 369 else 354, L, st, M) o9 := pj_xs (s51_351)
theorem q51_354 : pj_row 51 354 = some (.iload 12, 2, 0, 0, 0) := by decide +kernel
theorem s51_354 {st : List Value} {M : pj_Mem} {l : pj_Loc} {a0 a1 a2 a3 a4 a5 a6 a7 a8 a9 a10 a11 : Option Value} {x : Int32} : pj_step 51 (354, a0 :: a1 :: a2 :: a3 :: a4 :: a5 :: a6 :: a7 :: a8 :: a9 :: a10 :: a11 :: some (.int x) :: l, st, M) = some (356, a0 :: a1 :: a2 :: a3 :: a4 :: a5 :: a6 :: a7 :: a8 :: a9 :: a10 :: a11 :: some (.int x) :: l, .int x :: st, M) := st_iload q51_354 rfl
theorem x51_354 {st : List Value} {M : pj_Mem} {l : pj_Loc} {a0 a1 a2 a3 a4 a5 a6 a7 a8 a9 a10 a11 : Option Value} {x : Int32} {o9 : Option Value × pj_Mem} : pj_Ends 51 (354, a0 :: a1 :: a2 :: a3 :: a4 :: a5 :: a6 :: a7 :: a8 :: a9 :: a10 :: a11 :: some (.int x) :: l, st, M) o9 = pj_Ends 51 (356, a0 :: a1 :: a2 :: a3 :: a4 :: a5 :: a6 :: a7 :: a8 :: a9 :: a10 :: a11 :: some (.int x) :: l, .int x :: st, M) o9 := pj_xs (s51_354)
theorem q51_356 : pj_row 51 356 = some (.aload_n 0, 1, 0, 0, 0) := by decide +kernel
theorem s51_356 {st : List Value} {M : pj_Mem} {l : pj_Loc} {x : Nat} : pj_step 51 (356, some (.ref x) :: l, st, M) = some (357, some (.ref x) :: l, .ref x :: st, M) := st_aload_n q51_356 rfl
theorem x51_356 {st : List Value} {M : pj_Mem} {l : pj_Loc} {x : Nat} {o9 : Option Value × pj_Mem} : pj_Ends 51 (356, some (.ref x) :: l, st, M) o9 = pj_Ends 51 (357, some (.ref x) :: l, .ref x :: st, M) o9 := pj_xs (s51_356)
theorem q51_357 : pj_row 51 357 = some (.iconst 4, 1, 0, 0, 0) := by decide +kernel
theorem s51_357 {L : pj_Loc} {st : List Value} {M : pj_Mem}  : pj_step 51 (357, L, st, M) = some (358, L, .int 4 :: st, M) := st_iconst q51_357 (by decide +kernel)
theorem x51_357 {L : pj_Loc} {st : List Value} {M : pj_Mem}  {o9 : Option Value × pj_Mem} : pj_Ends 51 (357, L, st, M) o9 = pj_Ends 51 (358, L, .int 4 :: st, M) o9 := pj_xs (s51_357)
theorem q51_358 : pj_row 51 358 = some (.invokevirtual 28, 3, 10, 2, 0) := by decide +kernel
theorem e51_358 {L : pj_Loc} {st : List Value} {N S : Nat} {H : pj_Heap} {o : Option Value × pj_Mem} {M' : pj_Mem} {x0 : Nat} {x1 : Int32} {r : Int32} (h4 : pj_le4 st = true) (hu : pj_isU 5 (H x0) = true) (h1 : pj_Ends 10 (0, [some (.ref x0), some (.int x1)], [], (N, S, H)) (some (.int r), M')) (h2 : pj_Ends 51 (361, L, .int r :: st, M') o) : pj_Ends 51 (358, L, .int x1 :: .ref x0 :: st, (N, S, H)) o := ec_v2 q51_358 (Or.inl rfl) h4 hu rfl h1 h2
theorem q51_361 : pj_row 51 361 = some (.iand, 1, 0, 0, 0) := by decide +kernel
theorem s51_361 {L : pj_Loc} {st : List Value} {M : pj_Mem} {x y : Int32} : pj_step 51 (361, L, .int y :: .int x :: st, M) = some (362, L, .int (x &&& y) :: st, M) := st_iand q51_361
theorem x51_361 {L : pj_Loc} {st : List Value} {M : pj_Mem} {x y : Int32} {o9 : Option Value × pj_Mem} : pj_Ends 51 (361, L, .int y :: .int x :: st, M) o9 = pj_Ends 51 (362, L, .int (x &&& y) :: st, M) o9 := pj_xs (s51_361)
theorem q51_362 : pj_row 51 362 = some (.ifCond .ne 7, 3, 369, 0, 0) := by decide +kernel
theorem s51_362 {L : pj_Loc} {st : List Value} {M : pj_Mem} {x : Int32} : pj_step 51 (362, L, .int x :: st, M) = some (if ¬ x = 0 then 369 else 365, L, st, M) := st_if_ne q51_362
theorem x51_362 {L : pj_Loc} {st : List Value} {M : pj_Mem} {x : Int32} {o9 : Option Value × pj_Mem} : pj_Ends 51 (362, L, .int x :: st, M) o9 = pj_Ends 51 (if ¬ x = 0 then 369 else 365, L, st, M) o9 := pj_xs (s51_362)
theorem q51_365 : pj_row 51 365 = some (.iconst 1, 1, 0, 0, 0) := by decide +kernel
theorem s51_365 {L : pj_Loc} {st : List Value} {M : pj_Mem}  : pj_step 51 (365, L, st, M) = some (366, L, .int 1 :: st, M) := st_iconst q51_365 (by decide +kernel)
theorem x51_365 {L : pj_Loc} {st : List Value} {M : pj_Mem}  {o9 : Option Value × pj_Mem} : pj_Ends 51 (365, L, st, M) o9 = pj_Ends 51 (366, L, .int 1 :: st, M) o9 := pj_xs (s51_365)
theorem q51_366 : pj_row 51 366 = some (.goto 4, 3, 370, 0, 0) := by decide +kernel
theorem s51_366 {L : pj_Loc} {st : List Value} {M : pj_Mem}  : pj_step 51 (366, L, st, M) = some (370, L, st, M) := st_goto q51_366
theorem x51_366 {L : pj_Loc} {st : List Value} {M : pj_Mem}  {o9 : Option Value × pj_Mem} : pj_Ends 51 (366, L, st, M) o9 = pj_Ends 51 (370, L, st, M) o9 := pj_xs (s51_366)
theorem q51_369 : pj_row 51 369 = some (.iconst 0, 1, 0, 0, 0) := by decide +kernel
theorem s51_369 {L : pj_Loc} {st : List Value} {M : pj_Mem}  : pj_step 51 (369, L, st, M) = some (370, L, .int 0 :: st, M) := st_iconst q51_369 (by decide +kernel)
theorem x51_369 {L : pj_Loc} {st : List Value} {M : pj_Mem}  {o9 : Option Value × pj_Mem} : pj_Ends 51 (369, L, st, M) o9 = pj_Ends 51 (370, L, .int 0 :: st, M) o9 := pj_xs (s51_369)
theorem q51_370 : pj_row 51 370 = some (.istore 13, 2, 0, 0, 0) := by decide +kernel
theorem s51_370 {st : List Value} {M : pj_Mem} {l : pj_Loc} {a0 a1 a2 a3 a4 a5 a6 a7 a8 a9 a10 a11 a12 a13 : Option Value} {x : Int32} (h : pj_long a12 = false) : pj_step 51 (370, a0 :: a1 :: a2 :: a3 :: a4 :: a5 :: a6 :: a7 :: a8 :: a9 :: a10 :: a11 :: a12 :: a13 :: l, .int x :: st, M) = some (372, a0 :: a1 :: a2 :: a3 :: a4 :: a5 :: a6 :: a7 :: a8 :: a9 :: a10 :: a11 :: a12 :: some (.int x) :: l, st, M) := st_istore q51_370 (pj_st_13 h)
theorem x51_370 {st : List Value} {M : pj_Mem} {l : pj_Loc} {a0 a1 a2 a3 a4 a5 a6 a7 a8 a9 a10 a11 a12 a13 : Option Value} {x : Int32} (h : pj_long a12 = false) {o9 : Option Value × pj_Mem} : pj_Ends 51 (370, a0 :: a1 :: a2 :: a3 :: a4 :: a5 :: a6 :: a7 :: a8 :: a9 :: a10 :: a11 :: a12 :: a13 :: l, .int x :: st, M) o9 = pj_Ends 51 (372, a0 :: a1 :: a2 :: a3 :: a4 :: a5 :: a6 :: a7 :: a8 :: a9 :: a10 :: a11 :: a12 :: some (.int x) :: l, st, M) o9 := pj_xs (s51_370 h)
theorem q51_372 : pj_row 51 372 = some (.iload 13, 2, 0, 0, 0) := by decide +kernel
theorem s51_372 {st : List Value} {M : pj_Mem} {l : pj_Loc} {a0 a1 a2 a3 a4 a5 a6 a7 a8 a9 a10 a11 a12 : Option Value} {x : Int32} : pj_step 51 (372, a0 :: a1 :: a2 :: a3 :: a4 :: a5 :: a6 :: a7 :: a8 :: a9 :: a10 :: a11 :: a12 :: some (.int x) :: l, st, M) = some (374, a0 :: a1 :: a2 :: a3 :: a4 :: a5 :: a6 :: a7 :: a8 :: a9 :: a10 :: a11 :: a12 :: some (.int x) :: l, .int x :: st, M) := st_iload q51_372 rfl
theorem x51_372 {st : List Value} {M : pj_Mem} {l : pj_Loc} {a0 a1 a2 a3 a4 a5 a6 a7 a8 a9 a10 a11 a12 : Option Value} {x : Int32} {o9 : Option Value × pj_Mem} : pj_Ends 51 (372, a0 :: a1 :: a2 :: a3 :: a4 :: a5 :: a6 :: a7 :: a8 :: a9 :: a10 :: a11 :: a12 :: some (.int x) :: l, st, M) o9 = pj_Ends 51 (374, a0 :: a1 :: a2 :: a3 :: a4 :: a5 :: a6 :: a7 :: a8 :: a9 :: a10 :: a11 :: a12 :: some (.int x) :: l, .int x :: st, M) o9 := pj_xs (s51_372)
theorem q51_374 : pj_row 51 374 = some (.ifCond .eq 21, 3, 395, 0, 0) := by decide +kernel
theorem s51_374 {L : pj_Loc} {st : List Value} {M : pj_Mem} {x : Int32} : pj_step 51 (374, L, .int x :: st, M) = some (if x = 0 then 395 else 377, L, st, M) := st_if_eq q51_374
theorem x51_374 {L : pj_Loc} {st : List Value} {M : pj_Mem} {x : Int32} {o9 : Option Value × pj_Mem} : pj_Ends 51 (374, L, .int x :: st, M) o9 = pj_Ends 51 (if x = 0 then 395 else 377, L, st, M) o9 := pj_xs (s51_374)
theorem q51_377 : pj_row 51 377 = some (.iload 11, 2, 0, 0, 0) := by decide +kernel
theorem s51_377 {st : List Value} {M : pj_Mem} {l : pj_Loc} {a0 a1 a2 a3 a4 a5 a6 a7 a8 a9 a10 : Option Value} {x : Int32} : pj_step 51 (377, a0 :: a1 :: a2 :: a3 :: a4 :: a5 :: a6 :: a7 :: a8 :: a9 :: a10 :: some (.int x) :: l, st, M) = some (379, a0 :: a1 :: a2 :: a3 :: a4 :: a5 :: a6 :: a7 :: a8 :: a9 :: a10 :: some (.int x) :: l, .int x :: st, M) := st_iload q51_377 rfl
theorem x51_377 {st : List Value} {M : pj_Mem} {l : pj_Loc} {a0 a1 a2 a3 a4 a5 a6 a7 a8 a9 a10 : Option Value} {x : Int32} {o9 : Option Value × pj_Mem} : pj_Ends 51 (377, a0 :: a1 :: a2 :: a3 :: a4 :: a5 :: a6 :: a7 :: a8 :: a9 :: a10 :: some (.int x) :: l, st, M) o9 = pj_Ends 51 (379, a0 :: a1 :: a2 :: a3 :: a4 :: a5 :: a6 :: a7 :: a8 :: a9 :: a10 :: some (.int x) :: l, .int x :: st, M) o9 := pj_xs (s51_377)
theorem q51_379 : pj_row 51 379 = some (.ldc 39, 2, 0, 0, 98000) := by decide +kernel
theorem s51_379 {L : pj_Loc} {st : List Value} {M : pj_Mem}  : pj_step 51 (379, L, st, M) = some (381, L, .int 98000 :: st, M) := st_ldc q51_379 (by decide +kernel)
theorem x51_379 {L : pj_Loc} {st : List Value} {M : pj_Mem}  {o9 : Option Value × pj_Mem} : pj_Ends 51 (379, L, st, M) o9 = pj_Ends 51 (381, L, .int 98000 :: st, M) o9 := pj_xs (s51_379)
theorem q51_381 : pj_row 51 381 = some (.if_icmp .lt 14, 3, 395, 0, 0) := by decide +kernel
theorem s51_381 {L : pj_Loc} {st : List Value} {M : pj_Mem} {x y : Int32} : pj_step 51 (381, L, .int y :: .int x :: st, M) = some (if x < y then 395 else 384, L, st, M) := st_icmp_lt q51_381
theorem x51_381 {L : pj_Loc} {st : List Value} {M : pj_Mem} {x y : Int32} {o9 : Option Value × pj_Mem} : pj_Ends 51 (381, L, .int y :: .int x :: st, M) o9 = pj_Ends 51 (if x < y then 395 else 384, L, st, M) o9 := pj_xs (s51_381)
theorem q51_384 : pj_row 51 384 = some (.iload 11, 2, 0, 0, 0) := by decide +kernel
theorem s51_384 {st : List Value} {M : pj_Mem} {l : pj_Loc} {a0 a1 a2 a3 a4 a5 a6 a7 a8 a9 a10 : Option Value} {x : Int32} : pj_step 51 (384, a0 :: a1 :: a2 :: a3 :: a4 :: a5 :: a6 :: a7 :: a8 :: a9 :: a10 :: some (.int x) :: l, st, M) = some (386, a0 :: a1 :: a2 :: a3 :: a4 :: a5 :: a6 :: a7 :: a8 :: a9 :: a10 :: some (.int x) :: l, .int x :: st, M) := st_iload q51_384 rfl
theorem x51_384 {st : List Value} {M : pj_Mem} {l : pj_Loc} {a0 a1 a2 a3 a4 a5 a6 a7 a8 a9 a10 : Option Value} {x : Int32} {o9 : Option Value × pj_Mem} : pj_Ends 51 (384, a0 :: a1 :: a2 :: a3 :: a4 :: a5 :: a6 :: a7 :: a8 :: a9 :: a10 :: some (.int x) :: l, st, M) o9 = pj_Ends 51 (386, a0 :: a1 :: a2 :: a3 :: a4 :: a5 :: a6 :: a7 :: a8 :: a9 :: a10 :: some (.int x) :: l, .int x :: st, M) o9 := pj_xs (s51_384)
theorem q51_386 : pj_row 51 386 = some (.ldc 40, 2, 0, 0, 102000) := by decide +kernel
theorem s51_386 {L : pj_Loc} {st : List Value} {M : pj_Mem}  : pj_step 51 (386, L, st, M) = some (388, L, .int 102000 :: st, M) := st_ldc q51_386 (by decide +kernel)
theorem x51_386 {L : pj_Loc} {st : List Value} {M : pj_Mem}  {o9 : Option Value × pj_Mem} : pj_Ends 51 (386, L, st, M) o9 = pj_Ends 51 (388, L, .int 102000 :: st, M) o9 := pj_xs (s51_386)
theorem q51_388 : pj_row 51 388 = some (.if_icmp .gt 7, 3, 395, 0, 0) := by decide +kernel
theorem s51_388 {L : pj_Loc} {st : List Value} {M : pj_Mem} {x y : Int32} : pj_step 51 (388, L, .int y :: .int x :: st, M) = some (if y < x then 395 else 391, L, st, M) := st_icmp_gt q51_388
theorem x51_388 {L : pj_Loc} {st : List Value} {M : pj_Mem} {x y : Int32} {o9 : Option Value × pj_Mem} : pj_Ends 51 (388, L, .int y :: .int x :: st, M) o9 = pj_Ends 51 (if y < x then 395 else 391, L, st, M) o9 := pj_xs (s51_388)
theorem q51_391 : pj_row 51 391 = some (.iconst 1, 1, 0, 0, 0) := by decide +kernel
theorem s51_391 {L : pj_Loc} {st : List Value} {M : pj_Mem}  : pj_step 51 (391, L, st, M) = some (392, L, .int 1 :: st, M) := st_iconst q51_391 (by decide +kernel)
theorem x51_391 {L : pj_Loc} {st : List Value} {M : pj_Mem}  {o9 : Option Value × pj_Mem} : pj_Ends 51 (391, L, st, M) o9 = pj_Ends 51 (392, L, .int 1 :: st, M) o9 := pj_xs (s51_391)
theorem q51_392 : pj_row 51 392 = some (.goto 4, 3, 396, 0, 0) := by decide +kernel
theorem s51_392 {L : pj_Loc} {st : List Value} {M : pj_Mem}  : pj_step 51 (392, L, st, M) = some (396, L, st, M) := st_goto q51_392
theorem x51_392 {L : pj_Loc} {st : List Value} {M : pj_Mem}  {o9 : Option Value × pj_Mem} : pj_Ends 51 (392, L, st, M) o9 = pj_Ends 51 (396, L, st, M) o9 := pj_xs (s51_392)
theorem q51_395 : pj_row 51 395 = some (.iconst 0, 1, 0, 0, 0) := by decide +kernel
theorem s51_395 {L : pj_Loc} {st : List Value} {M : pj_Mem}  : pj_step 51 (395, L, st, M) = some (396, L, .int 0 :: st, M) := st_iconst q51_395 (by decide +kernel)
theorem x51_395 {L : pj_Loc} {st : List Value} {M : pj_Mem}  {o9 : Option Value × pj_Mem} : pj_Ends 51 (395, L, st, M) o9 = pj_Ends 51 (396, L, .int 0 :: st, M) o9 := pj_xs (s51_395)
theorem q51_396 : pj_row 51 396 = some (.ireturn, 1, 0, 0, 0) := by decide +kernel
theorem t51_396 {L : pj_Loc} {M : pj_Mem} {v : Int32} (hv : v = 0 ∨ v = 1) : pj_Ends 51 (396, L, [.int v], M) (some (.int v), M) := pj_Ends.ret q51_396 (pj_rtn_z rt51 hv)
theorem rt52 : pj_rt 52 = some .int := rfl
theorem q52_0 : pj_row 52 0 = some (.iload_n 1, 1, 0, 0, 0) := by decide +kernel
theorem s52_0 {st : List Value} {M : pj_Mem} {l : pj_Loc} {a0 : Option Value} {x : Int32} : pj_step 52 (0, a0 :: some (.int x) :: l, st, M) = some (1, a0 :: some (.int x) :: l, .int x :: st, M) := st_iload_n q52_0 rfl
theorem x52_0 {st : List Value} {M : pj_Mem} {l : pj_Loc} {a0 : Option Value} {x : Int32} {o9 : Option Value × pj_Mem} : pj_Ends 52 (0, a0 :: some (.int x) :: l, st, M) o9 = pj_Ends 52 (1, a0 :: some (.int x) :: l, .int x :: st, M) o9 := pj_xs (s52_0)
theorem q52_1 : pj_row 52 1 = some (.iload_n 2, 1, 0, 0, 0) := by decide +kernel
theorem s52_1 {st : List Value} {M : pj_Mem} {l : pj_Loc} {a0 a1 : Option Value} {x : Int32} : pj_step 52 (1, a0 :: a1 :: some (.int x) :: l, st, M) = some (2, a0 :: a1 :: some (.int x) :: l, .int x :: st, M) := st_iload_n q52_1 rfl
theorem x52_1 {st : List Value} {M : pj_Mem} {l : pj_Loc} {a0 a1 : Option Value} {x : Int32} {o9 : Option Value × pj_Mem} : pj_Ends 52 (1, a0 :: a1 :: some (.int x) :: l, st, M) o9 = pj_Ends 52 (2, a0 :: a1 :: some (.int x) :: l, .int x :: st, M) o9 := pj_xs (s52_1)
theorem q52_2 : pj_row 52 2 = some (.iload_n 3, 1, 0, 0, 0) := by decide +kernel
theorem s52_2 {st : List Value} {M : pj_Mem} {l : pj_Loc} {a0 a1 a2 : Option Value} {x : Int32} : pj_step 52 (2, a0 :: a1 :: a2 :: some (.int x) :: l, st, M) = some (3, a0 :: a1 :: a2 :: some (.int x) :: l, .int x :: st, M) := st_iload_n q52_2 rfl
theorem x52_2 {st : List Value} {M : pj_Mem} {l : pj_Loc} {a0 a1 a2 : Option Value} {x : Int32} {o9 : Option Value × pj_Mem} : pj_Ends 52 (2, a0 :: a1 :: a2 :: some (.int x) :: l, st, M) o9 = pj_Ends 52 (3, a0 :: a1 :: a2 :: some (.int x) :: l, .int x :: st, M) o9 := pj_xs (s52_2)
theorem q52_3 : pj_row 52 3 = some (.invokestatic 61, 3, 53, 3, 0) := by decide +kernel
theorem e52_3 {L : pj_Loc} {st : List Value} {N S : Nat} {H : pj_Heap} {o : Option Value × pj_Mem} {M' : pj_Mem} {x0 : Int32} {x1 : Int32} {x2 : Int32} {r : Int32} (h4 : pj_le4 st = true) (h1 : pj_Ends 53 (0, [some (.int x0), some (.int x1), some (.int x2)], [], (N, S, H)) (some (.int r), M')) (h2 : pj_Ends 52 (6, L, .int r :: st, M') o) : pj_Ends 52 (3, L, .int x2 :: .int x1 :: .int x0 :: st, (N, S, H)) o := ec_s3 q52_3 (Or.inl rfl) h4 rfl h1 h2
theorem q52_6 : pj_row 52 6 = some (.ifCond .ne 6, 3, 12, 0, 0) := by decide +kernel
theorem s52_6 {L : pj_Loc} {st : List Value} {M : pj_Mem} {x : Int32} : pj_step 52 (6, L, .int x :: st, M) = some (if ¬ x = 0 then 12 else 9, L, st, M) := st_if_ne q52_6
theorem x52_6 {L : pj_Loc} {st : List Value} {M : pj_Mem} {x : Int32} {o9 : Option Value × pj_Mem} : pj_Ends 52 (6, L, .int x :: st, M) o9 = pj_Ends 52 (if ¬ x = 0 then 12 else 9, L, st, M) o9 := pj_xs (s52_6)
theorem q52_9 : pj_row 52 9 = some (.bipush (-2), 2, 0, 0, 0) := by decide +kernel
theorem s52_9 {L : pj_Loc} {st : List Value} {M : pj_Mem}  : pj_step 52 (9, L, st, M) = some (11, L, .int (-2) :: st, M) := st_bipush q52_9 (by decide +kernel)
theorem x52_9 {L : pj_Loc} {st : List Value} {M : pj_Mem}  {o9 : Option Value × pj_Mem} : pj_Ends 52 (9, L, st, M) o9 = pj_Ends 52 (11, L, .int (-2) :: st, M) o9 := pj_xs (s52_9)
theorem q52_11 : pj_row 52 11 = some (.ireturn, 1, 0, 0, 0) := by decide +kernel
theorem t52_11 {L : pj_Loc} {M : pj_Mem} {v : Int32} : pj_Ends 52 (11, L, [.int v], M) (some (.int v), M) := pj_Ends.ret q52_11 (pj_rtn_i rt52)
theorem q52_12 : pj_row 52 12 = some (.aload_n 0, 1, 0, 0, 0) := by decide +kernel
theorem s52_12 {st : List Value} {M : pj_Mem} {l : pj_Loc} {x : Nat} : pj_step 52 (12, some (.ref x) :: l, st, M) = some (13, some (.ref x) :: l, .ref x :: st, M) := st_aload_n q52_12 rfl
theorem x52_12 {st : List Value} {M : pj_Mem} {l : pj_Loc} {x : Nat} {o9 : Option Value × pj_Mem} : pj_Ends 52 (12, some (.ref x) :: l, st, M) o9 = pj_Ends 52 (13, some (.ref x) :: l, .ref x :: st, M) o9 := pj_xs (s52_12)
theorem q52_13 : pj_row 52 13 = some (.getfield 22, 3, 5, 2, 0) := by decide +kernel
theorem s52_13 {L : pj_Loc} {st : List Value} {N S : Nat} {H : pj_Heap} {o : Nat} : pj_step 52 (13, L, .ref o :: st, (N, S, H)) = pj_pv 16 L st (N, S, H) (pj_fld (H o) 5 2) := st_getfield q52_13
theorem x52_13 {L : pj_Loc} {st : List Value} {N S : Nat} {H : pj_Heap} {o : Nat} {o9 : Option Value × pj_Mem} : pj_Ends 52 (13, L, .ref o :: st, (N, S, H)) o9 = pj_then 52 o9 (pj_pv 16 L st (N, S, H) (pj_fld (H o) 5 2)) := pj_xt q52_13 rfl (pj_cl_nc rfl) (s52_13)
theorem q52_16 : pj_row 52 16 = some (.aload_n 0, 1, 0, 0, 0) := by decide +kernel
theorem s52_16 {st : List Value} {M : pj_Mem} {l : pj_Loc} {x : Nat} : pj_step 52 (16, some (.ref x) :: l, st, M) = some (17, some (.ref x) :: l, .ref x :: st, M) := st_aload_n q52_16 rfl
theorem x52_16 {st : List Value} {M : pj_Mem} {l : pj_Loc} {x : Nat} {o9 : Option Value × pj_Mem} : pj_Ends 52 (16, some (.ref x) :: l, st, M) o9 = pj_Ends 52 (17, some (.ref x) :: l, .ref x :: st, M) o9 := pj_xs (s52_16)
theorem q52_17 : pj_row 52 17 = some (.getfield 10, 3, 5, 0, 0) := by decide +kernel
theorem s52_17 {L : pj_Loc} {st : List Value} {N S : Nat} {H : pj_Heap} {o : Nat} : pj_step 52 (17, L, .ref o :: st, (N, S, H)) = pj_pv 20 L st (N, S, H) (pj_fld (H o) 5 0) := st_getfield q52_17
theorem x52_17 {L : pj_Loc} {st : List Value} {N S : Nat} {H : pj_Heap} {o : Nat} {o9 : Option Value × pj_Mem} : pj_Ends 52 (17, L, .ref o :: st, (N, S, H)) o9 = pj_then 52 o9 (pj_pv 20 L st (N, S, H) (pj_fld (H o) 5 0)) := pj_xt q52_17 rfl (pj_cl_nc rfl) (s52_17)
theorem q52_20 : pj_row 52 20 = some (.iload_n 1, 1, 0, 0, 0) := by decide +kernel
theorem s52_20 {st : List Value} {M : pj_Mem} {l : pj_Loc} {a0 : Option Value} {x : Int32} : pj_step 52 (20, a0 :: some (.int x) :: l, st, M) = some (21, a0 :: some (.int x) :: l, .int x :: st, M) := st_iload_n q52_20 rfl
theorem x52_20 {st : List Value} {M : pj_Mem} {l : pj_Loc} {a0 : Option Value} {x : Int32} {o9 : Option Value × pj_Mem} : pj_Ends 52 (20, a0 :: some (.int x) :: l, st, M) o9 = pj_Ends 52 (21, a0 :: some (.int x) :: l, .int x :: st, M) o9 := pj_xs (s52_20)
theorem q52_21 : pj_row 52 21 = some (.iload_n 2, 1, 0, 0, 0) := by decide +kernel
theorem s52_21 {st : List Value} {M : pj_Mem} {l : pj_Loc} {a0 a1 : Option Value} {x : Int32} : pj_step 52 (21, a0 :: a1 :: some (.int x) :: l, st, M) = some (22, a0 :: a1 :: some (.int x) :: l, .int x :: st, M) := st_iload_n q52_21 rfl
theorem x52_21 {st : List Value} {M : pj_Mem} {l : pj_Loc} {a0 a1 : Option Value} {x : Int32} {o9 : Option Value × pj_Mem} : pj_Ends 52 (21, a0 :: a1 :: some (.int x) :: l, st, M) o9 = pj_Ends 52 (22, a0 :: a1 :: some (.int x) :: l, .int x :: st, M) o9 := pj_xs (s52_21)
theorem q52_22 : pj_row 52 22 = some (.iload_n 3, 1, 0, 0, 0) := by decide +kernel
theorem s52_22 {st : List Value} {M : pj_Mem} {l : pj_Loc} {a0 a1 a2 : Option Value} {x : Int32} : pj_step 52 (22, a0 :: a1 :: a2 :: some (.int x) :: l, st, M) = some (23, a0 :: a1 :: a2 :: some (.int x) :: l, .int x :: st, M) := st_iload_n q52_22 rfl
theorem x52_22 {st : List Value} {M : pj_Mem} {l : pj_Loc} {a0 a1 a2 : Option Value} {x : Int32} {o9 : Option Value × pj_Mem} : pj_Ends 52 (22, a0 :: a1 :: a2 :: some (.int x) :: l, st, M) o9 = pj_Ends 52 (23, a0 :: a1 :: a2 :: some (.int x) :: l, .int x :: st, M) o9 := pj_xs (s52_22)
theorem q52_23 : pj_row 52 23 = some (.iload 4, 2, 0, 0, 0) := by decide +kernel
theorem s52_23 {st : List Value} {M : pj_Mem} {l : pj_Loc} {a0 a1 a2 a3 : Option Value} {x : Int32} : pj_step 52 (23, a0 :: a1 :: a2 :: a3 :: some (.int x) :: l, st, M) = some (25, a0 :: a1 :: a2 :: a3 :: some (.int x) :: l, .int x :: st, M) := st_iload q52_23 rfl
theorem x52_23 {st : List Value} {M : pj_Mem} {l : pj_Loc} {a0 a1 a2 a3 : Option Value} {x : Int32} {o9 : Option Value × pj_Mem} : pj_Ends 52 (23, a0 :: a1 :: a2 :: a3 :: some (.int x) :: l, st, M) o9 = pj_Ends 52 (25, a0 :: a1 :: a2 :: a3 :: some (.int x) :: l, .int x :: st, M) o9 := pj_xs (s52_23)
theorem q52_25 : pj_row 52 25 = some (.invokevirtual 151, 3, 15, 6, 0) := by decide +kernel
theorem e52_25 {L : pj_Loc} {st : List Value} {N S : Nat} {H : pj_Heap} {o : Option Value × pj_Mem} {M' : pj_Mem} {x0 : Nat} {x1 : Nat} {x2 : Int32} {x3 : Int32} {x4 : Int32} {x5 : Int32} (h4 : pj_le4 st = true) (hu : pj_isU 3 (H x0) = true) (h1 : pj_Ends 15 (0, [some (.ref x0), some (.ref x1), some (.int x2), some (.int x3), some (.int x4), some (.int x5)], [], (N, S, H)) (none, M')) (h2 : pj_Ends 52 (28, L, st, M') o) : pj_Ends 52 (25, L, .int x5 :: .int x4 :: .int x3 :: .int x2 :: .ref x1 :: .ref x0 :: st, (N, S, H)) o := ec_v6 q52_25 (Or.inl rfl) h4 hu rfl h1 h2
theorem q52_28 : pj_row 52 28 = some (.iload 5, 2, 0, 0, 0) := by decide +kernel
theorem s52_28 {st : List Value} {M : pj_Mem} {l : pj_Loc} {a0 a1 a2 a3 a4 : Option Value} {x : Int32} : pj_step 52 (28, a0 :: a1 :: a2 :: a3 :: a4 :: some (.int x) :: l, st, M) = some (30, a0 :: a1 :: a2 :: a3 :: a4 :: some (.int x) :: l, .int x :: st, M) := st_iload q52_28 rfl
theorem x52_28 {st : List Value} {M : pj_Mem} {l : pj_Loc} {a0 a1 a2 a3 a4 : Option Value} {x : Int32} {o9 : Option Value × pj_Mem} : pj_Ends 52 (28, a0 :: a1 :: a2 :: a3 :: a4 :: some (.int x) :: l, st, M) o9 = pj_Ends 52 (30, a0 :: a1 :: a2 :: a3 :: a4 :: some (.int x) :: l, .int x :: st, M) o9 := pj_xs (s52_28)
theorem q52_30 : pj_row 52 30 = some (.tableswitch 100 0 5 #[38, 46, 57, 65, 73, 81], 38, 0, 0, 0) := by decide +kernel
theorem s52_30 {L : pj_Loc} {st : List Value} {M : pj_Mem} {x : Int32} : pj_step 52 (30, L, .int x :: st, M) = some (if x = 0 then 68 else if x = 1 then 76 else if x = 2 then 87 else if x = 3 then 95 else if x = 4 then 103 else if x = 5 then 111 else 130, L, st, M) := by
  rw [st_tsw q52_30]
  unfold pj_tsw
  by_cases hr : x.toInt < 0 ∨ 5 < x.toInt
  · simp only
    rw [if_pos hr]
    rw [if_neg (show ¬ x = 0 from fun e => by rw [e] at hr; revert hr; decide)]
    rw [if_neg (show ¬ x = 1 from fun e => by rw [e] at hr; revert hr; decide)]
    rw [if_neg (show ¬ x = 2 from fun e => by rw [e] at hr; revert hr; decide)]
    rw [if_neg (show ¬ x = 3 from fun e => by rw [e] at hr; revert hr; decide)]
    rw [if_neg (show ¬ x = 4 from fun e => by rw [e] at hr; revert hr; decide)]
    rw [if_neg (show ¬ x = 5 from fun e => by rw [e] at hr; revert hr; decide)]
    rfl
  · have h3 : x.toInt = 0 ∨ x.toInt = 1 ∨ x.toInt = 2 ∨ x.toInt = 3 ∨ x.toInt = 4 ∨ x.toInt = 5 := by omega
    rcases h3 with h3 | h3 | h3 | h3 | h3 | h3
    · have e : x = 0 := Int32.toInt_inj.mp (h3.trans (by decide))
      subst e
      rfl
    · have e : x = 1 := Int32.toInt_inj.mp (h3.trans (by decide))
      subst e
      rfl
    · have e : x = 2 := Int32.toInt_inj.mp (h3.trans (by decide))
      subst e
      rfl
    · have e : x = 3 := Int32.toInt_inj.mp (h3.trans (by decide))
      subst e
      rfl
    · have e : x = 4 := Int32.toInt_inj.mp (h3.trans (by decide))
      subst e
      rfl
    · have e : x = 5 := Int32.toInt_inj.mp (h3.trans (by decide))
      subst e
      rfl
theorem x52_30 {L : pj_Loc} {st : List Value} {M : pj_Mem} {x : Int32} {o9 : Option Value × pj_Mem} : pj_Ends 52 (30, L, .int x :: st, M) o9 = pj_Ends 52 (if x = 0 then 68 else if x = 1 then 76 else if x = 2 then 87 else if x = 3 then 95 else if x = 4 then 103 else if x = 5 then 111 else 130, L, st, M) o9 := pj_xs (s52_30)
theorem q52_68 : pj_row 52 68 = some (.aload_n 0, 1, 0, 0, 0) := by decide +kernel
theorem s52_68 {st : List Value} {M : pj_Mem} {l : pj_Loc} {x : Nat} : pj_step 52 (68, some (.ref x) :: l, st, M) = some (69, some (.ref x) :: l, .ref x :: st, M) := st_aload_n q52_68 rfl
theorem x52_68 {st : List Value} {M : pj_Mem} {l : pj_Loc} {x : Nat} {o9 : Option Value × pj_Mem} : pj_Ends 52 (68, some (.ref x) :: l, st, M) o9 = pj_Ends 52 (69, some (.ref x) :: l, .ref x :: st, M) o9 := pj_xs (s52_68)
theorem q52_69 : pj_row 52 69 = some (.getfield 22, 3, 5, 2, 0) := by decide +kernel
theorem s52_69 {L : pj_Loc} {st : List Value} {N S : Nat} {H : pj_Heap} {o : Nat} : pj_step 52 (69, L, .ref o :: st, (N, S, H)) = pj_pv 72 L st (N, S, H) (pj_fld (H o) 5 2) := st_getfield q52_69
theorem x52_69 {L : pj_Loc} {st : List Value} {N S : Nat} {H : pj_Heap} {o : Nat} {o9 : Option Value × pj_Mem} : pj_Ends 52 (69, L, .ref o :: st, (N, S, H)) o9 = pj_then 52 o9 (pj_pv 72 L st (N, S, H) (pj_fld (H o) 5 2)) := pj_xt q52_69 rfl (pj_cl_nc rfl) (s52_69)
theorem q52_72 : pj_row 52 72 = some (.getfield 155, 3, 3, 13, 0) := by decide +kernel
theorem s52_72 {L : pj_Loc} {st : List Value} {N S : Nat} {H : pj_Heap} {o : Nat} : pj_step 52 (72, L, .ref o :: st, (N, S, H)) = pj_pv 75 L st (N, S, H) (pj_fld (H o) 3 13) := st_getfield q52_72
theorem x52_72 {L : pj_Loc} {st : List Value} {N S : Nat} {H : pj_Heap} {o : Nat} {o9 : Option Value × pj_Mem} : pj_Ends 52 (72, L, .ref o :: st, (N, S, H)) o9 = pj_then 52 o9 (pj_pv 75 L st (N, S, H) (pj_fld (H o) 3 13)) := pj_xt q52_72 rfl (pj_cl_nc rfl) (s52_72)
theorem q52_75 : pj_row 52 75 = some (.ireturn, 1, 0, 0, 0) := by decide +kernel
theorem t52_75 {L : pj_Loc} {M : pj_Mem} {v : Int32} : pj_Ends 52 (75, L, [.int v], M) (some (.int v), M) := pj_Ends.ret q52_75 (pj_rtn_i rt52)
theorem q52_76 : pj_row 52 76 = some (.aload_n 0, 1, 0, 0, 0) := by decide +kernel
theorem s52_76 {st : List Value} {M : pj_Mem} {l : pj_Loc} {x : Nat} : pj_step 52 (76, some (.ref x) :: l, st, M) = some (77, some (.ref x) :: l, .ref x :: st, M) := st_aload_n q52_76 rfl
theorem x52_76 {st : List Value} {M : pj_Mem} {l : pj_Loc} {x : Nat} {o9 : Option Value × pj_Mem} : pj_Ends 52 (76, some (.ref x) :: l, st, M) o9 = pj_Ends 52 (77, some (.ref x) :: l, .ref x :: st, M) o9 := pj_xs (s52_76)
theorem q52_77 : pj_row 52 77 = some (.getfield 22, 3, 5, 2, 0) := by decide +kernel
theorem s52_77 {L : pj_Loc} {st : List Value} {N S : Nat} {H : pj_Heap} {o : Nat} : pj_step 52 (77, L, .ref o :: st, (N, S, H)) = pj_pv 80 L st (N, S, H) (pj_fld (H o) 5 2) := st_getfield q52_77
theorem x52_77 {L : pj_Loc} {st : List Value} {N S : Nat} {H : pj_Heap} {o : Nat} {o9 : Option Value × pj_Mem} : pj_Ends 52 (77, L, .ref o :: st, (N, S, H)) o9 = pj_then 52 o9 (pj_pv 80 L st (N, S, H) (pj_fld (H o) 5 2)) := pj_xt q52_77 rfl (pj_cl_nc rfl) (s52_77)
theorem q52_80 : pj_row 52 80 = some (.getfield 158, 3, 3, 9, 0) := by decide +kernel
theorem s52_80 {L : pj_Loc} {st : List Value} {N S : Nat} {H : pj_Heap} {o : Nat} : pj_step 52 (80, L, .ref o :: st, (N, S, H)) = pj_pv 83 L st (N, S, H) (pj_fld (H o) 3 9) := st_getfield q52_80
theorem x52_80 {L : pj_Loc} {st : List Value} {N S : Nat} {H : pj_Heap} {o : Nat} {o9 : Option Value × pj_Mem} : pj_Ends 52 (80, L, .ref o :: st, (N, S, H)) o9 = pj_then 52 o9 (pj_pv 83 L st (N, S, H) (pj_fld (H o) 3 9)) := pj_xt q52_80 rfl (pj_cl_nc rfl) (s52_80)
theorem q52_83 : pj_row 52 83 = some (.ldc 69, 2, 0, 0, 100000) := by decide +kernel
theorem s52_83 {L : pj_Loc} {st : List Value} {M : pj_Mem}  : pj_step 52 (83, L, st, M) = some (85, L, .int 100000 :: st, M) := st_ldc q52_83 (by decide +kernel)
theorem x52_83 {L : pj_Loc} {st : List Value} {M : pj_Mem}  {o9 : Option Value × pj_Mem} : pj_Ends 52 (83, L, st, M) o9 = pj_Ends 52 (85, L, .int 100000 :: st, M) o9 := pj_xs (s52_83)
theorem q52_85 : pj_row 52 85 = some (.iadd, 1, 0, 0, 0) := by decide +kernel
theorem s52_85 {L : pj_Loc} {st : List Value} {M : pj_Mem} {x y : Int32} : pj_step 52 (85, L, .int y :: .int x :: st, M) = some (86, L, .int (x + y) :: st, M) := st_iadd q52_85
theorem x52_85 {L : pj_Loc} {st : List Value} {M : pj_Mem} {x y : Int32} {o9 : Option Value × pj_Mem} : pj_Ends 52 (85, L, .int y :: .int x :: st, M) o9 = pj_Ends 52 (86, L, .int (x + y) :: st, M) o9 := pj_xs (s52_85)
theorem q52_86 : pj_row 52 86 = some (.ireturn, 1, 0, 0, 0) := by decide +kernel
theorem t52_86 {L : pj_Loc} {M : pj_Mem} {v : Int32} : pj_Ends 52 (86, L, [.int v], M) (some (.int v), M) := pj_Ends.ret q52_86 (pj_rtn_i rt52)
theorem q52_87 : pj_row 52 87 = some (.aload_n 0, 1, 0, 0, 0) := by decide +kernel
theorem s52_87 {st : List Value} {M : pj_Mem} {l : pj_Loc} {x : Nat} : pj_step 52 (87, some (.ref x) :: l, st, M) = some (88, some (.ref x) :: l, .ref x :: st, M) := st_aload_n q52_87 rfl
theorem x52_87 {st : List Value} {M : pj_Mem} {l : pj_Loc} {x : Nat} {o9 : Option Value × pj_Mem} : pj_Ends 52 (87, some (.ref x) :: l, st, M) o9 = pj_Ends 52 (88, some (.ref x) :: l, .ref x :: st, M) o9 := pj_xs (s52_87)
theorem q52_88 : pj_row 52 88 = some (.getfield 22, 3, 5, 2, 0) := by decide +kernel
theorem s52_88 {L : pj_Loc} {st : List Value} {N S : Nat} {H : pj_Heap} {o : Nat} : pj_step 52 (88, L, .ref o :: st, (N, S, H)) = pj_pv 91 L st (N, S, H) (pj_fld (H o) 5 2) := st_getfield q52_88
theorem x52_88 {L : pj_Loc} {st : List Value} {N S : Nat} {H : pj_Heap} {o : Nat} {o9 : Option Value × pj_Mem} : pj_Ends 52 (88, L, .ref o :: st, (N, S, H)) o9 = pj_then 52 o9 (pj_pv 91 L st (N, S, H) (pj_fld (H o) 5 2)) := pj_xt q52_88 rfl (pj_cl_nc rfl) (s52_88)
theorem q52_91 : pj_row 52 91 = some (.getfield 161, 3, 3, 8, 0) := by decide +kernel
theorem s52_91 {L : pj_Loc} {st : List Value} {N S : Nat} {H : pj_Heap} {o : Nat} : pj_step 52 (91, L, .ref o :: st, (N, S, H)) = pj_pv 94 L st (N, S, H) (pj_fld (H o) 3 8) := st_getfield q52_91
theorem x52_91 {L : pj_Loc} {st : List Value} {N S : Nat} {H : pj_Heap} {o : Nat} {o9 : Option Value × pj_Mem} : pj_Ends 52 (91, L, .ref o :: st, (N, S, H)) o9 = pj_then 52 o9 (pj_pv 94 L st (N, S, H) (pj_fld (H o) 3 8)) := pj_xt q52_91 rfl (pj_cl_nc rfl) (s52_91)
theorem q52_94 : pj_row 52 94 = some (.ireturn, 1, 0, 0, 0) := by decide +kernel
theorem t52_94 {L : pj_Loc} {M : pj_Mem} {v : Int32} : pj_Ends 52 (94, L, [.int v], M) (some (.int v), M) := pj_Ends.ret q52_94 (pj_rtn_i rt52)
theorem q52_95 : pj_row 52 95 = some (.aload_n 0, 1, 0, 0, 0) := by decide +kernel
theorem s52_95 {st : List Value} {M : pj_Mem} {l : pj_Loc} {x : Nat} : pj_step 52 (95, some (.ref x) :: l, st, M) = some (96, some (.ref x) :: l, .ref x :: st, M) := st_aload_n q52_95 rfl
theorem x52_95 {st : List Value} {M : pj_Mem} {l : pj_Loc} {x : Nat} {o9 : Option Value × pj_Mem} : pj_Ends 52 (95, some (.ref x) :: l, st, M) o9 = pj_Ends 52 (96, some (.ref x) :: l, .ref x :: st, M) o9 := pj_xs (s52_95)
theorem q52_96 : pj_row 52 96 = some (.getfield 22, 3, 5, 2, 0) := by decide +kernel
theorem s52_96 {L : pj_Loc} {st : List Value} {N S : Nat} {H : pj_Heap} {o : Nat} : pj_step 52 (96, L, .ref o :: st, (N, S, H)) = pj_pv 99 L st (N, S, H) (pj_fld (H o) 5 2) := st_getfield q52_96
theorem x52_96 {L : pj_Loc} {st : List Value} {N S : Nat} {H : pj_Heap} {o : Nat} {o9 : Option Value × pj_Mem} : pj_Ends 52 (96, L, .ref o :: st, (N, S, H)) o9 = pj_then 52 o9 (pj_pv 99 L st (N, S, H) (pj_fld (H o) 5 2)) := pj_xt q52_96 rfl (pj_cl_nc rfl) (s52_96)
theorem q52_99 : pj_row 52 99 = some (.getfield 162, 3, 3, 11, 0) := by decide +kernel
theorem s52_99 {L : pj_Loc} {st : List Value} {N S : Nat} {H : pj_Heap} {o : Nat} : pj_step 52 (99, L, .ref o :: st, (N, S, H)) = pj_pv 102 L st (N, S, H) (pj_fld (H o) 3 11) := st_getfield q52_99
theorem x52_99 {L : pj_Loc} {st : List Value} {N S : Nat} {H : pj_Heap} {o : Nat} {o9 : Option Value × pj_Mem} : pj_Ends 52 (99, L, .ref o :: st, (N, S, H)) o9 = pj_then 52 o9 (pj_pv 102 L st (N, S, H) (pj_fld (H o) 3 11)) := pj_xt q52_99 rfl (pj_cl_nc rfl) (s52_99)
theorem q52_102 : pj_row 52 102 = some (.ireturn, 1, 0, 0, 0) := by decide +kernel
theorem t52_102 {L : pj_Loc} {M : pj_Mem} {v : Int32} : pj_Ends 52 (102, L, [.int v], M) (some (.int v), M) := pj_Ends.ret q52_102 (pj_rtn_i rt52)
theorem q52_103 : pj_row 52 103 = some (.aload_n 0, 1, 0, 0, 0) := by decide +kernel
theorem s52_103 {st : List Value} {M : pj_Mem} {l : pj_Loc} {x : Nat} : pj_step 52 (103, some (.ref x) :: l, st, M) = some (104, some (.ref x) :: l, .ref x :: st, M) := st_aload_n q52_103 rfl
theorem x52_103 {st : List Value} {M : pj_Mem} {l : pj_Loc} {x : Nat} {o9 : Option Value × pj_Mem} : pj_Ends 52 (103, some (.ref x) :: l, st, M) o9 = pj_Ends 52 (104, some (.ref x) :: l, .ref x :: st, M) o9 := pj_xs (s52_103)
theorem q52_104 : pj_row 52 104 = some (.getfield 22, 3, 5, 2, 0) := by decide +kernel
theorem s52_104 {L : pj_Loc} {st : List Value} {N S : Nat} {H : pj_Heap} {o : Nat} : pj_step 52 (104, L, .ref o :: st, (N, S, H)) = pj_pv 107 L st (N, S, H) (pj_fld (H o) 5 2) := st_getfield q52_104
theorem x52_104 {L : pj_Loc} {st : List Value} {N S : Nat} {H : pj_Heap} {o : Nat} {o9 : Option Value × pj_Mem} : pj_Ends 52 (104, L, .ref o :: st, (N, S, H)) o9 = pj_then 52 o9 (pj_pv 107 L st (N, S, H) (pj_fld (H o) 5 2)) := pj_xt q52_104 rfl (pj_cl_nc rfl) (s52_104)
theorem q52_107 : pj_row 52 107 = some (.getfield 165, 3, 3, 12, 0) := by decide +kernel
theorem s52_107 {L : pj_Loc} {st : List Value} {N S : Nat} {H : pj_Heap} {o : Nat} : pj_step 52 (107, L, .ref o :: st, (N, S, H)) = pj_pv 110 L st (N, S, H) (pj_fld (H o) 3 12) := st_getfield q52_107
theorem x52_107 {L : pj_Loc} {st : List Value} {N S : Nat} {H : pj_Heap} {o : Nat} {o9 : Option Value × pj_Mem} : pj_Ends 52 (107, L, .ref o :: st, (N, S, H)) o9 = pj_then 52 o9 (pj_pv 110 L st (N, S, H) (pj_fld (H o) 3 12)) := pj_xt q52_107 rfl (pj_cl_nc rfl) (s52_107)
theorem q52_110 : pj_row 52 110 = some (.ireturn, 1, 0, 0, 0) := by decide +kernel
theorem t52_110 {L : pj_Loc} {M : pj_Mem} {v : Int32} : pj_Ends 52 (110, L, [.int v], M) (some (.int v), M) := pj_Ends.ret q52_110 (pj_rtn_i rt52)
theorem q52_111 : pj_row 52 111 = some (.aload_n 0, 1, 0, 0, 0) := by decide +kernel
theorem s52_111 {st : List Value} {M : pj_Mem} {l : pj_Loc} {x : Nat} : pj_step 52 (111, some (.ref x) :: l, st, M) = some (112, some (.ref x) :: l, .ref x :: st, M) := st_aload_n q52_111 rfl
theorem x52_111 {st : List Value} {M : pj_Mem} {l : pj_Loc} {x : Nat} {o9 : Option Value × pj_Mem} : pj_Ends 52 (111, some (.ref x) :: l, st, M) o9 = pj_Ends 52 (112, some (.ref x) :: l, .ref x :: st, M) o9 := pj_xs (s52_111)
theorem q52_112 : pj_row 52 112 = some (.getfield 22, 3, 5, 2, 0) := by decide +kernel
theorem s52_112 {L : pj_Loc} {st : List Value} {N S : Nat} {H : pj_Heap} {o : Nat} : pj_step 52 (112, L, .ref o :: st, (N, S, H)) = pj_pv 115 L st (N, S, H) (pj_fld (H o) 5 2) := st_getfield q52_112
theorem x52_112 {L : pj_Loc} {st : List Value} {N S : Nat} {H : pj_Heap} {o : Nat} {o9 : Option Value × pj_Mem} : pj_Ends 52 (112, L, .ref o :: st, (N, S, H)) o9 = pj_then 52 o9 (pj_pv 115 L st (N, S, H) (pj_fld (H o) 5 2)) := pj_xt q52_112 rfl (pj_cl_nc rfl) (s52_112)
theorem q52_115 : pj_row 52 115 = some (.getfield 168, 3, 3, 10, 0) := by decide +kernel
theorem s52_115 {L : pj_Loc} {st : List Value} {N S : Nat} {H : pj_Heap} {o : Nat} : pj_step 52 (115, L, .ref o :: st, (N, S, H)) = pj_pv 118 L st (N, S, H) (pj_fld (H o) 3 10) := st_getfield q52_115
theorem x52_115 {L : pj_Loc} {st : List Value} {N S : Nat} {H : pj_Heap} {o : Nat} {o9 : Option Value × pj_Mem} : pj_Ends 52 (115, L, .ref o :: st, (N, S, H)) o9 = pj_then 52 o9 (pj_pv 118 L st (N, S, H) (pj_fld (H o) 3 10)) := pj_xt q52_115 rfl (pj_cl_nc rfl) (s52_115)
theorem q52_118 : pj_row 52 118 = some (.ifCond .le 7, 3, 125, 0, 0) := by decide +kernel
theorem s52_118 {L : pj_Loc} {st : List Value} {M : pj_Mem} {x : Int32} : pj_step 52 (118, L, .int x :: st, M) = some (if x ≤ 0 then 125 else 121, L, st, M) := st_if_le q52_118
theorem x52_118 {L : pj_Loc} {st : List Value} {M : pj_Mem} {x : Int32} {o9 : Option Value × pj_Mem} : pj_Ends 52 (118, L, .int x :: st, M) o9 = pj_Ends 52 (if x ≤ 0 then 125 else 121, L, st, M) o9 := pj_xs (s52_118)
theorem q52_121 : pj_row 52 121 = some (.iconst 1, 1, 0, 0, 0) := by decide +kernel
theorem s52_121 {L : pj_Loc} {st : List Value} {M : pj_Mem}  : pj_step 52 (121, L, st, M) = some (122, L, .int 1 :: st, M) := st_iconst q52_121 (by decide +kernel)
theorem x52_121 {L : pj_Loc} {st : List Value} {M : pj_Mem}  {o9 : Option Value × pj_Mem} : pj_Ends 52 (121, L, st, M) o9 = pj_Ends 52 (122, L, .int 1 :: st, M) o9 := pj_xs (s52_121)
theorem q52_122 : pj_row 52 122 = some (.goto 4, 3, 126, 0, 0) := by decide +kernel
theorem s52_122 {L : pj_Loc} {st : List Value} {M : pj_Mem}  : pj_step 52 (122, L, st, M) = some (126, L, st, M) := st_goto q52_122
theorem x52_122 {L : pj_Loc} {st : List Value} {M : pj_Mem}  {o9 : Option Value × pj_Mem} : pj_Ends 52 (122, L, st, M) o9 = pj_Ends 52 (126, L, st, M) o9 := pj_xs (s52_122)
theorem q52_125 : pj_row 52 125 = some (.iconst 0, 1, 0, 0, 0) := by decide +kernel
theorem s52_125 {L : pj_Loc} {st : List Value} {M : pj_Mem}  : pj_step 52 (125, L, st, M) = some (126, L, .int 0 :: st, M) := st_iconst q52_125 (by decide +kernel)
theorem x52_125 {L : pj_Loc} {st : List Value} {M : pj_Mem}  {o9 : Option Value × pj_Mem} : pj_Ends 52 (125, L, st, M) o9 = pj_Ends 52 (126, L, .int 0 :: st, M) o9 := pj_xs (s52_125)
theorem q52_126 : pj_row 52 126 = some (.invokestatic 116, 3, 9, 1, 0) := by decide +kernel
theorem e52_126 {L : pj_Loc} {st : List Value} {N S : Nat} {H : pj_Heap} {o : Option Value × pj_Mem} {M' : pj_Mem} {x0 : Int32} {r : Int32} (h4 : pj_le4 st = true) (h1 : pj_Ends 9 (0, [some (.int x0)], [], (N, S, H)) (some (.int r), M')) (h2 : pj_Ends 52 (129, L, .int r :: st, M') o) : pj_Ends 52 (126, L, .int x0 :: st, (N, S, H)) o := ec_s1 q52_126 (Or.inl rfl) h4 rfl h1 h2
theorem q52_129 : pj_row 52 129 = some (.ireturn, 1, 0, 0, 0) := by decide +kernel
theorem t52_129 {L : pj_Loc} {M : pj_Mem} {v : Int32} : pj_Ends 52 (129, L, [.int v], M) (some (.int v), M) := pj_Ends.ret q52_129 (pj_rtn_i rt52)
theorem q52_130 : pj_row 52 130 = some (.bipush (-2), 2, 0, 0, 0) := by decide +kernel
theorem s52_130 {L : pj_Loc} {st : List Value} {M : pj_Mem}  : pj_step 52 (130, L, st, M) = some (132, L, .int (-2) :: st, M) := st_bipush q52_130 (by decide +kernel)
theorem x52_130 {L : pj_Loc} {st : List Value} {M : pj_Mem}  {o9 : Option Value × pj_Mem} : pj_Ends 52 (130, L, st, M) o9 = pj_Ends 52 (132, L, .int (-2) :: st, M) o9 := pj_xs (s52_130)
theorem q52_132 : pj_row 52 132 = some (.ireturn, 1, 0, 0, 0) := by decide +kernel
theorem t52_132 {L : pj_Loc} {M : pj_Mem} {v : Int32} : pj_Ends 52 (132, L, [.int v], M) (some (.int v), M) := pj_Ends.ret q52_132 (pj_rtn_i rt52)
theorem rt53 : pj_rt 53 = some .boolean := rfl
theorem q53_0 : pj_row 53 0 = some (.iload_n 0, 1, 0, 0, 0) := by decide +kernel
theorem s53_0 {st : List Value} {M : pj_Mem} {l : pj_Loc} {x : Int32} : pj_step 53 (0, some (.int x) :: l, st, M) = some (1, some (.int x) :: l, .int x :: st, M) := st_iload_n q53_0 rfl
theorem x53_0 {st : List Value} {M : pj_Mem} {l : pj_Loc} {x : Int32} {o9 : Option Value × pj_Mem} : pj_Ends 53 (0, some (.int x) :: l, st, M) o9 = pj_Ends 53 (1, some (.int x) :: l, .int x :: st, M) o9 := pj_xs (s53_0)
theorem q53_1 : pj_row 53 1 = some (.invokestatic 169, 3, 31, 1, 0) := by decide +kernel
theorem e53_1 {L : pj_Loc} {st : List Value} {N S : Nat} {H : pj_Heap} {o : Option Value × pj_Mem} {M' : pj_Mem} {x0 : Int32} {r : Int32} (h4 : pj_le4 st = true) (h1 : pj_Ends 31 (0, [some (.int x0)], [], (N, S, H)) (some (.int r), M')) (h2 : pj_Ends 53 (4, L, .int r :: st, M') o) : pj_Ends 53 (1, L, .int x0 :: st, (N, S, H)) o := ec_s1 q53_1 (Or.inl rfl) h4 rfl h1 h2
theorem q53_4 : pj_row 53 4 = some (.ifCond .eq 21, 3, 25, 0, 0) := by decide +kernel
theorem s53_4 {L : pj_Loc} {st : List Value} {M : pj_Mem} {x : Int32} : pj_step 53 (4, L, .int x :: st, M) = some (if x = 0 then 25 else 7, L, st, M) := st_if_eq q53_4
theorem x53_4 {L : pj_Loc} {st : List Value} {M : pj_Mem} {x : Int32} {o9 : Option Value × pj_Mem} : pj_Ends 53 (4, L, .int x :: st, M) o9 = pj_Ends 53 (if x = 0 then 25 else 7, L, st, M) o9 := pj_xs (s53_4)
theorem q53_7 : pj_row 53 7 = some (.iload_n 1, 1, 0, 0, 0) := by decide +kernel
theorem s53_7 {st : List Value} {M : pj_Mem} {l : pj_Loc} {a0 : Option Value} {x : Int32} : pj_step 53 (7, a0 :: some (.int x) :: l, st, M) = some (8, a0 :: some (.int x) :: l, .int x :: st, M) := st_iload_n q53_7 rfl
theorem x53_7 {st : List Value} {M : pj_Mem} {l : pj_Loc} {a0 : Option Value} {x : Int32} {o9 : Option Value × pj_Mem} : pj_Ends 53 (7, a0 :: some (.int x) :: l, st, M) o9 = pj_Ends 53 (8, a0 :: some (.int x) :: l, .int x :: st, M) o9 := pj_xs (s53_7)
theorem q53_8 : pj_row 53 8 = some (.invokestatic 169, 3, 31, 1, 0) := by decide +kernel
theorem e53_8 {L : pj_Loc} {st : List Value} {N S : Nat} {H : pj_Heap} {o : Option Value × pj_Mem} {M' : pj_Mem} {x0 : Int32} {r : Int32} (h4 : pj_le4 st = true) (h1 : pj_Ends 31 (0, [some (.int x0)], [], (N, S, H)) (some (.int r), M')) (h2 : pj_Ends 53 (11, L, .int r :: st, M') o) : pj_Ends 53 (8, L, .int x0 :: st, (N, S, H)) o := ec_s1 q53_8 (Or.inl rfl) h4 rfl h1 h2
theorem q53_11 : pj_row 53 11 = some (.ifCond .eq 14, 3, 25, 0, 0) := by decide +kernel
theorem s53_11 {L : pj_Loc} {st : List Value} {M : pj_Mem} {x : Int32} : pj_step 53 (11, L, .int x :: st, M) = some (if x = 0 then 25 else 14, L, st, M) := st_if_eq q53_11
theorem x53_11 {L : pj_Loc} {st : List Value} {M : pj_Mem} {x : Int32} {o9 : Option Value × pj_Mem} : pj_Ends 53 (11, L, .int x :: st, M) o9 = pj_Ends 53 (if x = 0 then 25 else 14, L, st, M) o9 := pj_xs (s53_11)
theorem q53_14 : pj_row 53 14 = some (.iload_n 2, 1, 0, 0, 0) := by decide +kernel
theorem s53_14 {st : List Value} {M : pj_Mem} {l : pj_Loc} {a0 a1 : Option Value} {x : Int32} : pj_step 53 (14, a0 :: a1 :: some (.int x) :: l, st, M) = some (15, a0 :: a1 :: some (.int x) :: l, .int x :: st, M) := st_iload_n q53_14 rfl
theorem x53_14 {st : List Value} {M : pj_Mem} {l : pj_Loc} {a0 a1 : Option Value} {x : Int32} {o9 : Option Value × pj_Mem} : pj_Ends 53 (14, a0 :: a1 :: some (.int x) :: l, st, M) o9 = pj_Ends 53 (15, a0 :: a1 :: some (.int x) :: l, .int x :: st, M) o9 := pj_xs (s53_14)
theorem q53_15 : pj_row 53 15 = some (.invokestatic 169, 3, 31, 1, 0) := by decide +kernel
theorem e53_15 {L : pj_Loc} {st : List Value} {N S : Nat} {H : pj_Heap} {o : Option Value × pj_Mem} {M' : pj_Mem} {x0 : Int32} {r : Int32} (h4 : pj_le4 st = true) (h1 : pj_Ends 31 (0, [some (.int x0)], [], (N, S, H)) (some (.int r), M')) (h2 : pj_Ends 53 (18, L, .int r :: st, M') o) : pj_Ends 53 (15, L, .int x0 :: st, (N, S, H)) o := ec_s1 q53_15 (Or.inl rfl) h4 rfl h1 h2
theorem q53_18 : pj_row 53 18 = some (.ifCond .eq 7, 3, 25, 0, 0) := by decide +kernel
theorem s53_18 {L : pj_Loc} {st : List Value} {M : pj_Mem} {x : Int32} : pj_step 53 (18, L, .int x :: st, M) = some (if x = 0 then 25 else 21, L, st, M) := st_if_eq q53_18
theorem x53_18 {L : pj_Loc} {st : List Value} {M : pj_Mem} {x : Int32} {o9 : Option Value × pj_Mem} : pj_Ends 53 (18, L, .int x :: st, M) o9 = pj_Ends 53 (if x = 0 then 25 else 21, L, st, M) o9 := pj_xs (s53_18)
theorem q53_21 : pj_row 53 21 = some (.iconst 1, 1, 0, 0, 0) := by decide +kernel
theorem s53_21 {L : pj_Loc} {st : List Value} {M : pj_Mem}  : pj_step 53 (21, L, st, M) = some (22, L, .int 1 :: st, M) := st_iconst q53_21 (by decide +kernel)
theorem x53_21 {L : pj_Loc} {st : List Value} {M : pj_Mem}  {o9 : Option Value × pj_Mem} : pj_Ends 53 (21, L, st, M) o9 = pj_Ends 53 (22, L, .int 1 :: st, M) o9 := pj_xs (s53_21)
theorem q53_22 : pj_row 53 22 = some (.goto 4, 3, 26, 0, 0) := by decide +kernel
theorem s53_22 {L : pj_Loc} {st : List Value} {M : pj_Mem}  : pj_step 53 (22, L, st, M) = some (26, L, st, M) := st_goto q53_22
theorem x53_22 {L : pj_Loc} {st : List Value} {M : pj_Mem}  {o9 : Option Value × pj_Mem} : pj_Ends 53 (22, L, st, M) o9 = pj_Ends 53 (26, L, st, M) o9 := pj_xs (s53_22)
theorem q53_25 : pj_row 53 25 = some (.iconst 0, 1, 0, 0, 0) := by decide +kernel
theorem s53_25 {L : pj_Loc} {st : List Value} {M : pj_Mem}  : pj_step 53 (25, L, st, M) = some (26, L, .int 0 :: st, M) := st_iconst q53_25 (by decide +kernel)
theorem x53_25 {L : pj_Loc} {st : List Value} {M : pj_Mem}  {o9 : Option Value × pj_Mem} : pj_Ends 53 (25, L, st, M) o9 = pj_Ends 53 (26, L, .int 0 :: st, M) o9 := pj_xs (s53_25)
theorem q53_26 : pj_row 53 26 = some (.ireturn, 1, 0, 0, 0) := by decide +kernel
theorem t53_26 {L : pj_Loc} {M : pj_Mem} {v : Int32} (hv : v = 0 ∨ v = 1) : pj_Ends 53 (26, L, [.int v], M) (some (.int v), M) := pj_Ends.ret q53_26 (pj_rtn_z rt53 hv)
theorem rt54 : pj_rt 54 = some .int := rfl
theorem q54_0 : pj_row 54 0 = some (.iload_n 1, 1, 0, 0, 0) := by decide +kernel
theorem s54_0 {st : List Value} {M : pj_Mem} {l : pj_Loc} {a0 : Option Value} {x : Int32} : pj_step 54 (0, a0 :: some (.int x) :: l, st, M) = some (1, a0 :: some (.int x) :: l, .int x :: st, M) := st_iload_n q54_0 rfl
theorem x54_0 {st : List Value} {M : pj_Mem} {l : pj_Loc} {a0 : Option Value} {x : Int32} {o9 : Option Value × pj_Mem} : pj_Ends 54 (0, a0 :: some (.int x) :: l, st, M) o9 = pj_Ends 54 (1, a0 :: some (.int x) :: l, .int x :: st, M) o9 := pj_xs (s54_0)
theorem q54_1 : pj_row 54 1 = some (.iload_n 2, 1, 0, 0, 0) := by decide +kernel
theorem s54_1 {st : List Value} {M : pj_Mem} {l : pj_Loc} {a0 a1 : Option Value} {x : Int32} : pj_step 54 (1, a0 :: a1 :: some (.int x) :: l, st, M) = some (2, a0 :: a1 :: some (.int x) :: l, .int x :: st, M) := st_iload_n q54_1 rfl
theorem x54_1 {st : List Value} {M : pj_Mem} {l : pj_Loc} {a0 a1 : Option Value} {x : Int32} {o9 : Option Value × pj_Mem} : pj_Ends 54 (1, a0 :: a1 :: some (.int x) :: l, st, M) o9 = pj_Ends 54 (2, a0 :: a1 :: some (.int x) :: l, .int x :: st, M) o9 := pj_xs (s54_1)
theorem q54_2 : pj_row 54 2 = some (.iload_n 3, 1, 0, 0, 0) := by decide +kernel
theorem s54_2 {st : List Value} {M : pj_Mem} {l : pj_Loc} {a0 a1 a2 : Option Value} {x : Int32} : pj_step 54 (2, a0 :: a1 :: a2 :: some (.int x) :: l, st, M) = some (3, a0 :: a1 :: a2 :: some (.int x) :: l, .int x :: st, M) := st_iload_n q54_2 rfl
theorem x54_2 {st : List Value} {M : pj_Mem} {l : pj_Loc} {a0 a1 a2 : Option Value} {x : Int32} {o9 : Option Value × pj_Mem} : pj_Ends 54 (2, a0 :: a1 :: a2 :: some (.int x) :: l, st, M) o9 = pj_Ends 54 (3, a0 :: a1 :: a2 :: some (.int x) :: l, .int x :: st, M) o9 := pj_xs (s54_2)
theorem q54_3 : pj_row 54 3 = some (.invokestatic 61, 3, 53, 3, 0) := by decide +kernel
theorem e54_3 {L : pj_Loc} {st : List Value} {N S : Nat} {H : pj_Heap} {o : Option Value × pj_Mem} {M' : pj_Mem} {x0 : Int32} {x1 : Int32} {x2 : Int32} {r : Int32} (h4 : pj_le4 st = true) (h1 : pj_Ends 53 (0, [some (.int x0), some (.int x1), some (.int x2)], [], (N, S, H)) (some (.int r), M')) (h2 : pj_Ends 54 (6, L, .int r :: st, M') o) : pj_Ends 54 (3, L, .int x2 :: .int x1 :: .int x0 :: st, (N, S, H)) o := ec_s3 q54_3 (Or.inl rfl) h4 rfl h1 h2
theorem q54_6 : pj_row 54 6 = some (.ifCond .ne 6, 3, 12, 0, 0) := by decide +kernel
theorem s54_6 {L : pj_Loc} {st : List Value} {M : pj_Mem} {x : Int32} : pj_step 54 (6, L, .int x :: st, M) = some (if ¬ x = 0 then 12 else 9, L, st, M) := st_if_ne q54_6
theorem x54_6 {L : pj_Loc} {st : List Value} {M : pj_Mem} {x : Int32} {o9 : Option Value × pj_Mem} : pj_Ends 54 (6, L, .int x :: st, M) o9 = pj_Ends 54 (if ¬ x = 0 then 12 else 9, L, st, M) o9 := pj_xs (s54_6)
theorem q54_9 : pj_row 54 9 = some (.bipush (-2), 2, 0, 0, 0) := by decide +kernel
theorem s54_9 {L : pj_Loc} {st : List Value} {M : pj_Mem}  : pj_step 54 (9, L, st, M) = some (11, L, .int (-2) :: st, M) := st_bipush q54_9 (by decide +kernel)
theorem x54_9 {L : pj_Loc} {st : List Value} {M : pj_Mem}  {o9 : Option Value × pj_Mem} : pj_Ends 54 (9, L, st, M) o9 = pj_Ends 54 (11, L, .int (-2) :: st, M) o9 := pj_xs (s54_9)
theorem q54_11 : pj_row 54 11 = some (.ireturn, 1, 0, 0, 0) := by decide +kernel
theorem t54_11 {L : pj_Loc} {M : pj_Mem} {v : Int32} : pj_Ends 54 (11, L, [.int v], M) (some (.int v), M) := pj_Ends.ret q54_11 (pj_rtn_i rt54)
theorem q54_12 : pj_row 54 12 = some (.aload_n 0, 1, 0, 0, 0) := by decide +kernel
theorem s54_12 {st : List Value} {M : pj_Mem} {l : pj_Loc} {x : Nat} : pj_step 54 (12, some (.ref x) :: l, st, M) = some (13, some (.ref x) :: l, .ref x :: st, M) := st_aload_n q54_12 rfl
theorem x54_12 {st : List Value} {M : pj_Mem} {l : pj_Loc} {x : Nat} {o9 : Option Value × pj_Mem} : pj_Ends 54 (12, some (.ref x) :: l, st, M) o9 = pj_Ends 54 (13, some (.ref x) :: l, .ref x :: st, M) o9 := pj_xs (s54_12)
theorem q54_13 : pj_row 54 13 = some (.getfield 10, 3, 5, 0, 0) := by decide +kernel
theorem s54_13 {L : pj_Loc} {st : List Value} {N S : Nat} {H : pj_Heap} {o : Nat} : pj_step 54 (13, L, .ref o :: st, (N, S, H)) = pj_pv 16 L st (N, S, H) (pj_fld (H o) 5 0) := st_getfield q54_13
theorem x54_13 {L : pj_Loc} {st : List Value} {N S : Nat} {H : pj_Heap} {o : Nat} {o9 : Option Value × pj_Mem} : pj_Ends 54 (13, L, .ref o :: st, (N, S, H)) o9 = pj_then 54 o9 (pj_pv 16 L st (N, S, H) (pj_fld (H o) 5 0)) := pj_xt q54_13 rfl (pj_cl_nc rfl) (s54_13)
theorem q54_16 : pj_row 54 16 = some (.getfield 65, 3, 4, 10, 0) := by decide +kernel
theorem s54_16 {L : pj_Loc} {st : List Value} {N S : Nat} {H : pj_Heap} {o : Nat} : pj_step 54 (16, L, .ref o :: st, (N, S, H)) = pj_pv 19 L st (N, S, H) (pj_fld (H o) 4 10) := st_getfield q54_16
theorem x54_16 {L : pj_Loc} {st : List Value} {N S : Nat} {H : pj_Heap} {o : Nat} {o9 : Option Value × pj_Mem} : pj_Ends 54 (16, L, .ref o :: st, (N, S, H)) o9 = pj_then 54 o9 (pj_pv 19 L st (N, S, H) (pj_fld (H o) 4 10)) := pj_xt q54_16 rfl (pj_cl_nc rfl) (s54_16)
theorem q54_19 : pj_row 54 19 = some (.ldc 69, 2, 0, 0, 100000) := by decide +kernel
theorem s54_19 {L : pj_Loc} {st : List Value} {M : pj_Mem}  : pj_step 54 (19, L, st, M) = some (21, L, .int 100000 :: st, M) := st_ldc q54_19 (by decide +kernel)
theorem x54_19 {L : pj_Loc} {st : List Value} {M : pj_Mem}  {o9 : Option Value × pj_Mem} : pj_Ends 54 (19, L, st, M) o9 = pj_Ends 54 (21, L, .int 100000 :: st, M) o9 := pj_xs (s54_19)
theorem q54_21 : pj_row 54 21 = some (.if_icmp .lt 6, 3, 27, 0, 0) := by decide +kernel
theorem s54_21 {L : pj_Loc} {st : List Value} {M : pj_Mem} {x y : Int32} : pj_step 54 (21, L, .int y :: .int x :: st, M) = some (if x < y then 27 else 24, L, st, M) := st_icmp_lt q54_21
theorem x54_21 {L : pj_Loc} {st : List Value} {M : pj_Mem} {x y : Int32} {o9 : Option Value × pj_Mem} : pj_Ends 54 (21, L, .int y :: .int x :: st, M) o9 = pj_Ends 54 (if x < y then 27 else 24, L, st, M) o9 := pj_xs (s54_21)
theorem q54_24 : pj_row 54 24 = some (.bipush (-4), 2, 0, 0, 0) := by decide +kernel
theorem s54_24 {L : pj_Loc} {st : List Value} {M : pj_Mem}  : pj_step 54 (24, L, st, M) = some (26, L, .int (-4) :: st, M) := st_bipush q54_24 (by decide +kernel)
theorem x54_24 {L : pj_Loc} {st : List Value} {M : pj_Mem}  {o9 : Option Value × pj_Mem} : pj_Ends 54 (24, L, st, M) o9 = pj_Ends 54 (26, L, .int (-4) :: st, M) o9 := pj_xs (s54_24)
theorem q54_26 : pj_row 54 26 = some (.ireturn, 1, 0, 0, 0) := by decide +kernel
theorem t54_26 {L : pj_Loc} {M : pj_Mem} {v : Int32} : pj_Ends 54 (26, L, [.int v], M) (some (.int v), M) := pj_Ends.ret q54_26 (pj_rtn_i rt54)
theorem q54_27 : pj_row 54 27 = some (.aload_n 0, 1, 0, 0, 0) := by decide +kernel
theorem s54_27 {st : List Value} {M : pj_Mem} {l : pj_Loc} {x : Nat} : pj_step 54 (27, some (.ref x) :: l, st, M) = some (28, some (.ref x) :: l, .ref x :: st, M) := st_aload_n q54_27 rfl
theorem x54_27 {st : List Value} {M : pj_Mem} {l : pj_Loc} {x : Nat} {o9 : Option Value × pj_Mem} : pj_Ends 54 (27, some (.ref x) :: l, st, M) o9 = pj_Ends 54 (28, some (.ref x) :: l, .ref x :: st, M) o9 := pj_xs (s54_27)
theorem q54_28 : pj_row 54 28 = some (.invokevirtual 55, 3, 43, 1, 0) := by decide +kernel
theorem e54_28 {L : pj_Loc} {st : List Value} {N S : Nat} {H : pj_Heap} {o : Option Value × pj_Mem} {M' : pj_Mem} {x0 : Nat} (h4 : pj_le4 st = true) (hu : pj_isU 5 (H x0) = true) (h1 : pj_Ends 43 (0, [some (.ref x0), none, none], [], (N, S, H)) (none, M')) (h2 : pj_Ends 54 (31, L, st, M') o) : pj_Ends 54 (28, L, .ref x0 :: st, (N, S, H)) o := ec_v1 q54_28 (Or.inl rfl) h4 hu rfl h1 h2
theorem q54_31 : pj_row 54 31 = some (.aload_n 0, 1, 0, 0, 0) := by decide +kernel
theorem s54_31 {st : List Value} {M : pj_Mem} {l : pj_Loc} {x : Nat} : pj_step 54 (31, some (.ref x) :: l, st, M) = some (32, some (.ref x) :: l, .ref x :: st, M) := st_aload_n q54_31 rfl
theorem x54_31 {st : List Value} {M : pj_Mem} {l : pj_Loc} {x : Nat} {o9 : Option Value × pj_Mem} : pj_Ends 54 (31, some (.ref x) :: l, st, M) o9 = pj_Ends 54 (32, some (.ref x) :: l, .ref x :: st, M) o9 := pj_xs (s54_31)
theorem q54_32 : pj_row 54 32 = some (.aload_n 0, 1, 0, 0, 0) := by decide +kernel
theorem s54_32 {st : List Value} {M : pj_Mem} {l : pj_Loc} {x : Nat} : pj_step 54 (32, some (.ref x) :: l, st, M) = some (33, some (.ref x) :: l, .ref x :: st, M) := st_aload_n q54_32 rfl
theorem x54_32 {st : List Value} {M : pj_Mem} {l : pj_Loc} {x : Nat} {o9 : Option Value × pj_Mem} : pj_Ends 54 (32, some (.ref x) :: l, st, M) o9 = pj_Ends 54 (33, some (.ref x) :: l, .ref x :: st, M) o9 := pj_xs (s54_32)
theorem q54_33 : pj_row 54 33 = some (.getfield 10, 3, 5, 0, 0) := by decide +kernel
theorem s54_33 {L : pj_Loc} {st : List Value} {N S : Nat} {H : pj_Heap} {o : Nat} : pj_step 54 (33, L, .ref o :: st, (N, S, H)) = pj_pv 36 L st (N, S, H) (pj_fld (H o) 5 0) := st_getfield q54_33
theorem x54_33 {L : pj_Loc} {st : List Value} {N S : Nat} {H : pj_Heap} {o : Nat} {o9 : Option Value × pj_Mem} : pj_Ends 54 (33, L, .ref o :: st, (N, S, H)) o9 = pj_then 54 o9 (pj_pv 36 L st (N, S, H) (pj_fld (H o) 5 0)) := pj_xt q54_33 rfl (pj_cl_nc rfl) (s54_33)
theorem q54_36 : pj_row 54 36 = some (.iload_n 1, 1, 0, 0, 0) := by decide +kernel
theorem s54_36 {st : List Value} {M : pj_Mem} {l : pj_Loc} {a0 : Option Value} {x : Int32} : pj_step 54 (36, a0 :: some (.int x) :: l, st, M) = some (37, a0 :: some (.int x) :: l, .int x :: st, M) := st_iload_n q54_36 rfl
theorem x54_36 {st : List Value} {M : pj_Mem} {l : pj_Loc} {a0 : Option Value} {x : Int32} {o9 : Option Value × pj_Mem} : pj_Ends 54 (36, a0 :: some (.int x) :: l, st, M) o9 = pj_Ends 54 (37, a0 :: some (.int x) :: l, .int x :: st, M) o9 := pj_xs (s54_36)
theorem q54_37 : pj_row 54 37 = some (.iload_n 2, 1, 0, 0, 0) := by decide +kernel
theorem s54_37 {st : List Value} {M : pj_Mem} {l : pj_Loc} {a0 a1 : Option Value} {x : Int32} : pj_step 54 (37, a0 :: a1 :: some (.int x) :: l, st, M) = some (38, a0 :: a1 :: some (.int x) :: l, .int x :: st, M) := st_iload_n q54_37 rfl
theorem x54_37 {st : List Value} {M : pj_Mem} {l : pj_Loc} {a0 a1 : Option Value} {x : Int32} {o9 : Option Value × pj_Mem} : pj_Ends 54 (37, a0 :: a1 :: some (.int x) :: l, st, M) o9 = pj_Ends 54 (38, a0 :: a1 :: some (.int x) :: l, .int x :: st, M) o9 := pj_xs (s54_37)
theorem q54_38 : pj_row 54 38 = some (.iload_n 3, 1, 0, 0, 0) := by decide +kernel
theorem s54_38 {st : List Value} {M : pj_Mem} {l : pj_Loc} {a0 a1 a2 : Option Value} {x : Int32} : pj_step 54 (38, a0 :: a1 :: a2 :: some (.int x) :: l, st, M) = some (39, a0 :: a1 :: a2 :: some (.int x) :: l, .int x :: st, M) := st_iload_n q54_38 rfl
theorem x54_38 {st : List Value} {M : pj_Mem} {l : pj_Loc} {a0 a1 a2 : Option Value} {x : Int32} {o9 : Option Value × pj_Mem} : pj_Ends 54 (38, a0 :: a1 :: a2 :: some (.int x) :: l, st, M) o9 = pj_Ends 54 (39, a0 :: a1 :: a2 :: some (.int x) :: l, .int x :: st, M) o9 := pj_xs (s54_38)
theorem q54_39 : pj_row 54 39 = some (.iload 4, 2, 0, 0, 0) := by decide +kernel
theorem s54_39 {st : List Value} {M : pj_Mem} {l : pj_Loc} {a0 a1 a2 a3 : Option Value} {x : Int32} : pj_step 54 (39, a0 :: a1 :: a2 :: a3 :: some (.int x) :: l, st, M) = some (41, a0 :: a1 :: a2 :: a3 :: some (.int x) :: l, .int x :: st, M) := st_iload q54_39 rfl
theorem x54_39 {st : List Value} {M : pj_Mem} {l : pj_Loc} {a0 a1 a2 a3 : Option Value} {x : Int32} {o9 : Option Value × pj_Mem} : pj_Ends 54 (39, a0 :: a1 :: a2 :: a3 :: some (.int x) :: l, st, M) o9 = pj_Ends 54 (41, a0 :: a1 :: a2 :: a3 :: some (.int x) :: l, .int x :: st, M) o9 := pj_xs (s54_39)
theorem q54_41 : pj_row 54 41 = some (.invokevirtual 70, 3, 34, 6, 0) := by decide +kernel
theorem e54_41 {L : pj_Loc} {st : List Value} {N S : Nat} {H : pj_Heap} {o : Option Value × pj_Mem} {M' : pj_Mem} {x0 : Nat} {x1 : Nat} {x2 : Int32} {x3 : Int32} {x4 : Int32} {x5 : Int32} {r : Int32} (h4 : pj_le4 st = true) (hu : pj_isU 5 (H x0) = true) (h1 : pj_Ends 34 (0, [some (.ref x0), some (.ref x1), some (.int x2), some (.int x3), some (.int x4), some (.int x5)], [], (N, S, H)) (some (.int r), M')) (h2 : pj_Ends 54 (44, L, .int r :: st, M') o) : pj_Ends 54 (41, L, .int x5 :: .int x4 :: .int x3 :: .int x2 :: .ref x1 :: .ref x0 :: st, (N, S, H)) o := ec_v6 q54_41 (Or.inl rfl) h4 hu rfl h1 h2
theorem q54_44 : pj_row 54 44 = some (.ireturn, 1, 0, 0, 0) := by decide +kernel
theorem t54_44 {L : pj_Loc} {M : pj_Mem} {v : Int32} : pj_Ends 54 (44, L, [.int v], M) (some (.int v), M) := pj_Ends.ret q54_44 (pj_rtn_i rt54)
theorem rt55 : pj_rt 55 = some .int := rfl
theorem q55_0 : pj_row 55 0 = some (.aload_n 0, 1, 0, 0, 0) := by decide +kernel
theorem s55_0 {st : List Value} {M : pj_Mem} {l : pj_Loc} {x : Nat} : pj_step 55 (0, some (.ref x) :: l, st, M) = some (1, some (.ref x) :: l, .ref x :: st, M) := st_aload_n q55_0 rfl
theorem x55_0 {st : List Value} {M : pj_Mem} {l : pj_Loc} {x : Nat} {o9 : Option Value × pj_Mem} : pj_Ends 55 (0, some (.ref x) :: l, st, M) o9 = pj_Ends 55 (1, some (.ref x) :: l, .ref x :: st, M) o9 := pj_xs (s55_0)
theorem q55_1 : pj_row 55 1 = some (.iload_n 1, 1, 0, 0, 0) := by decide +kernel
theorem s55_1 {st : List Value} {M : pj_Mem} {l : pj_Loc} {a0 : Option Value} {x : Int32} : pj_step 55 (1, a0 :: some (.int x) :: l, st, M) = some (2, a0 :: some (.int x) :: l, .int x :: st, M) := st_iload_n q55_1 rfl
theorem x55_1 {st : List Value} {M : pj_Mem} {l : pj_Loc} {a0 : Option Value} {x : Int32} {o9 : Option Value × pj_Mem} : pj_Ends 55 (1, a0 :: some (.int x) :: l, st, M) o9 = pj_Ends 55 (2, a0 :: some (.int x) :: l, .int x :: st, M) o9 := pj_xs (s55_1)
theorem q55_2 : pj_row 55 2 = some (.iconst 0, 1, 0, 0, 0) := by decide +kernel
theorem s55_2 {L : pj_Loc} {st : List Value} {M : pj_Mem}  : pj_step 55 (2, L, st, M) = some (3, L, .int 0 :: st, M) := st_iconst q55_2 (by decide +kernel)
theorem x55_2 {L : pj_Loc} {st : List Value} {M : pj_Mem}  {o9 : Option Value × pj_Mem} : pj_Ends 55 (2, L, st, M) o9 = pj_Ends 55 (3, L, .int 0 :: st, M) o9 := pj_xs (s55_2)
theorem q55_3 : pj_row 55 3 = some (.iload_n 2, 1, 0, 0, 0) := by decide +kernel
theorem s55_3 {st : List Value} {M : pj_Mem} {l : pj_Loc} {a0 a1 : Option Value} {x : Int32} : pj_step 55 (3, a0 :: a1 :: some (.int x) :: l, st, M) = some (4, a0 :: a1 :: some (.int x) :: l, .int x :: st, M) := st_iload_n q55_3 rfl
theorem x55_3 {st : List Value} {M : pj_Mem} {l : pj_Loc} {a0 a1 : Option Value} {x : Int32} {o9 : Option Value × pj_Mem} : pj_Ends 55 (3, a0 :: a1 :: some (.int x) :: l, st, M) o9 = pj_Ends 55 (4, a0 :: a1 :: some (.int x) :: l, .int x :: st, M) o9 := pj_xs (s55_3)
theorem q55_4 : pj_row 55 4 = some (.iload_n 3, 1, 0, 0, 0) := by decide +kernel
theorem s55_4 {st : List Value} {M : pj_Mem} {l : pj_Loc} {a0 a1 a2 : Option Value} {x : Int32} : pj_step 55 (4, a0 :: a1 :: a2 :: some (.int x) :: l, st, M) = some (5, a0 :: a1 :: a2 :: some (.int x) :: l, .int x :: st, M) := st_iload_n q55_4 rfl
theorem x55_4 {st : List Value} {M : pj_Mem} {l : pj_Loc} {a0 a1 a2 : Option Value} {x : Int32} {o9 : Option Value × pj_Mem} : pj_Ends 55 (4, a0 :: a1 :: a2 :: some (.int x) :: l, st, M) o9 = pj_Ends 55 (5, a0 :: a1 :: a2 :: some (.int x) :: l, .int x :: st, M) o9 := pj_xs (s55_4)
theorem q55_5 : pj_row 55 5 = some (.iload 4, 2, 0, 0, 0) := by decide +kernel
theorem s55_5 {st : List Value} {M : pj_Mem} {l : pj_Loc} {a0 a1 a2 a3 : Option Value} {x : Int32} : pj_step 55 (5, a0 :: a1 :: a2 :: a3 :: some (.int x) :: l, st, M) = some (7, a0 :: a1 :: a2 :: a3 :: some (.int x) :: l, .int x :: st, M) := st_iload q55_5 rfl
theorem x55_5 {st : List Value} {M : pj_Mem} {l : pj_Loc} {a0 a1 a2 a3 : Option Value} {x : Int32} {o9 : Option Value × pj_Mem} : pj_Ends 55 (5, a0 :: a1 :: a2 :: a3 :: some (.int x) :: l, st, M) o9 = pj_Ends 55 (7, a0 :: a1 :: a2 :: a3 :: some (.int x) :: l, .int x :: st, M) o9 := pj_xs (s55_5)
theorem q55_7 : pj_row 55 7 = some (.invokestatic 15, 3, 56, 5, 0) := by decide +kernel
theorem e55_7 {L : pj_Loc} {st : List Value} {N S : Nat} {H : pj_Heap} {o : Option Value × pj_Mem} {M' : pj_Mem} {x0 : Int32} {x1 : Int32} {x2 : Int32} {x3 : Int32} {x4 : Int32} {r : Int32} (h4 : pj_le4 st = true) (h1 : pj_Ends 56 (0, [some (.int x0), some (.int x1), some (.int x2), some (.int x3), some (.int x4)], [], (N, S, H)) (some (.int r), M')) (h2 : pj_Ends 55 (10, L, .int r :: st, M') o) : pj_Ends 55 (7, L, .int x4 :: .int x3 :: .int x2 :: .int x1 :: .int x0 :: st, (N, S, H)) o := ec_s5 q55_7 (Or.inl rfl) h4 rfl h1 h2
theorem q55_10 : pj_row 55 10 = some (.iload_n 1, 1, 0, 0, 0) := by decide +kernel
theorem s55_10 {st : List Value} {M : pj_Mem} {l : pj_Loc} {a0 : Option Value} {x : Int32} : pj_step 55 (10, a0 :: some (.int x) :: l, st, M) = some (11, a0 :: some (.int x) :: l, .int x :: st, M) := st_iload_n q55_10 rfl
theorem x55_10 {st : List Value} {M : pj_Mem} {l : pj_Loc} {a0 : Option Value} {x : Int32} {o9 : Option Value × pj_Mem} : pj_Ends 55 (10, a0 :: some (.int x) :: l, st, M) o9 = pj_Ends 55 (11, a0 :: some (.int x) :: l, .int x :: st, M) o9 := pj_xs (s55_10)
theorem q55_11 : pj_row 55 11 = some (.iconst 1, 1, 0, 0, 0) := by decide +kernel
theorem s55_11 {L : pj_Loc} {st : List Value} {M : pj_Mem}  : pj_step 55 (11, L, st, M) = some (12, L, .int 1 :: st, M) := st_iconst q55_11 (by decide +kernel)
theorem x55_11 {L : pj_Loc} {st : List Value} {M : pj_Mem}  {o9 : Option Value × pj_Mem} : pj_Ends 55 (11, L, st, M) o9 = pj_Ends 55 (12, L, .int 1 :: st, M) o9 := pj_xs (s55_11)
theorem q55_12 : pj_row 55 12 = some (.iload_n 2, 1, 0, 0, 0) := by decide +kernel
theorem s55_12 {st : List Value} {M : pj_Mem} {l : pj_Loc} {a0 a1 : Option Value} {x : Int32} : pj_step 55 (12, a0 :: a1 :: some (.int x) :: l, st, M) = some (13, a0 :: a1 :: some (.int x) :: l, .int x :: st, M) := st_iload_n q55_12 rfl
theorem x55_12 {st : List Value} {M : pj_Mem} {l : pj_Loc} {a0 a1 : Option Value} {x : Int32} {o9 : Option Value × pj_Mem} : pj_Ends 55 (12, a0 :: a1 :: some (.int x) :: l, st, M) o9 = pj_Ends 55 (13, a0 :: a1 :: some (.int x) :: l, .int x :: st, M) o9 := pj_xs (s55_12)
theorem q55_13 : pj_row 55 13 = some (.iload_n 3, 1, 0, 0, 0) := by decide +kernel
theorem s55_13 {st : List Value} {M : pj_Mem} {l : pj_Loc} {a0 a1 a2 : Option Value} {x : Int32} : pj_step 55 (13, a0 :: a1 :: a2 :: some (.int x) :: l, st, M) = some (14, a0 :: a1 :: a2 :: some (.int x) :: l, .int x :: st, M) := st_iload_n q55_13 rfl
theorem x55_13 {st : List Value} {M : pj_Mem} {l : pj_Loc} {a0 a1 a2 : Option Value} {x : Int32} {o9 : Option Value × pj_Mem} : pj_Ends 55 (13, a0 :: a1 :: a2 :: some (.int x) :: l, st, M) o9 = pj_Ends 55 (14, a0 :: a1 :: a2 :: some (.int x) :: l, .int x :: st, M) o9 := pj_xs (s55_13)
theorem q55_14 : pj_row 55 14 = some (.iload 4, 2, 0, 0, 0) := by decide +kernel
theorem s55_14 {st : List Value} {M : pj_Mem} {l : pj_Loc} {a0 a1 a2 a3 : Option Value} {x : Int32} : pj_step 55 (14, a0 :: a1 :: a2 :: a3 :: some (.int x) :: l, st, M) = some (16, a0 :: a1 :: a2 :: a3 :: some (.int x) :: l, .int x :: st, M) := st_iload q55_14 rfl
theorem x55_14 {st : List Value} {M : pj_Mem} {l : pj_Loc} {a0 a1 a2 a3 : Option Value} {x : Int32} {o9 : Option Value × pj_Mem} : pj_Ends 55 (14, a0 :: a1 :: a2 :: a3 :: some (.int x) :: l, st, M) o9 = pj_Ends 55 (16, a0 :: a1 :: a2 :: a3 :: some (.int x) :: l, .int x :: st, M) o9 := pj_xs (s55_14)
theorem q55_16 : pj_row 55 16 = some (.invokestatic 15, 3, 56, 5, 0) := by decide +kernel
theorem e55_16 {L : pj_Loc} {st : List Value} {N S : Nat} {H : pj_Heap} {o : Option Value × pj_Mem} {M' : pj_Mem} {x0 : Int32} {x1 : Int32} {x2 : Int32} {x3 : Int32} {x4 : Int32} {r : Int32} (h4 : pj_le4 st = true) (h1 : pj_Ends 56 (0, [some (.int x0), some (.int x1), some (.int x2), some (.int x3), some (.int x4)], [], (N, S, H)) (some (.int r), M')) (h2 : pj_Ends 55 (19, L, .int r :: st, M') o) : pj_Ends 55 (16, L, .int x4 :: .int x3 :: .int x2 :: .int x1 :: .int x0 :: st, (N, S, H)) o := ec_s5 q55_16 (Or.inl rfl) h4 rfl h1 h2
theorem q55_19 : pj_row 55 19 = some (.iload_n 1, 1, 0, 0, 0) := by decide +kernel
theorem s55_19 {st : List Value} {M : pj_Mem} {l : pj_Loc} {a0 : Option Value} {x : Int32} : pj_step 55 (19, a0 :: some (.int x) :: l, st, M) = some (20, a0 :: some (.int x) :: l, .int x :: st, M) := st_iload_n q55_19 rfl
theorem x55_19 {st : List Value} {M : pj_Mem} {l : pj_Loc} {a0 : Option Value} {x : Int32} {o9 : Option Value × pj_Mem} : pj_Ends 55 (19, a0 :: some (.int x) :: l, st, M) o9 = pj_Ends 55 (20, a0 :: some (.int x) :: l, .int x :: st, M) o9 := pj_xs (s55_19)
theorem q55_20 : pj_row 55 20 = some (.iconst 2, 1, 0, 0, 0) := by decide +kernel
theorem s55_20 {L : pj_Loc} {st : List Value} {M : pj_Mem}  : pj_step 55 (20, L, st, M) = some (21, L, .int 2 :: st, M) := st_iconst q55_20 (by decide +kernel)
theorem x55_20 {L : pj_Loc} {st : List Value} {M : pj_Mem}  {o9 : Option Value × pj_Mem} : pj_Ends 55 (20, L, st, M) o9 = pj_Ends 55 (21, L, .int 2 :: st, M) o9 := pj_xs (s55_20)
theorem q55_21 : pj_row 55 21 = some (.iload_n 2, 1, 0, 0, 0) := by decide +kernel
theorem s55_21 {st : List Value} {M : pj_Mem} {l : pj_Loc} {a0 a1 : Option Value} {x : Int32} : pj_step 55 (21, a0 :: a1 :: some (.int x) :: l, st, M) = some (22, a0 :: a1 :: some (.int x) :: l, .int x :: st, M) := st_iload_n q55_21 rfl
theorem x55_21 {st : List Value} {M : pj_Mem} {l : pj_Loc} {a0 a1 : Option Value} {x : Int32} {o9 : Option Value × pj_Mem} : pj_Ends 55 (21, a0 :: a1 :: some (.int x) :: l, st, M) o9 = pj_Ends 55 (22, a0 :: a1 :: some (.int x) :: l, .int x :: st, M) o9 := pj_xs (s55_21)
theorem q55_22 : pj_row 55 22 = some (.iload_n 3, 1, 0, 0, 0) := by decide +kernel
theorem s55_22 {st : List Value} {M : pj_Mem} {l : pj_Loc} {a0 a1 a2 : Option Value} {x : Int32} : pj_step 55 (22, a0 :: a1 :: a2 :: some (.int x) :: l, st, M) = some (23, a0 :: a1 :: a2 :: some (.int x) :: l, .int x :: st, M) := st_iload_n q55_22 rfl
theorem x55_22 {st : List Value} {M : pj_Mem} {l : pj_Loc} {a0 a1 a2 : Option Value} {x : Int32} {o9 : Option Value × pj_Mem} : pj_Ends 55 (22, a0 :: a1 :: a2 :: some (.int x) :: l, st, M) o9 = pj_Ends 55 (23, a0 :: a1 :: a2 :: some (.int x) :: l, .int x :: st, M) o9 := pj_xs (s55_22)
theorem q55_23 : pj_row 55 23 = some (.iload 4, 2, 0, 0, 0) := by decide +kernel
theorem s55_23 {st : List Value} {M : pj_Mem} {l : pj_Loc} {a0 a1 a2 a3 : Option Value} {x : Int32} : pj_step 55 (23, a0 :: a1 :: a2 :: a3 :: some (.int x) :: l, st, M) = some (25, a0 :: a1 :: a2 :: a3 :: some (.int x) :: l, .int x :: st, M) := st_iload q55_23 rfl
theorem x55_23 {st : List Value} {M : pj_Mem} {l : pj_Loc} {a0 a1 a2 a3 : Option Value} {x : Int32} {o9 : Option Value × pj_Mem} : pj_Ends 55 (23, a0 :: a1 :: a2 :: a3 :: some (.int x) :: l, st, M) o9 = pj_Ends 55 (25, a0 :: a1 :: a2 :: a3 :: some (.int x) :: l, .int x :: st, M) o9 := pj_xs (s55_23)
theorem q55_25 : pj_row 55 25 = some (.invokestatic 15, 3, 56, 5, 0) := by decide +kernel
theorem e55_25 {L : pj_Loc} {st : List Value} {N S : Nat} {H : pj_Heap} {o : Option Value × pj_Mem} {M' : pj_Mem} {x0 : Int32} {x1 : Int32} {x2 : Int32} {x3 : Int32} {x4 : Int32} {r : Int32} (h4 : pj_le4 st = true) (h1 : pj_Ends 56 (0, [some (.int x0), some (.int x1), some (.int x2), some (.int x3), some (.int x4)], [], (N, S, H)) (some (.int r), M')) (h2 : pj_Ends 55 (28, L, .int r :: st, M') o) : pj_Ends 55 (25, L, .int x4 :: .int x3 :: .int x2 :: .int x1 :: .int x0 :: st, (N, S, H)) o := ec_s5 q55_25 (Or.inl rfl) h4 rfl h1 h2
theorem q55_28 : pj_row 55 28 = some (.iload 5, 2, 0, 0, 0) := by decide +kernel
theorem s55_28 {st : List Value} {M : pj_Mem} {l : pj_Loc} {a0 a1 a2 a3 a4 : Option Value} {x : Int32} : pj_step 55 (28, a0 :: a1 :: a2 :: a3 :: a4 :: some (.int x) :: l, st, M) = some (30, a0 :: a1 :: a2 :: a3 :: a4 :: some (.int x) :: l, .int x :: st, M) := st_iload q55_28 rfl
theorem x55_28 {st : List Value} {M : pj_Mem} {l : pj_Loc} {a0 a1 a2 a3 a4 : Option Value} {x : Int32} {o9 : Option Value × pj_Mem} : pj_Ends 55 (28, a0 :: a1 :: a2 :: a3 :: a4 :: some (.int x) :: l, st, M) o9 = pj_Ends 55 (30, a0 :: a1 :: a2 :: a3 :: a4 :: some (.int x) :: l, .int x :: st, M) o9 := pj_xs (s55_28)
theorem q55_30 : pj_row 55 30 = some (.invokevirtual 19, 3, 54, 5, 0) := by decide +kernel
theorem e55_30 {L : pj_Loc} {st : List Value} {N S : Nat} {H : pj_Heap} {o : Option Value × pj_Mem} {M' : pj_Mem} {x0 : Nat} {x1 : Int32} {x2 : Int32} {x3 : Int32} {x4 : Int32} {r : Int32} (h4 : pj_le4 st = true) (hu : pj_isU 5 (H x0) = true) (h1 : pj_Ends 54 (0, [some (.ref x0), some (.int x1), some (.int x2), some (.int x3), some (.int x4)], [], (N, S, H)) (some (.int r), M')) (h2 : pj_Ends 55 (33, L, .int r :: st, M') o) : pj_Ends 55 (30, L, .int x4 :: .int x3 :: .int x2 :: .int x1 :: .ref x0 :: st, (N, S, H)) o := ec_v5 q55_30 (Or.inl rfl) h4 hu rfl h1 h2
theorem q55_33 : pj_row 55 33 = some (.ireturn, 1, 0, 0, 0) := by decide +kernel
theorem t55_33 {L : pj_Loc} {M : pj_Mem} {v : Int32} : pj_Ends 55 (33, L, [.int v], M) (some (.int v), M) := pj_Ends.ret q55_33 (pj_rtn_i rt55)
theorem rt56 : pj_rt 56 = some .int := rfl
theorem q56_0 : pj_row 56 0 = some (.iload_n 0, 1, 0, 0, 0) := by decide +kernel
theorem s56_0 {st : List Value} {M : pj_Mem} {l : pj_Loc} {x : Int32} : pj_step 56 (0, some (.int x) :: l, st, M) = some (1, some (.int x) :: l, .int x :: st, M) := st_iload_n q56_0 rfl
theorem x56_0 {st : List Value} {M : pj_Mem} {l : pj_Loc} {x : Int32} {o9 : Option Value × pj_Mem} : pj_Ends 56 (0, some (.int x) :: l, st, M) o9 = pj_Ends 56 (1, some (.int x) :: l, .int x :: st, M) o9 := pj_xs (s56_0)
theorem q56_1 : pj_row 56 1 = some (.iconst 0, 1, 0, 0, 0) := by decide +kernel
theorem s56_1 {L : pj_Loc} {st : List Value} {M : pj_Mem}  : pj_step 56 (1, L, st, M) = some (2, L, .int 0 :: st, M) := st_iconst q56_1 (by decide +kernel)
theorem x56_1 {L : pj_Loc} {st : List Value} {M : pj_Mem}  {o9 : Option Value × pj_Mem} : pj_Ends 56 (1, L, st, M) o9 = pj_Ends 56 (2, L, .int 0 :: st, M) o9 := pj_xs (s56_1)
theorem q56_2 : pj_row 56 2 = some (.invokestatic 9, 3, 46, 2, 0) := by decide +kernel
theorem e56_2 {L : pj_Loc} {st : List Value} {N S : Nat} {H : pj_Heap} {o : Option Value × pj_Mem} {M' : pj_Mem} {x0 : Int32} {x1 : Int32} {r : Int32} (h4 : pj_le4 st = true) (h1 : pj_Ends 46 (0, [some (.int x0), some (.int x1)], [], (N, S, H)) (some (.int r), M')) (h2 : pj_Ends 56 (5, L, .int r :: st, M') o) : pj_Ends 56 (2, L, .int x1 :: .int x0 :: st, (N, S, H)) o := ec_s2 q56_2 (Or.inl rfl) h4 rfl h1 h2
theorem q56_5 : pj_row 56 5 = some (.iload_n 1, 1, 0, 0, 0) := by decide +kernel
theorem s56_5 {st : List Value} {M : pj_Mem} {l : pj_Loc} {a0 : Option Value} {x : Int32} : pj_step 56 (5, a0 :: some (.int x) :: l, st, M) = some (6, a0 :: some (.int x) :: l, .int x :: st, M) := st_iload_n q56_5 rfl
theorem x56_5 {st : List Value} {M : pj_Mem} {l : pj_Loc} {a0 : Option Value} {x : Int32} {o9 : Option Value × pj_Mem} : pj_Ends 56 (5, a0 :: some (.int x) :: l, st, M) o9 = pj_Ends 56 (6, a0 :: some (.int x) :: l, .int x :: st, M) o9 := pj_xs (s56_5)
theorem q56_6 : pj_row 56 6 = some (.if_icmp .ne 7, 3, 13, 0, 0) := by decide +kernel
theorem s56_6 {L : pj_Loc} {st : List Value} {M : pj_Mem} {x y : Int32} : pj_step 56 (6, L, .int y :: .int x :: st, M) = some (if ¬ x = y then 13 else 9, L, st, M) := st_icmp_ne q56_6
theorem x56_6 {L : pj_Loc} {st : List Value} {M : pj_Mem} {x y : Int32} {o9 : Option Value × pj_Mem} : pj_Ends 56 (6, L, .int y :: .int x :: st, M) o9 = pj_Ends 56 (if ¬ x = y then 13 else 9, L, st, M) o9 := pj_xs (s56_6)
theorem q56_9 : pj_row 56 9 = some (.iload_n 2, 1, 0, 0, 0) := by decide +kernel
theorem s56_9 {st : List Value} {M : pj_Mem} {l : pj_Loc} {a0 a1 : Option Value} {x : Int32} : pj_step 56 (9, a0 :: a1 :: some (.int x) :: l, st, M) = some (10, a0 :: a1 :: some (.int x) :: l, .int x :: st, M) := st_iload_n q56_9 rfl
theorem x56_9 {st : List Value} {M : pj_Mem} {l : pj_Loc} {a0 a1 : Option Value} {x : Int32} {o9 : Option Value × pj_Mem} : pj_Ends 56 (9, a0 :: a1 :: some (.int x) :: l, st, M) o9 = pj_Ends 56 (10, a0 :: a1 :: some (.int x) :: l, .int x :: st, M) o9 := pj_xs (s56_9)
theorem q56_10 : pj_row 56 10 = some (.goto 18, 3, 28, 0, 0) := by decide +kernel
theorem s56_10 {L : pj_Loc} {st : List Value} {M : pj_Mem}  : pj_step 56 (10, L, st, M) = some (28, L, st, M) := st_goto q56_10
theorem x56_10 {L : pj_Loc} {st : List Value} {M : pj_Mem}  {o9 : Option Value × pj_Mem} : pj_Ends 56 (10, L, st, M) o9 = pj_Ends 56 (28, L, st, M) o9 := pj_xs (s56_10)
theorem q56_13 : pj_row 56 13 = some (.iload_n 0, 1, 0, 0, 0) := by decide +kernel
theorem s56_13 {st : List Value} {M : pj_Mem} {l : pj_Loc} {x : Int32} : pj_step 56 (13, some (.int x) :: l, st, M) = some (14, some (.int x) :: l, .int x :: st, M) := st_iload_n q56_13 rfl
theorem x56_13 {st : List Value} {M : pj_Mem} {l : pj_Loc} {x : Int32} {o9 : Option Value × pj_Mem} : pj_Ends 56 (13, some (.int x) :: l, st, M) o9 = pj_Ends 56 (14, some (.int x) :: l, .int x :: st, M) o9 := pj_xs (s56_13)
theorem q56_14 : pj_row 56 14 = some (.iconst 1, 1, 0, 0, 0) := by decide +kernel
theorem s56_14 {L : pj_Loc} {st : List Value} {M : pj_Mem}  : pj_step 56 (14, L, st, M) = some (15, L, .int 1 :: st, M) := st_iconst q56_14 (by decide +kernel)
theorem x56_14 {L : pj_Loc} {st : List Value} {M : pj_Mem}  {o9 : Option Value × pj_Mem} : pj_Ends 56 (14, L, st, M) o9 = pj_Ends 56 (15, L, .int 1 :: st, M) o9 := pj_xs (s56_14)
theorem q56_15 : pj_row 56 15 = some (.invokestatic 9, 3, 46, 2, 0) := by decide +kernel
theorem e56_15 {L : pj_Loc} {st : List Value} {N S : Nat} {H : pj_Heap} {o : Option Value × pj_Mem} {M' : pj_Mem} {x0 : Int32} {x1 : Int32} {r : Int32} (h4 : pj_le4 st = true) (h1 : pj_Ends 46 (0, [some (.int x0), some (.int x1)], [], (N, S, H)) (some (.int r), M')) (h2 : pj_Ends 56 (18, L, .int r :: st, M') o) : pj_Ends 56 (15, L, .int x1 :: .int x0 :: st, (N, S, H)) o := ec_s2 q56_15 (Or.inl rfl) h4 rfl h1 h2
theorem q56_18 : pj_row 56 18 = some (.iload_n 1, 1, 0, 0, 0) := by decide +kernel
theorem s56_18 {st : List Value} {M : pj_Mem} {l : pj_Loc} {a0 : Option Value} {x : Int32} : pj_step 56 (18, a0 :: some (.int x) :: l, st, M) = some (19, a0 :: some (.int x) :: l, .int x :: st, M) := st_iload_n q56_18 rfl
theorem x56_18 {st : List Value} {M : pj_Mem} {l : pj_Loc} {a0 : Option Value} {x : Int32} {o9 : Option Value × pj_Mem} : pj_Ends 56 (18, a0 :: some (.int x) :: l, st, M) o9 = pj_Ends 56 (19, a0 :: some (.int x) :: l, .int x :: st, M) o9 := pj_xs (s56_18)
theorem q56_19 : pj_row 56 19 = some (.if_icmp .ne 7, 3, 26, 0, 0) := by decide +kernel
theorem s56_19 {L : pj_Loc} {st : List Value} {M : pj_Mem} {x y : Int32} : pj_step 56 (19, L, .int y :: .int x :: st, M) = some (if ¬ x = y then 26 else 22, L, st, M) := st_icmp_ne q56_19
theorem x56_19 {L : pj_Loc} {st : List Value} {M : pj_Mem} {x y : Int32} {o9 : Option Value × pj_Mem} : pj_Ends 56 (19, L, .int y :: .int x :: st, M) o9 = pj_Ends 56 (if ¬ x = y then 26 else 22, L, st, M) o9 := pj_xs (s56_19)
theorem q56_22 : pj_row 56 22 = some (.iload_n 3, 1, 0, 0, 0) := by decide +kernel
theorem s56_22 {st : List Value} {M : pj_Mem} {l : pj_Loc} {a0 a1 a2 : Option Value} {x : Int32} : pj_step 56 (22, a0 :: a1 :: a2 :: some (.int x) :: l, st, M) = some (23, a0 :: a1 :: a2 :: some (.int x) :: l, .int x :: st, M) := st_iload_n q56_22 rfl
theorem x56_22 {st : List Value} {M : pj_Mem} {l : pj_Loc} {a0 a1 a2 : Option Value} {x : Int32} {o9 : Option Value × pj_Mem} : pj_Ends 56 (22, a0 :: a1 :: a2 :: some (.int x) :: l, st, M) o9 = pj_Ends 56 (23, a0 :: a1 :: a2 :: some (.int x) :: l, .int x :: st, M) o9 := pj_xs (s56_22)
theorem q56_23 : pj_row 56 23 = some (.goto 5, 3, 28, 0, 0) := by decide +kernel
theorem s56_23 {L : pj_Loc} {st : List Value} {M : pj_Mem}  : pj_step 56 (23, L, st, M) = some (28, L, st, M) := st_goto q56_23
theorem x56_23 {L : pj_Loc} {st : List Value} {M : pj_Mem}  {o9 : Option Value × pj_Mem} : pj_Ends 56 (23, L, st, M) o9 = pj_Ends 56 (28, L, st, M) o9 := pj_xs (s56_23)
theorem q56_26 : pj_row 56 26 = some (.iload 4, 2, 0, 0, 0) := by decide +kernel
theorem s56_26 {st : List Value} {M : pj_Mem} {l : pj_Loc} {a0 a1 a2 a3 : Option Value} {x : Int32} : pj_step 56 (26, a0 :: a1 :: a2 :: a3 :: some (.int x) :: l, st, M) = some (28, a0 :: a1 :: a2 :: a3 :: some (.int x) :: l, .int x :: st, M) := st_iload q56_26 rfl
theorem x56_26 {st : List Value} {M : pj_Mem} {l : pj_Loc} {a0 a1 a2 a3 : Option Value} {x : Int32} {o9 : Option Value × pj_Mem} : pj_Ends 56 (26, a0 :: a1 :: a2 :: a3 :: some (.int x) :: l, st, M) o9 = pj_Ends 56 (28, a0 :: a1 :: a2 :: a3 :: some (.int x) :: l, .int x :: st, M) o9 := pj_xs (s56_26)
theorem q56_28 : pj_row 56 28 = some (.ireturn, 1, 0, 0, 0) := by decide +kernel
theorem t56_28 {L : pj_Loc} {M : pj_Mem} {v : Int32} : pj_Ends 56 (28, L, [.int v], M) (some (.int v), M) := pj_Ends.ret q56_28 (pj_rtn_i rt56)
theorem rt58 : pj_rt 58 = some .int := rfl
theorem q58_0 : pj_row 58 0 = some (.iconst 0, 1, 0, 0, 0) := by decide +kernel
theorem s58_0 {L : pj_Loc} {st : List Value} {M : pj_Mem}  : pj_step 58 (0, L, st, M) = some (1, L, .int 0 :: st, M) := st_iconst q58_0 (by decide +kernel)
theorem x58_0 {L : pj_Loc} {st : List Value} {M : pj_Mem}  {o9 : Option Value × pj_Mem} : pj_Ends 58 (0, L, st, M) o9 = pj_Ends 58 (1, L, .int 0 :: st, M) o9 := pj_xs (s58_0)
theorem q58_1 : pj_row 58 1 = some (.istore_n 2, 1, 0, 0, 0) := by decide +kernel
theorem s58_1 {st : List Value} {M : pj_Mem} {l : pj_Loc} {a0 a1 a2 : Option Value} {x : Int32} (h : pj_long a1 = false) : pj_step 58 (1, a0 :: a1 :: a2 :: l, .int x :: st, M) = some (2, a0 :: a1 :: some (.int x) :: l, st, M) := st_istore_n q58_1 (pj_st_2 h)
theorem x58_1 {st : List Value} {M : pj_Mem} {l : pj_Loc} {a0 a1 a2 : Option Value} {x : Int32} (h : pj_long a1 = false) {o9 : Option Value × pj_Mem} : pj_Ends 58 (1, a0 :: a1 :: a2 :: l, .int x :: st, M) o9 = pj_Ends 58 (2, a0 :: a1 :: some (.int x) :: l, st, M) o9 := pj_xs (s58_1 h)
theorem q58_2 : pj_row 58 2 = some (.iconst 0, 1, 0, 0, 0) := by decide +kernel
theorem s58_2 {L : pj_Loc} {st : List Value} {M : pj_Mem}  : pj_step 58 (2, L, st, M) = some (3, L, .int 0 :: st, M) := st_iconst q58_2 (by decide +kernel)
theorem x58_2 {L : pj_Loc} {st : List Value} {M : pj_Mem}  {o9 : Option Value × pj_Mem} : pj_Ends 58 (2, L, st, M) o9 = pj_Ends 58 (3, L, .int 0 :: st, M) o9 := pj_xs (s58_2)
theorem q58_3 : pj_row 58 3 = some (.istore_n 3, 1, 0, 0, 0) := by decide +kernel
theorem s58_3 {st : List Value} {M : pj_Mem} {l : pj_Loc} {a0 a1 a2 a3 : Option Value} {x : Int32} (h : pj_long a2 = false) : pj_step 58 (3, a0 :: a1 :: a2 :: a3 :: l, .int x :: st, M) = some (4, a0 :: a1 :: a2 :: some (.int x) :: l, st, M) := st_istore_n q58_3 (pj_st_3 h)
theorem x58_3 {st : List Value} {M : pj_Mem} {l : pj_Loc} {a0 a1 a2 a3 : Option Value} {x : Int32} (h : pj_long a2 = false) {o9 : Option Value × pj_Mem} : pj_Ends 58 (3, a0 :: a1 :: a2 :: a3 :: l, .int x :: st, M) o9 = pj_Ends 58 (4, a0 :: a1 :: a2 :: some (.int x) :: l, st, M) o9 := pj_xs (s58_3 h)
theorem q58_4 : pj_row 58 4 = some (.iload_n 3, 1, 0, 0, 0) := by decide +kernel
theorem s58_4 {st : List Value} {M : pj_Mem} {l : pj_Loc} {a0 a1 a2 : Option Value} {x : Int32} : pj_step 58 (4, a0 :: a1 :: a2 :: some (.int x) :: l, st, M) = some (5, a0 :: a1 :: a2 :: some (.int x) :: l, .int x :: st, M) := st_iload_n q58_4 rfl
theorem x58_4 {st : List Value} {M : pj_Mem} {l : pj_Loc} {a0 a1 a2 : Option Value} {x : Int32} {o9 : Option Value × pj_Mem} : pj_Ends 58 (4, a0 :: a1 :: a2 :: some (.int x) :: l, st, M) o9 = pj_Ends 58 (5, a0 :: a1 :: a2 :: some (.int x) :: l, .int x :: st, M) o9 := pj_xs (s58_4)
theorem q58_5 : pj_row 58 5 = some (.iconst 3, 1, 0, 0, 0) := by decide +kernel
theorem s58_5 {L : pj_Loc} {st : List Value} {M : pj_Mem}  : pj_step 58 (5, L, st, M) = some (6, L, .int 3 :: st, M) := st_iconst q58_5 (by decide +kernel)
theorem x58_5 {L : pj_Loc} {st : List Value} {M : pj_Mem}  {o9 : Option Value × pj_Mem} : pj_Ends 58 (5, L, st, M) o9 = pj_Ends 58 (6, L, .int 3 :: st, M) o9 := pj_xs (s58_5)
theorem q58_6 : pj_row 58 6 = some (.if_icmp .ge 23, 3, 29, 0, 0) := by decide +kernel
theorem s58_6 {L : pj_Loc} {st : List Value} {M : pj_Mem} {x y : Int32} : pj_step 58 (6, L, .int y :: .int x :: st, M) = some (if y ≤ x then 29 else 9, L, st, M) := st_icmp_ge q58_6
theorem x58_6 {L : pj_Loc} {st : List Value} {M : pj_Mem} {x y : Int32} {o9 : Option Value × pj_Mem} : pj_Ends 58 (6, L, .int y :: .int x :: st, M) o9 = pj_Ends 58 (if y ≤ x then 29 else 9, L, st, M) o9 := pj_xs (s58_6)
theorem q58_9 : pj_row 58 9 = some (.iload_n 2, 1, 0, 0, 0) := by decide +kernel
theorem s58_9 {st : List Value} {M : pj_Mem} {l : pj_Loc} {a0 a1 : Option Value} {x : Int32} : pj_step 58 (9, a0 :: a1 :: some (.int x) :: l, st, M) = some (10, a0 :: a1 :: some (.int x) :: l, .int x :: st, M) := st_iload_n q58_9 rfl
theorem x58_9 {st : List Value} {M : pj_Mem} {l : pj_Loc} {a0 a1 : Option Value} {x : Int32} {o9 : Option Value × pj_Mem} : pj_Ends 58 (9, a0 :: a1 :: some (.int x) :: l, st, M) o9 = pj_Ends 58 (10, a0 :: a1 :: some (.int x) :: l, .int x :: st, M) o9 := pj_xs (s58_9)
theorem q58_10 : pj_row 58 10 = some (.iload_n 1, 1, 0, 0, 0) := by decide +kernel
theorem s58_10 {st : List Value} {M : pj_Mem} {l : pj_Loc} {a0 : Option Value} {x : Int32} : pj_step 58 (10, a0 :: some (.int x) :: l, st, M) = some (11, a0 :: some (.int x) :: l, .int x :: st, M) := st_iload_n q58_10 rfl
theorem x58_10 {st : List Value} {M : pj_Mem} {l : pj_Loc} {a0 : Option Value} {x : Int32} {o9 : Option Value × pj_Mem} : pj_Ends 58 (10, a0 :: some (.int x) :: l, st, M) o9 = pj_Ends 58 (11, a0 :: some (.int x) :: l, .int x :: st, M) o9 := pj_xs (s58_10)
theorem q58_11 : pj_row 58 11 = some (.iload_n 3, 1, 0, 0, 0) := by decide +kernel
theorem s58_11 {st : List Value} {M : pj_Mem} {l : pj_Loc} {a0 a1 a2 : Option Value} {x : Int32} : pj_step 58 (11, a0 :: a1 :: a2 :: some (.int x) :: l, st, M) = some (12, a0 :: a1 :: a2 :: some (.int x) :: l, .int x :: st, M) := st_iload_n q58_11 rfl
theorem x58_11 {st : List Value} {M : pj_Mem} {l : pj_Loc} {a0 a1 a2 : Option Value} {x : Int32} {o9 : Option Value × pj_Mem} : pj_Ends 58 (11, a0 :: a1 :: a2 :: some (.int x) :: l, st, M) o9 = pj_Ends 58 (12, a0 :: a1 :: a2 :: some (.int x) :: l, .int x :: st, M) o9 := pj_xs (s58_11)
theorem q58_12 : pj_row 58 12 = some (.ishr, 1, 0, 0, 0) := by decide +kernel
theorem s58_12 {L : pj_Loc} {st : List Value} {M : pj_Mem} {x y : Int32} : pj_step 58 (12, L, .int y :: .int x :: st, M) = some (13, L, .int (x >>> (y &&& 31)) :: st, M) := st_ishr q58_12
theorem x58_12 {L : pj_Loc} {st : List Value} {M : pj_Mem} {x y : Int32} {o9 : Option Value × pj_Mem} : pj_Ends 58 (12, L, .int y :: .int x :: st, M) o9 = pj_Ends 58 (13, L, .int (x >>> (y &&& 31)) :: st, M) o9 := pj_xs (s58_12)
theorem q58_13 : pj_row 58 13 = some (.iconst 1, 1, 0, 0, 0) := by decide +kernel
theorem s58_13 {L : pj_Loc} {st : List Value} {M : pj_Mem}  : pj_step 58 (13, L, st, M) = some (14, L, .int 1 :: st, M) := st_iconst q58_13 (by decide +kernel)
theorem x58_13 {L : pj_Loc} {st : List Value} {M : pj_Mem}  {o9 : Option Value × pj_Mem} : pj_Ends 58 (13, L, st, M) o9 = pj_Ends 58 (14, L, .int 1 :: st, M) o9 := pj_xs (s58_13)
theorem q58_14 : pj_row 58 14 = some (.iand, 1, 0, 0, 0) := by decide +kernel
theorem s58_14 {L : pj_Loc} {st : List Value} {M : pj_Mem} {x y : Int32} : pj_step 58 (14, L, .int y :: .int x :: st, M) = some (15, L, .int (x &&& y) :: st, M) := st_iand q58_14
theorem x58_14 {L : pj_Loc} {st : List Value} {M : pj_Mem} {x y : Int32} {o9 : Option Value × pj_Mem} : pj_Ends 58 (14, L, .int y :: .int x :: st, M) o9 = pj_Ends 58 (15, L, .int (x &&& y) :: st, M) o9 := pj_xs (s58_14)
theorem q58_15 : pj_row 58 15 = some (.iload_n 0, 1, 0, 0, 0) := by decide +kernel
theorem s58_15 {st : List Value} {M : pj_Mem} {l : pj_Loc} {x : Int32} : pj_step 58 (15, some (.int x) :: l, st, M) = some (16, some (.int x) :: l, .int x :: st, M) := st_iload_n q58_15 rfl
theorem x58_15 {st : List Value} {M : pj_Mem} {l : pj_Loc} {x : Int32} {o9 : Option Value × pj_Mem} : pj_Ends 58 (15, some (.int x) :: l, st, M) o9 = pj_Ends 58 (16, some (.int x) :: l, .int x :: st, M) o9 := pj_xs (s58_15)
theorem q58_16 : pj_row 58 16 = some (.iload_n 3, 1, 0, 0, 0) := by decide +kernel
theorem s58_16 {st : List Value} {M : pj_Mem} {l : pj_Loc} {a0 a1 a2 : Option Value} {x : Int32} : pj_step 58 (16, a0 :: a1 :: a2 :: some (.int x) :: l, st, M) = some (17, a0 :: a1 :: a2 :: some (.int x) :: l, .int x :: st, M) := st_iload_n q58_16 rfl
theorem x58_16 {st : List Value} {M : pj_Mem} {l : pj_Loc} {a0 a1 a2 : Option Value} {x : Int32} {o9 : Option Value × pj_Mem} : pj_Ends 58 (16, a0 :: a1 :: a2 :: some (.int x) :: l, st, M) o9 = pj_Ends 58 (17, a0 :: a1 :: a2 :: some (.int x) :: l, .int x :: st, M) o9 := pj_xs (s58_16)
theorem q58_17 : pj_row 58 17 = some (.invokestatic 9, 3, 46, 2, 0) := by decide +kernel
theorem e58_17 {L : pj_Loc} {st : List Value} {N S : Nat} {H : pj_Heap} {o : Option Value × pj_Mem} {M' : pj_Mem} {x0 : Int32} {x1 : Int32} {r : Int32} (h4 : pj_le4 st = true) (h1 : pj_Ends 46 (0, [some (.int x0), some (.int x1)], [], (N, S, H)) (some (.int r), M')) (h2 : pj_Ends 58 (20, L, .int r :: st, M') o) : pj_Ends 58 (17, L, .int x1 :: .int x0 :: st, (N, S, H)) o := ec_s2 q58_17 (Or.inl rfl) h4 rfl h1 h2
theorem q58_20 : pj_row 58 20 = some (.ishl, 1, 0, 0, 0) := by decide +kernel
theorem s58_20 {L : pj_Loc} {st : List Value} {M : pj_Mem} {x y : Int32} : pj_step 58 (20, L, .int y :: .int x :: st, M) = some (21, L, .int (x <<< (y &&& 31)) :: st, M) := st_ishl q58_20
theorem x58_20 {L : pj_Loc} {st : List Value} {M : pj_Mem} {x y : Int32} {o9 : Option Value × pj_Mem} : pj_Ends 58 (20, L, .int y :: .int x :: st, M) o9 = pj_Ends 58 (21, L, .int (x <<< (y &&& 31)) :: st, M) o9 := pj_xs (s58_20)
theorem q58_21 : pj_row 58 21 = some (.ior, 1, 0, 0, 0) := by decide +kernel
theorem s58_21 {L : pj_Loc} {st : List Value} {M : pj_Mem} {x y : Int32} : pj_step 58 (21, L, .int y :: .int x :: st, M) = some (22, L, .int (x ||| y) :: st, M) := st_ior q58_21
theorem x58_21 {L : pj_Loc} {st : List Value} {M : pj_Mem} {x y : Int32} {o9 : Option Value × pj_Mem} : pj_Ends 58 (21, L, .int y :: .int x :: st, M) o9 = pj_Ends 58 (22, L, .int (x ||| y) :: st, M) o9 := pj_xs (s58_21)
theorem q58_22 : pj_row 58 22 = some (.istore_n 2, 1, 0, 0, 0) := by decide +kernel
theorem s58_22 {st : List Value} {M : pj_Mem} {l : pj_Loc} {a0 a1 a2 : Option Value} {x : Int32} (h : pj_long a1 = false) : pj_step 58 (22, a0 :: a1 :: a2 :: l, .int x :: st, M) = some (23, a0 :: a1 :: some (.int x) :: l, st, M) := st_istore_n q58_22 (pj_st_2 h)
theorem x58_22 {st : List Value} {M : pj_Mem} {l : pj_Loc} {a0 a1 a2 : Option Value} {x : Int32} (h : pj_long a1 = false) {o9 : Option Value × pj_Mem} : pj_Ends 58 (22, a0 :: a1 :: a2 :: l, .int x :: st, M) o9 = pj_Ends 58 (23, a0 :: a1 :: some (.int x) :: l, st, M) o9 := pj_xs (s58_22 h)
theorem q58_23 : pj_row 58 23 = some (.iinc 3 1, 3, 0, 0, 0) := by decide +kernel
theorem s58_23 {st : List Value} {M : pj_Mem} {l : pj_Loc} {a0 a1 a2 : Option Value} {x : Int32} (h : pj_long a2 = false) : pj_step 58 (23, a0 :: a1 :: a2 :: some (.int x) :: l, st, M) = some (26, a0 :: a1 :: a2 :: some (.int (x + 1)) :: l, st, M) := st_iinc q58_23 rfl (congrArg (fun y => x + y) (show Int32.ofInt 1 = 1 by decide +kernel)) (pj_st_3 h)
theorem x58_23 {st : List Value} {M : pj_Mem} {l : pj_Loc} {a0 a1 a2 : Option Value} {x : Int32} (h : pj_long a2 = false) {o9 : Option Value × pj_Mem} : pj_Ends 58 (23, a0 :: a1 :: a2 :: some (.int x) :: l, st, M) o9 = pj_Ends 58 (26, a0 :: a1 :: a2 :: some (.int (x + 1)) :: l, st, M) o9 := pj_xs (s58_23 h)
theorem q58_26 : pj_row 58 26 = some (.goto (-22), 3, 4, 0, 0) := by decide +kernel
theorem s58_26 {L : pj_Loc} {st : List Value} {M : pj_Mem}  : pj_step 58 (26, L, st, M) = some (4, L, st, M) := st_goto q58_26
theorem x58_26 {L : pj_Loc} {st : List Value} {M : pj_Mem}  {o9 : Option Value × pj_Mem} : pj_Ends 58 (26, L, st, M) o9 = pj_Ends 58 (4, L, st, M) o9 := pj_xs (s58_26)
theorem q58_29 : pj_row 58 29 = some (.iload_n 2, 1, 0, 0, 0) := by decide +kernel
theorem s58_29 {st : List Value} {M : pj_Mem} {l : pj_Loc} {a0 a1 : Option Value} {x : Int32} : pj_step 58 (29, a0 :: a1 :: some (.int x) :: l, st, M) = some (30, a0 :: a1 :: some (.int x) :: l, .int x :: st, M) := st_iload_n q58_29 rfl
theorem x58_29 {st : List Value} {M : pj_Mem} {l : pj_Loc} {a0 a1 : Option Value} {x : Int32} {o9 : Option Value × pj_Mem} : pj_Ends 58 (29, a0 :: a1 :: some (.int x) :: l, st, M) o9 = pj_Ends 58 (30, a0 :: a1 :: some (.int x) :: l, .int x :: st, M) o9 := pj_xs (s58_29)
theorem q58_30 : pj_row 58 30 = some (.ireturn, 1, 0, 0, 0) := by decide +kernel
theorem t58_30 {L : pj_Loc} {M : pj_Mem} {v : Int32} : pj_Ends 58 (30, L, [.int v], M) (some (.int v), M) := pj_Ends.ret q58_30 (pj_rtn_i rt58)
theorem rt59 : pj_rt 59 = some .int := rfl
theorem q59_0 : pj_row 59 0 = some (.iload_n 1, 1, 0, 0, 0) := by decide +kernel
theorem s59_0 {st : List Value} {M : pj_Mem} {l : pj_Loc} {a0 : Option Value} {x : Int32} : pj_step 59 (0, a0 :: some (.int x) :: l, st, M) = some (1, a0 :: some (.int x) :: l, .int x :: st, M) := st_iload_n q59_0 rfl
theorem x59_0 {st : List Value} {M : pj_Mem} {l : pj_Loc} {a0 : Option Value} {x : Int32} {o9 : Option Value × pj_Mem} : pj_Ends 59 (0, a0 :: some (.int x) :: l, st, M) o9 = pj_Ends 59 (1, a0 :: some (.int x) :: l, .int x :: st, M) o9 := pj_xs (s59_0)
theorem q59_1 : pj_row 59 1 = some (.ifCond .lt 8, 3, 9, 0, 0) := by decide +kernel
theorem s59_1 {L : pj_Loc} {st : List Value} {M : pj_Mem} {x : Int32} : pj_step 59 (1, L, .int x :: st, M) = some (if x < 0 then 9 else 4, L, st, M) := st_if_lt q59_1
theorem x59_1 {L : pj_Loc} {st : List Value} {M : pj_Mem} {x : Int32} {o9 : Option Value × pj_Mem} : pj_Ends 59 (1, L, .int x :: st, M) o9 = pj_Ends 59 (if x < 0 then 9 else 4, L, st, M) o9 := pj_xs (s59_1)
theorem q59_4 : pj_row 59 4 = some (.iload_n 1, 1, 0, 0, 0) := by decide +kernel
theorem s59_4 {st : List Value} {M : pj_Mem} {l : pj_Loc} {a0 : Option Value} {x : Int32} : pj_step 59 (4, a0 :: some (.int x) :: l, st, M) = some (5, a0 :: some (.int x) :: l, .int x :: st, M) := st_iload_n q59_4 rfl
theorem x59_4 {st : List Value} {M : pj_Mem} {l : pj_Loc} {a0 : Option Value} {x : Int32} {o9 : Option Value × pj_Mem} : pj_Ends 59 (4, a0 :: some (.int x) :: l, st, M) o9 = pj_Ends 59 (5, a0 :: some (.int x) :: l, .int x :: st, M) o9 := pj_xs (s59_4)
theorem q59_5 : pj_row 59 5 = some (.iconst 3, 1, 0, 0, 0) := by decide +kernel
theorem s59_5 {L : pj_Loc} {st : List Value} {M : pj_Mem}  : pj_step 59 (5, L, st, M) = some (6, L, .int 3 :: st, M) := st_iconst q59_5 (by decide +kernel)
theorem x59_5 {L : pj_Loc} {st : List Value} {M : pj_Mem}  {o9 : Option Value × pj_Mem} : pj_Ends 59 (5, L, st, M) o9 = pj_Ends 59 (6, L, .int 3 :: st, M) o9 := pj_xs (s59_5)
theorem q59_6 : pj_row 59 6 = some (.if_icmp .lt 5, 3, 11, 0, 0) := by decide +kernel
theorem s59_6 {L : pj_Loc} {st : List Value} {M : pj_Mem} {x y : Int32} : pj_step 59 (6, L, .int y :: .int x :: st, M) = some (if x < y then 11 else 9, L, st, M) := st_icmp_lt q59_6
theorem x59_6 {L : pj_Loc} {st : List Value} {M : pj_Mem} {x y : Int32} {o9 : Option Value × pj_Mem} : pj_Ends 59 (6, L, .int y :: .int x :: st, M) o9 = pj_Ends 59 (if x < y then 11 else 9, L, st, M) o9 := pj_xs (s59_6)
theorem q59_9 : pj_row 59 9 = some (.iconst (-1), 1, 0, 0, 0) := by decide +kernel
theorem s59_9 {L : pj_Loc} {st : List Value} {M : pj_Mem}  : pj_step 59 (9, L, st, M) = some (10, L, .int (-1) :: st, M) := st_iconst q59_9 (by decide +kernel)
theorem x59_9 {L : pj_Loc} {st : List Value} {M : pj_Mem}  {o9 : Option Value × pj_Mem} : pj_Ends 59 (9, L, st, M) o9 = pj_Ends 59 (10, L, .int (-1) :: st, M) o9 := pj_xs (s59_9)
theorem q59_10 : pj_row 59 10 = some (.ireturn, 1, 0, 0, 0) := by decide +kernel
theorem t59_10 {L : pj_Loc} {M : pj_Mem} {v : Int32} : pj_Ends 59 (10, L, [.int v], M) (some (.int v), M) := pj_Ends.ret q59_10 (pj_rtn_i rt59)
theorem q59_11 : pj_row 59 11 = some (.iload_n 2, 1, 0, 0, 0) := by decide +kernel
theorem s59_11 {st : List Value} {M : pj_Mem} {l : pj_Loc} {a0 a1 : Option Value} {x : Int32} : pj_step 59 (11, a0 :: a1 :: some (.int x) :: l, st, M) = some (12, a0 :: a1 :: some (.int x) :: l, .int x :: st, M) := st_iload_n q59_11 rfl
theorem x59_11 {st : List Value} {M : pj_Mem} {l : pj_Loc} {a0 a1 : Option Value} {x : Int32} {o9 : Option Value × pj_Mem} : pj_Ends 59 (11, a0 :: a1 :: some (.int x) :: l, st, M) o9 = pj_Ends 59 (12, a0 :: a1 :: some (.int x) :: l, .int x :: st, M) o9 := pj_xs (s59_11)
theorem q59_12 : pj_row 59 12 = some (.tableswitch 115 0 4 #[36, 49, 62, 77, 87], 36, 0, 0, 0) := by decide +kernel
theorem s59_12 {L : pj_Loc} {st : List Value} {M : pj_Mem} {x : Int32} : pj_step 59 (12, L, .int x :: st, M) = some (if x = 0 then 48 else if x = 1 then 61 else if x = 2 then 74 else if x = 3 then 89 else if x = 4 then 99 else 127, L, st, M) := by
  rw [st_tsw q59_12]
  unfold pj_tsw
  by_cases hr : x.toInt < 0 ∨ 4 < x.toInt
  · simp only
    rw [if_pos hr]
    rw [if_neg (show ¬ x = 0 from fun e => by rw [e] at hr; revert hr; decide)]
    rw [if_neg (show ¬ x = 1 from fun e => by rw [e] at hr; revert hr; decide)]
    rw [if_neg (show ¬ x = 2 from fun e => by rw [e] at hr; revert hr; decide)]
    rw [if_neg (show ¬ x = 3 from fun e => by rw [e] at hr; revert hr; decide)]
    rw [if_neg (show ¬ x = 4 from fun e => by rw [e] at hr; revert hr; decide)]
    rfl
  · have h3 : x.toInt = 0 ∨ x.toInt = 1 ∨ x.toInt = 2 ∨ x.toInt = 3 ∨ x.toInt = 4 := by omega
    rcases h3 with h3 | h3 | h3 | h3 | h3
    · have e : x = 0 := Int32.toInt_inj.mp (h3.trans (by decide))
      subst e
      rfl
    · have e : x = 1 := Int32.toInt_inj.mp (h3.trans (by decide))
      subst e
      rfl
    · have e : x = 2 := Int32.toInt_inj.mp (h3.trans (by decide))
      subst e
      rfl
    · have e : x = 3 := Int32.toInt_inj.mp (h3.trans (by decide))
      subst e
      rfl
    · have e : x = 4 := Int32.toInt_inj.mp (h3.trans (by decide))
      subst e
      rfl
theorem x59_12 {L : pj_Loc} {st : List Value} {M : pj_Mem} {x : Int32} {o9 : Option Value × pj_Mem} : pj_Ends 59 (12, L, .int x :: st, M) o9 = pj_Ends 59 (if x = 0 then 48 else if x = 1 then 61 else if x = 2 then 74 else if x = 3 then 89 else if x = 4 then 99 else 127, L, st, M) o9 := pj_xs (s59_12)
theorem q59_48 : pj_row 59 48 = some (.aload_n 0, 1, 0, 0, 0) := by decide +kernel
theorem s59_48 {st : List Value} {M : pj_Mem} {l : pj_Loc} {x : Nat} : pj_step 59 (48, some (.ref x) :: l, st, M) = some (49, some (.ref x) :: l, .ref x :: st, M) := st_aload_n q59_48 rfl
theorem x59_48 {st : List Value} {M : pj_Mem} {l : pj_Loc} {x : Nat} {o9 : Option Value × pj_Mem} : pj_Ends 59 (48, some (.ref x) :: l, st, M) o9 = pj_Ends 59 (49, some (.ref x) :: l, .ref x :: st, M) o9 := pj_xs (s59_48)
theorem q59_49 : pj_row 59 49 = some (.getfield 10, 3, 5, 0, 0) := by decide +kernel
theorem s59_49 {L : pj_Loc} {st : List Value} {N S : Nat} {H : pj_Heap} {o : Nat} : pj_step 59 (49, L, .ref o :: st, (N, S, H)) = pj_pv 52 L st (N, S, H) (pj_fld (H o) 5 0) := st_getfield q59_49
theorem x59_49 {L : pj_Loc} {st : List Value} {N S : Nat} {H : pj_Heap} {o : Nat} {o9 : Option Value × pj_Mem} : pj_Ends 59 (49, L, .ref o :: st, (N, S, H)) o9 = pj_then 59 o9 (pj_pv 52 L st (N, S, H) (pj_fld (H o) 5 0)) := pj_xt q59_49 rfl (pj_cl_nc rfl) (s59_49)
theorem q59_52 : pj_row 59 52 = some (.getfield 98, 3, 4, 1, 0) := by decide +kernel
theorem s59_52 {L : pj_Loc} {st : List Value} {N S : Nat} {H : pj_Heap} {o : Nat} : pj_step 59 (52, L, .ref o :: st, (N, S, H)) = pj_pv 55 L st (N, S, H) (pj_fld (H o) 4 1) := st_getfield q59_52
theorem x59_52 {L : pj_Loc} {st : List Value} {N S : Nat} {H : pj_Heap} {o : Nat} {o9 : Option Value × pj_Mem} : pj_Ends 59 (52, L, .ref o :: st, (N, S, H)) o9 = pj_then 59 o9 (pj_pv 55 L st (N, S, H) (pj_fld (H o) 4 1)) := pj_xt q59_52 rfl (pj_cl_nc rfl) (s59_52)
theorem q59_55 : pj_row 59 55 = some (.iload_n 1, 1, 0, 0, 0) := by decide +kernel
theorem s59_55 {st : List Value} {M : pj_Mem} {l : pj_Loc} {a0 : Option Value} {x : Int32} : pj_step 59 (55, a0 :: some (.int x) :: l, st, M) = some (56, a0 :: some (.int x) :: l, .int x :: st, M) := st_iload_n q59_55 rfl
theorem x59_55 {st : List Value} {M : pj_Mem} {l : pj_Loc} {a0 : Option Value} {x : Int32} {o9 : Option Value × pj_Mem} : pj_Ends 59 (55, a0 :: some (.int x) :: l, st, M) o9 = pj_Ends 59 (56, a0 :: some (.int x) :: l, .int x :: st, M) o9 := pj_xs (s59_55)
theorem q59_56 : pj_row 59 56 = some (.iaload, 1, 0, 0, 0) := by decide +kernel
theorem s59_56 {L : pj_Loc} {st : List Value} {N S : Nat} {H : pj_Heap} {o : Nat} {i : Int32} : pj_step 59 (56, L, .int i :: .ref o :: st, (N, S, H)) = pj_pi 57 L st (N, S, H) (pj_arl (H o) 0 i) := st_iaload q59_56
theorem x59_56 {L : pj_Loc} {st : List Value} {N S : Nat} {H : pj_Heap} {o : Nat} {i : Int32} {o9 : Option Value × pj_Mem} : pj_Ends 59 (56, L, .int i :: .ref o :: st, (N, S, H)) o9 = pj_then 59 o9 (pj_pi 57 L st (N, S, H) (pj_arl (H o) 0 i)) := pj_xt q59_56 rfl (pj_cl_nc rfl) (s59_56)
theorem q59_57 : pj_row 59 57 = some (.ldc 69, 2, 0, 0, 100000) := by decide +kernel
theorem s59_57 {L : pj_Loc} {st : List Value} {M : pj_Mem}  : pj_step 59 (57, L, st, M) = some (59, L, .int 100000 :: st, M) := st_ldc q59_57 (by decide +kernel)
theorem x59_57 {L : pj_Loc} {st : List Value} {M : pj_Mem}  {o9 : Option Value × pj_Mem} : pj_Ends 59 (57, L, st, M) o9 = pj_Ends 59 (59, L, .int 100000 :: st, M) o9 := pj_xs (s59_57)
theorem q59_59 : pj_row 59 59 = some (.iadd, 1, 0, 0, 0) := by decide +kernel
theorem s59_59 {L : pj_Loc} {st : List Value} {M : pj_Mem} {x y : Int32} : pj_step 59 (59, L, .int y :: .int x :: st, M) = some (60, L, .int (x + y) :: st, M) := st_iadd q59_59
theorem x59_59 {L : pj_Loc} {st : List Value} {M : pj_Mem} {x y : Int32} {o9 : Option Value × pj_Mem} : pj_Ends 59 (59, L, .int y :: .int x :: st, M) o9 = pj_Ends 59 (60, L, .int (x + y) :: st, M) o9 := pj_xs (s59_59)
theorem q59_60 : pj_row 59 60 = some (.ireturn, 1, 0, 0, 0) := by decide +kernel
theorem t59_60 {L : pj_Loc} {M : pj_Mem} {v : Int32} : pj_Ends 59 (60, L, [.int v], M) (some (.int v), M) := pj_Ends.ret q59_60 (pj_rtn_i rt59)
theorem q59_61 : pj_row 59 61 = some (.aload_n 0, 1, 0, 0, 0) := by decide +kernel
theorem s59_61 {st : List Value} {M : pj_Mem} {l : pj_Loc} {x : Nat} : pj_step 59 (61, some (.ref x) :: l, st, M) = some (62, some (.ref x) :: l, .ref x :: st, M) := st_aload_n q59_61 rfl
theorem x59_61 {st : List Value} {M : pj_Mem} {l : pj_Loc} {x : Nat} {o9 : Option Value × pj_Mem} : pj_Ends 59 (61, some (.ref x) :: l, st, M) o9 = pj_Ends 59 (62, some (.ref x) :: l, .ref x :: st, M) o9 := pj_xs (s59_61)
theorem q59_62 : pj_row 59 62 = some (.getfield 10, 3, 5, 0, 0) := by decide +kernel
theorem s59_62 {L : pj_Loc} {st : List Value} {N S : Nat} {H : pj_Heap} {o : Nat} : pj_step 59 (62, L, .ref o :: st, (N, S, H)) = pj_pv 65 L st (N, S, H) (pj_fld (H o) 5 0) := st_getfield q59_62
theorem x59_62 {L : pj_Loc} {st : List Value} {N S : Nat} {H : pj_Heap} {o : Nat} {o9 : Option Value × pj_Mem} : pj_Ends 59 (62, L, .ref o :: st, (N, S, H)) o9 = pj_then 59 o9 (pj_pv 65 L st (N, S, H) (pj_fld (H o) 5 0)) := pj_xt q59_62 rfl (pj_cl_nc rfl) (s59_62)
theorem q59_65 : pj_row 59 65 = some (.getfield 101, 3, 4, 2, 0) := by decide +kernel
theorem s59_65 {L : pj_Loc} {st : List Value} {N S : Nat} {H : pj_Heap} {o : Nat} : pj_step 59 (65, L, .ref o :: st, (N, S, H)) = pj_pv 68 L st (N, S, H) (pj_fld (H o) 4 2) := st_getfield q59_65
theorem x59_65 {L : pj_Loc} {st : List Value} {N S : Nat} {H : pj_Heap} {o : Nat} {o9 : Option Value × pj_Mem} : pj_Ends 59 (65, L, .ref o :: st, (N, S, H)) o9 = pj_then 59 o9 (pj_pv 68 L st (N, S, H) (pj_fld (H o) 4 2)) := pj_xt q59_65 rfl (pj_cl_nc rfl) (s59_65)
theorem q59_68 : pj_row 59 68 = some (.iload_n 1, 1, 0, 0, 0) := by decide +kernel
theorem s59_68 {st : List Value} {M : pj_Mem} {l : pj_Loc} {a0 : Option Value} {x : Int32} : pj_step 59 (68, a0 :: some (.int x) :: l, st, M) = some (69, a0 :: some (.int x) :: l, .int x :: st, M) := st_iload_n q59_68 rfl
theorem x59_68 {st : List Value} {M : pj_Mem} {l : pj_Loc} {a0 : Option Value} {x : Int32} {o9 : Option Value × pj_Mem} : pj_Ends 59 (68, a0 :: some (.int x) :: l, st, M) o9 = pj_Ends 59 (69, a0 :: some (.int x) :: l, .int x :: st, M) o9 := pj_xs (s59_68)
theorem q59_69 : pj_row 59 69 = some (.iaload, 1, 0, 0, 0) := by decide +kernel
theorem s59_69 {L : pj_Loc} {st : List Value} {N S : Nat} {H : pj_Heap} {o : Nat} {i : Int32} : pj_step 59 (69, L, .int i :: .ref o :: st, (N, S, H)) = pj_pi 70 L st (N, S, H) (pj_arl (H o) 0 i) := st_iaload q59_69
theorem x59_69 {L : pj_Loc} {st : List Value} {N S : Nat} {H : pj_Heap} {o : Nat} {i : Int32} {o9 : Option Value × pj_Mem} : pj_Ends 59 (69, L, .int i :: .ref o :: st, (N, S, H)) o9 = pj_then 59 o9 (pj_pi 70 L st (N, S, H) (pj_arl (H o) 0 i)) := pj_xt q59_69 rfl (pj_cl_nc rfl) (s59_69)
theorem q59_70 : pj_row 59 70 = some (.ldc 69, 2, 0, 0, 100000) := by decide +kernel
theorem s59_70 {L : pj_Loc} {st : List Value} {M : pj_Mem}  : pj_step 59 (70, L, st, M) = some (72, L, .int 100000 :: st, M) := st_ldc q59_70 (by decide +kernel)
theorem x59_70 {L : pj_Loc} {st : List Value} {M : pj_Mem}  {o9 : Option Value × pj_Mem} : pj_Ends 59 (70, L, st, M) o9 = pj_Ends 59 (72, L, .int 100000 :: st, M) o9 := pj_xs (s59_70)
theorem q59_72 : pj_row 59 72 = some (.iadd, 1, 0, 0, 0) := by decide +kernel
theorem s59_72 {L : pj_Loc} {st : List Value} {M : pj_Mem} {x y : Int32} : pj_step 59 (72, L, .int y :: .int x :: st, M) = some (73, L, .int (x + y) :: st, M) := st_iadd q59_72
theorem x59_72 {L : pj_Loc} {st : List Value} {M : pj_Mem} {x y : Int32} {o9 : Option Value × pj_Mem} : pj_Ends 59 (72, L, .int y :: .int x :: st, M) o9 = pj_Ends 59 (73, L, .int (x + y) :: st, M) o9 := pj_xs (s59_72)
theorem q59_73 : pj_row 59 73 = some (.ireturn, 1, 0, 0, 0) := by decide +kernel
theorem t59_73 {L : pj_Loc} {M : pj_Mem} {v : Int32} : pj_Ends 59 (73, L, [.int v], M) (some (.int v), M) := pj_Ends.ret q59_73 (pj_rtn_i rt59)
theorem q59_74 : pj_row 59 74 = some (.aload_n 0, 1, 0, 0, 0) := by decide +kernel
theorem s59_74 {st : List Value} {M : pj_Mem} {l : pj_Loc} {x : Nat} : pj_step 59 (74, some (.ref x) :: l, st, M) = some (75, some (.ref x) :: l, .ref x :: st, M) := st_aload_n q59_74 rfl
theorem x59_74 {st : List Value} {M : pj_Mem} {l : pj_Loc} {x : Nat} {o9 : Option Value × pj_Mem} : pj_Ends 59 (74, some (.ref x) :: l, st, M) o9 = pj_Ends 59 (75, some (.ref x) :: l, .ref x :: st, M) o9 := pj_xs (s59_74)
theorem q59_75 : pj_row 59 75 = some (.getfield 10, 3, 5, 0, 0) := by decide +kernel
theorem s59_75 {L : pj_Loc} {st : List Value} {N S : Nat} {H : pj_Heap} {o : Nat} : pj_step 59 (75, L, .ref o :: st, (N, S, H)) = pj_pv 78 L st (N, S, H) (pj_fld (H o) 5 0) := st_getfield q59_75
theorem x59_75 {L : pj_Loc} {st : List Value} {N S : Nat} {H : pj_Heap} {o : Nat} {o9 : Option Value × pj_Mem} : pj_Ends 59 (75, L, .ref o :: st, (N, S, H)) o9 = pj_then 59 o9 (pj_pv 78 L st (N, S, H) (pj_fld (H o) 5 0)) := pj_xt q59_75 rfl (pj_cl_nc rfl) (s59_75)
theorem q59_78 : pj_row 59 78 = some (.getfield 95, 3, 4, 7, 0) := by decide +kernel
theorem s59_78 {L : pj_Loc} {st : List Value} {N S : Nat} {H : pj_Heap} {o : Nat} : pj_step 59 (78, L, .ref o :: st, (N, S, H)) = pj_pv 81 L st (N, S, H) (pj_fld (H o) 4 7) := st_getfield q59_78
theorem x59_78 {L : pj_Loc} {st : List Value} {N S : Nat} {H : pj_Heap} {o : Nat} {o9 : Option Value × pj_Mem} : pj_Ends 59 (78, L, .ref o :: st, (N, S, H)) o9 = pj_then 59 o9 (pj_pv 81 L st (N, S, H) (pj_fld (H o) 4 7)) := pj_xt q59_78 rfl (pj_cl_nc rfl) (s59_78)
theorem q59_81 : pj_row 59 81 = some (.iload_n 1, 1, 0, 0, 0) := by decide +kernel
theorem s59_81 {st : List Value} {M : pj_Mem} {l : pj_Loc} {a0 : Option Value} {x : Int32} : pj_step 59 (81, a0 :: some (.int x) :: l, st, M) = some (82, a0 :: some (.int x) :: l, .int x :: st, M) := st_iload_n q59_81 rfl
theorem x59_81 {st : List Value} {M : pj_Mem} {l : pj_Loc} {a0 : Option Value} {x : Int32} {o9 : Option Value × pj_Mem} : pj_Ends 59 (81, a0 :: some (.int x) :: l, st, M) o9 = pj_Ends 59 (82, a0 :: some (.int x) :: l, .int x :: st, M) o9 := pj_xs (s59_81)
theorem q59_82 : pj_row 59 82 = some (.invokestatic 77, 3, 8, 2, 0) := by decide +kernel
theorem e59_82 {L : pj_Loc} {st : List Value} {N S : Nat} {H : pj_Heap} {o : Option Value × pj_Mem} {M' : pj_Mem} {x0 : Int32} {x1 : Int32} {r : Int32} (h4 : pj_le4 st = true) (h1 : pj_Ends 8 (0, [some (.int x0), some (.int x1)], [], (N, S, H)) (some (.int r), M')) (h2 : pj_Ends 59 (85, L, .int r :: st, M') o) : pj_Ends 59 (82, L, .int x1 :: .int x0 :: st, (N, S, H)) o := ec_s2 q59_82 (Or.inl rfl) h4 rfl h1 h2
theorem q59_85 : pj_row 59 85 = some (.invokestatic 116, 3, 9, 1, 0) := by decide +kernel
theorem e59_85 {L : pj_Loc} {st : List Value} {N S : Nat} {H : pj_Heap} {o : Option Value × pj_Mem} {M' : pj_Mem} {x0 : Int32} {r : Int32} (h4 : pj_le4 st = true) (h1 : pj_Ends 9 (0, [some (.int x0)], [], (N, S, H)) (some (.int r), M')) (h2 : pj_Ends 59 (88, L, .int r :: st, M') o) : pj_Ends 59 (85, L, .int x0 :: st, (N, S, H)) o := ec_s1 q59_85 (Or.inl rfl) h4 rfl h1 h2
theorem q59_88 : pj_row 59 88 = some (.ireturn, 1, 0, 0, 0) := by decide +kernel
theorem t59_88 {L : pj_Loc} {M : pj_Mem} {v : Int32} : pj_Ends 59 (88, L, [.int v], M) (some (.int v), M) := pj_Ends.ret q59_88 (pj_rtn_i rt59)
theorem q59_89 : pj_row 59 89 = some (.aload_n 0, 1, 0, 0, 0) := by decide +kernel
theorem s59_89 {st : List Value} {M : pj_Mem} {l : pj_Loc} {x : Nat} : pj_step 59 (89, some (.ref x) :: l, st, M) = some (90, some (.ref x) :: l, .ref x :: st, M) := st_aload_n q59_89 rfl
theorem x59_89 {st : List Value} {M : pj_Mem} {l : pj_Loc} {x : Nat} {o9 : Option Value × pj_Mem} : pj_Ends 59 (89, some (.ref x) :: l, st, M) o9 = pj_Ends 59 (90, some (.ref x) :: l, .ref x :: st, M) o9 := pj_xs (s59_89)
theorem q59_90 : pj_row 59 90 = some (.getfield 10, 3, 5, 0, 0) := by decide +kernel
theorem s59_90 {L : pj_Loc} {st : List Value} {N S : Nat} {H : pj_Heap} {o : Nat} : pj_step 59 (90, L, .ref o :: st, (N, S, H)) = pj_pv 93 L st (N, S, H) (pj_fld (H o) 5 0) := st_getfield q59_90
theorem x59_90 {L : pj_Loc} {st : List Value} {N S : Nat} {H : pj_Heap} {o : Nat} {o9 : Option Value × pj_Mem} : pj_Ends 59 (90, L, .ref o :: st, (N, S, H)) o9 = pj_then 59 o9 (pj_pv 93 L st (N, S, H) (pj_fld (H o) 5 0)) := pj_xt q59_90 rfl (pj_cl_nc rfl) (s59_90)
theorem q59_93 : pj_row 59 93 = some (.getfield 104, 3, 4, 3, 0) := by decide +kernel
theorem s59_93 {L : pj_Loc} {st : List Value} {N S : Nat} {H : pj_Heap} {o : Nat} : pj_step 59 (93, L, .ref o :: st, (N, S, H)) = pj_pv 96 L st (N, S, H) (pj_fld (H o) 4 3) := st_getfield q59_93
theorem x59_93 {L : pj_Loc} {st : List Value} {N S : Nat} {H : pj_Heap} {o : Nat} {o9 : Option Value × pj_Mem} : pj_Ends 59 (93, L, .ref o :: st, (N, S, H)) o9 = pj_then 59 o9 (pj_pv 96 L st (N, S, H) (pj_fld (H o) 4 3)) := pj_xt q59_93 rfl (pj_cl_nc rfl) (s59_93)
theorem q59_96 : pj_row 59 96 = some (.iload_n 1, 1, 0, 0, 0) := by decide +kernel
theorem s59_96 {st : List Value} {M : pj_Mem} {l : pj_Loc} {a0 : Option Value} {x : Int32} : pj_step 59 (96, a0 :: some (.int x) :: l, st, M) = some (97, a0 :: some (.int x) :: l, .int x :: st, M) := st_iload_n q59_96 rfl
theorem x59_96 {st : List Value} {M : pj_Mem} {l : pj_Loc} {a0 : Option Value} {x : Int32} {o9 : Option Value × pj_Mem} : pj_Ends 59 (96, a0 :: some (.int x) :: l, st, M) o9 = pj_Ends 59 (97, a0 :: some (.int x) :: l, .int x :: st, M) o9 := pj_xs (s59_96)
theorem q59_97 : pj_row 59 97 = some (.iaload, 1, 0, 0, 0) := by decide +kernel
theorem s59_97 {L : pj_Loc} {st : List Value} {N S : Nat} {H : pj_Heap} {o : Nat} {i : Int32} : pj_step 59 (97, L, .int i :: .ref o :: st, (N, S, H)) = pj_pi 98 L st (N, S, H) (pj_arl (H o) 0 i) := st_iaload q59_97
theorem x59_97 {L : pj_Loc} {st : List Value} {N S : Nat} {H : pj_Heap} {o : Nat} {i : Int32} {o9 : Option Value × pj_Mem} : pj_Ends 59 (97, L, .int i :: .ref o :: st, (N, S, H)) o9 = pj_then 59 o9 (pj_pi 98 L st (N, S, H) (pj_arl (H o) 0 i)) := pj_xt q59_97 rfl (pj_cl_nc rfl) (s59_97)
theorem q59_98 : pj_row 59 98 = some (.ireturn, 1, 0, 0, 0) := by decide +kernel
theorem t59_98 {L : pj_Loc} {M : pj_Mem} {v : Int32} : pj_Ends 59 (98, L, [.int v], M) (some (.int v), M) := pj_Ends.ret q59_98 (pj_rtn_i rt59)
theorem q59_99 : pj_row 59 99 = some (.aload_n 0, 1, 0, 0, 0) := by decide +kernel
theorem s59_99 {st : List Value} {M : pj_Mem} {l : pj_Loc} {x : Nat} : pj_step 59 (99, some (.ref x) :: l, st, M) = some (100, some (.ref x) :: l, .ref x :: st, M) := st_aload_n q59_99 rfl
theorem x59_99 {st : List Value} {M : pj_Mem} {l : pj_Loc} {x : Nat} {o9 : Option Value × pj_Mem} : pj_Ends 59 (99, some (.ref x) :: l, st, M) o9 = pj_Ends 59 (100, some (.ref x) :: l, .ref x :: st, M) o9 := pj_xs (s59_99)
theorem q59_100 : pj_row 59 100 = some (.getfield 10, 3, 5, 0, 0) := by decide +kernel
theorem s59_100 {L : pj_Loc} {st : List Value} {N S : Nat} {H : pj_Heap} {o : Nat} : pj_step 59 (100, L, .ref o :: st, (N, S, H)) = pj_pv 103 L st (N, S, H) (pj_fld (H o) 5 0) := st_getfield q59_100
theorem x59_100 {L : pj_Loc} {st : List Value} {N S : Nat} {H : pj_Heap} {o : Nat} {o9 : Option Value × pj_Mem} : pj_Ends 59 (100, L, .ref o :: st, (N, S, H)) o9 = pj_then 59 o9 (pj_pv 103 L st (N, S, H) (pj_fld (H o) 5 0)) := pj_xt q59_100 rfl (pj_cl_nc rfl) (s59_100)
theorem q59_103 : pj_row 59 103 = some (.getfield 65, 3, 4, 10, 0) := by decide +kernel
theorem s59_103 {L : pj_Loc} {st : List Value} {N S : Nat} {H : pj_Heap} {o : Nat} : pj_step 59 (103, L, .ref o :: st, (N, S, H)) = pj_pv 106 L st (N, S, H) (pj_fld (H o) 4 10) := st_getfield q59_103
theorem x59_103 {L : pj_Loc} {st : List Value} {N S : Nat} {H : pj_Heap} {o : Nat} {o9 : Option Value × pj_Mem} : pj_Ends 59 (103, L, .ref o :: st, (N, S, H)) o9 = pj_then 59 o9 (pj_pv 106 L st (N, S, H) (pj_fld (H o) 4 10)) := pj_xt q59_103 rfl (pj_cl_nc rfl) (s59_103)
theorem q59_106 : pj_row 59 106 = some (.ifCond .ne 8, 3, 114, 0, 0) := by decide +kernel
theorem s59_106 {L : pj_Loc} {st : List Value} {M : pj_Mem} {x : Int32} : pj_step 59 (106, L, .int x :: st, M) = some (if ¬ x = 0 then 114 else 109, L, st, M) := st_if_ne q59_106
theorem x59_106 {L : pj_Loc} {st : List Value} {M : pj_Mem} {x : Int32} {o9 : Option Value × pj_Mem} : pj_Ends 59 (106, L, .int x :: st, M) o9 = pj_Ends 59 (if ¬ x = 0 then 114 else 109, L, st, M) o9 := pj_xs (s59_106)
theorem q59_109 : pj_row 59 109 = some (.bipush (-6), 2, 0, 0, 0) := by decide +kernel
theorem s59_109 {L : pj_Loc} {st : List Value} {M : pj_Mem}  : pj_step 59 (109, L, st, M) = some (111, L, .int (-6) :: st, M) := st_bipush q59_109 (by decide +kernel)
theorem x59_109 {L : pj_Loc} {st : List Value} {M : pj_Mem}  {o9 : Option Value × pj_Mem} : pj_Ends 59 (109, L, st, M) o9 = pj_Ends 59 (111, L, .int (-6) :: st, M) o9 := pj_xs (s59_109)
theorem q59_111 : pj_row 59 111 = some (.goto 15, 3, 126, 0, 0) := by decide +kernel
theorem s59_111 {L : pj_Loc} {st : List Value} {M : pj_Mem}  : pj_step 59 (111, L, st, M) = some (126, L, st, M) := st_goto q59_111
theorem x59_111 {L : pj_Loc} {st : List Value} {M : pj_Mem}  {o9 : Option Value × pj_Mem} : pj_Ends 59 (111, L, st, M) o9 = pj_Ends 59 (126, L, st, M) o9 := pj_xs (s59_111)
theorem q59_114 : pj_row 59 114 = some (.aload_n 0, 1, 0, 0, 0) := by decide +kernel
theorem s59_114 {st : List Value} {M : pj_Mem} {l : pj_Loc} {x : Nat} : pj_step 59 (114, some (.ref x) :: l, st, M) = some (115, some (.ref x) :: l, .ref x :: st, M) := st_aload_n q59_114 rfl
theorem x59_114 {st : List Value} {M : pj_Mem} {l : pj_Loc} {x : Nat} {o9 : Option Value × pj_Mem} : pj_Ends 59 (114, some (.ref x) :: l, st, M) o9 = pj_Ends 59 (115, some (.ref x) :: l, .ref x :: st, M) o9 := pj_xs (s59_114)
theorem q59_115 : pj_row 59 115 = some (.getfield 10, 3, 5, 0, 0) := by decide +kernel
theorem s59_115 {L : pj_Loc} {st : List Value} {N S : Nat} {H : pj_Heap} {o : Nat} : pj_step 59 (115, L, .ref o :: st, (N, S, H)) = pj_pv 118 L st (N, S, H) (pj_fld (H o) 5 0) := st_getfield q59_115
theorem x59_115 {L : pj_Loc} {st : List Value} {N S : Nat} {H : pj_Heap} {o : Nat} {o9 : Option Value × pj_Mem} : pj_Ends 59 (115, L, .ref o :: st, (N, S, H)) o9 = pj_then 59 o9 (pj_pv 118 L st (N, S, H) (pj_fld (H o) 5 0)) := pj_xt q59_115 rfl (pj_cl_nc rfl) (s59_115)
theorem q59_118 : pj_row 59 118 = some (.getfield 120, 3, 4, 4, 0) := by decide +kernel
theorem s59_118 {L : pj_Loc} {st : List Value} {N S : Nat} {H : pj_Heap} {o : Nat} : pj_step 59 (118, L, .ref o :: st, (N, S, H)) = pj_pv 121 L st (N, S, H) (pj_fld (H o) 4 4) := st_getfield q59_118
theorem x59_118 {L : pj_Loc} {st : List Value} {N S : Nat} {H : pj_Heap} {o : Nat} {o9 : Option Value × pj_Mem} : pj_Ends 59 (118, L, .ref o :: st, (N, S, H)) o9 = pj_then 59 o9 (pj_pv 121 L st (N, S, H) (pj_fld (H o) 4 4)) := pj_xt q59_118 rfl (pj_cl_nc rfl) (s59_118)
theorem q59_121 : pj_row 59 121 = some (.iload_n 1, 1, 0, 0, 0) := by decide +kernel
theorem s59_121 {st : List Value} {M : pj_Mem} {l : pj_Loc} {a0 : Option Value} {x : Int32} : pj_step 59 (121, a0 :: some (.int x) :: l, st, M) = some (122, a0 :: some (.int x) :: l, .int x :: st, M) := st_iload_n q59_121 rfl
theorem x59_121 {st : List Value} {M : pj_Mem} {l : pj_Loc} {a0 : Option Value} {x : Int32} {o9 : Option Value × pj_Mem} : pj_Ends 59 (121, a0 :: some (.int x) :: l, st, M) o9 = pj_Ends 59 (122, a0 :: some (.int x) :: l, .int x :: st, M) o9 := pj_xs (s59_121)
theorem q59_122 : pj_row 59 122 = some (.iaload, 1, 0, 0, 0) := by decide +kernel
theorem s59_122 {L : pj_Loc} {st : List Value} {N S : Nat} {H : pj_Heap} {o : Nat} {i : Int32} : pj_step 59 (122, L, .int i :: .ref o :: st, (N, S, H)) = pj_pi 123 L st (N, S, H) (pj_arl (H o) 0 i) := st_iaload q59_122
theorem x59_122 {L : pj_Loc} {st : List Value} {N S : Nat} {H : pj_Heap} {o : Nat} {i : Int32} {o9 : Option Value × pj_Mem} : pj_Ends 59 (122, L, .int i :: .ref o :: st, (N, S, H)) o9 = pj_then 59 o9 (pj_pi 123 L st (N, S, H) (pj_arl (H o) 0 i)) := pj_xt q59_122 rfl (pj_cl_nc rfl) (s59_122)
theorem q59_123 : pj_row 59 123 = some (.ldc 69, 2, 0, 0, 100000) := by decide +kernel
theorem s59_123 {L : pj_Loc} {st : List Value} {M : pj_Mem}  : pj_step 59 (123, L, st, M) = some (125, L, .int 100000 :: st, M) := st_ldc q59_123 (by decide +kernel)
theorem x59_123 {L : pj_Loc} {st : List Value} {M : pj_Mem}  {o9 : Option Value × pj_Mem} : pj_Ends 59 (123, L, st, M) o9 = pj_Ends 59 (125, L, .int 100000 :: st, M) o9 := pj_xs (s59_123)
theorem q59_125 : pj_row 59 125 = some (.iadd, 1, 0, 0, 0) := by decide +kernel
theorem s59_125 {L : pj_Loc} {st : List Value} {M : pj_Mem} {x y : Int32} : pj_step 59 (125, L, .int y :: .int x :: st, M) = some (126, L, .int (x + y) :: st, M) := st_iadd q59_125
theorem x59_125 {L : pj_Loc} {st : List Value} {M : pj_Mem} {x y : Int32} {o9 : Option Value × pj_Mem} : pj_Ends 59 (125, L, .int y :: .int x :: st, M) o9 = pj_Ends 59 (126, L, .int (x + y) :: st, M) o9 := pj_xs (s59_125)
theorem q59_126 : pj_row 59 126 = some (.ireturn, 1, 0, 0, 0) := by decide +kernel
theorem t59_126 {L : pj_Loc} {M : pj_Mem} {v : Int32} : pj_Ends 59 (126, L, [.int v], M) (some (.int v), M) := pj_Ends.ret q59_126 (pj_rtn_i rt59)
theorem q59_127 : pj_row 59 127 = some (.bipush (-2), 2, 0, 0, 0) := by decide +kernel
theorem s59_127 {L : pj_Loc} {st : List Value} {M : pj_Mem}  : pj_step 59 (127, L, st, M) = some (129, L, .int (-2) :: st, M) := st_bipush q59_127 (by decide +kernel)
theorem x59_127 {L : pj_Loc} {st : List Value} {M : pj_Mem}  {o9 : Option Value × pj_Mem} : pj_Ends 59 (127, L, st, M) o9 = pj_Ends 59 (129, L, .int (-2) :: st, M) o9 := pj_xs (s59_127)
theorem q59_129 : pj_row 59 129 = some (.ireturn, 1, 0, 0, 0) := by decide +kernel
theorem t59_129 {L : pj_Loc} {M : pj_Mem} {v : Int32} : pj_Ends 59 (129, L, [.int v], M) (some (.int v), M) := pj_Ends.ret q59_129 (pj_rtn_i rt59)
theorem rt60 : pj_rt 60 = some .int := rfl
theorem q60_0 : pj_row 60 0 = some (.iload_n 1, 1, 0, 0, 0) := by decide +kernel
theorem s60_0 {st : List Value} {M : pj_Mem} {l : pj_Loc} {a0 : Option Value} {x : Int32} : pj_step 60 (0, a0 :: some (.int x) :: l, st, M) = some (1, a0 :: some (.int x) :: l, .int x :: st, M) := st_iload_n q60_0 rfl
theorem x60_0 {st : List Value} {M : pj_Mem} {l : pj_Loc} {a0 : Option Value} {x : Int32} {o9 : Option Value × pj_Mem} : pj_Ends 60 (0, a0 :: some (.int x) :: l, st, M) o9 = pj_Ends 60 (1, a0 :: some (.int x) :: l, .int x :: st, M) o9 := pj_xs (s60_0)
theorem q60_1 : pj_row 60 1 = some (.ifCond .lt 17, 3, 18, 0, 0) := by decide +kernel
theorem s60_1 {L : pj_Loc} {st : List Value} {M : pj_Mem} {x : Int32} : pj_step 60 (1, L, .int x :: st, M) = some (if x < 0 then 18 else 4, L, st, M) := st_if_lt q60_1
theorem x60_1 {L : pj_Loc} {st : List Value} {M : pj_Mem} {x : Int32} {o9 : Option Value × pj_Mem} : pj_Ends 60 (1, L, .int x :: st, M) o9 = pj_Ends 60 (if x < 0 then 18 else 4, L, st, M) o9 := pj_xs (s60_1)
theorem q60_4 : pj_row 60 4 = some (.iload_n 1, 1, 0, 0, 0) := by decide +kernel
theorem s60_4 {st : List Value} {M : pj_Mem} {l : pj_Loc} {a0 : Option Value} {x : Int32} : pj_step 60 (4, a0 :: some (.int x) :: l, st, M) = some (5, a0 :: some (.int x) :: l, .int x :: st, M) := st_iload_n q60_4 rfl
theorem x60_4 {st : List Value} {M : pj_Mem} {l : pj_Loc} {a0 : Option Value} {x : Int32} {o9 : Option Value × pj_Mem} : pj_Ends 60 (4, a0 :: some (.int x) :: l, st, M) o9 = pj_Ends 60 (5, a0 :: some (.int x) :: l, .int x :: st, M) o9 := pj_xs (s60_4)
theorem q60_5 : pj_row 60 5 = some (.aload_n 0, 1, 0, 0, 0) := by decide +kernel
theorem s60_5 {st : List Value} {M : pj_Mem} {l : pj_Loc} {x : Nat} : pj_step 60 (5, some (.ref x) :: l, st, M) = some (6, some (.ref x) :: l, .ref x :: st, M) := st_aload_n q60_5 rfl
theorem x60_5 {st : List Value} {M : pj_Mem} {l : pj_Loc} {x : Nat} {o9 : Option Value × pj_Mem} : pj_Ends 60 (5, some (.ref x) :: l, st, M) o9 = pj_Ends 60 (6, some (.ref x) :: l, .ref x :: st, M) o9 := pj_xs (s60_5)
theorem q60_6 : pj_row 60 6 = some (.getfield 10, 3, 5, 0, 0) := by decide +kernel
theorem s60_6 {L : pj_Loc} {st : List Value} {N S : Nat} {H : pj_Heap} {o : Nat} : pj_step 60 (6, L, .ref o :: st, (N, S, H)) = pj_pv 9 L st (N, S, H) (pj_fld (H o) 5 0) := st_getfield q60_6
theorem x60_6 {L : pj_Loc} {st : List Value} {N S : Nat} {H : pj_Heap} {o : Nat} {o9 : Option Value × pj_Mem} : pj_Ends 60 (6, L, .ref o :: st, (N, S, H)) o9 = pj_then 60 o9 (pj_pv 9 L st (N, S, H) (pj_fld (H o) 5 0)) := pj_xt q60_6 rfl (pj_cl_nc rfl) (s60_6)
theorem q60_9 : pj_row 60 9 = some (.getfield 123, 3, 4, 6, 0) := by decide +kernel
theorem s60_9 {L : pj_Loc} {st : List Value} {N S : Nat} {H : pj_Heap} {o : Nat} : pj_step 60 (9, L, .ref o :: st, (N, S, H)) = pj_pv 12 L st (N, S, H) (pj_fld (H o) 4 6) := st_getfield q60_9
theorem x60_9 {L : pj_Loc} {st : List Value} {N S : Nat} {H : pj_Heap} {o : Nat} {o9 : Option Value × pj_Mem} : pj_Ends 60 (9, L, .ref o :: st, (N, S, H)) o9 = pj_then 60 o9 (pj_pv 12 L st (N, S, H) (pj_fld (H o) 4 6)) := pj_xt q60_9 rfl (pj_cl_nc rfl) (s60_9)
theorem q60_12 : pj_row 60 12 = some (.getfield 127, 3, 2, 1, 0) := by decide +kernel
theorem s60_12 {L : pj_Loc} {st : List Value} {N S : Nat} {H : pj_Heap} {o : Nat} : pj_step 60 (12, L, .ref o :: st, (N, S, H)) = pj_pv 15 L st (N, S, H) (pj_fld (H o) 2 1) := st_getfield q60_12
theorem x60_12 {L : pj_Loc} {st : List Value} {N S : Nat} {H : pj_Heap} {o : Nat} {o9 : Option Value × pj_Mem} : pj_Ends 60 (12, L, .ref o :: st, (N, S, H)) o9 = pj_then 60 o9 (pj_pv 15 L st (N, S, H) (pj_fld (H o) 2 1)) := pj_xt q60_12 rfl (pj_cl_nc rfl) (s60_12)
theorem q60_15 : pj_row 60 15 = some (.if_icmp .lt 5, 3, 20, 0, 0) := by decide +kernel
theorem s60_15 {L : pj_Loc} {st : List Value} {M : pj_Mem} {x y : Int32} : pj_step 60 (15, L, .int y :: .int x :: st, M) = some (if x < y then 20 else 18, L, st, M) := st_icmp_lt q60_15
theorem x60_15 {L : pj_Loc} {st : List Value} {M : pj_Mem} {x y : Int32} {o9 : Option Value × pj_Mem} : pj_Ends 60 (15, L, .int y :: .int x :: st, M) o9 = pj_Ends 60 (if x < y then 20 else 18, L, st, M) o9 := pj_xs (s60_15)
theorem q60_18 : pj_row 60 18 = some (.iconst (-1), 1, 0, 0, 0) := by decide +kernel
theorem s60_18 {L : pj_Loc} {st : List Value} {M : pj_Mem}  : pj_step 60 (18, L, st, M) = some (19, L, .int (-1) :: st, M) := st_iconst q60_18 (by decide +kernel)
theorem x60_18 {L : pj_Loc} {st : List Value} {M : pj_Mem}  {o9 : Option Value × pj_Mem} : pj_Ends 60 (18, L, st, M) o9 = pj_Ends 60 (19, L, .int (-1) :: st, M) o9 := pj_xs (s60_18)
theorem q60_19 : pj_row 60 19 = some (.ireturn, 1, 0, 0, 0) := by decide +kernel
theorem t60_19 {L : pj_Loc} {M : pj_Mem} {v : Int32} : pj_Ends 60 (19, L, [.int v], M) (some (.int v), M) := pj_Ends.ret q60_19 (pj_rtn_i rt60)
theorem q60_20 : pj_row 60 20 = some (.iload_n 2, 1, 0, 0, 0) := by decide +kernel
theorem s60_20 {st : List Value} {M : pj_Mem} {l : pj_Loc} {a0 a1 : Option Value} {x : Int32} : pj_step 60 (20, a0 :: a1 :: some (.int x) :: l, st, M) = some (21, a0 :: a1 :: some (.int x) :: l, .int x :: st, M) := st_iload_n q60_20 rfl
theorem x60_20 {st : List Value} {M : pj_Mem} {l : pj_Loc} {a0 a1 : Option Value} {x : Int32} {o9 : Option Value × pj_Mem} : pj_Ends 60 (20, a0 :: a1 :: some (.int x) :: l, st, M) o9 = pj_Ends 60 (21, a0 :: a1 :: some (.int x) :: l, .int x :: st, M) o9 := pj_xs (s60_20)
theorem q60_21 : pj_row 60 21 = some (.ifCond .lt 9, 3, 30, 0, 0) := by decide +kernel
theorem s60_21 {L : pj_Loc} {st : List Value} {M : pj_Mem} {x : Int32} : pj_step 60 (21, L, .int x :: st, M) = some (if x < 0 then 30 else 24, L, st, M) := st_if_lt q60_21
theorem x60_21 {L : pj_Loc} {st : List Value} {M : pj_Mem} {x : Int32} {o9 : Option Value × pj_Mem} : pj_Ends 60 (21, L, .int x :: st, M) o9 = pj_Ends 60 (if x < 0 then 30 else 24, L, st, M) o9 := pj_xs (s60_21)
theorem q60_24 : pj_row 60 24 = some (.iload_n 2, 1, 0, 0, 0) := by decide +kernel
theorem s60_24 {st : List Value} {M : pj_Mem} {l : pj_Loc} {a0 a1 : Option Value} {x : Int32} : pj_step 60 (24, a0 :: a1 :: some (.int x) :: l, st, M) = some (25, a0 :: a1 :: some (.int x) :: l, .int x :: st, M) := st_iload_n q60_24 rfl
theorem x60_24 {st : List Value} {M : pj_Mem} {l : pj_Loc} {a0 a1 : Option Value} {x : Int32} {o9 : Option Value × pj_Mem} : pj_Ends 60 (24, a0 :: a1 :: some (.int x) :: l, st, M) o9 = pj_Ends 60 (25, a0 :: a1 :: some (.int x) :: l, .int x :: st, M) o9 := pj_xs (s60_24)
theorem q60_25 : pj_row 60 25 = some (.bipush 10, 2, 0, 0, 0) := by decide +kernel
theorem s60_25 {L : pj_Loc} {st : List Value} {M : pj_Mem}  : pj_step 60 (25, L, st, M) = some (27, L, .int 10 :: st, M) := st_bipush q60_25 (by decide +kernel)
theorem x60_25 {L : pj_Loc} {st : List Value} {M : pj_Mem}  {o9 : Option Value × pj_Mem} : pj_Ends 60 (25, L, st, M) o9 = pj_Ends 60 (27, L, .int 10 :: st, M) o9 := pj_xs (s60_25)
theorem q60_27 : pj_row 60 27 = some (.if_icmp .lt 6, 3, 33, 0, 0) := by decide +kernel
theorem s60_27 {L : pj_Loc} {st : List Value} {M : pj_Mem} {x y : Int32} : pj_step 60 (27, L, .int y :: .int x :: st, M) = some (if x < y then 33 else 30, L, st, M) := st_icmp_lt q60_27
theorem x60_27 {L : pj_Loc} {st : List Value} {M : pj_Mem} {x y : Int32} {o9 : Option Value × pj_Mem} : pj_Ends 60 (27, L, .int y :: .int x :: st, M) o9 = pj_Ends 60 (if x < y then 33 else 30, L, st, M) o9 := pj_xs (s60_27)
theorem q60_30 : pj_row 60 30 = some (.bipush (-2), 2, 0, 0, 0) := by decide +kernel
theorem s60_30 {L : pj_Loc} {st : List Value} {M : pj_Mem}  : pj_step 60 (30, L, st, M) = some (32, L, .int (-2) :: st, M) := st_bipush q60_30 (by decide +kernel)
theorem x60_30 {L : pj_Loc} {st : List Value} {M : pj_Mem}  {o9 : Option Value × pj_Mem} : pj_Ends 60 (30, L, st, M) o9 = pj_Ends 60 (32, L, .int (-2) :: st, M) o9 := pj_xs (s60_30)
theorem q60_32 : pj_row 60 32 = some (.ireturn, 1, 0, 0, 0) := by decide +kernel
theorem t60_32 {L : pj_Loc} {M : pj_Mem} {v : Int32} : pj_Ends 60 (32, L, [.int v], M) (some (.int v), M) := pj_Ends.ret q60_32 (pj_rtn_i rt60)
theorem q60_33 : pj_row 60 33 = some (.aload_n 0, 1, 0, 0, 0) := by decide +kernel
theorem s60_33 {st : List Value} {M : pj_Mem} {l : pj_Loc} {x : Nat} : pj_step 60 (33, some (.ref x) :: l, st, M) = some (34, some (.ref x) :: l, .ref x :: st, M) := st_aload_n q60_33 rfl
theorem x60_33 {st : List Value} {M : pj_Mem} {l : pj_Loc} {x : Nat} {o9 : Option Value × pj_Mem} : pj_Ends 60 (33, some (.ref x) :: l, st, M) o9 = pj_Ends 60 (34, some (.ref x) :: l, .ref x :: st, M) o9 := pj_xs (s60_33)
theorem q60_34 : pj_row 60 34 = some (.getfield 10, 3, 5, 0, 0) := by decide +kernel
theorem s60_34 {L : pj_Loc} {st : List Value} {N S : Nat} {H : pj_Heap} {o : Nat} : pj_step 60 (34, L, .ref o :: st, (N, S, H)) = pj_pv 37 L st (N, S, H) (pj_fld (H o) 5 0) := st_getfield q60_34
theorem x60_34 {L : pj_Loc} {st : List Value} {N S : Nat} {H : pj_Heap} {o : Nat} {o9 : Option Value × pj_Mem} : pj_Ends 60 (34, L, .ref o :: st, (N, S, H)) o9 = pj_then 60 o9 (pj_pv 37 L st (N, S, H) (pj_fld (H o) 5 0)) := pj_xt q60_34 rfl (pj_cl_nc rfl) (s60_34)
theorem q60_37 : pj_row 60 37 = some (.getfield 123, 3, 4, 6, 0) := by decide +kernel
theorem s60_37 {L : pj_Loc} {st : List Value} {N S : Nat} {H : pj_Heap} {o : Nat} : pj_step 60 (37, L, .ref o :: st, (N, S, H)) = pj_pv 40 L st (N, S, H) (pj_fld (H o) 4 6) := st_getfield q60_37
theorem x60_37 {L : pj_Loc} {st : List Value} {N S : Nat} {H : pj_Heap} {o : Nat} {o9 : Option Value × pj_Mem} : pj_Ends 60 (37, L, .ref o :: st, (N, S, H)) o9 = pj_then 60 o9 (pj_pv 40 L st (N, S, H) (pj_fld (H o) 4 6)) := pj_xt q60_37 rfl (pj_cl_nc rfl) (s60_37)
theorem q60_40 : pj_row 60 40 = some (.getfield 132, 3, 2, 0, 0) := by decide +kernel
theorem s60_40 {L : pj_Loc} {st : List Value} {N S : Nat} {H : pj_Heap} {o : Nat} : pj_step 60 (40, L, .ref o :: st, (N, S, H)) = pj_pv 43 L st (N, S, H) (pj_fld (H o) 2 0) := st_getfield q60_40
theorem x60_40 {L : pj_Loc} {st : List Value} {N S : Nat} {H : pj_Heap} {o : Nat} {o9 : Option Value × pj_Mem} : pj_Ends 60 (40, L, .ref o :: st, (N, S, H)) o9 = pj_then 60 o9 (pj_pv 43 L st (N, S, H) (pj_fld (H o) 2 0)) := pj_xt q60_40 rfl (pj_cl_nc rfl) (s60_40)
theorem q60_43 : pj_row 60 43 = some (.iload_n 1, 1, 0, 0, 0) := by decide +kernel
theorem s60_43 {st : List Value} {M : pj_Mem} {l : pj_Loc} {a0 : Option Value} {x : Int32} : pj_step 60 (43, a0 :: some (.int x) :: l, st, M) = some (44, a0 :: some (.int x) :: l, .int x :: st, M) := st_iload_n q60_43 rfl
theorem x60_43 {st : List Value} {M : pj_Mem} {l : pj_Loc} {a0 : Option Value} {x : Int32} {o9 : Option Value × pj_Mem} : pj_Ends 60 (43, a0 :: some (.int x) :: l, st, M) o9 = pj_Ends 60 (44, a0 :: some (.int x) :: l, .int x :: st, M) o9 := pj_xs (s60_43)
theorem q60_44 : pj_row 60 44 = some (.bipush 10, 2, 0, 0, 0) := by decide +kernel
theorem s60_44 {L : pj_Loc} {st : List Value} {M : pj_Mem}  : pj_step 60 (44, L, st, M) = some (46, L, .int 10 :: st, M) := st_bipush q60_44 (by decide +kernel)
theorem x60_44 {L : pj_Loc} {st : List Value} {M : pj_Mem}  {o9 : Option Value × pj_Mem} : pj_Ends 60 (44, L, st, M) o9 = pj_Ends 60 (46, L, .int 10 :: st, M) o9 := pj_xs (s60_44)
theorem q60_46 : pj_row 60 46 = some (.imul, 1, 0, 0, 0) := by decide +kernel
theorem s60_46 {L : pj_Loc} {st : List Value} {M : pj_Mem} {x y : Int32} : pj_step 60 (46, L, .int y :: .int x :: st, M) = some (47, L, .int (x * y) :: st, M) := st_imul q60_46
theorem x60_46 {L : pj_Loc} {st : List Value} {M : pj_Mem} {x y : Int32} {o9 : Option Value × pj_Mem} : pj_Ends 60 (46, L, .int y :: .int x :: st, M) o9 = pj_Ends 60 (47, L, .int (x * y) :: st, M) o9 := pj_xs (s60_46)
theorem q60_47 : pj_row 60 47 = some (.iload_n 2, 1, 0, 0, 0) := by decide +kernel
theorem s60_47 {st : List Value} {M : pj_Mem} {l : pj_Loc} {a0 a1 : Option Value} {x : Int32} : pj_step 60 (47, a0 :: a1 :: some (.int x) :: l, st, M) = some (48, a0 :: a1 :: some (.int x) :: l, .int x :: st, M) := st_iload_n q60_47 rfl
theorem x60_47 {st : List Value} {M : pj_Mem} {l : pj_Loc} {a0 a1 : Option Value} {x : Int32} {o9 : Option Value × pj_Mem} : pj_Ends 60 (47, a0 :: a1 :: some (.int x) :: l, st, M) o9 = pj_Ends 60 (48, a0 :: a1 :: some (.int x) :: l, .int x :: st, M) o9 := pj_xs (s60_47)
theorem q60_48 : pj_row 60 48 = some (.iadd, 1, 0, 0, 0) := by decide +kernel
theorem s60_48 {L : pj_Loc} {st : List Value} {M : pj_Mem} {x y : Int32} : pj_step 60 (48, L, .int y :: .int x :: st, M) = some (49, L, .int (x + y) :: st, M) := st_iadd q60_48
theorem x60_48 {L : pj_Loc} {st : List Value} {M : pj_Mem} {x y : Int32} {o9 : Option Value × pj_Mem} : pj_Ends 60 (48, L, .int y :: .int x :: st, M) o9 = pj_Ends 60 (49, L, .int (x + y) :: st, M) o9 := pj_xs (s60_48)
theorem q60_49 : pj_row 60 49 = some (.iaload, 1, 0, 0, 0) := by decide +kernel
theorem s60_49 {L : pj_Loc} {st : List Value} {N S : Nat} {H : pj_Heap} {o : Nat} {i : Int32} : pj_step 60 (49, L, .int i :: .ref o :: st, (N, S, H)) = pj_pi 50 L st (N, S, H) (pj_arl (H o) 0 i) := st_iaload q60_49
theorem x60_49 {L : pj_Loc} {st : List Value} {N S : Nat} {H : pj_Heap} {o : Nat} {i : Int32} {o9 : Option Value × pj_Mem} : pj_Ends 60 (49, L, .int i :: .ref o :: st, (N, S, H)) o9 = pj_then 60 o9 (pj_pi 50 L st (N, S, H) (pj_arl (H o) 0 i)) := pj_xt q60_49 rfl (pj_cl_nc rfl) (s60_49)
theorem q60_50 : pj_row 60 50 = some (.ireturn, 1, 0, 0, 0) := by decide +kernel
theorem t60_50 {L : pj_Loc} {M : pj_Mem} {v : Int32} : pj_Ends 60 (50, L, [.int v], M) (some (.int v), M) := pj_Ends.ret q60_50 (pj_rtn_i rt60)
