/-! THE STEPS OF EACH METHOD, by program (wip/whole/gen/gen12.py) -/
theorem pj_rtn_i {k : Nat} {v : Int32} (h : pj_rt k = some .int) : pj_rtn k .ireturn [.int v] = some (some (.int v)) := by unfold pj_rtn; simp only [h]; exact if_pos rfl
theorem pj_rtn_z {k : Nat} {v : Int32} (h : pj_rt k = some .boolean) (hv : v = 0 ∨ v = 1) : pj_rtn k .ireturn [.int v] = some (some (.int v)) := by unfold pj_rtn; simp only [h]; rcases hv with rfl | rfl <;> exact if_pos (by decide)
theorem pj_rtn_v {k : Nat} (h : pj_rt k = none) : pj_rtn k .return_ [] = some none := by unfold pj_rtn; simp only [h, if_true]
theorem pj_rtn_a {k a : Nat} {t : FieldType} (h : pj_rt k = some (.array t)) : pj_rtn k .areturn [.ref a] = some (some (.ref a)) := by unfold pj_rtn; simp only [h]
theorem pj_long_i {x : Int32} : pj_long (some (.int x)) = false := rfl
theorem pj_long_r {x : Nat} : pj_long (some (.ref x)) = false := rfl
theorem pj_long_n : pj_long none = false := rfl
theorem pj_st_0 {a0 : Option Value} {l : pj_Loc} {v : Value} : pj_st (a0 :: l) 0 v = some (some v :: l) := rfl
theorem pj_st_1 {a0 a1 : Option Value} {l : pj_Loc} {v : Value} (h : pj_long a0 = false) : pj_st (a0 :: a1 :: l) 1 v = some (a0 :: some v :: l) := by simp [pj_st, h]
theorem pj_st_2 {a0 a1 a2 : Option Value} {l : pj_Loc} {v : Value} (h : pj_long a1 = false) : pj_st (a0 :: a1 :: a2 :: l) 2 v = some (a0 :: a1 :: some v :: l) := by simp [pj_st, h]
theorem pj_st_3 {a0 a1 a2 a3 : Option Value} {l : pj_Loc} {v : Value} (h : pj_long a2 = false) : pj_st (a0 :: a1 :: a2 :: a3 :: l) 3 v = some (a0 :: a1 :: a2 :: some v :: l) := by simp [pj_st, h]
theorem pj_st_4 {a0 a1 a2 a3 a4 : Option Value} {l : pj_Loc} {v : Value} (h : pj_long a3 = false) : pj_st (a0 :: a1 :: a2 :: a3 :: a4 :: l) 4 v = some (a0 :: a1 :: a2 :: a3 :: some v :: l) := by simp [pj_st, h]
theorem pj_st_5 {a0 a1 a2 a3 a4 a5 : Option Value} {l : pj_Loc} {v : Value} (h : pj_long a4 = false) : pj_st (a0 :: a1 :: a2 :: a3 :: a4 :: a5 :: l) 5 v = some (a0 :: a1 :: a2 :: a3 :: a4 :: some v :: l) := by simp [pj_st, h]
theorem pj_st_6 {a0 a1 a2 a3 a4 a5 a6 : Option Value} {l : pj_Loc} {v : Value} (h : pj_long a5 = false) : pj_st (a0 :: a1 :: a2 :: a3 :: a4 :: a5 :: a6 :: l) 6 v = some (a0 :: a1 :: a2 :: a3 :: a4 :: a5 :: some v :: l) := by simp [pj_st, h]
theorem pj_st_7 {a0 a1 a2 a3 a4 a5 a6 a7 : Option Value} {l : pj_Loc} {v : Value} (h : pj_long a6 = false) : pj_st (a0 :: a1 :: a2 :: a3 :: a4 :: a5 :: a6 :: a7 :: l) 7 v = some (a0 :: a1 :: a2 :: a3 :: a4 :: a5 :: a6 :: some v :: l) := by simp [pj_st, h]
theorem pj_stl_0 {a0 a1 : Option Value} {l : pj_Loc} {v : Value} : pj_stl (a0 :: a1 :: l) 0 v = some (some v :: none :: l) := rfl
theorem pj_stl_1 {a0 a1 a2 : Option Value} {l : pj_Loc} {v : Value} (h : pj_long a0 = false) : pj_stl (a0 :: a1 :: a2 :: l) 1 v = some (a0 :: some v :: none :: l) := by simp [pj_stl, h]
theorem pj_stl_2 {a0 a1 a2 a3 : Option Value} {l : pj_Loc} {v : Value} (h : pj_long a1 = false) : pj_stl (a0 :: a1 :: a2 :: a3 :: l) 2 v = some (a0 :: a1 :: some v :: none :: l) := by simp [pj_stl, h]
theorem pj_stl_3 {a0 a1 a2 a3 a4 : Option Value} {l : pj_Loc} {v : Value} (h : pj_long a2 = false) : pj_stl (a0 :: a1 :: a2 :: a3 :: a4 :: l) 3 v = some (a0 :: a1 :: a2 :: some v :: none :: l) := by simp [pj_stl, h]
theorem pj_stl_4 {a0 a1 a2 a3 a4 a5 : Option Value} {l : pj_Loc} {v : Value} (h : pj_long a3 = false) : pj_stl (a0 :: a1 :: a2 :: a3 :: a4 :: a5 :: l) 4 v = some (a0 :: a1 :: a2 :: a3 :: some v :: none :: l) := by simp [pj_stl, h]
theorem pj_stl_5 {a0 a1 a2 a3 a4 a5 a6 : Option Value} {l : pj_Loc} {v : Value} (h : pj_long a4 = false) : pj_stl (a0 :: a1 :: a2 :: a3 :: a4 :: a5 :: a6 :: l) 5 v = some (a0 :: a1 :: a2 :: a3 :: a4 :: some v :: none :: l) := by simp [pj_stl, h]
theorem pj_stl_6 {a0 a1 a2 a3 a4 a5 a6 a7 : Option Value} {l : pj_Loc} {v : Value} (h : pj_long a5 = false) : pj_stl (a0 :: a1 :: a2 :: a3 :: a4 :: a5 :: a6 :: a7 :: l) 6 v = some (a0 :: a1 :: a2 :: a3 :: a4 :: a5 :: some v :: none :: l) := by simp [pj_stl, h]
theorem rt0 : pj_rt 0 = none := rfl
theorem q0_0 : pj_row 0 0 = some (.aload_n 0, 1, 0, 0, 0) := by decide +kernel
theorem s0_0 {st : List Value} {M : pj_Mem} {l : pj_Loc} {x : Nat} : pj_step 0 (0, some (.ref x) :: l, st, M) = some (1, some (.ref x) :: l, .ref x :: st, M) := st_aload_n q0_0 rfl
theorem q0_1 : pj_row 0 1 = some (.invokespecial 1, 3, 0, 1, 2) := by decide +kernel
theorem s0_1 {L : pj_Loc} {st : List Value} {M : pj_Mem} {o : Nat} : pj_step 0 (1, L, .ref o :: st, M) = pj_g4 st (some (4, L, st, M)) := st_obj q0_1
theorem q0_4 : pj_row 0 4 = some (.aload_n 0, 1, 0, 0, 0) := by decide +kernel
theorem s0_4 {st : List Value} {M : pj_Mem} {l : pj_Loc} {x : Nat} : pj_step 0 (4, some (.ref x) :: l, st, M) = some (5, some (.ref x) :: l, .ref x :: st, M) := st_aload_n q0_4 rfl
theorem q0_5 : pj_row 0 5 = some (.new 7, 3, 4, 0, 0) := by decide +kernel
theorem s0_5 {L : pj_Loc} {st : List Value} {N S : Nat} {H : pj_Heap}  : pj_step 0 (5, L, st, (N, S, H)) = some (8, L, .ref N :: st, (N + 1, S + 11, pj_up H N (.inl (4, [.null, .null, .null, .null, .null, .null, .null, .int 0, .int 0, .int 0, .int 0])))) := (st_new q0_5).trans rfl
theorem q0_8 : pj_row 0 8 = some (.dup, 1, 0, 0, 0) := by decide +kernel
theorem s0_8 {L : pj_Loc} {st : List Value} {M : pj_Mem} {x : Nat} : pj_step 0 (8, L, .ref x :: st, M) = some (9, L, .ref x :: .ref x :: st, M) := st_dup_ref q0_8
theorem s0_8i {L : pj_Loc} {st : List Value} {M : pj_Mem} {x : Int32} : pj_step 0 (8, L, .int x :: st, M) = some (9, L, .int x :: .int x :: st, M) := st_dup_int q0_8
theorem q0_9 : pj_row 0 9 = some (.invokespecial 9, 3, 1, 1, 0) := by decide +kernel
theorem e0_9 {L : pj_Loc} {st : List Value} {N S : Nat} {H : pj_Heap} {o : Option Value × pj_Mem} {M' : pj_Mem} {x0 : Nat} (h4 : pj_le4 st = true) (h1 : pj_Ends 1 (0, [some (.ref x0), none], [], (N, S, H)) (none, M')) (h2 : pj_Ends 0 (12, L, st, M') o) : pj_Ends 0 (9, L, .ref x0 :: st, (N, S, H)) o := ec_i1 q0_9 (Or.inl rfl) h4 rfl h1 h2
theorem q0_12 : pj_row 0 12 = some (.putfield 10, 3, 5, 0, 0) := by decide +kernel
theorem s0_12 {L : pj_Loc} {st : List Value} {N S : Nat} {H : pj_Heap} {o : Nat} {v : Value} : pj_step 0 (12, L, v :: .ref o :: st, (N, S, H)) = pj_set 15 L st (N, S, H) o (pj_fset (H o) 5 0 v) := st_putfield q0_12
theorem q0_15 : pj_row 0 15 = some (.aload_n 0, 1, 0, 0, 0) := by decide +kernel
theorem s0_15 {st : List Value} {M : pj_Mem} {l : pj_Loc} {x : Nat} : pj_step 0 (15, some (.ref x) :: l, st, M) = some (16, some (.ref x) :: l, .ref x :: st, M) := st_aload_n q0_15 rfl
theorem q0_16 : pj_row 0 16 = some (.new 7, 3, 4, 0, 0) := by decide +kernel
theorem s0_16 {L : pj_Loc} {st : List Value} {N S : Nat} {H : pj_Heap}  : pj_step 0 (16, L, st, (N, S, H)) = some (19, L, .ref N :: st, (N + 1, S + 11, pj_up H N (.inl (4, [.null, .null, .null, .null, .null, .null, .null, .int 0, .int 0, .int 0, .int 0])))) := (st_new q0_16).trans rfl
theorem q0_19 : pj_row 0 19 = some (.dup, 1, 0, 0, 0) := by decide +kernel
theorem s0_19 {L : pj_Loc} {st : List Value} {M : pj_Mem} {x : Nat} : pj_step 0 (19, L, .ref x :: st, M) = some (20, L, .ref x :: .ref x :: st, M) := st_dup_ref q0_19
theorem s0_19i {L : pj_Loc} {st : List Value} {M : pj_Mem} {x : Int32} : pj_step 0 (19, L, .int x :: st, M) = some (20, L, .int x :: .int x :: st, M) := st_dup_int q0_19
theorem q0_20 : pj_row 0 20 = some (.invokespecial 9, 3, 1, 1, 0) := by decide +kernel
theorem e0_20 {L : pj_Loc} {st : List Value} {N S : Nat} {H : pj_Heap} {o : Option Value × pj_Mem} {M' : pj_Mem} {x0 : Nat} (h4 : pj_le4 st = true) (h1 : pj_Ends 1 (0, [some (.ref x0), none], [], (N, S, H)) (none, M')) (h2 : pj_Ends 0 (23, L, st, M') o) : pj_Ends 0 (20, L, .ref x0 :: st, (N, S, H)) o := ec_i1 q0_20 (Or.inl rfl) h4 rfl h1 h2
theorem q0_23 : pj_row 0 23 = some (.putfield 16, 3, 5, 1, 0) := by decide +kernel
theorem s0_23 {L : pj_Loc} {st : List Value} {N S : Nat} {H : pj_Heap} {o : Nat} {v : Value} : pj_step 0 (23, L, v :: .ref o :: st, (N, S, H)) = pj_set 26 L st (N, S, H) o (pj_fset (H o) 5 1 v) := st_putfield q0_23
theorem q0_26 : pj_row 0 26 = some (.aload_n 0, 1, 0, 0, 0) := by decide +kernel
theorem s0_26 {st : List Value} {M : pj_Mem} {l : pj_Loc} {x : Nat} : pj_step 0 (26, some (.ref x) :: l, st, M) = some (27, some (.ref x) :: l, .ref x :: st, M) := st_aload_n q0_26 rfl
theorem q0_27 : pj_row 0 27 = some (.new 19, 3, 3, 0, 0) := by decide +kernel
theorem s0_27 {L : pj_Loc} {st : List Value} {N S : Nat} {H : pj_Heap}  : pj_step 0 (27, L, st, (N, S, H)) = some (30, L, .ref N :: st, (N + 1, S + 14, pj_up H N (.inl (3, [.null, .null, .null, .null, .null, .null, .int 0, .int 0, .int 0, .int 0, .int 0, .int 0, .int 0, .int 0])))) := (st_new q0_27).trans rfl
theorem q0_30 : pj_row 0 30 = some (.dup, 1, 0, 0, 0) := by decide +kernel
theorem s0_30 {L : pj_Loc} {st : List Value} {M : pj_Mem} {x : Nat} : pj_step 0 (30, L, .ref x :: st, M) = some (31, L, .ref x :: .ref x :: st, M) := st_dup_ref q0_30
theorem s0_30i {L : pj_Loc} {st : List Value} {M : pj_Mem} {x : Int32} : pj_step 0 (30, L, .int x :: st, M) = some (31, L, .int x :: .int x :: st, M) := st_dup_int q0_30
theorem q0_31 : pj_row 0 31 = some (.invokespecial 21, 3, 3, 1, 1) := by decide +kernel
theorem e0_31 {L : pj_Loc} {st : List Value} {N S : Nat} {H : pj_Heap} {o : Option Value × pj_Mem} {M' : pj_Mem} {x0 : Nat} (h4 : pj_le4 st = true) (h1 : pj_Ends 3 (0, [some (.ref x0)], [], (N, S, H)) (none, M')) (h2 : pj_Ends 0 (34, L, st, M') o) : pj_Ends 0 (31, L, .ref x0 :: st, (N, S, H)) o := ec_i1 q0_31 (Or.inr rfl) h4 rfl h1 h2
theorem q0_34 : pj_row 0 34 = some (.putfield 22, 3, 5, 2, 0) := by decide +kernel
theorem s0_34 {L : pj_Loc} {st : List Value} {N S : Nat} {H : pj_Heap} {o : Nat} {v : Value} : pj_step 0 (34, L, v :: .ref o :: st, (N, S, H)) = pj_set 37 L st (N, S, H) o (pj_fset (H o) 5 2 v) := st_putfield q0_34
theorem q0_37 : pj_row 0 37 = some (.aload_n 0, 1, 0, 0, 0) := by decide +kernel
theorem s0_37 {st : List Value} {M : pj_Mem} {l : pj_Loc} {x : Nat} : pj_step 0 (37, some (.ref x) :: l, st, M) = some (38, some (.ref x) :: l, .ref x :: st, M) := st_aload_n q0_37 rfl
theorem q0_38 : pj_row 0 38 = some (.new 26, 3, 0, 0, 0) := by decide +kernel
theorem s0_38 {L : pj_Loc} {st : List Value} {N S : Nat} {H : pj_Heap}  : pj_step 0 (38, L, st, (N, S, H)) = some (41, L, .ref N :: st, (N + 1, S + 3, pj_up H N (.inl (0, [.null, .null, .int 0])))) := (st_new q0_38).trans rfl
theorem q0_41 : pj_row 0 41 = some (.dup, 1, 0, 0, 0) := by decide +kernel
theorem s0_41 {L : pj_Loc} {st : List Value} {M : pj_Mem} {x : Nat} : pj_step 0 (41, L, .ref x :: st, M) = some (42, L, .ref x :: .ref x :: st, M) := st_dup_ref q0_41
theorem s0_41i {L : pj_Loc} {st : List Value} {M : pj_Mem} {x : Int32} : pj_step 0 (41, L, .int x :: st, M) = some (42, L, .int x :: .int x :: st, M) := st_dup_int q0_41
theorem q0_42 : pj_row 0 42 = some (.invokespecial 28, 3, 4, 1, 1) := by decide +kernel
theorem e0_42 {L : pj_Loc} {st : List Value} {N S : Nat} {H : pj_Heap} {o : Option Value × pj_Mem} {M' : pj_Mem} {x0 : Nat} (h4 : pj_le4 st = true) (h1 : pj_Ends 4 (0, [some (.ref x0)], [], (N, S, H)) (none, M')) (h2 : pj_Ends 0 (45, L, st, M') o) : pj_Ends 0 (42, L, .ref x0 :: st, (N, S, H)) o := ec_i1 q0_42 (Or.inr rfl) h4 rfl h1 h2
theorem q0_45 : pj_row 0 45 = some (.putfield 29, 3, 5, 3, 0) := by decide +kernel
theorem s0_45 {L : pj_Loc} {st : List Value} {N S : Nat} {H : pj_Heap} {o : Nat} {v : Value} : pj_step 0 (45, L, v :: .ref o :: st, (N, S, H)) = pj_set 48 L st (N, S, H) o (pj_fset (H o) 5 3 v) := st_putfield q0_45
theorem q0_48 : pj_row 0 48 = some (.aload_n 0, 1, 0, 0, 0) := by decide +kernel
theorem s0_48 {st : List Value} {M : pj_Mem} {l : pj_Loc} {x : Nat} : pj_step 0 (48, some (.ref x) :: l, st, M) = some (49, some (.ref x) :: l, .ref x :: st, M) := st_aload_n q0_48 rfl
theorem q0_49 : pj_row 0 49 = some (.bipush 6, 2, 0, 0, 0) := by decide +kernel
theorem s0_49 {L : pj_Loc} {st : List Value} {M : pj_Mem}  : pj_step 0 (49, L, st, M) = some (51, L, .int 6 :: st, M) := st_bipush q0_49 (by decide +kernel)
theorem q0_51 : pj_row 0 51 = some (.invokestatic 33, 3, 6, 1, 0) := by decide +kernel
theorem e0_51 {L : pj_Loc} {st : List Value} {N S : Nat} {H : pj_Heap} {o : Option Value × pj_Mem} {M' : pj_Mem} {x0 : Int32} {r : Nat} (h4 : pj_le4 st = true) (h1 : pj_Ends 6 (0, [some (.int x0), none, none], [], (N, S, H)) (some (.ref r), M')) (h2 : pj_Ends 0 (54, L, .ref r :: st, M') o) : pj_Ends 0 (51, L, .int x0 :: st, (N, S, H)) o := ec_s1 q0_51 (Or.inl rfl) h4 rfl h1 h2
theorem q0_54 : pj_row 0 54 = some (.putfield 37, 3, 5, 4, 0) := by decide +kernel
theorem s0_54 {L : pj_Loc} {st : List Value} {N S : Nat} {H : pj_Heap} {o : Nat} {v : Value} : pj_step 0 (54, L, v :: .ref o :: st, (N, S, H)) = pj_set 57 L st (N, S, H) o (pj_fset (H o) 5 4 v) := st_putfield q0_54
theorem q0_57 : pj_row 0 57 = some (.aload_n 0, 1, 0, 0, 0) := by decide +kernel
theorem s0_57 {st : List Value} {M : pj_Mem} {l : pj_Loc} {x : Nat} : pj_step 0 (57, some (.ref x) :: l, st, M) = some (58, some (.ref x) :: l, .ref x :: st, M) := st_aload_n q0_57 rfl
theorem q0_58 : pj_row 0 58 = some (.iconst 2, 1, 0, 0, 0) := by decide +kernel
theorem s0_58 {L : pj_Loc} {st : List Value} {M : pj_Mem}  : pj_step 0 (58, L, st, M) = some (59, L, .int 2 :: st, M) := st_iconst q0_58 (by decide +kernel)
theorem q0_59 : pj_row 0 59 = some (.invokestatic 33, 3, 6, 1, 0) := by decide +kernel
theorem e0_59 {L : pj_Loc} {st : List Value} {N S : Nat} {H : pj_Heap} {o : Option Value × pj_Mem} {M' : pj_Mem} {x0 : Int32} {r : Nat} (h4 : pj_le4 st = true) (h1 : pj_Ends 6 (0, [some (.int x0), none, none], [], (N, S, H)) (some (.ref r), M')) (h2 : pj_Ends 0 (62, L, .ref r :: st, M') o) : pj_Ends 0 (59, L, .int x0 :: st, (N, S, H)) o := ec_s1 q0_59 (Or.inl rfl) h4 rfl h1 h2
theorem q0_62 : pj_row 0 62 = some (.putfield 41, 3, 5, 6, 0) := by decide +kernel
theorem s0_62 {L : pj_Loc} {st : List Value} {N S : Nat} {H : pj_Heap} {o : Nat} {v : Value} : pj_step 0 (62, L, v :: .ref o :: st, (N, S, H)) = pj_set 65 L st (N, S, H) o (pj_fset (H o) 5 6 v) := st_putfield q0_62
theorem q0_65 : pj_row 0 65 = some (.aload_n 0, 1, 0, 0, 0) := by decide +kernel
theorem s0_65 {st : List Value} {M : pj_Mem} {l : pj_Loc} {x : Nat} : pj_step 0 (65, some (.ref x) :: l, st, M) = some (66, some (.ref x) :: l, .ref x :: st, M) := st_aload_n q0_65 rfl
theorem q0_66 : pj_row 0 66 = some (.iconst 2, 1, 0, 0, 0) := by decide +kernel
theorem s0_66 {L : pj_Loc} {st : List Value} {M : pj_Mem}  : pj_step 0 (66, L, st, M) = some (67, L, .int 2 :: st, M) := st_iconst q0_66 (by decide +kernel)
theorem q0_67 : pj_row 0 67 = some (.newarray .boolean, 2, 2, 0, 0) := by decide +kernel
theorem s0_67 {L : pj_Loc} {st : List Value} {N S : Nat} {H : pj_Heap} {x : Int32} {n' : Nat} (hn : ¬ x < 0) (he : x.toNatClampNeg = n') (hb : n' ≤ 100000) : pj_step 0 (67, L, .int x :: st, (N, S, H)) = some (69, L, .ref N :: st, (N + 1, S + n', pj_up H N (.inr (2, n', .inl (fun _ => 0))))) := (st_newarray q0_67 hn he hb).trans rfl
theorem q0_69 : pj_row 0 69 = some (.putfield 44, 3, 5, 7, 0) := by decide +kernel
theorem s0_69 {L : pj_Loc} {st : List Value} {N S : Nat} {H : pj_Heap} {o : Nat} {v : Value} : pj_step 0 (69, L, v :: .ref o :: st, (N, S, H)) = pj_set 72 L st (N, S, H) o (pj_fset (H o) 5 7 v) := st_putfield q0_69
theorem q0_72 : pj_row 0 72 = some (.return_, 1, 0, 0, 0) := by decide +kernel
theorem t0_72 {L : pj_Loc} {M : pj_Mem} : pj_Ends 0 (72, L, [], M) (none, M) := pj_Ends.ret q0_72 (pj_rtn_v rt0)
theorem rt1 : pj_rt 1 = none := rfl
theorem q1_0 : pj_row 1 0 = some (.aload_n 0, 1, 0, 0, 0) := by decide +kernel
theorem s1_0 {st : List Value} {M : pj_Mem} {l : pj_Loc} {x : Nat} : pj_step 1 (0, some (.ref x) :: l, st, M) = some (1, some (.ref x) :: l, .ref x :: st, M) := st_aload_n q1_0 rfl
theorem q1_1 : pj_row 1 1 = some (.invokespecial 3, 3, 0, 1, 2) := by decide +kernel
theorem s1_1 {L : pj_Loc} {st : List Value} {M : pj_Mem} {o : Nat} : pj_step 1 (1, L, .ref o :: st, M) = pj_g4 st (some (4, L, st, M)) := st_obj q1_1
theorem q1_4 : pj_row 1 4 = some (.aload_n 0, 1, 0, 0, 0) := by decide +kernel
theorem s1_4 {st : List Value} {M : pj_Mem} {l : pj_Loc} {x : Nat} : pj_step 1 (4, some (.ref x) :: l, st, M) = some (5, some (.ref x) :: l, .ref x :: st, M) := st_aload_n q1_4 rfl
theorem q1_5 : pj_row 1 5 = some (.bipush 6, 2, 0, 0, 0) := by decide +kernel
theorem s1_5 {L : pj_Loc} {st : List Value} {M : pj_Mem}  : pj_step 1 (5, L, st, M) = some (7, L, .int 6 :: st, M) := st_bipush q1_5 (by decide +kernel)
theorem q1_7 : pj_row 1 7 = some (.newarray .int, 2, 0, 0, 0) := by decide +kernel
theorem s1_7 {L : pj_Loc} {st : List Value} {N S : Nat} {H : pj_Heap} {x : Int32} {n' : Nat} (hn : ¬ x < 0) (he : x.toNatClampNeg = n') (hb : n' ≤ 100000) : pj_step 1 (7, L, .int x :: st, (N, S, H)) = some (9, L, .ref N :: st, (N + 1, S + n', pj_up H N (.inr (0, n', .inl (fun _ => 0))))) := (st_newarray q1_7 hn he hb).trans rfl
theorem q1_9 : pj_row 1 9 = some (.putfield 9, 3, 4, 0, 0) := by decide +kernel
theorem s1_9 {L : pj_Loc} {st : List Value} {N S : Nat} {H : pj_Heap} {o : Nat} {v : Value} : pj_step 1 (9, L, v :: .ref o :: st, (N, S, H)) = pj_set 12 L st (N, S, H) o (pj_fset (H o) 4 0 v) := st_putfield q1_9
theorem q1_12 : pj_row 1 12 = some (.aload_n 0, 1, 0, 0, 0) := by decide +kernel
theorem s1_12 {st : List Value} {M : pj_Mem} {l : pj_Loc} {x : Nat} : pj_step 1 (12, some (.ref x) :: l, st, M) = some (13, some (.ref x) :: l, .ref x :: st, M) := st_aload_n q1_12 rfl
theorem q1_13 : pj_row 1 13 = some (.iconst 3, 1, 0, 0, 0) := by decide +kernel
theorem s1_13 {L : pj_Loc} {st : List Value} {M : pj_Mem}  : pj_step 1 (13, L, st, M) = some (14, L, .int 3 :: st, M) := st_iconst q1_13 (by decide +kernel)
theorem q1_14 : pj_row 1 14 = some (.newarray .int, 2, 0, 0, 0) := by decide +kernel
theorem s1_14 {L : pj_Loc} {st : List Value} {N S : Nat} {H : pj_Heap} {x : Int32} {n' : Nat} (hn : ¬ x < 0) (he : x.toNatClampNeg = n') (hb : n' ≤ 100000) : pj_step 1 (14, L, .int x :: st, (N, S, H)) = some (16, L, .ref N :: st, (N + 1, S + n', pj_up H N (.inr (0, n', .inl (fun _ => 0))))) := (st_newarray q1_14 hn he hb).trans rfl
theorem q1_16 : pj_row 1 16 = some (.putfield 15, 3, 4, 1, 0) := by decide +kernel
theorem s1_16 {L : pj_Loc} {st : List Value} {N S : Nat} {H : pj_Heap} {o : Nat} {v : Value} : pj_step 1 (16, L, v :: .ref o :: st, (N, S, H)) = pj_set 19 L st (N, S, H) o (pj_fset (H o) 4 1 v) := st_putfield q1_16
theorem q1_19 : pj_row 1 19 = some (.aload_n 0, 1, 0, 0, 0) := by decide +kernel
theorem s1_19 {st : List Value} {M : pj_Mem} {l : pj_Loc} {x : Nat} : pj_step 1 (19, some (.ref x) :: l, st, M) = some (20, some (.ref x) :: l, .ref x :: st, M) := st_aload_n q1_19 rfl
theorem q1_20 : pj_row 1 20 = some (.iconst 3, 1, 0, 0, 0) := by decide +kernel
theorem s1_20 {L : pj_Loc} {st : List Value} {M : pj_Mem}  : pj_step 1 (20, L, st, M) = some (21, L, .int 3 :: st, M) := st_iconst q1_20 (by decide +kernel)
theorem q1_21 : pj_row 1 21 = some (.newarray .int, 2, 0, 0, 0) := by decide +kernel
theorem s1_21 {L : pj_Loc} {st : List Value} {N S : Nat} {H : pj_Heap} {x : Int32} {n' : Nat} (hn : ¬ x < 0) (he : x.toNatClampNeg = n') (hb : n' ≤ 100000) : pj_step 1 (21, L, .int x :: st, (N, S, H)) = some (23, L, .ref N :: st, (N + 1, S + n', pj_up H N (.inr (0, n', .inl (fun _ => 0))))) := (st_newarray q1_21 hn he hb).trans rfl
theorem q1_23 : pj_row 1 23 = some (.putfield 18, 3, 4, 2, 0) := by decide +kernel
theorem s1_23 {L : pj_Loc} {st : List Value} {N S : Nat} {H : pj_Heap} {o : Nat} {v : Value} : pj_step 1 (23, L, v :: .ref o :: st, (N, S, H)) = pj_set 26 L st (N, S, H) o (pj_fset (H o) 4 2 v) := st_putfield q1_23
theorem q1_26 : pj_row 1 26 = some (.aload_n 0, 1, 0, 0, 0) := by decide +kernel
theorem s1_26 {st : List Value} {M : pj_Mem} {l : pj_Loc} {x : Nat} : pj_step 1 (26, some (.ref x) :: l, st, M) = some (27, some (.ref x) :: l, .ref x :: st, M) := st_aload_n q1_26 rfl
theorem q1_27 : pj_row 1 27 = some (.iconst 3, 1, 0, 0, 0) := by decide +kernel
theorem s1_27 {L : pj_Loc} {st : List Value} {M : pj_Mem}  : pj_step 1 (27, L, st, M) = some (28, L, .int 3 :: st, M) := st_iconst q1_27 (by decide +kernel)
theorem q1_28 : pj_row 1 28 = some (.newarray .int, 2, 0, 0, 0) := by decide +kernel
theorem s1_28 {L : pj_Loc} {st : List Value} {N S : Nat} {H : pj_Heap} {x : Int32} {n' : Nat} (hn : ¬ x < 0) (he : x.toNatClampNeg = n') (hb : n' ≤ 100000) : pj_step 1 (28, L, .int x :: st, (N, S, H)) = some (30, L, .ref N :: st, (N + 1, S + n', pj_up H N (.inr (0, n', .inl (fun _ => 0))))) := (st_newarray q1_28 hn he hb).trans rfl
theorem q1_30 : pj_row 1 30 = some (.putfield 21, 3, 4, 3, 0) := by decide +kernel
theorem s1_30 {L : pj_Loc} {st : List Value} {N S : Nat} {H : pj_Heap} {o : Nat} {v : Value} : pj_step 1 (30, L, v :: .ref o :: st, (N, S, H)) = pj_set 33 L st (N, S, H) o (pj_fset (H o) 4 3 v) := st_putfield q1_30
theorem q1_33 : pj_row 1 33 = some (.aload_n 0, 1, 0, 0, 0) := by decide +kernel
theorem s1_33 {st : List Value} {M : pj_Mem} {l : pj_Loc} {x : Nat} : pj_step 1 (33, some (.ref x) :: l, st, M) = some (34, some (.ref x) :: l, .ref x :: st, M) := st_aload_n q1_33 rfl
theorem q1_34 : pj_row 1 34 = some (.iconst 3, 1, 0, 0, 0) := by decide +kernel
theorem s1_34 {L : pj_Loc} {st : List Value} {M : pj_Mem}  : pj_step 1 (34, L, st, M) = some (35, L, .int 3 :: st, M) := st_iconst q1_34 (by decide +kernel)
theorem q1_35 : pj_row 1 35 = some (.newarray .int, 2, 0, 0, 0) := by decide +kernel
theorem s1_35 {L : pj_Loc} {st : List Value} {N S : Nat} {H : pj_Heap} {x : Int32} {n' : Nat} (hn : ¬ x < 0) (he : x.toNatClampNeg = n') (hb : n' ≤ 100000) : pj_step 1 (35, L, .int x :: st, (N, S, H)) = some (37, L, .ref N :: st, (N + 1, S + n', pj_up H N (.inr (0, n', .inl (fun _ => 0))))) := (st_newarray q1_35 hn he hb).trans rfl
theorem q1_37 : pj_row 1 37 = some (.putfield 24, 3, 4, 4, 0) := by decide +kernel
theorem s1_37 {L : pj_Loc} {st : List Value} {N S : Nat} {H : pj_Heap} {o : Nat} {v : Value} : pj_step 1 (37, L, v :: .ref o :: st, (N, S, H)) = pj_set 40 L st (N, S, H) o (pj_fset (H o) 4 4 v) := st_putfield q1_37
theorem q1_40 : pj_row 1 40 = some (.aload_n 0, 1, 0, 0, 0) := by decide +kernel
theorem s1_40 {st : List Value} {M : pj_Mem} {l : pj_Loc} {x : Nat} : pj_step 1 (40, some (.ref x) :: l, st, M) = some (41, some (.ref x) :: l, .ref x :: st, M) := st_aload_n q1_40 rfl
theorem q1_41 : pj_row 1 41 = some (.iconst 3, 1, 0, 0, 0) := by decide +kernel
theorem s1_41 {L : pj_Loc} {st : List Value} {M : pj_Mem}  : pj_step 1 (41, L, st, M) = some (42, L, .int 3 :: st, M) := st_iconst q1_41 (by decide +kernel)
theorem q1_42 : pj_row 1 42 = some (.newarray .int, 2, 0, 0, 0) := by decide +kernel
theorem s1_42 {L : pj_Loc} {st : List Value} {N S : Nat} {H : pj_Heap} {x : Int32} {n' : Nat} (hn : ¬ x < 0) (he : x.toNatClampNeg = n') (hb : n' ≤ 100000) : pj_step 1 (42, L, .int x :: st, (N, S, H)) = some (44, L, .ref N :: st, (N + 1, S + n', pj_up H N (.inr (0, n', .inl (fun _ => 0))))) := (st_newarray q1_42 hn he hb).trans rfl
theorem q1_44 : pj_row 1 44 = some (.putfield 27, 3, 4, 5, 0) := by decide +kernel
theorem s1_44 {L : pj_Loc} {st : List Value} {N S : Nat} {H : pj_Heap} {o : Nat} {v : Value} : pj_step 1 (44, L, v :: .ref o :: st, (N, S, H)) = pj_set 47 L st (N, S, H) o (pj_fset (H o) 4 5 v) := st_putfield q1_44
theorem q1_47 : pj_row 1 47 = some (.aload_n 0, 1, 0, 0, 0) := by decide +kernel
theorem s1_47 {st : List Value} {M : pj_Mem} {l : pj_Loc} {x : Nat} : pj_step 1 (47, some (.ref x) :: l, st, M) = some (48, some (.ref x) :: l, .ref x :: st, M) := st_aload_n q1_47 rfl
theorem q1_48 : pj_row 1 48 = some (.new 30, 3, 2, 0, 0) := by decide +kernel
theorem s1_48 {L : pj_Loc} {st : List Value} {N S : Nat} {H : pj_Heap}  : pj_step 1 (48, L, st, (N, S, H)) = some (51, L, .ref N :: st, (N + 1, S + 3, pj_up H N (.inl (2, [.null, .int 0, .int 0])))) := (st_new q1_48).trans rfl
theorem q1_51 : pj_row 1 51 = some (.dup, 1, 0, 0, 0) := by decide +kernel
theorem s1_51 {L : pj_Loc} {st : List Value} {M : pj_Mem} {x : Nat} : pj_step 1 (51, L, .ref x :: st, M) = some (52, L, .ref x :: .ref x :: st, M) := st_dup_ref q1_51
theorem s1_51i {L : pj_Loc} {st : List Value} {M : pj_Mem} {x : Int32} : pj_step 1 (51, L, .int x :: st, M) = some (52, L, .int x :: .int x :: st, M) := st_dup_int q1_51
theorem q1_52 : pj_row 1 52 = some (.invokespecial 32, 3, 2, 1, 1) := by decide +kernel
theorem e1_52 {L : pj_Loc} {st : List Value} {N S : Nat} {H : pj_Heap} {o : Option Value × pj_Mem} {M' : pj_Mem} {x0 : Nat} (h4 : pj_le4 st = true) (h1 : pj_Ends 2 (0, [some (.ref x0)], [], (N, S, H)) (none, M')) (h2 : pj_Ends 1 (55, L, st, M') o) : pj_Ends 1 (52, L, .ref x0 :: st, (N, S, H)) o := ec_i1 q1_52 (Or.inr rfl) h4 rfl h1 h2
theorem q1_55 : pj_row 1 55 = some (.putfield 33, 3, 4, 6, 0) := by decide +kernel
theorem s1_55 {L : pj_Loc} {st : List Value} {N S : Nat} {H : pj_Heap} {o : Nat} {v : Value} : pj_step 1 (55, L, v :: .ref o :: st, (N, S, H)) = pj_set 58 L st (N, S, H) o (pj_fset (H o) 4 6 v) := st_putfield q1_55
theorem q1_58 : pj_row 1 58 = some (.aload_n 0, 1, 0, 0, 0) := by decide +kernel
theorem s1_58 {st : List Value} {M : pj_Mem} {l : pj_Loc} {x : Nat} : pj_step 1 (58, some (.ref x) :: l, st, M) = some (59, some (.ref x) :: l, .ref x :: st, M) := st_aload_n q1_58 rfl
theorem q1_59 : pj_row 1 59 = some (.bipush 7, 2, 0, 0, 0) := by decide +kernel
theorem s1_59 {L : pj_Loc} {st : List Value} {M : pj_Mem}  : pj_step 1 (59, L, st, M) = some (61, L, .int 7 :: st, M) := st_bipush q1_59 (by decide +kernel)
theorem q1_61 : pj_row 1 61 = some (.putfield 37, 3, 4, 7, 0) := by decide +kernel
theorem s1_61 {L : pj_Loc} {st : List Value} {N S : Nat} {H : pj_Heap} {o : Nat} {v : Value} : pj_step 1 (61, L, v :: .ref o :: st, (N, S, H)) = pj_set 64 L st (N, S, H) o (pj_fset (H o) 4 7 v) := st_putfield q1_61
theorem q1_64 : pj_row 1 64 = some (.iconst 0, 1, 0, 0, 0) := by decide +kernel
theorem s1_64 {L : pj_Loc} {st : List Value} {M : pj_Mem}  : pj_step 1 (64, L, st, M) = some (65, L, .int 0 :: st, M) := st_iconst q1_64 (by decide +kernel)
theorem q1_65 : pj_row 1 65 = some (.istore_n 1, 1, 0, 0, 0) := by decide +kernel
theorem s1_65 {st : List Value} {M : pj_Mem} {l : pj_Loc} {a0 a1 : Option Value} {x : Int32} (h : pj_long a0 = false) : pj_step 1 (65, a0 :: a1 :: l, .int x :: st, M) = some (66, a0 :: some (.int x) :: l, st, M) := st_istore_n q1_65 (pj_st_1 h)
theorem q1_66 : pj_row 1 66 = some (.iload_n 1, 1, 0, 0, 0) := by decide +kernel
theorem s1_66 {st : List Value} {M : pj_Mem} {l : pj_Loc} {a0 : Option Value} {x : Int32} : pj_step 1 (66, a0 :: some (.int x) :: l, st, M) = some (67, a0 :: some (.int x) :: l, .int x :: st, M) := st_iload_n q1_66 rfl
theorem q1_67 : pj_row 1 67 = some (.bipush 6, 2, 0, 0, 0) := by decide +kernel
theorem s1_67 {L : pj_Loc} {st : List Value} {M : pj_Mem}  : pj_step 1 (67, L, st, M) = some (69, L, .int 6 :: st, M) := st_bipush q1_67 (by decide +kernel)
theorem q1_69 : pj_row 1 69 = some (.if_icmp .ge 20, 3, 89, 0, 0) := by decide +kernel
theorem s1_69 {L : pj_Loc} {st : List Value} {M : pj_Mem} {x y : Int32} : pj_step 1 (69, L, .int y :: .int x :: st, M) = some (if y ≤ x then 89 else 72, L, st, M) := st_icmp_ge q1_69
theorem q1_72 : pj_row 1 72 = some (.aload_n 0, 1, 0, 0, 0) := by decide +kernel
theorem s1_72 {st : List Value} {M : pj_Mem} {l : pj_Loc} {x : Nat} : pj_step 1 (72, some (.ref x) :: l, st, M) = some (73, some (.ref x) :: l, .ref x :: st, M) := st_aload_n q1_72 rfl
theorem q1_73 : pj_row 1 73 = some (.getfield 9, 3, 4, 0, 0) := by decide +kernel
theorem s1_73 {L : pj_Loc} {st : List Value} {N S : Nat} {H : pj_Heap} {o : Nat} : pj_step 1 (73, L, .ref o :: st, (N, S, H)) = pj_pv 76 L st (N, S, H) (pj_fld (H o) 4 0) := st_getfield q1_73
theorem q1_76 : pj_row 1 76 = some (.iload_n 1, 1, 0, 0, 0) := by decide +kernel
theorem s1_76 {st : List Value} {M : pj_Mem} {l : pj_Loc} {a0 : Option Value} {x : Int32} : pj_step 1 (76, a0 :: some (.int x) :: l, st, M) = some (77, a0 :: some (.int x) :: l, .int x :: st, M) := st_iload_n q1_76 rfl
theorem q1_77 : pj_row 1 77 = some (.getstatic 41, 3, 1, 0, 1) := by decide +kernel
theorem s1_77 {L : pj_Loc} {st : List Value} {M : pj_Mem}  : pj_step 1 (77, L, st, M) = some (80, L, .ref 1 :: st, M) := st_getstatic q1_77
theorem q1_80 : pj_row 1 80 = some (.iload_n 1, 1, 0, 0, 0) := by decide +kernel
theorem s1_80 {st : List Value} {M : pj_Mem} {l : pj_Loc} {a0 : Option Value} {x : Int32} : pj_step 1 (80, a0 :: some (.int x) :: l, st, M) = some (81, a0 :: some (.int x) :: l, .int x :: st, M) := st_iload_n q1_80 rfl
theorem q1_81 : pj_row 1 81 = some (.iaload, 1, 0, 0, 0) := by decide +kernel
theorem s1_81 {L : pj_Loc} {st : List Value} {N S : Nat} {H : pj_Heap} {o : Nat} {i : Int32} : pj_step 1 (81, L, .int i :: .ref o :: st, (N, S, H)) = pj_pi 82 L st (N, S, H) (pj_arl (H o) 0 i) := st_iaload q1_81
theorem q1_82 : pj_row 1 82 = some (.iastore, 1, 0, 0, 0) := by decide +kernel
theorem s1_82 {L : pj_Loc} {st : List Value} {N S : Nat} {H : pj_Heap} {o : Nat} {i x : Int32} : pj_step 1 (82, L, .int x :: .int i :: .ref o :: st, (N, S, H)) = pj_set 83 L st (N, S, H) o (pj_ars (H o) 0 i x) := st_iastore q1_82
theorem q1_83 : pj_row 1 83 = some (.iinc 1 1, 3, 0, 0, 0) := by decide +kernel
theorem s1_83 {st : List Value} {M : pj_Mem} {l : pj_Loc} {a0 : Option Value} {x : Int32} (h : pj_long a0 = false) : pj_step 1 (83, a0 :: some (.int x) :: l, st, M) = some (86, a0 :: some (.int (x + 1)) :: l, st, M) := st_iinc q1_83 rfl (congrArg (fun y => x + y) (show Int32.ofInt 1 = 1 by decide +kernel)) (pj_st_1 h)
theorem q1_86 : pj_row 1 86 = some (.goto (-20), 3, 66, 0, 0) := by decide +kernel
theorem s1_86 {L : pj_Loc} {st : List Value} {M : pj_Mem}  : pj_step 1 (86, L, st, M) = some (66, L, st, M) := st_goto q1_86
theorem q1_89 : pj_row 1 89 = some (.iconst 0, 1, 0, 0, 0) := by decide +kernel
theorem s1_89 {L : pj_Loc} {st : List Value} {M : pj_Mem}  : pj_step 1 (89, L, st, M) = some (90, L, .int 0 :: st, M) := st_iconst q1_89 (by decide +kernel)
theorem q1_90 : pj_row 1 90 = some (.istore_n 1, 1, 0, 0, 0) := by decide +kernel
theorem s1_90 {st : List Value} {M : pj_Mem} {l : pj_Loc} {a0 a1 : Option Value} {x : Int32} (h : pj_long a0 = false) : pj_step 1 (90, a0 :: a1 :: l, .int x :: st, M) = some (91, a0 :: some (.int x) :: l, st, M) := st_istore_n q1_90 (pj_st_1 h)
theorem q1_91 : pj_row 1 91 = some (.iload_n 1, 1, 0, 0, 0) := by decide +kernel
theorem s1_91 {st : List Value} {M : pj_Mem} {l : pj_Loc} {a0 : Option Value} {x : Int32} : pj_step 1 (91, a0 :: some (.int x) :: l, st, M) = some (92, a0 :: some (.int x) :: l, .int x :: st, M) := st_iload_n q1_91 rfl
theorem q1_92 : pj_row 1 92 = some (.iconst 3, 1, 0, 0, 0) := by decide +kernel
theorem s1_92 {L : pj_Loc} {st : List Value} {M : pj_Mem}  : pj_step 1 (92, L, st, M) = some (93, L, .int 3 :: st, M) := st_iconst q1_92 (by decide +kernel)
theorem q1_93 : pj_row 1 93 = some (.if_icmp .ge 17, 3, 110, 0, 0) := by decide +kernel
theorem s1_93 {L : pj_Loc} {st : List Value} {M : pj_Mem} {x y : Int32} : pj_step 1 (93, L, .int y :: .int x :: st, M) = some (if y ≤ x then 110 else 96, L, st, M) := st_icmp_ge q1_93
theorem q1_96 : pj_row 1 96 = some (.aload_n 0, 1, 0, 0, 0) := by decide +kernel
theorem s1_96 {st : List Value} {M : pj_Mem} {l : pj_Loc} {x : Nat} : pj_step 1 (96, some (.ref x) :: l, st, M) = some (97, some (.ref x) :: l, .ref x :: st, M) := st_aload_n q1_96 rfl
theorem q1_97 : pj_row 1 97 = some (.getfield 27, 3, 4, 5, 0) := by decide +kernel
theorem s1_97 {L : pj_Loc} {st : List Value} {N S : Nat} {H : pj_Heap} {o : Nat} : pj_step 1 (97, L, .ref o :: st, (N, S, H)) = pj_pv 100 L st (N, S, H) (pj_fld (H o) 4 5) := st_getfield q1_97
theorem q1_100 : pj_row 1 100 = some (.iload_n 1, 1, 0, 0, 0) := by decide +kernel
theorem s1_100 {st : List Value} {M : pj_Mem} {l : pj_Loc} {a0 : Option Value} {x : Int32} : pj_step 1 (100, a0 :: some (.int x) :: l, st, M) = some (101, a0 :: some (.int x) :: l, .int x :: st, M) := st_iload_n q1_100 rfl
theorem q1_101 : pj_row 1 101 = some (.bipush (-6), 2, 0, 0, 0) := by decide +kernel
theorem s1_101 {L : pj_Loc} {st : List Value} {M : pj_Mem}  : pj_step 1 (101, L, st, M) = some (103, L, .int (-6) :: st, M) := st_bipush q1_101 (by decide +kernel)
theorem q1_103 : pj_row 1 103 = some (.iastore, 1, 0, 0, 0) := by decide +kernel
theorem s1_103 {L : pj_Loc} {st : List Value} {N S : Nat} {H : pj_Heap} {o : Nat} {i x : Int32} : pj_step 1 (103, L, .int x :: .int i :: .ref o :: st, (N, S, H)) = pj_set 104 L st (N, S, H) o (pj_ars (H o) 0 i x) := st_iastore q1_103
theorem q1_104 : pj_row 1 104 = some (.iinc 1 1, 3, 0, 0, 0) := by decide +kernel
theorem s1_104 {st : List Value} {M : pj_Mem} {l : pj_Loc} {a0 : Option Value} {x : Int32} (h : pj_long a0 = false) : pj_step 1 (104, a0 :: some (.int x) :: l, st, M) = some (107, a0 :: some (.int (x + 1)) :: l, st, M) := st_iinc q1_104 rfl (congrArg (fun y => x + y) (show Int32.ofInt 1 = 1 by decide +kernel)) (pj_st_1 h)
theorem q1_107 : pj_row 1 107 = some (.goto (-16), 3, 91, 0, 0) := by decide +kernel
theorem s1_107 {L : pj_Loc} {st : List Value} {M : pj_Mem}  : pj_step 1 (107, L, st, M) = some (91, L, st, M) := st_goto q1_107
theorem q1_110 : pj_row 1 110 = some (.return_, 1, 0, 0, 0) := by decide +kernel
theorem t1_110 {L : pj_Loc} {M : pj_Mem} : pj_Ends 1 (110, L, [], M) (none, M) := pj_Ends.ret q1_110 (pj_rtn_v rt1)
theorem rt2 : pj_rt 2 = none := rfl
theorem q2_0 : pj_row 2 0 = some (.aload_n 0, 1, 0, 0, 0) := by decide +kernel
theorem s2_0 {st : List Value} {M : pj_Mem} {l : pj_Loc} {x : Nat} : pj_step 2 (0, some (.ref x) :: l, st, M) = some (1, some (.ref x) :: l, .ref x :: st, M) := st_aload_n q2_0 rfl
theorem q2_1 : pj_row 2 1 = some (.invokespecial 3, 3, 0, 1, 2) := by decide +kernel
theorem s2_1 {L : pj_Loc} {st : List Value} {M : pj_Mem} {o : Nat} : pj_step 2 (1, L, .ref o :: st, M) = pj_g4 st (some (4, L, st, M)) := st_obj q2_1
theorem q2_4 : pj_row 2 4 = some (.aload_n 0, 1, 0, 0, 0) := by decide +kernel
theorem s2_4 {st : List Value} {M : pj_Mem} {l : pj_Loc} {x : Nat} : pj_step 2 (4, some (.ref x) :: l, st, M) = some (5, some (.ref x) :: l, .ref x :: st, M) := st_aload_n q2_4 rfl
theorem q2_5 : pj_row 2 5 = some (.bipush 120, 2, 0, 0, 0) := by decide +kernel
theorem s2_5 {L : pj_Loc} {st : List Value} {M : pj_Mem}  : pj_step 2 (5, L, st, M) = some (7, L, .int 120 :: st, M) := st_bipush q2_5 (by decide +kernel)
theorem q2_7 : pj_row 2 7 = some (.newarray .int, 2, 0, 0, 0) := by decide +kernel
theorem s2_7 {L : pj_Loc} {st : List Value} {N S : Nat} {H : pj_Heap} {x : Int32} {n' : Nat} (hn : ¬ x < 0) (he : x.toNatClampNeg = n') (hb : n' ≤ 100000) : pj_step 2 (7, L, .int x :: st, (N, S, H)) = some (9, L, .ref N :: st, (N + 1, S + n', pj_up H N (.inr (0, n', .inl (fun _ => 0))))) := (st_newarray q2_7 hn he hb).trans rfl
theorem q2_9 : pj_row 2 9 = some (.putfield 9, 3, 2, 0, 0) := by decide +kernel
theorem s2_9 {L : pj_Loc} {st : List Value} {N S : Nat} {H : pj_Heap} {o : Nat} {v : Value} : pj_step 2 (9, L, v :: .ref o :: st, (N, S, H)) = pj_set 12 L st (N, S, H) o (pj_fset (H o) 2 0 v) := st_putfield q2_9
theorem q2_12 : pj_row 2 12 = some (.aload_n 0, 1, 0, 0, 0) := by decide +kernel
theorem s2_12 {st : List Value} {M : pj_Mem} {l : pj_Loc} {x : Nat} : pj_step 2 (12, some (.ref x) :: l, st, M) = some (13, some (.ref x) :: l, .ref x :: st, M) := st_aload_n q2_12 rfl
theorem q2_13 : pj_row 2 13 = some (.bipush (-6), 2, 0, 0, 0) := by decide +kernel
theorem s2_13 {L : pj_Loc} {st : List Value} {M : pj_Mem}  : pj_step 2 (13, L, st, M) = some (15, L, .int (-6) :: st, M) := st_bipush q2_13 (by decide +kernel)
theorem q2_15 : pj_row 2 15 = some (.putfield 15, 3, 2, 2, 0) := by decide +kernel
theorem s2_15 {L : pj_Loc} {st : List Value} {N S : Nat} {H : pj_Heap} {o : Nat} {v : Value} : pj_step 2 (15, L, v :: .ref o :: st, (N, S, H)) = pj_set 18 L st (N, S, H) o (pj_fset (H o) 2 2 v) := st_putfield q2_15
theorem q2_18 : pj_row 2 18 = some (.return_, 1, 0, 0, 0) := by decide +kernel
theorem t2_18 {L : pj_Loc} {M : pj_Mem} : pj_Ends 2 (18, L, [], M) (none, M) := pj_Ends.ret q2_18 (pj_rtn_v rt2)
theorem rt3 : pj_rt 3 = none := rfl
theorem q3_0 : pj_row 3 0 = some (.aload_n 0, 1, 0, 0, 0) := by decide +kernel
theorem s3_0 {st : List Value} {M : pj_Mem} {l : pj_Loc} {x : Nat} : pj_step 3 (0, some (.ref x) :: l, st, M) = some (1, some (.ref x) :: l, .ref x :: st, M) := st_aload_n q3_0 rfl
theorem q3_1 : pj_row 3 1 = some (.invokespecial 3, 3, 0, 1, 2) := by decide +kernel
theorem s3_1 {L : pj_Loc} {st : List Value} {M : pj_Mem} {o : Nat} : pj_step 3 (1, L, .ref o :: st, M) = pj_g4 st (some (4, L, st, M)) := st_obj q3_1
theorem q3_4 : pj_row 3 4 = some (.aload_n 0, 1, 0, 0, 0) := by decide +kernel
theorem s3_4 {st : List Value} {M : pj_Mem} {l : pj_Loc} {x : Nat} : pj_step 3 (4, some (.ref x) :: l, st, M) = some (5, some (.ref x) :: l, .ref x :: st, M) := st_aload_n q3_4 rfl
theorem q3_5 : pj_row 3 5 = some (.iconst 3, 1, 0, 0, 0) := by decide +kernel
theorem s3_5 {L : pj_Loc} {st : List Value} {M : pj_Mem}  : pj_step 3 (5, L, st, M) = some (6, L, .int 3 :: st, M) := st_iconst q3_5 (by decide +kernel)
theorem q3_6 : pj_row 3 6 = some (.newarray .int, 2, 0, 0, 0) := by decide +kernel
theorem s3_6 {L : pj_Loc} {st : List Value} {N S : Nat} {H : pj_Heap} {x : Int32} {n' : Nat} (hn : ¬ x < 0) (he : x.toNatClampNeg = n') (hb : n' ≤ 100000) : pj_step 3 (6, L, .int x :: st, (N, S, H)) = some (8, L, .ref N :: st, (N + 1, S + n', pj_up H N (.inr (0, n', .inl (fun _ => 0))))) := (st_newarray q3_6 hn he hb).trans rfl
theorem q3_8 : pj_row 3 8 = some (.putfield 9, 3, 3, 0, 0) := by decide +kernel
theorem s3_8 {L : pj_Loc} {st : List Value} {N S : Nat} {H : pj_Heap} {o : Nat} {v : Value} : pj_step 3 (8, L, v :: .ref o :: st, (N, S, H)) = pj_set 11 L st (N, S, H) o (pj_fset (H o) 3 0 v) := st_putfield q3_8
theorem q3_11 : pj_row 3 11 = some (.aload_n 0, 1, 0, 0, 0) := by decide +kernel
theorem s3_11 {st : List Value} {M : pj_Mem} {l : pj_Loc} {x : Nat} : pj_step 3 (11, some (.ref x) :: l, st, M) = some (12, some (.ref x) :: l, .ref x :: st, M) := st_aload_n q3_11 rfl
theorem q3_12 : pj_row 3 12 = some (.iconst 3, 1, 0, 0, 0) := by decide +kernel
theorem s3_12 {L : pj_Loc} {st : List Value} {M : pj_Mem}  : pj_step 3 (12, L, st, M) = some (13, L, .int 3 :: st, M) := st_iconst q3_12 (by decide +kernel)
theorem q3_13 : pj_row 3 13 = some (.newarray .int, 2, 0, 0, 0) := by decide +kernel
theorem s3_13 {L : pj_Loc} {st : List Value} {N S : Nat} {H : pj_Heap} {x : Int32} {n' : Nat} (hn : ¬ x < 0) (he : x.toNatClampNeg = n') (hb : n' ≤ 100000) : pj_step 3 (13, L, .int x :: st, (N, S, H)) = some (15, L, .ref N :: st, (N + 1, S + n', pj_up H N (.inr (0, n', .inl (fun _ => 0))))) := (st_newarray q3_13 hn he hb).trans rfl
theorem q3_15 : pj_row 3 15 = some (.putfield 15, 3, 3, 1, 0) := by decide +kernel
theorem s3_15 {L : pj_Loc} {st : List Value} {N S : Nat} {H : pj_Heap} {o : Nat} {v : Value} : pj_step 3 (15, L, v :: .ref o :: st, (N, S, H)) = pj_set 18 L st (N, S, H) o (pj_fset (H o) 3 1 v) := st_putfield q3_15
theorem q3_18 : pj_row 3 18 = some (.aload_n 0, 1, 0, 0, 0) := by decide +kernel
theorem s3_18 {st : List Value} {M : pj_Mem} {l : pj_Loc} {x : Nat} : pj_step 3 (18, some (.ref x) :: l, st, M) = some (19, some (.ref x) :: l, .ref x :: st, M) := st_aload_n q3_18 rfl
theorem q3_19 : pj_row 3 19 = some (.iconst 3, 1, 0, 0, 0) := by decide +kernel
theorem s3_19 {L : pj_Loc} {st : List Value} {M : pj_Mem}  : pj_step 3 (19, L, st, M) = some (20, L, .int 3 :: st, M) := st_iconst q3_19 (by decide +kernel)
theorem q3_20 : pj_row 3 20 = some (.newarray .int, 2, 0, 0, 0) := by decide +kernel
theorem s3_20 {L : pj_Loc} {st : List Value} {N S : Nat} {H : pj_Heap} {x : Int32} {n' : Nat} (hn : ¬ x < 0) (he : x.toNatClampNeg = n') (hb : n' ≤ 100000) : pj_step 3 (20, L, .int x :: st, (N, S, H)) = some (22, L, .ref N :: st, (N + 1, S + n', pj_up H N (.inr (0, n', .inl (fun _ => 0))))) := (st_newarray q3_20 hn he hb).trans rfl
theorem q3_22 : pj_row 3 22 = some (.putfield 18, 3, 3, 2, 0) := by decide +kernel
theorem s3_22 {L : pj_Loc} {st : List Value} {N S : Nat} {H : pj_Heap} {o : Nat} {v : Value} : pj_step 3 (22, L, v :: .ref o :: st, (N, S, H)) = pj_set 25 L st (N, S, H) o (pj_fset (H o) 3 2 v) := st_putfield q3_22
theorem q3_25 : pj_row 3 25 = some (.aload_n 0, 1, 0, 0, 0) := by decide +kernel
theorem s3_25 {st : List Value} {M : pj_Mem} {l : pj_Loc} {x : Nat} : pj_step 3 (25, some (.ref x) :: l, st, M) = some (26, some (.ref x) :: l, .ref x :: st, M) := st_aload_n q3_25 rfl
theorem q3_26 : pj_row 3 26 = some (.iconst 3, 1, 0, 0, 0) := by decide +kernel
theorem s3_26 {L : pj_Loc} {st : List Value} {M : pj_Mem}  : pj_step 3 (26, L, st, M) = some (27, L, .int 3 :: st, M) := st_iconst q3_26 (by decide +kernel)
theorem q3_27 : pj_row 3 27 = some (.newarray .int, 2, 0, 0, 0) := by decide +kernel
theorem s3_27 {L : pj_Loc} {st : List Value} {N S : Nat} {H : pj_Heap} {x : Int32} {n' : Nat} (hn : ¬ x < 0) (he : x.toNatClampNeg = n') (hb : n' ≤ 100000) : pj_step 3 (27, L, .int x :: st, (N, S, H)) = some (29, L, .ref N :: st, (N + 1, S + n', pj_up H N (.inr (0, n', .inl (fun _ => 0))))) := (st_newarray q3_27 hn he hb).trans rfl
theorem q3_29 : pj_row 3 29 = some (.putfield 21, 3, 3, 3, 0) := by decide +kernel
theorem s3_29 {L : pj_Loc} {st : List Value} {N S : Nat} {H : pj_Heap} {o : Nat} {v : Value} : pj_step 3 (29, L, v :: .ref o :: st, (N, S, H)) = pj_set 32 L st (N, S, H) o (pj_fset (H o) 3 3 v) := st_putfield q3_29
theorem q3_32 : pj_row 3 32 = some (.aload_n 0, 1, 0, 0, 0) := by decide +kernel
theorem s3_32 {st : List Value} {M : pj_Mem} {l : pj_Loc} {x : Nat} : pj_step 3 (32, some (.ref x) :: l, st, M) = some (33, some (.ref x) :: l, .ref x :: st, M) := st_aload_n q3_32 rfl
theorem q3_33 : pj_row 3 33 = some (.iconst 3, 1, 0, 0, 0) := by decide +kernel
theorem s3_33 {L : pj_Loc} {st : List Value} {M : pj_Mem}  : pj_step 3 (33, L, st, M) = some (34, L, .int 3 :: st, M) := st_iconst q3_33 (by decide +kernel)
theorem q3_34 : pj_row 3 34 = some (.newarray .int, 2, 0, 0, 0) := by decide +kernel
theorem s3_34 {L : pj_Loc} {st : List Value} {N S : Nat} {H : pj_Heap} {x : Int32} {n' : Nat} (hn : ¬ x < 0) (he : x.toNatClampNeg = n') (hb : n' ≤ 100000) : pj_step 3 (34, L, .int x :: st, (N, S, H)) = some (36, L, .ref N :: st, (N + 1, S + n', pj_up H N (.inr (0, n', .inl (fun _ => 0))))) := (st_newarray q3_34 hn he hb).trans rfl
theorem q3_36 : pj_row 3 36 = some (.putfield 24, 3, 3, 4, 0) := by decide +kernel
theorem s3_36 {L : pj_Loc} {st : List Value} {N S : Nat} {H : pj_Heap} {o : Nat} {v : Value} : pj_step 3 (36, L, v :: .ref o :: st, (N, S, H)) = pj_set 39 L st (N, S, H) o (pj_fset (H o) 3 4 v) := st_putfield q3_36
theorem q3_39 : pj_row 3 39 = some (.aload_n 0, 1, 0, 0, 0) := by decide +kernel
theorem s3_39 {st : List Value} {M : pj_Mem} {l : pj_Loc} {x : Nat} : pj_step 3 (39, some (.ref x) :: l, st, M) = some (40, some (.ref x) :: l, .ref x :: st, M) := st_aload_n q3_39 rfl
theorem q3_40 : pj_row 3 40 = some (.iconst 3, 1, 0, 0, 0) := by decide +kernel
theorem s3_40 {L : pj_Loc} {st : List Value} {M : pj_Mem}  : pj_step 3 (40, L, st, M) = some (41, L, .int 3 :: st, M) := st_iconst q3_40 (by decide +kernel)
theorem q3_41 : pj_row 3 41 = some (.newarray .int, 2, 0, 0, 0) := by decide +kernel
theorem s3_41 {L : pj_Loc} {st : List Value} {N S : Nat} {H : pj_Heap} {x : Int32} {n' : Nat} (hn : ¬ x < 0) (he : x.toNatClampNeg = n') (hb : n' ≤ 100000) : pj_step 3 (41, L, .int x :: st, (N, S, H)) = some (43, L, .ref N :: st, (N + 1, S + n', pj_up H N (.inr (0, n', .inl (fun _ => 0))))) := (st_newarray q3_41 hn he hb).trans rfl
theorem q3_43 : pj_row 3 43 = some (.putfield 27, 3, 3, 5, 0) := by decide +kernel
theorem s3_43 {L : pj_Loc} {st : List Value} {N S : Nat} {H : pj_Heap} {o : Nat} {v : Value} : pj_step 3 (43, L, v :: .ref o :: st, (N, S, H)) = pj_set 46 L st (N, S, H) o (pj_fset (H o) 3 5 v) := st_putfield q3_43
theorem q3_46 : pj_row 3 46 = some (.return_, 1, 0, 0, 0) := by decide +kernel
theorem t3_46 {L : pj_Loc} {M : pj_Mem} : pj_Ends 3 (46, L, [], M) (none, M) := pj_Ends.ret q3_46 (pj_rtn_v rt3)
theorem rt4 : pj_rt 4 = none := rfl
theorem q4_0 : pj_row 4 0 = some (.aload_n 0, 1, 0, 0, 0) := by decide +kernel
theorem s4_0 {st : List Value} {M : pj_Mem} {l : pj_Loc} {x : Nat} : pj_step 4 (0, some (.ref x) :: l, st, M) = some (1, some (.ref x) :: l, .ref x :: st, M) := st_aload_n q4_0 rfl
theorem q4_1 : pj_row 4 1 = some (.invokespecial 3, 3, 0, 1, 2) := by decide +kernel
theorem s4_1 {L : pj_Loc} {st : List Value} {M : pj_Mem} {o : Nat} : pj_step 4 (1, L, .ref o :: st, M) = pj_g4 st (some (4, L, st, M)) := st_obj q4_1
theorem q4_4 : pj_row 4 4 = some (.aload_n 0, 1, 0, 0, 0) := by decide +kernel
theorem s4_4 {st : List Value} {M : pj_Mem} {l : pj_Loc} {x : Nat} : pj_step 4 (4, some (.ref x) :: l, st, M) = some (5, some (.ref x) :: l, .ref x :: st, M) := st_aload_n q4_4 rfl
theorem q4_5 : pj_row 4 5 = some (.bipush 80, 2, 0, 0, 0) := by decide +kernel
theorem s4_5 {L : pj_Loc} {st : List Value} {M : pj_Mem}  : pj_step 4 (5, L, st, M) = some (7, L, .int 80 :: st, M) := st_bipush q4_5 (by decide +kernel)
theorem q4_7 : pj_row 4 7 = some (.newarray .char, 2, 1, 0, 0) := by decide +kernel
theorem s4_7 {L : pj_Loc} {st : List Value} {N S : Nat} {H : pj_Heap} {x : Int32} {n' : Nat} (hn : ¬ x < 0) (he : x.toNatClampNeg = n') (hb : n' ≤ 100000) : pj_step 4 (7, L, .int x :: st, (N, S, H)) = some (9, L, .ref N :: st, (N + 1, S + n', pj_up H N (.inr (1, n', .inl (fun _ => 0))))) := (st_newarray q4_7 hn he hb).trans rfl
theorem q4_9 : pj_row 4 9 = some (.putfield 9, 3, 0, 0, 0) := by decide +kernel
theorem s4_9 {L : pj_Loc} {st : List Value} {N S : Nat} {H : pj_Heap} {o : Nat} {v : Value} : pj_step 4 (9, L, v :: .ref o :: st, (N, S, H)) = pj_set 12 L st (N, S, H) o (pj_fset (H o) 0 0 v) := st_putfield q4_9
theorem q4_12 : pj_row 4 12 = some (.aload_n 0, 1, 0, 0, 0) := by decide +kernel
theorem s4_12 {st : List Value} {M : pj_Mem} {l : pj_Loc} {x : Nat} : pj_step 4 (12, some (.ref x) :: l, st, M) = some (13, some (.ref x) :: l, .ref x :: st, M) := st_aload_n q4_12 rfl
theorem q4_13 : pj_row 4 13 = some (.new 15, 3, 1, 0, 0) := by decide +kernel
theorem s4_13 {L : pj_Loc} {st : List Value} {N S : Nat} {H : pj_Heap}  : pj_step 4 (13, L, st, (N, S, H)) = some (16, L, .ref N :: st, (N + 1, S + 6, pj_up H N (.inl (1, [.null, .int 0, .int 0, .int 0, .int 0, .int 0])))) := (st_new q4_13).trans rfl
theorem q4_16 : pj_row 4 16 = some (.dup, 1, 0, 0, 0) := by decide +kernel
theorem s4_16 {L : pj_Loc} {st : List Value} {M : pj_Mem} {x : Nat} : pj_step 4 (16, L, .ref x :: st, M) = some (17, L, .ref x :: .ref x :: st, M) := st_dup_ref q4_16
theorem s4_16i {L : pj_Loc} {st : List Value} {M : pj_Mem} {x : Int32} : pj_step 4 (16, L, .int x :: st, M) = some (17, L, .int x :: .int x :: st, M) := st_dup_int q4_16
theorem q4_17 : pj_row 4 17 = some (.invokespecial 17, 3, 5, 1, 1) := by decide +kernel
theorem e4_17 {L : pj_Loc} {st : List Value} {N S : Nat} {H : pj_Heap} {o : Option Value × pj_Mem} {M' : pj_Mem} {x0 : Nat} (h4 : pj_le4 st = true) (h1 : pj_Ends 5 (0, [some (.ref x0)], [], (N, S, H)) (none, M')) (h2 : pj_Ends 4 (20, L, st, M') o) : pj_Ends 4 (17, L, .ref x0 :: st, (N, S, H)) o := ec_i1 q4_17 (Or.inr rfl) h4 rfl h1 h2
theorem q4_20 : pj_row 4 20 = some (.putfield 18, 3, 0, 1, 0) := by decide +kernel
theorem s4_20 {L : pj_Loc} {st : List Value} {N S : Nat} {H : pj_Heap} {o : Nat} {v : Value} : pj_step 4 (20, L, v :: .ref o :: st, (N, S, H)) = pj_set 23 L st (N, S, H) o (pj_fset (H o) 0 1 v) := st_putfield q4_20
theorem q4_23 : pj_row 4 23 = some (.return_, 1, 0, 0, 0) := by decide +kernel
theorem t4_23 {L : pj_Loc} {M : pj_Mem} : pj_Ends 4 (23, L, [], M) (none, M) := pj_Ends.ret q4_23 (pj_rtn_v rt4)
theorem rt5 : pj_rt 5 = none := rfl
theorem q5_0 : pj_row 5 0 = some (.aload_n 0, 1, 0, 0, 0) := by decide +kernel
theorem s5_0 {st : List Value} {M : pj_Mem} {l : pj_Loc} {x : Nat} : pj_step 5 (0, some (.ref x) :: l, st, M) = some (1, some (.ref x) :: l, .ref x :: st, M) := st_aload_n q5_0 rfl
theorem q5_1 : pj_row 5 1 = some (.invokespecial 3, 3, 0, 1, 2) := by decide +kernel
theorem s5_1 {L : pj_Loc} {st : List Value} {M : pj_Mem} {o : Nat} : pj_step 5 (1, L, .ref o :: st, M) = pj_g4 st (some (4, L, st, M)) := st_obj q5_1
theorem q5_4 : pj_row 5 4 = some (.aload_n 0, 1, 0, 0, 0) := by decide +kernel
theorem s5_4 {st : List Value} {M : pj_Mem} {l : pj_Loc} {x : Nat} : pj_step 5 (4, some (.ref x) :: l, st, M) = some (5, some (.ref x) :: l, .ref x :: st, M) := st_aload_n q5_4 rfl
theorem q5_5 : pj_row 5 5 = some (.iconst 3, 1, 0, 0, 0) := by decide +kernel
theorem s5_5 {L : pj_Loc} {st : List Value} {M : pj_Mem}  : pj_step 5 (5, L, st, M) = some (6, L, .int 3 :: st, M) := st_iconst q5_5 (by decide +kernel)
theorem q5_6 : pj_row 5 6 = some (.newarray .int, 2, 0, 0, 0) := by decide +kernel
theorem s5_6 {L : pj_Loc} {st : List Value} {N S : Nat} {H : pj_Heap} {x : Int32} {n' : Nat} (hn : ¬ x < 0) (he : x.toNatClampNeg = n') (hb : n' ≤ 100000) : pj_step 5 (6, L, .int x :: st, (N, S, H)) = some (8, L, .ref N :: st, (N + 1, S + n', pj_up H N (.inr (0, n', .inl (fun _ => 0))))) := (st_newarray q5_6 hn he hb).trans rfl
theorem q5_8 : pj_row 5 8 = some (.putfield 9, 3, 1, 0, 0) := by decide +kernel
theorem s5_8 {L : pj_Loc} {st : List Value} {N S : Nat} {H : pj_Heap} {o : Nat} {v : Value} : pj_step 5 (8, L, v :: .ref o :: st, (N, S, H)) = pj_set 11 L st (N, S, H) o (pj_fset (H o) 1 0 v) := st_putfield q5_8
theorem q5_11 : pj_row 5 11 = some (.return_, 1, 0, 0, 0) := by decide +kernel
theorem t5_11 {L : pj_Loc} {M : pj_Mem} : pj_Ends 5 (11, L, [], M) (none, M) := pj_Ends.ret q5_11 (pj_rtn_v rt5)
theorem rt6 : pj_rt 6 = some (.array (.object "VotedCharge$Unit")) := rfl
theorem q6_0 : pj_row 6 0 = some (.iload_n 0, 1, 0, 0, 0) := by decide +kernel
theorem s6_0 {st : List Value} {M : pj_Mem} {l : pj_Loc} {x : Int32} : pj_step 6 (0, some (.int x) :: l, st, M) = some (1, some (.int x) :: l, .int x :: st, M) := st_iload_n q6_0 rfl
theorem q6_1 : pj_row 6 1 = some (.anewarray 7, 3, 3, 0, 0) := by decide +kernel
theorem s6_1 {L : pj_Loc} {st : List Value} {N S : Nat} {H : pj_Heap} {x : Int32} {n' : Nat} (hn : ¬ x < 0) (he : x.toNatClampNeg = n') (hb : n' ≤ 100000) : pj_step 6 (1, L, .int x :: st, (N, S, H)) = some (4, L, .ref N :: st, (N + 1, S + n', pj_up H N (.inr (3, n', .inr (fun _ => none))))) := (st_anewarray q6_1 hn he hb).trans rfl
theorem q6_4 : pj_row 6 4 = some (.astore_n 1, 1, 0, 0, 0) := by decide +kernel
theorem s6_4 {st : List Value} {M : pj_Mem} {l : pj_Loc} {a0 a1 : Option Value} {x : Nat} (h : pj_long a0 = false) : pj_step 6 (4, a0 :: a1 :: l, .ref x :: st, M) = some (5, a0 :: some (.ref x) :: l, st, M) := st_astore_n q6_4 (pj_st_1 h)
theorem q6_5 : pj_row 6 5 = some (.iconst 0, 1, 0, 0, 0) := by decide +kernel
theorem s6_5 {L : pj_Loc} {st : List Value} {M : pj_Mem}  : pj_step 6 (5, L, st, M) = some (6, L, .int 0 :: st, M) := st_iconst q6_5 (by decide +kernel)
theorem q6_6 : pj_row 6 6 = some (.istore_n 2, 1, 0, 0, 0) := by decide +kernel
theorem s6_6 {st : List Value} {M : pj_Mem} {l : pj_Loc} {a0 a1 a2 : Option Value} {x : Int32} (h : pj_long a1 = false) : pj_step 6 (6, a0 :: a1 :: a2 :: l, .int x :: st, M) = some (7, a0 :: a1 :: some (.int x) :: l, st, M) := st_istore_n q6_6 (pj_st_2 h)
theorem q6_7 : pj_row 6 7 = some (.iload_n 2, 1, 0, 0, 0) := by decide +kernel
theorem s6_7 {st : List Value} {M : pj_Mem} {l : pj_Loc} {a0 a1 : Option Value} {x : Int32} : pj_step 6 (7, a0 :: a1 :: some (.int x) :: l, st, M) = some (8, a0 :: a1 :: some (.int x) :: l, .int x :: st, M) := st_iload_n q6_7 rfl
theorem q6_8 : pj_row 6 8 = some (.aload_n 1, 1, 0, 0, 0) := by decide +kernel
theorem s6_8 {st : List Value} {M : pj_Mem} {l : pj_Loc} {a0 : Option Value} {x : Nat} : pj_step 6 (8, a0 :: some (.ref x) :: l, st, M) = some (9, a0 :: some (.ref x) :: l, .ref x :: st, M) := st_aload_n q6_8 rfl
theorem q6_9 : pj_row 6 9 = some (.arraylength, 1, 0, 0, 0) := by decide +kernel
theorem s6_9 {L : pj_Loc} {st : List Value} {N S : Nat} {H : pj_Heap} {o : Nat} : pj_step 6 (9, L, .ref o :: st, (N, S, H)) = pj_pi 10 L st (N, S, H) (pj_len (H o)) := st_arraylength q6_9
theorem q6_10 : pj_row 6 10 = some (.if_icmp .ge 19, 3, 29, 0, 0) := by decide +kernel
theorem s6_10 {L : pj_Loc} {st : List Value} {M : pj_Mem} {x y : Int32} : pj_step 6 (10, L, .int y :: .int x :: st, M) = some (if y ≤ x then 29 else 13, L, st, M) := st_icmp_ge q6_10
theorem q6_13 : pj_row 6 13 = some (.aload_n 1, 1, 0, 0, 0) := by decide +kernel
theorem s6_13 {st : List Value} {M : pj_Mem} {l : pj_Loc} {a0 : Option Value} {x : Nat} : pj_step 6 (13, a0 :: some (.ref x) :: l, st, M) = some (14, a0 :: some (.ref x) :: l, .ref x :: st, M) := st_aload_n q6_13 rfl
theorem q6_14 : pj_row 6 14 = some (.iload_n 2, 1, 0, 0, 0) := by decide +kernel
theorem s6_14 {st : List Value} {M : pj_Mem} {l : pj_Loc} {a0 a1 : Option Value} {x : Int32} : pj_step 6 (14, a0 :: a1 :: some (.int x) :: l, st, M) = some (15, a0 :: a1 :: some (.int x) :: l, .int x :: st, M) := st_iload_n q6_14 rfl
theorem q6_15 : pj_row 6 15 = some (.new 7, 3, 4, 0, 0) := by decide +kernel
theorem s6_15 {L : pj_Loc} {st : List Value} {N S : Nat} {H : pj_Heap}  : pj_step 6 (15, L, st, (N, S, H)) = some (18, L, .ref N :: st, (N + 1, S + 11, pj_up H N (.inl (4, [.null, .null, .null, .null, .null, .null, .null, .int 0, .int 0, .int 0, .int 0])))) := (st_new q6_15).trans rfl
theorem q6_18 : pj_row 6 18 = some (.dup, 1, 0, 0, 0) := by decide +kernel
theorem s6_18 {L : pj_Loc} {st : List Value} {M : pj_Mem} {x : Nat} : pj_step 6 (18, L, .ref x :: st, M) = some (19, L, .ref x :: .ref x :: st, M) := st_dup_ref q6_18
theorem s6_18i {L : pj_Loc} {st : List Value} {M : pj_Mem} {x : Int32} : pj_step 6 (18, L, .int x :: st, M) = some (19, L, .int x :: .int x :: st, M) := st_dup_int q6_18
theorem q6_19 : pj_row 6 19 = some (.invokespecial 9, 3, 1, 1, 0) := by decide +kernel
theorem e6_19 {L : pj_Loc} {st : List Value} {N S : Nat} {H : pj_Heap} {o : Option Value × pj_Mem} {M' : pj_Mem} {x0 : Nat} (h4 : pj_le4 st = true) (h1 : pj_Ends 1 (0, [some (.ref x0), none], [], (N, S, H)) (none, M')) (h2 : pj_Ends 6 (22, L, st, M') o) : pj_Ends 6 (19, L, .ref x0 :: st, (N, S, H)) o := ec_i1 q6_19 (Or.inl rfl) h4 rfl h1 h2
theorem q6_22 : pj_row 6 22 = some (.aastore, 1, 0, 0, 0) := by decide +kernel
theorem s6_22 {L : pj_Loc} {st : List Value} {N S : Nat} {H : pj_Heap} {o x : Nat} {i : Int32} (hx : pj_isU 4 (H x) = true) : pj_step 6 (22, L, .ref x :: .int i :: .ref o :: st, (N, S, H)) = pj_set 23 L st (N, S, H) o (pj_qrs (H o) i x) := st_aastore q6_22 hx
theorem q6_23 : pj_row 6 23 = some (.iinc 2 1, 3, 0, 0, 0) := by decide +kernel
theorem s6_23 {st : List Value} {M : pj_Mem} {l : pj_Loc} {a0 a1 : Option Value} {x : Int32} (h : pj_long a1 = false) : pj_step 6 (23, a0 :: a1 :: some (.int x) :: l, st, M) = some (26, a0 :: a1 :: some (.int (x + 1)) :: l, st, M) := st_iinc q6_23 rfl (congrArg (fun y => x + y) (show Int32.ofInt 1 = 1 by decide +kernel)) (pj_st_2 h)
theorem q6_26 : pj_row 6 26 = some (.goto (-19), 3, 7, 0, 0) := by decide +kernel
theorem s6_26 {L : pj_Loc} {st : List Value} {M : pj_Mem}  : pj_step 6 (26, L, st, M) = some (7, L, st, M) := st_goto q6_26
theorem q6_29 : pj_row 6 29 = some (.aload_n 1, 1, 0, 0, 0) := by decide +kernel
theorem s6_29 {st : List Value} {M : pj_Mem} {l : pj_Loc} {a0 : Option Value} {x : Nat} : pj_step 6 (29, a0 :: some (.ref x) :: l, st, M) = some (30, a0 :: some (.ref x) :: l, .ref x :: st, M) := st_aload_n q6_29 rfl
theorem q6_30 : pj_row 6 30 = some (.areturn, 1, 0, 0, 0) := by decide +kernel
theorem t6_30 {L : pj_Loc} {M : pj_Mem} {a : Nat} : pj_Ends 6 (30, L, [.ref a], M) (some (.ref a), M) := pj_Ends.ret q6_30 (pj_rtn_a rt6)
theorem rt7 : pj_rt 7 = some .int := rfl
theorem q7_0 : pj_row 7 0 = some (.iload_n 1, 1, 0, 0, 0) := by decide +kernel
theorem s7_0 {st : List Value} {M : pj_Mem} {l : pj_Loc} {a0 : Option Value} {x : Int32} : pj_step 7 (0, a0 :: some (.int x) :: l, st, M) = some (1, a0 :: some (.int x) :: l, .int x :: st, M) := st_iload_n q7_0 rfl
theorem q7_1 : pj_row 7 1 = some (.ifCond .lt 9, 3, 10, 0, 0) := by decide +kernel
theorem s7_1 {L : pj_Loc} {st : List Value} {M : pj_Mem} {x : Int32} : pj_step 7 (1, L, .int x :: st, M) = some (if x < 0 then 10 else 4, L, st, M) := st_if_lt q7_1
theorem q7_4 : pj_row 7 4 = some (.iload_n 1, 1, 0, 0, 0) := by decide +kernel
theorem s7_4 {st : List Value} {M : pj_Mem} {l : pj_Loc} {a0 : Option Value} {x : Int32} : pj_step 7 (4, a0 :: some (.int x) :: l, st, M) = some (5, a0 :: some (.int x) :: l, .int x :: st, M) := st_iload_n q7_4 rfl
theorem q7_5 : pj_row 7 5 = some (.bipush 6, 2, 0, 0, 0) := by decide +kernel
theorem s7_5 {L : pj_Loc} {st : List Value} {M : pj_Mem}  : pj_step 7 (5, L, st, M) = some (7, L, .int 6 :: st, M) := st_bipush q7_5 (by decide +kernel)
theorem q7_7 : pj_row 7 7 = some (.if_icmp .lt 6, 3, 13, 0, 0) := by decide +kernel
theorem s7_7 {L : pj_Loc} {st : List Value} {M : pj_Mem} {x y : Int32} : pj_step 7 (7, L, .int y :: .int x :: st, M) = some (if x < y then 13 else 10, L, st, M) := st_icmp_lt q7_7
theorem q7_10 : pj_row 7 10 = some (.bipush (-2), 2, 0, 0, 0) := by decide +kernel
theorem s7_10 {L : pj_Loc} {st : List Value} {M : pj_Mem}  : pj_step 7 (10, L, st, M) = some (12, L, .int (-2) :: st, M) := st_bipush q7_10 (by decide +kernel)
theorem q7_12 : pj_row 7 12 = some (.ireturn, 1, 0, 0, 0) := by decide +kernel
theorem t7_12 {L : pj_Loc} {M : pj_Mem} {v : Int32} : pj_Ends 7 (12, L, [.int v], M) (some (.int v), M) := pj_Ends.ret q7_12 (pj_rtn_i rt7)
theorem q7_13 : pj_row 7 13 = some (.iload_n 2, 1, 0, 0, 0) := by decide +kernel
theorem s7_13 {st : List Value} {M : pj_Mem} {l : pj_Loc} {a0 a1 : Option Value} {x : Int32} : pj_step 7 (13, a0 :: a1 :: some (.int x) :: l, st, M) = some (14, a0 :: a1 :: some (.int x) :: l, .int x :: st, M) := st_iload_n q7_13 rfl
theorem q7_14 : pj_row 7 14 = some (.getstatic 48, 3, 2, 0, 0) := by decide +kernel
theorem s7_14 {L : pj_Loc} {st : List Value} {M : pj_Mem}  : pj_step 7 (14, L, st, M) = some (17, L, .ref 2 :: st, M) := st_getstatic q7_14
theorem q7_17 : pj_row 7 17 = some (.iload_n 1, 1, 0, 0, 0) := by decide +kernel
theorem s7_17 {st : List Value} {M : pj_Mem} {l : pj_Loc} {a0 : Option Value} {x : Int32} : pj_step 7 (17, a0 :: some (.int x) :: l, st, M) = some (18, a0 :: some (.int x) :: l, .int x :: st, M) := st_iload_n q7_17 rfl
theorem q7_18 : pj_row 7 18 = some (.iaload, 1, 0, 0, 0) := by decide +kernel
theorem s7_18 {L : pj_Loc} {st : List Value} {N S : Nat} {H : pj_Heap} {o : Nat} {i : Int32} : pj_step 7 (18, L, .int i :: .ref o :: st, (N, S, H)) = pj_pi 19 L st (N, S, H) (pj_arl (H o) 0 i) := st_iaload q7_18
theorem q7_19 : pj_row 7 19 = some (.if_icmp .lt 12, 3, 31, 0, 0) := by decide +kernel
theorem s7_19 {L : pj_Loc} {st : List Value} {M : pj_Mem} {x y : Int32} : pj_step 7 (19, L, .int y :: .int x :: st, M) = some (if x < y then 31 else 22, L, st, M) := st_icmp_lt q7_19
theorem q7_22 : pj_row 7 22 = some (.iload_n 2, 1, 0, 0, 0) := by decide +kernel
theorem s7_22 {st : List Value} {M : pj_Mem} {l : pj_Loc} {a0 a1 : Option Value} {x : Int32} : pj_step 7 (22, a0 :: a1 :: some (.int x) :: l, st, M) = some (23, a0 :: a1 :: some (.int x) :: l, .int x :: st, M) := st_iload_n q7_22 rfl
theorem q7_23 : pj_row 7 23 = some (.getstatic 52, 3, 3, 0, 0) := by decide +kernel
theorem s7_23 {L : pj_Loc} {st : List Value} {M : pj_Mem}  : pj_step 7 (23, L, st, M) = some (26, L, .ref 3 :: st, M) := st_getstatic q7_23
theorem q7_26 : pj_row 7 26 = some (.iload_n 1, 1, 0, 0, 0) := by decide +kernel
theorem s7_26 {st : List Value} {M : pj_Mem} {l : pj_Loc} {a0 : Option Value} {x : Int32} : pj_step 7 (26, a0 :: some (.int x) :: l, st, M) = some (27, a0 :: some (.int x) :: l, .int x :: st, M) := st_iload_n q7_26 rfl
theorem q7_27 : pj_row 7 27 = some (.iaload, 1, 0, 0, 0) := by decide +kernel
theorem s7_27 {L : pj_Loc} {st : List Value} {N S : Nat} {H : pj_Heap} {o : Nat} {i : Int32} : pj_step 7 (27, L, .int i :: .ref o :: st, (N, S, H)) = pj_pi 28 L st (N, S, H) (pj_arl (H o) 0 i) := st_iaload q7_27
theorem q7_28 : pj_row 7 28 = some (.if_icmp .le 6, 3, 34, 0, 0) := by decide +kernel
theorem s7_28 {L : pj_Loc} {st : List Value} {M : pj_Mem} {x y : Int32} : pj_step 7 (28, L, .int y :: .int x :: st, M) = some (if x ≤ y then 34 else 31, L, st, M) := st_icmp_le q7_28
theorem q7_31 : pj_row 7 31 = some (.bipush (-2), 2, 0, 0, 0) := by decide +kernel
theorem s7_31 {L : pj_Loc} {st : List Value} {M : pj_Mem}  : pj_step 7 (31, L, st, M) = some (33, L, .int (-2) :: st, M) := st_bipush q7_31 (by decide +kernel)
theorem q7_33 : pj_row 7 33 = some (.ireturn, 1, 0, 0, 0) := by decide +kernel
theorem t7_33 {L : pj_Loc} {M : pj_Mem} {v : Int32} : pj_Ends 7 (33, L, [.int v], M) (some (.int v), M) := pj_Ends.ret q7_33 (pj_rtn_i rt7)
theorem q7_34 : pj_row 7 34 = some (.aload_n 0, 1, 0, 0, 0) := by decide +kernel
theorem s7_34 {st : List Value} {M : pj_Mem} {l : pj_Loc} {x : Nat} : pj_step 7 (34, some (.ref x) :: l, st, M) = some (35, some (.ref x) :: l, .ref x :: st, M) := st_aload_n q7_34 rfl
theorem q7_35 : pj_row 7 35 = some (.invokevirtual 55, 3, 8, 1, 0) := by decide +kernel
theorem e7_35 {L : pj_Loc} {st : List Value} {N S : Nat} {H : pj_Heap} {o : Option Value × pj_Mem} {M' : pj_Mem} {x0 : Nat} (h4 : pj_le4 st = true) (hu : pj_isU 5 (H x0) = true) (h1 : pj_Ends 8 (0, [some (.ref x0), none, none], [], (N, S, H)) (none, M')) (h2 : pj_Ends 7 (38, L, st, M') o) : pj_Ends 7 (35, L, .ref x0 :: st, (N, S, H)) o := ec_v1 q7_35 (Or.inl rfl) h4 hu rfl h1 h2
theorem q7_38 : pj_row 7 38 = some (.aload_n 0, 1, 0, 0, 0) := by decide +kernel
theorem s7_38 {st : List Value} {M : pj_Mem} {l : pj_Loc} {x : Nat} : pj_step 7 (38, some (.ref x) :: l, st, M) = some (39, some (.ref x) :: l, .ref x :: st, M) := st_aload_n q7_38 rfl
theorem q7_39 : pj_row 7 39 = some (.getfield 10, 3, 5, 0, 0) := by decide +kernel
theorem s7_39 {L : pj_Loc} {st : List Value} {N S : Nat} {H : pj_Heap} {o : Nat} : pj_step 7 (39, L, .ref o :: st, (N, S, H)) = pj_pv 42 L st (N, S, H) (pj_fld (H o) 5 0) := st_getfield q7_39
theorem q7_42 : pj_row 7 42 = some (.getfield 58, 3, 4, 0, 0) := by decide +kernel
theorem s7_42 {L : pj_Loc} {st : List Value} {N S : Nat} {H : pj_Heap} {o : Nat} : pj_step 7 (42, L, .ref o :: st, (N, S, H)) = pj_pv 45 L st (N, S, H) (pj_fld (H o) 4 0) := st_getfield q7_42
theorem q7_45 : pj_row 7 45 = some (.iload_n 1, 1, 0, 0, 0) := by decide +kernel
theorem s7_45 {st : List Value} {M : pj_Mem} {l : pj_Loc} {a0 : Option Value} {x : Int32} : pj_step 7 (45, a0 :: some (.int x) :: l, st, M) = some (46, a0 :: some (.int x) :: l, .int x :: st, M) := st_iload_n q7_45 rfl
theorem q7_46 : pj_row 7 46 = some (.iaload, 1, 0, 0, 0) := by decide +kernel
theorem s7_46 {L : pj_Loc} {st : List Value} {N S : Nat} {H : pj_Heap} {o : Nat} {i : Int32} : pj_step 7 (46, L, .int i :: .ref o :: st, (N, S, H)) = pj_pi 47 L st (N, S, H) (pj_arl (H o) 0 i) := st_iaload q7_46
theorem q7_47 : pj_row 7 47 = some (.istore_n 3, 1, 0, 0, 0) := by decide +kernel
theorem s7_47 {st : List Value} {M : pj_Mem} {l : pj_Loc} {a0 a1 a2 a3 : Option Value} {x : Int32} (h : pj_long a2 = false) : pj_step 7 (47, a0 :: a1 :: a2 :: a3 :: l, .int x :: st, M) = some (48, a0 :: a1 :: a2 :: some (.int x) :: l, st, M) := st_istore_n q7_47 (pj_st_3 h)
theorem q7_48 : pj_row 7 48 = some (.aload_n 0, 1, 0, 0, 0) := by decide +kernel
theorem s7_48 {st : List Value} {M : pj_Mem} {l : pj_Loc} {x : Nat} : pj_step 7 (48, some (.ref x) :: l, st, M) = some (49, some (.ref x) :: l, .ref x :: st, M) := st_aload_n q7_48 rfl
theorem q7_49 : pj_row 7 49 = some (.getfield 10, 3, 5, 0, 0) := by decide +kernel
theorem s7_49 {L : pj_Loc} {st : List Value} {N S : Nat} {H : pj_Heap} {o : Nat} : pj_step 7 (49, L, .ref o :: st, (N, S, H)) = pj_pv 52 L st (N, S, H) (pj_fld (H o) 5 0) := st_getfield q7_49
theorem q7_52 : pj_row 7 52 = some (.getfield 58, 3, 4, 0, 0) := by decide +kernel
theorem s7_52 {L : pj_Loc} {st : List Value} {N S : Nat} {H : pj_Heap} {o : Nat} : pj_step 7 (52, L, .ref o :: st, (N, S, H)) = pj_pv 55 L st (N, S, H) (pj_fld (H o) 4 0) := st_getfield q7_52
theorem q7_55 : pj_row 7 55 = some (.iload_n 1, 1, 0, 0, 0) := by decide +kernel
theorem s7_55 {st : List Value} {M : pj_Mem} {l : pj_Loc} {a0 : Option Value} {x : Int32} : pj_step 7 (55, a0 :: some (.int x) :: l, st, M) = some (56, a0 :: some (.int x) :: l, .int x :: st, M) := st_iload_n q7_55 rfl
theorem q7_56 : pj_row 7 56 = some (.iload_n 2, 1, 0, 0, 0) := by decide +kernel
theorem s7_56 {st : List Value} {M : pj_Mem} {l : pj_Loc} {a0 a1 : Option Value} {x : Int32} : pj_step 7 (56, a0 :: a1 :: some (.int x) :: l, st, M) = some (57, a0 :: a1 :: some (.int x) :: l, .int x :: st, M) := st_iload_n q7_56 rfl
theorem q7_57 : pj_row 7 57 = some (.iastore, 1, 0, 0, 0) := by decide +kernel
theorem s7_57 {L : pj_Loc} {st : List Value} {N S : Nat} {H : pj_Heap} {o : Nat} {i x : Int32} : pj_step 7 (57, L, .int x :: .int i :: .ref o :: st, (N, S, H)) = pj_set 58 L st (N, S, H) o (pj_ars (H o) 0 i x) := st_iastore q7_57
theorem q7_58 : pj_row 7 58 = some (.iload_n 3, 1, 0, 0, 0) := by decide +kernel
theorem s7_58 {st : List Value} {M : pj_Mem} {l : pj_Loc} {a0 a1 a2 : Option Value} {x : Int32} : pj_step 7 (58, a0 :: a1 :: a2 :: some (.int x) :: l, st, M) = some (59, a0 :: a1 :: a2 :: some (.int x) :: l, .int x :: st, M) := st_iload_n q7_58 rfl
theorem q7_59 : pj_row 7 59 = some (.ireturn, 1, 0, 0, 0) := by decide +kernel
theorem t7_59 {L : pj_Loc} {M : pj_Mem} {v : Int32} : pj_Ends 7 (59, L, [.int v], M) (some (.int v), M) := pj_Ends.ret q7_59 (pj_rtn_i rt7)
theorem rt8 : pj_rt 8 = none := rfl
theorem q8_0 : pj_row 8 0 = some (.aload_n 0, 1, 0, 0, 0) := by decide +kernel
theorem s8_0 {st : List Value} {M : pj_Mem} {l : pj_Loc} {x : Nat} : pj_step 8 (0, some (.ref x) :: l, st, M) = some (1, some (.ref x) :: l, .ref x :: st, M) := st_aload_n q8_0 rfl
theorem q8_1 : pj_row 8 1 = some (.getfield 148, 3, 5, 5, 0) := by decide +kernel
theorem s8_1 {L : pj_Loc} {st : List Value} {N S : Nat} {H : pj_Heap} {o : Nat} : pj_step 8 (1, L, .ref o :: st, (N, S, H)) = pj_pv 4 L st (N, S, H) (pj_fld (H o) 5 5) := st_getfield q8_1
theorem q8_4 : pj_row 8 4 = some (.bipush 6, 2, 0, 0, 0) := by decide +kernel
theorem s8_4 {L : pj_Loc} {st : List Value} {M : pj_Mem}  : pj_step 8 (4, L, st, M) = some (6, L, .int 6 :: st, M) := st_bipush q8_4 (by decide +kernel)
theorem q8_6 : pj_row 8 6 = some (.if_icmp .lt 50, 3, 56, 0, 0) := by decide +kernel
theorem s8_6 {L : pj_Loc} {st : List Value} {M : pj_Mem} {x y : Int32} : pj_step 8 (6, L, .int y :: .int x :: st, M) = some (if x < y then 56 else 9, L, st, M) := st_icmp_lt q8_6
theorem q8_9 : pj_row 8 9 = some (.aload_n 0, 1, 0, 0, 0) := by decide +kernel
theorem s8_9 {st : List Value} {M : pj_Mem} {l : pj_Loc} {x : Nat} : pj_step 8 (9, some (.ref x) :: l, st, M) = some (10, some (.ref x) :: l, .ref x :: st, M) := st_aload_n q8_9 rfl
theorem q8_10 : pj_row 8 10 = some (.getfield 37, 3, 5, 4, 0) := by decide +kernel
theorem s8_10 {L : pj_Loc} {st : List Value} {N S : Nat} {H : pj_Heap} {o : Nat} : pj_step 8 (10, L, .ref o :: st, (N, S, H)) = pj_pv 13 L st (N, S, H) (pj_fld (H o) 5 4) := st_getfield q8_10
theorem q8_13 : pj_row 8 13 = some (.iconst 0, 1, 0, 0, 0) := by decide +kernel
theorem s8_13 {L : pj_Loc} {st : List Value} {M : pj_Mem}  : pj_step 8 (13, L, st, M) = some (14, L, .int 0 :: st, M) := st_iconst q8_13 (by decide +kernel)
theorem q8_14 : pj_row 8 14 = some (.aaload, 1, 0, 0, 0) := by decide +kernel
theorem s8_14 {L : pj_Loc} {st : List Value} {N S : Nat} {H : pj_Heap} {o : Nat} {i : Int32} : pj_step 8 (14, L, .int i :: .ref o :: st, (N, S, H)) = pj_pv 15 L st (N, S, H) (pj_qrl (H o) i) := st_aaload q8_14
theorem q8_15 : pj_row 8 15 = some (.astore_n 1, 1, 0, 0, 0) := by decide +kernel
theorem s8_15 {st : List Value} {M : pj_Mem} {l : pj_Loc} {a0 a1 : Option Value} {x : Nat} (h : pj_long a0 = false) : pj_step 8 (15, a0 :: a1 :: l, .ref x :: st, M) = some (16, a0 :: some (.ref x) :: l, st, M) := st_astore_n q8_15 (pj_st_1 h)
theorem q8_16 : pj_row 8 16 = some (.iconst 1, 1, 0, 0, 0) := by decide +kernel
theorem s8_16 {L : pj_Loc} {st : List Value} {M : pj_Mem}  : pj_step 8 (16, L, st, M) = some (17, L, .int 1 :: st, M) := st_iconst q8_16 (by decide +kernel)
theorem q8_17 : pj_row 8 17 = some (.istore_n 2, 1, 0, 0, 0) := by decide +kernel
theorem s8_17 {st : List Value} {M : pj_Mem} {l : pj_Loc} {a0 a1 a2 : Option Value} {x : Int32} (h : pj_long a1 = false) : pj_step 8 (17, a0 :: a1 :: a2 :: l, .int x :: st, M) = some (18, a0 :: a1 :: some (.int x) :: l, st, M) := st_istore_n q8_17 (pj_st_2 h)
theorem q8_18 : pj_row 8 18 = some (.iload_n 2, 1, 0, 0, 0) := by decide +kernel
theorem s8_18 {st : List Value} {M : pj_Mem} {l : pj_Loc} {a0 a1 : Option Value} {x : Int32} : pj_step 8 (18, a0 :: a1 :: some (.int x) :: l, st, M) = some (19, a0 :: a1 :: some (.int x) :: l, .int x :: st, M) := st_iload_n q8_18 rfl
theorem q8_19 : pj_row 8 19 = some (.bipush 6, 2, 0, 0, 0) := by decide +kernel
theorem s8_19 {L : pj_Loc} {st : List Value} {M : pj_Mem}  : pj_step 8 (19, L, st, M) = some (21, L, .int 6 :: st, M) := st_bipush q8_19 (by decide +kernel)
theorem q8_21 : pj_row 8 21 = some (.if_icmp .ge 23, 3, 44, 0, 0) := by decide +kernel
theorem s8_21 {L : pj_Loc} {st : List Value} {M : pj_Mem} {x y : Int32} : pj_step 8 (21, L, .int y :: .int x :: st, M) = some (if y ≤ x then 44 else 24, L, st, M) := st_icmp_ge q8_21
theorem q8_24 : pj_row 8 24 = some (.aload_n 0, 1, 0, 0, 0) := by decide +kernel
theorem s8_24 {st : List Value} {M : pj_Mem} {l : pj_Loc} {x : Nat} : pj_step 8 (24, some (.ref x) :: l, st, M) = some (25, some (.ref x) :: l, .ref x :: st, M) := st_aload_n q8_24 rfl
theorem q8_25 : pj_row 8 25 = some (.getfield 37, 3, 5, 4, 0) := by decide +kernel
theorem s8_25 {L : pj_Loc} {st : List Value} {N S : Nat} {H : pj_Heap} {o : Nat} : pj_step 8 (25, L, .ref o :: st, (N, S, H)) = pj_pv 28 L st (N, S, H) (pj_fld (H o) 5 4) := st_getfield q8_25
theorem q8_28 : pj_row 8 28 = some (.iload_n 2, 1, 0, 0, 0) := by decide +kernel
theorem s8_28 {st : List Value} {M : pj_Mem} {l : pj_Loc} {a0 a1 : Option Value} {x : Int32} : pj_step 8 (28, a0 :: a1 :: some (.int x) :: l, st, M) = some (29, a0 :: a1 :: some (.int x) :: l, .int x :: st, M) := st_iload_n q8_28 rfl
theorem q8_29 : pj_row 8 29 = some (.iconst 1, 1, 0, 0, 0) := by decide +kernel
theorem s8_29 {L : pj_Loc} {st : List Value} {M : pj_Mem}  : pj_step 8 (29, L, st, M) = some (30, L, .int 1 :: st, M) := st_iconst q8_29 (by decide +kernel)
theorem q8_30 : pj_row 8 30 = some (.isub, 1, 0, 0, 0) := by decide +kernel
theorem s8_30 {L : pj_Loc} {st : List Value} {M : pj_Mem} {x y : Int32} : pj_step 8 (30, L, .int y :: .int x :: st, M) = some (31, L, .int (x - y) :: st, M) := st_isub q8_30
theorem q8_31 : pj_row 8 31 = some (.aload_n 0, 1, 0, 0, 0) := by decide +kernel
theorem s8_31 {st : List Value} {M : pj_Mem} {l : pj_Loc} {x : Nat} : pj_step 8 (31, some (.ref x) :: l, st, M) = some (32, some (.ref x) :: l, .ref x :: st, M) := st_aload_n q8_31 rfl
theorem q8_32 : pj_row 8 32 = some (.getfield 37, 3, 5, 4, 0) := by decide +kernel
theorem s8_32 {L : pj_Loc} {st : List Value} {N S : Nat} {H : pj_Heap} {o : Nat} : pj_step 8 (32, L, .ref o :: st, (N, S, H)) = pj_pv 35 L st (N, S, H) (pj_fld (H o) 5 4) := st_getfield q8_32
theorem q8_35 : pj_row 8 35 = some (.iload_n 2, 1, 0, 0, 0) := by decide +kernel
theorem s8_35 {st : List Value} {M : pj_Mem} {l : pj_Loc} {a0 a1 : Option Value} {x : Int32} : pj_step 8 (35, a0 :: a1 :: some (.int x) :: l, st, M) = some (36, a0 :: a1 :: some (.int x) :: l, .int x :: st, M) := st_iload_n q8_35 rfl
theorem q8_36 : pj_row 8 36 = some (.aaload, 1, 0, 0, 0) := by decide +kernel
theorem s8_36 {L : pj_Loc} {st : List Value} {N S : Nat} {H : pj_Heap} {o : Nat} {i : Int32} : pj_step 8 (36, L, .int i :: .ref o :: st, (N, S, H)) = pj_pv 37 L st (N, S, H) (pj_qrl (H o) i) := st_aaload q8_36
theorem q8_37 : pj_row 8 37 = some (.aastore, 1, 0, 0, 0) := by decide +kernel
theorem s8_37 {L : pj_Loc} {st : List Value} {N S : Nat} {H : pj_Heap} {o x : Nat} {i : Int32} (hx : pj_isU 4 (H x) = true) : pj_step 8 (37, L, .ref x :: .int i :: .ref o :: st, (N, S, H)) = pj_set 38 L st (N, S, H) o (pj_qrs (H o) i x) := st_aastore q8_37 hx
theorem q8_38 : pj_row 8 38 = some (.iinc 2 1, 3, 0, 0, 0) := by decide +kernel
theorem s8_38 {st : List Value} {M : pj_Mem} {l : pj_Loc} {a0 a1 : Option Value} {x : Int32} (h : pj_long a1 = false) : pj_step 8 (38, a0 :: a1 :: some (.int x) :: l, st, M) = some (41, a0 :: a1 :: some (.int (x + 1)) :: l, st, M) := st_iinc q8_38 rfl (congrArg (fun y => x + y) (show Int32.ofInt 1 = 1 by decide +kernel)) (pj_st_2 h)
theorem q8_41 : pj_row 8 41 = some (.goto (-23), 3, 18, 0, 0) := by decide +kernel
theorem s8_41 {L : pj_Loc} {st : List Value} {M : pj_Mem}  : pj_step 8 (41, L, st, M) = some (18, L, st, M) := st_goto q8_41
theorem q8_44 : pj_row 8 44 = some (.aload_n 0, 1, 0, 0, 0) := by decide +kernel
theorem s8_44 {st : List Value} {M : pj_Mem} {l : pj_Loc} {x : Nat} : pj_step 8 (44, some (.ref x) :: l, st, M) = some (45, some (.ref x) :: l, .ref x :: st, M) := st_aload_n q8_44 rfl
theorem q8_45 : pj_row 8 45 = some (.getfield 37, 3, 5, 4, 0) := by decide +kernel
theorem s8_45 {L : pj_Loc} {st : List Value} {N S : Nat} {H : pj_Heap} {o : Nat} : pj_step 8 (45, L, .ref o :: st, (N, S, H)) = pj_pv 48 L st (N, S, H) (pj_fld (H o) 5 4) := st_getfield q8_45
theorem q8_48 : pj_row 8 48 = some (.iconst 5, 1, 0, 0, 0) := by decide +kernel
theorem s8_48 {L : pj_Loc} {st : List Value} {M : pj_Mem}  : pj_step 8 (48, L, st, M) = some (49, L, .int 5 :: st, M) := st_iconst q8_48 (by decide +kernel)
theorem q8_49 : pj_row 8 49 = some (.aload_n 1, 1, 0, 0, 0) := by decide +kernel
theorem s8_49 {st : List Value} {M : pj_Mem} {l : pj_Loc} {a0 : Option Value} {x : Nat} : pj_step 8 (49, a0 :: some (.ref x) :: l, st, M) = some (50, a0 :: some (.ref x) :: l, .ref x :: st, M) := st_aload_n q8_49 rfl
theorem q8_50 : pj_row 8 50 = some (.aastore, 1, 0, 0, 0) := by decide +kernel
theorem s8_50 {L : pj_Loc} {st : List Value} {N S : Nat} {H : pj_Heap} {o x : Nat} {i : Int32} (hx : pj_isU 4 (H x) = true) : pj_step 8 (50, L, .ref x :: .int i :: .ref o :: st, (N, S, H)) = pj_set 51 L st (N, S, H) o (pj_qrs (H o) i x) := st_aastore q8_50 hx
theorem q8_51 : pj_row 8 51 = some (.aload_n 0, 1, 0, 0, 0) := by decide +kernel
theorem s8_51 {st : List Value} {M : pj_Mem} {l : pj_Loc} {x : Nat} : pj_step 8 (51, some (.ref x) :: l, st, M) = some (52, some (.ref x) :: l, .ref x :: st, M) := st_aload_n q8_51 rfl
theorem q8_52 : pj_row 8 52 = some (.iconst 5, 1, 0, 0, 0) := by decide +kernel
theorem s8_52 {L : pj_Loc} {st : List Value} {M : pj_Mem}  : pj_step 8 (52, L, st, M) = some (53, L, .int 5 :: st, M) := st_iconst q8_52 (by decide +kernel)
theorem q8_53 : pj_row 8 53 = some (.putfield 148, 3, 5, 5, 0) := by decide +kernel
theorem s8_53 {L : pj_Loc} {st : List Value} {N S : Nat} {H : pj_Heap} {o : Nat} {v : Value} : pj_step 8 (53, L, v :: .ref o :: st, (N, S, H)) = pj_set 56 L st (N, S, H) o (pj_fset (H o) 5 5 v) := st_putfield q8_53
theorem q8_56 : pj_row 8 56 = some (.aload_n 0, 1, 0, 0, 0) := by decide +kernel
theorem s8_56 {st : List Value} {M : pj_Mem} {l : pj_Loc} {x : Nat} : pj_step 8 (56, some (.ref x) :: l, st, M) = some (57, some (.ref x) :: l, .ref x :: st, M) := st_aload_n q8_56 rfl
theorem q8_57 : pj_row 8 57 = some (.getfield 37, 3, 5, 4, 0) := by decide +kernel
theorem s8_57 {L : pj_Loc} {st : List Value} {N S : Nat} {H : pj_Heap} {o : Nat} : pj_step 8 (57, L, .ref o :: st, (N, S, H)) = pj_pv 60 L st (N, S, H) (pj_fld (H o) 5 4) := st_getfield q8_57
theorem q8_60 : pj_row 8 60 = some (.aload_n 0, 1, 0, 0, 0) := by decide +kernel
theorem s8_60 {st : List Value} {M : pj_Mem} {l : pj_Loc} {x : Nat} : pj_step 8 (60, some (.ref x) :: l, st, M) = some (61, some (.ref x) :: l, .ref x :: st, M) := st_aload_n q8_60 rfl
theorem q8_61 : pj_row 8 61 = some (.getfield 148, 3, 5, 5, 0) := by decide +kernel
theorem s8_61 {L : pj_Loc} {st : List Value} {N S : Nat} {H : pj_Heap} {o : Nat} : pj_step 8 (61, L, .ref o :: st, (N, S, H)) = pj_pv 64 L st (N, S, H) (pj_fld (H o) 5 5) := st_getfield q8_61
theorem q8_64 : pj_row 8 64 = some (.aaload, 1, 0, 0, 0) := by decide +kernel
theorem s8_64 {L : pj_Loc} {st : List Value} {N S : Nat} {H : pj_Heap} {o : Nat} {i : Int32} : pj_step 8 (64, L, .int i :: .ref o :: st, (N, S, H)) = pj_pv 65 L st (N, S, H) (pj_qrl (H o) i) := st_aaload q8_64
theorem q8_65 : pj_row 8 65 = some (.aload_n 0, 1, 0, 0, 0) := by decide +kernel
theorem s8_65 {st : List Value} {M : pj_Mem} {l : pj_Loc} {x : Nat} : pj_step 8 (65, some (.ref x) :: l, st, M) = some (66, some (.ref x) :: l, .ref x :: st, M) := st_aload_n q8_65 rfl
theorem q8_66 : pj_row 8 66 = some (.getfield 10, 3, 5, 0, 0) := by decide +kernel
theorem s8_66 {L : pj_Loc} {st : List Value} {N S : Nat} {H : pj_Heap} {o : Nat} : pj_step 8 (66, L, .ref o :: st, (N, S, H)) = pj_pv 69 L st (N, S, H) (pj_fld (H o) 5 0) := st_getfield q8_66
theorem q8_69 : pj_row 8 69 = some (.invokevirtual 172, 3, 9, 2, 0) := by decide +kernel
theorem e8_69 {L : pj_Loc} {st : List Value} {N S : Nat} {H : pj_Heap} {o : Option Value × pj_Mem} {M' : pj_Mem} {x0 : Nat} {x1 : Nat} (h4 : pj_le4 st = true) (hu : pj_isU 4 (H x0) = true) (h1 : pj_Ends 9 (0, [some (.ref x0), some (.ref x1)], [], (N, S, H)) (none, M')) (h2 : pj_Ends 8 (72, L, st, M') o) : pj_Ends 8 (69, L, .ref x1 :: .ref x0 :: st, (N, S, H)) o := ec_v2 q8_69 (Or.inl rfl) h4 hu rfl h1 h2
theorem q8_72 : pj_row 8 72 = some (.aload_n 0, 1, 0, 0, 0) := by decide +kernel
theorem s8_72 {st : List Value} {M : pj_Mem} {l : pj_Loc} {x : Nat} : pj_step 8 (72, some (.ref x) :: l, st, M) = some (73, some (.ref x) :: l, .ref x :: st, M) := st_aload_n q8_72 rfl
theorem q8_73 : pj_row 8 73 = some (.dup, 1, 0, 0, 0) := by decide +kernel
theorem s8_73 {L : pj_Loc} {st : List Value} {M : pj_Mem} {x : Nat} : pj_step 8 (73, L, .ref x :: st, M) = some (74, L, .ref x :: .ref x :: st, M) := st_dup_ref q8_73
theorem s8_73i {L : pj_Loc} {st : List Value} {M : pj_Mem} {x : Int32} : pj_step 8 (73, L, .int x :: st, M) = some (74, L, .int x :: .int x :: st, M) := st_dup_int q8_73
theorem q8_74 : pj_row 8 74 = some (.getfield 148, 3, 5, 5, 0) := by decide +kernel
theorem s8_74 {L : pj_Loc} {st : List Value} {N S : Nat} {H : pj_Heap} {o : Nat} : pj_step 8 (74, L, .ref o :: st, (N, S, H)) = pj_pv 77 L st (N, S, H) (pj_fld (H o) 5 5) := st_getfield q8_74
theorem q8_77 : pj_row 8 77 = some (.iconst 1, 1, 0, 0, 0) := by decide +kernel
theorem s8_77 {L : pj_Loc} {st : List Value} {M : pj_Mem}  : pj_step 8 (77, L, st, M) = some (78, L, .int 1 :: st, M) := st_iconst q8_77 (by decide +kernel)
theorem q8_78 : pj_row 8 78 = some (.iadd, 1, 0, 0, 0) := by decide +kernel
theorem s8_78 {L : pj_Loc} {st : List Value} {M : pj_Mem} {x y : Int32} : pj_step 8 (78, L, .int y :: .int x :: st, M) = some (79, L, .int (x + y) :: st, M) := st_iadd q8_78
theorem q8_79 : pj_row 8 79 = some (.putfield 148, 3, 5, 5, 0) := by decide +kernel
theorem s8_79 {L : pj_Loc} {st : List Value} {N S : Nat} {H : pj_Heap} {o : Nat} {v : Value} : pj_step 8 (79, L, v :: .ref o :: st, (N, S, H)) = pj_set 82 L st (N, S, H) o (pj_fset (H o) 5 5 v) := st_putfield q8_79
theorem q8_82 : pj_row 8 82 = some (.return_, 1, 0, 0, 0) := by decide +kernel
theorem t8_82 {L : pj_Loc} {M : pj_Mem} : pj_Ends 8 (82, L, [], M) (none, M) := pj_Ends.ret q8_82 (pj_rtn_v rt8)
theorem rt9 : pj_rt 9 = none := rfl
theorem q9_0 : pj_row 9 0 = some (.aload_n 1, 1, 0, 0, 0) := by decide +kernel
theorem s9_0 {st : List Value} {M : pj_Mem} {l : pj_Loc} {a0 : Option Value} {x : Nat} : pj_step 9 (0, a0 :: some (.ref x) :: l, st, M) = some (1, a0 :: some (.ref x) :: l, .ref x :: st, M) := st_aload_n q9_0 rfl
theorem q9_1 : pj_row 9 1 = some (.getfield 9, 3, 4, 0, 0) := by decide +kernel
theorem s9_1 {L : pj_Loc} {st : List Value} {N S : Nat} {H : pj_Heap} {o : Nat} : pj_step 9 (1, L, .ref o :: st, (N, S, H)) = pj_pv 4 L st (N, S, H) (pj_fld (H o) 4 0) := st_getfield q9_1
theorem q9_4 : pj_row 9 4 = some (.iconst 0, 1, 0, 0, 0) := by decide +kernel
theorem s9_4 {L : pj_Loc} {st : List Value} {M : pj_Mem}  : pj_step 9 (4, L, st, M) = some (5, L, .int 0 :: st, M) := st_iconst q9_4 (by decide +kernel)
theorem q9_5 : pj_row 9 5 = some (.aload_n 0, 1, 0, 0, 0) := by decide +kernel
theorem s9_5 {st : List Value} {M : pj_Mem} {l : pj_Loc} {x : Nat} : pj_step 9 (5, some (.ref x) :: l, st, M) = some (6, some (.ref x) :: l, .ref x :: st, M) := st_aload_n q9_5 rfl
theorem q9_6 : pj_row 9 6 = some (.getfield 9, 3, 4, 0, 0) := by decide +kernel
theorem s9_6 {L : pj_Loc} {st : List Value} {N S : Nat} {H : pj_Heap} {o : Nat} : pj_step 9 (6, L, .ref o :: st, (N, S, H)) = pj_pv 9 L st (N, S, H) (pj_fld (H o) 4 0) := st_getfield q9_6
theorem q9_9 : pj_row 9 9 = some (.iconst 0, 1, 0, 0, 0) := by decide +kernel
theorem s9_9 {L : pj_Loc} {st : List Value} {M : pj_Mem}  : pj_step 9 (9, L, st, M) = some (10, L, .int 0 :: st, M) := st_iconst q9_9 (by decide +kernel)
theorem q9_10 : pj_row 9 10 = some (.bipush 6, 2, 0, 0, 0) := by decide +kernel
theorem s9_10 {L : pj_Loc} {st : List Value} {M : pj_Mem}  : pj_step 9 (10, L, st, M) = some (12, L, .int 6 :: st, M) := st_bipush q9_10 (by decide +kernel)
theorem q9_12 : pj_row 9 12 = some (.invokestatic 44, 3, 0, 5, 3) := by decide +kernel
theorem s9_12 {L : pj_Loc} {st : List Value} {N S : Nat} {H : pj_Heap} {d o : Nat} {n dp sp : Int32} : pj_step 9 (12, L, .int n :: .int dp :: .ref d :: .int sp :: .ref o :: st, (N, S, H)) = pj_g4 st (pj_set 15 L st (N, S, H) d (pj_cas (H o) (H d) sp dp n)) := st_acp q9_12
theorem q9_15 : pj_row 9 15 = some (.aload_n 1, 1, 0, 0, 0) := by decide +kernel
theorem s9_15 {st : List Value} {M : pj_Mem} {l : pj_Loc} {a0 : Option Value} {x : Nat} : pj_step 9 (15, a0 :: some (.ref x) :: l, st, M) = some (16, a0 :: some (.ref x) :: l, .ref x :: st, M) := st_aload_n q9_15 rfl
theorem q9_16 : pj_row 9 16 = some (.getfield 15, 3, 4, 1, 0) := by decide +kernel
theorem s9_16 {L : pj_Loc} {st : List Value} {N S : Nat} {H : pj_Heap} {o : Nat} : pj_step 9 (16, L, .ref o :: st, (N, S, H)) = pj_pv 19 L st (N, S, H) (pj_fld (H o) 4 1) := st_getfield q9_16
theorem q9_19 : pj_row 9 19 = some (.iconst 0, 1, 0, 0, 0) := by decide +kernel
theorem s9_19 {L : pj_Loc} {st : List Value} {M : pj_Mem}  : pj_step 9 (19, L, st, M) = some (20, L, .int 0 :: st, M) := st_iconst q9_19 (by decide +kernel)
theorem q9_20 : pj_row 9 20 = some (.aload_n 0, 1, 0, 0, 0) := by decide +kernel
theorem s9_20 {st : List Value} {M : pj_Mem} {l : pj_Loc} {x : Nat} : pj_step 9 (20, some (.ref x) :: l, st, M) = some (21, some (.ref x) :: l, .ref x :: st, M) := st_aload_n q9_20 rfl
theorem q9_21 : pj_row 9 21 = some (.getfield 15, 3, 4, 1, 0) := by decide +kernel
theorem s9_21 {L : pj_Loc} {st : List Value} {N S : Nat} {H : pj_Heap} {o : Nat} : pj_step 9 (21, L, .ref o :: st, (N, S, H)) = pj_pv 24 L st (N, S, H) (pj_fld (H o) 4 1) := st_getfield q9_21
theorem q9_24 : pj_row 9 24 = some (.iconst 0, 1, 0, 0, 0) := by decide +kernel
theorem s9_24 {L : pj_Loc} {st : List Value} {M : pj_Mem}  : pj_step 9 (24, L, st, M) = some (25, L, .int 0 :: st, M) := st_iconst q9_24 (by decide +kernel)
theorem q9_25 : pj_row 9 25 = some (.iconst 3, 1, 0, 0, 0) := by decide +kernel
theorem s9_25 {L : pj_Loc} {st : List Value} {M : pj_Mem}  : pj_step 9 (25, L, st, M) = some (26, L, .int 3 :: st, M) := st_iconst q9_25 (by decide +kernel)
theorem q9_26 : pj_row 9 26 = some (.invokestatic 44, 3, 0, 5, 3) := by decide +kernel
theorem s9_26 {L : pj_Loc} {st : List Value} {N S : Nat} {H : pj_Heap} {d o : Nat} {n dp sp : Int32} : pj_step 9 (26, L, .int n :: .int dp :: .ref d :: .int sp :: .ref o :: st, (N, S, H)) = pj_g4 st (pj_set 29 L st (N, S, H) d (pj_cas (H o) (H d) sp dp n)) := st_acp q9_26
theorem q9_29 : pj_row 9 29 = some (.aload_n 1, 1, 0, 0, 0) := by decide +kernel
theorem s9_29 {st : List Value} {M : pj_Mem} {l : pj_Loc} {a0 : Option Value} {x : Nat} : pj_step 9 (29, a0 :: some (.ref x) :: l, st, M) = some (30, a0 :: some (.ref x) :: l, .ref x :: st, M) := st_aload_n q9_29 rfl
theorem q9_30 : pj_row 9 30 = some (.getfield 18, 3, 4, 2, 0) := by decide +kernel
theorem s9_30 {L : pj_Loc} {st : List Value} {N S : Nat} {H : pj_Heap} {o : Nat} : pj_step 9 (30, L, .ref o :: st, (N, S, H)) = pj_pv 33 L st (N, S, H) (pj_fld (H o) 4 2) := st_getfield q9_30
theorem q9_33 : pj_row 9 33 = some (.iconst 0, 1, 0, 0, 0) := by decide +kernel
theorem s9_33 {L : pj_Loc} {st : List Value} {M : pj_Mem}  : pj_step 9 (33, L, st, M) = some (34, L, .int 0 :: st, M) := st_iconst q9_33 (by decide +kernel)
theorem q9_34 : pj_row 9 34 = some (.aload_n 0, 1, 0, 0, 0) := by decide +kernel
theorem s9_34 {st : List Value} {M : pj_Mem} {l : pj_Loc} {x : Nat} : pj_step 9 (34, some (.ref x) :: l, st, M) = some (35, some (.ref x) :: l, .ref x :: st, M) := st_aload_n q9_34 rfl
theorem q9_35 : pj_row 9 35 = some (.getfield 18, 3, 4, 2, 0) := by decide +kernel
theorem s9_35 {L : pj_Loc} {st : List Value} {N S : Nat} {H : pj_Heap} {o : Nat} : pj_step 9 (35, L, .ref o :: st, (N, S, H)) = pj_pv 38 L st (N, S, H) (pj_fld (H o) 4 2) := st_getfield q9_35
theorem q9_38 : pj_row 9 38 = some (.iconst 0, 1, 0, 0, 0) := by decide +kernel
theorem s9_38 {L : pj_Loc} {st : List Value} {M : pj_Mem}  : pj_step 9 (38, L, st, M) = some (39, L, .int 0 :: st, M) := st_iconst q9_38 (by decide +kernel)
theorem q9_39 : pj_row 9 39 = some (.iconst 3, 1, 0, 0, 0) := by decide +kernel
theorem s9_39 {L : pj_Loc} {st : List Value} {M : pj_Mem}  : pj_step 9 (39, L, st, M) = some (40, L, .int 3 :: st, M) := st_iconst q9_39 (by decide +kernel)
theorem q9_40 : pj_row 9 40 = some (.invokestatic 44, 3, 0, 5, 3) := by decide +kernel
theorem s9_40 {L : pj_Loc} {st : List Value} {N S : Nat} {H : pj_Heap} {d o : Nat} {n dp sp : Int32} : pj_step 9 (40, L, .int n :: .int dp :: .ref d :: .int sp :: .ref o :: st, (N, S, H)) = pj_g4 st (pj_set 43 L st (N, S, H) d (pj_cas (H o) (H d) sp dp n)) := st_acp q9_40
theorem q9_43 : pj_row 9 43 = some (.aload_n 1, 1, 0, 0, 0) := by decide +kernel
theorem s9_43 {st : List Value} {M : pj_Mem} {l : pj_Loc} {a0 : Option Value} {x : Nat} : pj_step 9 (43, a0 :: some (.ref x) :: l, st, M) = some (44, a0 :: some (.ref x) :: l, .ref x :: st, M) := st_aload_n q9_43 rfl
theorem q9_44 : pj_row 9 44 = some (.getfield 21, 3, 4, 3, 0) := by decide +kernel
theorem s9_44 {L : pj_Loc} {st : List Value} {N S : Nat} {H : pj_Heap} {o : Nat} : pj_step 9 (44, L, .ref o :: st, (N, S, H)) = pj_pv 47 L st (N, S, H) (pj_fld (H o) 4 3) := st_getfield q9_44
theorem q9_47 : pj_row 9 47 = some (.iconst 0, 1, 0, 0, 0) := by decide +kernel
theorem s9_47 {L : pj_Loc} {st : List Value} {M : pj_Mem}  : pj_step 9 (47, L, st, M) = some (48, L, .int 0 :: st, M) := st_iconst q9_47 (by decide +kernel)
theorem q9_48 : pj_row 9 48 = some (.aload_n 0, 1, 0, 0, 0) := by decide +kernel
theorem s9_48 {st : List Value} {M : pj_Mem} {l : pj_Loc} {x : Nat} : pj_step 9 (48, some (.ref x) :: l, st, M) = some (49, some (.ref x) :: l, .ref x :: st, M) := st_aload_n q9_48 rfl
theorem q9_49 : pj_row 9 49 = some (.getfield 21, 3, 4, 3, 0) := by decide +kernel
theorem s9_49 {L : pj_Loc} {st : List Value} {N S : Nat} {H : pj_Heap} {o : Nat} : pj_step 9 (49, L, .ref o :: st, (N, S, H)) = pj_pv 52 L st (N, S, H) (pj_fld (H o) 4 3) := st_getfield q9_49
theorem q9_52 : pj_row 9 52 = some (.iconst 0, 1, 0, 0, 0) := by decide +kernel
theorem s9_52 {L : pj_Loc} {st : List Value} {M : pj_Mem}  : pj_step 9 (52, L, st, M) = some (53, L, .int 0 :: st, M) := st_iconst q9_52 (by decide +kernel)
theorem q9_53 : pj_row 9 53 = some (.iconst 3, 1, 0, 0, 0) := by decide +kernel
theorem s9_53 {L : pj_Loc} {st : List Value} {M : pj_Mem}  : pj_step 9 (53, L, st, M) = some (54, L, .int 3 :: st, M) := st_iconst q9_53 (by decide +kernel)
theorem q9_54 : pj_row 9 54 = some (.invokestatic 44, 3, 0, 5, 3) := by decide +kernel
theorem s9_54 {L : pj_Loc} {st : List Value} {N S : Nat} {H : pj_Heap} {d o : Nat} {n dp sp : Int32} : pj_step 9 (54, L, .int n :: .int dp :: .ref d :: .int sp :: .ref o :: st, (N, S, H)) = pj_g4 st (pj_set 57 L st (N, S, H) d (pj_cas (H o) (H d) sp dp n)) := st_acp q9_54
theorem q9_57 : pj_row 9 57 = some (.aload_n 1, 1, 0, 0, 0) := by decide +kernel
theorem s9_57 {st : List Value} {M : pj_Mem} {l : pj_Loc} {a0 : Option Value} {x : Nat} : pj_step 9 (57, a0 :: some (.ref x) :: l, st, M) = some (58, a0 :: some (.ref x) :: l, .ref x :: st, M) := st_aload_n q9_57 rfl
theorem q9_58 : pj_row 9 58 = some (.getfield 24, 3, 4, 4, 0) := by decide +kernel
theorem s9_58 {L : pj_Loc} {st : List Value} {N S : Nat} {H : pj_Heap} {o : Nat} : pj_step 9 (58, L, .ref o :: st, (N, S, H)) = pj_pv 61 L st (N, S, H) (pj_fld (H o) 4 4) := st_getfield q9_58
theorem q9_61 : pj_row 9 61 = some (.iconst 0, 1, 0, 0, 0) := by decide +kernel
theorem s9_61 {L : pj_Loc} {st : List Value} {M : pj_Mem}  : pj_step 9 (61, L, st, M) = some (62, L, .int 0 :: st, M) := st_iconst q9_61 (by decide +kernel)
theorem q9_62 : pj_row 9 62 = some (.aload_n 0, 1, 0, 0, 0) := by decide +kernel
theorem s9_62 {st : List Value} {M : pj_Mem} {l : pj_Loc} {x : Nat} : pj_step 9 (62, some (.ref x) :: l, st, M) = some (63, some (.ref x) :: l, .ref x :: st, M) := st_aload_n q9_62 rfl
theorem q9_63 : pj_row 9 63 = some (.getfield 24, 3, 4, 4, 0) := by decide +kernel
theorem s9_63 {L : pj_Loc} {st : List Value} {N S : Nat} {H : pj_Heap} {o : Nat} : pj_step 9 (63, L, .ref o :: st, (N, S, H)) = pj_pv 66 L st (N, S, H) (pj_fld (H o) 4 4) := st_getfield q9_63
theorem q9_66 : pj_row 9 66 = some (.iconst 0, 1, 0, 0, 0) := by decide +kernel
theorem s9_66 {L : pj_Loc} {st : List Value} {M : pj_Mem}  : pj_step 9 (66, L, st, M) = some (67, L, .int 0 :: st, M) := st_iconst q9_66 (by decide +kernel)
theorem q9_67 : pj_row 9 67 = some (.iconst 3, 1, 0, 0, 0) := by decide +kernel
theorem s9_67 {L : pj_Loc} {st : List Value} {M : pj_Mem}  : pj_step 9 (67, L, st, M) = some (68, L, .int 3 :: st, M) := st_iconst q9_67 (by decide +kernel)
theorem q9_68 : pj_row 9 68 = some (.invokestatic 44, 3, 0, 5, 3) := by decide +kernel
theorem s9_68 {L : pj_Loc} {st : List Value} {N S : Nat} {H : pj_Heap} {d o : Nat} {n dp sp : Int32} : pj_step 9 (68, L, .int n :: .int dp :: .ref d :: .int sp :: .ref o :: st, (N, S, H)) = pj_g4 st (pj_set 71 L st (N, S, H) d (pj_cas (H o) (H d) sp dp n)) := st_acp q9_68
theorem q9_71 : pj_row 9 71 = some (.aload_n 1, 1, 0, 0, 0) := by decide +kernel
theorem s9_71 {st : List Value} {M : pj_Mem} {l : pj_Loc} {a0 : Option Value} {x : Nat} : pj_step 9 (71, a0 :: some (.ref x) :: l, st, M) = some (72, a0 :: some (.ref x) :: l, .ref x :: st, M) := st_aload_n q9_71 rfl
theorem q9_72 : pj_row 9 72 = some (.getfield 27, 3, 4, 5, 0) := by decide +kernel
theorem s9_72 {L : pj_Loc} {st : List Value} {N S : Nat} {H : pj_Heap} {o : Nat} : pj_step 9 (72, L, .ref o :: st, (N, S, H)) = pj_pv 75 L st (N, S, H) (pj_fld (H o) 4 5) := st_getfield q9_72
theorem q9_75 : pj_row 9 75 = some (.iconst 0, 1, 0, 0, 0) := by decide +kernel
theorem s9_75 {L : pj_Loc} {st : List Value} {M : pj_Mem}  : pj_step 9 (75, L, st, M) = some (76, L, .int 0 :: st, M) := st_iconst q9_75 (by decide +kernel)
theorem q9_76 : pj_row 9 76 = some (.aload_n 0, 1, 0, 0, 0) := by decide +kernel
theorem s9_76 {st : List Value} {M : pj_Mem} {l : pj_Loc} {x : Nat} : pj_step 9 (76, some (.ref x) :: l, st, M) = some (77, some (.ref x) :: l, .ref x :: st, M) := st_aload_n q9_76 rfl
theorem q9_77 : pj_row 9 77 = some (.getfield 27, 3, 4, 5, 0) := by decide +kernel
theorem s9_77 {L : pj_Loc} {st : List Value} {N S : Nat} {H : pj_Heap} {o : Nat} : pj_step 9 (77, L, .ref o :: st, (N, S, H)) = pj_pv 80 L st (N, S, H) (pj_fld (H o) 4 5) := st_getfield q9_77
theorem q9_80 : pj_row 9 80 = some (.iconst 0, 1, 0, 0, 0) := by decide +kernel
theorem s9_80 {L : pj_Loc} {st : List Value} {M : pj_Mem}  : pj_step 9 (80, L, st, M) = some (81, L, .int 0 :: st, M) := st_iconst q9_80 (by decide +kernel)
theorem q9_81 : pj_row 9 81 = some (.iconst 3, 1, 0, 0, 0) := by decide +kernel
theorem s9_81 {L : pj_Loc} {st : List Value} {M : pj_Mem}  : pj_step 9 (81, L, st, M) = some (82, L, .int 3 :: st, M) := st_iconst q9_81 (by decide +kernel)
theorem q9_82 : pj_row 9 82 = some (.invokestatic 44, 3, 0, 5, 3) := by decide +kernel
theorem s9_82 {L : pj_Loc} {st : List Value} {N S : Nat} {H : pj_Heap} {d o : Nat} {n dp sp : Int32} : pj_step 9 (82, L, .int n :: .int dp :: .ref d :: .int sp :: .ref o :: st, (N, S, H)) = pj_g4 st (pj_set 85 L st (N, S, H) d (pj_cas (H o) (H d) sp dp n)) := st_acp q9_82
theorem q9_85 : pj_row 9 85 = some (.aload_n 0, 1, 0, 0, 0) := by decide +kernel
theorem s9_85 {st : List Value} {M : pj_Mem} {l : pj_Loc} {x : Nat} : pj_step 9 (85, some (.ref x) :: l, st, M) = some (86, some (.ref x) :: l, .ref x :: st, M) := st_aload_n q9_85 rfl
theorem q9_86 : pj_row 9 86 = some (.getfield 33, 3, 4, 6, 0) := by decide +kernel
theorem s9_86 {L : pj_Loc} {st : List Value} {N S : Nat} {H : pj_Heap} {o : Nat} : pj_step 9 (86, L, .ref o :: st, (N, S, H)) = pj_pv 89 L st (N, S, H) (pj_fld (H o) 4 6) := st_getfield q9_86
theorem q9_89 : pj_row 9 89 = some (.aload_n 1, 1, 0, 0, 0) := by decide +kernel
theorem s9_89 {st : List Value} {M : pj_Mem} {l : pj_Loc} {a0 : Option Value} {x : Nat} : pj_step 9 (89, a0 :: some (.ref x) :: l, st, M) = some (90, a0 :: some (.ref x) :: l, .ref x :: st, M) := st_aload_n q9_89 rfl
theorem q9_90 : pj_row 9 90 = some (.getfield 33, 3, 4, 6, 0) := by decide +kernel
theorem s9_90 {L : pj_Loc} {st : List Value} {N S : Nat} {H : pj_Heap} {o : Nat} : pj_step 9 (90, L, .ref o :: st, (N, S, H)) = pj_pv 93 L st (N, S, H) (pj_fld (H o) 4 6) := st_getfield q9_90
theorem q9_93 : pj_row 9 93 = some (.invokevirtual 50, 3, 10, 2, 0) := by decide +kernel
theorem e9_93 {L : pj_Loc} {st : List Value} {N S : Nat} {H : pj_Heap} {o : Option Value × pj_Mem} {M' : pj_Mem} {x0 : Nat} {x1 : Nat} (h4 : pj_le4 st = true) (hu : pj_isU 2 (H x0) = true) (h1 : pj_Ends 10 (0, [some (.ref x0), some (.ref x1)], [], (N, S, H)) (none, M')) (h2 : pj_Ends 9 (96, L, st, M') o) : pj_Ends 9 (93, L, .ref x1 :: .ref x0 :: st, (N, S, H)) o := ec_v2 q9_93 (Or.inl rfl) h4 hu rfl h1 h2
theorem q9_96 : pj_row 9 96 = some (.aload_n 0, 1, 0, 0, 0) := by decide +kernel
theorem s9_96 {st : List Value} {M : pj_Mem} {l : pj_Loc} {x : Nat} : pj_step 9 (96, some (.ref x) :: l, st, M) = some (97, some (.ref x) :: l, .ref x :: st, M) := st_aload_n q9_96 rfl
theorem q9_97 : pj_row 9 97 = some (.aload_n 1, 1, 0, 0, 0) := by decide +kernel
theorem s9_97 {st : List Value} {M : pj_Mem} {l : pj_Loc} {a0 : Option Value} {x : Nat} : pj_step 9 (97, a0 :: some (.ref x) :: l, st, M) = some (98, a0 :: some (.ref x) :: l, .ref x :: st, M) := st_aload_n q9_97 rfl
theorem q9_98 : pj_row 9 98 = some (.getfield 37, 3, 4, 7, 0) := by decide +kernel
theorem s9_98 {L : pj_Loc} {st : List Value} {N S : Nat} {H : pj_Heap} {o : Nat} : pj_step 9 (98, L, .ref o :: st, (N, S, H)) = pj_pv 101 L st (N, S, H) (pj_fld (H o) 4 7) := st_getfield q9_98
theorem q9_101 : pj_row 9 101 = some (.putfield 37, 3, 4, 7, 0) := by decide +kernel
theorem s9_101 {L : pj_Loc} {st : List Value} {N S : Nat} {H : pj_Heap} {o : Nat} {v : Value} : pj_step 9 (101, L, v :: .ref o :: st, (N, S, H)) = pj_set 104 L st (N, S, H) o (pj_fset (H o) 4 7 v) := st_putfield q9_101
theorem q9_104 : pj_row 9 104 = some (.aload_n 0, 1, 0, 0, 0) := by decide +kernel
theorem s9_104 {st : List Value} {M : pj_Mem} {l : pj_Loc} {x : Nat} : pj_step 9 (104, some (.ref x) :: l, st, M) = some (105, some (.ref x) :: l, .ref x :: st, M) := st_aload_n q9_104 rfl
theorem q9_105 : pj_row 9 105 = some (.aload_n 1, 1, 0, 0, 0) := by decide +kernel
theorem s9_105 {st : List Value} {M : pj_Mem} {l : pj_Loc} {a0 : Option Value} {x : Nat} : pj_step 9 (105, a0 :: some (.ref x) :: l, st, M) = some (106, a0 :: some (.ref x) :: l, .ref x :: st, M) := st_aload_n q9_105 rfl
theorem q9_106 : pj_row 9 106 = some (.getfield 54, 3, 4, 8, 0) := by decide +kernel
theorem s9_106 {L : pj_Loc} {st : List Value} {N S : Nat} {H : pj_Heap} {o : Nat} : pj_step 9 (106, L, .ref o :: st, (N, S, H)) = pj_pv 109 L st (N, S, H) (pj_fld (H o) 4 8) := st_getfield q9_106
theorem q9_109 : pj_row 9 109 = some (.putfield 54, 3, 4, 8, 0) := by decide +kernel
theorem s9_109 {L : pj_Loc} {st : List Value} {N S : Nat} {H : pj_Heap} {o : Nat} {v : Value} : pj_step 9 (109, L, v :: .ref o :: st, (N, S, H)) = pj_set 112 L st (N, S, H) o (pj_fset (H o) 4 8 v) := st_putfield q9_109
theorem q9_112 : pj_row 9 112 = some (.aload_n 0, 1, 0, 0, 0) := by decide +kernel
theorem s9_112 {st : List Value} {M : pj_Mem} {l : pj_Loc} {x : Nat} : pj_step 9 (112, some (.ref x) :: l, st, M) = some (113, some (.ref x) :: l, .ref x :: st, M) := st_aload_n q9_112 rfl
theorem q9_113 : pj_row 9 113 = some (.aload_n 1, 1, 0, 0, 0) := by decide +kernel
theorem s9_113 {st : List Value} {M : pj_Mem} {l : pj_Loc} {a0 : Option Value} {x : Nat} : pj_step 9 (113, a0 :: some (.ref x) :: l, st, M) = some (114, a0 :: some (.ref x) :: l, .ref x :: st, M) := st_aload_n q9_113 rfl
theorem q9_114 : pj_row 9 114 = some (.getfield 57, 3, 4, 9, 0) := by decide +kernel
theorem s9_114 {L : pj_Loc} {st : List Value} {N S : Nat} {H : pj_Heap} {o : Nat} : pj_step 9 (114, L, .ref o :: st, (N, S, H)) = pj_pv 117 L st (N, S, H) (pj_fld (H o) 4 9) := st_getfield q9_114
theorem q9_117 : pj_row 9 117 = some (.putfield 57, 3, 4, 9, 0) := by decide +kernel
theorem s9_117 {L : pj_Loc} {st : List Value} {N S : Nat} {H : pj_Heap} {o : Nat} {v : Value} : pj_step 9 (117, L, v :: .ref o :: st, (N, S, H)) = pj_set 120 L st (N, S, H) o (pj_fset (H o) 4 9 v) := st_putfield q9_117
theorem q9_120 : pj_row 9 120 = some (.aload_n 0, 1, 0, 0, 0) := by decide +kernel
theorem s9_120 {st : List Value} {M : pj_Mem} {l : pj_Loc} {x : Nat} : pj_step 9 (120, some (.ref x) :: l, st, M) = some (121, some (.ref x) :: l, .ref x :: st, M) := st_aload_n q9_120 rfl
theorem q9_121 : pj_row 9 121 = some (.aload_n 1, 1, 0, 0, 0) := by decide +kernel
theorem s9_121 {st : List Value} {M : pj_Mem} {l : pj_Loc} {a0 : Option Value} {x : Nat} : pj_step 9 (121, a0 :: some (.ref x) :: l, st, M) = some (122, a0 :: some (.ref x) :: l, .ref x :: st, M) := st_aload_n q9_121 rfl
theorem q9_122 : pj_row 9 122 = some (.getfield 60, 3, 4, 10, 0) := by decide +kernel
theorem s9_122 {L : pj_Loc} {st : List Value} {N S : Nat} {H : pj_Heap} {o : Nat} : pj_step 9 (122, L, .ref o :: st, (N, S, H)) = pj_pv 125 L st (N, S, H) (pj_fld (H o) 4 10) := st_getfield q9_122
theorem q9_125 : pj_row 9 125 = some (.putfield 60, 3, 4, 10, 0) := by decide +kernel
theorem s9_125 {L : pj_Loc} {st : List Value} {N S : Nat} {H : pj_Heap} {o : Nat} {v : Value} : pj_step 9 (125, L, v :: .ref o :: st, (N, S, H)) = pj_set 128 L st (N, S, H) o (pj_fset (H o) 4 10 v) := st_putfield q9_125
theorem q9_128 : pj_row 9 128 = some (.return_, 1, 0, 0, 0) := by decide +kernel
theorem t9_128 {L : pj_Loc} {M : pj_Mem} : pj_Ends 9 (128, L, [], M) (none, M) := pj_Ends.ret q9_128 (pj_rtn_v rt9)
theorem rt10 : pj_rt 10 = none := rfl
theorem q10_0 : pj_row 10 0 = some (.aload_n 1, 1, 0, 0, 0) := by decide +kernel
theorem s10_0 {st : List Value} {M : pj_Mem} {l : pj_Loc} {a0 : Option Value} {x : Nat} : pj_step 10 (0, a0 :: some (.ref x) :: l, st, M) = some (1, a0 :: some (.ref x) :: l, .ref x :: st, M) := st_aload_n q10_0 rfl
theorem q10_1 : pj_row 10 1 = some (.getfield 9, 3, 2, 0, 0) := by decide +kernel
theorem s10_1 {L : pj_Loc} {st : List Value} {N S : Nat} {H : pj_Heap} {o : Nat} : pj_step 10 (1, L, .ref o :: st, (N, S, H)) = pj_pv 4 L st (N, S, H) (pj_fld (H o) 2 0) := st_getfield q10_1
theorem q10_4 : pj_row 10 4 = some (.iconst 0, 1, 0, 0, 0) := by decide +kernel
theorem s10_4 {L : pj_Loc} {st : List Value} {M : pj_Mem}  : pj_step 10 (4, L, st, M) = some (5, L, .int 0 :: st, M) := st_iconst q10_4 (by decide +kernel)
theorem q10_5 : pj_row 10 5 = some (.aload_n 0, 1, 0, 0, 0) := by decide +kernel
theorem s10_5 {st : List Value} {M : pj_Mem} {l : pj_Loc} {x : Nat} : pj_step 10 (5, some (.ref x) :: l, st, M) = some (6, some (.ref x) :: l, .ref x :: st, M) := st_aload_n q10_5 rfl
theorem q10_6 : pj_row 10 6 = some (.getfield 9, 3, 2, 0, 0) := by decide +kernel
theorem s10_6 {L : pj_Loc} {st : List Value} {N S : Nat} {H : pj_Heap} {o : Nat} : pj_step 10 (6, L, .ref o :: st, (N, S, H)) = pj_pv 9 L st (N, S, H) (pj_fld (H o) 2 0) := st_getfield q10_6
theorem q10_9 : pj_row 10 9 = some (.iconst 0, 1, 0, 0, 0) := by decide +kernel
theorem s10_9 {L : pj_Loc} {st : List Value} {M : pj_Mem}  : pj_step 10 (9, L, st, M) = some (10, L, .int 0 :: st, M) := st_iconst q10_9 (by decide +kernel)
theorem q10_10 : pj_row 10 10 = some (.bipush 120, 2, 0, 0, 0) := by decide +kernel
theorem s10_10 {L : pj_Loc} {st : List Value} {M : pj_Mem}  : pj_step 10 (10, L, st, M) = some (12, L, .int 120 :: st, M) := st_bipush q10_10 (by decide +kernel)
theorem q10_12 : pj_row 10 12 = some (.invokestatic 19, 3, 0, 5, 3) := by decide +kernel
theorem s10_12 {L : pj_Loc} {st : List Value} {N S : Nat} {H : pj_Heap} {d o : Nat} {n dp sp : Int32} : pj_step 10 (12, L, .int n :: .int dp :: .ref d :: .int sp :: .ref o :: st, (N, S, H)) = pj_g4 st (pj_set 15 L st (N, S, H) d (pj_cas (H o) (H d) sp dp n)) := st_acp q10_12
theorem q10_15 : pj_row 10 15 = some (.aload_n 0, 1, 0, 0, 0) := by decide +kernel
theorem s10_15 {st : List Value} {M : pj_Mem} {l : pj_Loc} {x : Nat} : pj_step 10 (15, some (.ref x) :: l, st, M) = some (16, some (.ref x) :: l, .ref x :: st, M) := st_aload_n q10_15 rfl
theorem q10_16 : pj_row 10 16 = some (.aload_n 1, 1, 0, 0, 0) := by decide +kernel
theorem s10_16 {st : List Value} {M : pj_Mem} {l : pj_Loc} {a0 : Option Value} {x : Nat} : pj_step 10 (16, a0 :: some (.ref x) :: l, st, M) = some (17, a0 :: some (.ref x) :: l, .ref x :: st, M) := st_aload_n q10_16 rfl
theorem q10_17 : pj_row 10 17 = some (.getfield 25, 3, 2, 1, 0) := by decide +kernel
theorem s10_17 {L : pj_Loc} {st : List Value} {N S : Nat} {H : pj_Heap} {o : Nat} : pj_step 10 (17, L, .ref o :: st, (N, S, H)) = pj_pv 20 L st (N, S, H) (pj_fld (H o) 2 1) := st_getfield q10_17
theorem q10_20 : pj_row 10 20 = some (.putfield 25, 3, 2, 1, 0) := by decide +kernel
theorem s10_20 {L : pj_Loc} {st : List Value} {N S : Nat} {H : pj_Heap} {o : Nat} {v : Value} : pj_step 10 (20, L, v :: .ref o :: st, (N, S, H)) = pj_set 23 L st (N, S, H) o (pj_fset (H o) 2 1 v) := st_putfield q10_20
theorem q10_23 : pj_row 10 23 = some (.aload_n 0, 1, 0, 0, 0) := by decide +kernel
theorem s10_23 {st : List Value} {M : pj_Mem} {l : pj_Loc} {x : Nat} : pj_step 10 (23, some (.ref x) :: l, st, M) = some (24, some (.ref x) :: l, .ref x :: st, M) := st_aload_n q10_23 rfl
theorem q10_24 : pj_row 10 24 = some (.aload_n 1, 1, 0, 0, 0) := by decide +kernel
theorem s10_24 {st : List Value} {M : pj_Mem} {l : pj_Loc} {a0 : Option Value} {x : Nat} : pj_step 10 (24, a0 :: some (.ref x) :: l, st, M) = some (25, a0 :: some (.ref x) :: l, .ref x :: st, M) := st_aload_n q10_24 rfl
theorem q10_25 : pj_row 10 25 = some (.getfield 15, 3, 2, 2, 0) := by decide +kernel
theorem s10_25 {L : pj_Loc} {st : List Value} {N S : Nat} {H : pj_Heap} {o : Nat} : pj_step 10 (25, L, .ref o :: st, (N, S, H)) = pj_pv 28 L st (N, S, H) (pj_fld (H o) 2 2) := st_getfield q10_25
theorem q10_28 : pj_row 10 28 = some (.putfield 15, 3, 2, 2, 0) := by decide +kernel
theorem s10_28 {L : pj_Loc} {st : List Value} {N S : Nat} {H : pj_Heap} {o : Nat} {v : Value} : pj_step 10 (28, L, v :: .ref o :: st, (N, S, H)) = pj_set 31 L st (N, S, H) o (pj_fset (H o) 2 2 v) := st_putfield q10_28
theorem q10_31 : pj_row 10 31 = some (.return_, 1, 0, 0, 0) := by decide +kernel
theorem t10_31 {L : pj_Loc} {M : pj_Mem} : pj_Ends 10 (31, L, [], M) (none, M) := pj_Ends.ret q10_31 (pj_rtn_v rt10)
theorem rt11 : pj_rt 11 = some .int := rfl
theorem q11_0 : pj_row 11 0 = some (.iload_n 1, 1, 0, 0, 0) := by decide +kernel
theorem s11_0 {st : List Value} {M : pj_Mem} {l : pj_Loc} {a0 : Option Value} {x : Int32} : pj_step 11 (0, a0 :: some (.int x) :: l, st, M) = some (1, a0 :: some (.int x) :: l, .int x :: st, M) := st_iload_n q11_0 rfl
theorem q11_1 : pj_row 11 1 = some (.iload_n 2, 1, 0, 0, 0) := by decide +kernel
theorem s11_1 {st : List Value} {M : pj_Mem} {l : pj_Loc} {a0 a1 : Option Value} {x : Int32} : pj_step 11 (1, a0 :: a1 :: some (.int x) :: l, st, M) = some (2, a0 :: a1 :: some (.int x) :: l, .int x :: st, M) := st_iload_n q11_1 rfl
theorem q11_2 : pj_row 11 2 = some (.iload_n 3, 1, 0, 0, 0) := by decide +kernel
theorem s11_2 {st : List Value} {M : pj_Mem} {l : pj_Loc} {a0 a1 a2 : Option Value} {x : Int32} : pj_step 11 (2, a0 :: a1 :: a2 :: some (.int x) :: l, st, M) = some (3, a0 :: a1 :: a2 :: some (.int x) :: l, .int x :: st, M) := st_iload_n q11_2 rfl
theorem q11_3 : pj_row 11 3 = some (.invokestatic 61, 3, 12, 3, 0) := by decide +kernel
theorem e11_3 {L : pj_Loc} {st : List Value} {N S : Nat} {H : pj_Heap} {o : Option Value × pj_Mem} {M' : pj_Mem} {x0 : Int32} {x1 : Int32} {x2 : Int32} {r : Int32} (h4 : pj_le4 st = true) (h1 : pj_Ends 12 (0, [some (.int x0), some (.int x1), some (.int x2)], [], (N, S, H)) (some (.int r), M')) (h2 : pj_Ends 11 (6, L, .int r :: st, M') o) : pj_Ends 11 (3, L, .int x2 :: .int x1 :: .int x0 :: st, (N, S, H)) o := ec_s3 q11_3 (Or.inl rfl) h4 rfl h1 h2
theorem q11_6 : pj_row 11 6 = some (.ifCond .ne 6, 3, 12, 0, 0) := by decide +kernel
theorem s11_6 {L : pj_Loc} {st : List Value} {M : pj_Mem} {x : Int32} : pj_step 11 (6, L, .int x :: st, M) = some (if ¬ x = 0 then 12 else 9, L, st, M) := st_if_ne q11_6
theorem q11_9 : pj_row 11 9 = some (.bipush (-2), 2, 0, 0, 0) := by decide +kernel
theorem s11_9 {L : pj_Loc} {st : List Value} {M : pj_Mem}  : pj_step 11 (9, L, st, M) = some (11, L, .int (-2) :: st, M) := st_bipush q11_9 (by decide +kernel)
theorem q11_11 : pj_row 11 11 = some (.ireturn, 1, 0, 0, 0) := by decide +kernel
theorem t11_11 {L : pj_Loc} {M : pj_Mem} {v : Int32} : pj_Ends 11 (11, L, [.int v], M) (some (.int v), M) := pj_Ends.ret q11_11 (pj_rtn_i rt11)
theorem q11_12 : pj_row 11 12 = some (.aload_n 0, 1, 0, 0, 0) := by decide +kernel
theorem s11_12 {st : List Value} {M : pj_Mem} {l : pj_Loc} {x : Nat} : pj_step 11 (12, some (.ref x) :: l, st, M) = some (13, some (.ref x) :: l, .ref x :: st, M) := st_aload_n q11_12 rfl
theorem q11_13 : pj_row 11 13 = some (.getfield 10, 3, 5, 0, 0) := by decide +kernel
theorem s11_13 {L : pj_Loc} {st : List Value} {N S : Nat} {H : pj_Heap} {o : Nat} : pj_step 11 (13, L, .ref o :: st, (N, S, H)) = pj_pv 16 L st (N, S, H) (pj_fld (H o) 5 0) := st_getfield q11_13
theorem q11_16 : pj_row 11 16 = some (.getfield 65, 3, 4, 10, 0) := by decide +kernel
theorem s11_16 {L : pj_Loc} {st : List Value} {N S : Nat} {H : pj_Heap} {o : Nat} : pj_step 11 (16, L, .ref o :: st, (N, S, H)) = pj_pv 19 L st (N, S, H) (pj_fld (H o) 4 10) := st_getfield q11_16
theorem q11_19 : pj_row 11 19 = some (.ldc 69, 2, 0, 0, 100000) := by decide +kernel
theorem s11_19 {L : pj_Loc} {st : List Value} {M : pj_Mem}  : pj_step 11 (19, L, st, M) = some (21, L, .int 100000 :: st, M) := st_ldc q11_19 (by decide +kernel)
theorem q11_21 : pj_row 11 21 = some (.if_icmp .lt 6, 3, 27, 0, 0) := by decide +kernel
theorem s11_21 {L : pj_Loc} {st : List Value} {M : pj_Mem} {x y : Int32} : pj_step 11 (21, L, .int y :: .int x :: st, M) = some (if x < y then 27 else 24, L, st, M) := st_icmp_lt q11_21
theorem q11_24 : pj_row 11 24 = some (.bipush (-4), 2, 0, 0, 0) := by decide +kernel
theorem s11_24 {L : pj_Loc} {st : List Value} {M : pj_Mem}  : pj_step 11 (24, L, st, M) = some (26, L, .int (-4) :: st, M) := st_bipush q11_24 (by decide +kernel)
theorem q11_26 : pj_row 11 26 = some (.ireturn, 1, 0, 0, 0) := by decide +kernel
theorem t11_26 {L : pj_Loc} {M : pj_Mem} {v : Int32} : pj_Ends 11 (26, L, [.int v], M) (some (.int v), M) := pj_Ends.ret q11_26 (pj_rtn_i rt11)
theorem q11_27 : pj_row 11 27 = some (.aload_n 0, 1, 0, 0, 0) := by decide +kernel
theorem s11_27 {st : List Value} {M : pj_Mem} {l : pj_Loc} {x : Nat} : pj_step 11 (27, some (.ref x) :: l, st, M) = some (28, some (.ref x) :: l, .ref x :: st, M) := st_aload_n q11_27 rfl
theorem q11_28 : pj_row 11 28 = some (.invokevirtual 55, 3, 8, 1, 0) := by decide +kernel
theorem e11_28 {L : pj_Loc} {st : List Value} {N S : Nat} {H : pj_Heap} {o : Option Value × pj_Mem} {M' : pj_Mem} {x0 : Nat} (h4 : pj_le4 st = true) (hu : pj_isU 5 (H x0) = true) (h1 : pj_Ends 8 (0, [some (.ref x0), none, none], [], (N, S, H)) (none, M')) (h2 : pj_Ends 11 (31, L, st, M') o) : pj_Ends 11 (28, L, .ref x0 :: st, (N, S, H)) o := ec_v1 q11_28 (Or.inl rfl) h4 hu rfl h1 h2
theorem q11_31 : pj_row 11 31 = some (.aload_n 0, 1, 0, 0, 0) := by decide +kernel
theorem s11_31 {st : List Value} {M : pj_Mem} {l : pj_Loc} {x : Nat} : pj_step 11 (31, some (.ref x) :: l, st, M) = some (32, some (.ref x) :: l, .ref x :: st, M) := st_aload_n q11_31 rfl
theorem q11_32 : pj_row 11 32 = some (.aload_n 0, 1, 0, 0, 0) := by decide +kernel
theorem s11_32 {st : List Value} {M : pj_Mem} {l : pj_Loc} {x : Nat} : pj_step 11 (32, some (.ref x) :: l, st, M) = some (33, some (.ref x) :: l, .ref x :: st, M) := st_aload_n q11_32 rfl
theorem q11_33 : pj_row 11 33 = some (.getfield 10, 3, 5, 0, 0) := by decide +kernel
theorem s11_33 {L : pj_Loc} {st : List Value} {N S : Nat} {H : pj_Heap} {o : Nat} : pj_step 11 (33, L, .ref o :: st, (N, S, H)) = pj_pv 36 L st (N, S, H) (pj_fld (H o) 5 0) := st_getfield q11_33
theorem q11_36 : pj_row 11 36 = some (.iload_n 1, 1, 0, 0, 0) := by decide +kernel
theorem s11_36 {st : List Value} {M : pj_Mem} {l : pj_Loc} {a0 : Option Value} {x : Int32} : pj_step 11 (36, a0 :: some (.int x) :: l, st, M) = some (37, a0 :: some (.int x) :: l, .int x :: st, M) := st_iload_n q11_36 rfl
theorem q11_37 : pj_row 11 37 = some (.iload_n 2, 1, 0, 0, 0) := by decide +kernel
theorem s11_37 {st : List Value} {M : pj_Mem} {l : pj_Loc} {a0 a1 : Option Value} {x : Int32} : pj_step 11 (37, a0 :: a1 :: some (.int x) :: l, st, M) = some (38, a0 :: a1 :: some (.int x) :: l, .int x :: st, M) := st_iload_n q11_37 rfl
theorem q11_38 : pj_row 11 38 = some (.iload_n 3, 1, 0, 0, 0) := by decide +kernel
theorem s11_38 {st : List Value} {M : pj_Mem} {l : pj_Loc} {a0 a1 a2 : Option Value} {x : Int32} : pj_step 11 (38, a0 :: a1 :: a2 :: some (.int x) :: l, st, M) = some (39, a0 :: a1 :: a2 :: some (.int x) :: l, .int x :: st, M) := st_iload_n q11_38 rfl
theorem q11_39 : pj_row 11 39 = some (.iload 4, 2, 0, 0, 0) := by decide +kernel
theorem s11_39 {st : List Value} {M : pj_Mem} {l : pj_Loc} {a0 a1 a2 a3 : Option Value} {x : Int32} : pj_step 11 (39, a0 :: a1 :: a2 :: a3 :: some (.int x) :: l, st, M) = some (41, a0 :: a1 :: a2 :: a3 :: some (.int x) :: l, .int x :: st, M) := st_iload q11_39 rfl
theorem q11_41 : pj_row 11 41 = some (.invokevirtual 70, 3, 14, 6, 0) := by decide +kernel
theorem e11_41 {L : pj_Loc} {st : List Value} {N S : Nat} {H : pj_Heap} {o : Option Value × pj_Mem} {M' : pj_Mem} {x0 : Nat} {x1 : Nat} {x2 : Int32} {x3 : Int32} {x4 : Int32} {x5 : Int32} {r : Int32} (h4 : pj_le4 st = true) (hu : pj_isU 5 (H x0) = true) (h1 : pj_Ends 14 (0, [some (.ref x0), some (.ref x1), some (.int x2), some (.int x3), some (.int x4), some (.int x5)], [], (N, S, H)) (some (.int r), M')) (h2 : pj_Ends 11 (44, L, .int r :: st, M') o) : pj_Ends 11 (41, L, .int x5 :: .int x4 :: .int x3 :: .int x2 :: .ref x1 :: .ref x0 :: st, (N, S, H)) o := ec_v6 q11_41 (Or.inl rfl) h4 hu rfl h1 h2
theorem q11_44 : pj_row 11 44 = some (.ireturn, 1, 0, 0, 0) := by decide +kernel
theorem t11_44 {L : pj_Loc} {M : pj_Mem} {v : Int32} : pj_Ends 11 (44, L, [.int v], M) (some (.int v), M) := pj_Ends.ret q11_44 (pj_rtn_i rt11)
theorem rt12 : pj_rt 12 = some .boolean := rfl
theorem q12_0 : pj_row 12 0 = some (.iload_n 0, 1, 0, 0, 0) := by decide +kernel
theorem s12_0 {st : List Value} {M : pj_Mem} {l : pj_Loc} {x : Int32} : pj_step 12 (0, some (.int x) :: l, st, M) = some (1, some (.int x) :: l, .int x :: st, M) := st_iload_n q12_0 rfl
theorem q12_1 : pj_row 12 1 = some (.invokestatic 169, 3, 13, 1, 0) := by decide +kernel
theorem e12_1 {L : pj_Loc} {st : List Value} {N S : Nat} {H : pj_Heap} {o : Option Value × pj_Mem} {M' : pj_Mem} {x0 : Int32} {r : Int32} (h4 : pj_le4 st = true) (h1 : pj_Ends 13 (0, [some (.int x0)], [], (N, S, H)) (some (.int r), M')) (h2 : pj_Ends 12 (4, L, .int r :: st, M') o) : pj_Ends 12 (1, L, .int x0 :: st, (N, S, H)) o := ec_s1 q12_1 (Or.inl rfl) h4 rfl h1 h2
theorem q12_4 : pj_row 12 4 = some (.ifCond .eq 21, 3, 25, 0, 0) := by decide +kernel
theorem s12_4 {L : pj_Loc} {st : List Value} {M : pj_Mem} {x : Int32} : pj_step 12 (4, L, .int x :: st, M) = some (if x = 0 then 25 else 7, L, st, M) := st_if_eq q12_4
theorem q12_7 : pj_row 12 7 = some (.iload_n 1, 1, 0, 0, 0) := by decide +kernel
theorem s12_7 {st : List Value} {M : pj_Mem} {l : pj_Loc} {a0 : Option Value} {x : Int32} : pj_step 12 (7, a0 :: some (.int x) :: l, st, M) = some (8, a0 :: some (.int x) :: l, .int x :: st, M) := st_iload_n q12_7 rfl
theorem q12_8 : pj_row 12 8 = some (.invokestatic 169, 3, 13, 1, 0) := by decide +kernel
theorem e12_8 {L : pj_Loc} {st : List Value} {N S : Nat} {H : pj_Heap} {o : Option Value × pj_Mem} {M' : pj_Mem} {x0 : Int32} {r : Int32} (h4 : pj_le4 st = true) (h1 : pj_Ends 13 (0, [some (.int x0)], [], (N, S, H)) (some (.int r), M')) (h2 : pj_Ends 12 (11, L, .int r :: st, M') o) : pj_Ends 12 (8, L, .int x0 :: st, (N, S, H)) o := ec_s1 q12_8 (Or.inl rfl) h4 rfl h1 h2
theorem q12_11 : pj_row 12 11 = some (.ifCond .eq 14, 3, 25, 0, 0) := by decide +kernel
theorem s12_11 {L : pj_Loc} {st : List Value} {M : pj_Mem} {x : Int32} : pj_step 12 (11, L, .int x :: st, M) = some (if x = 0 then 25 else 14, L, st, M) := st_if_eq q12_11
theorem q12_14 : pj_row 12 14 = some (.iload_n 2, 1, 0, 0, 0) := by decide +kernel
theorem s12_14 {st : List Value} {M : pj_Mem} {l : pj_Loc} {a0 a1 : Option Value} {x : Int32} : pj_step 12 (14, a0 :: a1 :: some (.int x) :: l, st, M) = some (15, a0 :: a1 :: some (.int x) :: l, .int x :: st, M) := st_iload_n q12_14 rfl
theorem q12_15 : pj_row 12 15 = some (.invokestatic 169, 3, 13, 1, 0) := by decide +kernel
theorem e12_15 {L : pj_Loc} {st : List Value} {N S : Nat} {H : pj_Heap} {o : Option Value × pj_Mem} {M' : pj_Mem} {x0 : Int32} {r : Int32} (h4 : pj_le4 st = true) (h1 : pj_Ends 13 (0, [some (.int x0)], [], (N, S, H)) (some (.int r), M')) (h2 : pj_Ends 12 (18, L, .int r :: st, M') o) : pj_Ends 12 (15, L, .int x0 :: st, (N, S, H)) o := ec_s1 q12_15 (Or.inl rfl) h4 rfl h1 h2
theorem q12_18 : pj_row 12 18 = some (.ifCond .eq 7, 3, 25, 0, 0) := by decide +kernel
theorem s12_18 {L : pj_Loc} {st : List Value} {M : pj_Mem} {x : Int32} : pj_step 12 (18, L, .int x :: st, M) = some (if x = 0 then 25 else 21, L, st, M) := st_if_eq q12_18
theorem q12_21 : pj_row 12 21 = some (.iconst 1, 1, 0, 0, 0) := by decide +kernel
theorem s12_21 {L : pj_Loc} {st : List Value} {M : pj_Mem}  : pj_step 12 (21, L, st, M) = some (22, L, .int 1 :: st, M) := st_iconst q12_21 (by decide +kernel)
theorem q12_22 : pj_row 12 22 = some (.goto 4, 3, 26, 0, 0) := by decide +kernel
theorem s12_22 {L : pj_Loc} {st : List Value} {M : pj_Mem}  : pj_step 12 (22, L, st, M) = some (26, L, st, M) := st_goto q12_22
theorem q12_25 : pj_row 12 25 = some (.iconst 0, 1, 0, 0, 0) := by decide +kernel
theorem s12_25 {L : pj_Loc} {st : List Value} {M : pj_Mem}  : pj_step 12 (25, L, st, M) = some (26, L, .int 0 :: st, M) := st_iconst q12_25 (by decide +kernel)
theorem q12_26 : pj_row 12 26 = some (.ireturn, 1, 0, 0, 0) := by decide +kernel
theorem t12_26 {L : pj_Loc} {M : pj_Mem} {v : Int32} (hv : v = 0 ∨ v = 1) : pj_Ends 12 (26, L, [.int v], M) (some (.int v), M) := pj_Ends.ret q12_26 (pj_rtn_z rt12 hv)
theorem rt13 : pj_rt 13 = some .boolean := rfl
theorem q13_0 : pj_row 13 0 = some (.iload_n 0, 1, 0, 0, 0) := by decide +kernel
theorem s13_0 {st : List Value} {M : pj_Mem} {l : pj_Loc} {x : Int32} : pj_step 13 (0, some (.int x) :: l, st, M) = some (1, some (.int x) :: l, .int x :: st, M) := st_iload_n q13_0 rfl
theorem q13_1 : pj_row 13 1 = some (.sipush (-500), 3, 0, 0, 0) := by decide +kernel
theorem s13_1 {L : pj_Loc} {st : List Value} {M : pj_Mem}  : pj_step 13 (1, L, st, M) = some (4, L, .int (-500) :: st, M) := st_sipush q13_1 (by decide +kernel)
theorem q13_4 : pj_row 13 4 = some (.if_icmp .lt 14, 3, 18, 0, 0) := by decide +kernel
theorem s13_4 {L : pj_Loc} {st : List Value} {M : pj_Mem} {x y : Int32} : pj_step 13 (4, L, .int y :: .int x :: st, M) = some (if x < y then 18 else 7, L, st, M) := st_icmp_lt q13_4
theorem q13_7 : pj_row 13 7 = some (.iload_n 0, 1, 0, 0, 0) := by decide +kernel
theorem s13_7 {st : List Value} {M : pj_Mem} {l : pj_Loc} {x : Int32} : pj_step 13 (7, some (.int x) :: l, st, M) = some (8, some (.int x) :: l, .int x :: st, M) := st_iload_n q13_7 rfl
theorem q13_8 : pj_row 13 8 = some (.sipush 500, 3, 0, 0, 0) := by decide +kernel
theorem s13_8 {L : pj_Loc} {st : List Value} {M : pj_Mem}  : pj_step 13 (8, L, st, M) = some (11, L, .int 500 :: st, M) := st_sipush q13_8 (by decide +kernel)
theorem q13_11 : pj_row 13 11 = some (.if_icmp .gt 7, 3, 18, 0, 0) := by decide +kernel
theorem s13_11 {L : pj_Loc} {st : List Value} {M : pj_Mem} {x y : Int32} : pj_step 13 (11, L, .int y :: .int x :: st, M) = some (if y < x then 18 else 14, L, st, M) := st_icmp_gt q13_11
theorem q13_14 : pj_row 13 14 = some (.iconst 1, 1, 0, 0, 0) := by decide +kernel
theorem s13_14 {L : pj_Loc} {st : List Value} {M : pj_Mem}  : pj_step 13 (14, L, st, M) = some (15, L, .int 1 :: st, M) := st_iconst q13_14 (by decide +kernel)
theorem q13_15 : pj_row 13 15 = some (.goto 4, 3, 19, 0, 0) := by decide +kernel
theorem s13_15 {L : pj_Loc} {st : List Value} {M : pj_Mem}  : pj_step 13 (15, L, st, M) = some (19, L, st, M) := st_goto q13_15
theorem q13_18 : pj_row 13 18 = some (.iconst 0, 1, 0, 0, 0) := by decide +kernel
theorem s13_18 {L : pj_Loc} {st : List Value} {M : pj_Mem}  : pj_step 13 (18, L, st, M) = some (19, L, .int 0 :: st, M) := st_iconst q13_18 (by decide +kernel)
theorem q13_19 : pj_row 13 19 = some (.ireturn, 1, 0, 0, 0) := by decide +kernel
theorem t13_19 {L : pj_Loc} {M : pj_Mem} {v : Int32} (hv : v = 0 ∨ v = 1) : pj_Ends 13 (19, L, [.int v], M) (some (.int v), M) := pj_Ends.ret q13_19 (pj_rtn_z rt13 hv)
theorem rt14 : pj_rt 14 = some .int := rfl
theorem q14_0 : pj_row 14 0 = some (.aload_n 0, 1, 0, 0, 0) := by decide +kernel
theorem s14_0 {st : List Value} {M : pj_Mem} {l : pj_Loc} {x : Nat} : pj_step 14 (0, some (.ref x) :: l, st, M) = some (1, some (.ref x) :: l, .ref x :: st, M) := st_aload_n q14_0 rfl
theorem q14_1 : pj_row 14 1 = some (.getfield 22, 3, 5, 2, 0) := by decide +kernel
theorem s14_1 {L : pj_Loc} {st : List Value} {N S : Nat} {H : pj_Heap} {o : Nat} : pj_step 14 (1, L, .ref o :: st, (N, S, H)) = pj_pv 4 L st (N, S, H) (pj_fld (H o) 5 2) := st_getfield q14_1
theorem q14_4 : pj_row 14 4 = some (.aload_n 1, 1, 0, 0, 0) := by decide +kernel
theorem s14_4 {st : List Value} {M : pj_Mem} {l : pj_Loc} {a0 : Option Value} {x : Nat} : pj_step 14 (4, a0 :: some (.ref x) :: l, st, M) = some (5, a0 :: some (.ref x) :: l, .ref x :: st, M) := st_aload_n q14_4 rfl
theorem q14_5 : pj_row 14 5 = some (.iload_n 2, 1, 0, 0, 0) := by decide +kernel
theorem s14_5 {st : List Value} {M : pj_Mem} {l : pj_Loc} {a0 a1 : Option Value} {x : Int32} : pj_step 14 (5, a0 :: a1 :: some (.int x) :: l, st, M) = some (6, a0 :: a1 :: some (.int x) :: l, .int x :: st, M) := st_iload_n q14_5 rfl
theorem q14_6 : pj_row 14 6 = some (.iload_n 3, 1, 0, 0, 0) := by decide +kernel
theorem s14_6 {st : List Value} {M : pj_Mem} {l : pj_Loc} {a0 a1 a2 : Option Value} {x : Int32} : pj_step 14 (6, a0 :: a1 :: a2 :: some (.int x) :: l, st, M) = some (7, a0 :: a1 :: a2 :: some (.int x) :: l, .int x :: st, M) := st_iload_n q14_6 rfl
theorem q14_7 : pj_row 14 7 = some (.iload 4, 2, 0, 0, 0) := by decide +kernel
theorem s14_7 {st : List Value} {M : pj_Mem} {l : pj_Loc} {a0 a1 a2 a3 : Option Value} {x : Int32} : pj_step 14 (7, a0 :: a1 :: a2 :: a3 :: some (.int x) :: l, st, M) = some (9, a0 :: a1 :: a2 :: a3 :: some (.int x) :: l, .int x :: st, M) := st_iload q14_7 rfl
theorem q14_9 : pj_row 14 9 = some (.iload 5, 2, 0, 0, 0) := by decide +kernel
theorem s14_9 {st : List Value} {M : pj_Mem} {l : pj_Loc} {a0 a1 a2 a3 a4 : Option Value} {x : Int32} : pj_step 14 (9, a0 :: a1 :: a2 :: a3 :: a4 :: some (.int x) :: l, st, M) = some (11, a0 :: a1 :: a2 :: a3 :: a4 :: some (.int x) :: l, .int x :: st, M) := st_iload q14_9 rfl
theorem q14_11 : pj_row 14 11 = some (.invokevirtual 151, 3, 15, 6, 0) := by decide +kernel
theorem e14_11 {L : pj_Loc} {st : List Value} {N S : Nat} {H : pj_Heap} {o : Option Value × pj_Mem} {M' : pj_Mem} {x0 : Nat} {x1 : Nat} {x2 : Int32} {x3 : Int32} {x4 : Int32} {x5 : Int32} (h4 : pj_le4 st = true) (hu : pj_isU 3 (H x0) = true) (h1 : pj_Ends 15 (0, [some (.ref x0), some (.ref x1), some (.int x2), some (.int x3), some (.int x4), some (.int x5)], [], (N, S, H)) (none, M')) (h2 : pj_Ends 14 (14, L, st, M') o) : pj_Ends 14 (11, L, .int x5 :: .int x4 :: .int x3 :: .int x2 :: .ref x1 :: .ref x0 :: st, (N, S, H)) o := ec_v6 q14_11 (Or.inl rfl) h4 hu rfl h1 h2
theorem q14_14 : pj_row 14 14 = some (.aload_n 1, 1, 0, 0, 0) := by decide +kernel
theorem s14_14 {st : List Value} {M : pj_Mem} {l : pj_Loc} {a0 : Option Value} {x : Nat} : pj_step 14 (14, a0 :: some (.ref x) :: l, st, M) = some (15, a0 :: some (.ref x) :: l, .ref x :: st, M) := st_aload_n q14_14 rfl
theorem q14_15 : pj_row 14 15 = some (.aload_n 0, 1, 0, 0, 0) := by decide +kernel
theorem s14_15 {st : List Value} {M : pj_Mem} {l : pj_Loc} {x : Nat} : pj_step 14 (15, some (.ref x) :: l, st, M) = some (16, some (.ref x) :: l, .ref x :: st, M) := st_aload_n q14_15 rfl
theorem q14_16 : pj_row 14 16 = some (.getfield 22, 3, 5, 2, 0) := by decide +kernel
theorem s14_16 {L : pj_Loc} {st : List Value} {N S : Nat} {H : pj_Heap} {o : Nat} : pj_step 14 (16, L, .ref o :: st, (N, S, H)) = pj_pv 19 L st (N, S, H) (pj_fld (H o) 5 2) := st_getfield q14_16
theorem q14_19 : pj_row 14 19 = some (.invokevirtual 203, 3, 32, 2, 0) := by decide +kernel
theorem e14_19 {L : pj_Loc} {st : List Value} {N S : Nat} {H : pj_Heap} {o : Option Value × pj_Mem} {M' : pj_Mem} {x0 : Nat} {x1 : Nat} (h4 : pj_le4 st = true) (hu : pj_isU 4 (H x0) = true) (h1 : pj_Ends 32 (0, [some (.ref x0), some (.ref x1)], [], (N, S, H)) (none, M')) (h2 : pj_Ends 14 (22, L, st, M') o) : pj_Ends 14 (19, L, .ref x1 :: .ref x0 :: st, (N, S, H)) o := ec_v2 q14_19 (Or.inl rfl) h4 hu rfl h1 h2
theorem q14_22 : pj_row 14 22 = some (.aload_n 0, 1, 0, 0, 0) := by decide +kernel
theorem s14_22 {st : List Value} {M : pj_Mem} {l : pj_Loc} {x : Nat} : pj_step 14 (22, some (.ref x) :: l, st, M) = some (23, some (.ref x) :: l, .ref x :: st, M) := st_aload_n q14_22 rfl
theorem q14_23 : pj_row 14 23 = some (.getfield 22, 3, 5, 2, 0) := by decide +kernel
theorem s14_23 {L : pj_Loc} {st : List Value} {N S : Nat} {H : pj_Heap} {o : Nat} : pj_step 14 (23, L, .ref o :: st, (N, S, H)) = pj_pv 26 L st (N, S, H) (pj_fld (H o) 5 2) := st_getfield q14_23
theorem q14_26 : pj_row 14 26 = some (.getfield 155, 3, 3, 13, 0) := by decide +kernel
theorem s14_26 {L : pj_Loc} {st : List Value} {N S : Nat} {H : pj_Heap} {o : Nat} : pj_step 14 (26, L, .ref o :: st, (N, S, H)) = pj_pv 29 L st (N, S, H) (pj_fld (H o) 3 13) := st_getfield q14_26
theorem q14_29 : pj_row 14 29 = some (.ireturn, 1, 0, 0, 0) := by decide +kernel
theorem t14_29 {L : pj_Loc} {M : pj_Mem} {v : Int32} : pj_Ends 14 (29, L, [.int v], M) (some (.int v), M) := pj_Ends.ret q14_29 (pj_rtn_i rt14)
theorem rt15 : pj_rt 15 = none := rfl
theorem q15_0 : pj_row 15 0 = some (.aload_n 0, 1, 0, 0, 0) := by decide +kernel
theorem s15_0 {st : List Value} {M : pj_Mem} {l : pj_Loc} {x : Nat} : pj_step 15 (0, some (.ref x) :: l, st, M) = some (1, some (.ref x) :: l, .ref x :: st, M) := st_aload_n q15_0 rfl
theorem q15_1 : pj_row 15 1 = some (.aload_n 1, 1, 0, 0, 0) := by decide +kernel
theorem s15_1 {st : List Value} {M : pj_Mem} {l : pj_Loc} {a0 : Option Value} {x : Nat} : pj_step 15 (1, a0 :: some (.ref x) :: l, st, M) = some (2, a0 :: some (.ref x) :: l, .ref x :: st, M) := st_aload_n q15_1 rfl
theorem q15_2 : pj_row 15 2 = some (.getfield 30, 3, 4, 10, 0) := by decide +kernel
theorem s15_2 {L : pj_Loc} {st : List Value} {N S : Nat} {H : pj_Heap} {o : Nat} : pj_step 15 (2, L, .ref o :: st, (N, S, H)) = pj_pv 5 L st (N, S, H) (pj_fld (H o) 4 10) := st_getfield q15_2
theorem q15_5 : pj_row 15 5 = some (.putfield 36, 3, 3, 7, 0) := by decide +kernel
theorem s15_5 {L : pj_Loc} {st : List Value} {N S : Nat} {H : pj_Heap} {o : Nat} {v : Value} : pj_step 15 (5, L, v :: .ref o :: st, (N, S, H)) = pj_set 8 L st (N, S, H) o (pj_fset (H o) 3 7 v) := st_putfield q15_5
theorem q15_8 : pj_row 15 8 = some (.aload_n 0, 1, 0, 0, 0) := by decide +kernel
theorem s15_8 {st : List Value} {M : pj_Mem} {l : pj_Loc} {x : Nat} : pj_step 15 (8, some (.ref x) :: l, st, M) = some (9, some (.ref x) :: l, .ref x :: st, M) := st_aload_n q15_8 rfl
theorem q15_9 : pj_row 15 9 = some (.getfield 9, 3, 3, 0, 0) := by decide +kernel
theorem s15_9 {L : pj_Loc} {st : List Value} {N S : Nat} {H : pj_Heap} {o : Nat} : pj_step 15 (9, L, .ref o :: st, (N, S, H)) = pj_pv 12 L st (N, S, H) (pj_fld (H o) 3 0) := st_getfield q15_9
theorem q15_12 : pj_row 15 12 = some (.iconst 0, 1, 0, 0, 0) := by decide +kernel
theorem s15_12 {L : pj_Loc} {st : List Value} {M : pj_Mem}  : pj_step 15 (12, L, st, M) = some (13, L, .int 0 :: st, M) := st_iconst q15_12 (by decide +kernel)
theorem q15_13 : pj_row 15 13 = some (.iload_n 2, 1, 0, 0, 0) := by decide +kernel
theorem s15_13 {st : List Value} {M : pj_Mem} {l : pj_Loc} {a0 a1 : Option Value} {x : Int32} : pj_step 15 (13, a0 :: a1 :: some (.int x) :: l, st, M) = some (14, a0 :: a1 :: some (.int x) :: l, .int x :: st, M) := st_iload_n q15_13 rfl
theorem q15_14 : pj_row 15 14 = some (.iastore, 1, 0, 0, 0) := by decide +kernel
theorem s15_14 {L : pj_Loc} {st : List Value} {N S : Nat} {H : pj_Heap} {o : Nat} {i x : Int32} : pj_step 15 (14, L, .int x :: .int i :: .ref o :: st, (N, S, H)) = pj_set 15 L st (N, S, H) o (pj_ars (H o) 0 i x) := st_iastore q15_14
theorem q15_15 : pj_row 15 15 = some (.aload_n 0, 1, 0, 0, 0) := by decide +kernel
theorem s15_15 {st : List Value} {M : pj_Mem} {l : pj_Loc} {x : Nat} : pj_step 15 (15, some (.ref x) :: l, st, M) = some (16, some (.ref x) :: l, .ref x :: st, M) := st_aload_n q15_15 rfl
theorem q15_16 : pj_row 15 16 = some (.getfield 9, 3, 3, 0, 0) := by decide +kernel
theorem s15_16 {L : pj_Loc} {st : List Value} {N S : Nat} {H : pj_Heap} {o : Nat} : pj_step 15 (16, L, .ref o :: st, (N, S, H)) = pj_pv 19 L st (N, S, H) (pj_fld (H o) 3 0) := st_getfield q15_16
theorem q15_19 : pj_row 15 19 = some (.iconst 1, 1, 0, 0, 0) := by decide +kernel
theorem s15_19 {L : pj_Loc} {st : List Value} {M : pj_Mem}  : pj_step 15 (19, L, st, M) = some (20, L, .int 1 :: st, M) := st_iconst q15_19 (by decide +kernel)
theorem q15_20 : pj_row 15 20 = some (.iload_n 3, 1, 0, 0, 0) := by decide +kernel
theorem s15_20 {st : List Value} {M : pj_Mem} {l : pj_Loc} {a0 a1 a2 : Option Value} {x : Int32} : pj_step 15 (20, a0 :: a1 :: a2 :: some (.int x) :: l, st, M) = some (21, a0 :: a1 :: a2 :: some (.int x) :: l, .int x :: st, M) := st_iload_n q15_20 rfl
theorem q15_21 : pj_row 15 21 = some (.iastore, 1, 0, 0, 0) := by decide +kernel
theorem s15_21 {L : pj_Loc} {st : List Value} {N S : Nat} {H : pj_Heap} {o : Nat} {i x : Int32} : pj_step 15 (21, L, .int x :: .int i :: .ref o :: st, (N, S, H)) = pj_set 22 L st (N, S, H) o (pj_ars (H o) 0 i x) := st_iastore q15_21
theorem q15_22 : pj_row 15 22 = some (.aload_n 0, 1, 0, 0, 0) := by decide +kernel
theorem s15_22 {st : List Value} {M : pj_Mem} {l : pj_Loc} {x : Nat} : pj_step 15 (22, some (.ref x) :: l, st, M) = some (23, some (.ref x) :: l, .ref x :: st, M) := st_aload_n q15_22 rfl
theorem q15_23 : pj_row 15 23 = some (.getfield 9, 3, 3, 0, 0) := by decide +kernel
theorem s15_23 {L : pj_Loc} {st : List Value} {N S : Nat} {H : pj_Heap} {o : Nat} : pj_step 15 (23, L, .ref o :: st, (N, S, H)) = pj_pv 26 L st (N, S, H) (pj_fld (H o) 3 0) := st_getfield q15_23
theorem q15_26 : pj_row 15 26 = some (.iconst 2, 1, 0, 0, 0) := by decide +kernel
theorem s15_26 {L : pj_Loc} {st : List Value} {M : pj_Mem}  : pj_step 15 (26, L, st, M) = some (27, L, .int 2 :: st, M) := st_iconst q15_26 (by decide +kernel)
theorem q15_27 : pj_row 15 27 = some (.iload 4, 2, 0, 0, 0) := by decide +kernel
theorem s15_27 {st : List Value} {M : pj_Mem} {l : pj_Loc} {a0 a1 a2 a3 : Option Value} {x : Int32} : pj_step 15 (27, a0 :: a1 :: a2 :: a3 :: some (.int x) :: l, st, M) = some (29, a0 :: a1 :: a2 :: a3 :: some (.int x) :: l, .int x :: st, M) := st_iload q15_27 rfl
theorem q15_29 : pj_row 15 29 = some (.iastore, 1, 0, 0, 0) := by decide +kernel
theorem s15_29 {L : pj_Loc} {st : List Value} {N S : Nat} {H : pj_Heap} {o : Nat} {i x : Int32} : pj_step 15 (29, L, .int x :: .int i :: .ref o :: st, (N, S, H)) = pj_set 30 L st (N, S, H) o (pj_ars (H o) 0 i x) := st_iastore q15_29
theorem q15_30 : pj_row 15 30 = some (.aload_n 0, 1, 0, 0, 0) := by decide +kernel
theorem s15_30 {st : List Value} {M : pj_Mem} {l : pj_Loc} {x : Nat} : pj_step 15 (30, some (.ref x) :: l, st, M) = some (31, some (.ref x) :: l, .ref x :: st, M) := st_aload_n q15_30 rfl
theorem q15_31 : pj_row 15 31 = some (.iload 5, 2, 0, 0, 0) := by decide +kernel
theorem s15_31 {st : List Value} {M : pj_Mem} {l : pj_Loc} {a0 a1 a2 a3 a4 : Option Value} {x : Int32} : pj_step 15 (31, a0 :: a1 :: a2 :: a3 :: a4 :: some (.int x) :: l, st, M) = some (33, a0 :: a1 :: a2 :: a3 :: a4 :: some (.int x) :: l, .int x :: st, M) := st_iload q15_31 rfl
theorem q15_33 : pj_row 15 33 = some (.putfield 39, 3, 3, 6, 0) := by decide +kernel
theorem s15_33 {L : pj_Loc} {st : List Value} {N S : Nat} {H : pj_Heap} {o : Nat} {v : Value} : pj_step 15 (33, L, v :: .ref o :: st, (N, S, H)) = pj_set 36 L st (N, S, H) o (pj_fset (H o) 3 6 v) := st_putfield q15_33
theorem q15_36 : pj_row 15 36 = some (.aload_n 0, 1, 0, 0, 0) := by decide +kernel
theorem s15_36 {st : List Value} {M : pj_Mem} {l : pj_Loc} {x : Nat} : pj_step 15 (36, some (.ref x) :: l, st, M) = some (37, some (.ref x) :: l, .ref x :: st, M) := st_aload_n q15_36 rfl
theorem q15_37 : pj_row 15 37 = some (.aload_n 1, 1, 0, 0, 0) := by decide +kernel
theorem s15_37 {st : List Value} {M : pj_Mem} {l : pj_Loc} {a0 : Option Value} {x : Nat} : pj_step 15 (37, a0 :: some (.ref x) :: l, st, M) = some (38, a0 :: some (.ref x) :: l, .ref x :: st, M) := st_aload_n q15_37 rfl
theorem q15_38 : pj_row 15 38 = some (.invokevirtual 43, 3, 16, 2, 0) := by decide +kernel
theorem e15_38 {L : pj_Loc} {st : List Value} {N S : Nat} {H : pj_Heap} {o : Option Value × pj_Mem} {M' : pj_Mem} {x0 : Nat} {x1 : Nat} (h4 : pj_le4 st = true) (hu : pj_isU 3 (H x0) = true) (h1 : pj_Ends 16 (0, [some (.ref x0), some (.ref x1), none], [], (N, S, H)) (none, M')) (h2 : pj_Ends 15 (41, L, st, M') o) : pj_Ends 15 (38, L, .ref x1 :: .ref x0 :: st, (N, S, H)) o := ec_v2 q15_38 (Or.inl rfl) h4 hu rfl h1 h2
theorem q15_41 : pj_row 15 41 = some (.aload_n 0, 1, 0, 0, 0) := by decide +kernel
theorem s15_41 {st : List Value} {M : pj_Mem} {l : pj_Loc} {x : Nat} : pj_step 15 (41, some (.ref x) :: l, st, M) = some (42, some (.ref x) :: l, .ref x :: st, M) := st_aload_n q15_41 rfl
theorem q15_42 : pj_row 15 42 = some (.aload_n 1, 1, 0, 0, 0) := by decide +kernel
theorem s15_42 {st : List Value} {M : pj_Mem} {l : pj_Loc} {a0 : Option Value} {x : Nat} : pj_step 15 (42, a0 :: some (.ref x) :: l, st, M) = some (43, a0 :: some (.ref x) :: l, .ref x :: st, M) := st_aload_n q15_42 rfl
theorem q15_43 : pj_row 15 43 = some (.invokevirtual 47, 3, 18, 2, 0) := by decide +kernel
theorem e15_43 {L : pj_Loc} {st : List Value} {N S : Nat} {H : pj_Heap} {o : Option Value × pj_Mem} {M' : pj_Mem} {x0 : Nat} {x1 : Nat} (h4 : pj_le4 st = true) (hu : pj_isU 3 (H x0) = true) (h1 : pj_Ends 18 (0, [some (.ref x0), some (.ref x1), none], [], (N, S, H)) (none, M')) (h2 : pj_Ends 15 (46, L, st, M') o) : pj_Ends 15 (43, L, .ref x1 :: .ref x0 :: st, (N, S, H)) o := ec_v2 q15_43 (Or.inl rfl) h4 hu rfl h1 h2
theorem q15_46 : pj_row 15 46 = some (.aload_n 0, 1, 0, 0, 0) := by decide +kernel
theorem s15_46 {st : List Value} {M : pj_Mem} {l : pj_Loc} {x : Nat} : pj_step 15 (46, some (.ref x) :: l, st, M) = some (47, some (.ref x) :: l, .ref x :: st, M) := st_aload_n q15_46 rfl
theorem q15_47 : pj_row 15 47 = some (.aload_n 1, 1, 0, 0, 0) := by decide +kernel
theorem s15_47 {st : List Value} {M : pj_Mem} {l : pj_Loc} {a0 : Option Value} {x : Nat} : pj_step 15 (47, a0 :: some (.ref x) :: l, st, M) = some (48, a0 :: some (.ref x) :: l, .ref x :: st, M) := st_aload_n q15_47 rfl
theorem q15_48 : pj_row 15 48 = some (.getfield 50, 3, 4, 0, 0) := by decide +kernel
theorem s15_48 {L : pj_Loc} {st : List Value} {N S : Nat} {H : pj_Heap} {o : Nat} : pj_step 15 (48, L, .ref o :: st, (N, S, H)) = pj_pv 51 L st (N, S, H) (pj_fld (H o) 4 0) := st_getfield q15_48
theorem q15_51 : pj_row 15 51 = some (.iconst 4, 1, 0, 0, 0) := by decide +kernel
theorem s15_51 {L : pj_Loc} {st : List Value} {M : pj_Mem}  : pj_step 15 (51, L, st, M) = some (52, L, .int 4 :: st, M) := st_iconst q15_51 (by decide +kernel)
theorem q15_52 : pj_row 15 52 = some (.iaload, 1, 0, 0, 0) := by decide +kernel
theorem s15_52 {L : pj_Loc} {st : List Value} {N S : Nat} {H : pj_Heap} {o : Nat} {i : Int32} : pj_step 15 (52, L, .int i :: .ref o :: st, (N, S, H)) = pj_pi 53 L st (N, S, H) (pj_arl (H o) 0 i) := st_iaload q15_52
theorem q15_53 : pj_row 15 53 = some (.invokevirtual 53, 3, 22, 2, 0) := by decide +kernel
theorem e15_53 {L : pj_Loc} {st : List Value} {N S : Nat} {H : pj_Heap} {o : Option Value × pj_Mem} {M' : pj_Mem} {x0 : Nat} {x1 : Int32} (h4 : pj_le4 st = true) (hu : pj_isU 3 (H x0) = true) (h1 : pj_Ends 22 (0, [some (.ref x0), some (.int x1), none], [], (N, S, H)) (none, M')) (h2 : pj_Ends 15 (56, L, st, M') o) : pj_Ends 15 (53, L, .int x1 :: .ref x0 :: st, (N, S, H)) o := ec_v2 q15_53 (Or.inl rfl) h4 hu rfl h1 h2
theorem q15_56 : pj_row 15 56 = some (.aload_n 0, 1, 0, 0, 0) := by decide +kernel
theorem s15_56 {st : List Value} {M : pj_Mem} {l : pj_Loc} {x : Nat} : pj_step 15 (56, some (.ref x) :: l, st, M) = some (57, some (.ref x) :: l, .ref x :: st, M) := st_aload_n q15_56 rfl
theorem q15_57 : pj_row 15 57 = some (.aload_n 1, 1, 0, 0, 0) := by decide +kernel
theorem s15_57 {st : List Value} {M : pj_Mem} {l : pj_Loc} {a0 : Option Value} {x : Nat} : pj_step 15 (57, a0 :: some (.ref x) :: l, st, M) = some (58, a0 :: some (.ref x) :: l, .ref x :: st, M) := st_aload_n q15_57 rfl
theorem q15_58 : pj_row 15 58 = some (.invokevirtual 57, 3, 23, 2, 0) := by decide +kernel
theorem e15_58 {L : pj_Loc} {st : List Value} {N S : Nat} {H : pj_Heap} {o : Option Value × pj_Mem} {M' : pj_Mem} {x0 : Nat} {x1 : Nat} (h4 : pj_le4 st = true) (hu : pj_isU 3 (H x0) = true) (h1 : pj_Ends 23 (0, [some (.ref x0), some (.ref x1), none, none, none], [], (N, S, H)) (none, M')) (h2 : pj_Ends 15 (61, L, st, M') o) : pj_Ends 15 (58, L, .ref x1 :: .ref x0 :: st, (N, S, H)) o := ec_v2 q15_58 (Or.inl rfl) h4 hu rfl h1 h2
theorem q15_61 : pj_row 15 61 = some (.aload_n 0, 1, 0, 0, 0) := by decide +kernel
theorem s15_61 {st : List Value} {M : pj_Mem} {l : pj_Loc} {x : Nat} : pj_step 15 (61, some (.ref x) :: l, st, M) = some (62, some (.ref x) :: l, .ref x :: st, M) := st_aload_n q15_61 rfl
theorem q15_62 : pj_row 15 62 = some (.aload_n 1, 1, 0, 0, 0) := by decide +kernel
theorem s15_62 {st : List Value} {M : pj_Mem} {l : pj_Loc} {a0 : Option Value} {x : Nat} : pj_step 15 (62, a0 :: some (.ref x) :: l, st, M) = some (63, a0 :: some (.ref x) :: l, .ref x :: st, M) := st_aload_n q15_62 rfl
theorem q15_63 : pj_row 15 63 = some (.invokevirtual 60, 3, 25, 2, 0) := by decide +kernel
theorem e15_63 {L : pj_Loc} {st : List Value} {N S : Nat} {H : pj_Heap} {o : Option Value × pj_Mem} {M' : pj_Mem} {x0 : Nat} {x1 : Nat} (h4 : pj_le4 st = true) (hu : pj_isU 3 (H x0) = true) (h1 : pj_Ends 25 (0, [some (.ref x0), some (.ref x1), none, none], [], (N, S, H)) (none, M')) (h2 : pj_Ends 15 (66, L, st, M') o) : pj_Ends 15 (63, L, .ref x1 :: .ref x0 :: st, (N, S, H)) o := ec_v2 q15_63 (Or.inl rfl) h4 hu rfl h1 h2
theorem q15_66 : pj_row 15 66 = some (.aload_n 0, 1, 0, 0, 0) := by decide +kernel
theorem s15_66 {st : List Value} {M : pj_Mem} {l : pj_Loc} {x : Nat} : pj_step 15 (66, some (.ref x) :: l, st, M) = some (67, some (.ref x) :: l, .ref x :: st, M) := st_aload_n q15_66 rfl
theorem q15_67 : pj_row 15 67 = some (.iload 5, 2, 0, 0, 0) := by decide +kernel
theorem s15_67 {st : List Value} {M : pj_Mem} {l : pj_Loc} {a0 a1 a2 a3 a4 : Option Value} {x : Int32} : pj_step 15 (67, a0 :: a1 :: a2 :: a3 :: a4 :: some (.int x) :: l, st, M) = some (69, a0 :: a1 :: a2 :: a3 :: a4 :: some (.int x) :: l, .int x :: st, M) := st_iload q15_67 rfl
theorem q15_69 : pj_row 15 69 = some (.ifCond .eq 12, 3, 81, 0, 0) := by decide +kernel
theorem s15_69 {L : pj_Loc} {st : List Value} {M : pj_Mem} {x : Int32} : pj_step 15 (69, L, .int x :: st, M) = some (if x = 0 then 81 else 72, L, st, M) := st_if_eq q15_69
theorem q15_72 : pj_row 15 72 = some (.aload_n 1, 1, 0, 0, 0) := by decide +kernel
theorem s15_72 {st : List Value} {M : pj_Mem} {l : pj_Loc} {a0 : Option Value} {x : Nat} : pj_step 15 (72, a0 :: some (.ref x) :: l, st, M) = some (73, a0 :: some (.ref x) :: l, .ref x :: st, M) := st_aload_n q15_72 rfl
theorem q15_73 : pj_row 15 73 = some (.getfield 50, 3, 4, 0, 0) := by decide +kernel
theorem s15_73 {L : pj_Loc} {st : List Value} {N S : Nat} {H : pj_Heap} {o : Nat} : pj_step 15 (73, L, .ref o :: st, (N, S, H)) = pj_pv 76 L st (N, S, H) (pj_fld (H o) 4 0) := st_getfield q15_73
theorem q15_76 : pj_row 15 76 = some (.iconst 2, 1, 0, 0, 0) := by decide +kernel
theorem s15_76 {L : pj_Loc} {st : List Value} {M : pj_Mem}  : pj_step 15 (76, L, st, M) = some (77, L, .int 2 :: st, M) := st_iconst q15_76 (by decide +kernel)
theorem q15_77 : pj_row 15 77 = some (.iaload, 1, 0, 0, 0) := by decide +kernel
theorem s15_77 {L : pj_Loc} {st : List Value} {N S : Nat} {H : pj_Heap} {o : Nat} {i : Int32} : pj_step 15 (77, L, .int i :: .ref o :: st, (N, S, H)) = pj_pi 78 L st (N, S, H) (pj_arl (H o) 0 i) := st_iaload q15_77
theorem q15_78 : pj_row 15 78 = some (.goto 13, 3, 91, 0, 0) := by decide +kernel
theorem s15_78 {L : pj_Loc} {st : List Value} {M : pj_Mem}  : pj_step 15 (78, L, st, M) = some (91, L, st, M) := st_goto q15_78
theorem q15_81 : pj_row 15 81 = some (.aload_n 1, 1, 0, 0, 0) := by decide +kernel
theorem s15_81 {st : List Value} {M : pj_Mem} {l : pj_Loc} {a0 : Option Value} {x : Nat} : pj_step 15 (81, a0 :: some (.ref x) :: l, st, M) = some (82, a0 :: some (.ref x) :: l, .ref x :: st, M) := st_aload_n q15_81 rfl
theorem q15_82 : pj_row 15 82 = some (.getfield 63, 3, 4, 9, 0) := by decide +kernel
theorem s15_82 {L : pj_Loc} {st : List Value} {N S : Nat} {H : pj_Heap} {o : Nat} : pj_step 15 (82, L, .ref o :: st, (N, S, H)) = pj_pv 85 L st (N, S, H) (pj_fld (H o) 4 9) := st_getfield q15_82
theorem q15_85 : pj_row 15 85 = some (.iconst 1, 1, 0, 0, 0) := by decide +kernel
theorem s15_85 {L : pj_Loc} {st : List Value} {M : pj_Mem}  : pj_step 15 (85, L, st, M) = some (86, L, .int 1 :: st, M) := st_iconst q15_85 (by decide +kernel)
theorem q15_86 : pj_row 15 86 = some (.isub, 1, 0, 0, 0) := by decide +kernel
theorem s15_86 {L : pj_Loc} {st : List Value} {M : pj_Mem} {x y : Int32} : pj_step 15 (86, L, .int y :: .int x :: st, M) = some (87, L, .int (x - y) :: st, M) := st_isub q15_86
theorem q15_87 : pj_row 15 87 = some (.iconst 0, 1, 0, 0, 0) := by decide +kernel
theorem s15_87 {L : pj_Loc} {st : List Value} {M : pj_Mem}  : pj_step 15 (87, L, st, M) = some (88, L, .int 0 :: st, M) := st_iconst q15_87 (by decide +kernel)
theorem q15_88 : pj_row 15 88 = some (.invokestatic 66, 3, 0, 2, 4) := by decide +kernel
theorem s15_88 {L : pj_Loc} {st : List Value} {M : pj_Mem} {x y : Int32} : pj_step 15 (88, L, .int y :: .int x :: st, M) = pj_g4 st (some (91, L, .int (if x < y then y else x) :: st, M)) := st_max q15_88
theorem q15_91 : pj_row 15 91 = some (.putfield 72, 3, 3, 10, 0) := by decide +kernel
theorem s15_91 {L : pj_Loc} {st : List Value} {N S : Nat} {H : pj_Heap} {o : Nat} {v : Value} : pj_step 15 (91, L, v :: .ref o :: st, (N, S, H)) = pj_set 94 L st (N, S, H) o (pj_fset (H o) 3 10 v) := st_putfield q15_91
theorem q15_94 : pj_row 15 94 = some (.aload_n 0, 1, 0, 0, 0) := by decide +kernel
theorem s15_94 {st : List Value} {M : pj_Mem} {l : pj_Loc} {x : Nat} : pj_step 15 (94, some (.ref x) :: l, st, M) = some (95, some (.ref x) :: l, .ref x :: st, M) := st_aload_n q15_94 rfl
theorem q15_95 : pj_row 15 95 = some (.aload_n 0, 1, 0, 0, 0) := by decide +kernel
theorem s15_95 {st : List Value} {M : pj_Mem} {l : pj_Loc} {x : Nat} : pj_step 15 (95, some (.ref x) :: l, st, M) = some (96, some (.ref x) :: l, .ref x :: st, M) := st_aload_n q15_95 rfl
theorem q15_96 : pj_row 15 96 = some (.aload_n 1, 1, 0, 0, 0) := by decide +kernel
theorem s15_96 {st : List Value} {M : pj_Mem} {l : pj_Loc} {a0 : Option Value} {x : Nat} : pj_step 15 (96, a0 :: some (.ref x) :: l, st, M) = some (97, a0 :: some (.ref x) :: l, .ref x :: st, M) := st_aload_n q15_96 rfl
theorem q15_97 : pj_row 15 97 = some (.getfield 50, 3, 4, 0, 0) := by decide +kernel
theorem s15_97 {L : pj_Loc} {st : List Value} {N S : Nat} {H : pj_Heap} {o : Nat} : pj_step 15 (97, L, .ref o :: st, (N, S, H)) = pj_pv 100 L st (N, S, H) (pj_fld (H o) 4 0) := st_getfield q15_97
theorem q15_100 : pj_row 15 100 = some (.iconst 0, 1, 0, 0, 0) := by decide +kernel
theorem s15_100 {L : pj_Loc} {st : List Value} {M : pj_Mem}  : pj_step 15 (100, L, st, M) = some (101, L, .int 0 :: st, M) := st_iconst q15_100 (by decide +kernel)
theorem q15_101 : pj_row 15 101 = some (.iaload, 1, 0, 0, 0) := by decide +kernel
theorem s15_101 {L : pj_Loc} {st : List Value} {N S : Nat} {H : pj_Heap} {o : Nat} {i : Int32} : pj_step 15 (101, L, .int i :: .ref o :: st, (N, S, H)) = pj_pi 102 L st (N, S, H) (pj_arl (H o) 0 i) := st_iaload q15_101
theorem q15_102 : pj_row 15 102 = some (.invokevirtual 73, 3, 26, 2, 0) := by decide +kernel
theorem e15_102 {L : pj_Loc} {st : List Value} {N S : Nat} {H : pj_Heap} {o : Option Value × pj_Mem} {M' : pj_Mem} {x0 : Nat} {x1 : Int32} {r : Int32} (h4 : pj_le4 st = true) (hu : pj_isU 3 (H x0) = true) (h1 : pj_Ends 26 (0, [some (.ref x0), some (.int x1), none, none], [], (N, S, H)) (some (.int r), M')) (h2 : pj_Ends 15 (105, L, .int r :: st, M') o) : pj_Ends 15 (102, L, .int x1 :: .ref x0 :: st, (N, S, H)) o := ec_v2 q15_102 (Or.inl rfl) h4 hu rfl h1 h2
theorem q15_105 : pj_row 15 105 = some (.putfield 77, 3, 3, 11, 0) := by decide +kernel
theorem s15_105 {L : pj_Loc} {st : List Value} {N S : Nat} {H : pj_Heap} {o : Nat} {v : Value} : pj_step 15 (105, L, v :: .ref o :: st, (N, S, H)) = pj_set 108 L st (N, S, H) o (pj_fset (H o) 3 11 v) := st_putfield q15_105
theorem q15_108 : pj_row 15 108 = some (.aload_n 0, 1, 0, 0, 0) := by decide +kernel
theorem s15_108 {st : List Value} {M : pj_Mem} {l : pj_Loc} {x : Nat} : pj_step 15 (108, some (.ref x) :: l, st, M) = some (109, some (.ref x) :: l, .ref x :: st, M) := st_aload_n q15_108 rfl
theorem q15_109 : pj_row 15 109 = some (.aload_n 0, 1, 0, 0, 0) := by decide +kernel
theorem s15_109 {st : List Value} {M : pj_Mem} {l : pj_Loc} {x : Nat} : pj_step 15 (109, some (.ref x) :: l, st, M) = some (110, some (.ref x) :: l, .ref x :: st, M) := st_aload_n q15_109 rfl
theorem q15_110 : pj_row 15 110 = some (.aload_n 1, 1, 0, 0, 0) := by decide +kernel
theorem s15_110 {st : List Value} {M : pj_Mem} {l : pj_Loc} {a0 : Option Value} {x : Nat} : pj_step 15 (110, a0 :: some (.ref x) :: l, st, M) = some (111, a0 :: some (.ref x) :: l, .ref x :: st, M) := st_aload_n q15_110 rfl
theorem q15_111 : pj_row 15 111 = some (.getfield 50, 3, 4, 0, 0) := by decide +kernel
theorem s15_111 {L : pj_Loc} {st : List Value} {N S : Nat} {H : pj_Heap} {o : Nat} : pj_step 15 (111, L, .ref o :: st, (N, S, H)) = pj_pv 114 L st (N, S, H) (pj_fld (H o) 4 0) := st_getfield q15_111
theorem q15_114 : pj_row 15 114 = some (.iconst 1, 1, 0, 0, 0) := by decide +kernel
theorem s15_114 {L : pj_Loc} {st : List Value} {M : pj_Mem}  : pj_step 15 (114, L, st, M) = some (115, L, .int 1 :: st, M) := st_iconst q15_114 (by decide +kernel)
theorem q15_115 : pj_row 15 115 = some (.iaload, 1, 0, 0, 0) := by decide +kernel
theorem s15_115 {L : pj_Loc} {st : List Value} {N S : Nat} {H : pj_Heap} {o : Nat} {i : Int32} : pj_step 15 (115, L, .int i :: .ref o :: st, (N, S, H)) = pj_pi 116 L st (N, S, H) (pj_arl (H o) 0 i) := st_iaload q15_115
theorem q15_116 : pj_row 15 116 = some (.invokevirtual 73, 3, 26, 2, 0) := by decide +kernel
theorem e15_116 {L : pj_Loc} {st : List Value} {N S : Nat} {H : pj_Heap} {o : Option Value × pj_Mem} {M' : pj_Mem} {x0 : Nat} {x1 : Int32} {r : Int32} (h4 : pj_le4 st = true) (hu : pj_isU 3 (H x0) = true) (h1 : pj_Ends 26 (0, [some (.ref x0), some (.int x1), none, none], [], (N, S, H)) (some (.int r), M')) (h2 : pj_Ends 15 (119, L, .int r :: st, M') o) : pj_Ends 15 (116, L, .int x1 :: .ref x0 :: st, (N, S, H)) o := ec_v2 q15_116 (Or.inl rfl) h4 hu rfl h1 h2
theorem q15_119 : pj_row 15 119 = some (.putfield 80, 3, 3, 12, 0) := by decide +kernel
theorem s15_119 {L : pj_Loc} {st : List Value} {N S : Nat} {H : pj_Heap} {o : Nat} {v : Value} : pj_step 15 (119, L, v :: .ref o :: st, (N, S, H)) = pj_set 122 L st (N, S, H) o (pj_fset (H o) 3 12 v) := st_putfield q15_119
theorem q15_122 : pj_row 15 122 = some (.aload_n 0, 1, 0, 0, 0) := by decide +kernel
theorem s15_122 {st : List Value} {M : pj_Mem} {l : pj_Loc} {x : Nat} : pj_step 15 (122, some (.ref x) :: l, st, M) = some (123, some (.ref x) :: l, .ref x :: st, M) := st_aload_n q15_122 rfl
theorem q15_123 : pj_row 15 123 = some (.aload_n 1, 1, 0, 0, 0) := by decide +kernel
theorem s15_123 {st : List Value} {M : pj_Mem} {l : pj_Loc} {a0 : Option Value} {x : Nat} : pj_step 15 (123, a0 :: some (.ref x) :: l, st, M) = some (124, a0 :: some (.ref x) :: l, .ref x :: st, M) := st_aload_n q15_123 rfl
theorem q15_124 : pj_row 15 124 = some (.invokevirtual 83, 3, 28, 2, 0) := by decide +kernel
theorem e15_124 {L : pj_Loc} {st : List Value} {N S : Nat} {H : pj_Heap} {o : Option Value × pj_Mem} {M' : pj_Mem} {x0 : Nat} {x1 : Nat} (h4 : pj_le4 st = true) (hu : pj_isU 3 (H x0) = true) (h1 : pj_Ends 28 (0, [some (.ref x0), some (.ref x1), none], [], (N, S, H)) (none, M')) (h2 : pj_Ends 15 (127, L, st, M') o) : pj_Ends 15 (124, L, .ref x1 :: .ref x0 :: st, (N, S, H)) o := ec_v2 q15_124 (Or.inl rfl) h4 hu rfl h1 h2
theorem q15_127 : pj_row 15 127 = some (.return_, 1, 0, 0, 0) := by decide +kernel
theorem t15_127 {L : pj_Loc} {M : pj_Mem} : pj_Ends 15 (127, L, [], M) (none, M) := pj_Ends.ret q15_127 (pj_rtn_v rt15)
theorem rt16 : pj_rt 16 = none := rfl
theorem q16_0 : pj_row 16 0 = some (.aload_n 0, 1, 0, 0, 0) := by decide +kernel
theorem s16_0 {st : List Value} {M : pj_Mem} {l : pj_Loc} {x : Nat} : pj_step 16 (0, some (.ref x) :: l, st, M) = some (1, some (.ref x) :: l, .ref x :: st, M) := st_aload_n q16_0 rfl
theorem q16_1 : pj_row 16 1 = some (.aload_n 1, 1, 0, 0, 0) := by decide +kernel
theorem s16_1 {st : List Value} {M : pj_Mem} {l : pj_Loc} {a0 : Option Value} {x : Nat} : pj_step 16 (1, a0 :: some (.ref x) :: l, st, M) = some (2, a0 :: some (.ref x) :: l, .ref x :: st, M) := st_aload_n q16_1 rfl
theorem q16_2 : pj_row 16 2 = some (.getfield 86, 3, 4, 7, 0) := by decide +kernel
theorem s16_2 {L : pj_Loc} {st : List Value} {N S : Nat} {H : pj_Heap} {o : Nat} : pj_step 16 (2, L, .ref o :: st, (N, S, H)) = pj_pv 5 L st (N, S, H) (pj_fld (H o) 4 7) := st_getfield q16_2
theorem q16_5 : pj_row 16 5 = some (.putfield 89, 3, 3, 8, 0) := by decide +kernel
theorem s16_5 {L : pj_Loc} {st : List Value} {N S : Nat} {H : pj_Heap} {o : Nat} {v : Value} : pj_step 16 (5, L, v :: .ref o :: st, (N, S, H)) = pj_set 8 L st (N, S, H) o (pj_fset (H o) 3 8 v) := st_putfield q16_5
theorem q16_8 : pj_row 16 8 = some (.iconst 0, 1, 0, 0, 0) := by decide +kernel
theorem s16_8 {L : pj_Loc} {st : List Value} {M : pj_Mem}  : pj_step 16 (8, L, st, M) = some (9, L, .int 0 :: st, M) := st_iconst q16_8 (by decide +kernel)
theorem q16_9 : pj_row 16 9 = some (.istore_n 2, 1, 0, 0, 0) := by decide +kernel
theorem s16_9 {st : List Value} {M : pj_Mem} {l : pj_Loc} {a0 a1 a2 : Option Value} {x : Int32} (h : pj_long a1 = false) : pj_step 16 (9, a0 :: a1 :: a2 :: l, .int x :: st, M) = some (10, a0 :: a1 :: some (.int x) :: l, st, M) := st_istore_n q16_9 (pj_st_2 h)
theorem q16_10 : pj_row 16 10 = some (.iload_n 2, 1, 0, 0, 0) := by decide +kernel
theorem s16_10 {st : List Value} {M : pj_Mem} {l : pj_Loc} {a0 a1 : Option Value} {x : Int32} : pj_step 16 (10, a0 :: a1 :: some (.int x) :: l, st, M) = some (11, a0 :: a1 :: some (.int x) :: l, .int x :: st, M) := st_iload_n q16_10 rfl
theorem q16_11 : pj_row 16 11 = some (.iconst 3, 1, 0, 0, 0) := by decide +kernel
theorem s16_11 {L : pj_Loc} {st : List Value} {M : pj_Mem}  : pj_step 16 (11, L, st, M) = some (12, L, .int 3 :: st, M) := st_iconst q16_11 (by decide +kernel)
theorem q16_12 : pj_row 16 12 = some (.if_icmp .ge 69, 3, 81, 0, 0) := by decide +kernel
theorem s16_12 {L : pj_Loc} {st : List Value} {M : pj_Mem} {x y : Int32} : pj_step 16 (12, L, .int y :: .int x :: st, M) = some (if y ≤ x then 81 else 15, L, st, M) := st_icmp_ge q16_12
theorem q16_15 : pj_row 16 15 = some (.aload_n 0, 1, 0, 0, 0) := by decide +kernel
theorem s16_15 {st : List Value} {M : pj_Mem} {l : pj_Loc} {x : Nat} : pj_step 16 (15, some (.ref x) :: l, st, M) = some (16, some (.ref x) :: l, .ref x :: st, M) := st_aload_n q16_15 rfl
theorem q16_16 : pj_row 16 16 = some (.getfield 24, 3, 3, 4, 0) := by decide +kernel
theorem s16_16 {L : pj_Loc} {st : List Value} {N S : Nat} {H : pj_Heap} {o : Nat} : pj_step 16 (16, L, .ref o :: st, (N, S, H)) = pj_pv 19 L st (N, S, H) (pj_fld (H o) 3 4) := st_getfield q16_16
theorem q16_19 : pj_row 16 19 = some (.iload_n 2, 1, 0, 0, 0) := by decide +kernel
theorem s16_19 {st : List Value} {M : pj_Mem} {l : pj_Loc} {a0 a1 : Option Value} {x : Int32} : pj_step 16 (19, a0 :: a1 :: some (.int x) :: l, st, M) = some (20, a0 :: a1 :: some (.int x) :: l, .int x :: st, M) := st_iload_n q16_19 rfl
theorem q16_20 : pj_row 16 20 = some (.aload_n 1, 1, 0, 0, 0) := by decide +kernel
theorem s16_20 {st : List Value} {M : pj_Mem} {l : pj_Loc} {a0 : Option Value} {x : Nat} : pj_step 16 (20, a0 :: some (.ref x) :: l, st, M) = some (21, a0 :: some (.ref x) :: l, .ref x :: st, M) := st_aload_n q16_20 rfl
theorem q16_21 : pj_row 16 21 = some (.getfield 90, 3, 4, 4, 0) := by decide +kernel
theorem s16_21 {L : pj_Loc} {st : List Value} {N S : Nat} {H : pj_Heap} {o : Nat} : pj_step 16 (21, L, .ref o :: st, (N, S, H)) = pj_pv 24 L st (N, S, H) (pj_fld (H o) 4 4) := st_getfield q16_21
theorem q16_24 : pj_row 16 24 = some (.iload_n 2, 1, 0, 0, 0) := by decide +kernel
theorem s16_24 {st : List Value} {M : pj_Mem} {l : pj_Loc} {a0 a1 : Option Value} {x : Int32} : pj_step 16 (24, a0 :: a1 :: some (.int x) :: l, st, M) = some (25, a0 :: a1 :: some (.int x) :: l, .int x :: st, M) := st_iload_n q16_24 rfl
theorem q16_25 : pj_row 16 25 = some (.iaload, 1, 0, 0, 0) := by decide +kernel
theorem s16_25 {L : pj_Loc} {st : List Value} {N S : Nat} {H : pj_Heap} {o : Nat} {i : Int32} : pj_step 16 (25, L, .int i :: .ref o :: st, (N, S, H)) = pj_pi 26 L st (N, S, H) (pj_arl (H o) 0 i) := st_iaload q16_25
theorem q16_26 : pj_row 16 26 = some (.aload_n 0, 1, 0, 0, 0) := by decide +kernel
theorem s16_26 {st : List Value} {M : pj_Mem} {l : pj_Loc} {x : Nat} : pj_step 16 (26, some (.ref x) :: l, st, M) = some (27, some (.ref x) :: l, .ref x :: st, M) := st_aload_n q16_26 rfl
theorem q16_27 : pj_row 16 27 = some (.getfield 9, 3, 3, 0, 0) := by decide +kernel
theorem s16_27 {L : pj_Loc} {st : List Value} {N S : Nat} {H : pj_Heap} {o : Nat} : pj_step 16 (27, L, .ref o :: st, (N, S, H)) = pj_pv 30 L st (N, S, H) (pj_fld (H o) 3 0) := st_getfield q16_27
theorem q16_30 : pj_row 16 30 = some (.iload_n 2, 1, 0, 0, 0) := by decide +kernel
theorem s16_30 {st : List Value} {M : pj_Mem} {l : pj_Loc} {a0 a1 : Option Value} {x : Int32} : pj_step 16 (30, a0 :: a1 :: some (.int x) :: l, st, M) = some (31, a0 :: a1 :: some (.int x) :: l, .int x :: st, M) := st_iload_n q16_30 rfl
theorem q16_31 : pj_row 16 31 = some (.iaload, 1, 0, 0, 0) := by decide +kernel
theorem s16_31 {L : pj_Loc} {st : List Value} {N S : Nat} {H : pj_Heap} {o : Nat} {i : Int32} : pj_step 16 (31, L, .int i :: .ref o :: st, (N, S, H)) = pj_pi 32 L st (N, S, H) (pj_arl (H o) 0 i) := st_iaload q16_31
theorem q16_32 : pj_row 16 32 = some (.if_icmp .ne 14, 3, 46, 0, 0) := by decide +kernel
theorem s16_32 {L : pj_Loc} {st : List Value} {M : pj_Mem} {x y : Int32} : pj_step 16 (32, L, .int y :: .int x :: st, M) = some (if ¬ x = y then 46 else 35, L, st, M) := st_icmp_ne q16_32
theorem q16_35 : pj_row 16 35 = some (.aload_n 1, 1, 0, 0, 0) := by decide +kernel
theorem s16_35 {st : List Value} {M : pj_Mem} {l : pj_Loc} {a0 : Option Value} {x : Nat} : pj_step 16 (35, a0 :: some (.ref x) :: l, st, M) = some (36, a0 :: some (.ref x) :: l, .ref x :: st, M) := st_aload_n q16_35 rfl
theorem q16_36 : pj_row 16 36 = some (.getfield 91, 3, 4, 3, 0) := by decide +kernel
theorem s16_36 {L : pj_Loc} {st : List Value} {N S : Nat} {H : pj_Heap} {o : Nat} : pj_step 16 (36, L, .ref o :: st, (N, S, H)) = pj_pv 39 L st (N, S, H) (pj_fld (H o) 4 3) := st_getfield q16_36
theorem q16_39 : pj_row 16 39 = some (.iload_n 2, 1, 0, 0, 0) := by decide +kernel
theorem s16_39 {st : List Value} {M : pj_Mem} {l : pj_Loc} {a0 a1 : Option Value} {x : Int32} : pj_step 16 (39, a0 :: a1 :: some (.int x) :: l, st, M) = some (40, a0 :: a1 :: some (.int x) :: l, .int x :: st, M) := st_iload_n q16_39 rfl
theorem q16_40 : pj_row 16 40 = some (.iaload, 1, 0, 0, 0) := by decide +kernel
theorem s16_40 {L : pj_Loc} {st : List Value} {N S : Nat} {H : pj_Heap} {o : Nat} {i : Int32} : pj_step 16 (40, L, .int i :: .ref o :: st, (N, S, H)) = pj_pi 41 L st (N, S, H) (pj_arl (H o) 0 i) := st_iaload q16_40
theorem q16_41 : pj_row 16 41 = some (.iconst 1, 1, 0, 0, 0) := by decide +kernel
theorem s16_41 {L : pj_Loc} {st : List Value} {M : pj_Mem}  : pj_step 16 (41, L, st, M) = some (42, L, .int 1 :: st, M) := st_iconst q16_41 (by decide +kernel)
theorem q16_42 : pj_row 16 42 = some (.iadd, 1, 0, 0, 0) := by decide +kernel
theorem s16_42 {L : pj_Loc} {st : List Value} {M : pj_Mem} {x y : Int32} : pj_step 16 (42, L, .int y :: .int x :: st, M) = some (43, L, .int (x + y) :: st, M) := st_iadd q16_42
theorem q16_43 : pj_row 16 43 = some (.goto 4, 3, 47, 0, 0) := by decide +kernel
theorem s16_43 {L : pj_Loc} {st : List Value} {M : pj_Mem}  : pj_step 16 (43, L, st, M) = some (47, L, st, M) := st_goto q16_43
theorem q16_46 : pj_row 16 46 = some (.iconst 1, 1, 0, 0, 0) := by decide +kernel
theorem s16_46 {L : pj_Loc} {st : List Value} {M : pj_Mem}  : pj_step 16 (46, L, st, M) = some (47, L, .int 1 :: st, M) := st_iconst q16_46 (by decide +kernel)
theorem q16_47 : pj_row 16 47 = some (.iastore, 1, 0, 0, 0) := by decide +kernel
theorem s16_47 {L : pj_Loc} {st : List Value} {N S : Nat} {H : pj_Heap} {o : Nat} {i x : Int32} : pj_step 16 (47, L, .int x :: .int i :: .ref o :: st, (N, S, H)) = pj_set 48 L st (N, S, H) o (pj_ars (H o) 0 i x) := st_iastore q16_47
theorem q16_48 : pj_row 16 48 = some (.aload_n 0, 1, 0, 0, 0) := by decide +kernel
theorem s16_48 {st : List Value} {M : pj_Mem} {l : pj_Loc} {x : Nat} : pj_step 16 (48, some (.ref x) :: l, st, M) = some (49, some (.ref x) :: l, .ref x :: st, M) := st_aload_n q16_48 rfl
theorem q16_49 : pj_row 16 49 = some (.getfield 24, 3, 3, 4, 0) := by decide +kernel
theorem s16_49 {L : pj_Loc} {st : List Value} {N S : Nat} {H : pj_Heap} {o : Nat} : pj_step 16 (49, L, .ref o :: st, (N, S, H)) = pj_pv 52 L st (N, S, H) (pj_fld (H o) 3 4) := st_getfield q16_49
theorem q16_52 : pj_row 16 52 = some (.iload_n 2, 1, 0, 0, 0) := by decide +kernel
theorem s16_52 {st : List Value} {M : pj_Mem} {l : pj_Loc} {a0 a1 : Option Value} {x : Int32} : pj_step 16 (52, a0 :: a1 :: some (.int x) :: l, st, M) = some (53, a0 :: a1 :: some (.int x) :: l, .int x :: st, M) := st_iload_n q16_52 rfl
theorem q16_53 : pj_row 16 53 = some (.iaload, 1, 0, 0, 0) := by decide +kernel
theorem s16_53 {L : pj_Loc} {st : List Value} {N S : Nat} {H : pj_Heap} {o : Nat} {i : Int32} : pj_step 16 (53, L, .int i :: .ref o :: st, (N, S, H)) = pj_pi 54 L st (N, S, H) (pj_arl (H o) 0 i) := st_iaload q16_53
theorem q16_54 : pj_row 16 54 = some (.aload_n 1, 1, 0, 0, 0) := by decide +kernel
theorem s16_54 {st : List Value} {M : pj_Mem} {l : pj_Loc} {a0 : Option Value} {x : Nat} : pj_step 16 (54, a0 :: some (.ref x) :: l, st, M) = some (55, a0 :: some (.ref x) :: l, .ref x :: st, M) := st_aload_n q16_54 rfl
theorem q16_55 : pj_row 16 55 = some (.getfield 50, 3, 4, 0, 0) := by decide +kernel
theorem s16_55 {L : pj_Loc} {st : List Value} {N S : Nat} {H : pj_Heap} {o : Nat} : pj_step 16 (55, L, .ref o :: st, (N, S, H)) = pj_pv 58 L st (N, S, H) (pj_fld (H o) 4 0) := st_getfield q16_55
theorem q16_58 : pj_row 16 58 = some (.iconst 3, 1, 0, 0, 0) := by decide +kernel
theorem s16_58 {L : pj_Loc} {st : List Value} {M : pj_Mem}  : pj_step 16 (58, L, st, M) = some (59, L, .int 3 :: st, M) := st_iconst q16_58 (by decide +kernel)
theorem q16_59 : pj_row 16 59 = some (.iaload, 1, 0, 0, 0) := by decide +kernel
theorem s16_59 {L : pj_Loc} {st : List Value} {N S : Nat} {H : pj_Heap} {o : Nat} {i : Int32} : pj_step 16 (59, L, .int i :: .ref o :: st, (N, S, H)) = pj_pi 60 L st (N, S, H) (pj_arl (H o) 0 i) := st_iaload q16_59
theorem q16_60 : pj_row 16 60 = some (.if_icmp .lt 15, 3, 75, 0, 0) := by decide +kernel
theorem s16_60 {L : pj_Loc} {st : List Value} {M : pj_Mem} {x y : Int32} : pj_step 16 (60, L, .int y :: .int x :: st, M) = some (if x < y then 75 else 63, L, st, M) := st_icmp_lt q16_60
theorem q16_63 : pj_row 16 63 = some (.aload_n 0, 1, 0, 0, 0) := by decide +kernel
theorem s16_63 {st : List Value} {M : pj_Mem} {l : pj_Loc} {x : Nat} : pj_step 16 (63, some (.ref x) :: l, st, M) = some (64, some (.ref x) :: l, .ref x :: st, M) := st_aload_n q16_63 rfl
theorem q16_64 : pj_row 16 64 = some (.aload_n 0, 1, 0, 0, 0) := by decide +kernel
theorem s16_64 {st : List Value} {M : pj_Mem} {l : pj_Loc} {x : Nat} : pj_step 16 (64, some (.ref x) :: l, st, M) = some (65, some (.ref x) :: l, .ref x :: st, M) := st_aload_n q16_64 rfl
theorem q16_65 : pj_row 16 65 = some (.getfield 89, 3, 3, 8, 0) := by decide +kernel
theorem s16_65 {L : pj_Loc} {st : List Value} {N S : Nat} {H : pj_Heap} {o : Nat} : pj_step 16 (65, L, .ref o :: st, (N, S, H)) = pj_pv 68 L st (N, S, H) (pj_fld (H o) 3 8) := st_getfield q16_65
theorem q16_68 : pj_row 16 68 = some (.iload_n 2, 1, 0, 0, 0) := by decide +kernel
theorem s16_68 {st : List Value} {M : pj_Mem} {l : pj_Loc} {a0 a1 : Option Value} {x : Int32} : pj_step 16 (68, a0 :: a1 :: some (.int x) :: l, st, M) = some (69, a0 :: a1 :: some (.int x) :: l, .int x :: st, M) := st_iload_n q16_68 rfl
theorem q16_69 : pj_row 16 69 = some (.invokestatic 92, 3, 17, 2, 1) := by decide +kernel
theorem e16_69 {L : pj_Loc} {st : List Value} {N S : Nat} {H : pj_Heap} {o : Option Value × pj_Mem} {M' : pj_Mem} {x0 : Int32} {x1 : Int32} {r : Int32} (h4 : pj_le4 st = true) (h1 : pj_Ends 17 (0, [some (.int x0), some (.int x1)], [], (N, S, H)) (some (.int r), M')) (h2 : pj_Ends 16 (72, L, .int r :: st, M') o) : pj_Ends 16 (69, L, .int x1 :: .int x0 :: st, (N, S, H)) o := ec_s2 q16_69 (Or.inr rfl) h4 rfl h1 h2
theorem q16_72 : pj_row 16 72 = some (.putfield 89, 3, 3, 8, 0) := by decide +kernel
theorem s16_72 {L : pj_Loc} {st : List Value} {N S : Nat} {H : pj_Heap} {o : Nat} {v : Value} : pj_step 16 (72, L, v :: .ref o :: st, (N, S, H)) = pj_set 75 L st (N, S, H) o (pj_fset (H o) 3 8 v) := st_putfield q16_72
theorem q16_75 : pj_row 16 75 = some (.iinc 2 1, 3, 0, 0, 0) := by decide +kernel
theorem s16_75 {st : List Value} {M : pj_Mem} {l : pj_Loc} {a0 a1 : Option Value} {x : Int32} (h : pj_long a1 = false) : pj_step 16 (75, a0 :: a1 :: some (.int x) :: l, st, M) = some (78, a0 :: a1 :: some (.int (x + 1)) :: l, st, M) := st_iinc q16_75 rfl (congrArg (fun y => x + y) (show Int32.ofInt 1 = 1 by decide +kernel)) (pj_st_2 h)
theorem q16_78 : pj_row 16 78 = some (.goto (-68), 3, 10, 0, 0) := by decide +kernel
theorem s16_78 {L : pj_Loc} {st : List Value} {M : pj_Mem}  : pj_step 16 (78, L, st, M) = some (10, L, st, M) := st_goto q16_78
theorem q16_81 : pj_row 16 81 = some (.return_, 1, 0, 0, 0) := by decide +kernel
theorem t16_81 {L : pj_Loc} {M : pj_Mem} : pj_Ends 16 (81, L, [], M) (none, M) := pj_Ends.ret q16_81 (pj_rtn_v rt16)
theorem rt17 : pj_rt 17 = some .int := rfl
theorem q17_0 : pj_row 17 0 = some (.iload_n 0, 1, 0, 0, 0) := by decide +kernel
theorem s17_0 {st : List Value} {M : pj_Mem} {l : pj_Loc} {x : Int32} : pj_step 17 (0, some (.int x) :: l, st, M) = some (1, some (.int x) :: l, .int x :: st, M) := st_iload_n q17_0 rfl
theorem q17_1 : pj_row 17 1 = some (.iconst 1, 1, 0, 0, 0) := by decide +kernel
theorem s17_1 {L : pj_Loc} {st : List Value} {M : pj_Mem}  : pj_step 17 (1, L, st, M) = some (2, L, .int 1 :: st, M) := st_iconst q17_1 (by decide +kernel)
theorem q17_2 : pj_row 17 2 = some (.iload_n 1, 1, 0, 0, 0) := by decide +kernel
theorem s17_2 {st : List Value} {M : pj_Mem} {l : pj_Loc} {a0 : Option Value} {x : Int32} : pj_step 17 (2, a0 :: some (.int x) :: l, st, M) = some (3, a0 :: some (.int x) :: l, .int x :: st, M) := st_iload_n q17_2 rfl
theorem q17_3 : pj_row 17 3 = some (.ishl, 1, 0, 0, 0) := by decide +kernel
theorem s17_3 {L : pj_Loc} {st : List Value} {M : pj_Mem} {x y : Int32} : pj_step 17 (3, L, .int y :: .int x :: st, M) = some (4, L, .int (x <<< (y &&& 31)) :: st, M) := st_ishl q17_3
theorem q17_4 : pj_row 17 4 = some (.iconst (-1), 1, 0, 0, 0) := by decide +kernel
theorem s17_4 {L : pj_Loc} {st : List Value} {M : pj_Mem}  : pj_step 17 (4, L, st, M) = some (5, L, .int (-1) :: st, M) := st_iconst q17_4 (by decide +kernel)
theorem q17_5 : pj_row 17 5 = some (.ixor, 1, 0, 0, 0) := by decide +kernel
theorem s17_5 {L : pj_Loc} {st : List Value} {M : pj_Mem} {x y : Int32} : pj_step 17 (5, L, .int y :: .int x :: st, M) = some (6, L, .int (x ^^^ y) :: st, M) := st_ixor q17_5
theorem q17_6 : pj_row 17 6 = some (.iand, 1, 0, 0, 0) := by decide +kernel
theorem s17_6 {L : pj_Loc} {st : List Value} {M : pj_Mem} {x y : Int32} : pj_step 17 (6, L, .int y :: .int x :: st, M) = some (7, L, .int (x &&& y) :: st, M) := st_iand q17_6
theorem q17_7 : pj_row 17 7 = some (.ireturn, 1, 0, 0, 0) := by decide +kernel
theorem t17_7 {L : pj_Loc} {M : pj_Mem} {v : Int32} : pj_Ends 17 (7, L, [.int v], M) (some (.int v), M) := pj_Ends.ret q17_7 (pj_rtn_i rt17)
theorem rt18 : pj_rt 18 = none := rfl
theorem q18_0 : pj_row 18 0 = some (.iconst 0, 1, 0, 0, 0) := by decide +kernel
theorem s18_0 {L : pj_Loc} {st : List Value} {M : pj_Mem}  : pj_step 18 (0, L, st, M) = some (1, L, .int 0 :: st, M) := st_iconst q18_0 (by decide +kernel)
theorem q18_1 : pj_row 18 1 = some (.istore_n 2, 1, 0, 0, 0) := by decide +kernel
theorem s18_1 {st : List Value} {M : pj_Mem} {l : pj_Loc} {a0 a1 a2 : Option Value} {x : Int32} (h : pj_long a1 = false) : pj_step 18 (1, a0 :: a1 :: a2 :: l, .int x :: st, M) = some (2, a0 :: a1 :: some (.int x) :: l, st, M) := st_istore_n q18_1 (pj_st_2 h)
theorem q18_2 : pj_row 18 2 = some (.iload_n 2, 1, 0, 0, 0) := by decide +kernel
theorem s18_2 {st : List Value} {M : pj_Mem} {l : pj_Loc} {a0 a1 : Option Value} {x : Int32} : pj_step 18 (2, a0 :: a1 :: some (.int x) :: l, st, M) = some (3, a0 :: a1 :: some (.int x) :: l, .int x :: st, M) := st_iload_n q18_2 rfl
theorem q18_3 : pj_row 18 3 = some (.iconst 3, 1, 0, 0, 0) := by decide +kernel
theorem s18_3 {L : pj_Loc} {st : List Value} {M : pj_Mem}  : pj_step 18 (3, L, st, M) = some (4, L, .int 3 :: st, M) := st_iconst q18_3 (by decide +kernel)
theorem q18_4 : pj_row 18 4 = some (.if_icmp .ge 28, 3, 32, 0, 0) := by decide +kernel
theorem s18_4 {L : pj_Loc} {st : List Value} {M : pj_Mem} {x y : Int32} : pj_step 18 (4, L, .int y :: .int x :: st, M) = some (if y ≤ x then 32 else 7, L, st, M) := st_icmp_ge q18_4
theorem q18_7 : pj_row 18 7 = some (.aload_n 0, 1, 0, 0, 0) := by decide +kernel
theorem s18_7 {st : List Value} {M : pj_Mem} {l : pj_Loc} {x : Nat} : pj_step 18 (7, some (.ref x) :: l, st, M) = some (8, some (.ref x) :: l, .ref x :: st, M) := st_aload_n q18_7 rfl
theorem q18_8 : pj_row 18 8 = some (.getfield 15, 3, 3, 1, 0) := by decide +kernel
theorem s18_8 {L : pj_Loc} {st : List Value} {N S : Nat} {H : pj_Heap} {o : Nat} : pj_step 18 (8, L, .ref o :: st, (N, S, H)) = pj_pv 11 L st (N, S, H) (pj_fld (H o) 3 1) := st_getfield q18_8
theorem q18_11 : pj_row 18 11 = some (.iload_n 2, 1, 0, 0, 0) := by decide +kernel
theorem s18_11 {st : List Value} {M : pj_Mem} {l : pj_Loc} {a0 a1 : Option Value} {x : Int32} : pj_step 18 (11, a0 :: a1 :: some (.int x) :: l, st, M) = some (12, a0 :: a1 :: some (.int x) :: l, .int x :: st, M) := st_iload_n q18_11 rfl
theorem q18_12 : pj_row 18 12 = some (.aload_n 0, 1, 0, 0, 0) := by decide +kernel
theorem s18_12 {st : List Value} {M : pj_Mem} {l : pj_Loc} {x : Nat} : pj_step 18 (12, some (.ref x) :: l, st, M) = some (13, some (.ref x) :: l, .ref x :: st, M) := st_aload_n q18_12 rfl
theorem q18_13 : pj_row 18 13 = some (.getfield 9, 3, 3, 0, 0) := by decide +kernel
theorem s18_13 {L : pj_Loc} {st : List Value} {N S : Nat} {H : pj_Heap} {o : Nat} : pj_step 18 (13, L, .ref o :: st, (N, S, H)) = pj_pv 16 L st (N, S, H) (pj_fld (H o) 3 0) := st_getfield q18_13
theorem q18_16 : pj_row 18 16 = some (.iload_n 2, 1, 0, 0, 0) := by decide +kernel
theorem s18_16 {st : List Value} {M : pj_Mem} {l : pj_Loc} {a0 a1 : Option Value} {x : Int32} : pj_step 18 (16, a0 :: a1 :: some (.int x) :: l, st, M) = some (17, a0 :: a1 :: some (.int x) :: l, .int x :: st, M) := st_iload_n q18_16 rfl
theorem q18_17 : pj_row 18 17 = some (.iaload, 1, 0, 0, 0) := by decide +kernel
theorem s18_17 {L : pj_Loc} {st : List Value} {N S : Nat} {H : pj_Heap} {o : Nat} {i : Int32} : pj_step 18 (17, L, .int i :: .ref o :: st, (N, S, H)) = pj_pi 18 L st (N, S, H) (pj_arl (H o) 0 i) := st_iaload q18_17
theorem q18_18 : pj_row 18 18 = some (.aload_n 1, 1, 0, 0, 0) := by decide +kernel
theorem s18_18 {st : List Value} {M : pj_Mem} {l : pj_Loc} {a0 : Option Value} {x : Nat} : pj_step 18 (18, a0 :: some (.ref x) :: l, st, M) = some (19, a0 :: some (.ref x) :: l, .ref x :: st, M) := st_aload_n q18_18 rfl
theorem q18_19 : pj_row 18 19 = some (.getfield 95, 3, 4, 1, 0) := by decide +kernel
theorem s18_19 {L : pj_Loc} {st : List Value} {N S : Nat} {H : pj_Heap} {o : Nat} : pj_step 18 (19, L, .ref o :: st, (N, S, H)) = pj_pv 22 L st (N, S, H) (pj_fld (H o) 4 1) := st_getfield q18_19
theorem q18_22 : pj_row 18 22 = some (.iload_n 2, 1, 0, 0, 0) := by decide +kernel
theorem s18_22 {st : List Value} {M : pj_Mem} {l : pj_Loc} {a0 a1 : Option Value} {x : Int32} : pj_step 18 (22, a0 :: a1 :: some (.int x) :: l, st, M) = some (23, a0 :: a1 :: some (.int x) :: l, .int x :: st, M) := st_iload_n q18_22 rfl
theorem q18_23 : pj_row 18 23 = some (.iaload, 1, 0, 0, 0) := by decide +kernel
theorem s18_23 {L : pj_Loc} {st : List Value} {N S : Nat} {H : pj_Heap} {o : Nat} {i : Int32} : pj_step 18 (23, L, .int i :: .ref o :: st, (N, S, H)) = pj_pi 24 L st (N, S, H) (pj_arl (H o) 0 i) := st_iaload q18_23
theorem q18_24 : pj_row 18 24 = some (.isub, 1, 0, 0, 0) := by decide +kernel
theorem s18_24 {L : pj_Loc} {st : List Value} {M : pj_Mem} {x y : Int32} : pj_step 18 (24, L, .int y :: .int x :: st, M) = some (25, L, .int (x - y) :: st, M) := st_isub q18_24
theorem q18_25 : pj_row 18 25 = some (.iastore, 1, 0, 0, 0) := by decide +kernel
theorem s18_25 {L : pj_Loc} {st : List Value} {N S : Nat} {H : pj_Heap} {o : Nat} {i x : Int32} : pj_step 18 (25, L, .int x :: .int i :: .ref o :: st, (N, S, H)) = pj_set 26 L st (N, S, H) o (pj_ars (H o) 0 i x) := st_iastore q18_25
theorem q18_26 : pj_row 18 26 = some (.iinc 2 1, 3, 0, 0, 0) := by decide +kernel
theorem s18_26 {st : List Value} {M : pj_Mem} {l : pj_Loc} {a0 a1 : Option Value} {x : Int32} (h : pj_long a1 = false) : pj_step 18 (26, a0 :: a1 :: some (.int x) :: l, st, M) = some (29, a0 :: a1 :: some (.int (x + 1)) :: l, st, M) := st_iinc q18_26 rfl (congrArg (fun y => x + y) (show Int32.ofInt 1 = 1 by decide +kernel)) (pj_st_2 h)
theorem q18_29 : pj_row 18 29 = some (.goto (-27), 3, 2, 0, 0) := by decide +kernel
theorem s18_29 {L : pj_Loc} {st : List Value} {M : pj_Mem}  : pj_step 18 (29, L, st, M) = some (2, L, st, M) := st_goto q18_29
theorem q18_32 : pj_row 18 32 = some (.aload_n 0, 1, 0, 0, 0) := by decide +kernel
theorem s18_32 {st : List Value} {M : pj_Mem} {l : pj_Loc} {x : Nat} : pj_step 18 (32, some (.ref x) :: l, st, M) = some (33, some (.ref x) :: l, .ref x :: st, M) := st_aload_n q18_32 rfl
theorem q18_33 : pj_row 18 33 = some (.aload_n 0, 1, 0, 0, 0) := by decide +kernel
theorem s18_33 {st : List Value} {M : pj_Mem} {l : pj_Loc} {x : Nat} : pj_step 18 (33, some (.ref x) :: l, st, M) = some (34, some (.ref x) :: l, .ref x :: st, M) := st_aload_n q18_33 rfl
theorem q18_34 : pj_row 18 34 = some (.getfield 89, 3, 3, 8, 0) := by decide +kernel
theorem s18_34 {L : pj_Loc} {st : List Value} {N S : Nat} {H : pj_Heap} {o : Nat} : pj_step 18 (34, L, .ref o :: st, (N, S, H)) = pj_pv 37 L st (N, S, H) (pj_fld (H o) 3 8) := st_getfield q18_34
theorem q18_37 : pj_row 18 37 = some (.bipush 7, 2, 0, 0, 0) := by decide +kernel
theorem s18_37 {L : pj_Loc} {st : List Value} {M : pj_Mem}  : pj_step 18 (37, L, st, M) = some (39, L, .int 7 :: st, M) := st_bipush q18_37 (by decide +kernel)
theorem q18_39 : pj_row 18 39 = some (.if_icmp .ne 10, 3, 49, 0, 0) := by decide +kernel
theorem s18_39 {L : pj_Loc} {st : List Value} {M : pj_Mem} {x y : Int32} : pj_step 18 (39, L, .int y :: .int x :: st, M) = some (if ¬ x = y then 49 else 42, L, st, M) := st_icmp_ne q18_39
theorem q18_42 : pj_row 18 42 = some (.aload_n 0, 1, 0, 0, 0) := by decide +kernel
theorem s18_42 {st : List Value} {M : pj_Mem} {l : pj_Loc} {x : Nat} : pj_step 18 (42, some (.ref x) :: l, st, M) = some (43, some (.ref x) :: l, .ref x :: st, M) := st_aload_n q18_42 rfl
theorem q18_43 : pj_row 18 43 = some (.invokevirtual 96, 3, 19, 1, 0) := by decide +kernel
theorem e18_43 {L : pj_Loc} {st : List Value} {N S : Nat} {H : pj_Heap} {o : Option Value × pj_Mem} {M' : pj_Mem} {x0 : Nat} {r : Int32} (h4 : pj_le4 st = true) (hu : pj_isU 3 (H x0) = true) (h1 : pj_Ends 19 (0, [some (.ref x0), none, none], [], (N, S, H)) (some (.int r), M')) (h2 : pj_Ends 18 (46, L, .int r :: st, M') o) : pj_Ends 18 (43, L, .ref x0 :: st, (N, S, H)) o := ec_v1 q18_43 (Or.inl rfl) h4 hu rfl h1 h2
theorem q18_46 : pj_row 18 46 = some (.goto 7, 3, 53, 0, 0) := by decide +kernel
theorem s18_46 {L : pj_Loc} {st : List Value} {M : pj_Mem}  : pj_step 18 (46, L, st, M) = some (53, L, st, M) := st_goto q18_46
theorem q18_49 : pj_row 18 49 = some (.aload_n 0, 1, 0, 0, 0) := by decide +kernel
theorem s18_49 {st : List Value} {M : pj_Mem} {l : pj_Loc} {x : Nat} : pj_step 18 (49, some (.ref x) :: l, st, M) = some (50, some (.ref x) :: l, .ref x :: st, M) := st_aload_n q18_49 rfl
theorem q18_50 : pj_row 18 50 = some (.invokevirtual 100, 3, 20, 1, 0) := by decide +kernel
theorem e18_50 {L : pj_Loc} {st : List Value} {N S : Nat} {H : pj_Heap} {o : Option Value × pj_Mem} {M' : pj_Mem} {x0 : Nat} {r : Int32} (h4 : pj_le4 st = true) (hu : pj_isU 3 (H x0) = true) (h1 : pj_Ends 20 (0, [some (.ref x0), none, none, none], [], (N, S, H)) (some (.int r), M')) (h2 : pj_Ends 18 (53, L, .int r :: st, M') o) : pj_Ends 18 (50, L, .ref x0 :: st, (N, S, H)) o := ec_v1 q18_50 (Or.inl rfl) h4 hu rfl h1 h2
theorem q18_53 : pj_row 18 53 = some (.putfield 103, 3, 3, 9, 0) := by decide +kernel
theorem s18_53 {L : pj_Loc} {st : List Value} {N S : Nat} {H : pj_Heap} {o : Nat} {v : Value} : pj_step 18 (53, L, v :: .ref o :: st, (N, S, H)) = pj_set 56 L st (N, S, H) o (pj_fset (H o) 3 9 v) := st_putfield q18_53
theorem q18_56 : pj_row 18 56 = some (.return_, 1, 0, 0, 0) := by decide +kernel
theorem t18_56 {L : pj_Loc} {M : pj_Mem} : pj_Ends 18 (56, L, [], M) (none, M) := pj_Ends.ret q18_56 (pj_rtn_v rt18)
theorem rt19 : pj_rt 19 = some .int := rfl
theorem q19_0 : pj_row 19 0 = some (.aload_n 0, 1, 0, 0, 0) := by decide +kernel
theorem s19_0 {st : List Value} {M : pj_Mem} {l : pj_Loc} {x : Nat} : pj_step 19 (0, some (.ref x) :: l, st, M) = some (1, some (.ref x) :: l, .ref x :: st, M) := st_aload_n q19_0 rfl
theorem q19_1 : pj_row 19 1 = some (.getfield 15, 3, 3, 1, 0) := by decide +kernel
theorem s19_1 {L : pj_Loc} {st : List Value} {N S : Nat} {H : pj_Heap} {o : Nat} : pj_step 19 (1, L, .ref o :: st, (N, S, H)) = pj_pv 4 L st (N, S, H) (pj_fld (H o) 3 1) := st_getfield q19_1
theorem q19_4 : pj_row 19 4 = some (.iconst 0, 1, 0, 0, 0) := by decide +kernel
theorem s19_4 {L : pj_Loc} {st : List Value} {M : pj_Mem}  : pj_step 19 (4, L, st, M) = some (5, L, .int 0 :: st, M) := st_iconst q19_4 (by decide +kernel)
theorem q19_5 : pj_row 19 5 = some (.iaload, 1, 0, 0, 0) := by decide +kernel
theorem s19_5 {L : pj_Loc} {st : List Value} {N S : Nat} {H : pj_Heap} {o : Nat} {i : Int32} : pj_step 19 (5, L, .int i :: .ref o :: st, (N, S, H)) = pj_pi 6 L st (N, S, H) (pj_arl (H o) 0 i) := st_iaload q19_5
theorem q19_6 : pj_row 19 6 = some (.aload_n 0, 1, 0, 0, 0) := by decide +kernel
theorem s19_6 {st : List Value} {M : pj_Mem} {l : pj_Loc} {x : Nat} : pj_step 19 (6, some (.ref x) :: l, st, M) = some (7, some (.ref x) :: l, .ref x :: st, M) := st_aload_n q19_6 rfl
theorem q19_7 : pj_row 19 7 = some (.getfield 15, 3, 3, 1, 0) := by decide +kernel
theorem s19_7 {L : pj_Loc} {st : List Value} {N S : Nat} {H : pj_Heap} {o : Nat} : pj_step 19 (7, L, .ref o :: st, (N, S, H)) = pj_pv 10 L st (N, S, H) (pj_fld (H o) 3 1) := st_getfield q19_7
theorem q19_10 : pj_row 19 10 = some (.iconst 1, 1, 0, 0, 0) := by decide +kernel
theorem s19_10 {L : pj_Loc} {st : List Value} {M : pj_Mem}  : pj_step 19 (10, L, st, M) = some (11, L, .int 1 :: st, M) := st_iconst q19_10 (by decide +kernel)
theorem q19_11 : pj_row 19 11 = some (.iaload, 1, 0, 0, 0) := by decide +kernel
theorem s19_11 {L : pj_Loc} {st : List Value} {N S : Nat} {H : pj_Heap} {o : Nat} {i : Int32} : pj_step 19 (11, L, .int i :: .ref o :: st, (N, S, H)) = pj_pi 12 L st (N, S, H) (pj_arl (H o) 0 i) := st_iaload q19_11
theorem q19_12 : pj_row 19 12 = some (.invokestatic 106, 3, 0, 2, 5) := by decide +kernel
theorem s19_12 {L : pj_Loc} {st : List Value} {M : pj_Mem} {x y : Int32} : pj_step 19 (12, L, .int y :: .int x :: st, M) = pj_g4 st (some (15, L, .int (if y < x then y else x) :: st, M)) := st_min q19_12
theorem q19_15 : pj_row 19 15 = some (.istore_n 1, 1, 0, 0, 0) := by decide +kernel
theorem s19_15 {st : List Value} {M : pj_Mem} {l : pj_Loc} {a0 a1 : Option Value} {x : Int32} (h : pj_long a0 = false) : pj_step 19 (15, a0 :: a1 :: l, .int x :: st, M) = some (16, a0 :: some (.int x) :: l, st, M) := st_istore_n q19_15 (pj_st_1 h)
theorem q19_16 : pj_row 19 16 = some (.aload_n 0, 1, 0, 0, 0) := by decide +kernel
theorem s19_16 {st : List Value} {M : pj_Mem} {l : pj_Loc} {x : Nat} : pj_step 19 (16, some (.ref x) :: l, st, M) = some (17, some (.ref x) :: l, .ref x :: st, M) := st_aload_n q19_16 rfl
theorem q19_17 : pj_row 19 17 = some (.getfield 15, 3, 3, 1, 0) := by decide +kernel
theorem s19_17 {L : pj_Loc} {st : List Value} {N S : Nat} {H : pj_Heap} {o : Nat} : pj_step 19 (17, L, .ref o :: st, (N, S, H)) = pj_pv 20 L st (N, S, H) (pj_fld (H o) 3 1) := st_getfield q19_17
theorem q19_20 : pj_row 19 20 = some (.iconst 0, 1, 0, 0, 0) := by decide +kernel
theorem s19_20 {L : pj_Loc} {st : List Value} {M : pj_Mem}  : pj_step 19 (20, L, st, M) = some (21, L, .int 0 :: st, M) := st_iconst q19_20 (by decide +kernel)
theorem q19_21 : pj_row 19 21 = some (.iaload, 1, 0, 0, 0) := by decide +kernel
theorem s19_21 {L : pj_Loc} {st : List Value} {N S : Nat} {H : pj_Heap} {o : Nat} {i : Int32} : pj_step 19 (21, L, .int i :: .ref o :: st, (N, S, H)) = pj_pi 22 L st (N, S, H) (pj_arl (H o) 0 i) := st_iaload q19_21
theorem q19_22 : pj_row 19 22 = some (.aload_n 0, 1, 0, 0, 0) := by decide +kernel
theorem s19_22 {st : List Value} {M : pj_Mem} {l : pj_Loc} {x : Nat} : pj_step 19 (22, some (.ref x) :: l, st, M) = some (23, some (.ref x) :: l, .ref x :: st, M) := st_aload_n q19_22 rfl
theorem q19_23 : pj_row 19 23 = some (.getfield 15, 3, 3, 1, 0) := by decide +kernel
theorem s19_23 {L : pj_Loc} {st : List Value} {N S : Nat} {H : pj_Heap} {o : Nat} : pj_step 19 (23, L, .ref o :: st, (N, S, H)) = pj_pv 26 L st (N, S, H) (pj_fld (H o) 3 1) := st_getfield q19_23
theorem q19_26 : pj_row 19 26 = some (.iconst 1, 1, 0, 0, 0) := by decide +kernel
theorem s19_26 {L : pj_Loc} {st : List Value} {M : pj_Mem}  : pj_step 19 (26, L, st, M) = some (27, L, .int 1 :: st, M) := st_iconst q19_26 (by decide +kernel)
theorem q19_27 : pj_row 19 27 = some (.iaload, 1, 0, 0, 0) := by decide +kernel
theorem s19_27 {L : pj_Loc} {st : List Value} {N S : Nat} {H : pj_Heap} {o : Nat} {i : Int32} : pj_step 19 (27, L, .int i :: .ref o :: st, (N, S, H)) = pj_pi 28 L st (N, S, H) (pj_arl (H o) 0 i) := st_iaload q19_27
theorem q19_28 : pj_row 19 28 = some (.invokestatic 66, 3, 0, 2, 4) := by decide +kernel
theorem s19_28 {L : pj_Loc} {st : List Value} {M : pj_Mem} {x y : Int32} : pj_step 19 (28, L, .int y :: .int x :: st, M) = pj_g4 st (some (31, L, .int (if x < y then y else x) :: st, M)) := st_max q19_28
theorem q19_31 : pj_row 19 31 = some (.istore_n 2, 1, 0, 0, 0) := by decide +kernel
theorem s19_31 {st : List Value} {M : pj_Mem} {l : pj_Loc} {a0 a1 a2 : Option Value} {x : Int32} (h : pj_long a1 = false) : pj_step 19 (31, a0 :: a1 :: a2 :: l, .int x :: st, M) = some (32, a0 :: a1 :: some (.int x) :: l, st, M) := st_istore_n q19_31 (pj_st_2 h)
theorem q19_32 : pj_row 19 32 = some (.iload_n 1, 1, 0, 0, 0) := by decide +kernel
theorem s19_32 {st : List Value} {M : pj_Mem} {l : pj_Loc} {a0 : Option Value} {x : Int32} : pj_step 19 (32, a0 :: some (.int x) :: l, st, M) = some (33, a0 :: some (.int x) :: l, .int x :: st, M) := st_iload_n q19_32 rfl
theorem q19_33 : pj_row 19 33 = some (.iload_n 2, 1, 0, 0, 0) := by decide +kernel
theorem s19_33 {st : List Value} {M : pj_Mem} {l : pj_Loc} {a0 a1 : Option Value} {x : Int32} : pj_step 19 (33, a0 :: a1 :: some (.int x) :: l, st, M) = some (34, a0 :: a1 :: some (.int x) :: l, .int x :: st, M) := st_iload_n q19_33 rfl
theorem q19_34 : pj_row 19 34 = some (.aload_n 0, 1, 0, 0, 0) := by decide +kernel
theorem s19_34 {st : List Value} {M : pj_Mem} {l : pj_Loc} {x : Nat} : pj_step 19 (34, some (.ref x) :: l, st, M) = some (35, some (.ref x) :: l, .ref x :: st, M) := st_aload_n q19_34 rfl
theorem q19_35 : pj_row 19 35 = some (.getfield 15, 3, 3, 1, 0) := by decide +kernel
theorem s19_35 {L : pj_Loc} {st : List Value} {N S : Nat} {H : pj_Heap} {o : Nat} : pj_step 19 (35, L, .ref o :: st, (N, S, H)) = pj_pv 38 L st (N, S, H) (pj_fld (H o) 3 1) := st_getfield q19_35
theorem q19_38 : pj_row 19 38 = some (.iconst 2, 1, 0, 0, 0) := by decide +kernel
theorem s19_38 {L : pj_Loc} {st : List Value} {M : pj_Mem}  : pj_step 19 (38, L, st, M) = some (39, L, .int 2 :: st, M) := st_iconst q19_38 (by decide +kernel)
theorem q19_39 : pj_row 19 39 = some (.iaload, 1, 0, 0, 0) := by decide +kernel
theorem s19_39 {L : pj_Loc} {st : List Value} {N S : Nat} {H : pj_Heap} {o : Nat} {i : Int32} : pj_step 19 (39, L, .int i :: .ref o :: st, (N, S, H)) = pj_pi 40 L st (N, S, H) (pj_arl (H o) 0 i) := st_iaload q19_39
theorem q19_40 : pj_row 19 40 = some (.invokestatic 106, 3, 0, 2, 5) := by decide +kernel
theorem s19_40 {L : pj_Loc} {st : List Value} {M : pj_Mem} {x y : Int32} : pj_step 19 (40, L, .int y :: .int x :: st, M) = pj_g4 st (some (43, L, .int (if y < x then y else x) :: st, M)) := st_min q19_40
theorem q19_43 : pj_row 19 43 = some (.invokestatic 66, 3, 0, 2, 4) := by decide +kernel
theorem s19_43 {L : pj_Loc} {st : List Value} {M : pj_Mem} {x y : Int32} : pj_step 19 (43, L, .int y :: .int x :: st, M) = pj_g4 st (some (46, L, .int (if x < y then y else x) :: st, M)) := st_max q19_43
theorem q19_46 : pj_row 19 46 = some (.ireturn, 1, 0, 0, 0) := by decide +kernel
theorem t19_46 {L : pj_Loc} {M : pj_Mem} {v : Int32} : pj_Ends 19 (46, L, [.int v], M) (some (.int v), M) := pj_Ends.ret q19_46 (pj_rtn_i rt19)
theorem rt20 : pj_rt 20 = some .int := rfl
theorem q20_0 : pj_row 20 0 = some (.iconst 0, 1, 0, 0, 0) := by decide +kernel
theorem s20_0 {L : pj_Loc} {st : List Value} {M : pj_Mem}  : pj_step 20 (0, L, st, M) = some (1, L, .int 0 :: st, M) := st_iconst q20_0 (by decide +kernel)
theorem q20_1 : pj_row 20 1 = some (.istore_n 1, 1, 0, 0, 0) := by decide +kernel
theorem s20_1 {st : List Value} {M : pj_Mem} {l : pj_Loc} {a0 a1 : Option Value} {x : Int32} (h : pj_long a0 = false) : pj_step 20 (1, a0 :: a1 :: l, .int x :: st, M) = some (2, a0 :: some (.int x) :: l, st, M) := st_istore_n q20_1 (pj_st_1 h)
theorem q20_2 : pj_row 20 2 = some (.iconst 0, 1, 0, 0, 0) := by decide +kernel
theorem s20_2 {L : pj_Loc} {st : List Value} {M : pj_Mem}  : pj_step 20 (2, L, st, M) = some (3, L, .int 0 :: st, M) := st_iconst q20_2 (by decide +kernel)
theorem q20_3 : pj_row 20 3 = some (.istore_n 2, 1, 0, 0, 0) := by decide +kernel
theorem s20_3 {st : List Value} {M : pj_Mem} {l : pj_Loc} {a0 a1 a2 : Option Value} {x : Int32} (h : pj_long a1 = false) : pj_step 20 (3, a0 :: a1 :: a2 :: l, .int x :: st, M) = some (4, a0 :: a1 :: some (.int x) :: l, st, M) := st_istore_n q20_3 (pj_st_2 h)
theorem q20_4 : pj_row 20 4 = some (.iconst 0, 1, 0, 0, 0) := by decide +kernel
theorem s20_4 {L : pj_Loc} {st : List Value} {M : pj_Mem}  : pj_step 20 (4, L, st, M) = some (5, L, .int 0 :: st, M) := st_iconst q20_4 (by decide +kernel)
theorem q20_5 : pj_row 20 5 = some (.istore_n 3, 1, 0, 0, 0) := by decide +kernel
theorem s20_5 {st : List Value} {M : pj_Mem} {l : pj_Loc} {a0 a1 a2 a3 : Option Value} {x : Int32} (h : pj_long a2 = false) : pj_step 20 (5, a0 :: a1 :: a2 :: a3 :: l, .int x :: st, M) = some (6, a0 :: a1 :: a2 :: some (.int x) :: l, st, M) := st_istore_n q20_5 (pj_st_3 h)
theorem q20_6 : pj_row 20 6 = some (.iload_n 3, 1, 0, 0, 0) := by decide +kernel
theorem s20_6 {st : List Value} {M : pj_Mem} {l : pj_Loc} {a0 a1 a2 : Option Value} {x : Int32} : pj_step 20 (6, a0 :: a1 :: a2 :: some (.int x) :: l, st, M) = some (7, a0 :: a1 :: a2 :: some (.int x) :: l, .int x :: st, M) := st_iload_n q20_6 rfl
theorem q20_7 : pj_row 20 7 = some (.iconst 3, 1, 0, 0, 0) := by decide +kernel
theorem s20_7 {L : pj_Loc} {st : List Value} {M : pj_Mem}  : pj_step 20 (7, L, st, M) = some (8, L, .int 3 :: st, M) := st_iconst q20_7 (by decide +kernel)
theorem q20_8 : pj_row 20 8 = some (.if_icmp .ge 46, 3, 54, 0, 0) := by decide +kernel
theorem s20_8 {L : pj_Loc} {st : List Value} {M : pj_Mem} {x y : Int32} : pj_step 20 (8, L, .int y :: .int x :: st, M) = some (if y ≤ x then 54 else 11, L, st, M) := st_icmp_ge q20_8
theorem q20_11 : pj_row 20 11 = some (.aload_n 0, 1, 0, 0, 0) := by decide +kernel
theorem s20_11 {st : List Value} {M : pj_Mem} {l : pj_Loc} {x : Nat} : pj_step 20 (11, some (.ref x) :: l, st, M) = some (12, some (.ref x) :: l, .ref x :: st, M) := st_aload_n q20_11 rfl
theorem q20_12 : pj_row 20 12 = some (.getfield 89, 3, 3, 8, 0) := by decide +kernel
theorem s20_12 {L : pj_Loc} {st : List Value} {N S : Nat} {H : pj_Heap} {o : Nat} : pj_step 20 (12, L, .ref o :: st, (N, S, H)) = pj_pv 15 L st (N, S, H) (pj_fld (H o) 3 8) := st_getfield q20_12
theorem q20_15 : pj_row 20 15 = some (.iload_n 3, 1, 0, 0, 0) := by decide +kernel
theorem s20_15 {st : List Value} {M : pj_Mem} {l : pj_Loc} {a0 a1 a2 : Option Value} {x : Int32} : pj_step 20 (15, a0 :: a1 :: a2 :: some (.int x) :: l, st, M) = some (16, a0 :: a1 :: a2 :: some (.int x) :: l, .int x :: st, M) := st_iload_n q20_15 rfl
theorem q20_16 : pj_row 20 16 = some (.invokestatic 109, 3, 21, 2, 1) := by decide +kernel
theorem e20_16 {L : pj_Loc} {st : List Value} {N S : Nat} {H : pj_Heap} {o : Option Value × pj_Mem} {M' : pj_Mem} {x0 : Int32} {x1 : Int32} {r : Int32} (h4 : pj_le4 st = true) (h1 : pj_Ends 21 (0, [some (.int x0), some (.int x1)], [], (N, S, H)) (some (.int r), M')) (h2 : pj_Ends 20 (19, L, .int r :: st, M') o) : pj_Ends 20 (16, L, .int x1 :: .int x0 :: st, (N, S, H)) o := ec_s2 q20_16 (Or.inr rfl) h4 rfl h1 h2
theorem q20_19 : pj_row 20 19 = some (.ifCond .eq 29, 3, 48, 0, 0) := by decide +kernel
theorem s20_19 {L : pj_Loc} {st : List Value} {M : pj_Mem} {x : Int32} : pj_step 20 (19, L, .int x :: st, M) = some (if x = 0 then 48 else 22, L, st, M) := st_if_eq q20_19
theorem q20_22 : pj_row 20 22 = some (.iload_n 2, 1, 0, 0, 0) := by decide +kernel
theorem s20_22 {st : List Value} {M : pj_Mem} {l : pj_Loc} {a0 a1 : Option Value} {x : Int32} : pj_step 20 (22, a0 :: a1 :: some (.int x) :: l, st, M) = some (23, a0 :: a1 :: some (.int x) :: l, .int x :: st, M) := st_iload_n q20_22 rfl
theorem q20_23 : pj_row 20 23 = some (.ifCond .eq 16, 3, 39, 0, 0) := by decide +kernel
theorem s20_23 {L : pj_Loc} {st : List Value} {M : pj_Mem} {x : Int32} : pj_step 20 (23, L, .int x :: st, M) = some (if x = 0 then 39 else 26, L, st, M) := st_if_eq q20_23
theorem q20_26 : pj_row 20 26 = some (.iload_n 1, 1, 0, 0, 0) := by decide +kernel
theorem s20_26 {st : List Value} {M : pj_Mem} {l : pj_Loc} {a0 : Option Value} {x : Int32} : pj_step 20 (26, a0 :: some (.int x) :: l, st, M) = some (27, a0 :: some (.int x) :: l, .int x :: st, M) := st_iload_n q20_26 rfl
theorem q20_27 : pj_row 20 27 = some (.aload_n 0, 1, 0, 0, 0) := by decide +kernel
theorem s20_27 {st : List Value} {M : pj_Mem} {l : pj_Loc} {x : Nat} : pj_step 20 (27, some (.ref x) :: l, st, M) = some (28, some (.ref x) :: l, .ref x :: st, M) := st_aload_n q20_27 rfl
theorem q20_28 : pj_row 20 28 = some (.getfield 15, 3, 3, 1, 0) := by decide +kernel
theorem s20_28 {L : pj_Loc} {st : List Value} {N S : Nat} {H : pj_Heap} {o : Nat} : pj_step 20 (28, L, .ref o :: st, (N, S, H)) = pj_pv 31 L st (N, S, H) (pj_fld (H o) 3 1) := st_getfield q20_28
theorem q20_31 : pj_row 20 31 = some (.iload_n 3, 1, 0, 0, 0) := by decide +kernel
theorem s20_31 {st : List Value} {M : pj_Mem} {l : pj_Loc} {a0 a1 a2 : Option Value} {x : Int32} : pj_step 20 (31, a0 :: a1 :: a2 :: some (.int x) :: l, st, M) = some (32, a0 :: a1 :: a2 :: some (.int x) :: l, .int x :: st, M) := st_iload_n q20_31 rfl
theorem q20_32 : pj_row 20 32 = some (.iaload, 1, 0, 0, 0) := by decide +kernel
theorem s20_32 {L : pj_Loc} {st : List Value} {N S : Nat} {H : pj_Heap} {o : Nat} {i : Int32} : pj_step 20 (32, L, .int i :: .ref o :: st, (N, S, H)) = pj_pi 33 L st (N, S, H) (pj_arl (H o) 0 i) := st_iaload q20_32
theorem q20_33 : pj_row 20 33 = some (.invokestatic 106, 3, 0, 2, 5) := by decide +kernel
theorem s20_33 {L : pj_Loc} {st : List Value} {M : pj_Mem} {x y : Int32} : pj_step 20 (33, L, .int y :: .int x :: st, M) = pj_g4 st (some (36, L, .int (if y < x then y else x) :: st, M)) := st_min q20_33
theorem q20_36 : pj_row 20 36 = some (.goto 9, 3, 45, 0, 0) := by decide +kernel
theorem s20_36 {L : pj_Loc} {st : List Value} {M : pj_Mem}  : pj_step 20 (36, L, st, M) = some (45, L, st, M) := st_goto q20_36
theorem q20_39 : pj_row 20 39 = some (.aload_n 0, 1, 0, 0, 0) := by decide +kernel
theorem s20_39 {st : List Value} {M : pj_Mem} {l : pj_Loc} {x : Nat} : pj_step 20 (39, some (.ref x) :: l, st, M) = some (40, some (.ref x) :: l, .ref x :: st, M) := st_aload_n q20_39 rfl
theorem q20_40 : pj_row 20 40 = some (.getfield 15, 3, 3, 1, 0) := by decide +kernel
theorem s20_40 {L : pj_Loc} {st : List Value} {N S : Nat} {H : pj_Heap} {o : Nat} : pj_step 20 (40, L, .ref o :: st, (N, S, H)) = pj_pv 43 L st (N, S, H) (pj_fld (H o) 3 1) := st_getfield q20_40
theorem q20_43 : pj_row 20 43 = some (.iload_n 3, 1, 0, 0, 0) := by decide +kernel
theorem s20_43 {st : List Value} {M : pj_Mem} {l : pj_Loc} {a0 a1 a2 : Option Value} {x : Int32} : pj_step 20 (43, a0 :: a1 :: a2 :: some (.int x) :: l, st, M) = some (44, a0 :: a1 :: a2 :: some (.int x) :: l, .int x :: st, M) := st_iload_n q20_43 rfl
theorem q20_44 : pj_row 20 44 = some (.iaload, 1, 0, 0, 0) := by decide +kernel
theorem s20_44 {L : pj_Loc} {st : List Value} {N S : Nat} {H : pj_Heap} {o : Nat} {i : Int32} : pj_step 20 (44, L, .int i :: .ref o :: st, (N, S, H)) = pj_pi 45 L st (N, S, H) (pj_arl (H o) 0 i) := st_iaload q20_44
theorem q20_45 : pj_row 20 45 = some (.istore_n 1, 1, 0, 0, 0) := by decide +kernel
theorem s20_45 {st : List Value} {M : pj_Mem} {l : pj_Loc} {a0 a1 : Option Value} {x : Int32} (h : pj_long a0 = false) : pj_step 20 (45, a0 :: a1 :: l, .int x :: st, M) = some (46, a0 :: some (.int x) :: l, st, M) := st_istore_n q20_45 (pj_st_1 h)
theorem q20_46 : pj_row 20 46 = some (.iconst 1, 1, 0, 0, 0) := by decide +kernel
theorem s20_46 {L : pj_Loc} {st : List Value} {M : pj_Mem}  : pj_step 20 (46, L, st, M) = some (47, L, .int 1 :: st, M) := st_iconst q20_46 (by decide +kernel)
theorem q20_47 : pj_row 20 47 = some (.istore_n 2, 1, 0, 0, 0) := by decide +kernel
theorem s20_47 {st : List Value} {M : pj_Mem} {l : pj_Loc} {a0 a1 a2 : Option Value} {x : Int32} (h : pj_long a1 = false) : pj_step 20 (47, a0 :: a1 :: a2 :: l, .int x :: st, M) = some (48, a0 :: a1 :: some (.int x) :: l, st, M) := st_istore_n q20_47 (pj_st_2 h)
theorem q20_48 : pj_row 20 48 = some (.iinc 3 1, 3, 0, 0, 0) := by decide +kernel
theorem s20_48 {st : List Value} {M : pj_Mem} {l : pj_Loc} {a0 a1 a2 : Option Value} {x : Int32} (h : pj_long a2 = false) : pj_step 20 (48, a0 :: a1 :: a2 :: some (.int x) :: l, st, M) = some (51, a0 :: a1 :: a2 :: some (.int (x + 1)) :: l, st, M) := st_iinc q20_48 rfl (congrArg (fun y => x + y) (show Int32.ofInt 1 = 1 by decide +kernel)) (pj_st_3 h)
theorem q20_51 : pj_row 20 51 = some (.goto (-45), 3, 6, 0, 0) := by decide +kernel
theorem s20_51 {L : pj_Loc} {st : List Value} {M : pj_Mem}  : pj_step 20 (51, L, st, M) = some (6, L, st, M) := st_goto q20_51
theorem q20_54 : pj_row 20 54 = some (.iload_n 1, 1, 0, 0, 0) := by decide +kernel
theorem s20_54 {st : List Value} {M : pj_Mem} {l : pj_Loc} {a0 : Option Value} {x : Int32} : pj_step 20 (54, a0 :: some (.int x) :: l, st, M) = some (55, a0 :: some (.int x) :: l, .int x :: st, M) := st_iload_n q20_54 rfl
theorem q20_55 : pj_row 20 55 = some (.ireturn, 1, 0, 0, 0) := by decide +kernel
theorem t20_55 {L : pj_Loc} {M : pj_Mem} {v : Int32} : pj_Ends 20 (55, L, [.int v], M) (some (.int v), M) := pj_Ends.ret q20_55 (pj_rtn_i rt20)
theorem rt21 : pj_rt 21 = some .boolean := rfl
theorem q21_0 : pj_row 21 0 = some (.iload_n 0, 1, 0, 0, 0) := by decide +kernel
theorem s21_0 {st : List Value} {M : pj_Mem} {l : pj_Loc} {x : Int32} : pj_step 21 (0, some (.int x) :: l, st, M) = some (1, some (.int x) :: l, .int x :: st, M) := st_iload_n q21_0 rfl
theorem q21_1 : pj_row 21 1 = some (.iload_n 1, 1, 0, 0, 0) := by decide +kernel
theorem s21_1 {st : List Value} {M : pj_Mem} {l : pj_Loc} {a0 : Option Value} {x : Int32} : pj_step 21 (1, a0 :: some (.int x) :: l, st, M) = some (2, a0 :: some (.int x) :: l, .int x :: st, M) := st_iload_n q21_1 rfl
theorem q21_2 : pj_row 21 2 = some (.ishr, 1, 0, 0, 0) := by decide +kernel
theorem s21_2 {L : pj_Loc} {st : List Value} {M : pj_Mem} {x y : Int32} : pj_step 21 (2, L, .int y :: .int x :: st, M) = some (3, L, .int (x >>> (y &&& 31)) :: st, M) := st_ishr q21_2
theorem q21_3 : pj_row 21 3 = some (.iconst 1, 1, 0, 0, 0) := by decide +kernel
theorem s21_3 {L : pj_Loc} {st : List Value} {M : pj_Mem}  : pj_step 21 (3, L, st, M) = some (4, L, .int 1 :: st, M) := st_iconst q21_3 (by decide +kernel)
theorem q21_4 : pj_row 21 4 = some (.iand, 1, 0, 0, 0) := by decide +kernel
theorem s21_4 {L : pj_Loc} {st : List Value} {M : pj_Mem} {x y : Int32} : pj_step 21 (4, L, .int y :: .int x :: st, M) = some (5, L, .int (x &&& y) :: st, M) := st_iand q21_4
theorem q21_5 : pj_row 21 5 = some (.iconst 1, 1, 0, 0, 0) := by decide +kernel
theorem s21_5 {L : pj_Loc} {st : List Value} {M : pj_Mem}  : pj_step 21 (5, L, st, M) = some (6, L, .int 1 :: st, M) := st_iconst q21_5 (by decide +kernel)
theorem q21_6 : pj_row 21 6 = some (.if_icmp .ne 7, 3, 13, 0, 0) := by decide +kernel
theorem s21_6 {L : pj_Loc} {st : List Value} {M : pj_Mem} {x y : Int32} : pj_step 21 (6, L, .int y :: .int x :: st, M) = some (if ¬ x = y then 13 else 9, L, st, M) := st_icmp_ne q21_6
theorem q21_9 : pj_row 21 9 = some (.iconst 1, 1, 0, 0, 0) := by decide +kernel
theorem s21_9 {L : pj_Loc} {st : List Value} {M : pj_Mem}  : pj_step 21 (9, L, st, M) = some (10, L, .int 1 :: st, M) := st_iconst q21_9 (by decide +kernel)
theorem q21_10 : pj_row 21 10 = some (.goto 4, 3, 14, 0, 0) := by decide +kernel
theorem s21_10 {L : pj_Loc} {st : List Value} {M : pj_Mem}  : pj_step 21 (10, L, st, M) = some (14, L, st, M) := st_goto q21_10
theorem q21_13 : pj_row 21 13 = some (.iconst 0, 1, 0, 0, 0) := by decide +kernel
theorem s21_13 {L : pj_Loc} {st : List Value} {M : pj_Mem}  : pj_step 21 (13, L, st, M) = some (14, L, .int 0 :: st, M) := st_iconst q21_13 (by decide +kernel)
theorem q21_14 : pj_row 21 14 = some (.ireturn, 1, 0, 0, 0) := by decide +kernel
theorem t21_14 {L : pj_Loc} {M : pj_Mem} {v : Int32} (hv : v = 0 ∨ v = 1) : pj_Ends 21 (14, L, [.int v], M) (some (.int v), M) := pj_Ends.ret q21_14 (pj_rtn_z rt21 hv)
theorem rt22 : pj_rt 22 = none := rfl
theorem q22_0 : pj_row 22 0 = some (.aload_n 0, 1, 0, 0, 0) := by decide +kernel
theorem s22_0 {st : List Value} {M : pj_Mem} {l : pj_Loc} {x : Nat} : pj_step 22 (0, some (.ref x) :: l, st, M) = some (1, some (.ref x) :: l, .ref x :: st, M) := st_aload_n q22_0 rfl
theorem q22_1 : pj_row 22 1 = some (.getfield 89, 3, 3, 8, 0) := by decide +kernel
theorem s22_1 {L : pj_Loc} {st : List Value} {N S : Nat} {H : pj_Heap} {o : Nat} : pj_step 22 (1, L, .ref o :: st, (N, S, H)) = pj_pv 4 L st (N, S, H) (pj_fld (H o) 3 8) := st_getfield q22_1
theorem q22_4 : pj_row 22 4 = some (.bipush 7, 2, 0, 0, 0) := by decide +kernel
theorem s22_4 {L : pj_Loc} {st : List Value} {M : pj_Mem}  : pj_step 22 (4, L, st, M) = some (6, L, .int 7 :: st, M) := st_bipush q22_4 (by decide +kernel)
theorem q22_6 : pj_row 22 6 = some (.if_icmp .eq 4, 3, 10, 0, 0) := by decide +kernel
theorem s22_6 {L : pj_Loc} {st : List Value} {M : pj_Mem} {x y : Int32} : pj_step 22 (6, L, .int y :: .int x :: st, M) = some (if x = y then 10 else 9, L, st, M) := st_icmp_eq q22_6
theorem q22_9 : pj_row 22 9 = some (.return_, 1, 0, 0, 0) := by decide +kernel
theorem t22_9 {L : pj_Loc} {M : pj_Mem} : pj_Ends 22 (9, L, [], M) (none, M) := pj_Ends.ret q22_9 (pj_rtn_v rt22)
theorem q22_10 : pj_row 22 10 = some (.iconst 0, 1, 0, 0, 0) := by decide +kernel
theorem s22_10 {L : pj_Loc} {st : List Value} {M : pj_Mem}  : pj_step 22 (10, L, st, M) = some (11, L, .int 0 :: st, M) := st_iconst q22_10 (by decide +kernel)
theorem q22_11 : pj_row 22 11 = some (.istore_n 2, 1, 0, 0, 0) := by decide +kernel
theorem s22_11 {st : List Value} {M : pj_Mem} {l : pj_Loc} {a0 a1 a2 : Option Value} {x : Int32} (h : pj_long a1 = false) : pj_step 22 (11, a0 :: a1 :: a2 :: l, .int x :: st, M) = some (12, a0 :: a1 :: some (.int x) :: l, st, M) := st_istore_n q22_11 (pj_st_2 h)
theorem q22_12 : pj_row 22 12 = some (.iload_n 2, 1, 0, 0, 0) := by decide +kernel
theorem s22_12 {st : List Value} {M : pj_Mem} {l : pj_Loc} {a0 a1 : Option Value} {x : Int32} : pj_step 22 (12, a0 :: a1 :: some (.int x) :: l, st, M) = some (13, a0 :: a1 :: some (.int x) :: l, .int x :: st, M) := st_iload_n q22_12 rfl
theorem q22_13 : pj_row 22 13 = some (.iconst 3, 1, 0, 0, 0) := by decide +kernel
theorem s22_13 {L : pj_Loc} {st : List Value} {M : pj_Mem}  : pj_step 22 (13, L, st, M) = some (14, L, .int 3 :: st, M) := st_iconst q22_13 (by decide +kernel)
theorem q22_14 : pj_row 22 14 = some (.if_icmp .ge 39, 3, 53, 0, 0) := by decide +kernel
theorem s22_14 {L : pj_Loc} {st : List Value} {M : pj_Mem} {x y : Int32} : pj_step 22 (14, L, .int y :: .int x :: st, M) = some (if y ≤ x then 53 else 17, L, st, M) := st_icmp_ge q22_14
theorem q22_17 : pj_row 22 17 = some (.aload_n 0, 1, 0, 0, 0) := by decide +kernel
theorem s22_17 {st : List Value} {M : pj_Mem} {l : pj_Loc} {x : Nat} : pj_step 22 (17, some (.ref x) :: l, st, M) = some (18, some (.ref x) :: l, .ref x :: st, M) := st_aload_n q22_17 rfl
theorem q22_18 : pj_row 22 18 = some (.getfield 15, 3, 3, 1, 0) := by decide +kernel
theorem s22_18 {L : pj_Loc} {st : List Value} {N S : Nat} {H : pj_Heap} {o : Nat} : pj_step 22 (18, L, .ref o :: st, (N, S, H)) = pj_pv 21 L st (N, S, H) (pj_fld (H o) 3 1) := st_getfield q22_18
theorem q22_21 : pj_row 22 21 = some (.iload_n 2, 1, 0, 0, 0) := by decide +kernel
theorem s22_21 {st : List Value} {M : pj_Mem} {l : pj_Loc} {a0 a1 : Option Value} {x : Int32} : pj_step 22 (21, a0 :: a1 :: some (.int x) :: l, st, M) = some (22, a0 :: a1 :: some (.int x) :: l, .int x :: st, M) := st_iload_n q22_21 rfl
theorem q22_22 : pj_row 22 22 = some (.iaload, 1, 0, 0, 0) := by decide +kernel
theorem s22_22 {L : pj_Loc} {st : List Value} {N S : Nat} {H : pj_Heap} {o : Nat} {i : Int32} : pj_step 22 (22, L, .int i :: .ref o :: st, (N, S, H)) = pj_pi 23 L st (N, S, H) (pj_arl (H o) 0 i) := st_iaload q22_22
theorem q22_23 : pj_row 22 23 = some (.aload_n 0, 1, 0, 0, 0) := by decide +kernel
theorem s22_23 {st : List Value} {M : pj_Mem} {l : pj_Loc} {x : Nat} : pj_step 22 (23, some (.ref x) :: l, st, M) = some (24, some (.ref x) :: l, .ref x :: st, M) := st_aload_n q22_23 rfl
theorem q22_24 : pj_row 22 24 = some (.getfield 103, 3, 3, 9, 0) := by decide +kernel
theorem s22_24 {L : pj_Loc} {st : List Value} {N S : Nat} {H : pj_Heap} {o : Nat} : pj_step 22 (24, L, .ref o :: st, (N, S, H)) = pj_pv 27 L st (N, S, H) (pj_fld (H o) 3 9) := st_getfield q22_24
theorem q22_27 : pj_row 22 27 = some (.isub, 1, 0, 0, 0) := by decide +kernel
theorem s22_27 {L : pj_Loc} {st : List Value} {M : pj_Mem} {x y : Int32} : pj_step 22 (27, L, .int y :: .int x :: st, M) = some (28, L, .int (x - y) :: st, M) := st_isub q22_27
theorem q22_28 : pj_row 22 28 = some (.invokestatic 113, 3, 0, 1, 6) := by decide +kernel
theorem s22_28 {L : pj_Loc} {st : List Value} {M : pj_Mem} {x : Int32} : pj_step 22 (28, L, .int x :: st, M) = pj_g4 st (some (31, L, .int (if 0 ≤ x then x else 0 - x) :: st, M)) := st_abs q22_28
theorem q22_31 : pj_row 22 31 = some (.iload_n 1, 1, 0, 0, 0) := by decide +kernel
theorem s22_31 {st : List Value} {M : pj_Mem} {l : pj_Loc} {a0 : Option Value} {x : Int32} : pj_step 22 (31, a0 :: some (.int x) :: l, st, M) = some (32, a0 :: some (.int x) :: l, .int x :: st, M) := st_iload_n q22_31 rfl
theorem q22_32 : pj_row 22 32 = some (.if_icmp .le 15, 3, 47, 0, 0) := by decide +kernel
theorem s22_32 {L : pj_Loc} {st : List Value} {M : pj_Mem} {x y : Int32} : pj_step 22 (32, L, .int y :: .int x :: st, M) = some (if x ≤ y then 47 else 35, L, st, M) := st_icmp_le q22_32
theorem q22_35 : pj_row 22 35 = some (.aload_n 0, 1, 0, 0, 0) := by decide +kernel
theorem s22_35 {st : List Value} {M : pj_Mem} {l : pj_Loc} {x : Nat} : pj_step 22 (35, some (.ref x) :: l, st, M) = some (36, some (.ref x) :: l, .ref x :: st, M) := st_aload_n q22_35 rfl
theorem q22_36 : pj_row 22 36 = some (.aload_n 0, 1, 0, 0, 0) := by decide +kernel
theorem s22_36 {st : List Value} {M : pj_Mem} {l : pj_Loc} {x : Nat} : pj_step 22 (36, some (.ref x) :: l, st, M) = some (37, some (.ref x) :: l, .ref x :: st, M) := st_aload_n q22_36 rfl
theorem q22_37 : pj_row 22 37 = some (.getfield 89, 3, 3, 8, 0) := by decide +kernel
theorem s22_37 {L : pj_Loc} {st : List Value} {N S : Nat} {H : pj_Heap} {o : Nat} : pj_step 22 (37, L, .ref o :: st, (N, S, H)) = pj_pv 40 L st (N, S, H) (pj_fld (H o) 3 8) := st_getfield q22_37
theorem q22_40 : pj_row 22 40 = some (.iload_n 2, 1, 0, 0, 0) := by decide +kernel
theorem s22_40 {st : List Value} {M : pj_Mem} {l : pj_Loc} {a0 a1 : Option Value} {x : Int32} : pj_step 22 (40, a0 :: a1 :: some (.int x) :: l, st, M) = some (41, a0 :: a1 :: some (.int x) :: l, .int x :: st, M) := st_iload_n q22_40 rfl
theorem q22_41 : pj_row 22 41 = some (.invokestatic 92, 3, 17, 2, 1) := by decide +kernel
theorem e22_41 {L : pj_Loc} {st : List Value} {N S : Nat} {H : pj_Heap} {o : Option Value × pj_Mem} {M' : pj_Mem} {x0 : Int32} {x1 : Int32} {r : Int32} (h4 : pj_le4 st = true) (h1 : pj_Ends 17 (0, [some (.int x0), some (.int x1)], [], (N, S, H)) (some (.int r), M')) (h2 : pj_Ends 22 (44, L, .int r :: st, M') o) : pj_Ends 22 (41, L, .int x1 :: .int x0 :: st, (N, S, H)) o := ec_s2 q22_41 (Or.inr rfl) h4 rfl h1 h2
theorem q22_44 : pj_row 22 44 = some (.putfield 89, 3, 3, 8, 0) := by decide +kernel
theorem s22_44 {L : pj_Loc} {st : List Value} {N S : Nat} {H : pj_Heap} {o : Nat} {v : Value} : pj_step 22 (44, L, v :: .ref o :: st, (N, S, H)) = pj_set 47 L st (N, S, H) o (pj_fset (H o) 3 8 v) := st_putfield q22_44
theorem q22_47 : pj_row 22 47 = some (.iinc 2 1, 3, 0, 0, 0) := by decide +kernel
theorem s22_47 {st : List Value} {M : pj_Mem} {l : pj_Loc} {a0 a1 : Option Value} {x : Int32} (h : pj_long a1 = false) : pj_step 22 (47, a0 :: a1 :: some (.int x) :: l, st, M) = some (50, a0 :: a1 :: some (.int (x + 1)) :: l, st, M) := st_iinc q22_47 rfl (congrArg (fun y => x + y) (show Int32.ofInt 1 = 1 by decide +kernel)) (pj_st_2 h)
theorem q22_50 : pj_row 22 50 = some (.goto (-38), 3, 12, 0, 0) := by decide +kernel
theorem s22_50 {L : pj_Loc} {st : List Value} {M : pj_Mem}  : pj_step 22 (50, L, st, M) = some (12, L, st, M) := st_goto q22_50
theorem q22_53 : pj_row 22 53 = some (.return_, 1, 0, 0, 0) := by decide +kernel
theorem t22_53 {L : pj_Loc} {M : pj_Mem} : pj_Ends 22 (53, L, [], M) (none, M) := pj_Ends.ret q22_53 (pj_rtn_v rt22)
theorem rt23 : pj_rt 23 = none := rfl
theorem q23_0 : pj_row 23 0 = some (.aload_n 0, 1, 0, 0, 0) := by decide +kernel
theorem s23_0 {st : List Value} {M : pj_Mem} {l : pj_Loc} {x : Nat} : pj_step 23 (0, some (.ref x) :: l, st, M) = some (1, some (.ref x) :: l, .ref x :: st, M) := st_aload_n q23_0 rfl
theorem q23_1 : pj_row 23 1 = some (.getfield 103, 3, 3, 9, 0) := by decide +kernel
theorem s23_1 {L : pj_Loc} {st : List Value} {N S : Nat} {H : pj_Heap} {o : Nat} : pj_step 23 (1, L, .ref o :: st, (N, S, H)) = pj_pv 4 L st (N, S, H) (pj_fld (H o) 3 9) := st_getfield q23_1
theorem q23_4 : pj_row 23 4 = some (.invokestatic 113, 3, 0, 1, 6) := by decide +kernel
theorem s23_4 {L : pj_Loc} {st : List Value} {M : pj_Mem} {x : Int32} : pj_step 23 (4, L, .int x :: st, M) = pj_g4 st (some (7, L, .int (if 0 ≤ x then x else 0 - x) :: st, M)) := st_abs q23_4
theorem q23_7 : pj_row 23 7 = some (.iconst 3, 1, 0, 0, 0) := by decide +kernel
theorem s23_7 {L : pj_Loc} {st : List Value} {M : pj_Mem}  : pj_step 23 (7, L, st, M) = some (8, L, .int 3 :: st, M) := st_iconst q23_7 (by decide +kernel)
theorem q23_8 : pj_row 23 8 = some (.if_icmp .gt 14, 3, 22, 0, 0) := by decide +kernel
theorem s23_8 {L : pj_Loc} {st : List Value} {M : pj_Mem} {x y : Int32} : pj_step 23 (8, L, .int y :: .int x :: st, M) = some (if y < x then 22 else 11, L, st, M) := st_icmp_gt q23_8
theorem q23_11 : pj_row 23 11 = some (.aload_n 0, 1, 0, 0, 0) := by decide +kernel
theorem s23_11 {st : List Value} {M : pj_Mem} {l : pj_Loc} {x : Nat} : pj_step 23 (11, some (.ref x) :: l, st, M) = some (12, some (.ref x) :: l, .ref x :: st, M) := st_aload_n q23_11 rfl
theorem q23_12 : pj_row 23 12 = some (.getfield 39, 3, 3, 6, 0) := by decide +kernel
theorem s23_12 {L : pj_Loc} {st : List Value} {N S : Nat} {H : pj_Heap} {o : Nat} : pj_step 23 (12, L, .ref o :: st, (N, S, H)) = pj_pv 15 L st (N, S, H) (pj_fld (H o) 3 6) := st_getfield q23_12
theorem q23_15 : pj_row 23 15 = some (.ifCond .ne 7, 3, 22, 0, 0) := by decide +kernel
theorem s23_15 {L : pj_Loc} {st : List Value} {M : pj_Mem} {x : Int32} : pj_step 23 (15, L, .int x :: st, M) = some (if ¬ x = 0 then 22 else 18, L, st, M) := st_if_ne q23_15
theorem q23_18 : pj_row 23 18 = some (.iconst 1, 1, 0, 0, 0) := by decide +kernel
theorem s23_18 {L : pj_Loc} {st : List Value} {M : pj_Mem}  : pj_step 23 (18, L, st, M) = some (19, L, .int 1 :: st, M) := st_iconst q23_18 (by decide +kernel)
theorem q23_19 : pj_row 23 19 = some (.goto 4, 3, 23, 0, 0) := by decide +kernel
theorem s23_19 {L : pj_Loc} {st : List Value} {M : pj_Mem}  : pj_step 23 (19, L, st, M) = some (23, L, st, M) := st_goto q23_19
theorem q23_22 : pj_row 23 22 = some (.iconst 0, 1, 0, 0, 0) := by decide +kernel
theorem s23_22 {L : pj_Loc} {st : List Value} {M : pj_Mem}  : pj_step 23 (22, L, st, M) = some (23, L, .int 0 :: st, M) := st_iconst q23_22 (by decide +kernel)
theorem q23_23 : pj_row 23 23 = some (.istore_n 2, 1, 0, 0, 0) := by decide +kernel
theorem s23_23 {st : List Value} {M : pj_Mem} {l : pj_Loc} {a0 a1 a2 : Option Value} {x : Int32} (h : pj_long a1 = false) : pj_step 23 (23, a0 :: a1 :: a2 :: l, .int x :: st, M) = some (24, a0 :: a1 :: some (.int x) :: l, st, M) := st_istore_n q23_23 (pj_st_2 h)
theorem q23_24 : pj_row 23 24 = some (.iconst 0, 1, 0, 0, 0) := by decide +kernel
theorem s23_24 {L : pj_Loc} {st : List Value} {M : pj_Mem}  : pj_step 23 (24, L, st, M) = some (25, L, .int 0 :: st, M) := st_iconst q23_24 (by decide +kernel)
theorem q23_25 : pj_row 23 25 = some (.istore_n 3, 1, 0, 0, 0) := by decide +kernel
theorem s23_25 {st : List Value} {M : pj_Mem} {l : pj_Loc} {a0 a1 a2 a3 : Option Value} {x : Int32} (h : pj_long a2 = false) : pj_step 23 (25, a0 :: a1 :: a2 :: a3 :: l, .int x :: st, M) = some (26, a0 :: a1 :: a2 :: some (.int x) :: l, st, M) := st_istore_n q23_25 (pj_st_3 h)
theorem q23_26 : pj_row 23 26 = some (.iload_n 3, 1, 0, 0, 0) := by decide +kernel
theorem s23_26 {st : List Value} {M : pj_Mem} {l : pj_Loc} {a0 a1 a2 : Option Value} {x : Int32} : pj_step 23 (26, a0 :: a1 :: a2 :: some (.int x) :: l, st, M) = some (27, a0 :: a1 :: a2 :: some (.int x) :: l, .int x :: st, M) := st_iload_n q23_26 rfl
theorem q23_27 : pj_row 23 27 = some (.iconst 3, 1, 0, 0, 0) := by decide +kernel
theorem s23_27 {L : pj_Loc} {st : List Value} {M : pj_Mem}  : pj_step 23 (27, L, st, M) = some (28, L, .int 3 :: st, M) := st_iconst q23_27 (by decide +kernel)
theorem q23_28 : pj_row 23 28 = some (.if_icmp .ge 66, 3, 94, 0, 0) := by decide +kernel
theorem s23_28 {L : pj_Loc} {st : List Value} {M : pj_Mem} {x y : Int32} : pj_step 23 (28, L, .int y :: .int x :: st, M) = some (if y ≤ x then 94 else 31, L, st, M) := st_icmp_ge q23_28
theorem q23_31 : pj_row 23 31 = some (.iload_n 2, 1, 0, 0, 0) := by decide +kernel
theorem s23_31 {st : List Value} {M : pj_Mem} {l : pj_Loc} {a0 a1 : Option Value} {x : Int32} : pj_step 23 (31, a0 :: a1 :: some (.int x) :: l, st, M) = some (32, a0 :: a1 :: some (.int x) :: l, .int x :: st, M) := st_iload_n q23_31 rfl
theorem q23_32 : pj_row 23 32 = some (.ifCond .eq 18, 3, 50, 0, 0) := by decide +kernel
theorem s23_32 {L : pj_Loc} {st : List Value} {M : pj_Mem} {x : Int32} : pj_step 23 (32, L, .int x :: st, M) = some (if x = 0 then 50 else 35, L, st, M) := st_if_eq q23_32
theorem q23_35 : pj_row 23 35 = some (.aload_n 0, 1, 0, 0, 0) := by decide +kernel
theorem s23_35 {st : List Value} {M : pj_Mem} {l : pj_Loc} {x : Nat} : pj_step 23 (35, some (.ref x) :: l, st, M) = some (36, some (.ref x) :: l, .ref x :: st, M) := st_aload_n q23_35 rfl
theorem q23_36 : pj_row 23 36 = some (.getfield 89, 3, 3, 8, 0) := by decide +kernel
theorem s23_36 {L : pj_Loc} {st : List Value} {N S : Nat} {H : pj_Heap} {o : Nat} : pj_step 23 (36, L, .ref o :: st, (N, S, H)) = pj_pv 39 L st (N, S, H) (pj_fld (H o) 3 8) := st_getfield q23_36
theorem q23_39 : pj_row 23 39 = some (.iload_n 3, 1, 0, 0, 0) := by decide +kernel
theorem s23_39 {st : List Value} {M : pj_Mem} {l : pj_Loc} {a0 a1 a2 : Option Value} {x : Int32} : pj_step 23 (39, a0 :: a1 :: a2 :: some (.int x) :: l, st, M) = some (40, a0 :: a1 :: a2 :: some (.int x) :: l, .int x :: st, M) := st_iload_n q23_39 rfl
theorem q23_40 : pj_row 23 40 = some (.invokestatic 109, 3, 21, 2, 1) := by decide +kernel
theorem e23_40 {L : pj_Loc} {st : List Value} {N S : Nat} {H : pj_Heap} {o : Option Value × pj_Mem} {M' : pj_Mem} {x0 : Int32} {x1 : Int32} {r : Int32} (h4 : pj_le4 st = true) (h1 : pj_Ends 21 (0, [some (.int x0), some (.int x1)], [], (N, S, H)) (some (.int r), M')) (h2 : pj_Ends 23 (43, L, .int r :: st, M') o) : pj_Ends 23 (40, L, .int x1 :: .int x0 :: st, (N, S, H)) o := ec_s2 q23_40 (Or.inr rfl) h4 rfl h1 h2
theorem q23_43 : pj_row 23 43 = some (.ifCond .eq 7, 3, 50, 0, 0) := by decide +kernel
theorem s23_43 {L : pj_Loc} {st : List Value} {M : pj_Mem} {x : Int32} : pj_step 23 (43, L, .int x :: st, M) = some (if x = 0 then 50 else 46, L, st, M) := st_if_eq q23_43
theorem q23_46 : pj_row 23 46 = some (.iconst 1, 1, 0, 0, 0) := by decide +kernel
theorem s23_46 {L : pj_Loc} {st : List Value} {M : pj_Mem}  : pj_step 23 (46, L, st, M) = some (47, L, .int 1 :: st, M) := st_iconst q23_46 (by decide +kernel)
theorem q23_47 : pj_row 23 47 = some (.goto 4, 3, 51, 0, 0) := by decide +kernel
theorem s23_47 {L : pj_Loc} {st : List Value} {M : pj_Mem}  : pj_step 23 (47, L, st, M) = some (51, L, st, M) := st_goto q23_47
theorem q23_50 : pj_row 23 50 = some (.iconst 0, 1, 0, 0, 0) := by decide +kernel
theorem s23_50 {L : pj_Loc} {st : List Value} {M : pj_Mem}  : pj_step 23 (50, L, st, M) = some (51, L, .int 0 :: st, M) := st_iconst q23_50 (by decide +kernel)
theorem q23_51 : pj_row 23 51 = some (.istore 4, 2, 0, 0, 0) := by decide +kernel
theorem s23_51 {st : List Value} {M : pj_Mem} {l : pj_Loc} {a0 a1 a2 a3 a4 : Option Value} {x : Int32} (h : pj_long a3 = false) : pj_step 23 (51, a0 :: a1 :: a2 :: a3 :: a4 :: l, .int x :: st, M) = some (53, a0 :: a1 :: a2 :: a3 :: some (.int x) :: l, st, M) := st_istore q23_51 (pj_st_4 h)
theorem q23_53 : pj_row 23 53 = some (.aload_n 0, 1, 0, 0, 0) := by decide +kernel
theorem s23_53 {st : List Value} {M : pj_Mem} {l : pj_Loc} {x : Nat} : pj_step 23 (53, some (.ref x) :: l, st, M) = some (54, some (.ref x) :: l, .ref x :: st, M) := st_aload_n q23_53 rfl
theorem q23_54 : pj_row 23 54 = some (.getfield 18, 3, 3, 2, 0) := by decide +kernel
theorem s23_54 {L : pj_Loc} {st : List Value} {N S : Nat} {H : pj_Heap} {o : Nat} : pj_step 23 (54, L, .ref o :: st, (N, S, H)) = pj_pv 57 L st (N, S, H) (pj_fld (H o) 3 2) := st_getfield q23_54
theorem q23_57 : pj_row 23 57 = some (.iload_n 3, 1, 0, 0, 0) := by decide +kernel
theorem s23_57 {st : List Value} {M : pj_Mem} {l : pj_Loc} {a0 a1 a2 : Option Value} {x : Int32} : pj_step 23 (57, a0 :: a1 :: a2 :: some (.int x) :: l, st, M) = some (58, a0 :: a1 :: a2 :: some (.int x) :: l, .int x :: st, M) := st_iload_n q23_57 rfl
theorem q23_58 : pj_row 23 58 = some (.iload 4, 2, 0, 0, 0) := by decide +kernel
theorem s23_58 {st : List Value} {M : pj_Mem} {l : pj_Loc} {a0 a1 a2 a3 : Option Value} {x : Int32} : pj_step 23 (58, a0 :: a1 :: a2 :: a3 :: some (.int x) :: l, st, M) = some (60, a0 :: a1 :: a2 :: a3 :: some (.int x) :: l, .int x :: st, M) := st_iload q23_58 rfl
theorem q23_60 : pj_row 23 60 = some (.ifCond .eq 21, 3, 81, 0, 0) := by decide +kernel
theorem s23_60 {L : pj_Loc} {st : List Value} {M : pj_Mem} {x : Int32} : pj_step 23 (60, L, .int x :: st, M) = some (if x = 0 then 81 else 63, L, st, M) := st_if_eq q23_60
theorem q23_63 : pj_row 23 63 = some (.aload_n 1, 1, 0, 0, 0) := by decide +kernel
theorem s23_63 {st : List Value} {M : pj_Mem} {l : pj_Loc} {a0 : Option Value} {x : Nat} : pj_step 23 (63, a0 :: some (.ref x) :: l, st, M) = some (64, a0 :: some (.ref x) :: l, .ref x :: st, M) := st_aload_n q23_63 rfl
theorem q23_64 : pj_row 23 64 = some (.getfield 95, 3, 4, 1, 0) := by decide +kernel
theorem s23_64 {L : pj_Loc} {st : List Value} {N S : Nat} {H : pj_Heap} {o : Nat} : pj_step 23 (64, L, .ref o :: st, (N, S, H)) = pj_pv 67 L st (N, S, H) (pj_fld (H o) 4 1) := st_getfield q23_64
theorem q23_67 : pj_row 23 67 = some (.iload_n 3, 1, 0, 0, 0) := by decide +kernel
theorem s23_67 {st : List Value} {M : pj_Mem} {l : pj_Loc} {a0 a1 a2 : Option Value} {x : Int32} : pj_step 23 (67, a0 :: a1 :: a2 :: some (.int x) :: l, st, M) = some (68, a0 :: a1 :: a2 :: some (.int x) :: l, .int x :: st, M) := st_iload_n q23_67 rfl
theorem q23_68 : pj_row 23 68 = some (.iaload, 1, 0, 0, 0) := by decide +kernel
theorem s23_68 {L : pj_Loc} {st : List Value} {N S : Nat} {H : pj_Heap} {o : Nat} {i : Int32} : pj_step 23 (68, L, .int i :: .ref o :: st, (N, S, H)) = pj_pi 69 L st (N, S, H) (pj_arl (H o) 0 i) := st_iaload q23_68
theorem q23_69 : pj_row 23 69 = some (.aload_n 0, 1, 0, 0, 0) := by decide +kernel
theorem s23_69 {st : List Value} {M : pj_Mem} {l : pj_Loc} {x : Nat} : pj_step 23 (69, some (.ref x) :: l, st, M) = some (70, some (.ref x) :: l, .ref x :: st, M) := st_aload_n q23_69 rfl
theorem q23_70 : pj_row 23 70 = some (.getfield 9, 3, 3, 0, 0) := by decide +kernel
theorem s23_70 {L : pj_Loc} {st : List Value} {N S : Nat} {H : pj_Heap} {o : Nat} : pj_step 23 (70, L, .ref o :: st, (N, S, H)) = pj_pv 73 L st (N, S, H) (pj_fld (H o) 3 0) := st_getfield q23_70
theorem q23_73 : pj_row 23 73 = some (.iload_n 3, 1, 0, 0, 0) := by decide +kernel
theorem s23_73 {st : List Value} {M : pj_Mem} {l : pj_Loc} {a0 a1 a2 : Option Value} {x : Int32} : pj_step 23 (73, a0 :: a1 :: a2 :: some (.int x) :: l, st, M) = some (74, a0 :: a1 :: a2 :: some (.int x) :: l, .int x :: st, M) := st_iload_n q23_73 rfl
theorem q23_74 : pj_row 23 74 = some (.iaload, 1, 0, 0, 0) := by decide +kernel
theorem s23_74 {L : pj_Loc} {st : List Value} {N S : Nat} {H : pj_Heap} {o : Nat} {i : Int32} : pj_step 23 (74, L, .int i :: .ref o :: st, (N, S, H)) = pj_pi 75 L st (N, S, H) (pj_arl (H o) 0 i) := st_iaload q23_74
theorem q23_75 : pj_row 23 75 = some (.invokestatic 116, 3, 24, 2, 0) := by decide +kernel
theorem e23_75 {L : pj_Loc} {st : List Value} {N S : Nat} {H : pj_Heap} {o : Option Value × pj_Mem} {M' : pj_Mem} {x0 : Int32} {x1 : Int32} {r : Int32} (h4 : pj_le4 st = true) (h1 : pj_Ends 24 (0, [some (.int x0), some (.int x1)], [], (N, S, H)) (some (.int r), M')) (h2 : pj_Ends 23 (78, L, .int r :: st, M') o) : pj_Ends 23 (75, L, .int x1 :: .int x0 :: st, (N, S, H)) o := ec_s2 q23_75 (Or.inl rfl) h4 rfl h1 h2
theorem q23_78 : pj_row 23 78 = some (.goto 9, 3, 87, 0, 0) := by decide +kernel
theorem s23_78 {L : pj_Loc} {st : List Value} {M : pj_Mem}  : pj_step 23 (78, L, st, M) = some (87, L, st, M) := st_goto q23_78
theorem q23_81 : pj_row 23 81 = some (.aload_n 1, 1, 0, 0, 0) := by decide +kernel
theorem s23_81 {st : List Value} {M : pj_Mem} {l : pj_Loc} {a0 : Option Value} {x : Nat} : pj_step 23 (81, a0 :: some (.ref x) :: l, st, M) = some (82, a0 :: some (.ref x) :: l, .ref x :: st, M) := st_aload_n q23_81 rfl
theorem q23_82 : pj_row 23 82 = some (.getfield 95, 3, 4, 1, 0) := by decide +kernel
theorem s23_82 {L : pj_Loc} {st : List Value} {N S : Nat} {H : pj_Heap} {o : Nat} : pj_step 23 (82, L, .ref o :: st, (N, S, H)) = pj_pv 85 L st (N, S, H) (pj_fld (H o) 4 1) := st_getfield q23_82
theorem q23_85 : pj_row 23 85 = some (.iload_n 3, 1, 0, 0, 0) := by decide +kernel
theorem s23_85 {st : List Value} {M : pj_Mem} {l : pj_Loc} {a0 a1 a2 : Option Value} {x : Int32} : pj_step 23 (85, a0 :: a1 :: a2 :: some (.int x) :: l, st, M) = some (86, a0 :: a1 :: a2 :: some (.int x) :: l, .int x :: st, M) := st_iload_n q23_85 rfl
theorem q23_86 : pj_row 23 86 = some (.iaload, 1, 0, 0, 0) := by decide +kernel
theorem s23_86 {L : pj_Loc} {st : List Value} {N S : Nat} {H : pj_Heap} {o : Nat} {i : Int32} : pj_step 23 (86, L, .int i :: .ref o :: st, (N, S, H)) = pj_pi 87 L st (N, S, H) (pj_arl (H o) 0 i) := st_iaload q23_86
theorem q23_87 : pj_row 23 87 = some (.iastore, 1, 0, 0, 0) := by decide +kernel
theorem s23_87 {L : pj_Loc} {st : List Value} {N S : Nat} {H : pj_Heap} {o : Nat} {i x : Int32} : pj_step 23 (87, L, .int x :: .int i :: .ref o :: st, (N, S, H)) = pj_set 88 L st (N, S, H) o (pj_ars (H o) 0 i x) := st_iastore q23_87
theorem q23_88 : pj_row 23 88 = some (.iinc 3 1, 3, 0, 0, 0) := by decide +kernel
theorem s23_88 {st : List Value} {M : pj_Mem} {l : pj_Loc} {a0 a1 a2 : Option Value} {x : Int32} (h : pj_long a2 = false) : pj_step 23 (88, a0 :: a1 :: a2 :: some (.int x) :: l, st, M) = some (91, a0 :: a1 :: a2 :: some (.int (x + 1)) :: l, st, M) := st_iinc q23_88 rfl (congrArg (fun y => x + y) (show Int32.ofInt 1 = 1 by decide +kernel)) (pj_st_3 h)
theorem q23_91 : pj_row 23 91 = some (.goto (-65), 3, 26, 0, 0) := by decide +kernel
theorem s23_91 {L : pj_Loc} {st : List Value} {M : pj_Mem}  : pj_step 23 (91, L, st, M) = some (26, L, st, M) := st_goto q23_91
theorem q23_94 : pj_row 23 94 = some (.return_, 1, 0, 0, 0) := by decide +kernel
theorem t23_94 {L : pj_Loc} {M : pj_Mem} : pj_Ends 23 (94, L, [], M) (none, M) := pj_Ends.ret q23_94 (pj_rtn_v rt23)
theorem rt24 : pj_rt 24 = some .int := rfl
theorem q24_0 : pj_row 24 0 = some (.iload_n 0, 1, 0, 0, 0) := by decide +kernel
theorem s24_0 {st : List Value} {M : pj_Mem} {l : pj_Loc} {x : Int32} : pj_step 24 (0, some (.int x) :: l, st, M) = some (1, some (.int x) :: l, .int x :: st, M) := st_iload_n q24_0 rfl
theorem q24_1 : pj_row 24 1 = some (.iload_n 1, 1, 0, 0, 0) := by decide +kernel
theorem s24_1 {st : List Value} {M : pj_Mem} {l : pj_Loc} {a0 : Option Value} {x : Int32} : pj_step 24 (1, a0 :: some (.int x) :: l, st, M) = some (2, a0 :: some (.int x) :: l, .int x :: st, M) := st_iload_n q24_1 rfl
theorem q24_2 : pj_row 24 2 = some (.if_icmp .ge 7, 3, 9, 0, 0) := by decide +kernel
theorem s24_2 {L : pj_Loc} {st : List Value} {M : pj_Mem} {x y : Int32} : pj_step 24 (2, L, .int y :: .int x :: st, M) = some (if y ≤ x then 9 else 5, L, st, M) := st_icmp_ge q24_2
theorem q24_5 : pj_row 24 5 = some (.iload_n 0, 1, 0, 0, 0) := by decide +kernel
theorem s24_5 {st : List Value} {M : pj_Mem} {l : pj_Loc} {x : Int32} : pj_step 24 (5, some (.int x) :: l, st, M) = some (6, some (.int x) :: l, .int x :: st, M) := st_iload_n q24_5 rfl
theorem q24_6 : pj_row 24 6 = some (.iconst 1, 1, 0, 0, 0) := by decide +kernel
theorem s24_6 {L : pj_Loc} {st : List Value} {M : pj_Mem}  : pj_step 24 (6, L, st, M) = some (7, L, .int 1 :: st, M) := st_iconst q24_6 (by decide +kernel)
theorem q24_7 : pj_row 24 7 = some (.iadd, 1, 0, 0, 0) := by decide +kernel
theorem s24_7 {L : pj_Loc} {st : List Value} {M : pj_Mem} {x y : Int32} : pj_step 24 (7, L, .int y :: .int x :: st, M) = some (8, L, .int (x + y) :: st, M) := st_iadd q24_7
theorem q24_8 : pj_row 24 8 = some (.ireturn, 1, 0, 0, 0) := by decide +kernel
theorem t24_8 {L : pj_Loc} {M : pj_Mem} {v : Int32} : pj_Ends 24 (8, L, [.int v], M) (some (.int v), M) := pj_Ends.ret q24_8 (pj_rtn_i rt24)
theorem q24_9 : pj_row 24 9 = some (.iload_n 0, 1, 0, 0, 0) := by decide +kernel
theorem s24_9 {st : List Value} {M : pj_Mem} {l : pj_Loc} {x : Int32} : pj_step 24 (9, some (.int x) :: l, st, M) = some (10, some (.int x) :: l, .int x :: st, M) := st_iload_n q24_9 rfl
theorem q24_10 : pj_row 24 10 = some (.iload_n 1, 1, 0, 0, 0) := by decide +kernel
theorem s24_10 {st : List Value} {M : pj_Mem} {l : pj_Loc} {a0 : Option Value} {x : Int32} : pj_step 24 (10, a0 :: some (.int x) :: l, st, M) = some (11, a0 :: some (.int x) :: l, .int x :: st, M) := st_iload_n q24_10 rfl
theorem q24_11 : pj_row 24 11 = some (.if_icmp .le 9, 3, 20, 0, 0) := by decide +kernel
theorem s24_11 {L : pj_Loc} {st : List Value} {M : pj_Mem} {x y : Int32} : pj_step 24 (11, L, .int y :: .int x :: st, M) = some (if x ≤ y then 20 else 14, L, st, M) := st_icmp_le q24_11
theorem q24_14 : pj_row 24 14 = some (.iload_n 0, 1, 0, 0, 0) := by decide +kernel
theorem s24_14 {st : List Value} {M : pj_Mem} {l : pj_Loc} {x : Int32} : pj_step 24 (14, some (.int x) :: l, st, M) = some (15, some (.int x) :: l, .int x :: st, M) := st_iload_n q24_14 rfl
theorem q24_15 : pj_row 24 15 = some (.iconst 1, 1, 0, 0, 0) := by decide +kernel
theorem s24_15 {L : pj_Loc} {st : List Value} {M : pj_Mem}  : pj_step 24 (15, L, st, M) = some (16, L, .int 1 :: st, M) := st_iconst q24_15 (by decide +kernel)
theorem q24_16 : pj_row 24 16 = some (.isub, 1, 0, 0, 0) := by decide +kernel
theorem s24_16 {L : pj_Loc} {st : List Value} {M : pj_Mem} {x y : Int32} : pj_step 24 (16, L, .int y :: .int x :: st, M) = some (17, L, .int (x - y) :: st, M) := st_isub q24_16
theorem q24_17 : pj_row 24 17 = some (.goto 4, 3, 21, 0, 0) := by decide +kernel
theorem s24_17 {L : pj_Loc} {st : List Value} {M : pj_Mem}  : pj_step 24 (17, L, st, M) = some (21, L, st, M) := st_goto q24_17
theorem q24_20 : pj_row 24 20 = some (.iload_n 0, 1, 0, 0, 0) := by decide +kernel
theorem s24_20 {st : List Value} {M : pj_Mem} {l : pj_Loc} {x : Int32} : pj_step 24 (20, some (.int x) :: l, st, M) = some (21, some (.int x) :: l, .int x :: st, M) := st_iload_n q24_20 rfl
theorem q24_21 : pj_row 24 21 = some (.ireturn, 1, 0, 0, 0) := by decide +kernel
theorem t24_21 {L : pj_Loc} {M : pj_Mem} {v : Int32} : pj_Ends 24 (21, L, [.int v], M) (some (.int v), M) := pj_Ends.ret q24_21 (pj_rtn_i rt24)
theorem rt25 : pj_rt 25 = none := rfl
theorem q25_0 : pj_row 25 0 = some (.iconst 0, 1, 0, 0, 0) := by decide +kernel
theorem s25_0 {L : pj_Loc} {st : List Value} {M : pj_Mem}  : pj_step 25 (0, L, st, M) = some (1, L, .int 0 :: st, M) := st_iconst q25_0 (by decide +kernel)
theorem q25_1 : pj_row 25 1 = some (.istore_n 2, 1, 0, 0, 0) := by decide +kernel
theorem s25_1 {st : List Value} {M : pj_Mem} {l : pj_Loc} {a0 a1 a2 : Option Value} {x : Int32} (h : pj_long a1 = false) : pj_step 25 (1, a0 :: a1 :: a2 :: l, .int x :: st, M) = some (2, a0 :: a1 :: some (.int x) :: l, st, M) := st_istore_n q25_1 (pj_st_2 h)
theorem q25_2 : pj_row 25 2 = some (.iload_n 2, 1, 0, 0, 0) := by decide +kernel
theorem s25_2 {st : List Value} {M : pj_Mem} {l : pj_Loc} {a0 a1 : Option Value} {x : Int32} : pj_step 25 (2, a0 :: a1 :: some (.int x) :: l, st, M) = some (3, a0 :: a1 :: some (.int x) :: l, .int x :: st, M) := st_iload_n q25_2 rfl
theorem q25_3 : pj_row 25 3 = some (.iconst 3, 1, 0, 0, 0) := by decide +kernel
theorem s25_3 {L : pj_Loc} {st : List Value} {M : pj_Mem}  : pj_step 25 (3, L, st, M) = some (4, L, .int 3 :: st, M) := st_iconst q25_3 (by decide +kernel)
theorem q25_4 : pj_row 25 4 = some (.if_icmp .ge 61, 3, 65, 0, 0) := by decide +kernel
theorem s25_4 {L : pj_Loc} {st : List Value} {M : pj_Mem} {x y : Int32} : pj_step 25 (4, L, .int y :: .int x :: st, M) = some (if y ≤ x then 65 else 7, L, st, M) := st_icmp_ge q25_4
theorem q25_7 : pj_row 25 7 = some (.aload_n 0, 1, 0, 0, 0) := by decide +kernel
theorem s25_7 {st : List Value} {M : pj_Mem} {l : pj_Loc} {x : Nat} : pj_step 25 (7, some (.ref x) :: l, st, M) = some (8, some (.ref x) :: l, .ref x :: st, M) := st_aload_n q25_7 rfl
theorem q25_8 : pj_row 25 8 = some (.getfield 15, 3, 3, 1, 0) := by decide +kernel
theorem s25_8 {L : pj_Loc} {st : List Value} {N S : Nat} {H : pj_Heap} {o : Nat} : pj_step 25 (8, L, .ref o :: st, (N, S, H)) = pj_pv 11 L st (N, S, H) (pj_fld (H o) 3 1) := st_getfield q25_8
theorem q25_11 : pj_row 25 11 = some (.iload_n 2, 1, 0, 0, 0) := by decide +kernel
theorem s25_11 {st : List Value} {M : pj_Mem} {l : pj_Loc} {a0 a1 : Option Value} {x : Int32} : pj_step 25 (11, a0 :: a1 :: some (.int x) :: l, st, M) = some (12, a0 :: a1 :: some (.int x) :: l, .int x :: st, M) := st_iload_n q25_11 rfl
theorem q25_12 : pj_row 25 12 = some (.iaload, 1, 0, 0, 0) := by decide +kernel
theorem s25_12 {L : pj_Loc} {st : List Value} {N S : Nat} {H : pj_Heap} {o : Nat} {i : Int32} : pj_step 25 (12, L, .int i :: .ref o :: st, (N, S, H)) = pj_pi 13 L st (N, S, H) (pj_arl (H o) 0 i) := st_iaload q25_12
theorem q25_13 : pj_row 25 13 = some (.invokestatic 113, 3, 0, 1, 6) := by decide +kernel
theorem s25_13 {L : pj_Loc} {st : List Value} {M : pj_Mem} {x : Int32} : pj_step 25 (13, L, .int x :: st, M) = pj_g4 st (some (16, L, .int (if 0 ≤ x then x else 0 - x) :: st, M)) := st_abs q25_13
theorem q25_16 : pj_row 25 16 = some (.iconst 4, 1, 0, 0, 0) := by decide +kernel
theorem s25_16 {L : pj_Loc} {st : List Value} {M : pj_Mem}  : pj_step 25 (16, L, st, M) = some (17, L, .int 4 :: st, M) := st_iconst q25_16 (by decide +kernel)
theorem q25_17 : pj_row 25 17 = some (.if_icmp .le 7, 3, 24, 0, 0) := by decide +kernel
theorem s25_17 {L : pj_Loc} {st : List Value} {M : pj_Mem} {x y : Int32} : pj_step 25 (17, L, .int y :: .int x :: st, M) = some (if x ≤ y then 24 else 20, L, st, M) := st_icmp_le q25_17
theorem q25_20 : pj_row 25 20 = some (.iconst 1, 1, 0, 0, 0) := by decide +kernel
theorem s25_20 {L : pj_Loc} {st : List Value} {M : pj_Mem}  : pj_step 25 (20, L, st, M) = some (21, L, .int 1 :: st, M) := st_iconst q25_20 (by decide +kernel)
theorem q25_21 : pj_row 25 21 = some (.goto 4, 3, 25, 0, 0) := by decide +kernel
theorem s25_21 {L : pj_Loc} {st : List Value} {M : pj_Mem}  : pj_step 25 (21, L, st, M) = some (25, L, st, M) := st_goto q25_21
theorem q25_24 : pj_row 25 24 = some (.iconst 0, 1, 0, 0, 0) := by decide +kernel
theorem s25_24 {L : pj_Loc} {st : List Value} {M : pj_Mem}  : pj_step 25 (24, L, st, M) = some (25, L, .int 0 :: st, M) := st_iconst q25_24 (by decide +kernel)
theorem q25_25 : pj_row 25 25 = some (.istore_n 3, 1, 0, 0, 0) := by decide +kernel
theorem s25_25 {st : List Value} {M : pj_Mem} {l : pj_Loc} {a0 a1 a2 a3 : Option Value} {x : Int32} (h : pj_long a2 = false) : pj_step 25 (25, a0 :: a1 :: a2 :: a3 :: l, .int x :: st, M) = some (26, a0 :: a1 :: a2 :: some (.int x) :: l, st, M) := st_istore_n q25_25 (pj_st_3 h)
theorem q25_26 : pj_row 25 26 = some (.aload_n 0, 1, 0, 0, 0) := by decide +kernel
theorem s25_26 {st : List Value} {M : pj_Mem} {l : pj_Loc} {x : Nat} : pj_step 25 (26, some (.ref x) :: l, st, M) = some (27, some (.ref x) :: l, .ref x :: st, M) := st_aload_n q25_26 rfl
theorem q25_27 : pj_row 25 27 = some (.getfield 21, 3, 3, 3, 0) := by decide +kernel
theorem s25_27 {L : pj_Loc} {st : List Value} {N S : Nat} {H : pj_Heap} {o : Nat} : pj_step 25 (27, L, .ref o :: st, (N, S, H)) = pj_pv 30 L st (N, S, H) (pj_fld (H o) 3 3) := st_getfield q25_27
theorem q25_30 : pj_row 25 30 = some (.iload_n 2, 1, 0, 0, 0) := by decide +kernel
theorem s25_30 {st : List Value} {M : pj_Mem} {l : pj_Loc} {a0 a1 : Option Value} {x : Int32} : pj_step 25 (30, a0 :: a1 :: some (.int x) :: l, st, M) = some (31, a0 :: a1 :: some (.int x) :: l, .int x :: st, M) := st_iload_n q25_30 rfl
theorem q25_31 : pj_row 25 31 = some (.aload_n 1, 1, 0, 0, 0) := by decide +kernel
theorem s25_31 {st : List Value} {M : pj_Mem} {l : pj_Loc} {a0 : Option Value} {x : Nat} : pj_step 25 (31, a0 :: some (.ref x) :: l, st, M) = some (32, a0 :: some (.ref x) :: l, .ref x :: st, M) := st_aload_n q25_31 rfl
theorem q25_32 : pj_row 25 32 = some (.getfield 119, 3, 4, 2, 0) := by decide +kernel
theorem s25_32 {L : pj_Loc} {st : List Value} {N S : Nat} {H : pj_Heap} {o : Nat} : pj_step 25 (32, L, .ref o :: st, (N, S, H)) = pj_pv 35 L st (N, S, H) (pj_fld (H o) 4 2) := st_getfield q25_32
theorem q25_35 : pj_row 25 35 = some (.iload_n 2, 1, 0, 0, 0) := by decide +kernel
theorem s25_35 {st : List Value} {M : pj_Mem} {l : pj_Loc} {a0 a1 : Option Value} {x : Int32} : pj_step 25 (35, a0 :: a1 :: some (.int x) :: l, st, M) = some (36, a0 :: a1 :: some (.int x) :: l, .int x :: st, M) := st_iload_n q25_35 rfl
theorem q25_36 : pj_row 25 36 = some (.iaload, 1, 0, 0, 0) := by decide +kernel
theorem s25_36 {L : pj_Loc} {st : List Value} {N S : Nat} {H : pj_Heap} {o : Nat} {i : Int32} : pj_step 25 (36, L, .int i :: .ref o :: st, (N, S, H)) = pj_pi 37 L st (N, S, H) (pj_arl (H o) 0 i) := st_iaload q25_36
theorem q25_37 : pj_row 25 37 = some (.bipush 7, 2, 0, 0, 0) := by decide +kernel
theorem s25_37 {L : pj_Loc} {st : List Value} {M : pj_Mem}  : pj_step 25 (37, L, st, M) = some (39, L, .int 7 :: st, M) := st_bipush q25_37 (by decide +kernel)
theorem q25_39 : pj_row 25 39 = some (.imul, 1, 0, 0, 0) := by decide +kernel
theorem s25_39 {L : pj_Loc} {st : List Value} {M : pj_Mem} {x y : Int32} : pj_step 25 (39, L, .int y :: .int x :: st, M) = some (40, L, .int (x * y) :: st, M) := st_imul q25_39
theorem q25_40 : pj_row 25 40 = some (.bipush 8, 2, 0, 0, 0) := by decide +kernel
theorem s25_40 {L : pj_Loc} {st : List Value} {M : pj_Mem}  : pj_step 25 (40, L, st, M) = some (42, L, .int 8 :: st, M) := st_bipush q25_40 (by decide +kernel)
theorem q25_42 : pj_row 25 42 = some (.idiv, 1, 0, 0, 0) := by decide +kernel
theorem s25_42 {L : pj_Loc} {st : List Value} {M : pj_Mem} {x y : Int32} (hy : ¬ y = 0) : pj_step 25 (42, L, .int y :: .int x :: st, M) = some (43, L, .int (x / y) :: st, M) := st_idiv q25_42 hy
theorem q25_43 : pj_row 25 43 = some (.iload_n 3, 1, 0, 0, 0) := by decide +kernel
theorem s25_43 {st : List Value} {M : pj_Mem} {l : pj_Loc} {a0 a1 a2 : Option Value} {x : Int32} : pj_step 25 (43, a0 :: a1 :: a2 :: some (.int x) :: l, st, M) = some (44, a0 :: a1 :: a2 :: some (.int x) :: l, .int x :: st, M) := st_iload_n q25_43 rfl
theorem q25_44 : pj_row 25 44 = some (.ifCond .eq 12, 3, 56, 0, 0) := by decide +kernel
theorem s25_44 {L : pj_Loc} {st : List Value} {M : pj_Mem} {x : Int32} : pj_step 25 (44, L, .int x :: st, M) = some (if x = 0 then 56 else 47, L, st, M) := st_if_eq q25_44
theorem q25_47 : pj_row 25 47 = some (.aload_n 0, 1, 0, 0, 0) := by decide +kernel
theorem s25_47 {st : List Value} {M : pj_Mem} {l : pj_Loc} {x : Nat} : pj_step 25 (47, some (.ref x) :: l, st, M) = some (48, some (.ref x) :: l, .ref x :: st, M) := st_aload_n q25_47 rfl
theorem q25_48 : pj_row 25 48 = some (.getfield 15, 3, 3, 1, 0) := by decide +kernel
theorem s25_48 {L : pj_Loc} {st : List Value} {N S : Nat} {H : pj_Heap} {o : Nat} : pj_step 25 (48, L, .ref o :: st, (N, S, H)) = pj_pv 51 L st (N, S, H) (pj_fld (H o) 3 1) := st_getfield q25_48
theorem q25_51 : pj_row 25 51 = some (.iload_n 2, 1, 0, 0, 0) := by decide +kernel
theorem s25_51 {st : List Value} {M : pj_Mem} {l : pj_Loc} {a0 a1 : Option Value} {x : Int32} : pj_step 25 (51, a0 :: a1 :: some (.int x) :: l, st, M) = some (52, a0 :: a1 :: some (.int x) :: l, .int x :: st, M) := st_iload_n q25_51 rfl
theorem q25_52 : pj_row 25 52 = some (.iaload, 1, 0, 0, 0) := by decide +kernel
theorem s25_52 {L : pj_Loc} {st : List Value} {N S : Nat} {H : pj_Heap} {o : Nat} {i : Int32} : pj_step 25 (52, L, .int i :: .ref o :: st, (N, S, H)) = pj_pi 53 L st (N, S, H) (pj_arl (H o) 0 i) := st_iaload q25_52
theorem q25_53 : pj_row 25 53 = some (.goto 4, 3, 57, 0, 0) := by decide +kernel
theorem s25_53 {L : pj_Loc} {st : List Value} {M : pj_Mem}  : pj_step 25 (53, L, st, M) = some (57, L, st, M) := st_goto q25_53
theorem q25_56 : pj_row 25 56 = some (.iconst 0, 1, 0, 0, 0) := by decide +kernel
theorem s25_56 {L : pj_Loc} {st : List Value} {M : pj_Mem}  : pj_step 25 (56, L, st, M) = some (57, L, .int 0 :: st, M) := st_iconst q25_56 (by decide +kernel)
theorem q25_57 : pj_row 25 57 = some (.iadd, 1, 0, 0, 0) := by decide +kernel
theorem s25_57 {L : pj_Loc} {st : List Value} {M : pj_Mem} {x y : Int32} : pj_step 25 (57, L, .int y :: .int x :: st, M) = some (58, L, .int (x + y) :: st, M) := st_iadd q25_57
theorem q25_58 : pj_row 25 58 = some (.iastore, 1, 0, 0, 0) := by decide +kernel
theorem s25_58 {L : pj_Loc} {st : List Value} {N S : Nat} {H : pj_Heap} {o : Nat} {i x : Int32} : pj_step 25 (58, L, .int x :: .int i :: .ref o :: st, (N, S, H)) = pj_set 59 L st (N, S, H) o (pj_ars (H o) 0 i x) := st_iastore q25_58
theorem q25_59 : pj_row 25 59 = some (.iinc 2 1, 3, 0, 0, 0) := by decide +kernel
theorem s25_59 {st : List Value} {M : pj_Mem} {l : pj_Loc} {a0 a1 : Option Value} {x : Int32} (h : pj_long a1 = false) : pj_step 25 (59, a0 :: a1 :: some (.int x) :: l, st, M) = some (62, a0 :: a1 :: some (.int (x + 1)) :: l, st, M) := st_iinc q25_59 rfl (congrArg (fun y => x + y) (show Int32.ofInt 1 = 1 by decide +kernel)) (pj_st_2 h)
theorem q25_62 : pj_row 25 62 = some (.goto (-60), 3, 2, 0, 0) := by decide +kernel
theorem s25_62 {L : pj_Loc} {st : List Value} {M : pj_Mem}  : pj_step 25 (62, L, st, M) = some (2, L, st, M) := st_goto q25_62
theorem q25_65 : pj_row 25 65 = some (.return_, 1, 0, 0, 0) := by decide +kernel
theorem t25_65 {L : pj_Loc} {M : pj_Mem} : pj_Ends 25 (65, L, [], M) (none, M) := pj_Ends.ret q25_65 (pj_rtn_v rt25)
theorem rt26 : pj_rt 26 = some .int := rfl
theorem q26_0 : pj_row 26 0 = some (.iconst 0, 1, 0, 0, 0) := by decide +kernel
theorem s26_0 {L : pj_Loc} {st : List Value} {M : pj_Mem}  : pj_step 26 (0, L, st, M) = some (1, L, .int 0 :: st, M) := st_iconst q26_0 (by decide +kernel)
theorem q26_1 : pj_row 26 1 = some (.istore_n 2, 1, 0, 0, 0) := by decide +kernel
theorem s26_1 {st : List Value} {M : pj_Mem} {l : pj_Loc} {a0 a1 a2 : Option Value} {x : Int32} (h : pj_long a1 = false) : pj_step 26 (1, a0 :: a1 :: a2 :: l, .int x :: st, M) = some (2, a0 :: a1 :: some (.int x) :: l, st, M) := st_istore_n q26_1 (pj_st_2 h)
theorem q26_2 : pj_row 26 2 = some (.iconst 0, 1, 0, 0, 0) := by decide +kernel
theorem s26_2 {L : pj_Loc} {st : List Value} {M : pj_Mem}  : pj_step 26 (2, L, st, M) = some (3, L, .int 0 :: st, M) := st_iconst q26_2 (by decide +kernel)
theorem q26_3 : pj_row 26 3 = some (.istore_n 3, 1, 0, 0, 0) := by decide +kernel
theorem s26_3 {st : List Value} {M : pj_Mem} {l : pj_Loc} {a0 a1 a2 a3 : Option Value} {x : Int32} (h : pj_long a2 = false) : pj_step 26 (3, a0 :: a1 :: a2 :: a3 :: l, .int x :: st, M) = some (4, a0 :: a1 :: a2 :: some (.int x) :: l, st, M) := st_istore_n q26_3 (pj_st_3 h)
theorem q26_4 : pj_row 26 4 = some (.iload_n 3, 1, 0, 0, 0) := by decide +kernel
theorem s26_4 {st : List Value} {M : pj_Mem} {l : pj_Loc} {a0 a1 a2 : Option Value} {x : Int32} : pj_step 26 (4, a0 :: a1 :: a2 :: some (.int x) :: l, st, M) = some (5, a0 :: a1 :: a2 :: some (.int x) :: l, .int x :: st, M) := st_iload_n q26_4 rfl
theorem q26_5 : pj_row 26 5 = some (.iconst 3, 1, 0, 0, 0) := by decide +kernel
theorem s26_5 {L : pj_Loc} {st : List Value} {M : pj_Mem}  : pj_step 26 (5, L, st, M) = some (6, L, .int 3 :: st, M) := st_iconst q26_5 (by decide +kernel)
theorem q26_6 : pj_row 26 6 = some (.if_icmp .ge 36, 3, 42, 0, 0) := by decide +kernel
theorem s26_6 {L : pj_Loc} {st : List Value} {M : pj_Mem} {x y : Int32} : pj_step 26 (6, L, .int y :: .int x :: st, M) = some (if y ≤ x then 42 else 9, L, st, M) := st_icmp_ge q26_6
theorem q26_9 : pj_row 26 9 = some (.aload_n 0, 1, 0, 0, 0) := by decide +kernel
theorem s26_9 {st : List Value} {M : pj_Mem} {l : pj_Loc} {x : Nat} : pj_step 26 (9, some (.ref x) :: l, st, M) = some (10, some (.ref x) :: l, .ref x :: st, M) := st_aload_n q26_9 rfl
theorem q26_10 : pj_row 26 10 = some (.getfield 89, 3, 3, 8, 0) := by decide +kernel
theorem s26_10 {L : pj_Loc} {st : List Value} {N S : Nat} {H : pj_Heap} {o : Nat} : pj_step 26 (10, L, .ref o :: st, (N, S, H)) = pj_pv 13 L st (N, S, H) (pj_fld (H o) 3 8) := st_getfield q26_10
theorem q26_13 : pj_row 26 13 = some (.iload_n 3, 1, 0, 0, 0) := by decide +kernel
theorem s26_13 {st : List Value} {M : pj_Mem} {l : pj_Loc} {a0 a1 a2 : Option Value} {x : Int32} : pj_step 26 (13, a0 :: a1 :: a2 :: some (.int x) :: l, st, M) = some (14, a0 :: a1 :: a2 :: some (.int x) :: l, .int x :: st, M) := st_iload_n q26_13 rfl
theorem q26_14 : pj_row 26 14 = some (.invokestatic 109, 3, 21, 2, 1) := by decide +kernel
theorem e26_14 {L : pj_Loc} {st : List Value} {N S : Nat} {H : pj_Heap} {o : Option Value × pj_Mem} {M' : pj_Mem} {x0 : Int32} {x1 : Int32} {r : Int32} (h4 : pj_le4 st = true) (h1 : pj_Ends 21 (0, [some (.int x0), some (.int x1)], [], (N, S, H)) (some (.int r), M')) (h2 : pj_Ends 26 (17, L, .int r :: st, M') o) : pj_Ends 26 (14, L, .int x1 :: .int x0 :: st, (N, S, H)) o := ec_s2 q26_14 (Or.inr rfl) h4 rfl h1 h2
theorem q26_17 : pj_row 26 17 = some (.ifCond .eq 19, 3, 36, 0, 0) := by decide +kernel
theorem s26_17 {L : pj_Loc} {st : List Value} {M : pj_Mem} {x : Int32} : pj_step 26 (17, L, .int x :: st, M) = some (if x = 0 then 36 else 20, L, st, M) := st_if_eq q26_17
theorem q26_20 : pj_row 26 20 = some (.aload_n 0, 1, 0, 0, 0) := by decide +kernel
theorem s26_20 {st : List Value} {M : pj_Mem} {l : pj_Loc} {x : Nat} : pj_step 26 (20, some (.ref x) :: l, st, M) = some (21, some (.ref x) :: l, .ref x :: st, M) := st_aload_n q26_20 rfl
theorem q26_21 : pj_row 26 21 = some (.getfield 21, 3, 3, 3, 0) := by decide +kernel
theorem s26_21 {L : pj_Loc} {st : List Value} {N S : Nat} {H : pj_Heap} {o : Nat} : pj_step 26 (21, L, .ref o :: st, (N, S, H)) = pj_pv 24 L st (N, S, H) (pj_fld (H o) 3 3) := st_getfield q26_21
theorem q26_24 : pj_row 26 24 = some (.iload_n 3, 1, 0, 0, 0) := by decide +kernel
theorem s26_24 {st : List Value} {M : pj_Mem} {l : pj_Loc} {a0 a1 a2 : Option Value} {x : Int32} : pj_step 26 (24, a0 :: a1 :: a2 :: some (.int x) :: l, st, M) = some (25, a0 :: a1 :: a2 :: some (.int x) :: l, .int x :: st, M) := st_iload_n q26_24 rfl
theorem q26_25 : pj_row 26 25 = some (.iaload, 1, 0, 0, 0) := by decide +kernel
theorem s26_25 {L : pj_Loc} {st : List Value} {N S : Nat} {H : pj_Heap} {o : Nat} {i : Int32} : pj_step 26 (25, L, .int i :: .ref o :: st, (N, S, H)) = pj_pi 26 L st (N, S, H) (pj_arl (H o) 0 i) := st_iaload q26_25
theorem q26_26 : pj_row 26 26 = some (.iload_n 1, 1, 0, 0, 0) := by decide +kernel
theorem s26_26 {st : List Value} {M : pj_Mem} {l : pj_Loc} {a0 : Option Value} {x : Int32} : pj_step 26 (26, a0 :: some (.int x) :: l, st, M) = some (27, a0 :: some (.int x) :: l, .int x :: st, M) := st_iload_n q26_26 rfl
theorem q26_27 : pj_row 26 27 = some (.if_icmp .lt 9, 3, 36, 0, 0) := by decide +kernel
theorem s26_27 {L : pj_Loc} {st : List Value} {M : pj_Mem} {x y : Int32} : pj_step 26 (27, L, .int y :: .int x :: st, M) = some (if x < y then 36 else 30, L, st, M) := st_icmp_lt q26_27
theorem q26_30 : pj_row 26 30 = some (.iload_n 2, 1, 0, 0, 0) := by decide +kernel
theorem s26_30 {st : List Value} {M : pj_Mem} {l : pj_Loc} {a0 a1 : Option Value} {x : Int32} : pj_step 26 (30, a0 :: a1 :: some (.int x) :: l, st, M) = some (31, a0 :: a1 :: some (.int x) :: l, .int x :: st, M) := st_iload_n q26_30 rfl
theorem q26_31 : pj_row 26 31 = some (.iload_n 3, 1, 0, 0, 0) := by decide +kernel
theorem s26_31 {st : List Value} {M : pj_Mem} {l : pj_Loc} {a0 a1 a2 : Option Value} {x : Int32} : pj_step 26 (31, a0 :: a1 :: a2 :: some (.int x) :: l, st, M) = some (32, a0 :: a1 :: a2 :: some (.int x) :: l, .int x :: st, M) := st_iload_n q26_31 rfl
theorem q26_32 : pj_row 26 32 = some (.invokestatic 120, 3, 27, 2, 1) := by decide +kernel
theorem e26_32 {L : pj_Loc} {st : List Value} {N S : Nat} {H : pj_Heap} {o : Option Value × pj_Mem} {M' : pj_Mem} {x0 : Int32} {x1 : Int32} {r : Int32} (h4 : pj_le4 st = true) (h1 : pj_Ends 27 (0, [some (.int x0), some (.int x1)], [], (N, S, H)) (some (.int r), M')) (h2 : pj_Ends 26 (35, L, .int r :: st, M') o) : pj_Ends 26 (32, L, .int x1 :: .int x0 :: st, (N, S, H)) o := ec_s2 q26_32 (Or.inr rfl) h4 rfl h1 h2
theorem q26_35 : pj_row 26 35 = some (.istore_n 2, 1, 0, 0, 0) := by decide +kernel
theorem s26_35 {st : List Value} {M : pj_Mem} {l : pj_Loc} {a0 a1 a2 : Option Value} {x : Int32} (h : pj_long a1 = false) : pj_step 26 (35, a0 :: a1 :: a2 :: l, .int x :: st, M) = some (36, a0 :: a1 :: some (.int x) :: l, st, M) := st_istore_n q26_35 (pj_st_2 h)
theorem q26_36 : pj_row 26 36 = some (.iinc 3 1, 3, 0, 0, 0) := by decide +kernel
theorem s26_36 {st : List Value} {M : pj_Mem} {l : pj_Loc} {a0 a1 a2 : Option Value} {x : Int32} (h : pj_long a2 = false) : pj_step 26 (36, a0 :: a1 :: a2 :: some (.int x) :: l, st, M) = some (39, a0 :: a1 :: a2 :: some (.int (x + 1)) :: l, st, M) := st_iinc q26_36 rfl (congrArg (fun y => x + y) (show Int32.ofInt 1 = 1 by decide +kernel)) (pj_st_3 h)
theorem q26_39 : pj_row 26 39 = some (.goto (-35), 3, 4, 0, 0) := by decide +kernel
theorem s26_39 {L : pj_Loc} {st : List Value} {M : pj_Mem}  : pj_step 26 (39, L, st, M) = some (4, L, st, M) := st_goto q26_39
theorem q26_42 : pj_row 26 42 = some (.iload_n 2, 1, 0, 0, 0) := by decide +kernel
theorem s26_42 {st : List Value} {M : pj_Mem} {l : pj_Loc} {a0 a1 : Option Value} {x : Int32} : pj_step 26 (42, a0 :: a1 :: some (.int x) :: l, st, M) = some (43, a0 :: a1 :: some (.int x) :: l, .int x :: st, M) := st_iload_n q26_42 rfl
theorem q26_43 : pj_row 26 43 = some (.ireturn, 1, 0, 0, 0) := by decide +kernel
theorem t26_43 {L : pj_Loc} {M : pj_Mem} {v : Int32} : pj_Ends 26 (43, L, [.int v], M) (some (.int v), M) := pj_Ends.ret q26_43 (pj_rtn_i rt26)
theorem rt27 : pj_rt 27 = some .int := rfl
theorem q27_0 : pj_row 27 0 = some (.iload_n 0, 1, 0, 0, 0) := by decide +kernel
theorem s27_0 {st : List Value} {M : pj_Mem} {l : pj_Loc} {x : Int32} : pj_step 27 (0, some (.int x) :: l, st, M) = some (1, some (.int x) :: l, .int x :: st, M) := st_iload_n q27_0 rfl
theorem q27_1 : pj_row 27 1 = some (.iconst 1, 1, 0, 0, 0) := by decide +kernel
theorem s27_1 {L : pj_Loc} {st : List Value} {M : pj_Mem}  : pj_step 27 (1, L, st, M) = some (2, L, .int 1 :: st, M) := st_iconst q27_1 (by decide +kernel)
theorem q27_2 : pj_row 27 2 = some (.iload_n 1, 1, 0, 0, 0) := by decide +kernel
theorem s27_2 {st : List Value} {M : pj_Mem} {l : pj_Loc} {a0 : Option Value} {x : Int32} : pj_step 27 (2, a0 :: some (.int x) :: l, st, M) = some (3, a0 :: some (.int x) :: l, .int x :: st, M) := st_iload_n q27_2 rfl
theorem q27_3 : pj_row 27 3 = some (.ishl, 1, 0, 0, 0) := by decide +kernel
theorem s27_3 {L : pj_Loc} {st : List Value} {M : pj_Mem} {x y : Int32} : pj_step 27 (3, L, .int y :: .int x :: st, M) = some (4, L, .int (x <<< (y &&& 31)) :: st, M) := st_ishl q27_3
theorem q27_4 : pj_row 27 4 = some (.ior, 1, 0, 0, 0) := by decide +kernel
theorem s27_4 {L : pj_Loc} {st : List Value} {M : pj_Mem} {x y : Int32} : pj_step 27 (4, L, .int y :: .int x :: st, M) = some (5, L, .int (x ||| y) :: st, M) := st_ior q27_4
theorem q27_5 : pj_row 27 5 = some (.ireturn, 1, 0, 0, 0) := by decide +kernel
theorem t27_5 {L : pj_Loc} {M : pj_Mem} {v : Int32} : pj_Ends 27 (5, L, [.int v], M) (some (.int v), M) := pj_Ends.ret q27_5 (pj_rtn_i rt27)
theorem rt28 : pj_rt 28 = none := rfl
theorem q28_0 : pj_row 28 0 = some (.aload_n 1, 1, 0, 0, 0) := by decide +kernel
theorem s28_0 {st : List Value} {M : pj_Mem} {l : pj_Loc} {a0 : Option Value} {x : Nat} : pj_step 28 (0, a0 :: some (.ref x) :: l, st, M) = some (1, a0 :: some (.ref x) :: l, .ref x :: st, M) := st_aload_n q28_0 rfl
theorem q28_1 : pj_row 28 1 = some (.getfield 123, 3, 4, 5, 0) := by decide +kernel
theorem s28_1 {L : pj_Loc} {st : List Value} {N S : Nat} {H : pj_Heap} {o : Nat} : pj_step 28 (1, L, .ref o :: st, (N, S, H)) = pj_pv 4 L st (N, S, H) (pj_fld (H o) 4 5) := st_getfield q28_1
theorem q28_4 : pj_row 28 4 = some (.iconst 0, 1, 0, 0, 0) := by decide +kernel
theorem s28_4 {L : pj_Loc} {st : List Value} {M : pj_Mem}  : pj_step 28 (4, L, st, M) = some (5, L, .int 0 :: st, M) := st_iconst q28_4 (by decide +kernel)
theorem q28_5 : pj_row 28 5 = some (.aload_n 0, 1, 0, 0, 0) := by decide +kernel
theorem s28_5 {st : List Value} {M : pj_Mem} {l : pj_Loc} {x : Nat} : pj_step 28 (5, some (.ref x) :: l, st, M) = some (6, some (.ref x) :: l, .ref x :: st, M) := st_aload_n q28_5 rfl
theorem q28_6 : pj_row 28 6 = some (.getfield 27, 3, 3, 5, 0) := by decide +kernel
theorem s28_6 {L : pj_Loc} {st : List Value} {N S : Nat} {H : pj_Heap} {o : Nat} : pj_step 28 (6, L, .ref o :: st, (N, S, H)) = pj_pv 9 L st (N, S, H) (pj_fld (H o) 3 5) := st_getfield q28_6
theorem q28_9 : pj_row 28 9 = some (.iconst 0, 1, 0, 0, 0) := by decide +kernel
theorem s28_9 {L : pj_Loc} {st : List Value} {M : pj_Mem}  : pj_step 28 (9, L, st, M) = some (10, L, .int 0 :: st, M) := st_iconst q28_9 (by decide +kernel)
theorem q28_10 : pj_row 28 10 = some (.iconst 3, 1, 0, 0, 0) := by decide +kernel
theorem s28_10 {L : pj_Loc} {st : List Value} {M : pj_Mem}  : pj_step 28 (10, L, st, M) = some (11, L, .int 3 :: st, M) := st_iconst q28_10 (by decide +kernel)
theorem q28_11 : pj_row 28 11 = some (.invokestatic 124, 3, 0, 5, 3) := by decide +kernel
theorem s28_11 {L : pj_Loc} {st : List Value} {N S : Nat} {H : pj_Heap} {d o : Nat} {n dp sp : Int32} : pj_step 28 (11, L, .int n :: .int dp :: .ref d :: .int sp :: .ref o :: st, (N, S, H)) = pj_g4 st (pj_set 14 L st (N, S, H) d (pj_cas (H o) (H d) sp dp n)) := st_acp q28_11
theorem q28_14 : pj_row 28 14 = some (.aload_n 0, 1, 0, 0, 0) := by decide +kernel
theorem s28_14 {st : List Value} {M : pj_Mem} {l : pj_Loc} {x : Nat} : pj_step 28 (14, some (.ref x) :: l, st, M) = some (15, some (.ref x) :: l, .ref x :: st, M) := st_aload_n q28_14 rfl
theorem q28_15 : pj_row 28 15 = some (.iconst 0, 1, 0, 0, 0) := by decide +kernel
theorem s28_15 {L : pj_Loc} {st : List Value} {M : pj_Mem}  : pj_step 28 (15, L, st, M) = some (16, L, .int 0 :: st, M) := st_iconst q28_15 (by decide +kernel)
theorem q28_16 : pj_row 28 16 = some (.putfield 130, 3, 3, 13, 0) := by decide +kernel
theorem s28_16 {L : pj_Loc} {st : List Value} {N S : Nat} {H : pj_Heap} {o : Nat} {v : Value} : pj_step 28 (16, L, v :: .ref o :: st, (N, S, H)) = pj_set 19 L st (N, S, H) o (pj_fset (H o) 3 13 v) := st_putfield q28_16
theorem q28_19 : pj_row 28 19 = some (.aload_n 0, 1, 0, 0, 0) := by decide +kernel
theorem s28_19 {st : List Value} {M : pj_Mem} {l : pj_Loc} {x : Nat} : pj_step 28 (19, some (.ref x) :: l, st, M) = some (20, some (.ref x) :: l, .ref x :: st, M) := st_aload_n q28_19 rfl
theorem q28_20 : pj_row 28 20 = some (.getfield 72, 3, 3, 10, 0) := by decide +kernel
theorem s28_20 {L : pj_Loc} {st : List Value} {N S : Nat} {H : pj_Heap} {o : Nat} : pj_step 28 (20, L, .ref o :: st, (N, S, H)) = pj_pv 23 L st (N, S, H) (pj_fld (H o) 3 10) := st_getfield q28_20
theorem q28_23 : pj_row 28 23 = some (.ifCond .gt 4, 3, 27, 0, 0) := by decide +kernel
theorem s28_23 {L : pj_Loc} {st : List Value} {M : pj_Mem} {x : Int32} : pj_step 28 (23, L, .int x :: st, M) = some (if 0 < x then 27 else 26, L, st, M) := st_if_gt q28_23
theorem q28_26 : pj_row 28 26 = some (.return_, 1, 0, 0, 0) := by decide +kernel
theorem t28_26 {L : pj_Loc} {M : pj_Mem} : pj_Ends 28 (26, L, [], M) (none, M) := pj_Ends.ret q28_26 (pj_rtn_v rt28)
theorem q28_27 : pj_row 28 27 = some (.iconst 0, 1, 0, 0, 0) := by decide +kernel
theorem s28_27 {L : pj_Loc} {st : List Value} {M : pj_Mem}  : pj_step 28 (27, L, st, M) = some (28, L, .int 0 :: st, M) := st_iconst q28_27 (by decide +kernel)
theorem q28_28 : pj_row 28 28 = some (.istore_n 2, 1, 0, 0, 0) := by decide +kernel
theorem s28_28 {st : List Value} {M : pj_Mem} {l : pj_Loc} {a0 a1 a2 : Option Value} {x : Int32} (h : pj_long a1 = false) : pj_step 28 (28, a0 :: a1 :: a2 :: l, .int x :: st, M) = some (29, a0 :: a1 :: some (.int x) :: l, st, M) := st_istore_n q28_28 (pj_st_2 h)
theorem q28_29 : pj_row 28 29 = some (.iload_n 2, 1, 0, 0, 0) := by decide +kernel
theorem s28_29 {st : List Value} {M : pj_Mem} {l : pj_Loc} {a0 a1 : Option Value} {x : Int32} : pj_step 28 (29, a0 :: a1 :: some (.int x) :: l, st, M) = some (30, a0 :: a1 :: some (.int x) :: l, .int x :: st, M) := st_iload_n q28_29 rfl
theorem q28_30 : pj_row 28 30 = some (.iconst 3, 1, 0, 0, 0) := by decide +kernel
theorem s28_30 {L : pj_Loc} {st : List Value} {M : pj_Mem}  : pj_step 28 (30, L, st, M) = some (31, L, .int 3 :: st, M) := st_iconst q28_30 (by decide +kernel)
theorem q28_31 : pj_row 28 31 = some (.if_icmp .ge 62, 3, 93, 0, 0) := by decide +kernel
theorem s28_31 {L : pj_Loc} {st : List Value} {M : pj_Mem} {x y : Int32} : pj_step 28 (31, L, .int y :: .int x :: st, M) = some (if y ≤ x then 93 else 34, L, st, M) := st_icmp_ge q28_31
theorem q28_34 : pj_row 28 34 = some (.aload_n 0, 1, 0, 0, 0) := by decide +kernel
theorem s28_34 {st : List Value} {M : pj_Mem} {l : pj_Loc} {x : Nat} : pj_step 28 (34, some (.ref x) :: l, st, M) = some (35, some (.ref x) :: l, .ref x :: st, M) := st_aload_n q28_34 rfl
theorem q28_35 : pj_row 28 35 = some (.getfield 27, 3, 3, 5, 0) := by decide +kernel
theorem s28_35 {L : pj_Loc} {st : List Value} {N S : Nat} {H : pj_Heap} {o : Nat} : pj_step 28 (35, L, .ref o :: st, (N, S, H)) = pj_pv 38 L st (N, S, H) (pj_fld (H o) 3 5) := st_getfield q28_35
theorem q28_38 : pj_row 28 38 = some (.iload_n 2, 1, 0, 0, 0) := by decide +kernel
theorem s28_38 {st : List Value} {M : pj_Mem} {l : pj_Loc} {a0 a1 : Option Value} {x : Int32} : pj_step 28 (38, a0 :: a1 :: some (.int x) :: l, st, M) = some (39, a0 :: a1 :: some (.int x) :: l, .int x :: st, M) := st_iload_n q28_38 rfl
theorem q28_39 : pj_row 28 39 = some (.iaload, 1, 0, 0, 0) := by decide +kernel
theorem s28_39 {L : pj_Loc} {st : List Value} {N S : Nat} {H : pj_Heap} {o : Nat} {i : Int32} : pj_step 28 (39, L, .int i :: .ref o :: st, (N, S, H)) = pj_pi 40 L st (N, S, H) (pj_arl (H o) 0 i) := st_iaload q28_39
theorem q28_40 : pj_row 28 40 = some (.bipush (-6), 2, 0, 0, 0) := by decide +kernel
theorem s28_40 {L : pj_Loc} {st : List Value} {M : pj_Mem}  : pj_step 28 (40, L, st, M) = some (42, L, .int (-6) :: st, M) := st_bipush q28_40 (by decide +kernel)
theorem q28_42 : pj_row 28 42 = some (.if_icmp .ne 45, 3, 87, 0, 0) := by decide +kernel
theorem s28_42 {L : pj_Loc} {st : List Value} {M : pj_Mem} {x y : Int32} : pj_step 28 (42, L, .int y :: .int x :: st, M) = some (if ¬ x = y then 87 else 45, L, st, M) := st_icmp_ne q28_42
theorem q28_45 : pj_row 28 45 = some (.aload_n 1, 1, 0, 0, 0) := by decide +kernel
theorem s28_45 {st : List Value} {M : pj_Mem} {l : pj_Loc} {a0 : Option Value} {x : Nat} : pj_step 28 (45, a0 :: some (.ref x) :: l, st, M) = some (46, a0 :: some (.ref x) :: l, .ref x :: st, M) := st_aload_n q28_45 rfl
theorem q28_46 : pj_row 28 46 = some (.getfield 133, 3, 4, 8, 0) := by decide +kernel
theorem s28_46 {L : pj_Loc} {st : List Value} {N S : Nat} {H : pj_Heap} {o : Nat} : pj_step 28 (46, L, .ref o :: st, (N, S, H)) = pj_pv 49 L st (N, S, H) (pj_fld (H o) 4 8) := st_getfield q28_46
theorem q28_49 : pj_row 28 49 = some (.iload_n 2, 1, 0, 0, 0) := by decide +kernel
theorem s28_49 {st : List Value} {M : pj_Mem} {l : pj_Loc} {a0 a1 : Option Value} {x : Int32} : pj_step 28 (49, a0 :: a1 :: some (.int x) :: l, st, M) = some (50, a0 :: a1 :: some (.int x) :: l, .int x :: st, M) := st_iload_n q28_49 rfl
theorem q28_50 : pj_row 28 50 = some (.invokestatic 109, 3, 21, 2, 1) := by decide +kernel
theorem e28_50 {L : pj_Loc} {st : List Value} {N S : Nat} {H : pj_Heap} {o : Option Value × pj_Mem} {M' : pj_Mem} {x0 : Int32} {x1 : Int32} {r : Int32} (h4 : pj_le4 st = true) (h1 : pj_Ends 21 (0, [some (.int x0), some (.int x1)], [], (N, S, H)) (some (.int r), M')) (h2 : pj_Ends 28 (53, L, .int r :: st, M') o) : pj_Ends 28 (50, L, .int x1 :: .int x0 :: st, (N, S, H)) o := ec_s2 q28_50 (Or.inr rfl) h4 rfl h1 h2
theorem q28_53 : pj_row 28 53 = some (.ifCond .ne 34, 3, 87, 0, 0) := by decide +kernel
theorem s28_53 {L : pj_Loc} {st : List Value} {M : pj_Mem} {x : Int32} : pj_step 28 (53, L, .int x :: st, M) = some (if ¬ x = 0 then 87 else 56, L, st, M) := st_if_ne q28_53
theorem q28_56 : pj_row 28 56 = some (.aload_n 0, 1, 0, 0, 0) := by decide +kernel
theorem s28_56 {st : List Value} {M : pj_Mem} {l : pj_Loc} {x : Nat} : pj_step 28 (56, some (.ref x) :: l, st, M) = some (57, some (.ref x) :: l, .ref x :: st, M) := st_aload_n q28_56 rfl
theorem q28_57 : pj_row 28 57 = some (.aload_n 1, 1, 0, 0, 0) := by decide +kernel
theorem s28_57 {st : List Value} {M : pj_Mem} {l : pj_Loc} {a0 : Option Value} {x : Nat} : pj_step 28 (57, a0 :: some (.ref x) :: l, st, M) = some (58, a0 :: some (.ref x) :: l, .ref x :: st, M) := st_aload_n q28_57 rfl
theorem q28_58 : pj_row 28 58 = some (.iload_n 2, 1, 0, 0, 0) := by decide +kernel
theorem s28_58 {st : List Value} {M : pj_Mem} {l : pj_Loc} {a0 a1 : Option Value} {x : Int32} : pj_step 28 (58, a0 :: a1 :: some (.int x) :: l, st, M) = some (59, a0 :: a1 :: some (.int x) :: l, .int x :: st, M) := st_iload_n q28_58 rfl
theorem q28_59 : pj_row 28 59 = some (.invokevirtual 136, 3, 29, 3, 0) := by decide +kernel
theorem e28_59 {L : pj_Loc} {st : List Value} {N S : Nat} {H : pj_Heap} {o : Option Value × pj_Mem} {M' : pj_Mem} {x0 : Nat} {x1 : Nat} {x2 : Int32} {r : Int32} (h4 : pj_le4 st = true) (hu : pj_isU 3 (H x0) = true) (h1 : pj_Ends 29 (0, [some (.ref x0), some (.ref x1), some (.int x2), none, none, none], [], (N, S, H)) (some (.int r), M')) (h2 : pj_Ends 28 (62, L, .int r :: st, M') o) : pj_Ends 28 (59, L, .int x2 :: .ref x1 :: .ref x0 :: st, (N, S, H)) o := ec_v3 q28_59 (Or.inl rfl) h4 hu rfl h1 h2
theorem q28_62 : pj_row 28 62 = some (.ifCond .eq 25, 3, 87, 0, 0) := by decide +kernel
theorem s28_62 {L : pj_Loc} {st : List Value} {M : pj_Mem} {x : Int32} : pj_step 28 (62, L, .int x :: st, M) = some (if x = 0 then 87 else 65, L, st, M) := st_if_eq q28_62
theorem q28_65 : pj_row 28 65 = some (.aload_n 0, 1, 0, 0, 0) := by decide +kernel
theorem s28_65 {st : List Value} {M : pj_Mem} {l : pj_Loc} {x : Nat} : pj_step 28 (65, some (.ref x) :: l, st, M) = some (66, some (.ref x) :: l, .ref x :: st, M) := st_aload_n q28_65 rfl
theorem q28_66 : pj_row 28 66 = some (.getfield 27, 3, 3, 5, 0) := by decide +kernel
theorem s28_66 {L : pj_Loc} {st : List Value} {N S : Nat} {H : pj_Heap} {o : Nat} : pj_step 28 (66, L, .ref o :: st, (N, S, H)) = pj_pv 69 L st (N, S, H) (pj_fld (H o) 3 5) := st_getfield q28_66
theorem q28_69 : pj_row 28 69 = some (.iload_n 2, 1, 0, 0, 0) := by decide +kernel
theorem s28_69 {st : List Value} {M : pj_Mem} {l : pj_Loc} {a0 a1 : Option Value} {x : Int32} : pj_step 28 (69, a0 :: a1 :: some (.int x) :: l, st, M) = some (70, a0 :: a1 :: some (.int x) :: l, .int x :: st, M) := st_iload_n q28_69 rfl
theorem q28_70 : pj_row 28 70 = some (.aload_n 0, 1, 0, 0, 0) := by decide +kernel
theorem s28_70 {st : List Value} {M : pj_Mem} {l : pj_Loc} {x : Nat} : pj_step 28 (70, some (.ref x) :: l, st, M) = some (71, some (.ref x) :: l, .ref x :: st, M) := st_aload_n q28_70 rfl
theorem q28_71 : pj_row 28 71 = some (.getfield 36, 3, 3, 7, 0) := by decide +kernel
theorem s28_71 {L : pj_Loc} {st : List Value} {N S : Nat} {H : pj_Heap} {o : Nat} : pj_step 28 (71, L, .ref o :: st, (N, S, H)) = pj_pv 74 L st (N, S, H) (pj_fld (H o) 3 7) := st_getfield q28_71
theorem q28_74 : pj_row 28 74 = some (.iastore, 1, 0, 0, 0) := by decide +kernel
theorem s28_74 {L : pj_Loc} {st : List Value} {N S : Nat} {H : pj_Heap} {o : Nat} {i x : Int32} : pj_step 28 (74, L, .int x :: .int i :: .ref o :: st, (N, S, H)) = pj_set 75 L st (N, S, H) o (pj_ars (H o) 0 i x) := st_iastore q28_74
theorem q28_75 : pj_row 28 75 = some (.aload_n 0, 1, 0, 0, 0) := by decide +kernel
theorem s28_75 {st : List Value} {M : pj_Mem} {l : pj_Loc} {x : Nat} : pj_step 28 (75, some (.ref x) :: l, st, M) = some (76, some (.ref x) :: l, .ref x :: st, M) := st_aload_n q28_75 rfl
theorem q28_76 : pj_row 28 76 = some (.aload_n 0, 1, 0, 0, 0) := by decide +kernel
theorem s28_76 {st : List Value} {M : pj_Mem} {l : pj_Loc} {x : Nat} : pj_step 28 (76, some (.ref x) :: l, st, M) = some (77, some (.ref x) :: l, .ref x :: st, M) := st_aload_n q28_76 rfl
theorem q28_77 : pj_row 28 77 = some (.getfield 130, 3, 3, 13, 0) := by decide +kernel
theorem s28_77 {L : pj_Loc} {st : List Value} {N S : Nat} {H : pj_Heap} {o : Nat} : pj_step 28 (77, L, .ref o :: st, (N, S, H)) = pj_pv 80 L st (N, S, H) (pj_fld (H o) 3 13) := st_getfield q28_77
theorem q28_80 : pj_row 28 80 = some (.iload_n 2, 1, 0, 0, 0) := by decide +kernel
theorem s28_80 {st : List Value} {M : pj_Mem} {l : pj_Loc} {a0 a1 : Option Value} {x : Int32} : pj_step 28 (80, a0 :: a1 :: some (.int x) :: l, st, M) = some (81, a0 :: a1 :: some (.int x) :: l, .int x :: st, M) := st_iload_n q28_80 rfl
theorem q28_81 : pj_row 28 81 = some (.invokestatic 120, 3, 27, 2, 1) := by decide +kernel
theorem e28_81 {L : pj_Loc} {st : List Value} {N S : Nat} {H : pj_Heap} {o : Option Value × pj_Mem} {M' : pj_Mem} {x0 : Int32} {x1 : Int32} {r : Int32} (h4 : pj_le4 st = true) (h1 : pj_Ends 27 (0, [some (.int x0), some (.int x1)], [], (N, S, H)) (some (.int r), M')) (h2 : pj_Ends 28 (84, L, .int r :: st, M') o) : pj_Ends 28 (81, L, .int x1 :: .int x0 :: st, (N, S, H)) o := ec_s2 q28_81 (Or.inr rfl) h4 rfl h1 h2
theorem q28_84 : pj_row 28 84 = some (.putfield 130, 3, 3, 13, 0) := by decide +kernel
theorem s28_84 {L : pj_Loc} {st : List Value} {N S : Nat} {H : pj_Heap} {o : Nat} {v : Value} : pj_step 28 (84, L, v :: .ref o :: st, (N, S, H)) = pj_set 87 L st (N, S, H) o (pj_fset (H o) 3 13 v) := st_putfield q28_84
theorem q28_87 : pj_row 28 87 = some (.iinc 2 1, 3, 0, 0, 0) := by decide +kernel
theorem s28_87 {st : List Value} {M : pj_Mem} {l : pj_Loc} {a0 a1 : Option Value} {x : Int32} (h : pj_long a1 = false) : pj_step 28 (87, a0 :: a1 :: some (.int x) :: l, st, M) = some (90, a0 :: a1 :: some (.int (x + 1)) :: l, st, M) := st_iinc q28_87 rfl (congrArg (fun y => x + y) (show Int32.ofInt 1 = 1 by decide +kernel)) (pj_st_2 h)
theorem q28_90 : pj_row 28 90 = some (.goto (-61), 3, 29, 0, 0) := by decide +kernel
theorem s28_90 {L : pj_Loc} {st : List Value} {M : pj_Mem}  : pj_step 28 (90, L, st, M) = some (29, L, st, M) := st_goto q28_90
theorem q28_93 : pj_row 28 93 = some (.return_, 1, 0, 0, 0) := by decide +kernel
theorem t28_93 {L : pj_Loc} {M : pj_Mem} : pj_Ends 28 (93, L, [], M) (none, M) := pj_Ends.ret q28_93 (pj_rtn_v rt28)
theorem rt29 : pj_rt 29 = some .boolean := rfl
theorem q29_0 : pj_row 29 0 = some (.aload_n 1, 1, 0, 0, 0) := by decide +kernel
theorem s29_0 {st : List Value} {M : pj_Mem} {l : pj_Loc} {a0 : Option Value} {x : Nat} : pj_step 29 (0, a0 :: some (.ref x) :: l, st, M) = some (1, a0 :: some (.ref x) :: l, .ref x :: st, M) := st_aload_n q29_0 rfl
theorem q29_1 : pj_row 29 1 = some (.getfield 50, 3, 4, 0, 0) := by decide +kernel
theorem s29_1 {L : pj_Loc} {st : List Value} {N S : Nat} {H : pj_Heap} {o : Nat} : pj_step 29 (1, L, .ref o :: st, (N, S, H)) = pj_pv 4 L st (N, S, H) (pj_fld (H o) 4 0) := st_getfield q29_1
theorem q29_4 : pj_row 29 4 = some (.iconst 5, 1, 0, 0, 0) := by decide +kernel
theorem s29_4 {L : pj_Loc} {st : List Value} {M : pj_Mem}  : pj_step 29 (4, L, st, M) = some (5, L, .int 5 :: st, M) := st_iconst q29_4 (by decide +kernel)
theorem q29_5 : pj_row 29 5 = some (.iaload, 1, 0, 0, 0) := by decide +kernel
theorem s29_5 {L : pj_Loc} {st : List Value} {N S : Nat} {H : pj_Heap} {o : Nat} {i : Int32} : pj_step 29 (5, L, .int i :: .ref o :: st, (N, S, H)) = pj_pi 6 L st (N, S, H) (pj_arl (H o) 0 i) := st_iaload q29_5
theorem q29_6 : pj_row 29 6 = some (.istore_n 3, 1, 0, 0, 0) := by decide +kernel
theorem s29_6 {st : List Value} {M : pj_Mem} {l : pj_Loc} {a0 a1 a2 a3 : Option Value} {x : Int32} (h : pj_long a2 = false) : pj_step 29 (6, a0 :: a1 :: a2 :: a3 :: l, .int x :: st, M) = some (7, a0 :: a1 :: a2 :: some (.int x) :: l, st, M) := st_istore_n q29_6 (pj_st_3 h)
theorem q29_7 : pj_row 29 7 = some (.aload_n 0, 1, 0, 0, 0) := by decide +kernel
theorem s29_7 {st : List Value} {M : pj_Mem} {l : pj_Loc} {x : Nat} : pj_step 29 (7, some (.ref x) :: l, st, M) = some (8, some (.ref x) :: l, .ref x :: st, M) := st_aload_n q29_7 rfl
theorem q29_8 : pj_row 29 8 = some (.getfield 77, 3, 3, 11, 0) := by decide +kernel
theorem s29_8 {L : pj_Loc} {st : List Value} {N S : Nat} {H : pj_Heap} {o : Nat} : pj_step 29 (8, L, .ref o :: st, (N, S, H)) = pj_pv 11 L st (N, S, H) (pj_fld (H o) 3 11) := st_getfield q29_8
theorem q29_11 : pj_row 29 11 = some (.invokestatic 140, 3, 30, 1, 0) := by decide +kernel
theorem e29_11 {L : pj_Loc} {st : List Value} {N S : Nat} {H : pj_Heap} {o : Option Value × pj_Mem} {M' : pj_Mem} {x0 : Int32} {r : Int32} (h4 : pj_le4 st = true) (h1 : pj_Ends 30 (0, [some (.int x0)], [], (N, S, H)) (some (.int r), M')) (h2 : pj_Ends 29 (14, L, .int r :: st, M') o) : pj_Ends 29 (11, L, .int x0 :: st, (N, S, H)) o := ec_s1 q29_11 (Or.inl rfl) h4 rfl h1 h2
theorem q29_14 : pj_row 29 14 = some (.iconst 2, 1, 0, 0, 0) := by decide +kernel
theorem s29_14 {L : pj_Loc} {st : List Value} {M : pj_Mem}  : pj_step 29 (14, L, st, M) = some (15, L, .int 2 :: st, M) := st_iconst q29_14 (by decide +kernel)
theorem q29_15 : pj_row 29 15 = some (.if_icmp .lt 7, 3, 22, 0, 0) := by decide +kernel
theorem s29_15 {L : pj_Loc} {st : List Value} {M : pj_Mem} {x y : Int32} : pj_step 29 (15, L, .int y :: .int x :: st, M) = some (if x < y then 22 else 18, L, st, M) := st_icmp_lt q29_15
theorem q29_18 : pj_row 29 18 = some (.iconst 1, 1, 0, 0, 0) := by decide +kernel
theorem s29_18 {L : pj_Loc} {st : List Value} {M : pj_Mem}  : pj_step 29 (18, L, st, M) = some (19, L, .int 1 :: st, M) := st_iconst q29_18 (by decide +kernel)
theorem q29_19 : pj_row 29 19 = some (.goto 4, 3, 23, 0, 0) := by decide +kernel
theorem s29_19 {L : pj_Loc} {st : List Value} {M : pj_Mem}  : pj_step 29 (19, L, st, M) = some (23, L, st, M) := st_goto q29_19
theorem q29_22 : pj_row 29 22 = some (.iconst 0, 1, 0, 0, 0) := by decide +kernel
theorem s29_22 {L : pj_Loc} {st : List Value} {M : pj_Mem}  : pj_step 29 (22, L, st, M) = some (23, L, .int 0 :: st, M) := st_iconst q29_22 (by decide +kernel)
theorem q29_23 : pj_row 29 23 = some (.istore 4, 2, 0, 0, 0) := by decide +kernel
theorem s29_23 {st : List Value} {M : pj_Mem} {l : pj_Loc} {a0 a1 a2 a3 a4 : Option Value} {x : Int32} (h : pj_long a3 = false) : pj_step 29 (23, a0 :: a1 :: a2 :: a3 :: a4 :: l, .int x :: st, M) = some (25, a0 :: a1 :: a2 :: a3 :: some (.int x) :: l, st, M) := st_istore q29_23 (pj_st_4 h)
theorem q29_25 : pj_row 29 25 = some (.aload_n 0, 1, 0, 0, 0) := by decide +kernel
theorem s29_25 {st : List Value} {M : pj_Mem} {l : pj_Loc} {x : Nat} : pj_step 29 (25, some (.ref x) :: l, st, M) = some (26, some (.ref x) :: l, .ref x :: st, M) := st_aload_n q29_25 rfl
theorem q29_26 : pj_row 29 26 = some (.getfield 80, 3, 3, 12, 0) := by decide +kernel
theorem s29_26 {L : pj_Loc} {st : List Value} {N S : Nat} {H : pj_Heap} {o : Nat} : pj_step 29 (26, L, .ref o :: st, (N, S, H)) = pj_pv 29 L st (N, S, H) (pj_fld (H o) 3 12) := st_getfield q29_26
theorem q29_29 : pj_row 29 29 = some (.invokestatic 140, 3, 30, 1, 0) := by decide +kernel
theorem e29_29 {L : pj_Loc} {st : List Value} {N S : Nat} {H : pj_Heap} {o : Option Value × pj_Mem} {M' : pj_Mem} {x0 : Int32} {r : Int32} (h4 : pj_le4 st = true) (h1 : pj_Ends 30 (0, [some (.int x0)], [], (N, S, H)) (some (.int r), M')) (h2 : pj_Ends 29 (32, L, .int r :: st, M') o) : pj_Ends 29 (29, L, .int x0 :: st, (N, S, H)) o := ec_s1 q29_29 (Or.inl rfl) h4 rfl h1 h2
theorem q29_32 : pj_row 29 32 = some (.iconst 2, 1, 0, 0, 0) := by decide +kernel
theorem s29_32 {L : pj_Loc} {st : List Value} {M : pj_Mem}  : pj_step 29 (32, L, st, M) = some (33, L, .int 2 :: st, M) := st_iconst q29_32 (by decide +kernel)
theorem q29_33 : pj_row 29 33 = some (.if_icmp .lt 7, 3, 40, 0, 0) := by decide +kernel
theorem s29_33 {L : pj_Loc} {st : List Value} {M : pj_Mem} {x y : Int32} : pj_step 29 (33, L, .int y :: .int x :: st, M) = some (if x < y then 40 else 36, L, st, M) := st_icmp_lt q29_33
theorem q29_36 : pj_row 29 36 = some (.iconst 1, 1, 0, 0, 0) := by decide +kernel
theorem s29_36 {L : pj_Loc} {st : List Value} {M : pj_Mem}  : pj_step 29 (36, L, st, M) = some (37, L, .int 1 :: st, M) := st_iconst q29_36 (by decide +kernel)
theorem q29_37 : pj_row 29 37 = some (.goto 4, 3, 41, 0, 0) := by decide +kernel
theorem s29_37 {L : pj_Loc} {st : List Value} {M : pj_Mem}  : pj_step 29 (37, L, st, M) = some (41, L, st, M) := st_goto q29_37
theorem q29_40 : pj_row 29 40 = some (.iconst 0, 1, 0, 0, 0) := by decide +kernel
theorem s29_40 {L : pj_Loc} {st : List Value} {M : pj_Mem}  : pj_step 29 (40, L, st, M) = some (41, L, .int 0 :: st, M) := st_iconst q29_40 (by decide +kernel)
theorem q29_41 : pj_row 29 41 = some (.istore 5, 2, 0, 0, 0) := by decide +kernel
theorem s29_41 {st : List Value} {M : pj_Mem} {l : pj_Loc} {a0 a1 a2 a3 a4 a5 : Option Value} {x : Int32} (h : pj_long a4 = false) : pj_step 29 (41, a0 :: a1 :: a2 :: a3 :: a4 :: a5 :: l, .int x :: st, M) = some (43, a0 :: a1 :: a2 :: a3 :: a4 :: some (.int x) :: l, st, M) := st_istore q29_41 (pj_st_5 h)
theorem q29_43 : pj_row 29 43 = some (.iload_n 2, 1, 0, 0, 0) := by decide +kernel
theorem s29_43 {st : List Value} {M : pj_Mem} {l : pj_Loc} {a0 a1 : Option Value} {x : Int32} : pj_step 29 (43, a0 :: a1 :: some (.int x) :: l, st, M) = some (44, a0 :: a1 :: some (.int x) :: l, .int x :: st, M) := st_iload_n q29_43 rfl
theorem q29_44 : pj_row 29 44 = some (.tableswitch 82 0 2 #[28, 31, 62], 28, 0, 0, 0) := by decide +kernel
theorem s29_44 {L : pj_Loc} {st : List Value} {M : pj_Mem} {x : Int32} : pj_step 29 (44, L, .int x :: st, M) = some (if x = 0 then 72 else if x = 1 then 75 else if x = 2 then 106 else 126, L, st, M) := by
  rw [st_tsw q29_44]
  unfold pj_tsw
  by_cases hr : x.toInt < 0 ∨ 2 < x.toInt
  · simp only
    rw [if_pos hr]
    rw [if_neg (show ¬ x = 0 from fun e => by rw [e] at hr; revert hr; decide)]
    rw [if_neg (show ¬ x = 1 from fun e => by rw [e] at hr; revert hr; decide)]
    rw [if_neg (show ¬ x = 2 from fun e => by rw [e] at hr; revert hr; decide)]
    rfl
  · have h3 : x.toInt = 0 ∨ x.toInt = 1 ∨ x.toInt = 2 := by omega
    rcases h3 with h3 | h3 | h3
    · have e : x = 0 := Int32.toInt_inj.mp (h3.trans (by decide))
      subst e
      rfl
    · have e : x = 1 := Int32.toInt_inj.mp (h3.trans (by decide))
      subst e
      rfl
    · have e : x = 2 := Int32.toInt_inj.mp (h3.trans (by decide))
      subst e
      rfl
theorem q29_72 : pj_row 29 72 = some (.iload 4, 2, 0, 0, 0) := by decide +kernel
theorem s29_72 {st : List Value} {M : pj_Mem} {l : pj_Loc} {a0 a1 a2 a3 : Option Value} {x : Int32} : pj_step 29 (72, a0 :: a1 :: a2 :: a3 :: some (.int x) :: l, st, M) = some (74, a0 :: a1 :: a2 :: a3 :: some (.int x) :: l, .int x :: st, M) := st_iload q29_72 rfl
theorem q29_74 : pj_row 29 74 = some (.ireturn, 1, 0, 0, 0) := by decide +kernel
theorem t29_74 {L : pj_Loc} {M : pj_Mem} {v : Int32} (hv : v = 0 ∨ v = 1) : pj_Ends 29 (74, L, [.int v], M) (some (.int v), M) := pj_Ends.ret q29_74 (pj_rtn_z rt29 hv)
theorem q29_75 : pj_row 29 75 = some (.iload 4, 2, 0, 0, 0) := by decide +kernel
theorem s29_75 {st : List Value} {M : pj_Mem} {l : pj_Loc} {a0 a1 a2 a3 : Option Value} {x : Int32} : pj_step 29 (75, a0 :: a1 :: a2 :: a3 :: some (.int x) :: l, st, M) = some (77, a0 :: a1 :: a2 :: a3 :: some (.int x) :: l, .int x :: st, M) := st_iload q29_75 rfl
theorem q29_77 : pj_row 29 77 = some (.ifCond .eq 27, 3, 104, 0, 0) := by decide +kernel
theorem s29_77 {L : pj_Loc} {st : List Value} {M : pj_Mem} {x : Int32} : pj_step 29 (77, L, .int x :: st, M) = some (if x = 0 then 104 else 80, L, st, M) := st_if_eq q29_77
theorem q29_80 : pj_row 29 80 = some (.aload_n 0, 1, 0, 0, 0) := by decide +kernel
theorem s29_80 {st : List Value} {M : pj_Mem} {l : pj_Loc} {x : Nat} : pj_step 29 (80, some (.ref x) :: l, st, M) = some (81, some (.ref x) :: l, .ref x :: st, M) := st_aload_n q29_80 rfl
theorem q29_81 : pj_row 29 81 = some (.iconst 0, 1, 0, 0, 0) := by decide +kernel
theorem s29_81 {L : pj_Loc} {st : List Value} {M : pj_Mem}  : pj_step 29 (81, L, st, M) = some (82, L, .int 0 :: st, M) := st_iconst q29_81 (by decide +kernel)
theorem q29_82 : pj_row 29 82 = some (.iload_n 3, 1, 0, 0, 0) := by decide +kernel
theorem s29_82 {st : List Value} {M : pj_Mem} {l : pj_Loc} {a0 a1 a2 : Option Value} {x : Int32} : pj_step 29 (82, a0 :: a1 :: a2 :: some (.int x) :: l, st, M) = some (83, a0 :: a1 :: a2 :: some (.int x) :: l, .int x :: st, M) := st_iload_n q29_82 rfl
theorem q29_83 : pj_row 29 83 = some (.invokevirtual 145, 3, 31, 3, 0) := by decide +kernel
theorem e29_83 {L : pj_Loc} {st : List Value} {N S : Nat} {H : pj_Heap} {o : Option Value × pj_Mem} {M' : pj_Mem} {x0 : Nat} {x1 : Int32} {x2 : Int32} {r : Int32} (h4 : pj_le4 st = true) (hu : pj_isU 3 (H x0) = true) (h1 : pj_Ends 31 (0, [some (.ref x0), some (.int x1), some (.int x2)], [], (N, S, H)) (some (.int r), M')) (h2 : pj_Ends 29 (86, L, .int r :: st, M') o) : pj_Ends 29 (83, L, .int x2 :: .int x1 :: .ref x0 :: st, (N, S, H)) o := ec_v3 q29_83 (Or.inl rfl) h4 hu rfl h1 h2
theorem q29_86 : pj_row 29 86 = some (.ifCond .ne 14, 3, 100, 0, 0) := by decide +kernel
theorem s29_86 {L : pj_Loc} {st : List Value} {M : pj_Mem} {x : Int32} : pj_step 29 (86, L, .int x :: st, M) = some (if ¬ x = 0 then 100 else 89, L, st, M) := st_if_ne q29_86
theorem q29_89 : pj_row 29 89 = some (.aload_n 1, 1, 0, 0, 0) := by decide +kernel
theorem s29_89 {st : List Value} {M : pj_Mem} {l : pj_Loc} {a0 : Option Value} {x : Nat} : pj_step 29 (89, a0 :: some (.ref x) :: l, st, M) = some (90, a0 :: some (.ref x) :: l, .ref x :: st, M) := st_aload_n q29_89 rfl
theorem q29_90 : pj_row 29 90 = some (.getfield 133, 3, 4, 8, 0) := by decide +kernel
theorem s29_90 {L : pj_Loc} {st : List Value} {N S : Nat} {H : pj_Heap} {o : Nat} : pj_step 29 (90, L, .ref o :: st, (N, S, H)) = pj_pv 93 L st (N, S, H) (pj_fld (H o) 4 8) := st_getfield q29_90
theorem q29_93 : pj_row 29 93 = some (.iconst 0, 1, 0, 0, 0) := by decide +kernel
theorem s29_93 {L : pj_Loc} {st : List Value} {M : pj_Mem}  : pj_step 29 (93, L, st, M) = some (94, L, .int 0 :: st, M) := st_iconst q29_93 (by decide +kernel)
theorem q29_94 : pj_row 29 94 = some (.invokestatic 109, 3, 21, 2, 1) := by decide +kernel
theorem e29_94 {L : pj_Loc} {st : List Value} {N S : Nat} {H : pj_Heap} {o : Option Value × pj_Mem} {M' : pj_Mem} {x0 : Int32} {x1 : Int32} {r : Int32} (h4 : pj_le4 st = true) (h1 : pj_Ends 21 (0, [some (.int x0), some (.int x1)], [], (N, S, H)) (some (.int r), M')) (h2 : pj_Ends 29 (97, L, .int r :: st, M') o) : pj_Ends 29 (94, L, .int x1 :: .int x0 :: st, (N, S, H)) o := ec_s2 q29_94 (Or.inr rfl) h4 rfl h1 h2
theorem q29_97 : pj_row 29 97 = some (.ifCond .eq 7, 3, 104, 0, 0) := by decide +kernel
theorem s29_97 {L : pj_Loc} {st : List Value} {M : pj_Mem} {x : Int32} : pj_step 29 (97, L, .int x :: st, M) = some (if x = 0 then 104 else 100, L, st, M) := st_if_eq q29_97
theorem q29_100 : pj_row 29 100 = some (.iconst 1, 1, 0, 0, 0) := by decide +kernel
theorem s29_100 {L : pj_Loc} {st : List Value} {M : pj_Mem}  : pj_step 29 (100, L, st, M) = some (101, L, .int 1 :: st, M) := st_iconst q29_100 (by decide +kernel)
theorem q29_101 : pj_row 29 101 = some (.goto 4, 3, 105, 0, 0) := by decide +kernel
theorem s29_101 {L : pj_Loc} {st : List Value} {M : pj_Mem}  : pj_step 29 (101, L, st, M) = some (105, L, st, M) := st_goto q29_101
theorem q29_104 : pj_row 29 104 = some (.iconst 0, 1, 0, 0, 0) := by decide +kernel
theorem s29_104 {L : pj_Loc} {st : List Value} {M : pj_Mem}  : pj_step 29 (104, L, st, M) = some (105, L, .int 0 :: st, M) := st_iconst q29_104 (by decide +kernel)
theorem q29_105 : pj_row 29 105 = some (.ireturn, 1, 0, 0, 0) := by decide +kernel
theorem t29_105 {L : pj_Loc} {M : pj_Mem} {v : Int32} (hv : v = 0 ∨ v = 1) : pj_Ends 29 (105, L, [.int v], M) (some (.int v), M) := pj_Ends.ret q29_105 (pj_rtn_z rt29 hv)
theorem q29_106 : pj_row 29 106 = some (.iload 5, 2, 0, 0, 0) := by decide +kernel
theorem s29_106 {st : List Value} {M : pj_Mem} {l : pj_Loc} {a0 a1 a2 a3 a4 : Option Value} {x : Int32} : pj_step 29 (106, a0 :: a1 :: a2 :: a3 :: a4 :: some (.int x) :: l, st, M) = some (108, a0 :: a1 :: a2 :: a3 :: a4 :: some (.int x) :: l, .int x :: st, M) := st_iload q29_106 rfl
theorem q29_108 : pj_row 29 108 = some (.ifCond .eq 16, 3, 124, 0, 0) := by decide +kernel
theorem s29_108 {L : pj_Loc} {st : List Value} {M : pj_Mem} {x : Int32} : pj_step 29 (108, L, .int x :: st, M) = some (if x = 0 then 124 else 111, L, st, M) := st_if_eq q29_108
theorem q29_111 : pj_row 29 111 = some (.aload_n 0, 1, 0, 0, 0) := by decide +kernel
theorem s29_111 {st : List Value} {M : pj_Mem} {l : pj_Loc} {x : Nat} : pj_step 29 (111, some (.ref x) :: l, st, M) = some (112, some (.ref x) :: l, .ref x :: st, M) := st_aload_n q29_111 rfl
theorem q29_112 : pj_row 29 112 = some (.iconst 1, 1, 0, 0, 0) := by decide +kernel
theorem s29_112 {L : pj_Loc} {st : List Value} {M : pj_Mem}  : pj_step 29 (112, L, st, M) = some (113, L, .int 1 :: st, M) := st_iconst q29_112 (by decide +kernel)
theorem q29_113 : pj_row 29 113 = some (.iload_n 3, 1, 0, 0, 0) := by decide +kernel
theorem s29_113 {st : List Value} {M : pj_Mem} {l : pj_Loc} {a0 a1 a2 : Option Value} {x : Int32} : pj_step 29 (113, a0 :: a1 :: a2 :: some (.int x) :: l, st, M) = some (114, a0 :: a1 :: a2 :: some (.int x) :: l, .int x :: st, M) := st_iload_n q29_113 rfl
theorem q29_114 : pj_row 29 114 = some (.invokevirtual 145, 3, 31, 3, 0) := by decide +kernel
theorem e29_114 {L : pj_Loc} {st : List Value} {N S : Nat} {H : pj_Heap} {o : Option Value × pj_Mem} {M' : pj_Mem} {x0 : Nat} {x1 : Int32} {x2 : Int32} {r : Int32} (h4 : pj_le4 st = true) (hu : pj_isU 3 (H x0) = true) (h1 : pj_Ends 31 (0, [some (.ref x0), some (.int x1), some (.int x2)], [], (N, S, H)) (some (.int r), M')) (h2 : pj_Ends 29 (117, L, .int r :: st, M') o) : pj_Ends 29 (114, L, .int x2 :: .int x1 :: .ref x0 :: st, (N, S, H)) o := ec_v3 q29_114 (Or.inl rfl) h4 hu rfl h1 h2
theorem q29_117 : pj_row 29 117 = some (.ifCond .eq 7, 3, 124, 0, 0) := by decide +kernel
theorem s29_117 {L : pj_Loc} {st : List Value} {M : pj_Mem} {x : Int32} : pj_step 29 (117, L, .int x :: st, M) = some (if x = 0 then 124 else 120, L, st, M) := st_if_eq q29_117
theorem q29_120 : pj_row 29 120 = some (.iconst 1, 1, 0, 0, 0) := by decide +kernel
theorem s29_120 {L : pj_Loc} {st : List Value} {M : pj_Mem}  : pj_step 29 (120, L, st, M) = some (121, L, .int 1 :: st, M) := st_iconst q29_120 (by decide +kernel)
theorem q29_121 : pj_row 29 121 = some (.goto 4, 3, 125, 0, 0) := by decide +kernel
theorem s29_121 {L : pj_Loc} {st : List Value} {M : pj_Mem}  : pj_step 29 (121, L, st, M) = some (125, L, st, M) := st_goto q29_121
theorem q29_124 : pj_row 29 124 = some (.iconst 0, 1, 0, 0, 0) := by decide +kernel
theorem s29_124 {L : pj_Loc} {st : List Value} {M : pj_Mem}  : pj_step 29 (124, L, st, M) = some (125, L, .int 0 :: st, M) := st_iconst q29_124 (by decide +kernel)
theorem q29_125 : pj_row 29 125 = some (.ireturn, 1, 0, 0, 0) := by decide +kernel
theorem t29_125 {L : pj_Loc} {M : pj_Mem} {v : Int32} (hv : v = 0 ∨ v = 1) : pj_Ends 29 (125, L, [.int v], M) (some (.int v), M) := pj_Ends.ret q29_125 (pj_rtn_z rt29 hv)
theorem q29_126 : pj_row 29 126 = some (.iconst 0, 1, 0, 0, 0) := by decide +kernel
theorem s29_126 {L : pj_Loc} {st : List Value} {M : pj_Mem}  : pj_step 29 (126, L, st, M) = some (127, L, .int 0 :: st, M) := st_iconst q29_126 (by decide +kernel)
theorem q29_127 : pj_row 29 127 = some (.ireturn, 1, 0, 0, 0) := by decide +kernel
theorem t29_127 {L : pj_Loc} {M : pj_Mem} {v : Int32} (hv : v = 0 ∨ v = 1) : pj_Ends 29 (127, L, [.int v], M) (some (.int v), M) := pj_Ends.ret q29_127 (pj_rtn_z rt29 hv)
theorem rt30 : pj_rt 30 = some .int := rfl
theorem q30_0 : pj_row 30 0 = some (.iload_n 0, 1, 0, 0, 0) := by decide +kernel
theorem s30_0 {st : List Value} {M : pj_Mem} {l : pj_Loc} {x : Int32} : pj_step 30 (0, some (.int x) :: l, st, M) = some (1, some (.int x) :: l, .int x :: st, M) := st_iload_n q30_0 rfl
theorem q30_1 : pj_row 30 1 = some (.iload_n 0, 1, 0, 0, 0) := by decide +kernel
theorem s30_1 {st : List Value} {M : pj_Mem} {l : pj_Loc} {x : Int32} : pj_step 30 (1, some (.int x) :: l, st, M) = some (2, some (.int x) :: l, .int x :: st, M) := st_iload_n q30_1 rfl
theorem q30_2 : pj_row 30 2 = some (.iconst 1, 1, 0, 0, 0) := by decide +kernel
theorem s30_2 {L : pj_Loc} {st : List Value} {M : pj_Mem}  : pj_step 30 (2, L, st, M) = some (3, L, .int 1 :: st, M) := st_iconst q30_2 (by decide +kernel)
theorem q30_3 : pj_row 30 3 = some (.iushr, 1, 0, 0, 0) := by decide +kernel
theorem s30_3 {L : pj_Loc} {st : List Value} {M : pj_Mem} {x y : Int32} : pj_step 30 (3, L, .int y :: .int x :: st, M) = some (4, L, .int ((x.toUInt32 >>> (y.toUInt32 &&& Int32.toUInt32 31)).toInt32) :: st, M) := st_iushr q30_3
theorem q30_4 : pj_row 30 4 = some (.ldc_w 265, 3, 0, 0, 1431655765) := by decide +kernel
theorem s30_4 {L : pj_Loc} {st : List Value} {M : pj_Mem}  : pj_step 30 (4, L, st, M) = some (7, L, .int 1431655765 :: st, M) := st_ldc_w q30_4 (by decide +kernel)
theorem q30_7 : pj_row 30 7 = some (.iand, 1, 0, 0, 0) := by decide +kernel
theorem s30_7 {L : pj_Loc} {st : List Value} {M : pj_Mem} {x y : Int32} : pj_step 30 (7, L, .int y :: .int x :: st, M) = some (8, L, .int (x &&& y) :: st, M) := st_iand q30_7
theorem q30_8 : pj_row 30 8 = some (.isub, 1, 0, 0, 0) := by decide +kernel
theorem s30_8 {L : pj_Loc} {st : List Value} {M : pj_Mem} {x y : Int32} : pj_step 30 (8, L, .int y :: .int x :: st, M) = some (9, L, .int (x - y) :: st, M) := st_isub q30_8
theorem q30_9 : pj_row 30 9 = some (.istore_n 0, 1, 0, 0, 0) := by decide +kernel
theorem s30_9 {st : List Value} {M : pj_Mem} {l : pj_Loc} {a0 : Option Value} {x : Int32} : pj_step 30 (9, a0 :: l, .int x :: st, M) = some (10, some (.int x) :: l, st, M) := st_istore_n q30_9 (pj_st_0)
theorem q30_10 : pj_row 30 10 = some (.iload_n 0, 1, 0, 0, 0) := by decide +kernel
theorem s30_10 {st : List Value} {M : pj_Mem} {l : pj_Loc} {x : Int32} : pj_step 30 (10, some (.int x) :: l, st, M) = some (11, some (.int x) :: l, .int x :: st, M) := st_iload_n q30_10 rfl
theorem q30_11 : pj_row 30 11 = some (.ldc_w 266, 3, 0, 0, 858993459) := by decide +kernel
theorem s30_11 {L : pj_Loc} {st : List Value} {M : pj_Mem}  : pj_step 30 (11, L, st, M) = some (14, L, .int 858993459 :: st, M) := st_ldc_w q30_11 (by decide +kernel)
theorem q30_14 : pj_row 30 14 = some (.iand, 1, 0, 0, 0) := by decide +kernel
theorem s30_14 {L : pj_Loc} {st : List Value} {M : pj_Mem} {x y : Int32} : pj_step 30 (14, L, .int y :: .int x :: st, M) = some (15, L, .int (x &&& y) :: st, M) := st_iand q30_14
theorem q30_15 : pj_row 30 15 = some (.iload_n 0, 1, 0, 0, 0) := by decide +kernel
theorem s30_15 {st : List Value} {M : pj_Mem} {l : pj_Loc} {x : Int32} : pj_step 30 (15, some (.int x) :: l, st, M) = some (16, some (.int x) :: l, .int x :: st, M) := st_iload_n q30_15 rfl
theorem q30_16 : pj_row 30 16 = some (.iconst 2, 1, 0, 0, 0) := by decide +kernel
theorem s30_16 {L : pj_Loc} {st : List Value} {M : pj_Mem}  : pj_step 30 (16, L, st, M) = some (17, L, .int 2 :: st, M) := st_iconst q30_16 (by decide +kernel)
theorem q30_17 : pj_row 30 17 = some (.iushr, 1, 0, 0, 0) := by decide +kernel
theorem s30_17 {L : pj_Loc} {st : List Value} {M : pj_Mem} {x y : Int32} : pj_step 30 (17, L, .int y :: .int x :: st, M) = some (18, L, .int ((x.toUInt32 >>> (y.toUInt32 &&& Int32.toUInt32 31)).toInt32) :: st, M) := st_iushr q30_17
theorem q30_18 : pj_row 30 18 = some (.ldc_w 266, 3, 0, 0, 858993459) := by decide +kernel
theorem s30_18 {L : pj_Loc} {st : List Value} {M : pj_Mem}  : pj_step 30 (18, L, st, M) = some (21, L, .int 858993459 :: st, M) := st_ldc_w q30_18 (by decide +kernel)
theorem q30_21 : pj_row 30 21 = some (.iand, 1, 0, 0, 0) := by decide +kernel
theorem s30_21 {L : pj_Loc} {st : List Value} {M : pj_Mem} {x y : Int32} : pj_step 30 (21, L, .int y :: .int x :: st, M) = some (22, L, .int (x &&& y) :: st, M) := st_iand q30_21
theorem q30_22 : pj_row 30 22 = some (.iadd, 1, 0, 0, 0) := by decide +kernel
theorem s30_22 {L : pj_Loc} {st : List Value} {M : pj_Mem} {x y : Int32} : pj_step 30 (22, L, .int y :: .int x :: st, M) = some (23, L, .int (x + y) :: st, M) := st_iadd q30_22
theorem q30_23 : pj_row 30 23 = some (.istore_n 0, 1, 0, 0, 0) := by decide +kernel
theorem s30_23 {st : List Value} {M : pj_Mem} {l : pj_Loc} {a0 : Option Value} {x : Int32} : pj_step 30 (23, a0 :: l, .int x :: st, M) = some (24, some (.int x) :: l, st, M) := st_istore_n q30_23 (pj_st_0)
theorem q30_24 : pj_row 30 24 = some (.iload_n 0, 1, 0, 0, 0) := by decide +kernel
theorem s30_24 {st : List Value} {M : pj_Mem} {l : pj_Loc} {x : Int32} : pj_step 30 (24, some (.int x) :: l, st, M) = some (25, some (.int x) :: l, .int x :: st, M) := st_iload_n q30_24 rfl
theorem q30_25 : pj_row 30 25 = some (.iload_n 0, 1, 0, 0, 0) := by decide +kernel
theorem s30_25 {st : List Value} {M : pj_Mem} {l : pj_Loc} {x : Int32} : pj_step 30 (25, some (.int x) :: l, st, M) = some (26, some (.int x) :: l, .int x :: st, M) := st_iload_n q30_25 rfl
theorem q30_26 : pj_row 30 26 = some (.iconst 4, 1, 0, 0, 0) := by decide +kernel
theorem s30_26 {L : pj_Loc} {st : List Value} {M : pj_Mem}  : pj_step 30 (26, L, st, M) = some (27, L, .int 4 :: st, M) := st_iconst q30_26 (by decide +kernel)
theorem q30_27 : pj_row 30 27 = some (.iushr, 1, 0, 0, 0) := by decide +kernel
theorem s30_27 {L : pj_Loc} {st : List Value} {M : pj_Mem} {x y : Int32} : pj_step 30 (27, L, .int y :: .int x :: st, M) = some (28, L, .int ((x.toUInt32 >>> (y.toUInt32 &&& Int32.toUInt32 31)).toInt32) :: st, M) := st_iushr q30_27
theorem q30_28 : pj_row 30 28 = some (.iadd, 1, 0, 0, 0) := by decide +kernel
theorem s30_28 {L : pj_Loc} {st : List Value} {M : pj_Mem} {x y : Int32} : pj_step 30 (28, L, .int y :: .int x :: st, M) = some (29, L, .int (x + y) :: st, M) := st_iadd q30_28
theorem q30_29 : pj_row 30 29 = some (.ldc_w 267, 3, 0, 0, 252645135) := by decide +kernel
theorem s30_29 {L : pj_Loc} {st : List Value} {M : pj_Mem}  : pj_step 30 (29, L, st, M) = some (32, L, .int 252645135 :: st, M) := st_ldc_w q30_29 (by decide +kernel)
theorem q30_32 : pj_row 30 32 = some (.iand, 1, 0, 0, 0) := by decide +kernel
theorem s30_32 {L : pj_Loc} {st : List Value} {M : pj_Mem} {x y : Int32} : pj_step 30 (32, L, .int y :: .int x :: st, M) = some (33, L, .int (x &&& y) :: st, M) := st_iand q30_32
theorem q30_33 : pj_row 30 33 = some (.istore_n 0, 1, 0, 0, 0) := by decide +kernel
theorem s30_33 {st : List Value} {M : pj_Mem} {l : pj_Loc} {a0 : Option Value} {x : Int32} : pj_step 30 (33, a0 :: l, .int x :: st, M) = some (34, some (.int x) :: l, st, M) := st_istore_n q30_33 (pj_st_0)
theorem q30_34 : pj_row 30 34 = some (.iload_n 0, 1, 0, 0, 0) := by decide +kernel
theorem s30_34 {st : List Value} {M : pj_Mem} {l : pj_Loc} {x : Int32} : pj_step 30 (34, some (.int x) :: l, st, M) = some (35, some (.int x) :: l, .int x :: st, M) := st_iload_n q30_34 rfl
theorem q30_35 : pj_row 30 35 = some (.iload_n 0, 1, 0, 0, 0) := by decide +kernel
theorem s30_35 {st : List Value} {M : pj_Mem} {l : pj_Loc} {x : Int32} : pj_step 30 (35, some (.int x) :: l, st, M) = some (36, some (.int x) :: l, .int x :: st, M) := st_iload_n q30_35 rfl
theorem q30_36 : pj_row 30 36 = some (.bipush 8, 2, 0, 0, 0) := by decide +kernel
theorem s30_36 {L : pj_Loc} {st : List Value} {M : pj_Mem}  : pj_step 30 (36, L, st, M) = some (38, L, .int 8 :: st, M) := st_bipush q30_36 (by decide +kernel)
theorem q30_38 : pj_row 30 38 = some (.iushr, 1, 0, 0, 0) := by decide +kernel
theorem s30_38 {L : pj_Loc} {st : List Value} {M : pj_Mem} {x y : Int32} : pj_step 30 (38, L, .int y :: .int x :: st, M) = some (39, L, .int ((x.toUInt32 >>> (y.toUInt32 &&& Int32.toUInt32 31)).toInt32) :: st, M) := st_iushr q30_38
theorem q30_39 : pj_row 30 39 = some (.iadd, 1, 0, 0, 0) := by decide +kernel
theorem s30_39 {L : pj_Loc} {st : List Value} {M : pj_Mem} {x y : Int32} : pj_step 30 (39, L, .int y :: .int x :: st, M) = some (40, L, .int (x + y) :: st, M) := st_iadd q30_39
theorem q30_40 : pj_row 30 40 = some (.istore_n 0, 1, 0, 0, 0) := by decide +kernel
theorem s30_40 {st : List Value} {M : pj_Mem} {l : pj_Loc} {a0 : Option Value} {x : Int32} : pj_step 30 (40, a0 :: l, .int x :: st, M) = some (41, some (.int x) :: l, st, M) := st_istore_n q30_40 (pj_st_0)
theorem q30_41 : pj_row 30 41 = some (.iload_n 0, 1, 0, 0, 0) := by decide +kernel
theorem s30_41 {st : List Value} {M : pj_Mem} {l : pj_Loc} {x : Int32} : pj_step 30 (41, some (.int x) :: l, st, M) = some (42, some (.int x) :: l, .int x :: st, M) := st_iload_n q30_41 rfl
theorem q30_42 : pj_row 30 42 = some (.iload_n 0, 1, 0, 0, 0) := by decide +kernel
theorem s30_42 {st : List Value} {M : pj_Mem} {l : pj_Loc} {x : Int32} : pj_step 30 (42, some (.int x) :: l, st, M) = some (43, some (.int x) :: l, .int x :: st, M) := st_iload_n q30_42 rfl
theorem q30_43 : pj_row 30 43 = some (.bipush 16, 2, 0, 0, 0) := by decide +kernel
theorem s30_43 {L : pj_Loc} {st : List Value} {M : pj_Mem}  : pj_step 30 (43, L, st, M) = some (45, L, .int 16 :: st, M) := st_bipush q30_43 (by decide +kernel)
theorem q30_45 : pj_row 30 45 = some (.iushr, 1, 0, 0, 0) := by decide +kernel
theorem s30_45 {L : pj_Loc} {st : List Value} {M : pj_Mem} {x y : Int32} : pj_step 30 (45, L, .int y :: .int x :: st, M) = some (46, L, .int ((x.toUInt32 >>> (y.toUInt32 &&& Int32.toUInt32 31)).toInt32) :: st, M) := st_iushr q30_45
theorem q30_46 : pj_row 30 46 = some (.iadd, 1, 0, 0, 0) := by decide +kernel
theorem s30_46 {L : pj_Loc} {st : List Value} {M : pj_Mem} {x y : Int32} : pj_step 30 (46, L, .int y :: .int x :: st, M) = some (47, L, .int (x + y) :: st, M) := st_iadd q30_46
theorem q30_47 : pj_row 30 47 = some (.istore_n 0, 1, 0, 0, 0) := by decide +kernel
theorem s30_47 {st : List Value} {M : pj_Mem} {l : pj_Loc} {a0 : Option Value} {x : Int32} : pj_step 30 (47, a0 :: l, .int x :: st, M) = some (48, some (.int x) :: l, st, M) := st_istore_n q30_47 (pj_st_0)
theorem q30_48 : pj_row 30 48 = some (.iload_n 0, 1, 0, 0, 0) := by decide +kernel
theorem s30_48 {st : List Value} {M : pj_Mem} {l : pj_Loc} {x : Int32} : pj_step 30 (48, some (.int x) :: l, st, M) = some (49, some (.int x) :: l, .int x :: st, M) := st_iload_n q30_48 rfl
theorem q30_49 : pj_row 30 49 = some (.bipush 63, 2, 0, 0, 0) := by decide +kernel
theorem s30_49 {L : pj_Loc} {st : List Value} {M : pj_Mem}  : pj_step 30 (49, L, st, M) = some (51, L, .int 63 :: st, M) := st_bipush q30_49 (by decide +kernel)
theorem q30_51 : pj_row 30 51 = some (.iand, 1, 0, 0, 0) := by decide +kernel
theorem s30_51 {L : pj_Loc} {st : List Value} {M : pj_Mem} {x y : Int32} : pj_step 30 (51, L, .int y :: .int x :: st, M) = some (52, L, .int (x &&& y) :: st, M) := st_iand q30_51
theorem q30_52 : pj_row 30 52 = some (.ireturn, 1, 0, 0, 0) := by decide +kernel
theorem t30_52 {L : pj_Loc} {M : pj_Mem} {v : Int32} : pj_Ends 30 (52, L, [.int v], M) (some (.int v), M) := pj_Ends.ret q30_52 (pj_rtn_i rt30)
theorem rt31 : pj_rt 31 = some .boolean := rfl
theorem q31_0 : pj_row 31 0 = some (.aload_n 0, 1, 0, 0, 0) := by decide +kernel
theorem s31_0 {st : List Value} {M : pj_Mem} {l : pj_Loc} {x : Nat} : pj_step 31 (0, some (.ref x) :: l, st, M) = some (1, some (.ref x) :: l, .ref x :: st, M) := st_aload_n q31_0 rfl
theorem q31_1 : pj_row 31 1 = some (.getfield 27, 3, 3, 5, 0) := by decide +kernel
theorem s31_1 {L : pj_Loc} {st : List Value} {N S : Nat} {H : pj_Heap} {o : Nat} : pj_step 31 (1, L, .ref o :: st, (N, S, H)) = pj_pv 4 L st (N, S, H) (pj_fld (H o) 3 5) := st_getfield q31_1
theorem q31_4 : pj_row 31 4 = some (.iload_n 1, 1, 0, 0, 0) := by decide +kernel
theorem s31_4 {st : List Value} {M : pj_Mem} {l : pj_Loc} {a0 : Option Value} {x : Int32} : pj_step 31 (4, a0 :: some (.int x) :: l, st, M) = some (5, a0 :: some (.int x) :: l, .int x :: st, M) := st_iload_n q31_4 rfl
theorem q31_5 : pj_row 31 5 = some (.iaload, 1, 0, 0, 0) := by decide +kernel
theorem s31_5 {L : pj_Loc} {st : List Value} {N S : Nat} {H : pj_Heap} {o : Nat} {i : Int32} : pj_step 31 (5, L, .int i :: .ref o :: st, (N, S, H)) = pj_pi 6 L st (N, S, H) (pj_arl (H o) 0 i) := st_iaload q31_5
theorem q31_6 : pj_row 31 6 = some (.bipush (-6), 2, 0, 0, 0) := by decide +kernel
theorem s31_6 {L : pj_Loc} {st : List Value} {M : pj_Mem}  : pj_step 31 (6, L, st, M) = some (8, L, .int (-6) :: st, M) := st_bipush q31_6 (by decide +kernel)
theorem q31_8 : pj_row 31 8 = some (.if_icmp .eq 22, 3, 30, 0, 0) := by decide +kernel
theorem s31_8 {L : pj_Loc} {st : List Value} {M : pj_Mem} {x y : Int32} : pj_step 31 (8, L, .int y :: .int x :: st, M) = some (if x = y then 30 else 11, L, st, M) := st_icmp_eq q31_8
theorem q31_11 : pj_row 31 11 = some (.aload_n 0, 1, 0, 0, 0) := by decide +kernel
theorem s31_11 {st : List Value} {M : pj_Mem} {l : pj_Loc} {x : Nat} : pj_step 31 (11, some (.ref x) :: l, st, M) = some (12, some (.ref x) :: l, .ref x :: st, M) := st_aload_n q31_11 rfl
theorem q31_12 : pj_row 31 12 = some (.getfield 36, 3, 3, 7, 0) := by decide +kernel
theorem s31_12 {L : pj_Loc} {st : List Value} {N S : Nat} {H : pj_Heap} {o : Nat} : pj_step 31 (12, L, .ref o :: st, (N, S, H)) = pj_pv 15 L st (N, S, H) (pj_fld (H o) 3 7) := st_getfield q31_12
theorem q31_15 : pj_row 31 15 = some (.aload_n 0, 1, 0, 0, 0) := by decide +kernel
theorem s31_15 {st : List Value} {M : pj_Mem} {l : pj_Loc} {x : Nat} : pj_step 31 (15, some (.ref x) :: l, st, M) = some (16, some (.ref x) :: l, .ref x :: st, M) := st_aload_n q31_15 rfl
theorem q31_16 : pj_row 31 16 = some (.getfield 27, 3, 3, 5, 0) := by decide +kernel
theorem s31_16 {L : pj_Loc} {st : List Value} {N S : Nat} {H : pj_Heap} {o : Nat} : pj_step 31 (16, L, .ref o :: st, (N, S, H)) = pj_pv 19 L st (N, S, H) (pj_fld (H o) 3 5) := st_getfield q31_16
theorem q31_19 : pj_row 31 19 = some (.iload_n 1, 1, 0, 0, 0) := by decide +kernel
theorem s31_19 {st : List Value} {M : pj_Mem} {l : pj_Loc} {a0 : Option Value} {x : Int32} : pj_step 31 (19, a0 :: some (.int x) :: l, st, M) = some (20, a0 :: some (.int x) :: l, .int x :: st, M) := st_iload_n q31_19 rfl
theorem q31_20 : pj_row 31 20 = some (.iaload, 1, 0, 0, 0) := by decide +kernel
theorem s31_20 {L : pj_Loc} {st : List Value} {N S : Nat} {H : pj_Heap} {o : Nat} {i : Int32} : pj_step 31 (20, L, .int i :: .ref o :: st, (N, S, H)) = pj_pi 21 L st (N, S, H) (pj_arl (H o) 0 i) := st_iaload q31_20
theorem q31_21 : pj_row 31 21 = some (.isub, 1, 0, 0, 0) := by decide +kernel
theorem s31_21 {L : pj_Loc} {st : List Value} {M : pj_Mem} {x y : Int32} : pj_step 31 (21, L, .int y :: .int x :: st, M) = some (22, L, .int (x - y) :: st, M) := st_isub q31_21
theorem q31_22 : pj_row 31 22 = some (.iload_n 2, 1, 0, 0, 0) := by decide +kernel
theorem s31_22 {st : List Value} {M : pj_Mem} {l : pj_Loc} {a0 a1 : Option Value} {x : Int32} : pj_step 31 (22, a0 :: a1 :: some (.int x) :: l, st, M) = some (23, a0 :: a1 :: some (.int x) :: l, .int x :: st, M) := st_iload_n q31_22 rfl
theorem q31_23 : pj_row 31 23 = some (.if_icmp .lt 7, 3, 30, 0, 0) := by decide +kernel
theorem s31_23 {L : pj_Loc} {st : List Value} {M : pj_Mem} {x y : Int32} : pj_step 31 (23, L, .int y :: .int x :: st, M) = some (if x < y then 30 else 26, L, st, M) := st_icmp_lt q31_23
theorem q31_26 : pj_row 31 26 = some (.iconst 1, 1, 0, 0, 0) := by decide +kernel
theorem s31_26 {L : pj_Loc} {st : List Value} {M : pj_Mem}  : pj_step 31 (26, L, st, M) = some (27, L, .int 1 :: st, M) := st_iconst q31_26 (by decide +kernel)
theorem q31_27 : pj_row 31 27 = some (.goto 4, 3, 31, 0, 0) := by decide +kernel
theorem s31_27 {L : pj_Loc} {st : List Value} {M : pj_Mem}  : pj_step 31 (27, L, st, M) = some (31, L, st, M) := st_goto q31_27
theorem q31_30 : pj_row 31 30 = some (.iconst 0, 1, 0, 0, 0) := by decide +kernel
theorem s31_30 {L : pj_Loc} {st : List Value} {M : pj_Mem}  : pj_step 31 (30, L, st, M) = some (31, L, .int 0 :: st, M) := st_iconst q31_30 (by decide +kernel)
theorem q31_31 : pj_row 31 31 = some (.ireturn, 1, 0, 0, 0) := by decide +kernel
theorem t31_31 {L : pj_Loc} {M : pj_Mem} {v : Int32} (hv : v = 0 ∨ v = 1) : pj_Ends 31 (31, L, [.int v], M) (some (.int v), M) := pj_Ends.ret q31_31 (pj_rtn_z rt31 hv)
theorem rt32 : pj_rt 32 = none := rfl
theorem q32_0 : pj_row 32 0 = some (.aload_n 1, 1, 0, 0, 0) := by decide +kernel
theorem s32_0 {st : List Value} {M : pj_Mem} {l : pj_Loc} {a0 : Option Value} {x : Nat} : pj_step 32 (0, a0 :: some (.ref x) :: l, st, M) = some (1, a0 :: some (.ref x) :: l, .ref x :: st, M) := st_aload_n q32_0 rfl
theorem q32_1 : pj_row 32 1 = some (.getfield 63, 3, 3, 2, 0) := by decide +kernel
theorem s32_1 {L : pj_Loc} {st : List Value} {N S : Nat} {H : pj_Heap} {o : Nat} : pj_step 32 (1, L, .ref o :: st, (N, S, H)) = pj_pv 4 L st (N, S, H) (pj_fld (H o) 3 2) := st_getfield q32_1
theorem q32_4 : pj_row 32 4 = some (.iconst 0, 1, 0, 0, 0) := by decide +kernel
theorem s32_4 {L : pj_Loc} {st : List Value} {M : pj_Mem}  : pj_step 32 (4, L, st, M) = some (5, L, .int 0 :: st, M) := st_iconst q32_4 (by decide +kernel)
theorem q32_5 : pj_row 32 5 = some (.aload_n 0, 1, 0, 0, 0) := by decide +kernel
theorem s32_5 {st : List Value} {M : pj_Mem} {l : pj_Loc} {x : Nat} : pj_step 32 (5, some (.ref x) :: l, st, M) = some (6, some (.ref x) :: l, .ref x :: st, M) := st_aload_n q32_5 rfl
theorem q32_6 : pj_row 32 6 = some (.getfield 15, 3, 4, 1, 0) := by decide +kernel
theorem s32_6 {L : pj_Loc} {st : List Value} {N S : Nat} {H : pj_Heap} {o : Nat} : pj_step 32 (6, L, .ref o :: st, (N, S, H)) = pj_pv 9 L st (N, S, H) (pj_fld (H o) 4 1) := st_getfield q32_6
theorem q32_9 : pj_row 32 9 = some (.iconst 0, 1, 0, 0, 0) := by decide +kernel
theorem s32_9 {L : pj_Loc} {st : List Value} {M : pj_Mem}  : pj_step 32 (9, L, st, M) = some (10, L, .int 0 :: st, M) := st_iconst q32_9 (by decide +kernel)
theorem q32_10 : pj_row 32 10 = some (.iconst 3, 1, 0, 0, 0) := by decide +kernel
theorem s32_10 {L : pj_Loc} {st : List Value} {M : pj_Mem}  : pj_step 32 (10, L, st, M) = some (11, L, .int 3 :: st, M) := st_iconst q32_10 (by decide +kernel)
theorem q32_11 : pj_row 32 11 = some (.invokestatic 44, 3, 0, 5, 3) := by decide +kernel
theorem s32_11 {L : pj_Loc} {st : List Value} {N S : Nat} {H : pj_Heap} {d o : Nat} {n dp sp : Int32} : pj_step 32 (11, L, .int n :: .int dp :: .ref d :: .int sp :: .ref o :: st, (N, S, H)) = pj_g4 st (pj_set 14 L st (N, S, H) d (pj_cas (H o) (H d) sp dp n)) := st_acp q32_11
theorem q32_14 : pj_row 32 14 = some (.aload_n 1, 1, 0, 0, 0) := by decide +kernel
theorem s32_14 {st : List Value} {M : pj_Mem} {l : pj_Loc} {a0 : Option Value} {x : Nat} : pj_step 32 (14, a0 :: some (.ref x) :: l, st, M) = some (15, a0 :: some (.ref x) :: l, .ref x :: st, M) := st_aload_n q32_14 rfl
theorem q32_15 : pj_row 32 15 = some (.getfield 66, 3, 3, 3, 0) := by decide +kernel
theorem s32_15 {L : pj_Loc} {st : List Value} {N S : Nat} {H : pj_Heap} {o : Nat} : pj_step 32 (15, L, .ref o :: st, (N, S, H)) = pj_pv 18 L st (N, S, H) (pj_fld (H o) 3 3) := st_getfield q32_15
theorem q32_18 : pj_row 32 18 = some (.iconst 0, 1, 0, 0, 0) := by decide +kernel
theorem s32_18 {L : pj_Loc} {st : List Value} {M : pj_Mem}  : pj_step 32 (18, L, st, M) = some (19, L, .int 0 :: st, M) := st_iconst q32_18 (by decide +kernel)
theorem q32_19 : pj_row 32 19 = some (.aload_n 0, 1, 0, 0, 0) := by decide +kernel
theorem s32_19 {st : List Value} {M : pj_Mem} {l : pj_Loc} {x : Nat} : pj_step 32 (19, some (.ref x) :: l, st, M) = some (20, some (.ref x) :: l, .ref x :: st, M) := st_aload_n q32_19 rfl
theorem q32_20 : pj_row 32 20 = some (.getfield 18, 3, 4, 2, 0) := by decide +kernel
theorem s32_20 {L : pj_Loc} {st : List Value} {N S : Nat} {H : pj_Heap} {o : Nat} : pj_step 32 (20, L, .ref o :: st, (N, S, H)) = pj_pv 23 L st (N, S, H) (pj_fld (H o) 4 2) := st_getfield q32_20
theorem q32_23 : pj_row 32 23 = some (.iconst 0, 1, 0, 0, 0) := by decide +kernel
theorem s32_23 {L : pj_Loc} {st : List Value} {M : pj_Mem}  : pj_step 32 (23, L, st, M) = some (24, L, .int 0 :: st, M) := st_iconst q32_23 (by decide +kernel)
theorem q32_24 : pj_row 32 24 = some (.iconst 3, 1, 0, 0, 0) := by decide +kernel
theorem s32_24 {L : pj_Loc} {st : List Value} {M : pj_Mem}  : pj_step 32 (24, L, st, M) = some (25, L, .int 3 :: st, M) := st_iconst q32_24 (by decide +kernel)
theorem q32_25 : pj_row 32 25 = some (.invokestatic 44, 3, 0, 5, 3) := by decide +kernel
theorem s32_25 {L : pj_Loc} {st : List Value} {N S : Nat} {H : pj_Heap} {d o : Nat} {n dp sp : Int32} : pj_step 32 (25, L, .int n :: .int dp :: .ref d :: .int sp :: .ref o :: st, (N, S, H)) = pj_g4 st (pj_set 28 L st (N, S, H) d (pj_cas (H o) (H d) sp dp n)) := st_acp q32_25
theorem q32_28 : pj_row 32 28 = some (.aload_n 1, 1, 0, 0, 0) := by decide +kernel
theorem s32_28 {st : List Value} {M : pj_Mem} {l : pj_Loc} {a0 : Option Value} {x : Nat} : pj_step 32 (28, a0 :: some (.ref x) :: l, st, M) = some (29, a0 :: some (.ref x) :: l, .ref x :: st, M) := st_aload_n q32_28 rfl
theorem q32_29 : pj_row 32 29 = some (.getfield 67, 3, 3, 4, 0) := by decide +kernel
theorem s32_29 {L : pj_Loc} {st : List Value} {N S : Nat} {H : pj_Heap} {o : Nat} : pj_step 32 (29, L, .ref o :: st, (N, S, H)) = pj_pv 32 L st (N, S, H) (pj_fld (H o) 3 4) := st_getfield q32_29
theorem q32_32 : pj_row 32 32 = some (.iconst 0, 1, 0, 0, 0) := by decide +kernel
theorem s32_32 {L : pj_Loc} {st : List Value} {M : pj_Mem}  : pj_step 32 (32, L, st, M) = some (33, L, .int 0 :: st, M) := st_iconst q32_32 (by decide +kernel)
theorem q32_33 : pj_row 32 33 = some (.aload_n 0, 1, 0, 0, 0) := by decide +kernel
theorem s32_33 {st : List Value} {M : pj_Mem} {l : pj_Loc} {x : Nat} : pj_step 32 (33, some (.ref x) :: l, st, M) = some (34, some (.ref x) :: l, .ref x :: st, M) := st_aload_n q32_33 rfl
theorem q32_34 : pj_row 32 34 = some (.getfield 21, 3, 4, 3, 0) := by decide +kernel
theorem s32_34 {L : pj_Loc} {st : List Value} {N S : Nat} {H : pj_Heap} {o : Nat} : pj_step 32 (34, L, .ref o :: st, (N, S, H)) = pj_pv 37 L st (N, S, H) (pj_fld (H o) 4 3) := st_getfield q32_34
theorem q32_37 : pj_row 32 37 = some (.iconst 0, 1, 0, 0, 0) := by decide +kernel
theorem s32_37 {L : pj_Loc} {st : List Value} {M : pj_Mem}  : pj_step 32 (37, L, st, M) = some (38, L, .int 0 :: st, M) := st_iconst q32_37 (by decide +kernel)
theorem q32_38 : pj_row 32 38 = some (.iconst 3, 1, 0, 0, 0) := by decide +kernel
theorem s32_38 {L : pj_Loc} {st : List Value} {M : pj_Mem}  : pj_step 32 (38, L, st, M) = some (39, L, .int 3 :: st, M) := st_iconst q32_38 (by decide +kernel)
theorem q32_39 : pj_row 32 39 = some (.invokestatic 44, 3, 0, 5, 3) := by decide +kernel
theorem s32_39 {L : pj_Loc} {st : List Value} {N S : Nat} {H : pj_Heap} {d o : Nat} {n dp sp : Int32} : pj_step 32 (39, L, .int n :: .int dp :: .ref d :: .int sp :: .ref o :: st, (N, S, H)) = pj_g4 st (pj_set 42 L st (N, S, H) d (pj_cas (H o) (H d) sp dp n)) := st_acp q32_39
theorem q32_42 : pj_row 32 42 = some (.aload_n 1, 1, 0, 0, 0) := by decide +kernel
theorem s32_42 {st : List Value} {M : pj_Mem} {l : pj_Loc} {a0 : Option Value} {x : Nat} : pj_step 32 (42, a0 :: some (.ref x) :: l, st, M) = some (43, a0 :: some (.ref x) :: l, .ref x :: st, M) := st_aload_n q32_42 rfl
theorem q32_43 : pj_row 32 43 = some (.getfield 68, 3, 3, 0, 0) := by decide +kernel
theorem s32_43 {L : pj_Loc} {st : List Value} {N S : Nat} {H : pj_Heap} {o : Nat} : pj_step 32 (43, L, .ref o :: st, (N, S, H)) = pj_pv 46 L st (N, S, H) (pj_fld (H o) 3 0) := st_getfield q32_43
theorem q32_46 : pj_row 32 46 = some (.iconst 0, 1, 0, 0, 0) := by decide +kernel
theorem s32_46 {L : pj_Loc} {st : List Value} {M : pj_Mem}  : pj_step 32 (46, L, st, M) = some (47, L, .int 0 :: st, M) := st_iconst q32_46 (by decide +kernel)
theorem q32_47 : pj_row 32 47 = some (.aload_n 0, 1, 0, 0, 0) := by decide +kernel
theorem s32_47 {st : List Value} {M : pj_Mem} {l : pj_Loc} {x : Nat} : pj_step 32 (47, some (.ref x) :: l, st, M) = some (48, some (.ref x) :: l, .ref x :: st, M) := st_aload_n q32_47 rfl
theorem q32_48 : pj_row 32 48 = some (.getfield 24, 3, 4, 4, 0) := by decide +kernel
theorem s32_48 {L : pj_Loc} {st : List Value} {N S : Nat} {H : pj_Heap} {o : Nat} : pj_step 32 (48, L, .ref o :: st, (N, S, H)) = pj_pv 51 L st (N, S, H) (pj_fld (H o) 4 4) := st_getfield q32_48
theorem q32_51 : pj_row 32 51 = some (.iconst 0, 1, 0, 0, 0) := by decide +kernel
theorem s32_51 {L : pj_Loc} {st : List Value} {M : pj_Mem}  : pj_step 32 (51, L, st, M) = some (52, L, .int 0 :: st, M) := st_iconst q32_51 (by decide +kernel)
theorem q32_52 : pj_row 32 52 = some (.iconst 3, 1, 0, 0, 0) := by decide +kernel
theorem s32_52 {L : pj_Loc} {st : List Value} {M : pj_Mem}  : pj_step 32 (52, L, st, M) = some (53, L, .int 3 :: st, M) := st_iconst q32_52 (by decide +kernel)
theorem q32_53 : pj_row 32 53 = some (.invokestatic 44, 3, 0, 5, 3) := by decide +kernel
theorem s32_53 {L : pj_Loc} {st : List Value} {N S : Nat} {H : pj_Heap} {d o : Nat} {n dp sp : Int32} : pj_step 32 (53, L, .int n :: .int dp :: .ref d :: .int sp :: .ref o :: st, (N, S, H)) = pj_g4 st (pj_set 56 L st (N, S, H) d (pj_cas (H o) (H d) sp dp n)) := st_acp q32_53
theorem q32_56 : pj_row 32 56 = some (.aload_n 1, 1, 0, 0, 0) := by decide +kernel
theorem s32_56 {st : List Value} {M : pj_Mem} {l : pj_Loc} {a0 : Option Value} {x : Nat} : pj_step 32 (56, a0 :: some (.ref x) :: l, st, M) = some (57, a0 :: some (.ref x) :: l, .ref x :: st, M) := st_aload_n q32_56 rfl
theorem q32_57 : pj_row 32 57 = some (.getfield 69, 3, 3, 5, 0) := by decide +kernel
theorem s32_57 {L : pj_Loc} {st : List Value} {N S : Nat} {H : pj_Heap} {o : Nat} : pj_step 32 (57, L, .ref o :: st, (N, S, H)) = pj_pv 60 L st (N, S, H) (pj_fld (H o) 3 5) := st_getfield q32_57
theorem q32_60 : pj_row 32 60 = some (.iconst 0, 1, 0, 0, 0) := by decide +kernel
theorem s32_60 {L : pj_Loc} {st : List Value} {M : pj_Mem}  : pj_step 32 (60, L, st, M) = some (61, L, .int 0 :: st, M) := st_iconst q32_60 (by decide +kernel)
theorem q32_61 : pj_row 32 61 = some (.aload_n 0, 1, 0, 0, 0) := by decide +kernel
theorem s32_61 {st : List Value} {M : pj_Mem} {l : pj_Loc} {x : Nat} : pj_step 32 (61, some (.ref x) :: l, st, M) = some (62, some (.ref x) :: l, .ref x :: st, M) := st_aload_n q32_61 rfl
theorem q32_62 : pj_row 32 62 = some (.getfield 27, 3, 4, 5, 0) := by decide +kernel
theorem s32_62 {L : pj_Loc} {st : List Value} {N S : Nat} {H : pj_Heap} {o : Nat} : pj_step 32 (62, L, .ref o :: st, (N, S, H)) = pj_pv 65 L st (N, S, H) (pj_fld (H o) 4 5) := st_getfield q32_62
theorem q32_65 : pj_row 32 65 = some (.iconst 0, 1, 0, 0, 0) := by decide +kernel
theorem s32_65 {L : pj_Loc} {st : List Value} {M : pj_Mem}  : pj_step 32 (65, L, st, M) = some (66, L, .int 0 :: st, M) := st_iconst q32_65 (by decide +kernel)
theorem q32_66 : pj_row 32 66 = some (.iconst 3, 1, 0, 0, 0) := by decide +kernel
theorem s32_66 {L : pj_Loc} {st : List Value} {M : pj_Mem}  : pj_step 32 (66, L, st, M) = some (67, L, .int 3 :: st, M) := st_iconst q32_66 (by decide +kernel)
theorem q32_67 : pj_row 32 67 = some (.invokestatic 44, 3, 0, 5, 3) := by decide +kernel
theorem s32_67 {L : pj_Loc} {st : List Value} {N S : Nat} {H : pj_Heap} {d o : Nat} {n dp sp : Int32} : pj_step 32 (67, L, .int n :: .int dp :: .ref d :: .int sp :: .ref o :: st, (N, S, H)) = pj_g4 st (pj_set 70 L st (N, S, H) d (pj_cas (H o) (H d) sp dp n)) := st_acp q32_67
theorem q32_70 : pj_row 32 70 = some (.aload_n 0, 1, 0, 0, 0) := by decide +kernel
theorem s32_70 {st : List Value} {M : pj_Mem} {l : pj_Loc} {x : Nat} : pj_step 32 (70, some (.ref x) :: l, st, M) = some (71, some (.ref x) :: l, .ref x :: st, M) := st_aload_n q32_70 rfl
theorem q32_71 : pj_row 32 71 = some (.aload_n 1, 1, 0, 0, 0) := by decide +kernel
theorem s32_71 {st : List Value} {M : pj_Mem} {l : pj_Loc} {a0 : Option Value} {x : Nat} : pj_step 32 (71, a0 :: some (.ref x) :: l, st, M) = some (72, a0 :: some (.ref x) :: l, .ref x :: st, M) := st_aload_n q32_71 rfl
theorem q32_72 : pj_row 32 72 = some (.getfield 70, 3, 3, 8, 0) := by decide +kernel
theorem s32_72 {L : pj_Loc} {st : List Value} {N S : Nat} {H : pj_Heap} {o : Nat} : pj_step 32 (72, L, .ref o :: st, (N, S, H)) = pj_pv 75 L st (N, S, H) (pj_fld (H o) 3 8) := st_getfield q32_72
theorem q32_75 : pj_row 32 75 = some (.putfield 37, 3, 4, 7, 0) := by decide +kernel
theorem s32_75 {L : pj_Loc} {st : List Value} {N S : Nat} {H : pj_Heap} {o : Nat} {v : Value} : pj_step 32 (75, L, v :: .ref o :: st, (N, S, H)) = pj_set 78 L st (N, S, H) o (pj_fset (H o) 4 7 v) := st_putfield q32_75
theorem q32_78 : pj_row 32 78 = some (.aload_n 0, 1, 0, 0, 0) := by decide +kernel
theorem s32_78 {st : List Value} {M : pj_Mem} {l : pj_Loc} {x : Nat} : pj_step 32 (78, some (.ref x) :: l, st, M) = some (79, some (.ref x) :: l, .ref x :: st, M) := st_aload_n q32_78 rfl
theorem q32_79 : pj_row 32 79 = some (.aload_n 1, 1, 0, 0, 0) := by decide +kernel
theorem s32_79 {st : List Value} {M : pj_Mem} {l : pj_Loc} {a0 : Option Value} {x : Nat} : pj_step 32 (79, a0 :: some (.ref x) :: l, st, M) = some (80, a0 :: some (.ref x) :: l, .ref x :: st, M) := st_aload_n q32_79 rfl
theorem q32_80 : pj_row 32 80 = some (.getfield 71, 3, 3, 10, 0) := by decide +kernel
theorem s32_80 {L : pj_Loc} {st : List Value} {N S : Nat} {H : pj_Heap} {o : Nat} : pj_step 32 (80, L, .ref o :: st, (N, S, H)) = pj_pv 83 L st (N, S, H) (pj_fld (H o) 3 10) := st_getfield q32_80
theorem q32_83 : pj_row 32 83 = some (.putfield 57, 3, 4, 9, 0) := by decide +kernel
theorem s32_83 {L : pj_Loc} {st : List Value} {N S : Nat} {H : pj_Heap} {o : Nat} {v : Value} : pj_step 32 (83, L, v :: .ref o :: st, (N, S, H)) = pj_set 86 L st (N, S, H) o (pj_fset (H o) 4 9 v) := st_putfield q32_83
theorem q32_86 : pj_row 32 86 = some (.aload_n 0, 1, 0, 0, 0) := by decide +kernel
theorem s32_86 {st : List Value} {M : pj_Mem} {l : pj_Loc} {x : Nat} : pj_step 32 (86, some (.ref x) :: l, st, M) = some (87, some (.ref x) :: l, .ref x :: st, M) := st_aload_n q32_86 rfl
theorem q32_87 : pj_row 32 87 = some (.getfield 33, 3, 4, 6, 0) := by decide +kernel
theorem s32_87 {L : pj_Loc} {st : List Value} {N S : Nat} {H : pj_Heap} {o : Nat} : pj_step 32 (87, L, .ref o :: st, (N, S, H)) = pj_pv 90 L st (N, S, H) (pj_fld (H o) 4 6) := st_getfield q32_87
theorem q32_90 : pj_row 32 90 = some (.aload_n 1, 1, 0, 0, 0) := by decide +kernel
theorem s32_90 {st : List Value} {M : pj_Mem} {l : pj_Loc} {a0 : Option Value} {x : Nat} : pj_step 32 (90, a0 :: some (.ref x) :: l, st, M) = some (91, a0 :: some (.ref x) :: l, .ref x :: st, M) := st_aload_n q32_90 rfl
theorem q32_91 : pj_row 32 91 = some (.invokevirtual 72, 3, 33, 2, 0) := by decide +kernel
theorem e32_91 {L : pj_Loc} {st : List Value} {N S : Nat} {H : pj_Heap} {o : Option Value × pj_Mem} {M' : pj_Mem} {x0 : Nat} {x1 : Nat} (h4 : pj_le4 st = true) (hu : pj_isU 2 (H x0) = true) (h1 : pj_Ends 33 (0, [some (.ref x0), some (.ref x1)], [], (N, S, H)) (none, M')) (h2 : pj_Ends 32 (94, L, st, M') o) : pj_Ends 32 (91, L, .ref x1 :: .ref x0 :: st, (N, S, H)) o := ec_v2 q32_91 (Or.inl rfl) h4 hu rfl h1 h2
theorem q32_94 : pj_row 32 94 = some (.aload_n 0, 1, 0, 0, 0) := by decide +kernel
theorem s32_94 {st : List Value} {M : pj_Mem} {l : pj_Loc} {x : Nat} : pj_step 32 (94, some (.ref x) :: l, st, M) = some (95, some (.ref x) :: l, .ref x :: st, M) := st_aload_n q32_94 rfl
theorem q32_95 : pj_row 32 95 = some (.dup, 1, 0, 0, 0) := by decide +kernel
theorem s32_95 {L : pj_Loc} {st : List Value} {M : pj_Mem} {x : Nat} : pj_step 32 (95, L, .ref x :: st, M) = some (96, L, .ref x :: .ref x :: st, M) := st_dup_ref q32_95
theorem s32_95i {L : pj_Loc} {st : List Value} {M : pj_Mem} {x : Int32} : pj_step 32 (95, L, .int x :: st, M) = some (96, L, .int x :: .int x :: st, M) := st_dup_int q32_95
theorem q32_96 : pj_row 32 96 = some (.getfield 60, 3, 4, 10, 0) := by decide +kernel
theorem s32_96 {L : pj_Loc} {st : List Value} {N S : Nat} {H : pj_Heap} {o : Nat} : pj_step 32 (96, L, .ref o :: st, (N, S, H)) = pj_pv 99 L st (N, S, H) (pj_fld (H o) 4 10) := st_getfield q32_96
theorem q32_99 : pj_row 32 99 = some (.iconst 1, 1, 0, 0, 0) := by decide +kernel
theorem s32_99 {L : pj_Loc} {st : List Value} {M : pj_Mem}  : pj_step 32 (99, L, st, M) = some (100, L, .int 1 :: st, M) := st_iconst q32_99 (by decide +kernel)
theorem q32_100 : pj_row 32 100 = some (.iadd, 1, 0, 0, 0) := by decide +kernel
theorem s32_100 {L : pj_Loc} {st : List Value} {M : pj_Mem} {x y : Int32} : pj_step 32 (100, L, .int y :: .int x :: st, M) = some (101, L, .int (x + y) :: st, M) := st_iadd q32_100
theorem q32_101 : pj_row 32 101 = some (.putfield 60, 3, 4, 10, 0) := by decide +kernel
theorem s32_101 {L : pj_Loc} {st : List Value} {N S : Nat} {H : pj_Heap} {o : Nat} {v : Value} : pj_step 32 (101, L, v :: .ref o :: st, (N, S, H)) = pj_set 104 L st (N, S, H) o (pj_fset (H o) 4 10 v) := st_putfield q32_101
theorem q32_104 : pj_row 32 104 = some (.return_, 1, 0, 0, 0) := by decide +kernel
theorem t32_104 {L : pj_Loc} {M : pj_Mem} : pj_Ends 32 (104, L, [], M) (none, M) := pj_Ends.ret q32_104 (pj_rtn_v rt32)
theorem rt33 : pj_rt 33 = none := rfl
theorem q33_0 : pj_row 33 0 = some (.aload_n 0, 1, 0, 0, 0) := by decide +kernel
theorem s33_0 {st : List Value} {M : pj_Mem} {l : pj_Loc} {x : Nat} : pj_step 33 (0, some (.ref x) :: l, st, M) = some (1, some (.ref x) :: l, .ref x :: st, M) := st_aload_n q33_0 rfl
theorem q33_1 : pj_row 33 1 = some (.aload_n 1, 1, 0, 0, 0) := by decide +kernel
theorem s33_1 {st : List Value} {M : pj_Mem} {l : pj_Loc} {a0 : Option Value} {x : Nat} : pj_step 33 (1, a0 :: some (.ref x) :: l, st, M) = some (2, a0 :: some (.ref x) :: l, .ref x :: st, M) := st_aload_n q33_1 rfl
theorem q33_2 : pj_row 33 2 = some (.getfield 28, 3, 3, 7, 0) := by decide +kernel
theorem s33_2 {L : pj_Loc} {st : List Value} {N S : Nat} {H : pj_Heap} {o : Nat} : pj_step 33 (2, L, .ref o :: st, (N, S, H)) = pj_pv 5 L st (N, S, H) (pj_fld (H o) 3 7) := st_getfield q33_2
theorem q33_5 : pj_row 33 5 = some (.invokevirtual 33, 3, 34, 2, 0) := by decide +kernel
theorem e33_5 {L : pj_Loc} {st : List Value} {N S : Nat} {H : pj_Heap} {o : Option Value × pj_Mem} {M' : pj_Mem} {x0 : Nat} {x1 : Int32} {r : Int32} (h4 : pj_le4 st = true) (hu : pj_isU 2 (H x0) = true) (h1 : pj_Ends 34 (0, [some (.ref x0), some (.int x1)], [], (N, S, H)) (some (.int r), M')) (h2 : pj_Ends 33 (8, L, .int r :: st, M') o) : pj_Ends 33 (5, L, .int x1 :: .ref x0 :: st, (N, S, H)) o := ec_v2 q33_5 (Or.inl rfl) h4 hu rfl h1 h2
theorem q33_8 : pj_row 33 8 = some (.ifCond .ne 4, 3, 12, 0, 0) := by decide +kernel
theorem s33_8 {L : pj_Loc} {st : List Value} {M : pj_Mem} {x : Int32} : pj_step 33 (8, L, .int x :: st, M) = some (if ¬ x = 0 then 12 else 11, L, st, M) := st_if_ne q33_8
theorem q33_11 : pj_row 33 11 = some (.return_, 1, 0, 0, 0) := by decide +kernel
theorem t33_11 {L : pj_Loc} {M : pj_Mem} : pj_Ends 33 (11, L, [], M) (none, M) := pj_Ends.ret q33_11 (pj_rtn_v rt33)
theorem q33_12 : pj_row 33 12 = some (.aload_n 0, 1, 0, 0, 0) := by decide +kernel
theorem s33_12 {st : List Value} {M : pj_Mem} {l : pj_Loc} {x : Nat} : pj_step 33 (12, some (.ref x) :: l, st, M) = some (13, some (.ref x) :: l, .ref x :: st, M) := st_aload_n q33_12 rfl
theorem q33_13 : pj_row 33 13 = some (.getfield 25, 3, 2, 1, 0) := by decide +kernel
theorem s33_13 {L : pj_Loc} {st : List Value} {N S : Nat} {H : pj_Heap} {o : Nat} : pj_step 33 (13, L, .ref o :: st, (N, S, H)) = pj_pv 16 L st (N, S, H) (pj_fld (H o) 2 1) := st_getfield q33_13
theorem q33_16 : pj_row 33 16 = some (.bipush 12, 2, 0, 0, 0) := by decide +kernel
theorem s33_16 {L : pj_Loc} {st : List Value} {M : pj_Mem}  : pj_step 33 (16, L, st, M) = some (18, L, .int 12 :: st, M) := st_bipush q33_16 (by decide +kernel)
theorem q33_18 : pj_row 33 18 = some (.if_icmp .lt 7, 3, 25, 0, 0) := by decide +kernel
theorem s33_18 {L : pj_Loc} {st : List Value} {M : pj_Mem} {x y : Int32} : pj_step 33 (18, L, .int y :: .int x :: st, M) = some (if x < y then 25 else 21, L, st, M) := st_icmp_lt q33_18
theorem q33_21 : pj_row 33 21 = some (.aload_n 0, 1, 0, 0, 0) := by decide +kernel
theorem s33_21 {st : List Value} {M : pj_Mem} {l : pj_Loc} {x : Nat} : pj_step 33 (21, some (.ref x) :: l, st, M) = some (22, some (.ref x) :: l, .ref x :: st, M) := st_aload_n q33_21 rfl
theorem q33_22 : pj_row 33 22 = some (.invokevirtual 37, 3, 35, 1, 0) := by decide +kernel
theorem e33_22 {L : pj_Loc} {st : List Value} {N S : Nat} {H : pj_Heap} {o : Option Value × pj_Mem} {M' : pj_Mem} {x0 : Nat} (h4 : pj_le4 st = true) (hu : pj_isU 2 (H x0) = true) (h1 : pj_Ends 35 (0, [some (.ref x0)], [], (N, S, H)) (none, M')) (h2 : pj_Ends 33 (25, L, st, M') o) : pj_Ends 33 (22, L, .ref x0 :: st, (N, S, H)) o := ec_v1 q33_22 (Or.inl rfl) h4 hu rfl h1 h2
theorem q33_25 : pj_row 33 25 = some (.aload_n 0, 1, 0, 0, 0) := by decide +kernel
theorem s33_25 {st : List Value} {M : pj_Mem} {l : pj_Loc} {x : Nat} : pj_step 33 (25, some (.ref x) :: l, st, M) = some (26, some (.ref x) :: l, .ref x :: st, M) := st_aload_n q33_25 rfl
theorem q33_26 : pj_row 33 26 = some (.aload_n 1, 1, 0, 0, 0) := by decide +kernel
theorem s33_26 {st : List Value} {M : pj_Mem} {l : pj_Loc} {a0 : Option Value} {x : Nat} : pj_step 33 (26, a0 :: some (.ref x) :: l, st, M) = some (27, a0 :: some (.ref x) :: l, .ref x :: st, M) := st_aload_n q33_26 rfl
theorem q33_27 : pj_row 33 27 = some (.aload_n 0, 1, 0, 0, 0) := by decide +kernel
theorem s33_27 {st : List Value} {M : pj_Mem} {l : pj_Loc} {x : Nat} : pj_step 33 (27, some (.ref x) :: l, st, M) = some (28, some (.ref x) :: l, .ref x :: st, M) := st_aload_n q33_27 rfl
theorem q33_28 : pj_row 33 28 = some (.getfield 25, 3, 2, 1, 0) := by decide +kernel
theorem s33_28 {L : pj_Loc} {st : List Value} {N S : Nat} {H : pj_Heap} {o : Nat} : pj_step 33 (28, L, .ref o :: st, (N, S, H)) = pj_pv 31 L st (N, S, H) (pj_fld (H o) 2 1) := st_getfield q33_28
theorem q33_31 : pj_row 33 31 = some (.bipush 10, 2, 0, 0, 0) := by decide +kernel
theorem s33_31 {L : pj_Loc} {st : List Value} {M : pj_Mem}  : pj_step 33 (31, L, st, M) = some (33, L, .int 10 :: st, M) := st_bipush q33_31 (by decide +kernel)
theorem q33_33 : pj_row 33 33 = some (.imul, 1, 0, 0, 0) := by decide +kernel
theorem s33_33 {L : pj_Loc} {st : List Value} {M : pj_Mem} {x y : Int32} : pj_step 33 (33, L, .int y :: .int x :: st, M) = some (34, L, .int (x * y) :: st, M) := st_imul q33_33
theorem q33_34 : pj_row 33 34 = some (.invokevirtual 40, 3, 36, 3, 0) := by decide +kernel
theorem e33_34 {L : pj_Loc} {st : List Value} {N S : Nat} {H : pj_Heap} {o : Option Value × pj_Mem} {M' : pj_Mem} {x0 : Nat} {x1 : Nat} {x2 : Int32} (h4 : pj_le4 st = true) (hu : pj_isU 2 (H x0) = true) (h1 : pj_Ends 36 (0, [some (.ref x0), some (.ref x1), some (.int x2), none], [], (N, S, H)) (none, M')) (h2 : pj_Ends 33 (37, L, st, M') o) : pj_Ends 33 (34, L, .int x2 :: .ref x1 :: .ref x0 :: st, (N, S, H)) o := ec_v3 q33_34 (Or.inl rfl) h4 hu rfl h1 h2
theorem q33_37 : pj_row 33 37 = some (.aload_n 0, 1, 0, 0, 0) := by decide +kernel
theorem s33_37 {st : List Value} {M : pj_Mem} {l : pj_Loc} {x : Nat} : pj_step 33 (37, some (.ref x) :: l, st, M) = some (38, some (.ref x) :: l, .ref x :: st, M) := st_aload_n q33_37 rfl
theorem q33_38 : pj_row 33 38 = some (.dup, 1, 0, 0, 0) := by decide +kernel
theorem s33_38 {L : pj_Loc} {st : List Value} {M : pj_Mem} {x : Nat} : pj_step 33 (38, L, .ref x :: st, M) = some (39, L, .ref x :: .ref x :: st, M) := st_dup_ref q33_38
theorem s33_38i {L : pj_Loc} {st : List Value} {M : pj_Mem} {x : Int32} : pj_step 33 (38, L, .int x :: st, M) = some (39, L, .int x :: .int x :: st, M) := st_dup_int q33_38
theorem q33_39 : pj_row 33 39 = some (.getfield 25, 3, 2, 1, 0) := by decide +kernel
theorem s33_39 {L : pj_Loc} {st : List Value} {N S : Nat} {H : pj_Heap} {o : Nat} : pj_step 33 (39, L, .ref o :: st, (N, S, H)) = pj_pv 42 L st (N, S, H) (pj_fld (H o) 2 1) := st_getfield q33_39
theorem q33_42 : pj_row 33 42 = some (.iconst 1, 1, 0, 0, 0) := by decide +kernel
theorem s33_42 {L : pj_Loc} {st : List Value} {M : pj_Mem}  : pj_step 33 (42, L, st, M) = some (43, L, .int 1 :: st, M) := st_iconst q33_42 (by decide +kernel)
theorem q33_43 : pj_row 33 43 = some (.iadd, 1, 0, 0, 0) := by decide +kernel
theorem s33_43 {L : pj_Loc} {st : List Value} {M : pj_Mem} {x y : Int32} : pj_step 33 (43, L, .int y :: .int x :: st, M) = some (44, L, .int (x + y) :: st, M) := st_iadd q33_43
theorem q33_44 : pj_row 33 44 = some (.putfield 25, 3, 2, 1, 0) := by decide +kernel
theorem s33_44 {L : pj_Loc} {st : List Value} {N S : Nat} {H : pj_Heap} {o : Nat} {v : Value} : pj_step 33 (44, L, v :: .ref o :: st, (N, S, H)) = pj_set 47 L st (N, S, H) o (pj_fset (H o) 2 1 v) := st_putfield q33_44
theorem q33_47 : pj_row 33 47 = some (.aload_n 0, 1, 0, 0, 0) := by decide +kernel
theorem s33_47 {st : List Value} {M : pj_Mem} {l : pj_Loc} {x : Nat} : pj_step 33 (47, some (.ref x) :: l, st, M) = some (48, some (.ref x) :: l, .ref x :: st, M) := st_aload_n q33_47 rfl
theorem q33_48 : pj_row 33 48 = some (.getfield 15, 3, 2, 2, 0) := by decide +kernel
theorem s33_48 {L : pj_Loc} {st : List Value} {N S : Nat} {H : pj_Heap} {o : Nat} : pj_step 33 (48, L, .ref o :: st, (N, S, H)) = pj_pv 51 L st (N, S, H) (pj_fld (H o) 2 2) := st_getfield q33_48
theorem q33_51 : pj_row 33 51 = some (.bipush (-6), 2, 0, 0, 0) := by decide +kernel
theorem s33_51 {L : pj_Loc} {st : List Value} {M : pj_Mem}  : pj_step 33 (51, L, st, M) = some (53, L, .int (-6) :: st, M) := st_bipush q33_51 (by decide +kernel)
theorem q33_53 : pj_row 33 53 = some (.if_icmp .ne 18, 3, 71, 0, 0) := by decide +kernel
theorem s33_53 {L : pj_Loc} {st : List Value} {M : pj_Mem} {x y : Int32} : pj_step 33 (53, L, .int y :: .int x :: st, M) = some (if ¬ x = y then 71 else 56, L, st, M) := st_icmp_ne q33_53
theorem q33_56 : pj_row 33 56 = some (.aload_n 1, 1, 0, 0, 0) := by decide +kernel
theorem s33_56 {st : List Value} {M : pj_Mem} {l : pj_Loc} {a0 : Option Value} {x : Nat} : pj_step 33 (56, a0 :: some (.ref x) :: l, st, M) = some (57, a0 :: some (.ref x) :: l, .ref x :: st, M) := st_aload_n q33_56 rfl
theorem q33_57 : pj_row 33 57 = some (.getfield 44, 3, 3, 13, 0) := by decide +kernel
theorem s33_57 {L : pj_Loc} {st : List Value} {N S : Nat} {H : pj_Heap} {o : Nat} : pj_step 33 (57, L, .ref o :: st, (N, S, H)) = pj_pv 60 L st (N, S, H) (pj_fld (H o) 3 13) := st_getfield q33_57
theorem q33_60 : pj_row 33 60 = some (.ifCond .eq 11, 3, 71, 0, 0) := by decide +kernel
theorem s33_60 {L : pj_Loc} {st : List Value} {M : pj_Mem} {x : Int32} : pj_step 33 (60, L, .int x :: st, M) = some (if x = 0 then 71 else 63, L, st, M) := st_if_eq q33_60
theorem q33_63 : pj_row 33 63 = some (.aload_n 0, 1, 0, 0, 0) := by decide +kernel
theorem s33_63 {st : List Value} {M : pj_Mem} {l : pj_Loc} {x : Nat} : pj_step 33 (63, some (.ref x) :: l, st, M) = some (64, some (.ref x) :: l, .ref x :: st, M) := st_aload_n q33_63 rfl
theorem q33_64 : pj_row 33 64 = some (.aload_n 1, 1, 0, 0, 0) := by decide +kernel
theorem s33_64 {st : List Value} {M : pj_Mem} {l : pj_Loc} {a0 : Option Value} {x : Nat} : pj_step 33 (64, a0 :: some (.ref x) :: l, st, M) = some (65, a0 :: some (.ref x) :: l, .ref x :: st, M) := st_aload_n q33_64 rfl
theorem q33_65 : pj_row 33 65 = some (.getfield 28, 3, 3, 7, 0) := by decide +kernel
theorem s33_65 {L : pj_Loc} {st : List Value} {N S : Nat} {H : pj_Heap} {o : Nat} : pj_step 33 (65, L, .ref o :: st, (N, S, H)) = pj_pv 68 L st (N, S, H) (pj_fld (H o) 3 7) := st_getfield q33_65
theorem q33_68 : pj_row 33 68 = some (.putfield 15, 3, 2, 2, 0) := by decide +kernel
theorem s33_68 {L : pj_Loc} {st : List Value} {N S : Nat} {H : pj_Heap} {o : Nat} {v : Value} : pj_step 33 (68, L, v :: .ref o :: st, (N, S, H)) = pj_set 71 L st (N, S, H) o (pj_fset (H o) 2 2 v) := st_putfield q33_68
theorem q33_71 : pj_row 33 71 = some (.return_, 1, 0, 0, 0) := by decide +kernel
theorem t33_71 {L : pj_Loc} {M : pj_Mem} : pj_Ends 33 (71, L, [], M) (none, M) := pj_Ends.ret q33_71 (pj_rtn_v rt33)
theorem rt34 : pj_rt 34 = some .boolean := rfl
theorem q34_0 : pj_row 34 0 = some (.aload_n 0, 1, 0, 0, 0) := by decide +kernel
theorem s34_0 {st : List Value} {M : pj_Mem} {l : pj_Loc} {x : Nat} : pj_step 34 (0, some (.ref x) :: l, st, M) = some (1, some (.ref x) :: l, .ref x :: st, M) := st_aload_n q34_0 rfl
theorem q34_1 : pj_row 34 1 = some (.getfield 15, 3, 2, 2, 0) := by decide +kernel
theorem s34_1 {L : pj_Loc} {st : List Value} {N S : Nat} {H : pj_Heap} {o : Nat} : pj_step 34 (1, L, .ref o :: st, (N, S, H)) = pj_pv 4 L st (N, S, H) (pj_fld (H o) 2 2) := st_getfield q34_1
theorem q34_4 : pj_row 34 4 = some (.bipush (-6), 2, 0, 0, 0) := by decide +kernel
theorem s34_4 {L : pj_Loc} {st : List Value} {M : pj_Mem}  : pj_step 34 (4, L, st, M) = some (6, L, .int (-6) :: st, M) := st_bipush q34_4 (by decide +kernel)
theorem q34_6 : pj_row 34 6 = some (.if_icmp .eq 14, 3, 20, 0, 0) := by decide +kernel
theorem s34_6 {L : pj_Loc} {st : List Value} {M : pj_Mem} {x y : Int32} : pj_step 34 (6, L, .int y :: .int x :: st, M) = some (if x = y then 20 else 9, L, st, M) := st_icmp_eq q34_6
theorem q34_9 : pj_row 34 9 = some (.iload_n 1, 1, 0, 0, 0) := by decide +kernel
theorem s34_9 {st : List Value} {M : pj_Mem} {l : pj_Loc} {a0 : Option Value} {x : Int32} : pj_step 34 (9, a0 :: some (.int x) :: l, st, M) = some (10, a0 :: some (.int x) :: l, .int x :: st, M) := st_iload_n q34_9 rfl
theorem q34_10 : pj_row 34 10 = some (.aload_n 0, 1, 0, 0, 0) := by decide +kernel
theorem s34_10 {st : List Value} {M : pj_Mem} {l : pj_Loc} {x : Nat} : pj_step 34 (10, some (.ref x) :: l, st, M) = some (11, some (.ref x) :: l, .ref x :: st, M) := st_aload_n q34_10 rfl
theorem q34_11 : pj_row 34 11 = some (.getfield 15, 3, 2, 2, 0) := by decide +kernel
theorem s34_11 {L : pj_Loc} {st : List Value} {N S : Nat} {H : pj_Heap} {o : Nat} : pj_step 34 (11, L, .ref o :: st, (N, S, H)) = pj_pv 14 L st (N, S, H) (pj_fld (H o) 2 2) := st_getfield q34_11
theorem q34_14 : pj_row 34 14 = some (.isub, 1, 0, 0, 0) := by decide +kernel
theorem s34_14 {L : pj_Loc} {st : List Value} {M : pj_Mem} {x y : Int32} : pj_step 34 (14, L, .int y :: .int x :: st, M) = some (15, L, .int (x - y) :: st, M) := st_isub q34_14
theorem q34_15 : pj_row 34 15 = some (.bipush 6, 2, 0, 0, 0) := by decide +kernel
theorem s34_15 {L : pj_Loc} {st : List Value} {M : pj_Mem}  : pj_step 34 (15, L, st, M) = some (17, L, .int 6 :: st, M) := st_bipush q34_15 (by decide +kernel)
theorem q34_17 : pj_row 34 17 = some (.if_icmp .gt 7, 3, 24, 0, 0) := by decide +kernel
theorem s34_17 {L : pj_Loc} {st : List Value} {M : pj_Mem} {x y : Int32} : pj_step 34 (17, L, .int y :: .int x :: st, M) = some (if y < x then 24 else 20, L, st, M) := st_icmp_gt q34_17
theorem q34_20 : pj_row 34 20 = some (.iconst 1, 1, 0, 0, 0) := by decide +kernel
theorem s34_20 {L : pj_Loc} {st : List Value} {M : pj_Mem}  : pj_step 34 (20, L, st, M) = some (21, L, .int 1 :: st, M) := st_iconst q34_20 (by decide +kernel)
theorem q34_21 : pj_row 34 21 = some (.goto 4, 3, 25, 0, 0) := by decide +kernel
theorem s34_21 {L : pj_Loc} {st : List Value} {M : pj_Mem}  : pj_step 34 (21, L, st, M) = some (25, L, st, M) := st_goto q34_21
theorem q34_24 : pj_row 34 24 = some (.iconst 0, 1, 0, 0, 0) := by decide +kernel
theorem s34_24 {L : pj_Loc} {st : List Value} {M : pj_Mem}  : pj_step 34 (24, L, st, M) = some (25, L, .int 0 :: st, M) := st_iconst q34_24 (by decide +kernel)
theorem q34_25 : pj_row 34 25 = some (.ireturn, 1, 0, 0, 0) := by decide +kernel
theorem t34_25 {L : pj_Loc} {M : pj_Mem} {v : Int32} (hv : v = 0 ∨ v = 1) : pj_Ends 34 (25, L, [.int v], M) (some (.int v), M) := pj_Ends.ret q34_25 (pj_rtn_z rt34 hv)
theorem rt35 : pj_rt 35 = none := rfl
theorem q35_0 : pj_row 35 0 = some (.aload_n 0, 1, 0, 0, 0) := by decide +kernel
theorem s35_0 {st : List Value} {M : pj_Mem} {l : pj_Loc} {x : Nat} : pj_step 35 (0, some (.ref x) :: l, st, M) = some (1, some (.ref x) :: l, .ref x :: st, M) := st_aload_n q35_0 rfl
theorem q35_1 : pj_row 35 1 = some (.bipush 11, 2, 0, 0, 0) := by decide +kernel
theorem s35_1 {L : pj_Loc} {st : List Value} {M : pj_Mem}  : pj_step 35 (1, L, st, M) = some (3, L, .int 11 :: st, M) := st_bipush q35_1 (by decide +kernel)
theorem q35_3 : pj_row 35 3 = some (.putfield 25, 3, 2, 1, 0) := by decide +kernel
theorem s35_3 {L : pj_Loc} {st : List Value} {N S : Nat} {H : pj_Heap} {o : Nat} {v : Value} : pj_step 35 (3, L, v :: .ref o :: st, (N, S, H)) = pj_set 6 L st (N, S, H) o (pj_fset (H o) 2 1 v) := st_putfield q35_3
theorem q35_6 : pj_row 35 6 = some (.aload_n 0, 1, 0, 0, 0) := by decide +kernel
theorem s35_6 {st : List Value} {M : pj_Mem} {l : pj_Loc} {x : Nat} : pj_step 35 (6, some (.ref x) :: l, st, M) = some (7, some (.ref x) :: l, .ref x :: st, M) := st_aload_n q35_6 rfl
theorem q35_7 : pj_row 35 7 = some (.getfield 9, 3, 2, 0, 0) := by decide +kernel
theorem s35_7 {L : pj_Loc} {st : List Value} {N S : Nat} {H : pj_Heap} {o : Nat} : pj_step 35 (7, L, .ref o :: st, (N, S, H)) = pj_pv 10 L st (N, S, H) (pj_fld (H o) 2 0) := st_getfield q35_7
theorem q35_10 : pj_row 35 10 = some (.bipush 10, 2, 0, 0, 0) := by decide +kernel
theorem s35_10 {L : pj_Loc} {st : List Value} {M : pj_Mem}  : pj_step 35 (10, L, st, M) = some (12, L, .int 10 :: st, M) := st_bipush q35_10 (by decide +kernel)
theorem q35_12 : pj_row 35 12 = some (.aload_n 0, 1, 0, 0, 0) := by decide +kernel
theorem s35_12 {st : List Value} {M : pj_Mem} {l : pj_Loc} {x : Nat} : pj_step 35 (12, some (.ref x) :: l, st, M) = some (13, some (.ref x) :: l, .ref x :: st, M) := st_aload_n q35_12 rfl
theorem q35_13 : pj_row 35 13 = some (.getfield 9, 3, 2, 0, 0) := by decide +kernel
theorem s35_13 {L : pj_Loc} {st : List Value} {N S : Nat} {H : pj_Heap} {o : Nat} : pj_step 35 (13, L, .ref o :: st, (N, S, H)) = pj_pv 16 L st (N, S, H) (pj_fld (H o) 2 0) := st_getfield q35_13
theorem q35_16 : pj_row 35 16 = some (.iconst 0, 1, 0, 0, 0) := by decide +kernel
theorem s35_16 {L : pj_Loc} {st : List Value} {M : pj_Mem}  : pj_step 35 (16, L, st, M) = some (17, L, .int 0 :: st, M) := st_iconst q35_16 (by decide +kernel)
theorem q35_17 : pj_row 35 17 = some (.aload_n 0, 1, 0, 0, 0) := by decide +kernel
theorem s35_17 {st : List Value} {M : pj_Mem} {l : pj_Loc} {x : Nat} : pj_step 35 (17, some (.ref x) :: l, st, M) = some (18, some (.ref x) :: l, .ref x :: st, M) := st_aload_n q35_17 rfl
theorem q35_18 : pj_row 35 18 = some (.getfield 25, 3, 2, 1, 0) := by decide +kernel
theorem s35_18 {L : pj_Loc} {st : List Value} {N S : Nat} {H : pj_Heap} {o : Nat} : pj_step 35 (18, L, .ref o :: st, (N, S, H)) = pj_pv 21 L st (N, S, H) (pj_fld (H o) 2 1) := st_getfield q35_18
theorem q35_21 : pj_row 35 21 = some (.bipush 10, 2, 0, 0, 0) := by decide +kernel
theorem s35_21 {L : pj_Loc} {st : List Value} {M : pj_Mem}  : pj_step 35 (21, L, st, M) = some (23, L, .int 10 :: st, M) := st_bipush q35_21 (by decide +kernel)
theorem q35_23 : pj_row 35 23 = some (.imul, 1, 0, 0, 0) := by decide +kernel
theorem s35_23 {L : pj_Loc} {st : List Value} {M : pj_Mem} {x y : Int32} : pj_step 35 (23, L, .int y :: .int x :: st, M) = some (24, L, .int (x * y) :: st, M) := st_imul q35_23
theorem q35_24 : pj_row 35 24 = some (.invokestatic 19, 3, 0, 5, 3) := by decide +kernel
theorem s35_24 {L : pj_Loc} {st : List Value} {N S : Nat} {H : pj_Heap} {d o : Nat} {n dp sp : Int32} : pj_step 35 (24, L, .int n :: .int dp :: .ref d :: .int sp :: .ref o :: st, (N, S, H)) = pj_g4 st (pj_set 27 L st (N, S, H) d (pj_cas (H o) (H d) sp dp n)) := st_acp q35_24
theorem q35_27 : pj_row 35 27 = some (.return_, 1, 0, 0, 0) := by decide +kernel
theorem t35_27 {L : pj_Loc} {M : pj_Mem} : pj_Ends 35 (27, L, [], M) (none, M) := pj_Ends.ret q35_27 (pj_rtn_v rt35)
theorem rt36 : pj_rt 36 = none := rfl
theorem q36_0 : pj_row 36 0 = some (.aload_n 0, 1, 0, 0, 0) := by decide +kernel
theorem s36_0 {st : List Value} {M : pj_Mem} {l : pj_Loc} {x : Nat} : pj_step 36 (0, some (.ref x) :: l, st, M) = some (1, some (.ref x) :: l, .ref x :: st, M) := st_aload_n q36_0 rfl
theorem q36_1 : pj_row 36 1 = some (.getfield 9, 3, 2, 0, 0) := by decide +kernel
theorem s36_1 {L : pj_Loc} {st : List Value} {N S : Nat} {H : pj_Heap} {o : Nat} : pj_step 36 (1, L, .ref o :: st, (N, S, H)) = pj_pv 4 L st (N, S, H) (pj_fld (H o) 2 0) := st_getfield q36_1
theorem q36_4 : pj_row 36 4 = some (.iload_n 2, 1, 0, 0, 0) := by decide +kernel
theorem s36_4 {st : List Value} {M : pj_Mem} {l : pj_Loc} {a0 a1 : Option Value} {x : Int32} : pj_step 36 (4, a0 :: a1 :: some (.int x) :: l, st, M) = some (5, a0 :: a1 :: some (.int x) :: l, .int x :: st, M) := st_iload_n q36_4 rfl
theorem q36_5 : pj_row 36 5 = some (.aload_n 1, 1, 0, 0, 0) := by decide +kernel
theorem s36_5 {st : List Value} {M : pj_Mem} {l : pj_Loc} {a0 : Option Value} {x : Nat} : pj_step 36 (5, a0 :: some (.ref x) :: l, st, M) = some (6, a0 :: some (.ref x) :: l, .ref x :: st, M) := st_aload_n q36_5 rfl
theorem q36_6 : pj_row 36 6 = some (.getfield 28, 3, 3, 7, 0) := by decide +kernel
theorem s36_6 {L : pj_Loc} {st : List Value} {N S : Nat} {H : pj_Heap} {o : Nat} : pj_step 36 (6, L, .ref o :: st, (N, S, H)) = pj_pv 9 L st (N, S, H) (pj_fld (H o) 3 7) := st_getfield q36_6
theorem q36_9 : pj_row 36 9 = some (.iastore, 1, 0, 0, 0) := by decide +kernel
theorem s36_9 {L : pj_Loc} {st : List Value} {N S : Nat} {H : pj_Heap} {o : Nat} {i x : Int32} : pj_step 36 (9, L, .int x :: .int i :: .ref o :: st, (N, S, H)) = pj_set 10 L st (N, S, H) o (pj_ars (H o) 0 i x) := st_iastore q36_9
theorem q36_10 : pj_row 36 10 = some (.iconst 0, 1, 0, 0, 0) := by decide +kernel
theorem s36_10 {L : pj_Loc} {st : List Value} {M : pj_Mem}  : pj_step 36 (10, L, st, M) = some (11, L, .int 0 :: st, M) := st_iconst q36_10 (by decide +kernel)
theorem q36_11 : pj_row 36 11 = some (.istore_n 3, 1, 0, 0, 0) := by decide +kernel
theorem s36_11 {st : List Value} {M : pj_Mem} {l : pj_Loc} {a0 a1 a2 a3 : Option Value} {x : Int32} (h : pj_long a2 = false) : pj_step 36 (11, a0 :: a1 :: a2 :: a3 :: l, .int x :: st, M) = some (12, a0 :: a1 :: a2 :: some (.int x) :: l, st, M) := st_istore_n q36_11 (pj_st_3 h)
theorem q36_12 : pj_row 36 12 = some (.iload_n 3, 1, 0, 0, 0) := by decide +kernel
theorem s36_12 {st : List Value} {M : pj_Mem} {l : pj_Loc} {a0 a1 a2 : Option Value} {x : Int32} : pj_step 36 (12, a0 :: a1 :: a2 :: some (.int x) :: l, st, M) = some (13, a0 :: a1 :: a2 :: some (.int x) :: l, .int x :: st, M) := st_iload_n q36_12 rfl
theorem q36_13 : pj_row 36 13 = some (.iconst 3, 1, 0, 0, 0) := by decide +kernel
theorem s36_13 {L : pj_Loc} {st : List Value} {M : pj_Mem}  : pj_step 36 (13, L, st, M) = some (14, L, .int 3 :: st, M) := st_iconst q36_13 (by decide +kernel)
theorem q36_14 : pj_row 36 14 = some (.if_icmp .ge 28, 3, 42, 0, 0) := by decide +kernel
theorem s36_14 {L : pj_Loc} {st : List Value} {M : pj_Mem} {x y : Int32} : pj_step 36 (14, L, .int y :: .int x :: st, M) = some (if y ≤ x then 42 else 17, L, st, M) := st_icmp_ge q36_14
theorem q36_17 : pj_row 36 17 = some (.aload_n 0, 1, 0, 0, 0) := by decide +kernel
theorem s36_17 {st : List Value} {M : pj_Mem} {l : pj_Loc} {x : Nat} : pj_step 36 (17, some (.ref x) :: l, st, M) = some (18, some (.ref x) :: l, .ref x :: st, M) := st_aload_n q36_17 rfl
theorem q36_18 : pj_row 36 18 = some (.getfield 9, 3, 2, 0, 0) := by decide +kernel
theorem s36_18 {L : pj_Loc} {st : List Value} {N S : Nat} {H : pj_Heap} {o : Nat} : pj_step 36 (18, L, .ref o :: st, (N, S, H)) = pj_pv 21 L st (N, S, H) (pj_fld (H o) 2 0) := st_getfield q36_18
theorem q36_21 : pj_row 36 21 = some (.iload_n 2, 1, 0, 0, 0) := by decide +kernel
theorem s36_21 {st : List Value} {M : pj_Mem} {l : pj_Loc} {a0 a1 : Option Value} {x : Int32} : pj_step 36 (21, a0 :: a1 :: some (.int x) :: l, st, M) = some (22, a0 :: a1 :: some (.int x) :: l, .int x :: st, M) := st_iload_n q36_21 rfl
theorem q36_22 : pj_row 36 22 = some (.iconst 1, 1, 0, 0, 0) := by decide +kernel
theorem s36_22 {L : pj_Loc} {st : List Value} {M : pj_Mem}  : pj_step 36 (22, L, st, M) = some (23, L, .int 1 :: st, M) := st_iconst q36_22 (by decide +kernel)
theorem q36_23 : pj_row 36 23 = some (.iadd, 1, 0, 0, 0) := by decide +kernel
theorem s36_23 {L : pj_Loc} {st : List Value} {M : pj_Mem} {x y : Int32} : pj_step 36 (23, L, .int y :: .int x :: st, M) = some (24, L, .int (x + y) :: st, M) := st_iadd q36_23
theorem q36_24 : pj_row 36 24 = some (.iload_n 3, 1, 0, 0, 0) := by decide +kernel
theorem s36_24 {st : List Value} {M : pj_Mem} {l : pj_Loc} {a0 a1 a2 : Option Value} {x : Int32} : pj_step 36 (24, a0 :: a1 :: a2 :: some (.int x) :: l, st, M) = some (25, a0 :: a1 :: a2 :: some (.int x) :: l, .int x :: st, M) := st_iload_n q36_24 rfl
theorem q36_25 : pj_row 36 25 = some (.iadd, 1, 0, 0, 0) := by decide +kernel
theorem s36_25 {L : pj_Loc} {st : List Value} {M : pj_Mem} {x y : Int32} : pj_step 36 (25, L, .int y :: .int x :: st, M) = some (26, L, .int (x + y) :: st, M) := st_iadd q36_25
theorem q36_26 : pj_row 36 26 = some (.aload_n 1, 1, 0, 0, 0) := by decide +kernel
theorem s36_26 {st : List Value} {M : pj_Mem} {l : pj_Loc} {a0 : Option Value} {x : Nat} : pj_step 36 (26, a0 :: some (.ref x) :: l, st, M) = some (27, a0 :: some (.ref x) :: l, .ref x :: st, M) := st_aload_n q36_26 rfl
theorem q36_27 : pj_row 36 27 = some (.getfield 47, 3, 3, 0, 0) := by decide +kernel
theorem s36_27 {L : pj_Loc} {st : List Value} {N S : Nat} {H : pj_Heap} {o : Nat} : pj_step 36 (27, L, .ref o :: st, (N, S, H)) = pj_pv 30 L st (N, S, H) (pj_fld (H o) 3 0) := st_getfield q36_27
theorem q36_30 : pj_row 36 30 = some (.iload_n 3, 1, 0, 0, 0) := by decide +kernel
theorem s36_30 {st : List Value} {M : pj_Mem} {l : pj_Loc} {a0 a1 a2 : Option Value} {x : Int32} : pj_step 36 (30, a0 :: a1 :: a2 :: some (.int x) :: l, st, M) = some (31, a0 :: a1 :: a2 :: some (.int x) :: l, .int x :: st, M) := st_iload_n q36_30 rfl
theorem q36_31 : pj_row 36 31 = some (.iaload, 1, 0, 0, 0) := by decide +kernel
theorem s36_31 {L : pj_Loc} {st : List Value} {N S : Nat} {H : pj_Heap} {o : Nat} {i : Int32} : pj_step 36 (31, L, .int i :: .ref o :: st, (N, S, H)) = pj_pi 32 L st (N, S, H) (pj_arl (H o) 0 i) := st_iaload q36_31
theorem q36_32 : pj_row 36 32 = some (.ldc 50, 2, 0, 0, 100000) := by decide +kernel
theorem s36_32 {L : pj_Loc} {st : List Value} {M : pj_Mem}  : pj_step 36 (32, L, st, M) = some (34, L, .int 100000 :: st, M) := st_ldc q36_32 (by decide +kernel)
theorem q36_34 : pj_row 36 34 = some (.iadd, 1, 0, 0, 0) := by decide +kernel
theorem s36_34 {L : pj_Loc} {st : List Value} {M : pj_Mem} {x y : Int32} : pj_step 36 (34, L, .int y :: .int x :: st, M) = some (35, L, .int (x + y) :: st, M) := st_iadd q36_34
theorem q36_35 : pj_row 36 35 = some (.iastore, 1, 0, 0, 0) := by decide +kernel
theorem s36_35 {L : pj_Loc} {st : List Value} {N S : Nat} {H : pj_Heap} {o : Nat} {i x : Int32} : pj_step 36 (35, L, .int x :: .int i :: .ref o :: st, (N, S, H)) = pj_set 36 L st (N, S, H) o (pj_ars (H o) 0 i x) := st_iastore q36_35
theorem q36_36 : pj_row 36 36 = some (.iinc 3 1, 3, 0, 0, 0) := by decide +kernel
theorem s36_36 {st : List Value} {M : pj_Mem} {l : pj_Loc} {a0 a1 a2 : Option Value} {x : Int32} (h : pj_long a2 = false) : pj_step 36 (36, a0 :: a1 :: a2 :: some (.int x) :: l, st, M) = some (39, a0 :: a1 :: a2 :: some (.int (x + 1)) :: l, st, M) := st_iinc q36_36 rfl (congrArg (fun y => x + y) (show Int32.ofInt 1 = 1 by decide +kernel)) (pj_st_3 h)
theorem q36_39 : pj_row 36 39 = some (.goto (-27), 3, 12, 0, 0) := by decide +kernel
theorem s36_39 {L : pj_Loc} {st : List Value} {M : pj_Mem}  : pj_step 36 (39, L, st, M) = some (12, L, st, M) := st_goto q36_39
theorem q36_42 : pj_row 36 42 = some (.aload_n 0, 1, 0, 0, 0) := by decide +kernel
theorem s36_42 {st : List Value} {M : pj_Mem} {l : pj_Loc} {x : Nat} : pj_step 36 (42, some (.ref x) :: l, st, M) = some (43, some (.ref x) :: l, .ref x :: st, M) := st_aload_n q36_42 rfl
theorem q36_43 : pj_row 36 43 = some (.getfield 9, 3, 2, 0, 0) := by decide +kernel
theorem s36_43 {L : pj_Loc} {st : List Value} {N S : Nat} {H : pj_Heap} {o : Nat} : pj_step 36 (43, L, .ref o :: st, (N, S, H)) = pj_pv 46 L st (N, S, H) (pj_fld (H o) 2 0) := st_getfield q36_43
theorem q36_46 : pj_row 36 46 = some (.iload_n 2, 1, 0, 0, 0) := by decide +kernel
theorem s36_46 {st : List Value} {M : pj_Mem} {l : pj_Loc} {a0 a1 : Option Value} {x : Int32} : pj_step 36 (46, a0 :: a1 :: some (.int x) :: l, st, M) = some (47, a0 :: a1 :: some (.int x) :: l, .int x :: st, M) := st_iload_n q36_46 rfl
theorem q36_47 : pj_row 36 47 = some (.iconst 4, 1, 0, 0, 0) := by decide +kernel
theorem s36_47 {L : pj_Loc} {st : List Value} {M : pj_Mem}  : pj_step 36 (47, L, st, M) = some (48, L, .int 4 :: st, M) := st_iconst q36_47 (by decide +kernel)
theorem q36_48 : pj_row 36 48 = some (.iadd, 1, 0, 0, 0) := by decide +kernel
theorem s36_48 {L : pj_Loc} {st : List Value} {M : pj_Mem} {x y : Int32} : pj_step 36 (48, L, .int y :: .int x :: st, M) = some (49, L, .int (x + y) :: st, M) := st_iadd q36_48
theorem q36_49 : pj_row 36 49 = some (.aload_n 1, 1, 0, 0, 0) := by decide +kernel
theorem s36_49 {st : List Value} {M : pj_Mem} {l : pj_Loc} {a0 : Option Value} {x : Nat} : pj_step 36 (49, a0 :: some (.ref x) :: l, st, M) = some (50, a0 :: some (.ref x) :: l, .ref x :: st, M) := st_aload_n q36_49 rfl
theorem q36_50 : pj_row 36 50 = some (.getfield 51, 3, 3, 6, 0) := by decide +kernel
theorem s36_50 {L : pj_Loc} {st : List Value} {N S : Nat} {H : pj_Heap} {o : Nat} : pj_step 36 (50, L, .ref o :: st, (N, S, H)) = pj_pv 53 L st (N, S, H) (pj_fld (H o) 3 6) := st_getfield q36_50
theorem q36_53 : pj_row 36 53 = some (.invokestatic 55, 3, 37, 1, 1) := by decide +kernel
theorem e36_53 {L : pj_Loc} {st : List Value} {N S : Nat} {H : pj_Heap} {o : Option Value × pj_Mem} {M' : pj_Mem} {x0 : Int32} {r : Int32} (h4 : pj_le4 st = true) (h1 : pj_Ends 37 (0, [some (.int x0)], [], (N, S, H)) (some (.int r), M')) (h2 : pj_Ends 36 (56, L, .int r :: st, M') o) : pj_Ends 36 (53, L, .int x0 :: st, (N, S, H)) o := ec_s1 q36_53 (Or.inr rfl) h4 rfl h1 h2
theorem q36_56 : pj_row 36 56 = some (.iastore, 1, 0, 0, 0) := by decide +kernel
theorem s36_56 {L : pj_Loc} {st : List Value} {N S : Nat} {H : pj_Heap} {o : Nat} {i x : Int32} : pj_step 36 (56, L, .int x :: .int i :: .ref o :: st, (N, S, H)) = pj_set 57 L st (N, S, H) o (pj_ars (H o) 0 i x) := st_iastore q36_56
theorem q36_57 : pj_row 36 57 = some (.aload_n 0, 1, 0, 0, 0) := by decide +kernel
theorem s36_57 {st : List Value} {M : pj_Mem} {l : pj_Loc} {x : Nat} : pj_step 36 (57, some (.ref x) :: l, st, M) = some (58, some (.ref x) :: l, .ref x :: st, M) := st_aload_n q36_57 rfl
theorem q36_58 : pj_row 36 58 = some (.getfield 9, 3, 2, 0, 0) := by decide +kernel
theorem s36_58 {L : pj_Loc} {st : List Value} {N S : Nat} {H : pj_Heap} {o : Nat} : pj_step 36 (58, L, .ref o :: st, (N, S, H)) = pj_pv 61 L st (N, S, H) (pj_fld (H o) 2 0) := st_getfield q36_58
theorem q36_61 : pj_row 36 61 = some (.iload_n 2, 1, 0, 0, 0) := by decide +kernel
theorem s36_61 {st : List Value} {M : pj_Mem} {l : pj_Loc} {a0 a1 : Option Value} {x : Int32} : pj_step 36 (61, a0 :: a1 :: some (.int x) :: l, st, M) = some (62, a0 :: a1 :: some (.int x) :: l, .int x :: st, M) := st_iload_n q36_61 rfl
theorem q36_62 : pj_row 36 62 = some (.iconst 5, 1, 0, 0, 0) := by decide +kernel
theorem s36_62 {L : pj_Loc} {st : List Value} {M : pj_Mem}  : pj_step 36 (62, L, st, M) = some (63, L, .int 5 :: st, M) := st_iconst q36_62 (by decide +kernel)
theorem q36_63 : pj_row 36 63 = some (.iadd, 1, 0, 0, 0) := by decide +kernel
theorem s36_63 {L : pj_Loc} {st : List Value} {M : pj_Mem} {x y : Int32} : pj_step 36 (63, L, .int y :: .int x :: st, M) = some (64, L, .int (x + y) :: st, M) := st_iadd q36_63
theorem q36_64 : pj_row 36 64 = some (.aload_n 1, 1, 0, 0, 0) := by decide +kernel
theorem s36_64 {st : List Value} {M : pj_Mem} {l : pj_Loc} {a0 : Option Value} {x : Nat} : pj_step 36 (64, a0 :: some (.ref x) :: l, st, M) = some (65, a0 :: some (.ref x) :: l, .ref x :: st, M) := st_aload_n q36_64 rfl
theorem q36_65 : pj_row 36 65 = some (.getfield 59, 3, 3, 9, 0) := by decide +kernel
theorem s36_65 {L : pj_Loc} {st : List Value} {N S : Nat} {H : pj_Heap} {o : Nat} : pj_step 36 (65, L, .ref o :: st, (N, S, H)) = pj_pv 68 L st (N, S, H) (pj_fld (H o) 3 9) := st_getfield q36_65
theorem q36_68 : pj_row 36 68 = some (.ldc 50, 2, 0, 0, 100000) := by decide +kernel
theorem s36_68 {L : pj_Loc} {st : List Value} {M : pj_Mem}  : pj_step 36 (68, L, st, M) = some (70, L, .int 100000 :: st, M) := st_ldc q36_68 (by decide +kernel)
theorem q36_70 : pj_row 36 70 = some (.iadd, 1, 0, 0, 0) := by decide +kernel
theorem s36_70 {L : pj_Loc} {st : List Value} {M : pj_Mem} {x y : Int32} : pj_step 36 (70, L, .int y :: .int x :: st, M) = some (71, L, .int (x + y) :: st, M) := st_iadd q36_70
theorem q36_71 : pj_row 36 71 = some (.iastore, 1, 0, 0, 0) := by decide +kernel
theorem s36_71 {L : pj_Loc} {st : List Value} {N S : Nat} {H : pj_Heap} {o : Nat} {i x : Int32} : pj_step 36 (71, L, .int x :: .int i :: .ref o :: st, (N, S, H)) = pj_set 72 L st (N, S, H) o (pj_ars (H o) 0 i x) := st_iastore q36_71
theorem q36_72 : pj_row 36 72 = some (.aload_n 0, 1, 0, 0, 0) := by decide +kernel
theorem s36_72 {st : List Value} {M : pj_Mem} {l : pj_Loc} {x : Nat} : pj_step 36 (72, some (.ref x) :: l, st, M) = some (73, some (.ref x) :: l, .ref x :: st, M) := st_aload_n q36_72 rfl
theorem q36_73 : pj_row 36 73 = some (.getfield 9, 3, 2, 0, 0) := by decide +kernel
theorem s36_73 {L : pj_Loc} {st : List Value} {N S : Nat} {H : pj_Heap} {o : Nat} : pj_step 36 (73, L, .ref o :: st, (N, S, H)) = pj_pv 76 L st (N, S, H) (pj_fld (H o) 2 0) := st_getfield q36_73
theorem q36_76 : pj_row 36 76 = some (.iload_n 2, 1, 0, 0, 0) := by decide +kernel
theorem s36_76 {st : List Value} {M : pj_Mem} {l : pj_Loc} {a0 a1 : Option Value} {x : Int32} : pj_step 36 (76, a0 :: a1 :: some (.int x) :: l, st, M) = some (77, a0 :: a1 :: some (.int x) :: l, .int x :: st, M) := st_iload_n q36_76 rfl
theorem q36_77 : pj_row 36 77 = some (.bipush 6, 2, 0, 0, 0) := by decide +kernel
theorem s36_77 {L : pj_Loc} {st : List Value} {M : pj_Mem}  : pj_step 36 (77, L, st, M) = some (79, L, .int 6 :: st, M) := st_bipush q36_77 (by decide +kernel)
theorem q36_79 : pj_row 36 79 = some (.iadd, 1, 0, 0, 0) := by decide +kernel
theorem s36_79 {L : pj_Loc} {st : List Value} {M : pj_Mem} {x y : Int32} : pj_step 36 (79, L, .int y :: .int x :: st, M) = some (80, L, .int (x + y) :: st, M) := st_iadd q36_79
theorem q36_80 : pj_row 36 80 = some (.aload_n 1, 1, 0, 0, 0) := by decide +kernel
theorem s36_80 {st : List Value} {M : pj_Mem} {l : pj_Loc} {a0 : Option Value} {x : Nat} : pj_step 36 (80, a0 :: some (.ref x) :: l, st, M) = some (81, a0 :: some (.ref x) :: l, .ref x :: st, M) := st_aload_n q36_80 rfl
theorem q36_81 : pj_row 36 81 = some (.getfield 62, 3, 3, 11, 0) := by decide +kernel
theorem s36_81 {L : pj_Loc} {st : List Value} {N S : Nat} {H : pj_Heap} {o : Nat} : pj_step 36 (81, L, .ref o :: st, (N, S, H)) = pj_pv 84 L st (N, S, H) (pj_fld (H o) 3 11) := st_getfield q36_81
theorem q36_84 : pj_row 36 84 = some (.iastore, 1, 0, 0, 0) := by decide +kernel
theorem s36_84 {L : pj_Loc} {st : List Value} {N S : Nat} {H : pj_Heap} {o : Nat} {i x : Int32} : pj_step 36 (84, L, .int x :: .int i :: .ref o :: st, (N, S, H)) = pj_set 85 L st (N, S, H) o (pj_ars (H o) 0 i x) := st_iastore q36_84
theorem q36_85 : pj_row 36 85 = some (.aload_n 0, 1, 0, 0, 0) := by decide +kernel
theorem s36_85 {st : List Value} {M : pj_Mem} {l : pj_Loc} {x : Nat} : pj_step 36 (85, some (.ref x) :: l, st, M) = some (86, some (.ref x) :: l, .ref x :: st, M) := st_aload_n q36_85 rfl
theorem q36_86 : pj_row 36 86 = some (.getfield 9, 3, 2, 0, 0) := by decide +kernel
theorem s36_86 {L : pj_Loc} {st : List Value} {N S : Nat} {H : pj_Heap} {o : Nat} : pj_step 36 (86, L, .ref o :: st, (N, S, H)) = pj_pv 89 L st (N, S, H) (pj_fld (H o) 2 0) := st_getfield q36_86
theorem q36_89 : pj_row 36 89 = some (.iload_n 2, 1, 0, 0, 0) := by decide +kernel
theorem s36_89 {st : List Value} {M : pj_Mem} {l : pj_Loc} {a0 a1 : Option Value} {x : Int32} : pj_step 36 (89, a0 :: a1 :: some (.int x) :: l, st, M) = some (90, a0 :: a1 :: some (.int x) :: l, .int x :: st, M) := st_iload_n q36_89 rfl
theorem q36_90 : pj_row 36 90 = some (.bipush 7, 2, 0, 0, 0) := by decide +kernel
theorem s36_90 {L : pj_Loc} {st : List Value} {M : pj_Mem}  : pj_step 36 (90, L, st, M) = some (92, L, .int 7 :: st, M) := st_bipush q36_90 (by decide +kernel)
theorem q36_92 : pj_row 36 92 = some (.iadd, 1, 0, 0, 0) := by decide +kernel
theorem s36_92 {L : pj_Loc} {st : List Value} {M : pj_Mem} {x y : Int32} : pj_step 36 (92, L, .int y :: .int x :: st, M) = some (93, L, .int (x + y) :: st, M) := st_iadd q36_92
theorem q36_93 : pj_row 36 93 = some (.aload_n 1, 1, 0, 0, 0) := by decide +kernel
theorem s36_93 {st : List Value} {M : pj_Mem} {l : pj_Loc} {a0 : Option Value} {x : Nat} : pj_step 36 (93, a0 :: some (.ref x) :: l, st, M) = some (94, a0 :: some (.ref x) :: l, .ref x :: st, M) := st_aload_n q36_93 rfl
theorem q36_94 : pj_row 36 94 = some (.getfield 65, 3, 3, 12, 0) := by decide +kernel
theorem s36_94 {L : pj_Loc} {st : List Value} {N S : Nat} {H : pj_Heap} {o : Nat} : pj_step 36 (94, L, .ref o :: st, (N, S, H)) = pj_pv 97 L st (N, S, H) (pj_fld (H o) 3 12) := st_getfield q36_94
theorem q36_97 : pj_row 36 97 = some (.iastore, 1, 0, 0, 0) := by decide +kernel
theorem s36_97 {L : pj_Loc} {st : List Value} {N S : Nat} {H : pj_Heap} {o : Nat} {i x : Int32} : pj_step 36 (97, L, .int x :: .int i :: .ref o :: st, (N, S, H)) = pj_set 98 L st (N, S, H) o (pj_ars (H o) 0 i x) := st_iastore q36_97
theorem q36_98 : pj_row 36 98 = some (.aload_n 0, 1, 0, 0, 0) := by decide +kernel
theorem s36_98 {st : List Value} {M : pj_Mem} {l : pj_Loc} {x : Nat} : pj_step 36 (98, some (.ref x) :: l, st, M) = some (99, some (.ref x) :: l, .ref x :: st, M) := st_aload_n q36_98 rfl
theorem q36_99 : pj_row 36 99 = some (.getfield 9, 3, 2, 0, 0) := by decide +kernel
theorem s36_99 {L : pj_Loc} {st : List Value} {N S : Nat} {H : pj_Heap} {o : Nat} : pj_step 36 (99, L, .ref o :: st, (N, S, H)) = pj_pv 102 L st (N, S, H) (pj_fld (H o) 2 0) := st_getfield q36_99
theorem q36_102 : pj_row 36 102 = some (.iload_n 2, 1, 0, 0, 0) := by decide +kernel
theorem s36_102 {st : List Value} {M : pj_Mem} {l : pj_Loc} {a0 a1 : Option Value} {x : Int32} : pj_step 36 (102, a0 :: a1 :: some (.int x) :: l, st, M) = some (103, a0 :: a1 :: some (.int x) :: l, .int x :: st, M) := st_iload_n q36_102 rfl
theorem q36_103 : pj_row 36 103 = some (.bipush 8, 2, 0, 0, 0) := by decide +kernel
theorem s36_103 {L : pj_Loc} {st : List Value} {M : pj_Mem}  : pj_step 36 (103, L, st, M) = some (105, L, .int 8 :: st, M) := st_bipush q36_103 (by decide +kernel)
theorem q36_105 : pj_row 36 105 = some (.iadd, 1, 0, 0, 0) := by decide +kernel
theorem s36_105 {L : pj_Loc} {st : List Value} {M : pj_Mem} {x y : Int32} : pj_step 36 (105, L, .int y :: .int x :: st, M) = some (106, L, .int (x + y) :: st, M) := st_iadd q36_105
theorem q36_106 : pj_row 36 106 = some (.aload_n 1, 1, 0, 0, 0) := by decide +kernel
theorem s36_106 {st : List Value} {M : pj_Mem} {l : pj_Loc} {a0 : Option Value} {x : Nat} : pj_step 36 (106, a0 :: some (.ref x) :: l, st, M) = some (107, a0 :: some (.ref x) :: l, .ref x :: st, M) := st_aload_n q36_106 rfl
theorem q36_107 : pj_row 36 107 = some (.getfield 68, 3, 3, 10, 0) := by decide +kernel
theorem s36_107 {L : pj_Loc} {st : List Value} {N S : Nat} {H : pj_Heap} {o : Nat} : pj_step 36 (107, L, .ref o :: st, (N, S, H)) = pj_pv 110 L st (N, S, H) (pj_fld (H o) 3 10) := st_getfield q36_107
theorem q36_110 : pj_row 36 110 = some (.ifCond .le 7, 3, 117, 0, 0) := by decide +kernel
theorem s36_110 {L : pj_Loc} {st : List Value} {M : pj_Mem} {x : Int32} : pj_step 36 (110, L, .int x :: st, M) = some (if x ≤ 0 then 117 else 113, L, st, M) := st_if_le q36_110
theorem q36_113 : pj_row 36 113 = some (.iconst 1, 1, 0, 0, 0) := by decide +kernel
theorem s36_113 {L : pj_Loc} {st : List Value} {M : pj_Mem}  : pj_step 36 (113, L, st, M) = some (114, L, .int 1 :: st, M) := st_iconst q36_113 (by decide +kernel)
theorem q36_114 : pj_row 36 114 = some (.goto 4, 3, 118, 0, 0) := by decide +kernel
theorem s36_114 {L : pj_Loc} {st : List Value} {M : pj_Mem}  : pj_step 36 (114, L, st, M) = some (118, L, st, M) := st_goto q36_114
theorem q36_117 : pj_row 36 117 = some (.iconst 0, 1, 0, 0, 0) := by decide +kernel
theorem s36_117 {L : pj_Loc} {st : List Value} {M : pj_Mem}  : pj_step 36 (117, L, st, M) = some (118, L, .int 0 :: st, M) := st_iconst q36_117 (by decide +kernel)
theorem q36_118 : pj_row 36 118 = some (.invokestatic 55, 3, 37, 1, 1) := by decide +kernel
theorem e36_118 {L : pj_Loc} {st : List Value} {N S : Nat} {H : pj_Heap} {o : Option Value × pj_Mem} {M' : pj_Mem} {x0 : Int32} {r : Int32} (h4 : pj_le4 st = true) (h1 : pj_Ends 37 (0, [some (.int x0)], [], (N, S, H)) (some (.int r), M')) (h2 : pj_Ends 36 (121, L, .int r :: st, M') o) : pj_Ends 36 (118, L, .int x0 :: st, (N, S, H)) o := ec_s1 q36_118 (Or.inr rfl) h4 rfl h1 h2
theorem q36_121 : pj_row 36 121 = some (.iastore, 1, 0, 0, 0) := by decide +kernel
theorem s36_121 {L : pj_Loc} {st : List Value} {N S : Nat} {H : pj_Heap} {o : Nat} {i x : Int32} : pj_step 36 (121, L, .int x :: .int i :: .ref o :: st, (N, S, H)) = pj_set 122 L st (N, S, H) o (pj_ars (H o) 0 i x) := st_iastore q36_121
theorem q36_122 : pj_row 36 122 = some (.aload_n 0, 1, 0, 0, 0) := by decide +kernel
theorem s36_122 {st : List Value} {M : pj_Mem} {l : pj_Loc} {x : Nat} : pj_step 36 (122, some (.ref x) :: l, st, M) = some (123, some (.ref x) :: l, .ref x :: st, M) := st_aload_n q36_122 rfl
theorem q36_123 : pj_row 36 123 = some (.getfield 9, 3, 2, 0, 0) := by decide +kernel
theorem s36_123 {L : pj_Loc} {st : List Value} {N S : Nat} {H : pj_Heap} {o : Nat} : pj_step 36 (123, L, .ref o :: st, (N, S, H)) = pj_pv 126 L st (N, S, H) (pj_fld (H o) 2 0) := st_getfield q36_123
theorem q36_126 : pj_row 36 126 = some (.iload_n 2, 1, 0, 0, 0) := by decide +kernel
theorem s36_126 {st : List Value} {M : pj_Mem} {l : pj_Loc} {a0 a1 : Option Value} {x : Int32} : pj_step 36 (126, a0 :: a1 :: some (.int x) :: l, st, M) = some (127, a0 :: a1 :: some (.int x) :: l, .int x :: st, M) := st_iload_n q36_126 rfl
theorem q36_127 : pj_row 36 127 = some (.bipush 9, 2, 0, 0, 0) := by decide +kernel
theorem s36_127 {L : pj_Loc} {st : List Value} {M : pj_Mem}  : pj_step 36 (127, L, st, M) = some (129, L, .int 9 :: st, M) := st_bipush q36_127 (by decide +kernel)
theorem q36_129 : pj_row 36 129 = some (.iadd, 1, 0, 0, 0) := by decide +kernel
theorem s36_129 {L : pj_Loc} {st : List Value} {M : pj_Mem} {x y : Int32} : pj_step 36 (129, L, .int y :: .int x :: st, M) = some (130, L, .int (x + y) :: st, M) := st_iadd q36_129
theorem q36_130 : pj_row 36 130 = some (.aload_n 1, 1, 0, 0, 0) := by decide +kernel
theorem s36_130 {st : List Value} {M : pj_Mem} {l : pj_Loc} {a0 : Option Value} {x : Nat} : pj_step 36 (130, a0 :: some (.ref x) :: l, st, M) = some (131, a0 :: some (.ref x) :: l, .ref x :: st, M) := st_aload_n q36_130 rfl
theorem q36_131 : pj_row 36 131 = some (.getfield 44, 3, 3, 13, 0) := by decide +kernel
theorem s36_131 {L : pj_Loc} {st : List Value} {N S : Nat} {H : pj_Heap} {o : Nat} : pj_step 36 (131, L, .ref o :: st, (N, S, H)) = pj_pv 134 L st (N, S, H) (pj_fld (H o) 3 13) := st_getfield q36_131
theorem q36_134 : pj_row 36 134 = some (.iastore, 1, 0, 0, 0) := by decide +kernel
theorem s36_134 {L : pj_Loc} {st : List Value} {N S : Nat} {H : pj_Heap} {o : Nat} {i x : Int32} : pj_step 36 (134, L, .int x :: .int i :: .ref o :: st, (N, S, H)) = pj_set 135 L st (N, S, H) o (pj_ars (H o) 0 i x) := st_iastore q36_134
theorem q36_135 : pj_row 36 135 = some (.return_, 1, 0, 0, 0) := by decide +kernel
theorem t36_135 {L : pj_Loc} {M : pj_Mem} : pj_Ends 36 (135, L, [], M) (none, M) := pj_Ends.ret q36_135 (pj_rtn_v rt36)
theorem rt37 : pj_rt 37 = some .int := rfl
theorem q37_0 : pj_row 37 0 = some (.iload_n 0, 1, 0, 0, 0) := by decide +kernel
theorem s37_0 {st : List Value} {M : pj_Mem} {l : pj_Loc} {x : Int32} : pj_step 37 (0, some (.int x) :: l, st, M) = some (1, some (.int x) :: l, .int x :: st, M) := st_iload_n q37_0 rfl
theorem q37_1 : pj_row 37 1 = some (.ifCond .eq 7, 3, 8, 0, 0) := by decide +kernel
theorem s37_1 {L : pj_Loc} {st : List Value} {M : pj_Mem} {x : Int32} : pj_step 37 (1, L, .int x :: st, M) = some (if x = 0 then 8 else 4, L, st, M) := st_if_eq q37_1
theorem q37_4 : pj_row 37 4 = some (.iconst 1, 1, 0, 0, 0) := by decide +kernel
theorem s37_4 {L : pj_Loc} {st : List Value} {M : pj_Mem}  : pj_step 37 (4, L, st, M) = some (5, L, .int 1 :: st, M) := st_iconst q37_4 (by decide +kernel)
theorem q37_5 : pj_row 37 5 = some (.goto 4, 3, 9, 0, 0) := by decide +kernel
theorem s37_5 {L : pj_Loc} {st : List Value} {M : pj_Mem}  : pj_step 37 (5, L, st, M) = some (9, L, st, M) := st_goto q37_5
theorem q37_8 : pj_row 37 8 = some (.iconst 0, 1, 0, 0, 0) := by decide +kernel
theorem s37_8 {L : pj_Loc} {st : List Value} {M : pj_Mem}  : pj_step 37 (8, L, st, M) = some (9, L, .int 0 :: st, M) := st_iconst q37_8 (by decide +kernel)
theorem q37_9 : pj_row 37 9 = some (.ireturn, 1, 0, 0, 0) := by decide +kernel
theorem t37_9 {L : pj_Loc} {M : pj_Mem} {v : Int32} : pj_Ends 37 (9, L, [.int v], M) (some (.int v), M) := pj_Ends.ret q37_9 (pj_rtn_i rt37)
theorem rt38 : pj_rt 38 = some .int := rfl
theorem q38_0 : pj_row 38 0 = some (.iload_n 1, 1, 0, 0, 0) := by decide +kernel
theorem s38_0 {st : List Value} {M : pj_Mem} {l : pj_Loc} {a0 : Option Value} {x : Int32} : pj_step 38 (0, a0 :: some (.int x) :: l, st, M) = some (1, a0 :: some (.int x) :: l, .int x :: st, M) := st_iload_n q38_0 rfl
theorem q38_1 : pj_row 38 1 = some (.ifCond .lt 8, 3, 9, 0, 0) := by decide +kernel
theorem s38_1 {L : pj_Loc} {st : List Value} {M : pj_Mem} {x : Int32} : pj_step 38 (1, L, .int x :: st, M) = some (if x < 0 then 9 else 4, L, st, M) := st_if_lt q38_1
theorem q38_4 : pj_row 38 4 = some (.iload_n 1, 1, 0, 0, 0) := by decide +kernel
theorem s38_4 {st : List Value} {M : pj_Mem} {l : pj_Loc} {a0 : Option Value} {x : Int32} : pj_step 38 (4, a0 :: some (.int x) :: l, st, M) = some (5, a0 :: some (.int x) :: l, .int x :: st, M) := st_iload_n q38_4 rfl
theorem q38_5 : pj_row 38 5 = some (.iconst 3, 1, 0, 0, 0) := by decide +kernel
theorem s38_5 {L : pj_Loc} {st : List Value} {M : pj_Mem}  : pj_step 38 (5, L, st, M) = some (6, L, .int 3 :: st, M) := st_iconst q38_5 (by decide +kernel)
theorem q38_6 : pj_row 38 6 = some (.if_icmp .lt 5, 3, 11, 0, 0) := by decide +kernel
theorem s38_6 {L : pj_Loc} {st : List Value} {M : pj_Mem} {x y : Int32} : pj_step 38 (6, L, .int y :: .int x :: st, M) = some (if x < y then 11 else 9, L, st, M) := st_icmp_lt q38_6
theorem q38_9 : pj_row 38 9 = some (.iconst (-1), 1, 0, 0, 0) := by decide +kernel
theorem s38_9 {L : pj_Loc} {st : List Value} {M : pj_Mem}  : pj_step 38 (9, L, st, M) = some (10, L, .int (-1) :: st, M) := st_iconst q38_9 (by decide +kernel)
theorem q38_10 : pj_row 38 10 = some (.ireturn, 1, 0, 0, 0) := by decide +kernel
theorem t38_10 {L : pj_Loc} {M : pj_Mem} {v : Int32} : pj_Ends 38 (10, L, [.int v], M) (some (.int v), M) := pj_Ends.ret q38_10 (pj_rtn_i rt38)
theorem q38_11 : pj_row 38 11 = some (.aload_n 0, 1, 0, 0, 0) := by decide +kernel
theorem s38_11 {st : List Value} {M : pj_Mem} {l : pj_Loc} {x : Nat} : pj_step 38 (11, some (.ref x) :: l, st, M) = some (12, some (.ref x) :: l, .ref x :: st, M) := st_aload_n q38_11 rfl
theorem q38_12 : pj_row 38 12 = some (.getfield 10, 3, 5, 0, 0) := by decide +kernel
theorem s38_12 {L : pj_Loc} {st : List Value} {N S : Nat} {H : pj_Heap} {o : Nat} : pj_step 38 (12, L, .ref o :: st, (N, S, H)) = pj_pv 15 L st (N, S, H) (pj_fld (H o) 5 0) := st_getfield q38_12
theorem q38_15 : pj_row 38 15 = some (.getfield 74, 3, 4, 8, 0) := by decide +kernel
theorem s38_15 {L : pj_Loc} {st : List Value} {N S : Nat} {H : pj_Heap} {o : Nat} : pj_step 38 (15, L, .ref o :: st, (N, S, H)) = pj_pv 18 L st (N, S, H) (pj_fld (H o) 4 8) := st_getfield q38_15
theorem q38_18 : pj_row 38 18 = some (.iload_n 1, 1, 0, 0, 0) := by decide +kernel
theorem s38_18 {st : List Value} {M : pj_Mem} {l : pj_Loc} {a0 : Option Value} {x : Int32} : pj_step 38 (18, a0 :: some (.int x) :: l, st, M) = some (19, a0 :: some (.int x) :: l, .int x :: st, M) := st_iload_n q38_18 rfl
theorem q38_19 : pj_row 38 19 = some (.invokestatic 77, 3, 21, 2, 0) := by decide +kernel
theorem e38_19 {L : pj_Loc} {st : List Value} {N S : Nat} {H : pj_Heap} {o : Option Value × pj_Mem} {M' : pj_Mem} {x0 : Int32} {x1 : Int32} {r : Int32} (h4 : pj_le4 st = true) (h1 : pj_Ends 21 (0, [some (.int x0), some (.int x1)], [], (N, S, H)) (some (.int r), M')) (h2 : pj_Ends 38 (22, L, .int r :: st, M') o) : pj_Ends 38 (19, L, .int x1 :: .int x0 :: st, (N, S, H)) o := ec_s2 q38_19 (Or.inl rfl) h4 rfl h1 h2
theorem q38_22 : pj_row 38 22 = some (.iload_n 2, 1, 0, 0, 0) := by decide +kernel
theorem s38_22 {st : List Value} {M : pj_Mem} {l : pj_Loc} {a0 a1 : Option Value} {x : Int32} : pj_step 38 (22, a0 :: a1 :: some (.int x) :: l, st, M) = some (23, a0 :: a1 :: some (.int x) :: l, .int x :: st, M) := st_iload_n q38_22 rfl
theorem q38_23 : pj_row 38 23 = some (.if_icmp .eq 17, 3, 40, 0, 0) := by decide +kernel
theorem s38_23 {L : pj_Loc} {st : List Value} {M : pj_Mem} {x y : Int32} : pj_step 38 (23, L, .int y :: .int x :: st, M) = some (if x = y then 40 else 26, L, st, M) := st_icmp_eq q38_23
theorem q38_26 : pj_row 38 26 = some (.aload_n 0, 1, 0, 0, 0) := by decide +kernel
theorem s38_26 {st : List Value} {M : pj_Mem} {l : pj_Loc} {x : Nat} : pj_step 38 (26, some (.ref x) :: l, st, M) = some (27, some (.ref x) :: l, .ref x :: st, M) := st_aload_n q38_26 rfl
theorem q38_27 : pj_row 38 27 = some (.getfield 10, 3, 5, 0, 0) := by decide +kernel
theorem s38_27 {L : pj_Loc} {st : List Value} {N S : Nat} {H : pj_Heap} {o : Nat} : pj_step 38 (27, L, .ref o :: st, (N, S, H)) = pj_pv 30 L st (N, S, H) (pj_fld (H o) 5 0) := st_getfield q38_27
theorem q38_30 : pj_row 38 30 = some (.getfield 81, 3, 4, 5, 0) := by decide +kernel
theorem s38_30 {L : pj_Loc} {st : List Value} {N S : Nat} {H : pj_Heap} {o : Nat} : pj_step 38 (30, L, .ref o :: st, (N, S, H)) = pj_pv 33 L st (N, S, H) (pj_fld (H o) 4 5) := st_getfield q38_30
theorem q38_33 : pj_row 38 33 = some (.iload_n 1, 1, 0, 0, 0) := by decide +kernel
theorem s38_33 {st : List Value} {M : pj_Mem} {l : pj_Loc} {a0 : Option Value} {x : Int32} : pj_step 38 (33, a0 :: some (.int x) :: l, st, M) = some (34, a0 :: some (.int x) :: l, .int x :: st, M) := st_iload_n q38_33 rfl
theorem q38_34 : pj_row 38 34 = some (.iaload, 1, 0, 0, 0) := by decide +kernel
theorem s38_34 {L : pj_Loc} {st : List Value} {N S : Nat} {H : pj_Heap} {o : Nat} {i : Int32} : pj_step 38 (34, L, .int i :: .ref o :: st, (N, S, H)) = pj_pi 35 L st (N, S, H) (pj_arl (H o) 0 i) := st_iaload q38_34
theorem q38_35 : pj_row 38 35 = some (.bipush (-6), 2, 0, 0, 0) := by decide +kernel
theorem s38_35 {L : pj_Loc} {st : List Value} {M : pj_Mem}  : pj_step 38 (35, L, st, M) = some (37, L, .int (-6) :: st, M) := st_bipush q38_35 (by decide +kernel)
theorem q38_37 : pj_row 38 37 = some (.if_icmp .eq 6, 3, 43, 0, 0) := by decide +kernel
theorem s38_37 {L : pj_Loc} {st : List Value} {M : pj_Mem} {x y : Int32} : pj_step 38 (37, L, .int y :: .int x :: st, M) = some (if x = y then 43 else 40, L, st, M) := st_icmp_eq q38_37
theorem q38_40 : pj_row 38 40 = some (.bipush (-5), 2, 0, 0, 0) := by decide +kernel
theorem s38_40 {L : pj_Loc} {st : List Value} {M : pj_Mem}  : pj_step 38 (40, L, st, M) = some (42, L, .int (-5) :: st, M) := st_bipush q38_40 (by decide +kernel)
theorem q38_42 : pj_row 38 42 = some (.ireturn, 1, 0, 0, 0) := by decide +kernel
theorem t38_42 {L : pj_Loc} {M : pj_Mem} {v : Int32} : pj_Ends 38 (42, L, [.int v], M) (some (.int v), M) := pj_Ends.ret q38_42 (pj_rtn_i rt38)
theorem q38_43 : pj_row 38 43 = some (.aload_n 0, 1, 0, 0, 0) := by decide +kernel
theorem s38_43 {st : List Value} {M : pj_Mem} {l : pj_Loc} {x : Nat} : pj_step 38 (43, some (.ref x) :: l, st, M) = some (44, some (.ref x) :: l, .ref x :: st, M) := st_aload_n q38_43 rfl
theorem q38_44 : pj_row 38 44 = some (.invokevirtual 55, 3, 8, 1, 0) := by decide +kernel
theorem e38_44 {L : pj_Loc} {st : List Value} {N S : Nat} {H : pj_Heap} {o : Option Value × pj_Mem} {M' : pj_Mem} {x0 : Nat} (h4 : pj_le4 st = true) (hu : pj_isU 5 (H x0) = true) (h1 : pj_Ends 8 (0, [some (.ref x0), none, none], [], (N, S, H)) (none, M')) (h2 : pj_Ends 38 (47, L, st, M') o) : pj_Ends 38 (44, L, .ref x0 :: st, (N, S, H)) o := ec_v1 q38_44 (Or.inl rfl) h4 hu rfl h1 h2
theorem q38_47 : pj_row 38 47 = some (.aload_n 0, 1, 0, 0, 0) := by decide +kernel
theorem s38_47 {st : List Value} {M : pj_Mem} {l : pj_Loc} {x : Nat} : pj_step 38 (47, some (.ref x) :: l, st, M) = some (48, some (.ref x) :: l, .ref x :: st, M) := st_aload_n q38_47 rfl
theorem q38_48 : pj_row 38 48 = some (.getfield 10, 3, 5, 0, 0) := by decide +kernel
theorem s38_48 {L : pj_Loc} {st : List Value} {N S : Nat} {H : pj_Heap} {o : Nat} : pj_step 38 (48, L, .ref o :: st, (N, S, H)) = pj_pv 51 L st (N, S, H) (pj_fld (H o) 5 0) := st_getfield q38_48
theorem q38_51 : pj_row 38 51 = some (.iload_n 2, 1, 0, 0, 0) := by decide +kernel
theorem s38_51 {st : List Value} {M : pj_Mem} {l : pj_Loc} {a0 a1 : Option Value} {x : Int32} : pj_step 38 (51, a0 :: a1 :: some (.int x) :: l, st, M) = some (52, a0 :: a1 :: some (.int x) :: l, .int x :: st, M) := st_iload_n q38_51 rfl
theorem q38_52 : pj_row 38 52 = some (.ifCond .eq 17, 3, 69, 0, 0) := by decide +kernel
theorem s38_52 {L : pj_Loc} {st : List Value} {M : pj_Mem} {x : Int32} : pj_step 38 (52, L, .int x :: st, M) = some (if x = 0 then 69 else 55, L, st, M) := st_if_eq q38_52
theorem q38_55 : pj_row 38 55 = some (.aload_n 0, 1, 0, 0, 0) := by decide +kernel
theorem s38_55 {st : List Value} {M : pj_Mem} {l : pj_Loc} {x : Nat} : pj_step 38 (55, some (.ref x) :: l, st, M) = some (56, some (.ref x) :: l, .ref x :: st, M) := st_aload_n q38_55 rfl
theorem q38_56 : pj_row 38 56 = some (.getfield 10, 3, 5, 0, 0) := by decide +kernel
theorem s38_56 {L : pj_Loc} {st : List Value} {N S : Nat} {H : pj_Heap} {o : Nat} : pj_step 38 (56, L, .ref o :: st, (N, S, H)) = pj_pv 59 L st (N, S, H) (pj_fld (H o) 5 0) := st_getfield q38_56
theorem q38_59 : pj_row 38 59 = some (.getfield 74, 3, 4, 8, 0) := by decide +kernel
theorem s38_59 {L : pj_Loc} {st : List Value} {N S : Nat} {H : pj_Heap} {o : Nat} : pj_step 38 (59, L, .ref o :: st, (N, S, H)) = pj_pv 62 L st (N, S, H) (pj_fld (H o) 4 8) := st_getfield q38_59
theorem q38_62 : pj_row 38 62 = some (.iload_n 1, 1, 0, 0, 0) := by decide +kernel
theorem s38_62 {st : List Value} {M : pj_Mem} {l : pj_Loc} {a0 : Option Value} {x : Int32} : pj_step 38 (62, a0 :: some (.int x) :: l, st, M) = some (63, a0 :: some (.int x) :: l, .int x :: st, M) := st_iload_n q38_62 rfl
theorem q38_63 : pj_row 38 63 = some (.invokestatic 84, 3, 27, 2, 0) := by decide +kernel
theorem e38_63 {L : pj_Loc} {st : List Value} {N S : Nat} {H : pj_Heap} {o : Option Value × pj_Mem} {M' : pj_Mem} {x0 : Int32} {x1 : Int32} {r : Int32} (h4 : pj_le4 st = true) (h1 : pj_Ends 27 (0, [some (.int x0), some (.int x1)], [], (N, S, H)) (some (.int r), M')) (h2 : pj_Ends 38 (66, L, .int r :: st, M') o) : pj_Ends 38 (63, L, .int x1 :: .int x0 :: st, (N, S, H)) o := ec_s2 q38_63 (Or.inl rfl) h4 rfl h1 h2
theorem q38_66 : pj_row 38 66 = some (.goto 14, 3, 80, 0, 0) := by decide +kernel
theorem s38_66 {L : pj_Loc} {st : List Value} {M : pj_Mem}  : pj_step 38 (66, L, st, M) = some (80, L, st, M) := st_goto q38_66
theorem q38_69 : pj_row 38 69 = some (.aload_n 0, 1, 0, 0, 0) := by decide +kernel
theorem s38_69 {st : List Value} {M : pj_Mem} {l : pj_Loc} {x : Nat} : pj_step 38 (69, some (.ref x) :: l, st, M) = some (70, some (.ref x) :: l, .ref x :: st, M) := st_aload_n q38_69 rfl
theorem q38_70 : pj_row 38 70 = some (.getfield 10, 3, 5, 0, 0) := by decide +kernel
theorem s38_70 {L : pj_Loc} {st : List Value} {N S : Nat} {H : pj_Heap} {o : Nat} : pj_step 38 (70, L, .ref o :: st, (N, S, H)) = pj_pv 73 L st (N, S, H) (pj_fld (H o) 5 0) := st_getfield q38_70
theorem q38_73 : pj_row 38 73 = some (.getfield 74, 3, 4, 8, 0) := by decide +kernel
theorem s38_73 {L : pj_Loc} {st : List Value} {N S : Nat} {H : pj_Heap} {o : Nat} : pj_step 38 (73, L, .ref o :: st, (N, S, H)) = pj_pv 76 L st (N, S, H) (pj_fld (H o) 4 8) := st_getfield q38_73
theorem q38_76 : pj_row 38 76 = some (.iload_n 1, 1, 0, 0, 0) := by decide +kernel
theorem s38_76 {st : List Value} {M : pj_Mem} {l : pj_Loc} {a0 : Option Value} {x : Int32} : pj_step 38 (76, a0 :: some (.int x) :: l, st, M) = some (77, a0 :: some (.int x) :: l, .int x :: st, M) := st_iload_n q38_76 rfl
theorem q38_77 : pj_row 38 77 = some (.invokestatic 88, 3, 17, 2, 0) := by decide +kernel
theorem e38_77 {L : pj_Loc} {st : List Value} {N S : Nat} {H : pj_Heap} {o : Option Value × pj_Mem} {M' : pj_Mem} {x0 : Int32} {x1 : Int32} {r : Int32} (h4 : pj_le4 st = true) (h1 : pj_Ends 17 (0, [some (.int x0), some (.int x1)], [], (N, S, H)) (some (.int r), M')) (h2 : pj_Ends 38 (80, L, .int r :: st, M') o) : pj_Ends 38 (77, L, .int x1 :: .int x0 :: st, (N, S, H)) o := ec_s2 q38_77 (Or.inl rfl) h4 rfl h1 h2
theorem q38_80 : pj_row 38 80 = some (.putfield 74, 3, 4, 8, 0) := by decide +kernel
theorem s38_80 {L : pj_Loc} {st : List Value} {N S : Nat} {H : pj_Heap} {o : Nat} {v : Value} : pj_step 38 (80, L, v :: .ref o :: st, (N, S, H)) = pj_set 83 L st (N, S, H) o (pj_fset (H o) 4 8 v) := st_putfield q38_80
theorem q38_83 : pj_row 38 83 = some (.aload_n 0, 1, 0, 0, 0) := by decide +kernel
theorem s38_83 {st : List Value} {M : pj_Mem} {l : pj_Loc} {x : Nat} : pj_step 38 (83, some (.ref x) :: l, st, M) = some (84, some (.ref x) :: l, .ref x :: st, M) := st_aload_n q38_83 rfl
theorem q38_84 : pj_row 38 84 = some (.getfield 10, 3, 5, 0, 0) := by decide +kernel
theorem s38_84 {L : pj_Loc} {st : List Value} {N S : Nat} {H : pj_Heap} {o : Nat} : pj_step 38 (84, L, .ref o :: st, (N, S, H)) = pj_pv 87 L st (N, S, H) (pj_fld (H o) 5 0) := st_getfield q38_84
theorem q38_87 : pj_row 38 87 = some (.getfield 74, 3, 4, 8, 0) := by decide +kernel
theorem s38_87 {L : pj_Loc} {st : List Value} {N S : Nat} {H : pj_Heap} {o : Nat} : pj_step 38 (87, L, .ref o :: st, (N, S, H)) = pj_pv 90 L st (N, S, H) (pj_fld (H o) 4 8) := st_getfield q38_87
theorem q38_90 : pj_row 38 90 = some (.ireturn, 1, 0, 0, 0) := by decide +kernel
theorem t38_90 {L : pj_Loc} {M : pj_Mem} {v : Int32} : pj_Ends 38 (90, L, [.int v], M) (some (.int v), M) := pj_Ends.ret q38_90 (pj_rtn_i rt38)
theorem rt39 : pj_rt 39 = some .int := rfl
theorem q39_0 : pj_row 39 0 = some (.iload_n 1, 1, 0, 0, 0) := by decide +kernel
theorem s39_0 {st : List Value} {M : pj_Mem} {l : pj_Loc} {a0 : Option Value} {x : Int32} : pj_step 39 (0, a0 :: some (.int x) :: l, st, M) = some (1, a0 :: some (.int x) :: l, .int x :: st, M) := st_iload_n q39_0 rfl
theorem q39_1 : pj_row 39 1 = some (.ifCond .lt 8, 3, 9, 0, 0) := by decide +kernel
theorem s39_1 {L : pj_Loc} {st : List Value} {M : pj_Mem} {x : Int32} : pj_step 39 (1, L, .int x :: st, M) = some (if x < 0 then 9 else 4, L, st, M) := st_if_lt q39_1
theorem q39_4 : pj_row 39 4 = some (.iload_n 1, 1, 0, 0, 0) := by decide +kernel
theorem s39_4 {st : List Value} {M : pj_Mem} {l : pj_Loc} {a0 : Option Value} {x : Int32} : pj_step 39 (4, a0 :: some (.int x) :: l, st, M) = some (5, a0 :: some (.int x) :: l, .int x :: st, M) := st_iload_n q39_4 rfl
theorem q39_5 : pj_row 39 5 = some (.iconst 3, 1, 0, 0, 0) := by decide +kernel
theorem s39_5 {L : pj_Loc} {st : List Value} {M : pj_Mem}  : pj_step 39 (5, L, st, M) = some (6, L, .int 3 :: st, M) := st_iconst q39_5 (by decide +kernel)
theorem q39_6 : pj_row 39 6 = some (.if_icmp .lt 5, 3, 11, 0, 0) := by decide +kernel
theorem s39_6 {L : pj_Loc} {st : List Value} {M : pj_Mem} {x y : Int32} : pj_step 39 (6, L, .int y :: .int x :: st, M) = some (if x < y then 11 else 9, L, st, M) := st_icmp_lt q39_6
theorem q39_9 : pj_row 39 9 = some (.iconst (-1), 1, 0, 0, 0) := by decide +kernel
theorem s39_9 {L : pj_Loc} {st : List Value} {M : pj_Mem}  : pj_step 39 (9, L, st, M) = some (10, L, .int (-1) :: st, M) := st_iconst q39_9 (by decide +kernel)
theorem q39_10 : pj_row 39 10 = some (.ireturn, 1, 0, 0, 0) := by decide +kernel
theorem t39_10 {L : pj_Loc} {M : pj_Mem} {v : Int32} : pj_Ends 39 (10, L, [.int v], M) (some (.int v), M) := pj_Ends.ret q39_10 (pj_rtn_i rt39)
theorem q39_11 : pj_row 39 11 = some (.aload_n 0, 1, 0, 0, 0) := by decide +kernel
theorem s39_11 {st : List Value} {M : pj_Mem} {l : pj_Loc} {x : Nat} : pj_step 39 (11, some (.ref x) :: l, st, M) = some (12, some (.ref x) :: l, .ref x :: st, M) := st_aload_n q39_11 rfl
theorem q39_12 : pj_row 39 12 = some (.getfield 10, 3, 5, 0, 0) := by decide +kernel
theorem s39_12 {L : pj_Loc} {st : List Value} {N S : Nat} {H : pj_Heap} {o : Nat} : pj_step 39 (12, L, .ref o :: st, (N, S, H)) = pj_pv 15 L st (N, S, H) (pj_fld (H o) 5 0) := st_getfield q39_12
theorem q39_15 : pj_row 39 15 = some (.invokevirtual 91, 3, 40, 1, 0) := by decide +kernel
theorem e39_15 {L : pj_Loc} {st : List Value} {N S : Nat} {H : pj_Heap} {o : Option Value × pj_Mem} {M' : pj_Mem} {x0 : Nat} {r : Int32} (h4 : pj_le4 st = true) (hu : pj_isU 4 (H x0) = true) (h1 : pj_Ends 40 (0, [some (.ref x0), none, none], [], (N, S, H)) (some (.int r), M')) (h2 : pj_Ends 39 (18, L, .int r :: st, M') o) : pj_Ends 39 (15, L, .ref x0 :: st, (N, S, H)) o := ec_v1 q39_15 (Or.inl rfl) h4 hu rfl h1 h2
theorem q39_18 : pj_row 39 18 = some (.ifCond .eq 6, 3, 24, 0, 0) := by decide +kernel
theorem s39_18 {L : pj_Loc} {st : List Value} {M : pj_Mem} {x : Int32} : pj_step 39 (18, L, .int x :: st, M) = some (if x = 0 then 24 else 21, L, st, M) := st_if_eq q39_18
theorem q39_21 : pj_row 39 21 = some (.bipush (-5), 2, 0, 0, 0) := by decide +kernel
theorem s39_21 {L : pj_Loc} {st : List Value} {M : pj_Mem}  : pj_step 39 (21, L, st, M) = some (23, L, .int (-5) :: st, M) := st_bipush q39_21 (by decide +kernel)
theorem q39_23 : pj_row 39 23 = some (.ireturn, 1, 0, 0, 0) := by decide +kernel
theorem t39_23 {L : pj_Loc} {M : pj_Mem} {v : Int32} : pj_Ends 39 (23, L, [.int v], M) (some (.int v), M) := pj_Ends.ret q39_23 (pj_rtn_i rt39)
theorem q39_24 : pj_row 39 24 = some (.aload_n 0, 1, 0, 0, 0) := by decide +kernel
theorem s39_24 {st : List Value} {M : pj_Mem} {l : pj_Loc} {x : Nat} : pj_step 39 (24, some (.ref x) :: l, st, M) = some (25, some (.ref x) :: l, .ref x :: st, M) := st_aload_n q39_24 rfl
theorem q39_25 : pj_row 39 25 = some (.invokevirtual 55, 3, 8, 1, 0) := by decide +kernel
theorem e39_25 {L : pj_Loc} {st : List Value} {N S : Nat} {H : pj_Heap} {o : Option Value × pj_Mem} {M' : pj_Mem} {x0 : Nat} (h4 : pj_le4 st = true) (hu : pj_isU 5 (H x0) = true) (h1 : pj_Ends 8 (0, [some (.ref x0), none, none], [], (N, S, H)) (none, M')) (h2 : pj_Ends 39 (28, L, st, M') o) : pj_Ends 39 (25, L, .ref x0 :: st, (N, S, H)) o := ec_v1 q39_25 (Or.inl rfl) h4 hu rfl h1 h2
theorem q39_28 : pj_row 39 28 = some (.aload_n 0, 1, 0, 0, 0) := by decide +kernel
theorem s39_28 {st : List Value} {M : pj_Mem} {l : pj_Loc} {x : Nat} : pj_step 39 (28, some (.ref x) :: l, st, M) = some (29, some (.ref x) :: l, .ref x :: st, M) := st_aload_n q39_28 rfl
theorem q39_29 : pj_row 39 29 = some (.getfield 10, 3, 5, 0, 0) := by decide +kernel
theorem s39_29 {L : pj_Loc} {st : List Value} {N S : Nat} {H : pj_Heap} {o : Nat} : pj_step 39 (29, L, .ref o :: st, (N, S, H)) = pj_pv 32 L st (N, S, H) (pj_fld (H o) 5 0) := st_getfield q39_29
theorem q39_32 : pj_row 39 32 = some (.getfield 95, 3, 4, 7, 0) := by decide +kernel
theorem s39_32 {L : pj_Loc} {st : List Value} {N S : Nat} {H : pj_Heap} {o : Nat} : pj_step 39 (32, L, .ref o :: st, (N, S, H)) = pj_pv 35 L st (N, S, H) (pj_fld (H o) 4 7) := st_getfield q39_32
theorem q39_35 : pj_row 39 35 = some (.iload_n 1, 1, 0, 0, 0) := by decide +kernel
theorem s39_35 {st : List Value} {M : pj_Mem} {l : pj_Loc} {a0 : Option Value} {x : Int32} : pj_step 39 (35, a0 :: some (.int x) :: l, st, M) = some (36, a0 :: some (.int x) :: l, .int x :: st, M) := st_iload_n q39_35 rfl
theorem q39_36 : pj_row 39 36 = some (.invokestatic 77, 3, 21, 2, 0) := by decide +kernel
theorem e39_36 {L : pj_Loc} {st : List Value} {N S : Nat} {H : pj_Heap} {o : Option Value × pj_Mem} {M' : pj_Mem} {x0 : Int32} {x1 : Int32} {r : Int32} (h4 : pj_le4 st = true) (h1 : pj_Ends 21 (0, [some (.int x0), some (.int x1)], [], (N, S, H)) (some (.int r), M')) (h2 : pj_Ends 39 (39, L, .int r :: st, M') o) : pj_Ends 39 (36, L, .int x1 :: .int x0 :: st, (N, S, H)) o := ec_s2 q39_36 (Or.inl rfl) h4 rfl h1 h2
theorem q39_39 : pj_row 39 39 = some (.ifCond .eq 7, 3, 46, 0, 0) := by decide +kernel
theorem s39_39 {L : pj_Loc} {st : List Value} {M : pj_Mem} {x : Int32} : pj_step 39 (39, L, .int x :: st, M) = some (if x = 0 then 46 else 42, L, st, M) := st_if_eq q39_39
theorem q39_42 : pj_row 39 42 = some (.iconst 0, 1, 0, 0, 0) := by decide +kernel
theorem s39_42 {L : pj_Loc} {st : List Value} {M : pj_Mem}  : pj_step 39 (42, L, st, M) = some (43, L, .int 0 :: st, M) := st_iconst q39_42 (by decide +kernel)
theorem q39_43 : pj_row 39 43 = some (.goto 4, 3, 47, 0, 0) := by decide +kernel
theorem s39_43 {L : pj_Loc} {st : List Value} {M : pj_Mem}  : pj_step 39 (43, L, st, M) = some (47, L, st, M) := st_goto q39_43
theorem q39_46 : pj_row 39 46 = some (.iconst 1, 1, 0, 0, 0) := by decide +kernel
theorem s39_46 {L : pj_Loc} {st : List Value} {M : pj_Mem}  : pj_step 39 (46, L, st, M) = some (47, L, .int 1 :: st, M) := st_iconst q39_46 (by decide +kernel)
theorem q39_47 : pj_row 39 47 = some (.istore_n 2, 1, 0, 0, 0) := by decide +kernel
theorem s39_47 {st : List Value} {M : pj_Mem} {l : pj_Loc} {a0 a1 a2 : Option Value} {x : Int32} (h : pj_long a1 = false) : pj_step 39 (47, a0 :: a1 :: a2 :: l, .int x :: st, M) = some (48, a0 :: a1 :: some (.int x) :: l, st, M) := st_istore_n q39_47 (pj_st_2 h)
theorem q39_48 : pj_row 39 48 = some (.aload_n 0, 1, 0, 0, 0) := by decide +kernel
theorem s39_48 {st : List Value} {M : pj_Mem} {l : pj_Loc} {x : Nat} : pj_step 39 (48, some (.ref x) :: l, st, M) = some (49, some (.ref x) :: l, .ref x :: st, M) := st_aload_n q39_48 rfl
theorem q39_49 : pj_row 39 49 = some (.getfield 10, 3, 5, 0, 0) := by decide +kernel
theorem s39_49 {L : pj_Loc} {st : List Value} {N S : Nat} {H : pj_Heap} {o : Nat} : pj_step 39 (49, L, .ref o :: st, (N, S, H)) = pj_pv 52 L st (N, S, H) (pj_fld (H o) 5 0) := st_getfield q39_49
theorem q39_52 : pj_row 39 52 = some (.aload_n 0, 1, 0, 0, 0) := by decide +kernel
theorem s39_52 {st : List Value} {M : pj_Mem} {l : pj_Loc} {x : Nat} : pj_step 39 (52, some (.ref x) :: l, st, M) = some (53, some (.ref x) :: l, .ref x :: st, M) := st_aload_n q39_52 rfl
theorem q39_53 : pj_row 39 53 = some (.getfield 10, 3, 5, 0, 0) := by decide +kernel
theorem s39_53 {L : pj_Loc} {st : List Value} {N S : Nat} {H : pj_Heap} {o : Nat} : pj_step 39 (53, L, .ref o :: st, (N, S, H)) = pj_pv 56 L st (N, S, H) (pj_fld (H o) 5 0) := st_getfield q39_53
theorem q39_56 : pj_row 39 56 = some (.getfield 95, 3, 4, 7, 0) := by decide +kernel
theorem s39_56 {L : pj_Loc} {st : List Value} {N S : Nat} {H : pj_Heap} {o : Nat} : pj_step 39 (56, L, .ref o :: st, (N, S, H)) = pj_pv 59 L st (N, S, H) (pj_fld (H o) 4 7) := st_getfield q39_56
theorem q39_59 : pj_row 39 59 = some (.iload_n 1, 1, 0, 0, 0) := by decide +kernel
theorem s39_59 {st : List Value} {M : pj_Mem} {l : pj_Loc} {a0 : Option Value} {x : Int32} : pj_step 39 (59, a0 :: some (.int x) :: l, st, M) = some (60, a0 :: some (.int x) :: l, .int x :: st, M) := st_iload_n q39_59 rfl
theorem q39_60 : pj_row 39 60 = some (.invokestatic 84, 3, 27, 2, 0) := by decide +kernel
theorem e39_60 {L : pj_Loc} {st : List Value} {N S : Nat} {H : pj_Heap} {o : Option Value × pj_Mem} {M' : pj_Mem} {x0 : Int32} {x1 : Int32} {r : Int32} (h4 : pj_le4 st = true) (h1 : pj_Ends 27 (0, [some (.int x0), some (.int x1)], [], (N, S, H)) (some (.int r), M')) (h2 : pj_Ends 39 (63, L, .int r :: st, M') o) : pj_Ends 39 (60, L, .int x1 :: .int x0 :: st, (N, S, H)) o := ec_s2 q39_60 (Or.inl rfl) h4 rfl h1 h2
theorem q39_63 : pj_row 39 63 = some (.putfield 95, 3, 4, 7, 0) := by decide +kernel
theorem s39_63 {L : pj_Loc} {st : List Value} {N S : Nat} {H : pj_Heap} {o : Nat} {v : Value} : pj_step 39 (63, L, v :: .ref o :: st, (N, S, H)) = pj_set 66 L st (N, S, H) o (pj_fset (H o) 4 7 v) := st_putfield q39_63
theorem q39_66 : pj_row 39 66 = some (.aload_n 0, 1, 0, 0, 0) := by decide +kernel
theorem s39_66 {st : List Value} {M : pj_Mem} {l : pj_Loc} {x : Nat} : pj_step 39 (66, some (.ref x) :: l, st, M) = some (67, some (.ref x) :: l, .ref x :: st, M) := st_aload_n q39_66 rfl
theorem q39_67 : pj_row 39 67 = some (.getfield 10, 3, 5, 0, 0) := by decide +kernel
theorem s39_67 {L : pj_Loc} {st : List Value} {N S : Nat} {H : pj_Heap} {o : Nat} : pj_step 39 (67, L, .ref o :: st, (N, S, H)) = pj_pv 70 L st (N, S, H) (pj_fld (H o) 5 0) := st_getfield q39_67
theorem q39_70 : pj_row 39 70 = some (.getfield 98, 3, 4, 1, 0) := by decide +kernel
theorem s39_70 {L : pj_Loc} {st : List Value} {N S : Nat} {H : pj_Heap} {o : Nat} : pj_step 39 (70, L, .ref o :: st, (N, S, H)) = pj_pv 73 L st (N, S, H) (pj_fld (H o) 4 1) := st_getfield q39_70
theorem q39_73 : pj_row 39 73 = some (.iload_n 1, 1, 0, 0, 0) := by decide +kernel
theorem s39_73 {st : List Value} {M : pj_Mem} {l : pj_Loc} {a0 : Option Value} {x : Int32} : pj_step 39 (73, a0 :: some (.int x) :: l, st, M) = some (74, a0 :: some (.int x) :: l, .int x :: st, M) := st_iload_n q39_73 rfl
theorem q39_74 : pj_row 39 74 = some (.iconst 0, 1, 0, 0, 0) := by decide +kernel
theorem s39_74 {L : pj_Loc} {st : List Value} {M : pj_Mem}  : pj_step 39 (74, L, st, M) = some (75, L, .int 0 :: st, M) := st_iconst q39_74 (by decide +kernel)
theorem q39_75 : pj_row 39 75 = some (.iastore, 1, 0, 0, 0) := by decide +kernel
theorem s39_75 {L : pj_Loc} {st : List Value} {N S : Nat} {H : pj_Heap} {o : Nat} {i x : Int32} : pj_step 39 (75, L, .int x :: .int i :: .ref o :: st, (N, S, H)) = pj_set 76 L st (N, S, H) o (pj_ars (H o) 0 i x) := st_iastore q39_75
theorem q39_76 : pj_row 39 76 = some (.aload_n 0, 1, 0, 0, 0) := by decide +kernel
theorem s39_76 {st : List Value} {M : pj_Mem} {l : pj_Loc} {x : Nat} : pj_step 39 (76, some (.ref x) :: l, st, M) = some (77, some (.ref x) :: l, .ref x :: st, M) := st_aload_n q39_76 rfl
theorem q39_77 : pj_row 39 77 = some (.getfield 10, 3, 5, 0, 0) := by decide +kernel
theorem s39_77 {L : pj_Loc} {st : List Value} {N S : Nat} {H : pj_Heap} {o : Nat} : pj_step 39 (77, L, .ref o :: st, (N, S, H)) = pj_pv 80 L st (N, S, H) (pj_fld (H o) 5 0) := st_getfield q39_77
theorem q39_80 : pj_row 39 80 = some (.getfield 101, 3, 4, 2, 0) := by decide +kernel
theorem s39_80 {L : pj_Loc} {st : List Value} {N S : Nat} {H : pj_Heap} {o : Nat} : pj_step 39 (80, L, .ref o :: st, (N, S, H)) = pj_pv 83 L st (N, S, H) (pj_fld (H o) 4 2) := st_getfield q39_80
theorem q39_83 : pj_row 39 83 = some (.iload_n 1, 1, 0, 0, 0) := by decide +kernel
theorem s39_83 {st : List Value} {M : pj_Mem} {l : pj_Loc} {a0 : Option Value} {x : Int32} : pj_step 39 (83, a0 :: some (.int x) :: l, st, M) = some (84, a0 :: some (.int x) :: l, .int x :: st, M) := st_iload_n q39_83 rfl
theorem q39_84 : pj_row 39 84 = some (.iconst 0, 1, 0, 0, 0) := by decide +kernel
theorem s39_84 {L : pj_Loc} {st : List Value} {M : pj_Mem}  : pj_step 39 (84, L, st, M) = some (85, L, .int 0 :: st, M) := st_iconst q39_84 (by decide +kernel)
theorem q39_85 : pj_row 39 85 = some (.iastore, 1, 0, 0, 0) := by decide +kernel
theorem s39_85 {L : pj_Loc} {st : List Value} {N S : Nat} {H : pj_Heap} {o : Nat} {i x : Int32} : pj_step 39 (85, L, .int x :: .int i :: .ref o :: st, (N, S, H)) = pj_set 86 L st (N, S, H) o (pj_ars (H o) 0 i x) := st_iastore q39_85
theorem q39_86 : pj_row 39 86 = some (.aload_n 0, 1, 0, 0, 0) := by decide +kernel
theorem s39_86 {st : List Value} {M : pj_Mem} {l : pj_Loc} {x : Nat} : pj_step 39 (86, some (.ref x) :: l, st, M) = some (87, some (.ref x) :: l, .ref x :: st, M) := st_aload_n q39_86 rfl
theorem q39_87 : pj_row 39 87 = some (.getfield 10, 3, 5, 0, 0) := by decide +kernel
theorem s39_87 {L : pj_Loc} {st : List Value} {N S : Nat} {H : pj_Heap} {o : Nat} : pj_step 39 (87, L, .ref o :: st, (N, S, H)) = pj_pv 90 L st (N, S, H) (pj_fld (H o) 5 0) := st_getfield q39_87
theorem q39_90 : pj_row 39 90 = some (.getfield 104, 3, 4, 3, 0) := by decide +kernel
theorem s39_90 {L : pj_Loc} {st : List Value} {N S : Nat} {H : pj_Heap} {o : Nat} : pj_step 39 (90, L, .ref o :: st, (N, S, H)) = pj_pv 93 L st (N, S, H) (pj_fld (H o) 4 3) := st_getfield q39_90
theorem q39_93 : pj_row 39 93 = some (.iload_n 1, 1, 0, 0, 0) := by decide +kernel
theorem s39_93 {st : List Value} {M : pj_Mem} {l : pj_Loc} {a0 : Option Value} {x : Int32} : pj_step 39 (93, a0 :: some (.int x) :: l, st, M) = some (94, a0 :: some (.int x) :: l, .int x :: st, M) := st_iload_n q39_93 rfl
theorem q39_94 : pj_row 39 94 = some (.iconst 0, 1, 0, 0, 0) := by decide +kernel
theorem s39_94 {L : pj_Loc} {st : List Value} {M : pj_Mem}  : pj_step 39 (94, L, st, M) = some (95, L, .int 0 :: st, M) := st_iconst q39_94 (by decide +kernel)
theorem q39_95 : pj_row 39 95 = some (.iastore, 1, 0, 0, 0) := by decide +kernel
theorem s39_95 {L : pj_Loc} {st : List Value} {N S : Nat} {H : pj_Heap} {o : Nat} {i x : Int32} : pj_step 39 (95, L, .int x :: .int i :: .ref o :: st, (N, S, H)) = pj_set 96 L st (N, S, H) o (pj_ars (H o) 0 i x) := st_iastore q39_95
theorem q39_96 : pj_row 39 96 = some (.iload_n 2, 1, 0, 0, 0) := by decide +kernel
theorem s39_96 {st : List Value} {M : pj_Mem} {l : pj_Loc} {a0 a1 : Option Value} {x : Int32} : pj_step 39 (96, a0 :: a1 :: some (.int x) :: l, st, M) = some (97, a0 :: a1 :: some (.int x) :: l, .int x :: st, M) := st_iload_n q39_96 rfl
theorem q39_97 : pj_row 39 97 = some (.ireturn, 1, 0, 0, 0) := by decide +kernel
theorem t39_97 {L : pj_Loc} {M : pj_Mem} {v : Int32} : pj_Ends 39 (97, L, [.int v], M) (some (.int v), M) := pj_Ends.ret q39_97 (pj_rtn_i rt39)
theorem rt40 : pj_rt 40 = some .int := rfl
theorem q40_0 : pj_row 40 0 = some (.iconst 0, 1, 0, 0, 0) := by decide +kernel
theorem s40_0 {L : pj_Loc} {st : List Value} {M : pj_Mem}  : pj_step 40 (0, L, st, M) = some (1, L, .int 0 :: st, M) := st_iconst q40_0 (by decide +kernel)
theorem q40_1 : pj_row 40 1 = some (.istore_n 1, 1, 0, 0, 0) := by decide +kernel
theorem s40_1 {st : List Value} {M : pj_Mem} {l : pj_Loc} {a0 a1 : Option Value} {x : Int32} (h : pj_long a0 = false) : pj_step 40 (1, a0 :: a1 :: l, .int x :: st, M) = some (2, a0 :: some (.int x) :: l, st, M) := st_istore_n q40_1 (pj_st_1 h)
theorem q40_2 : pj_row 40 2 = some (.iconst 0, 1, 0, 0, 0) := by decide +kernel
theorem s40_2 {L : pj_Loc} {st : List Value} {M : pj_Mem}  : pj_step 40 (2, L, st, M) = some (3, L, .int 0 :: st, M) := st_iconst q40_2 (by decide +kernel)
theorem q40_3 : pj_row 40 3 = some (.istore_n 2, 1, 0, 0, 0) := by decide +kernel
theorem s40_3 {st : List Value} {M : pj_Mem} {l : pj_Loc} {a0 a1 a2 : Option Value} {x : Int32} (h : pj_long a1 = false) : pj_step 40 (3, a0 :: a1 :: a2 :: l, .int x :: st, M) = some (4, a0 :: a1 :: some (.int x) :: l, st, M) := st_istore_n q40_3 (pj_st_2 h)
theorem q40_4 : pj_row 40 4 = some (.iload_n 2, 1, 0, 0, 0) := by decide +kernel
theorem s40_4 {st : List Value} {M : pj_Mem} {l : pj_Loc} {a0 a1 : Option Value} {x : Int32} : pj_step 40 (4, a0 :: a1 :: some (.int x) :: l, st, M) = some (5, a0 :: a1 :: some (.int x) :: l, .int x :: st, M) := st_iload_n q40_4 rfl
theorem q40_5 : pj_row 40 5 = some (.iconst 3, 1, 0, 0, 0) := by decide +kernel
theorem s40_5 {L : pj_Loc} {st : List Value} {M : pj_Mem}  : pj_step 40 (5, L, st, M) = some (6, L, .int 3 :: st, M) := st_iconst q40_5 (by decide +kernel)
theorem q40_6 : pj_row 40 6 = some (.if_icmp .ge 26, 3, 32, 0, 0) := by decide +kernel
theorem s40_6 {L : pj_Loc} {st : List Value} {M : pj_Mem} {x y : Int32} : pj_step 40 (6, L, .int y :: .int x :: st, M) = some (if y ≤ x then 32 else 9, L, st, M) := st_icmp_ge q40_6
theorem q40_9 : pj_row 40 9 = some (.aload_n 0, 1, 0, 0, 0) := by decide +kernel
theorem s40_9 {st : List Value} {M : pj_Mem} {l : pj_Loc} {x : Nat} : pj_step 40 (9, some (.ref x) :: l, st, M) = some (10, some (.ref x) :: l, .ref x :: st, M) := st_aload_n q40_9 rfl
theorem q40_10 : pj_row 40 10 = some (.getfield 27, 3, 4, 5, 0) := by decide +kernel
theorem s40_10 {L : pj_Loc} {st : List Value} {N S : Nat} {H : pj_Heap} {o : Nat} : pj_step 40 (10, L, .ref o :: st, (N, S, H)) = pj_pv 13 L st (N, S, H) (pj_fld (H o) 4 5) := st_getfield q40_10
theorem q40_13 : pj_row 40 13 = some (.iload_n 2, 1, 0, 0, 0) := by decide +kernel
theorem s40_13 {st : List Value} {M : pj_Mem} {l : pj_Loc} {a0 a1 : Option Value} {x : Int32} : pj_step 40 (13, a0 :: a1 :: some (.int x) :: l, st, M) = some (14, a0 :: a1 :: some (.int x) :: l, .int x :: st, M) := st_iload_n q40_13 rfl
theorem q40_14 : pj_row 40 14 = some (.iaload, 1, 0, 0, 0) := by decide +kernel
theorem s40_14 {L : pj_Loc} {st : List Value} {N S : Nat} {H : pj_Heap} {o : Nat} {i : Int32} : pj_step 40 (14, L, .int i :: .ref o :: st, (N, S, H)) = pj_pi 15 L st (N, S, H) (pj_arl (H o) 0 i) := st_iaload q40_14
theorem q40_15 : pj_row 40 15 = some (.bipush (-6), 2, 0, 0, 0) := by decide +kernel
theorem s40_15 {L : pj_Loc} {st : List Value} {M : pj_Mem}  : pj_step 40 (15, L, st, M) = some (17, L, .int (-6) :: st, M) := st_bipush q40_15 (by decide +kernel)
theorem q40_17 : pj_row 40 17 = some (.if_icmp .eq 9, 3, 26, 0, 0) := by decide +kernel
theorem s40_17 {L : pj_Loc} {st : List Value} {M : pj_Mem} {x y : Int32} : pj_step 40 (17, L, .int y :: .int x :: st, M) = some (if x = y then 26 else 20, L, st, M) := st_icmp_eq q40_17
theorem q40_20 : pj_row 40 20 = some (.iload_n 1, 1, 0, 0, 0) := by decide +kernel
theorem s40_20 {st : List Value} {M : pj_Mem} {l : pj_Loc} {a0 : Option Value} {x : Int32} : pj_step 40 (20, a0 :: some (.int x) :: l, st, M) = some (21, a0 :: some (.int x) :: l, .int x :: st, M) := st_iload_n q40_20 rfl
theorem q40_21 : pj_row 40 21 = some (.iload_n 2, 1, 0, 0, 0) := by decide +kernel
theorem s40_21 {st : List Value} {M : pj_Mem} {l : pj_Loc} {a0 a1 : Option Value} {x : Int32} : pj_step 40 (21, a0 :: a1 :: some (.int x) :: l, st, M) = some (22, a0 :: a1 :: some (.int x) :: l, .int x :: st, M) := st_iload_n q40_21 rfl
theorem q40_22 : pj_row 40 22 = some (.invokestatic 79, 3, 27, 2, 1) := by decide +kernel
theorem e40_22 {L : pj_Loc} {st : List Value} {N S : Nat} {H : pj_Heap} {o : Option Value × pj_Mem} {M' : pj_Mem} {x0 : Int32} {x1 : Int32} {r : Int32} (h4 : pj_le4 st = true) (h1 : pj_Ends 27 (0, [some (.int x0), some (.int x1)], [], (N, S, H)) (some (.int r), M')) (h2 : pj_Ends 40 (25, L, .int r :: st, M') o) : pj_Ends 40 (22, L, .int x1 :: .int x0 :: st, (N, S, H)) o := ec_s2 q40_22 (Or.inr rfl) h4 rfl h1 h2
theorem q40_25 : pj_row 40 25 = some (.istore_n 1, 1, 0, 0, 0) := by decide +kernel
theorem s40_25 {st : List Value} {M : pj_Mem} {l : pj_Loc} {a0 a1 : Option Value} {x : Int32} (h : pj_long a0 = false) : pj_step 40 (25, a0 :: a1 :: l, .int x :: st, M) = some (26, a0 :: some (.int x) :: l, st, M) := st_istore_n q40_25 (pj_st_1 h)
theorem q40_26 : pj_row 40 26 = some (.iinc 2 1, 3, 0, 0, 0) := by decide +kernel
theorem s40_26 {st : List Value} {M : pj_Mem} {l : pj_Loc} {a0 a1 : Option Value} {x : Int32} (h : pj_long a1 = false) : pj_step 40 (26, a0 :: a1 :: some (.int x) :: l, st, M) = some (29, a0 :: a1 :: some (.int (x + 1)) :: l, st, M) := st_iinc q40_26 rfl (congrArg (fun y => x + y) (show Int32.ofInt 1 = 1 by decide +kernel)) (pj_st_2 h)
theorem q40_29 : pj_row 40 29 = some (.goto (-25), 3, 4, 0, 0) := by decide +kernel
theorem s40_29 {L : pj_Loc} {st : List Value} {M : pj_Mem}  : pj_step 40 (29, L, st, M) = some (4, L, st, M) := st_goto q40_29
theorem q40_32 : pj_row 40 32 = some (.iload_n 1, 1, 0, 0, 0) := by decide +kernel
theorem s40_32 {st : List Value} {M : pj_Mem} {l : pj_Loc} {a0 : Option Value} {x : Int32} : pj_step 40 (32, a0 :: some (.int x) :: l, st, M) = some (33, a0 :: some (.int x) :: l, .int x :: st, M) := st_iload_n q40_32 rfl
theorem q40_33 : pj_row 40 33 = some (.ireturn, 1, 0, 0, 0) := by decide +kernel
theorem t40_33 {L : pj_Loc} {M : pj_Mem} {v : Int32} : pj_Ends 40 (33, L, [.int v], M) (some (.int v), M) := pj_Ends.ret q40_33 (pj_rtn_i rt40)
theorem rt41 : pj_rt 41 = some .int := rfl
theorem q41_0 : pj_row 41 0 = some (.aload_n 0, 1, 0, 0, 0) := by decide +kernel
theorem s41_0 {st : List Value} {M : pj_Mem} {l : pj_Loc} {x : Nat} : pj_step 41 (0, some (.ref x) :: l, st, M) = some (1, some (.ref x) :: l, .ref x :: st, M) := st_aload_n q41_0 rfl
theorem q41_1 : pj_row 41 1 = some (.invokevirtual 55, 3, 8, 1, 0) := by decide +kernel
theorem e41_1 {L : pj_Loc} {st : List Value} {N S : Nat} {H : pj_Heap} {o : Option Value × pj_Mem} {M' : pj_Mem} {x0 : Nat} (h4 : pj_le4 st = true) (hu : pj_isU 5 (H x0) = true) (h1 : pj_Ends 8 (0, [some (.ref x0), none, none], [], (N, S, H)) (none, M')) (h2 : pj_Ends 41 (4, L, st, M') o) : pj_Ends 41 (1, L, .ref x0 :: st, (N, S, H)) o := ec_v1 q41_1 (Or.inl rfl) h4 hu rfl h1 h2
theorem q41_4 : pj_row 41 4 = some (.aload_n 0, 1, 0, 0, 0) := by decide +kernel
theorem s41_4 {st : List Value} {M : pj_Mem} {l : pj_Loc} {x : Nat} : pj_step 41 (4, some (.ref x) :: l, st, M) = some (5, some (.ref x) :: l, .ref x :: st, M) := st_aload_n q41_4 rfl
theorem q41_5 : pj_row 41 5 = some (.getfield 10, 3, 5, 0, 0) := by decide +kernel
theorem s41_5 {L : pj_Loc} {st : List Value} {N S : Nat} {H : pj_Heap} {o : Nat} : pj_step 41 (5, L, .ref o :: st, (N, S, H)) = pj_pv 8 L st (N, S, H) (pj_fld (H o) 5 0) := st_getfield q41_5
theorem q41_8 : pj_row 41 8 = some (.invokevirtual 91, 3, 40, 1, 0) := by decide +kernel
theorem e41_8 {L : pj_Loc} {st : List Value} {N S : Nat} {H : pj_Heap} {o : Option Value × pj_Mem} {M' : pj_Mem} {x0 : Nat} {r : Int32} (h4 : pj_le4 st = true) (hu : pj_isU 4 (H x0) = true) (h1 : pj_Ends 40 (0, [some (.ref x0), none, none], [], (N, S, H)) (some (.int r), M')) (h2 : pj_Ends 41 (11, L, .int r :: st, M') o) : pj_Ends 41 (8, L, .ref x0 :: st, (N, S, H)) o := ec_v1 q41_8 (Or.inl rfl) h4 hu rfl h1 h2
theorem q41_11 : pj_row 41 11 = some (.invokestatic 107, 3, 30, 1, 0) := by decide +kernel
theorem e41_11 {L : pj_Loc} {st : List Value} {N S : Nat} {H : pj_Heap} {o : Option Value × pj_Mem} {M' : pj_Mem} {x0 : Int32} {r : Int32} (h4 : pj_le4 st = true) (h1 : pj_Ends 30 (0, [some (.int x0)], [], (N, S, H)) (some (.int r), M')) (h2 : pj_Ends 41 (14, L, .int r :: st, M') o) : pj_Ends 41 (11, L, .int x0 :: st, (N, S, H)) o := ec_s1 q41_11 (Or.inl rfl) h4 rfl h1 h2
theorem q41_14 : pj_row 41 14 = some (.istore_n 1, 1, 0, 0, 0) := by decide +kernel
theorem s41_14 {st : List Value} {M : pj_Mem} {l : pj_Loc} {a0 a1 : Option Value} {x : Int32} (h : pj_long a0 = false) : pj_step 41 (14, a0 :: a1 :: l, .int x :: st, M) = some (15, a0 :: some (.int x) :: l, st, M) := st_istore_n q41_14 (pj_st_1 h)
theorem q41_15 : pj_row 41 15 = some (.aload_n 0, 1, 0, 0, 0) := by decide +kernel
theorem s41_15 {st : List Value} {M : pj_Mem} {l : pj_Loc} {x : Nat} : pj_step 41 (15, some (.ref x) :: l, st, M) = some (16, some (.ref x) :: l, .ref x :: st, M) := st_aload_n q41_15 rfl
theorem q41_16 : pj_row 41 16 = some (.getfield 10, 3, 5, 0, 0) := by decide +kernel
theorem s41_16 {L : pj_Loc} {st : List Value} {N S : Nat} {H : pj_Heap} {o : Nat} : pj_step 41 (16, L, .ref o :: st, (N, S, H)) = pj_pv 19 L st (N, S, H) (pj_fld (H o) 5 0) := st_getfield q41_16
theorem q41_19 : pj_row 41 19 = some (.invokevirtual 113, 3, 42, 1, 0) := by decide +kernel
theorem e41_19 {L : pj_Loc} {st : List Value} {N S : Nat} {H : pj_Heap} {o : Option Value × pj_Mem} {M' : pj_Mem} {x0 : Nat} (h4 : pj_le4 st = true) (hu : pj_isU 4 (H x0) = true) (h1 : pj_Ends 42 (0, [some (.ref x0), none], [], (N, S, H)) (none, M')) (h2 : pj_Ends 41 (22, L, st, M') o) : pj_Ends 41 (19, L, .ref x0 :: st, (N, S, H)) o := ec_v1 q41_19 (Or.inl rfl) h4 hu rfl h1 h2
theorem q41_22 : pj_row 41 22 = some (.iload_n 1, 1, 0, 0, 0) := by decide +kernel
theorem s41_22 {st : List Value} {M : pj_Mem} {l : pj_Loc} {a0 : Option Value} {x : Int32} : pj_step 41 (22, a0 :: some (.int x) :: l, st, M) = some (23, a0 :: some (.int x) :: l, .int x :: st, M) := st_iload_n q41_22 rfl
theorem q41_23 : pj_row 41 23 = some (.ireturn, 1, 0, 0, 0) := by decide +kernel
theorem t41_23 {L : pj_Loc} {M : pj_Mem} {v : Int32} : pj_Ends 41 (23, L, [.int v], M) (some (.int v), M) := pj_Ends.ret q41_23 (pj_rtn_i rt41)
theorem rt42 : pj_rt 42 = none := rfl
theorem q42_0 : pj_row 42 0 = some (.iconst 0, 1, 0, 0, 0) := by decide +kernel
theorem s42_0 {L : pj_Loc} {st : List Value} {M : pj_Mem}  : pj_step 42 (0, L, st, M) = some (1, L, .int 0 :: st, M) := st_iconst q42_0 (by decide +kernel)
theorem q42_1 : pj_row 42 1 = some (.istore_n 1, 1, 0, 0, 0) := by decide +kernel
theorem s42_1 {st : List Value} {M : pj_Mem} {l : pj_Loc} {a0 a1 : Option Value} {x : Int32} (h : pj_long a0 = false) : pj_step 42 (1, a0 :: a1 :: l, .int x :: st, M) = some (2, a0 :: some (.int x) :: l, st, M) := st_istore_n q42_1 (pj_st_1 h)
theorem q42_2 : pj_row 42 2 = some (.iload_n 1, 1, 0, 0, 0) := by decide +kernel
theorem s42_2 {st : List Value} {M : pj_Mem} {l : pj_Loc} {a0 : Option Value} {x : Int32} : pj_step 42 (2, a0 :: some (.int x) :: l, st, M) = some (3, a0 :: some (.int x) :: l, .int x :: st, M) := st_iload_n q42_2 rfl
theorem q42_3 : pj_row 42 3 = some (.iconst 3, 1, 0, 0, 0) := by decide +kernel
theorem s42_3 {L : pj_Loc} {st : List Value} {M : pj_Mem}  : pj_step 42 (3, L, st, M) = some (4, L, .int 3 :: st, M) := st_iconst q42_3 (by decide +kernel)
theorem q42_4 : pj_row 42 4 = some (.if_icmp .ge 17, 3, 21, 0, 0) := by decide +kernel
theorem s42_4 {L : pj_Loc} {st : List Value} {M : pj_Mem} {x y : Int32} : pj_step 42 (4, L, .int y :: .int x :: st, M) = some (if y ≤ x then 21 else 7, L, st, M) := st_icmp_ge q42_4
theorem q42_7 : pj_row 42 7 = some (.aload_n 0, 1, 0, 0, 0) := by decide +kernel
theorem s42_7 {st : List Value} {M : pj_Mem} {l : pj_Loc} {x : Nat} : pj_step 42 (7, some (.ref x) :: l, st, M) = some (8, some (.ref x) :: l, .ref x :: st, M) := st_aload_n q42_7 rfl
theorem q42_8 : pj_row 42 8 = some (.getfield 27, 3, 4, 5, 0) := by decide +kernel
theorem s42_8 {L : pj_Loc} {st : List Value} {N S : Nat} {H : pj_Heap} {o : Nat} : pj_step 42 (8, L, .ref o :: st, (N, S, H)) = pj_pv 11 L st (N, S, H) (pj_fld (H o) 4 5) := st_getfield q42_8
theorem q42_11 : pj_row 42 11 = some (.iload_n 1, 1, 0, 0, 0) := by decide +kernel
theorem s42_11 {st : List Value} {M : pj_Mem} {l : pj_Loc} {a0 : Option Value} {x : Int32} : pj_step 42 (11, a0 :: some (.int x) :: l, st, M) = some (12, a0 :: some (.int x) :: l, .int x :: st, M) := st_iload_n q42_11 rfl
theorem q42_12 : pj_row 42 12 = some (.bipush (-6), 2, 0, 0, 0) := by decide +kernel
theorem s42_12 {L : pj_Loc} {st : List Value} {M : pj_Mem}  : pj_step 42 (12, L, st, M) = some (14, L, .int (-6) :: st, M) := st_bipush q42_12 (by decide +kernel)
theorem q42_14 : pj_row 42 14 = some (.iastore, 1, 0, 0, 0) := by decide +kernel
theorem s42_14 {L : pj_Loc} {st : List Value} {N S : Nat} {H : pj_Heap} {o : Nat} {i x : Int32} : pj_step 42 (14, L, .int x :: .int i :: .ref o :: st, (N, S, H)) = pj_set 15 L st (N, S, H) o (pj_ars (H o) 0 i x) := st_iastore q42_14
theorem q42_15 : pj_row 42 15 = some (.iinc 1 1, 3, 0, 0, 0) := by decide +kernel
theorem s42_15 {st : List Value} {M : pj_Mem} {l : pj_Loc} {a0 : Option Value} {x : Int32} (h : pj_long a0 = false) : pj_step 42 (15, a0 :: some (.int x) :: l, st, M) = some (18, a0 :: some (.int (x + 1)) :: l, st, M) := st_iinc q42_15 rfl (congrArg (fun y => x + y) (show Int32.ofInt 1 = 1 by decide +kernel)) (pj_st_1 h)
theorem q42_18 : pj_row 42 18 = some (.goto (-16), 3, 2, 0, 0) := by decide +kernel
theorem s42_18 {L : pj_Loc} {st : List Value} {M : pj_Mem}  : pj_step 42 (18, L, st, M) = some (2, L, st, M) := st_goto q42_18
theorem q42_21 : pj_row 42 21 = some (.iconst 0, 1, 0, 0, 0) := by decide +kernel
theorem s42_21 {L : pj_Loc} {st : List Value} {M : pj_Mem}  : pj_step 42 (21, L, st, M) = some (22, L, .int 0 :: st, M) := st_iconst q42_21 (by decide +kernel)
theorem q42_22 : pj_row 42 22 = some (.istore_n 1, 1, 0, 0, 0) := by decide +kernel
theorem s42_22 {st : List Value} {M : pj_Mem} {l : pj_Loc} {a0 a1 : Option Value} {x : Int32} (h : pj_long a0 = false) : pj_step 42 (22, a0 :: a1 :: l, .int x :: st, M) = some (23, a0 :: some (.int x) :: l, st, M) := st_istore_n q42_22 (pj_st_1 h)
theorem q42_23 : pj_row 42 23 = some (.iload_n 1, 1, 0, 0, 0) := by decide +kernel
theorem s42_23 {st : List Value} {M : pj_Mem} {l : pj_Loc} {a0 : Option Value} {x : Int32} : pj_step 42 (23, a0 :: some (.int x) :: l, st, M) = some (24, a0 :: some (.int x) :: l, .int x :: st, M) := st_iload_n q42_23 rfl
theorem q42_24 : pj_row 42 24 = some (.iconst 3, 1, 0, 0, 0) := by decide +kernel
theorem s42_24 {L : pj_Loc} {st : List Value} {M : pj_Mem}  : pj_step 42 (24, L, st, M) = some (25, L, .int 3 :: st, M) := st_iconst q42_24 (by decide +kernel)
theorem q42_25 : pj_row 42 25 = some (.if_icmp .ge 16, 3, 41, 0, 0) := by decide +kernel
theorem s42_25 {L : pj_Loc} {st : List Value} {M : pj_Mem} {x y : Int32} : pj_step 42 (25, L, .int y :: .int x :: st, M) = some (if y ≤ x then 41 else 28, L, st, M) := st_icmp_ge q42_25
theorem q42_28 : pj_row 42 28 = some (.aload_n 0, 1, 0, 0, 0) := by decide +kernel
theorem s42_28 {st : List Value} {M : pj_Mem} {l : pj_Loc} {x : Nat} : pj_step 42 (28, some (.ref x) :: l, st, M) = some (29, some (.ref x) :: l, .ref x :: st, M) := st_aload_n q42_28 rfl
theorem q42_29 : pj_row 42 29 = some (.getfield 18, 3, 4, 2, 0) := by decide +kernel
theorem s42_29 {L : pj_Loc} {st : List Value} {N S : Nat} {H : pj_Heap} {o : Nat} : pj_step 42 (29, L, .ref o :: st, (N, S, H)) = pj_pv 32 L st (N, S, H) (pj_fld (H o) 4 2) := st_getfield q42_29
theorem q42_32 : pj_row 42 32 = some (.iload_n 1, 1, 0, 0, 0) := by decide +kernel
theorem s42_32 {st : List Value} {M : pj_Mem} {l : pj_Loc} {a0 : Option Value} {x : Int32} : pj_step 42 (32, a0 :: some (.int x) :: l, st, M) = some (33, a0 :: some (.int x) :: l, .int x :: st, M) := st_iload_n q42_32 rfl
theorem q42_33 : pj_row 42 33 = some (.iconst 0, 1, 0, 0, 0) := by decide +kernel
theorem s42_33 {L : pj_Loc} {st : List Value} {M : pj_Mem}  : pj_step 42 (33, L, st, M) = some (34, L, .int 0 :: st, M) := st_iconst q42_33 (by decide +kernel)
theorem q42_34 : pj_row 42 34 = some (.iastore, 1, 0, 0, 0) := by decide +kernel
theorem s42_34 {L : pj_Loc} {st : List Value} {N S : Nat} {H : pj_Heap} {o : Nat} {i x : Int32} : pj_step 42 (34, L, .int x :: .int i :: .ref o :: st, (N, S, H)) = pj_set 35 L st (N, S, H) o (pj_ars (H o) 0 i x) := st_iastore q42_34
theorem q42_35 : pj_row 42 35 = some (.iinc 1 1, 3, 0, 0, 0) := by decide +kernel
theorem s42_35 {st : List Value} {M : pj_Mem} {l : pj_Loc} {a0 : Option Value} {x : Int32} (h : pj_long a0 = false) : pj_step 42 (35, a0 :: some (.int x) :: l, st, M) = some (38, a0 :: some (.int (x + 1)) :: l, st, M) := st_iinc q42_35 rfl (congrArg (fun y => x + y) (show Int32.ofInt 1 = 1 by decide +kernel)) (pj_st_1 h)
theorem q42_38 : pj_row 42 38 = some (.goto (-15), 3, 23, 0, 0) := by decide +kernel
theorem s42_38 {L : pj_Loc} {st : List Value} {M : pj_Mem}  : pj_step 42 (38, L, st, M) = some (23, L, st, M) := st_goto q42_38
theorem q42_41 : pj_row 42 41 = some (.aload_n 0, 1, 0, 0, 0) := by decide +kernel
theorem s42_41 {st : List Value} {M : pj_Mem} {l : pj_Loc} {x : Nat} : pj_step 42 (41, some (.ref x) :: l, st, M) = some (42, some (.ref x) :: l, .ref x :: st, M) := st_aload_n q42_41 rfl
theorem q42_42 : pj_row 42 42 = some (.iconst 0, 1, 0, 0, 0) := by decide +kernel
theorem s42_42 {L : pj_Loc} {st : List Value} {M : pj_Mem}  : pj_step 42 (42, L, st, M) = some (43, L, .int 0 :: st, M) := st_iconst q42_42 (by decide +kernel)
theorem q42_43 : pj_row 42 43 = some (.putfield 57, 3, 4, 9, 0) := by decide +kernel
theorem s42_43 {L : pj_Loc} {st : List Value} {N S : Nat} {H : pj_Heap} {o : Nat} {v : Value} : pj_step 42 (43, L, v :: .ref o :: st, (N, S, H)) = pj_set 46 L st (N, S, H) o (pj_fset (H o) 4 9 v) := st_putfield q42_43
theorem q42_46 : pj_row 42 46 = some (.aload_n 0, 1, 0, 0, 0) := by decide +kernel
theorem s42_46 {st : List Value} {M : pj_Mem} {l : pj_Loc} {x : Nat} : pj_step 42 (46, some (.ref x) :: l, st, M) = some (47, some (.ref x) :: l, .ref x :: st, M) := st_aload_n q42_46 rfl
theorem q42_47 : pj_row 42 47 = some (.getfield 33, 3, 4, 6, 0) := by decide +kernel
theorem s42_47 {L : pj_Loc} {st : List Value} {N S : Nat} {H : pj_Heap} {o : Nat} : pj_step 42 (47, L, .ref o :: st, (N, S, H)) = pj_pv 50 L st (N, S, H) (pj_fld (H o) 4 6) := st_getfield q42_47
theorem q42_50 : pj_row 42 50 = some (.invokevirtual 76, 3, 43, 1, 0) := by decide +kernel
theorem e42_50 {L : pj_Loc} {st : List Value} {N S : Nat} {H : pj_Heap} {o : Option Value × pj_Mem} {M' : pj_Mem} {x0 : Nat} (h4 : pj_le4 st = true) (hu : pj_isU 2 (H x0) = true) (h1 : pj_Ends 43 (0, [some (.ref x0)], [], (N, S, H)) (none, M')) (h2 : pj_Ends 42 (53, L, st, M') o) : pj_Ends 42 (50, L, .ref x0 :: st, (N, S, H)) o := ec_v1 q42_50 (Or.inl rfl) h4 hu rfl h1 h2
theorem q42_53 : pj_row 42 53 = some (.return_, 1, 0, 0, 0) := by decide +kernel
theorem t42_53 {L : pj_Loc} {M : pj_Mem} : pj_Ends 42 (53, L, [], M) (none, M) := pj_Ends.ret q42_53 (pj_rtn_v rt42)
theorem rt43 : pj_rt 43 = none := rfl
theorem q43_0 : pj_row 43 0 = some (.aload_n 0, 1, 0, 0, 0) := by decide +kernel
theorem s43_0 {st : List Value} {M : pj_Mem} {l : pj_Loc} {x : Nat} : pj_step 43 (0, some (.ref x) :: l, st, M) = some (1, some (.ref x) :: l, .ref x :: st, M) := st_aload_n q43_0 rfl
theorem q43_1 : pj_row 43 1 = some (.iconst 0, 1, 0, 0, 0) := by decide +kernel
theorem s43_1 {L : pj_Loc} {st : List Value} {M : pj_Mem}  : pj_step 43 (1, L, st, M) = some (2, L, .int 0 :: st, M) := st_iconst q43_1 (by decide +kernel)
theorem q43_2 : pj_row 43 2 = some (.putfield 25, 3, 2, 1, 0) := by decide +kernel
theorem s43_2 {L : pj_Loc} {st : List Value} {N S : Nat} {H : pj_Heap} {o : Nat} {v : Value} : pj_step 43 (2, L, v :: .ref o :: st, (N, S, H)) = pj_set 5 L st (N, S, H) o (pj_fset (H o) 2 1 v) := st_putfield q43_2
theorem q43_5 : pj_row 43 5 = some (.aload_n 0, 1, 0, 0, 0) := by decide +kernel
theorem s43_5 {st : List Value} {M : pj_Mem} {l : pj_Loc} {x : Nat} : pj_step 43 (5, some (.ref x) :: l, st, M) = some (6, some (.ref x) :: l, .ref x :: st, M) := st_aload_n q43_5 rfl
theorem q43_6 : pj_row 43 6 = some (.bipush (-6), 2, 0, 0, 0) := by decide +kernel
theorem s43_6 {L : pj_Loc} {st : List Value} {M : pj_Mem}  : pj_step 43 (6, L, st, M) = some (8, L, .int (-6) :: st, M) := st_bipush q43_6 (by decide +kernel)
theorem q43_8 : pj_row 43 8 = some (.putfield 15, 3, 2, 2, 0) := by decide +kernel
theorem s43_8 {L : pj_Loc} {st : List Value} {N S : Nat} {H : pj_Heap} {o : Nat} {v : Value} : pj_step 43 (8, L, v :: .ref o :: st, (N, S, H)) = pj_set 11 L st (N, S, H) o (pj_fset (H o) 2 2 v) := st_putfield q43_8
theorem q43_11 : pj_row 43 11 = some (.return_, 1, 0, 0, 0) := by decide +kernel
theorem t43_11 {L : pj_Loc} {M : pj_Mem} : pj_Ends 43 (11, L, [], M) (none, M) := pj_Ends.ret q43_11 (pj_rtn_v rt43)
theorem rt44 : pj_rt 44 = some .int := rfl
theorem q44_0 : pj_row 44 0 = some (.iload_n 1, 1, 0, 0, 0) := by decide +kernel
theorem s44_0 {st : List Value} {M : pj_Mem} {l : pj_Loc} {a0 : Option Value} {x : Int32} : pj_step 44 (0, a0 :: some (.int x) :: l, st, M) = some (1, a0 :: some (.int x) :: l, .int x :: st, M) := st_iload_n q44_0 rfl
theorem q44_1 : pj_row 44 1 = some (.ifCond .lt 8, 3, 9, 0, 0) := by decide +kernel
theorem s44_1 {L : pj_Loc} {st : List Value} {M : pj_Mem} {x : Int32} : pj_step 44 (1, L, .int x :: st, M) = some (if x < 0 then 9 else 4, L, st, M) := st_if_lt q44_1
theorem q44_4 : pj_row 44 4 = some (.iload_n 1, 1, 0, 0, 0) := by decide +kernel
theorem s44_4 {st : List Value} {M : pj_Mem} {l : pj_Loc} {a0 : Option Value} {x : Int32} : pj_step 44 (4, a0 :: some (.int x) :: l, st, M) = some (5, a0 :: some (.int x) :: l, .int x :: st, M) := st_iload_n q44_4 rfl
theorem q44_5 : pj_row 44 5 = some (.iconst 3, 1, 0, 0, 0) := by decide +kernel
theorem s44_5 {L : pj_Loc} {st : List Value} {M : pj_Mem}  : pj_step 44 (5, L, st, M) = some (6, L, .int 3 :: st, M) := st_iconst q44_5 (by decide +kernel)
theorem q44_6 : pj_row 44 6 = some (.if_icmp .lt 5, 3, 11, 0, 0) := by decide +kernel
theorem s44_6 {L : pj_Loc} {st : List Value} {M : pj_Mem} {x y : Int32} : pj_step 44 (6, L, .int y :: .int x :: st, M) = some (if x < y then 11 else 9, L, st, M) := st_icmp_lt q44_6
theorem q44_9 : pj_row 44 9 = some (.iconst (-1), 1, 0, 0, 0) := by decide +kernel
theorem s44_9 {L : pj_Loc} {st : List Value} {M : pj_Mem}  : pj_step 44 (9, L, st, M) = some (10, L, .int (-1) :: st, M) := st_iconst q44_9 (by decide +kernel)
theorem q44_10 : pj_row 44 10 = some (.ireturn, 1, 0, 0, 0) := by decide +kernel
theorem t44_10 {L : pj_Loc} {M : pj_Mem} {v : Int32} : pj_Ends 44 (10, L, [.int v], M) (some (.int v), M) := pj_Ends.ret q44_10 (pj_rtn_i rt44)
theorem q44_11 : pj_row 44 11 = some (.iload_n 2, 1, 0, 0, 0) := by decide +kernel
theorem s44_11 {st : List Value} {M : pj_Mem} {l : pj_Loc} {a0 a1 : Option Value} {x : Int32} : pj_step 44 (11, a0 :: a1 :: some (.int x) :: l, st, M) = some (12, a0 :: a1 :: some (.int x) :: l, .int x :: st, M) := st_iload_n q44_11 rfl
theorem q44_12 : pj_row 44 12 = some (.tableswitch 115 0 4 #[36, 49, 62, 77, 87], 36, 0, 0, 0) := by decide +kernel
theorem s44_12 {L : pj_Loc} {st : List Value} {M : pj_Mem} {x : Int32} : pj_step 44 (12, L, .int x :: st, M) = some (if x = 0 then 48 else if x = 1 then 61 else if x = 2 then 74 else if x = 3 then 89 else if x = 4 then 99 else 127, L, st, M) := by
  rw [st_tsw q44_12]
  unfold pj_tsw
  by_cases hr : x.toInt < 0 ∨ 4 < x.toInt
  · simp only
    rw [if_pos hr]
    rw [if_neg (show ¬ x = 0 from fun e => by rw [e] at hr; revert hr; decide)]
    rw [if_neg (show ¬ x = 1 from fun e => by rw [e] at hr; revert hr; decide)]
    rw [if_neg (show ¬ x = 2 from fun e => by rw [e] at hr; revert hr; decide)]
    rw [if_neg (show ¬ x = 3 from fun e => by rw [e] at hr; revert hr; decide)]
    rw [if_neg (show ¬ x = 4 from fun e => by rw [e] at hr; revert hr; decide)]
    rfl
  · have h3 : x.toInt = 0 ∨ x.toInt = 1 ∨ x.toInt = 2 ∨ x.toInt = 3 ∨ x.toInt = 4 := by omega
    rcases h3 with h3 | h3 | h3 | h3 | h3
    · have e : x = 0 := Int32.toInt_inj.mp (h3.trans (by decide))
      subst e
      rfl
    · have e : x = 1 := Int32.toInt_inj.mp (h3.trans (by decide))
      subst e
      rfl
    · have e : x = 2 := Int32.toInt_inj.mp (h3.trans (by decide))
      subst e
      rfl
    · have e : x = 3 := Int32.toInt_inj.mp (h3.trans (by decide))
      subst e
      rfl
    · have e : x = 4 := Int32.toInt_inj.mp (h3.trans (by decide))
      subst e
      rfl
theorem q44_48 : pj_row 44 48 = some (.aload_n 0, 1, 0, 0, 0) := by decide +kernel
theorem s44_48 {st : List Value} {M : pj_Mem} {l : pj_Loc} {x : Nat} : pj_step 44 (48, some (.ref x) :: l, st, M) = some (49, some (.ref x) :: l, .ref x :: st, M) := st_aload_n q44_48 rfl
theorem q44_49 : pj_row 44 49 = some (.getfield 10, 3, 5, 0, 0) := by decide +kernel
theorem s44_49 {L : pj_Loc} {st : List Value} {N S : Nat} {H : pj_Heap} {o : Nat} : pj_step 44 (49, L, .ref o :: st, (N, S, H)) = pj_pv 52 L st (N, S, H) (pj_fld (H o) 5 0) := st_getfield q44_49
theorem q44_52 : pj_row 44 52 = some (.getfield 98, 3, 4, 1, 0) := by decide +kernel
theorem s44_52 {L : pj_Loc} {st : List Value} {N S : Nat} {H : pj_Heap} {o : Nat} : pj_step 44 (52, L, .ref o :: st, (N, S, H)) = pj_pv 55 L st (N, S, H) (pj_fld (H o) 4 1) := st_getfield q44_52
theorem q44_55 : pj_row 44 55 = some (.iload_n 1, 1, 0, 0, 0) := by decide +kernel
theorem s44_55 {st : List Value} {M : pj_Mem} {l : pj_Loc} {a0 : Option Value} {x : Int32} : pj_step 44 (55, a0 :: some (.int x) :: l, st, M) = some (56, a0 :: some (.int x) :: l, .int x :: st, M) := st_iload_n q44_55 rfl
theorem q44_56 : pj_row 44 56 = some (.iaload, 1, 0, 0, 0) := by decide +kernel
theorem s44_56 {L : pj_Loc} {st : List Value} {N S : Nat} {H : pj_Heap} {o : Nat} {i : Int32} : pj_step 44 (56, L, .int i :: .ref o :: st, (N, S, H)) = pj_pi 57 L st (N, S, H) (pj_arl (H o) 0 i) := st_iaload q44_56
theorem q44_57 : pj_row 44 57 = some (.ldc 69, 2, 0, 0, 100000) := by decide +kernel
theorem s44_57 {L : pj_Loc} {st : List Value} {M : pj_Mem}  : pj_step 44 (57, L, st, M) = some (59, L, .int 100000 :: st, M) := st_ldc q44_57 (by decide +kernel)
theorem q44_59 : pj_row 44 59 = some (.iadd, 1, 0, 0, 0) := by decide +kernel
theorem s44_59 {L : pj_Loc} {st : List Value} {M : pj_Mem} {x y : Int32} : pj_step 44 (59, L, .int y :: .int x :: st, M) = some (60, L, .int (x + y) :: st, M) := st_iadd q44_59
theorem q44_60 : pj_row 44 60 = some (.ireturn, 1, 0, 0, 0) := by decide +kernel
theorem t44_60 {L : pj_Loc} {M : pj_Mem} {v : Int32} : pj_Ends 44 (60, L, [.int v], M) (some (.int v), M) := pj_Ends.ret q44_60 (pj_rtn_i rt44)
theorem q44_61 : pj_row 44 61 = some (.aload_n 0, 1, 0, 0, 0) := by decide +kernel
theorem s44_61 {st : List Value} {M : pj_Mem} {l : pj_Loc} {x : Nat} : pj_step 44 (61, some (.ref x) :: l, st, M) = some (62, some (.ref x) :: l, .ref x :: st, M) := st_aload_n q44_61 rfl
theorem q44_62 : pj_row 44 62 = some (.getfield 10, 3, 5, 0, 0) := by decide +kernel
theorem s44_62 {L : pj_Loc} {st : List Value} {N S : Nat} {H : pj_Heap} {o : Nat} : pj_step 44 (62, L, .ref o :: st, (N, S, H)) = pj_pv 65 L st (N, S, H) (pj_fld (H o) 5 0) := st_getfield q44_62
theorem q44_65 : pj_row 44 65 = some (.getfield 101, 3, 4, 2, 0) := by decide +kernel
theorem s44_65 {L : pj_Loc} {st : List Value} {N S : Nat} {H : pj_Heap} {o : Nat} : pj_step 44 (65, L, .ref o :: st, (N, S, H)) = pj_pv 68 L st (N, S, H) (pj_fld (H o) 4 2) := st_getfield q44_65
theorem q44_68 : pj_row 44 68 = some (.iload_n 1, 1, 0, 0, 0) := by decide +kernel
theorem s44_68 {st : List Value} {M : pj_Mem} {l : pj_Loc} {a0 : Option Value} {x : Int32} : pj_step 44 (68, a0 :: some (.int x) :: l, st, M) = some (69, a0 :: some (.int x) :: l, .int x :: st, M) := st_iload_n q44_68 rfl
theorem q44_69 : pj_row 44 69 = some (.iaload, 1, 0, 0, 0) := by decide +kernel
theorem s44_69 {L : pj_Loc} {st : List Value} {N S : Nat} {H : pj_Heap} {o : Nat} {i : Int32} : pj_step 44 (69, L, .int i :: .ref o :: st, (N, S, H)) = pj_pi 70 L st (N, S, H) (pj_arl (H o) 0 i) := st_iaload q44_69
theorem q44_70 : pj_row 44 70 = some (.ldc 69, 2, 0, 0, 100000) := by decide +kernel
theorem s44_70 {L : pj_Loc} {st : List Value} {M : pj_Mem}  : pj_step 44 (70, L, st, M) = some (72, L, .int 100000 :: st, M) := st_ldc q44_70 (by decide +kernel)
theorem q44_72 : pj_row 44 72 = some (.iadd, 1, 0, 0, 0) := by decide +kernel
theorem s44_72 {L : pj_Loc} {st : List Value} {M : pj_Mem} {x y : Int32} : pj_step 44 (72, L, .int y :: .int x :: st, M) = some (73, L, .int (x + y) :: st, M) := st_iadd q44_72
theorem q44_73 : pj_row 44 73 = some (.ireturn, 1, 0, 0, 0) := by decide +kernel
theorem t44_73 {L : pj_Loc} {M : pj_Mem} {v : Int32} : pj_Ends 44 (73, L, [.int v], M) (some (.int v), M) := pj_Ends.ret q44_73 (pj_rtn_i rt44)
theorem q44_74 : pj_row 44 74 = some (.aload_n 0, 1, 0, 0, 0) := by decide +kernel
theorem s44_74 {st : List Value} {M : pj_Mem} {l : pj_Loc} {x : Nat} : pj_step 44 (74, some (.ref x) :: l, st, M) = some (75, some (.ref x) :: l, .ref x :: st, M) := st_aload_n q44_74 rfl
theorem q44_75 : pj_row 44 75 = some (.getfield 10, 3, 5, 0, 0) := by decide +kernel
theorem s44_75 {L : pj_Loc} {st : List Value} {N S : Nat} {H : pj_Heap} {o : Nat} : pj_step 44 (75, L, .ref o :: st, (N, S, H)) = pj_pv 78 L st (N, S, H) (pj_fld (H o) 5 0) := st_getfield q44_75
theorem q44_78 : pj_row 44 78 = some (.getfield 95, 3, 4, 7, 0) := by decide +kernel
theorem s44_78 {L : pj_Loc} {st : List Value} {N S : Nat} {H : pj_Heap} {o : Nat} : pj_step 44 (78, L, .ref o :: st, (N, S, H)) = pj_pv 81 L st (N, S, H) (pj_fld (H o) 4 7) := st_getfield q44_78
theorem q44_81 : pj_row 44 81 = some (.iload_n 1, 1, 0, 0, 0) := by decide +kernel
theorem s44_81 {st : List Value} {M : pj_Mem} {l : pj_Loc} {a0 : Option Value} {x : Int32} : pj_step 44 (81, a0 :: some (.int x) :: l, st, M) = some (82, a0 :: some (.int x) :: l, .int x :: st, M) := st_iload_n q44_81 rfl
theorem q44_82 : pj_row 44 82 = some (.invokestatic 77, 3, 21, 2, 0) := by decide +kernel
theorem e44_82 {L : pj_Loc} {st : List Value} {N S : Nat} {H : pj_Heap} {o : Option Value × pj_Mem} {M' : pj_Mem} {x0 : Int32} {x1 : Int32} {r : Int32} (h4 : pj_le4 st = true) (h1 : pj_Ends 21 (0, [some (.int x0), some (.int x1)], [], (N, S, H)) (some (.int r), M')) (h2 : pj_Ends 44 (85, L, .int r :: st, M') o) : pj_Ends 44 (82, L, .int x1 :: .int x0 :: st, (N, S, H)) o := ec_s2 q44_82 (Or.inl rfl) h4 rfl h1 h2
theorem q44_85 : pj_row 44 85 = some (.invokestatic 116, 3, 37, 1, 0) := by decide +kernel
theorem e44_85 {L : pj_Loc} {st : List Value} {N S : Nat} {H : pj_Heap} {o : Option Value × pj_Mem} {M' : pj_Mem} {x0 : Int32} {r : Int32} (h4 : pj_le4 st = true) (h1 : pj_Ends 37 (0, [some (.int x0)], [], (N, S, H)) (some (.int r), M')) (h2 : pj_Ends 44 (88, L, .int r :: st, M') o) : pj_Ends 44 (85, L, .int x0 :: st, (N, S, H)) o := ec_s1 q44_85 (Or.inl rfl) h4 rfl h1 h2
theorem q44_88 : pj_row 44 88 = some (.ireturn, 1, 0, 0, 0) := by decide +kernel
theorem t44_88 {L : pj_Loc} {M : pj_Mem} {v : Int32} : pj_Ends 44 (88, L, [.int v], M) (some (.int v), M) := pj_Ends.ret q44_88 (pj_rtn_i rt44)
theorem q44_89 : pj_row 44 89 = some (.aload_n 0, 1, 0, 0, 0) := by decide +kernel
theorem s44_89 {st : List Value} {M : pj_Mem} {l : pj_Loc} {x : Nat} : pj_step 44 (89, some (.ref x) :: l, st, M) = some (90, some (.ref x) :: l, .ref x :: st, M) := st_aload_n q44_89 rfl
theorem q44_90 : pj_row 44 90 = some (.getfield 10, 3, 5, 0, 0) := by decide +kernel
theorem s44_90 {L : pj_Loc} {st : List Value} {N S : Nat} {H : pj_Heap} {o : Nat} : pj_step 44 (90, L, .ref o :: st, (N, S, H)) = pj_pv 93 L st (N, S, H) (pj_fld (H o) 5 0) := st_getfield q44_90
theorem q44_93 : pj_row 44 93 = some (.getfield 104, 3, 4, 3, 0) := by decide +kernel
theorem s44_93 {L : pj_Loc} {st : List Value} {N S : Nat} {H : pj_Heap} {o : Nat} : pj_step 44 (93, L, .ref o :: st, (N, S, H)) = pj_pv 96 L st (N, S, H) (pj_fld (H o) 4 3) := st_getfield q44_93
theorem q44_96 : pj_row 44 96 = some (.iload_n 1, 1, 0, 0, 0) := by decide +kernel
theorem s44_96 {st : List Value} {M : pj_Mem} {l : pj_Loc} {a0 : Option Value} {x : Int32} : pj_step 44 (96, a0 :: some (.int x) :: l, st, M) = some (97, a0 :: some (.int x) :: l, .int x :: st, M) := st_iload_n q44_96 rfl
theorem q44_97 : pj_row 44 97 = some (.iaload, 1, 0, 0, 0) := by decide +kernel
theorem s44_97 {L : pj_Loc} {st : List Value} {N S : Nat} {H : pj_Heap} {o : Nat} {i : Int32} : pj_step 44 (97, L, .int i :: .ref o :: st, (N, S, H)) = pj_pi 98 L st (N, S, H) (pj_arl (H o) 0 i) := st_iaload q44_97
theorem q44_98 : pj_row 44 98 = some (.ireturn, 1, 0, 0, 0) := by decide +kernel
theorem t44_98 {L : pj_Loc} {M : pj_Mem} {v : Int32} : pj_Ends 44 (98, L, [.int v], M) (some (.int v), M) := pj_Ends.ret q44_98 (pj_rtn_i rt44)
theorem q44_99 : pj_row 44 99 = some (.aload_n 0, 1, 0, 0, 0) := by decide +kernel
theorem s44_99 {st : List Value} {M : pj_Mem} {l : pj_Loc} {x : Nat} : pj_step 44 (99, some (.ref x) :: l, st, M) = some (100, some (.ref x) :: l, .ref x :: st, M) := st_aload_n q44_99 rfl
theorem q44_100 : pj_row 44 100 = some (.getfield 10, 3, 5, 0, 0) := by decide +kernel
theorem s44_100 {L : pj_Loc} {st : List Value} {N S : Nat} {H : pj_Heap} {o : Nat} : pj_step 44 (100, L, .ref o :: st, (N, S, H)) = pj_pv 103 L st (N, S, H) (pj_fld (H o) 5 0) := st_getfield q44_100
theorem q44_103 : pj_row 44 103 = some (.getfield 65, 3, 4, 10, 0) := by decide +kernel
theorem s44_103 {L : pj_Loc} {st : List Value} {N S : Nat} {H : pj_Heap} {o : Nat} : pj_step 44 (103, L, .ref o :: st, (N, S, H)) = pj_pv 106 L st (N, S, H) (pj_fld (H o) 4 10) := st_getfield q44_103
theorem q44_106 : pj_row 44 106 = some (.ifCond .ne 8, 3, 114, 0, 0) := by decide +kernel
theorem s44_106 {L : pj_Loc} {st : List Value} {M : pj_Mem} {x : Int32} : pj_step 44 (106, L, .int x :: st, M) = some (if ¬ x = 0 then 114 else 109, L, st, M) := st_if_ne q44_106
theorem q44_109 : pj_row 44 109 = some (.bipush (-6), 2, 0, 0, 0) := by decide +kernel
theorem s44_109 {L : pj_Loc} {st : List Value} {M : pj_Mem}  : pj_step 44 (109, L, st, M) = some (111, L, .int (-6) :: st, M) := st_bipush q44_109 (by decide +kernel)
theorem q44_111 : pj_row 44 111 = some (.goto 15, 3, 126, 0, 0) := by decide +kernel
theorem s44_111 {L : pj_Loc} {st : List Value} {M : pj_Mem}  : pj_step 44 (111, L, st, M) = some (126, L, st, M) := st_goto q44_111
theorem q44_114 : pj_row 44 114 = some (.aload_n 0, 1, 0, 0, 0) := by decide +kernel
theorem s44_114 {st : List Value} {M : pj_Mem} {l : pj_Loc} {x : Nat} : pj_step 44 (114, some (.ref x) :: l, st, M) = some (115, some (.ref x) :: l, .ref x :: st, M) := st_aload_n q44_114 rfl
theorem q44_115 : pj_row 44 115 = some (.getfield 10, 3, 5, 0, 0) := by decide +kernel
theorem s44_115 {L : pj_Loc} {st : List Value} {N S : Nat} {H : pj_Heap} {o : Nat} : pj_step 44 (115, L, .ref o :: st, (N, S, H)) = pj_pv 118 L st (N, S, H) (pj_fld (H o) 5 0) := st_getfield q44_115
theorem q44_118 : pj_row 44 118 = some (.getfield 120, 3, 4, 4, 0) := by decide +kernel
theorem s44_118 {L : pj_Loc} {st : List Value} {N S : Nat} {H : pj_Heap} {o : Nat} : pj_step 44 (118, L, .ref o :: st, (N, S, H)) = pj_pv 121 L st (N, S, H) (pj_fld (H o) 4 4) := st_getfield q44_118
theorem q44_121 : pj_row 44 121 = some (.iload_n 1, 1, 0, 0, 0) := by decide +kernel
theorem s44_121 {st : List Value} {M : pj_Mem} {l : pj_Loc} {a0 : Option Value} {x : Int32} : pj_step 44 (121, a0 :: some (.int x) :: l, st, M) = some (122, a0 :: some (.int x) :: l, .int x :: st, M) := st_iload_n q44_121 rfl
theorem q44_122 : pj_row 44 122 = some (.iaload, 1, 0, 0, 0) := by decide +kernel
theorem s44_122 {L : pj_Loc} {st : List Value} {N S : Nat} {H : pj_Heap} {o : Nat} {i : Int32} : pj_step 44 (122, L, .int i :: .ref o :: st, (N, S, H)) = pj_pi 123 L st (N, S, H) (pj_arl (H o) 0 i) := st_iaload q44_122
theorem q44_123 : pj_row 44 123 = some (.ldc 69, 2, 0, 0, 100000) := by decide +kernel
theorem s44_123 {L : pj_Loc} {st : List Value} {M : pj_Mem}  : pj_step 44 (123, L, st, M) = some (125, L, .int 100000 :: st, M) := st_ldc q44_123 (by decide +kernel)
theorem q44_125 : pj_row 44 125 = some (.iadd, 1, 0, 0, 0) := by decide +kernel
theorem s44_125 {L : pj_Loc} {st : List Value} {M : pj_Mem} {x y : Int32} : pj_step 44 (125, L, .int y :: .int x :: st, M) = some (126, L, .int (x + y) :: st, M) := st_iadd q44_125
theorem q44_126 : pj_row 44 126 = some (.ireturn, 1, 0, 0, 0) := by decide +kernel
theorem t44_126 {L : pj_Loc} {M : pj_Mem} {v : Int32} : pj_Ends 44 (126, L, [.int v], M) (some (.int v), M) := pj_Ends.ret q44_126 (pj_rtn_i rt44)
theorem q44_127 : pj_row 44 127 = some (.bipush (-2), 2, 0, 0, 0) := by decide +kernel
theorem s44_127 {L : pj_Loc} {st : List Value} {M : pj_Mem}  : pj_step 44 (127, L, st, M) = some (129, L, .int (-2) :: st, M) := st_bipush q44_127 (by decide +kernel)
theorem q44_129 : pj_row 44 129 = some (.ireturn, 1, 0, 0, 0) := by decide +kernel
theorem t44_129 {L : pj_Loc} {M : pj_Mem} {v : Int32} : pj_Ends 44 (129, L, [.int v], M) (some (.int v), M) := pj_Ends.ret q44_129 (pj_rtn_i rt44)
theorem rt45 : pj_rt 45 = some .int := rfl
theorem q45_0 : pj_row 45 0 = some (.iload_n 1, 1, 0, 0, 0) := by decide +kernel
theorem s45_0 {st : List Value} {M : pj_Mem} {l : pj_Loc} {a0 : Option Value} {x : Int32} : pj_step 45 (0, a0 :: some (.int x) :: l, st, M) = some (1, a0 :: some (.int x) :: l, .int x :: st, M) := st_iload_n q45_0 rfl
theorem q45_1 : pj_row 45 1 = some (.ifCond .lt 8, 3, 9, 0, 0) := by decide +kernel
theorem s45_1 {L : pj_Loc} {st : List Value} {M : pj_Mem} {x : Int32} : pj_step 45 (1, L, .int x :: st, M) = some (if x < 0 then 9 else 4, L, st, M) := st_if_lt q45_1
theorem q45_4 : pj_row 45 4 = some (.iload_n 1, 1, 0, 0, 0) := by decide +kernel
theorem s45_4 {st : List Value} {M : pj_Mem} {l : pj_Loc} {a0 : Option Value} {x : Int32} : pj_step 45 (4, a0 :: some (.int x) :: l, st, M) = some (5, a0 :: some (.int x) :: l, .int x :: st, M) := st_iload_n q45_4 rfl
theorem q45_5 : pj_row 45 5 = some (.iconst 3, 1, 0, 0, 0) := by decide +kernel
theorem s45_5 {L : pj_Loc} {st : List Value} {M : pj_Mem}  : pj_step 45 (5, L, st, M) = some (6, L, .int 3 :: st, M) := st_iconst q45_5 (by decide +kernel)
theorem q45_6 : pj_row 45 6 = some (.if_icmp .lt 5, 3, 11, 0, 0) := by decide +kernel
theorem s45_6 {L : pj_Loc} {st : List Value} {M : pj_Mem} {x y : Int32} : pj_step 45 (6, L, .int y :: .int x :: st, M) = some (if x < y then 11 else 9, L, st, M) := st_icmp_lt q45_6
theorem q45_9 : pj_row 45 9 = some (.iconst (-1), 1, 0, 0, 0) := by decide +kernel
theorem s45_9 {L : pj_Loc} {st : List Value} {M : pj_Mem}  : pj_step 45 (9, L, st, M) = some (10, L, .int (-1) :: st, M) := st_iconst q45_9 (by decide +kernel)
theorem q45_10 : pj_row 45 10 = some (.ireturn, 1, 0, 0, 0) := by decide +kernel
theorem t45_10 {L : pj_Loc} {M : pj_Mem} {v : Int32} : pj_Ends 45 (10, L, [.int v], M) (some (.int v), M) := pj_Ends.ret q45_10 (pj_rtn_i rt45)
theorem q45_11 : pj_row 45 11 = some (.iload_n 2, 1, 0, 0, 0) := by decide +kernel
theorem s45_11 {st : List Value} {M : pj_Mem} {l : pj_Loc} {a0 a1 : Option Value} {x : Int32} : pj_step 45 (11, a0 :: a1 :: some (.int x) :: l, st, M) = some (12, a0 :: a1 :: some (.int x) :: l, .int x :: st, M) := st_iload_n q45_11 rfl
theorem q45_12 : pj_row 45 12 = some (.lookupswitch 53 #[(0, 28), (1, 38)], 28, 0, 0, 0) := by decide +kernel
theorem s45_12 {L : pj_Loc} {st : List Value} {M : pj_Mem} {x : Int32} : pj_step 45 (12, L, .int x :: st, M) = some (if x = 0 then 40 else if x = 1 then 50 else 65, L, st, M) := by
  rw [st_lsw q45_12]
  unfold pj_lsw
  by_cases h0 : x = 0
  · subst h0; rfl
  by_cases h1 : x = 1
  · subst h1; rfl
  rw [if_neg h0, if_neg h1]
  simp only
  rw [lv_osw h0 (by decide), lv_osw h1 (by decide)]
  rfl
theorem q45_40 : pj_row 45 40 = some (.aload_n 0, 1, 0, 0, 0) := by decide +kernel
theorem s45_40 {st : List Value} {M : pj_Mem} {l : pj_Loc} {x : Nat} : pj_step 45 (40, some (.ref x) :: l, st, M) = some (41, some (.ref x) :: l, .ref x :: st, M) := st_aload_n q45_40 rfl
theorem q45_41 : pj_row 45 41 = some (.getfield 10, 3, 5, 0, 0) := by decide +kernel
theorem s45_41 {L : pj_Loc} {st : List Value} {N S : Nat} {H : pj_Heap} {o : Nat} : pj_step 45 (41, L, .ref o :: st, (N, S, H)) = pj_pv 44 L st (N, S, H) (pj_fld (H o) 5 0) := st_getfield q45_41
theorem q45_44 : pj_row 45 44 = some (.getfield 81, 3, 4, 5, 0) := by decide +kernel
theorem s45_44 {L : pj_Loc} {st : List Value} {N S : Nat} {H : pj_Heap} {o : Nat} : pj_step 45 (44, L, .ref o :: st, (N, S, H)) = pj_pv 47 L st (N, S, H) (pj_fld (H o) 4 5) := st_getfield q45_44
theorem q45_47 : pj_row 45 47 = some (.iload_n 1, 1, 0, 0, 0) := by decide +kernel
theorem s45_47 {st : List Value} {M : pj_Mem} {l : pj_Loc} {a0 : Option Value} {x : Int32} : pj_step 45 (47, a0 :: some (.int x) :: l, st, M) = some (48, a0 :: some (.int x) :: l, .int x :: st, M) := st_iload_n q45_47 rfl
theorem q45_48 : pj_row 45 48 = some (.iaload, 1, 0, 0, 0) := by decide +kernel
theorem s45_48 {L : pj_Loc} {st : List Value} {N S : Nat} {H : pj_Heap} {o : Nat} {i : Int32} : pj_step 45 (48, L, .int i :: .ref o :: st, (N, S, H)) = pj_pi 49 L st (N, S, H) (pj_arl (H o) 0 i) := st_iaload q45_48
theorem q45_49 : pj_row 45 49 = some (.ireturn, 1, 0, 0, 0) := by decide +kernel
theorem t45_49 {L : pj_Loc} {M : pj_Mem} {v : Int32} : pj_Ends 45 (49, L, [.int v], M) (some (.int v), M) := pj_Ends.ret q45_49 (pj_rtn_i rt45)
theorem q45_50 : pj_row 45 50 = some (.aload_n 0, 1, 0, 0, 0) := by decide +kernel
theorem s45_50 {st : List Value} {M : pj_Mem} {l : pj_Loc} {x : Nat} : pj_step 45 (50, some (.ref x) :: l, st, M) = some (51, some (.ref x) :: l, .ref x :: st, M) := st_aload_n q45_50 rfl
theorem q45_51 : pj_row 45 51 = some (.getfield 10, 3, 5, 0, 0) := by decide +kernel
theorem s45_51 {L : pj_Loc} {st : List Value} {N S : Nat} {H : pj_Heap} {o : Nat} : pj_step 45 (51, L, .ref o :: st, (N, S, H)) = pj_pv 54 L st (N, S, H) (pj_fld (H o) 5 0) := st_getfield q45_51
theorem q45_54 : pj_row 45 54 = some (.getfield 74, 3, 4, 8, 0) := by decide +kernel
theorem s45_54 {L : pj_Loc} {st : List Value} {N S : Nat} {H : pj_Heap} {o : Nat} : pj_step 45 (54, L, .ref o :: st, (N, S, H)) = pj_pv 57 L st (N, S, H) (pj_fld (H o) 4 8) := st_getfield q45_54
theorem q45_57 : pj_row 45 57 = some (.iload_n 1, 1, 0, 0, 0) := by decide +kernel
theorem s45_57 {st : List Value} {M : pj_Mem} {l : pj_Loc} {a0 : Option Value} {x : Int32} : pj_step 45 (57, a0 :: some (.int x) :: l, st, M) = some (58, a0 :: some (.int x) :: l, .int x :: st, M) := st_iload_n q45_57 rfl
theorem q45_58 : pj_row 45 58 = some (.invokestatic 77, 3, 21, 2, 0) := by decide +kernel
theorem e45_58 {L : pj_Loc} {st : List Value} {N S : Nat} {H : pj_Heap} {o : Option Value × pj_Mem} {M' : pj_Mem} {x0 : Int32} {x1 : Int32} {r : Int32} (h4 : pj_le4 st = true) (h1 : pj_Ends 21 (0, [some (.int x0), some (.int x1)], [], (N, S, H)) (some (.int r), M')) (h2 : pj_Ends 45 (61, L, .int r :: st, M') o) : pj_Ends 45 (58, L, .int x1 :: .int x0 :: st, (N, S, H)) o := ec_s2 q45_58 (Or.inl rfl) h4 rfl h1 h2
theorem q45_61 : pj_row 45 61 = some (.invokestatic 116, 3, 37, 1, 0) := by decide +kernel
theorem e45_61 {L : pj_Loc} {st : List Value} {N S : Nat} {H : pj_Heap} {o : Option Value × pj_Mem} {M' : pj_Mem} {x0 : Int32} {r : Int32} (h4 : pj_le4 st = true) (h1 : pj_Ends 37 (0, [some (.int x0)], [], (N, S, H)) (some (.int r), M')) (h2 : pj_Ends 45 (64, L, .int r :: st, M') o) : pj_Ends 45 (61, L, .int x0 :: st, (N, S, H)) o := ec_s1 q45_61 (Or.inl rfl) h4 rfl h1 h2
theorem q45_64 : pj_row 45 64 = some (.ireturn, 1, 0, 0, 0) := by decide +kernel
theorem t45_64 {L : pj_Loc} {M : pj_Mem} {v : Int32} : pj_Ends 45 (64, L, [.int v], M) (some (.int v), M) := pj_Ends.ret q45_64 (pj_rtn_i rt45)
theorem q45_65 : pj_row 45 65 = some (.bipush (-2), 2, 0, 0, 0) := by decide +kernel
theorem s45_65 {L : pj_Loc} {st : List Value} {M : pj_Mem}  : pj_step 45 (65, L, st, M) = some (67, L, .int (-2) :: st, M) := st_bipush q45_65 (by decide +kernel)
theorem q45_67 : pj_row 45 67 = some (.ireturn, 1, 0, 0, 0) := by decide +kernel
theorem t45_67 {L : pj_Loc} {M : pj_Mem} {v : Int32} : pj_Ends 45 (67, L, [.int v], M) (some (.int v), M) := pj_Ends.ret q45_67 (pj_rtn_i rt45)
theorem rt46 : pj_rt 46 = some .int := rfl
theorem q46_0 : pj_row 46 0 = some (.iload_n 1, 1, 0, 0, 0) := by decide +kernel
theorem s46_0 {st : List Value} {M : pj_Mem} {l : pj_Loc} {a0 : Option Value} {x : Int32} : pj_step 46 (0, a0 :: some (.int x) :: l, st, M) = some (1, a0 :: some (.int x) :: l, .int x :: st, M) := st_iload_n q46_0 rfl
theorem q46_1 : pj_row 46 1 = some (.ifCond .lt 17, 3, 18, 0, 0) := by decide +kernel
theorem s46_1 {L : pj_Loc} {st : List Value} {M : pj_Mem} {x : Int32} : pj_step 46 (1, L, .int x :: st, M) = some (if x < 0 then 18 else 4, L, st, M) := st_if_lt q46_1
theorem q46_4 : pj_row 46 4 = some (.iload_n 1, 1, 0, 0, 0) := by decide +kernel
theorem s46_4 {st : List Value} {M : pj_Mem} {l : pj_Loc} {a0 : Option Value} {x : Int32} : pj_step 46 (4, a0 :: some (.int x) :: l, st, M) = some (5, a0 :: some (.int x) :: l, .int x :: st, M) := st_iload_n q46_4 rfl
theorem q46_5 : pj_row 46 5 = some (.aload_n 0, 1, 0, 0, 0) := by decide +kernel
theorem s46_5 {st : List Value} {M : pj_Mem} {l : pj_Loc} {x : Nat} : pj_step 46 (5, some (.ref x) :: l, st, M) = some (6, some (.ref x) :: l, .ref x :: st, M) := st_aload_n q46_5 rfl
theorem q46_6 : pj_row 46 6 = some (.getfield 10, 3, 5, 0, 0) := by decide +kernel
theorem s46_6 {L : pj_Loc} {st : List Value} {N S : Nat} {H : pj_Heap} {o : Nat} : pj_step 46 (6, L, .ref o :: st, (N, S, H)) = pj_pv 9 L st (N, S, H) (pj_fld (H o) 5 0) := st_getfield q46_6
theorem q46_9 : pj_row 46 9 = some (.getfield 123, 3, 4, 6, 0) := by decide +kernel
theorem s46_9 {L : pj_Loc} {st : List Value} {N S : Nat} {H : pj_Heap} {o : Nat} : pj_step 46 (9, L, .ref o :: st, (N, S, H)) = pj_pv 12 L st (N, S, H) (pj_fld (H o) 4 6) := st_getfield q46_9
theorem q46_12 : pj_row 46 12 = some (.getfield 127, 3, 2, 1, 0) := by decide +kernel
theorem s46_12 {L : pj_Loc} {st : List Value} {N S : Nat} {H : pj_Heap} {o : Nat} : pj_step 46 (12, L, .ref o :: st, (N, S, H)) = pj_pv 15 L st (N, S, H) (pj_fld (H o) 2 1) := st_getfield q46_12
theorem q46_15 : pj_row 46 15 = some (.if_icmp .lt 5, 3, 20, 0, 0) := by decide +kernel
theorem s46_15 {L : pj_Loc} {st : List Value} {M : pj_Mem} {x y : Int32} : pj_step 46 (15, L, .int y :: .int x :: st, M) = some (if x < y then 20 else 18, L, st, M) := st_icmp_lt q46_15
theorem q46_18 : pj_row 46 18 = some (.iconst (-1), 1, 0, 0, 0) := by decide +kernel
theorem s46_18 {L : pj_Loc} {st : List Value} {M : pj_Mem}  : pj_step 46 (18, L, st, M) = some (19, L, .int (-1) :: st, M) := st_iconst q46_18 (by decide +kernel)
theorem q46_19 : pj_row 46 19 = some (.ireturn, 1, 0, 0, 0) := by decide +kernel
theorem t46_19 {L : pj_Loc} {M : pj_Mem} {v : Int32} : pj_Ends 46 (19, L, [.int v], M) (some (.int v), M) := pj_Ends.ret q46_19 (pj_rtn_i rt46)
theorem q46_20 : pj_row 46 20 = some (.iload_n 2, 1, 0, 0, 0) := by decide +kernel
theorem s46_20 {st : List Value} {M : pj_Mem} {l : pj_Loc} {a0 a1 : Option Value} {x : Int32} : pj_step 46 (20, a0 :: a1 :: some (.int x) :: l, st, M) = some (21, a0 :: a1 :: some (.int x) :: l, .int x :: st, M) := st_iload_n q46_20 rfl
theorem q46_21 : pj_row 46 21 = some (.ifCond .lt 9, 3, 30, 0, 0) := by decide +kernel
theorem s46_21 {L : pj_Loc} {st : List Value} {M : pj_Mem} {x : Int32} : pj_step 46 (21, L, .int x :: st, M) = some (if x < 0 then 30 else 24, L, st, M) := st_if_lt q46_21
theorem q46_24 : pj_row 46 24 = some (.iload_n 2, 1, 0, 0, 0) := by decide +kernel
theorem s46_24 {st : List Value} {M : pj_Mem} {l : pj_Loc} {a0 a1 : Option Value} {x : Int32} : pj_step 46 (24, a0 :: a1 :: some (.int x) :: l, st, M) = some (25, a0 :: a1 :: some (.int x) :: l, .int x :: st, M) := st_iload_n q46_24 rfl
theorem q46_25 : pj_row 46 25 = some (.bipush 10, 2, 0, 0, 0) := by decide +kernel
theorem s46_25 {L : pj_Loc} {st : List Value} {M : pj_Mem}  : pj_step 46 (25, L, st, M) = some (27, L, .int 10 :: st, M) := st_bipush q46_25 (by decide +kernel)
theorem q46_27 : pj_row 46 27 = some (.if_icmp .lt 6, 3, 33, 0, 0) := by decide +kernel
theorem s46_27 {L : pj_Loc} {st : List Value} {M : pj_Mem} {x y : Int32} : pj_step 46 (27, L, .int y :: .int x :: st, M) = some (if x < y then 33 else 30, L, st, M) := st_icmp_lt q46_27
theorem q46_30 : pj_row 46 30 = some (.bipush (-2), 2, 0, 0, 0) := by decide +kernel
theorem s46_30 {L : pj_Loc} {st : List Value} {M : pj_Mem}  : pj_step 46 (30, L, st, M) = some (32, L, .int (-2) :: st, M) := st_bipush q46_30 (by decide +kernel)
theorem q46_32 : pj_row 46 32 = some (.ireturn, 1, 0, 0, 0) := by decide +kernel
theorem t46_32 {L : pj_Loc} {M : pj_Mem} {v : Int32} : pj_Ends 46 (32, L, [.int v], M) (some (.int v), M) := pj_Ends.ret q46_32 (pj_rtn_i rt46)
theorem q46_33 : pj_row 46 33 = some (.aload_n 0, 1, 0, 0, 0) := by decide +kernel
theorem s46_33 {st : List Value} {M : pj_Mem} {l : pj_Loc} {x : Nat} : pj_step 46 (33, some (.ref x) :: l, st, M) = some (34, some (.ref x) :: l, .ref x :: st, M) := st_aload_n q46_33 rfl
theorem q46_34 : pj_row 46 34 = some (.getfield 10, 3, 5, 0, 0) := by decide +kernel
theorem s46_34 {L : pj_Loc} {st : List Value} {N S : Nat} {H : pj_Heap} {o : Nat} : pj_step 46 (34, L, .ref o :: st, (N, S, H)) = pj_pv 37 L st (N, S, H) (pj_fld (H o) 5 0) := st_getfield q46_34
theorem q46_37 : pj_row 46 37 = some (.getfield 123, 3, 4, 6, 0) := by decide +kernel
theorem s46_37 {L : pj_Loc} {st : List Value} {N S : Nat} {H : pj_Heap} {o : Nat} : pj_step 46 (37, L, .ref o :: st, (N, S, H)) = pj_pv 40 L st (N, S, H) (pj_fld (H o) 4 6) := st_getfield q46_37
theorem q46_40 : pj_row 46 40 = some (.getfield 132, 3, 2, 0, 0) := by decide +kernel
theorem s46_40 {L : pj_Loc} {st : List Value} {N S : Nat} {H : pj_Heap} {o : Nat} : pj_step 46 (40, L, .ref o :: st, (N, S, H)) = pj_pv 43 L st (N, S, H) (pj_fld (H o) 2 0) := st_getfield q46_40
theorem q46_43 : pj_row 46 43 = some (.iload_n 1, 1, 0, 0, 0) := by decide +kernel
theorem s46_43 {st : List Value} {M : pj_Mem} {l : pj_Loc} {a0 : Option Value} {x : Int32} : pj_step 46 (43, a0 :: some (.int x) :: l, st, M) = some (44, a0 :: some (.int x) :: l, .int x :: st, M) := st_iload_n q46_43 rfl
theorem q46_44 : pj_row 46 44 = some (.bipush 10, 2, 0, 0, 0) := by decide +kernel
theorem s46_44 {L : pj_Loc} {st : List Value} {M : pj_Mem}  : pj_step 46 (44, L, st, M) = some (46, L, .int 10 :: st, M) := st_bipush q46_44 (by decide +kernel)
theorem q46_46 : pj_row 46 46 = some (.imul, 1, 0, 0, 0) := by decide +kernel
theorem s46_46 {L : pj_Loc} {st : List Value} {M : pj_Mem} {x y : Int32} : pj_step 46 (46, L, .int y :: .int x :: st, M) = some (47, L, .int (x * y) :: st, M) := st_imul q46_46
theorem q46_47 : pj_row 46 47 = some (.iload_n 2, 1, 0, 0, 0) := by decide +kernel
theorem s46_47 {st : List Value} {M : pj_Mem} {l : pj_Loc} {a0 a1 : Option Value} {x : Int32} : pj_step 46 (47, a0 :: a1 :: some (.int x) :: l, st, M) = some (48, a0 :: a1 :: some (.int x) :: l, .int x :: st, M) := st_iload_n q46_47 rfl
theorem q46_48 : pj_row 46 48 = some (.iadd, 1, 0, 0, 0) := by decide +kernel
theorem s46_48 {L : pj_Loc} {st : List Value} {M : pj_Mem} {x y : Int32} : pj_step 46 (48, L, .int y :: .int x :: st, M) = some (49, L, .int (x + y) :: st, M) := st_iadd q46_48
theorem q46_49 : pj_row 46 49 = some (.iaload, 1, 0, 0, 0) := by decide +kernel
theorem s46_49 {L : pj_Loc} {st : List Value} {N S : Nat} {H : pj_Heap} {o : Nat} {i : Int32} : pj_step 46 (49, L, .int i :: .ref o :: st, (N, S, H)) = pj_pi 50 L st (N, S, H) (pj_arl (H o) 0 i) := st_iaload q46_49
theorem q46_50 : pj_row 46 50 = some (.ireturn, 1, 0, 0, 0) := by decide +kernel
theorem t46_50 {L : pj_Loc} {M : pj_Mem} {v : Int32} : pj_Ends 46 (50, L, [.int v], M) (some (.int v), M) := pj_Ends.ret q46_50 (pj_rtn_i rt46)
