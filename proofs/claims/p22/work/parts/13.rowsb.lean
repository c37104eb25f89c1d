/-! THE STEPS OF EACH METHOD, by program (wip/whole/gen/gen12.py) -/
theorem rt25 : pj_rt 25 = some .int := rfl
theorem q25_0 : pj_row 25 0 = some (.iconst 0, 1, 0, 0, 0) := by decide +kernel
theorem s25_0 {L : pj_Loc} {st : List Value} {M : pj_Mem}  : pj_step 25 (0, L, st, M) = some (1, L, .int 0 :: st, M) := st_iconst q25_0 (by decide +kernel)
theorem x25_0 {L : pj_Loc} {st : List Value} {M : pj_Mem}  {o9 : Option Value × pj_Mem} : pj_Ends 25 (0, L, st, M) o9 = pj_Ends 25 (1, L, .int 0 :: st, M) o9 := pj_xs (s25_0)
theorem q25_1 : pj_row 25 1 = some (.istore_n 2, 1, 0, 0, 0) := by decide +kernel
theorem s25_1 {st : List Value} {M : pj_Mem} {l : pj_Loc} {a0 a1 a2 : Option Value} {x : Int32} (h : pj_long a1 = false) : pj_step 25 (1, a0 :: a1 :: a2 :: l, .int x :: st, M) = some (2, a0 :: a1 :: some (.int x) :: l, st, M) := st_istore_n q25_1 (pj_st_2 h)
theorem x25_1 {st : List Value} {M : pj_Mem} {l : pj_Loc} {a0 a1 a2 : Option Value} {x : Int32} (h : pj_long a1 = false) {o9 : Option Value × pj_Mem} : pj_Ends 25 (1, a0 :: a1 :: a2 :: l, .int x :: st, M) o9 = pj_Ends 25 (2, a0 :: a1 :: some (.int x) :: l, st, M) o9 := pj_xs (s25_1 h)
theorem q25_2 : pj_row 25 2 = some (.iconst 0, 1, 0, 0, 0) := by decide +kernel
theorem s25_2 {L : pj_Loc} {st : List Value} {M : pj_Mem}  : pj_step 25 (2, L, st, M) = some (3, L, .int 0 :: st, M) := st_iconst q25_2 (by decide +kernel)
theorem x25_2 {L : pj_Loc} {st : List Value} {M : pj_Mem}  {o9 : Option Value × pj_Mem} : pj_Ends 25 (2, L, st, M) o9 = pj_Ends 25 (3, L, .int 0 :: st, M) o9 := pj_xs (s25_2)
theorem q25_3 : pj_row 25 3 = some (.istore_n 3, 1, 0, 0, 0) := by decide +kernel
theorem s25_3 {st : List Value} {M : pj_Mem} {l : pj_Loc} {a0 a1 a2 a3 : Option Value} {x : Int32} (h : pj_long a2 = false) : pj_step 25 (3, a0 :: a1 :: a2 :: a3 :: l, .int x :: st, M) = some (4, a0 :: a1 :: a2 :: some (.int x) :: l, st, M) := st_istore_n q25_3 (pj_st_3 h)
theorem x25_3 {st : List Value} {M : pj_Mem} {l : pj_Loc} {a0 a1 a2 a3 : Option Value} {x : Int32} (h : pj_long a2 = false) {o9 : Option Value × pj_Mem} : pj_Ends 25 (3, a0 :: a1 :: a2 :: a3 :: l, .int x :: st, M) o9 = pj_Ends 25 (4, a0 :: a1 :: a2 :: some (.int x) :: l, st, M) o9 := pj_xs (s25_3 h)
theorem q25_4 : pj_row 25 4 = some (.iload_n 3, 1, 0, 0, 0) := by decide +kernel
theorem s25_4 {st : List Value} {M : pj_Mem} {l : pj_Loc} {a0 a1 a2 : Option Value} {x : Int32} : pj_step 25 (4, a0 :: a1 :: a2 :: some (.int x) :: l, st, M) = some (5, a0 :: a1 :: a2 :: some (.int x) :: l, .int x :: st, M) := st_iload_n q25_4 rfl
theorem x25_4 {st : List Value} {M : pj_Mem} {l : pj_Loc} {a0 a1 a2 : Option Value} {x : Int32} {o9 : Option Value × pj_Mem} : pj_Ends 25 (4, a0 :: a1 :: a2 :: some (.int x) :: l, st, M) o9 = pj_Ends 25 (5, a0 :: a1 :: a2 :: some (.int x) :: l, .int x :: st, M) o9 := pj_xs (s25_4)
theorem q25_5 : pj_row 25 5 = some (.iconst 3, 1, 0, 0, 0) := by decide +kernel
theorem s25_5 {L : pj_Loc} {st : List Value} {M : pj_Mem}  : pj_step 25 (5, L, st, M) = some (6, L, .int 3 :: st, M) := st_iconst q25_5 (by decide +kernel)
theorem x25_5 {L : pj_Loc} {st : List Value} {M : pj_Mem}  {o9 : Option Value × pj_Mem} : pj_Ends 25 (5, L, st, M) o9 = pj_Ends 25 (6, L, .int 3 :: st, M) o9 := pj_xs (s25_5)
theorem q25_6 : pj_row 25 6 = some (.if_icmp .ge 36, 3, 42, 0, 0) := by decide +kernel
theorem s25_6 {L : pj_Loc} {st : List Value} {M : pj_Mem} {x y : Int32} : pj_step 25 (6, L, .int y :: .int x :: st, M) = some (if y ≤ x then 42 else 9, L, st, M) := st_icmp_ge q25_6
theorem x25_6 {L : pj_Loc} {st : List Value} {M : pj_Mem} {x y : Int32} {o9 : Option Value × pj_Mem} : pj_Ends 25 (6, L, .int y :: .int x :: st, M) o9 = pj_Ends 25 (if y ≤ x then 42 else 9, L, st, M) o9 := pj_xs (s25_6)
theorem q25_9 : pj_row 25 9 = some (.aload_n 0, 1, 0, 0, 0) := by decide +kernel
theorem s25_9 {st : List Value} {M : pj_Mem} {l : pj_Loc} {x : Nat} : pj_step 25 (9, some (.ref x) :: l, st, M) = some (10, some (.ref x) :: l, .ref x :: st, M) := st_aload_n q25_9 rfl
theorem x25_9 {st : List Value} {M : pj_Mem} {l : pj_Loc} {x : Nat} {o9 : Option Value × pj_Mem} : pj_Ends 25 (9, some (.ref x) :: l, st, M) o9 = pj_Ends 25 (10, some (.ref x) :: l, .ref x :: st, M) o9 := pj_xs (s25_9)
theorem q25_10 : pj_row 25 10 = some (.getfield 89, 3, 3, 8, 0) := by decide +kernel
theorem s25_10 {L : pj_Loc} {st : List Value} {N S : Nat} {H : pj_Heap} {o : Nat} : pj_step 25 (10, L, .ref o :: st, (N, S, H)) = pj_pv 13 L st (N, S, H) (pj_fld (H o) 3 8) := st_getfield q25_10
theorem x25_10 {L : pj_Loc} {st : List Value} {N S : Nat} {H : pj_Heap} {o : Nat} {o9 : Option Value × pj_Mem} : pj_Ends 25 (10, L, .ref o :: st, (N, S, H)) o9 = pj_then 25 o9 (pj_pv 13 L st (N, S, H) (pj_fld (H o) 3 8)) := pj_xt q25_10 rfl (pj_cl_nc rfl) (s25_10)
theorem q25_13 : pj_row 25 13 = some (.iload_n 3, 1, 0, 0, 0) := by decide +kernel
theorem s25_13 {st : List Value} {M : pj_Mem} {l : pj_Loc} {a0 a1 a2 : Option Value} {x : Int32} : pj_step 25 (13, a0 :: a1 :: a2 :: some (.int x) :: l, st, M) = some (14, a0 :: a1 :: a2 :: some (.int x) :: l, .int x :: st, M) := st_iload_n q25_13 rfl
theorem x25_13 {st : List Value} {M : pj_Mem} {l : pj_Loc} {a0 a1 a2 : Option Value} {x : Int32} {o9 : Option Value × pj_Mem} : pj_Ends 25 (13, a0 :: a1 :: a2 :: some (.int x) :: l, st, M) o9 = pj_Ends 25 (14, a0 :: a1 :: a2 :: some (.int x) :: l, .int x :: st, M) o9 := pj_xs (s25_13)
theorem q25_14 : pj_row 25 14 = some (.invokestatic 109, 3, 8, 2, 1) := by decide +kernel
theorem e25_14 {L : pj_Loc} {st : List Value} {N S : Nat} {H : pj_Heap} {o : Option Value × pj_Mem} {M' : pj_Mem} {x0 : Int32} {x1 : Int32} {r : Int32} (h4 : pj_le4 st = true) (h1 : pj_Ends 8 (0, [some (.int x0), some (.int x1)], [], (N, S, H)) (some (.int r), M')) (h2 : pj_Ends 25 (17, L, .int r :: st, M') o) : pj_Ends 25 (14, L, .int x1 :: .int x0 :: st, (N, S, H)) o := ec_s2 q25_14 (Or.inr rfl) h4 rfl h1 h2
theorem q25_17 : pj_row 25 17 = some (.ifCond .eq 19, 3, 36, 0, 0) := by decide +kernel
theorem s25_17 {L : pj_Loc} {st : List Value} {M : pj_Mem} {x : Int32} : pj_step 25 (17, L, .int x :: st, M) = some (if x = 0 then 36 else 20, L, st, M) := st_if_eq q25_17
theorem x25_17 {L : pj_Loc} {st : List Value} {M : pj_Mem} {x : Int32} {o9 : Option Value × pj_Mem} : pj_Ends 25 (17, L, .int x :: st, M) o9 = pj_Ends 25 (if x = 0 then 36 else 20, L, st, M) o9 := pj_xs (s25_17)
theorem q25_20 : pj_row 25 20 = some (.aload_n 0, 1, 0, 0, 0) := by decide +kernel
theorem s25_20 {st : List Value} {M : pj_Mem} {l : pj_Loc} {x : Nat} : pj_step 25 (20, some (.ref x) :: l, st, M) = some (21, some (.ref x) :: l, .ref x :: st, M) := st_aload_n q25_20 rfl
theorem x25_20 {st : List Value} {M : pj_Mem} {l : pj_Loc} {x : Nat} {o9 : Option Value × pj_Mem} : pj_Ends 25 (20, some (.ref x) :: l, st, M) o9 = pj_Ends 25 (21, some (.ref x) :: l, .ref x :: st, M) o9 := pj_xs (s25_20)
theorem q25_21 : pj_row 25 21 = some (.getfield 21, 3, 3, 3, 0) := by decide +kernel
theorem s25_21 {L : pj_Loc} {st : List Value} {N S : Nat} {H : pj_Heap} {o : Nat} : pj_step 25 (21, L, .ref o :: st, (N, S, H)) = pj_pv 24 L st (N, S, H) (pj_fld (H o) 3 3) := st_getfield q25_21
theorem x25_21 {L : pj_Loc} {st : List Value} {N S : Nat} {H : pj_Heap} {o : Nat} {o9 : Option Value × pj_Mem} : pj_Ends 25 (21, L, .ref o :: st, (N, S, H)) o9 = pj_then 25 o9 (pj_pv 24 L st (N, S, H) (pj_fld (H o) 3 3)) := pj_xt q25_21 rfl (pj_cl_nc rfl) (s25_21)
theorem q25_24 : pj_row 25 24 = some (.iload_n 3, 1, 0, 0, 0) := by decide +kernel
theorem s25_24 {st : List Value} {M : pj_Mem} {l : pj_Loc} {a0 a1 a2 : Option Value} {x : Int32} : pj_step 25 (24, a0 :: a1 :: a2 :: some (.int x) :: l, st, M) = some (25, a0 :: a1 :: a2 :: some (.int x) :: l, .int x :: st, M) := st_iload_n q25_24 rfl
theorem x25_24 {st : List Value} {M : pj_Mem} {l : pj_Loc} {a0 a1 a2 : Option Value} {x : Int32} {o9 : Option Value × pj_Mem} : pj_Ends 25 (24, a0 :: a1 :: a2 :: some (.int x) :: l, st, M) o9 = pj_Ends 25 (25, a0 :: a1 :: a2 :: some (.int x) :: l, .int x :: st, M) o9 := pj_xs (s25_24)
theorem q25_25 : pj_row 25 25 = some (.iaload, 1, 0, 0, 0) := by decide +kernel
theorem s25_25 {L : pj_Loc} {st : List Value} {N S : Nat} {H : pj_Heap} {o : Nat} {i : Int32} : pj_step 25 (25, L, .int i :: .ref o :: st, (N, S, H)) = pj_pi 26 L st (N, S, H) (pj_arl (H o) 0 i) := st_iaload q25_25
theorem x25_25 {L : pj_Loc} {st : List Value} {N S : Nat} {H : pj_Heap} {o : Nat} {i : Int32} {o9 : Option Value × pj_Mem} : pj_Ends 25 (25, L, .int i :: .ref o :: st, (N, S, H)) o9 = pj_then 25 o9 (pj_pi 26 L st (N, S, H) (pj_arl (H o) 0 i)) := pj_xt q25_25 rfl (pj_cl_nc rfl) (s25_25)
theorem q25_26 : pj_row 25 26 = some (.iload_n 1, 1, 0, 0, 0) := by decide +kernel
theorem s25_26 {st : List Value} {M : pj_Mem} {l : pj_Loc} {a0 : Option Value} {x : Int32} : pj_step 25 (26, a0 :: some (.int x) :: l, st, M) = some (27, a0 :: some (.int x) :: l, .int x :: st, M) := st_iload_n q25_26 rfl
theorem x25_26 {st : List Value} {M : pj_Mem} {l : pj_Loc} {a0 : Option Value} {x : Int32} {o9 : Option Value × pj_Mem} : pj_Ends 25 (26, a0 :: some (.int x) :: l, st, M) o9 = pj_Ends 25 (27, a0 :: some (.int x) :: l, .int x :: st, M) o9 := pj_xs (s25_26)
theorem q25_27 : pj_row 25 27 = some (.if_icmp .lt 9, 3, 36, 0, 0) := by decide +kernel
theorem s25_27 {L : pj_Loc} {st : List Value} {M : pj_Mem} {x y : Int32} : pj_step 25 (27, L, .int y :: .int x :: st, M) = some (if x < y then 36 else 30, L, st, M) := st_icmp_lt q25_27
theorem x25_27 {L : pj_Loc} {st : List Value} {M : pj_Mem} {x y : Int32} {o9 : Option Value × pj_Mem} : pj_Ends 25 (27, L, .int y :: .int x :: st, M) o9 = pj_Ends 25 (if x < y then 36 else 30, L, st, M) o9 := pj_xs (s25_27)
theorem q25_30 : pj_row 25 30 = some (.iload_n 2, 1, 0, 0, 0) := by decide +kernel
theorem s25_30 {st : List Value} {M : pj_Mem} {l : pj_Loc} {a0 a1 : Option Value} {x : Int32} : pj_step 25 (30, a0 :: a1 :: some (.int x) :: l, st, M) = some (31, a0 :: a1 :: some (.int x) :: l, .int x :: st, M) := st_iload_n q25_30 rfl
theorem x25_30 {st : List Value} {M : pj_Mem} {l : pj_Loc} {a0 a1 : Option Value} {x : Int32} {o9 : Option Value × pj_Mem} : pj_Ends 25 (30, a0 :: a1 :: some (.int x) :: l, st, M) o9 = pj_Ends 25 (31, a0 :: a1 :: some (.int x) :: l, .int x :: st, M) o9 := pj_xs (s25_30)
theorem q25_31 : pj_row 25 31 = some (.iload_n 3, 1, 0, 0, 0) := by decide +kernel
theorem s25_31 {st : List Value} {M : pj_Mem} {l : pj_Loc} {a0 a1 a2 : Option Value} {x : Int32} : pj_step 25 (31, a0 :: a1 :: a2 :: some (.int x) :: l, st, M) = some (32, a0 :: a1 :: a2 :: some (.int x) :: l, .int x :: st, M) := st_iload_n q25_31 rfl
theorem x25_31 {st : List Value} {M : pj_Mem} {l : pj_Loc} {a0 a1 a2 : Option Value} {x : Int32} {o9 : Option Value × pj_Mem} : pj_Ends 25 (31, a0 :: a1 :: a2 :: some (.int x) :: l, st, M) o9 = pj_Ends 25 (32, a0 :: a1 :: a2 :: some (.int x) :: l, .int x :: st, M) o9 := pj_xs (s25_31)
theorem q25_32 : pj_row 25 32 = some (.invokestatic 120, 3, 12, 2, 1) := by decide +kernel
theorem e25_32 {L : pj_Loc} {st : List Value} {N S : Nat} {H : pj_Heap} {o : Option Value × pj_Mem} {M' : pj_Mem} {x0 : Int32} {x1 : Int32} {r : Int32} (h4 : pj_le4 st = true) (h1 : pj_Ends 12 (0, [some (.int x0), some (.int x1)], [], (N, S, H)) (some (.int r), M')) (h2 : pj_Ends 25 (35, L, .int r :: st, M') o) : pj_Ends 25 (32, L, .int x1 :: .int x0 :: st, (N, S, H)) o := ec_s2 q25_32 (Or.inr rfl) h4 rfl h1 h2
theorem q25_35 : pj_row 25 35 = some (.istore_n 2, 1, 0, 0, 0) := by decide +kernel
theorem s25_35 {st : List Value} {M : pj_Mem} {l : pj_Loc} {a0 a1 a2 : Option Value} {x : Int32} (h : pj_long a1 = false) : pj_step 25 (35, a0 :: a1 :: a2 :: l, .int x :: st, M) = some (36, a0 :: a1 :: some (.int x) :: l, st, M) := st_istore_n q25_35 (pj_st_2 h)
theorem x25_35 {st : List Value} {M : pj_Mem} {l : pj_Loc} {a0 a1 a2 : Option Value} {x : Int32} (h : pj_long a1 = false) {o9 : Option Value × pj_Mem} : pj_Ends 25 (35, a0 :: a1 :: a2 :: l, .int x :: st, M) o9 = pj_Ends 25 (36, a0 :: a1 :: some (.int x) :: l, st, M) o9 := pj_xs (s25_35 h)
theorem q25_36 : pj_row 25 36 = some (.iinc 3 1, 3, 0, 0, 0) := by decide +kernel
theorem s25_36 {st : List Value} {M : pj_Mem} {l : pj_Loc} {a0 a1 a2 : Option Value} {x : Int32} (h : pj_long a2 = false) : pj_step 25 (36, a0 :: a1 :: a2 :: some (.int x) :: l, st, M) = some (39, a0 :: a1 :: a2 :: some (.int (x + 1)) :: l, st, M) := st_iinc q25_36 rfl (congrArg (fun y => x + y) (show Int32.ofInt 1 = 1 by decide +kernel)) (pj_st_3 h)
theorem x25_36 {st : List Value} {M : pj_Mem} {l : pj_Loc} {a0 a1 a2 : Option Value} {x : Int32} (h : pj_long a2 = false) {o9 : Option Value × pj_Mem} : pj_Ends 25 (36, a0 :: a1 :: a2 :: some (.int x) :: l, st, M) o9 = pj_Ends 25 (39, a0 :: a1 :: a2 :: some (.int (x + 1)) :: l, st, M) o9 := pj_xs (s25_36 h)
theorem q25_39 : pj_row 25 39 = some (.goto (-35), 3, 4, 0, 0) := by decide +kernel
theorem s25_39 {L : pj_Loc} {st : List Value} {M : pj_Mem}  : pj_step 25 (39, L, st, M) = some (4, L, st, M) := st_goto q25_39
theorem x25_39 {L : pj_Loc} {st : List Value} {M : pj_Mem}  {o9 : Option Value × pj_Mem} : pj_Ends 25 (39, L, st, M) o9 = pj_Ends 25 (4, L, st, M) o9 := pj_xs (s25_39)
theorem q25_42 : pj_row 25 42 = some (.iload_n 2, 1, 0, 0, 0) := by decide +kernel
theorem s25_42 {st : List Value} {M : pj_Mem} {l : pj_Loc} {a0 a1 : Option Value} {x : Int32} : pj_step 25 (42, a0 :: a1 :: some (.int x) :: l, st, M) = some (43, a0 :: a1 :: some (.int x) :: l, .int x :: st, M) := st_iload_n q25_42 rfl
theorem x25_42 {st : List Value} {M : pj_Mem} {l : pj_Loc} {a0 a1 : Option Value} {x : Int32} {o9 : Option Value × pj_Mem} : pj_Ends 25 (42, a0 :: a1 :: some (.int x) :: l, st, M) o9 = pj_Ends 25 (43, a0 :: a1 :: some (.int x) :: l, .int x :: st, M) o9 := pj_xs (s25_42)
theorem q25_43 : pj_row 25 43 = some (.ireturn, 1, 0, 0, 0) := by decide +kernel
theorem t25_43 {L : pj_Loc} {M : pj_Mem} {v : Int32} : pj_Ends 25 (43, L, [.int v], M) (some (.int v), M) := pj_Ends.ret q25_43 (pj_rtn_i rt25)
theorem rt26 : pj_rt 26 = none := rfl
theorem q26_0 : pj_row 26 0 = some (.aload_n 1, 1, 0, 0, 0) := by decide +kernel
theorem s26_0 {st : List Value} {M : pj_Mem} {l : pj_Loc} {a0 : Option Value} {x : Nat} : pj_step 26 (0, a0 :: some (.ref x) :: l, st, M) = some (1, a0 :: some (.ref x) :: l, .ref x :: st, M) := st_aload_n q26_0 rfl
theorem x26_0 {st : List Value} {M : pj_Mem} {l : pj_Loc} {a0 : Option Value} {x : Nat} {o9 : Option Value × pj_Mem} : pj_Ends 26 (0, a0 :: some (.ref x) :: l, st, M) o9 = pj_Ends 26 (1, a0 :: some (.ref x) :: l, .ref x :: st, M) o9 := pj_xs (s26_0)
theorem q26_1 : pj_row 26 1 = some (.getfield 123, 3, 4, 5, 0) := by decide +kernel
theorem s26_1 {L : pj_Loc} {st : List Value} {N S : Nat} {H : pj_Heap} {o : Nat} : pj_step 26 (1, L, .ref o :: st, (N, S, H)) = pj_pv 4 L st (N, S, H) (pj_fld (H o) 4 5) := st_getfield q26_1
theorem x26_1 {L : pj_Loc} {st : List Value} {N S : Nat} {H : pj_Heap} {o : Nat} {o9 : Option Value × pj_Mem} : pj_Ends 26 (1, L, .ref o :: st, (N, S, H)) o9 = pj_then 26 o9 (pj_pv 4 L st (N, S, H) (pj_fld (H o) 4 5)) := pj_xt q26_1 rfl (pj_cl_nc rfl) (s26_1)
theorem q26_4 : pj_row 26 4 = some (.iconst 0, 1, 0, 0, 0) := by decide +kernel
theorem s26_4 {L : pj_Loc} {st : List Value} {M : pj_Mem}  : pj_step 26 (4, L, st, M) = some (5, L, .int 0 :: st, M) := st_iconst q26_4 (by decide +kernel)
theorem x26_4 {L : pj_Loc} {st : List Value} {M : pj_Mem}  {o9 : Option Value × pj_Mem} : pj_Ends 26 (4, L, st, M) o9 = pj_Ends 26 (5, L, .int 0 :: st, M) o9 := pj_xs (s26_4)
theorem q26_5 : pj_row 26 5 = some (.aload_n 0, 1, 0, 0, 0) := by decide +kernel
theorem s26_5 {st : List Value} {M : pj_Mem} {l : pj_Loc} {x : Nat} : pj_step 26 (5, some (.ref x) :: l, st, M) = some (6, some (.ref x) :: l, .ref x :: st, M) := st_aload_n q26_5 rfl
theorem x26_5 {st : List Value} {M : pj_Mem} {l : pj_Loc} {x : Nat} {o9 : Option Value × pj_Mem} : pj_Ends 26 (5, some (.ref x) :: l, st, M) o9 = pj_Ends 26 (6, some (.ref x) :: l, .ref x :: st, M) o9 := pj_xs (s26_5)
theorem q26_6 : pj_row 26 6 = some (.getfield 27, 3, 3, 5, 0) := by decide +kernel
theorem s26_6 {L : pj_Loc} {st : List Value} {N S : Nat} {H : pj_Heap} {o : Nat} : pj_step 26 (6, L, .ref o :: st, (N, S, H)) = pj_pv 9 L st (N, S, H) (pj_fld (H o) 3 5) := st_getfield q26_6
theorem x26_6 {L : pj_Loc} {st : List Value} {N S : Nat} {H : pj_Heap} {o : Nat} {o9 : Option Value × pj_Mem} : pj_Ends 26 (6, L, .ref o :: st, (N, S, H)) o9 = pj_then 26 o9 (pj_pv 9 L st (N, S, H) (pj_fld (H o) 3 5)) := pj_xt q26_6 rfl (pj_cl_nc rfl) (s26_6)
theorem q26_9 : pj_row 26 9 = some (.iconst 0, 1, 0, 0, 0) := by decide +kernel
theorem s26_9 {L : pj_Loc} {st : List Value} {M : pj_Mem}  : pj_step 26 (9, L, st, M) = some (10, L, .int 0 :: st, M) := st_iconst q26_9 (by decide +kernel)
theorem x26_9 {L : pj_Loc} {st : List Value} {M : pj_Mem}  {o9 : Option Value × pj_Mem} : pj_Ends 26 (9, L, st, M) o9 = pj_Ends 26 (10, L, .int 0 :: st, M) o9 := pj_xs (s26_9)
theorem q26_10 : pj_row 26 10 = some (.iconst 3, 1, 0, 0, 0) := by decide +kernel
theorem s26_10 {L : pj_Loc} {st : List Value} {M : pj_Mem}  : pj_step 26 (10, L, st, M) = some (11, L, .int 3 :: st, M) := st_iconst q26_10 (by decide +kernel)
theorem x26_10 {L : pj_Loc} {st : List Value} {M : pj_Mem}  {o9 : Option Value × pj_Mem} : pj_Ends 26 (10, L, st, M) o9 = pj_Ends 26 (11, L, .int 3 :: st, M) o9 := pj_xs (s26_10)
theorem q26_11 : pj_row 26 11 = some (.invokestatic 124, 3, 0, 5, 3) := by decide +kernel
theorem s26_11 {L : pj_Loc} {st : List Value} {N S : Nat} {H : pj_Heap} {d o : Nat} {n dp sp : Int32} : pj_step 26 (11, L, .int n :: .int dp :: .ref d :: .int sp :: .ref o :: st, (N, S, H)) = pj_g4 st (pj_set 14 L st (N, S, H) d (pj_cas (H o) (H d) sp dp n)) := st_acp q26_11
theorem x26_11 {L : pj_Loc} {st : List Value} {N S : Nat} {H : pj_Heap} {d o : Nat} {n dp sp : Int32} {o9 : Option Value × pj_Mem} : pj_Ends 26 (11, L, .int n :: .int dp :: .ref d :: .int sp :: .ref o :: st, (N, S, H)) o9 = pj_then 26 o9 (pj_g4 st (pj_set 14 L st (N, S, H) d (pj_cas (H o) (H d) sp dp n))) := pj_xt q26_11 rfl rfl (s26_11)
theorem q26_14 : pj_row 26 14 = some (.aload_n 0, 1, 0, 0, 0) := by decide +kernel
theorem s26_14 {st : List Value} {M : pj_Mem} {l : pj_Loc} {x : Nat} : pj_step 26 (14, some (.ref x) :: l, st, M) = some (15, some (.ref x) :: l, .ref x :: st, M) := st_aload_n q26_14 rfl
theorem x26_14 {st : List Value} {M : pj_Mem} {l : pj_Loc} {x : Nat} {o9 : Option Value × pj_Mem} : pj_Ends 26 (14, some (.ref x) :: l, st, M) o9 = pj_Ends 26 (15, some (.ref x) :: l, .ref x :: st, M) o9 := pj_xs (s26_14)
theorem q26_15 : pj_row 26 15 = some (.iconst 0, 1, 0, 0, 0) := by decide +kernel
theorem s26_15 {L : pj_Loc} {st : List Value} {M : pj_Mem}  : pj_step 26 (15, L, st, M) = some (16, L, .int 0 :: st, M) := st_iconst q26_15 (by decide +kernel)
theorem x26_15 {L : pj_Loc} {st : List Value} {M : pj_Mem}  {o9 : Option Value × pj_Mem} : pj_Ends 26 (15, L, st, M) o9 = pj_Ends 26 (16, L, .int 0 :: st, M) o9 := pj_xs (s26_15)
theorem q26_16 : pj_row 26 16 = some (.putfield 130, 3, 3, 13, 0) := by decide +kernel
theorem s26_16 {L : pj_Loc} {st : List Value} {N S : Nat} {H : pj_Heap} {o : Nat} {v : Value} : pj_step 26 (16, L, v :: .ref o :: st, (N, S, H)) = pj_set 19 L st (N, S, H) o (pj_fset (H o) 3 13 v) := st_putfield q26_16
theorem x26_16 {L : pj_Loc} {st : List Value} {N S : Nat} {H : pj_Heap} {o : Nat} {v : Value} {o9 : Option Value × pj_Mem} : pj_Ends 26 (16, L, v :: .ref o :: st, (N, S, H)) o9 = pj_then 26 o9 (pj_set 19 L st (N, S, H) o (pj_fset (H o) 3 13 v)) := pj_xt q26_16 rfl (pj_cl_nc rfl) (s26_16)
theorem q26_19 : pj_row 26 19 = some (.aload_n 0, 1, 0, 0, 0) := by decide +kernel
theorem s26_19 {st : List Value} {M : pj_Mem} {l : pj_Loc} {x : Nat} : pj_step 26 (19, some (.ref x) :: l, st, M) = some (20, some (.ref x) :: l, .ref x :: st, M) := st_aload_n q26_19 rfl
theorem x26_19 {st : List Value} {M : pj_Mem} {l : pj_Loc} {x : Nat} {o9 : Option Value × pj_Mem} : pj_Ends 26 (19, some (.ref x) :: l, st, M) o9 = pj_Ends 26 (20, some (.ref x) :: l, .ref x :: st, M) o9 := pj_xs (s26_19)
theorem q26_20 : pj_row 26 20 = some (.getfield 72, 3, 3, 10, 0) := by decide +kernel
theorem s26_20 {L : pj_Loc} {st : List Value} {N S : Nat} {H : pj_Heap} {o : Nat} : pj_step 26 (20, L, .ref o :: st, (N, S, H)) = pj_pv 23 L st (N, S, H) (pj_fld (H o) 3 10) := st_getfield q26_20
theorem x26_20 {L : pj_Loc} {st : List Value} {N S : Nat} {H : pj_Heap} {o : Nat} {o9 : Option Value × pj_Mem} : pj_Ends 26 (20, L, .ref o :: st, (N, S, H)) o9 = pj_then 26 o9 (pj_pv 23 L st (N, S, H) (pj_fld (H o) 3 10)) := pj_xt q26_20 rfl (pj_cl_nc rfl) (s26_20)
theorem q26_23 : pj_row 26 23 = some (.ifCond .gt 4, 3, 27, 0, 0) := by decide +kernel
theorem s26_23 {L : pj_Loc} {st : List Value} {M : pj_Mem} {x : Int32} : pj_step 26 (23, L, .int x :: st, M) = some (if 0 < x then 27 else 26, L, st, M) := st_if_gt q26_23
theorem x26_23 {L : pj_Loc} {st : List Value} {M : pj_Mem} {x : Int32} {o9 : Option Value × pj_Mem} : pj_Ends 26 (23, L, .int x :: st, M) o9 = pj_Ends 26 (if 0 < x then 27 else 26, L, st, M) o9 := pj_xs (s26_23)
theorem q26_26 : pj_row 26 26 = some (.return_, 1, 0, 0, 0) := by decide +kernel
theorem t26_26 {L : pj_Loc} {M : pj_Mem} : pj_Ends 26 (26, L, [], M) (none, M) := pj_Ends.ret q26_26 (pj_rtn_v rt26)
theorem q26_27 : pj_row 26 27 = some (.iconst 0, 1, 0, 0, 0) := by decide +kernel
theorem s26_27 {L : pj_Loc} {st : List Value} {M : pj_Mem}  : pj_step 26 (27, L, st, M) = some (28, L, .int 0 :: st, M) := st_iconst q26_27 (by decide +kernel)
theorem x26_27 {L : pj_Loc} {st : List Value} {M : pj_Mem}  {o9 : Option Value × pj_Mem} : pj_Ends 26 (27, L, st, M) o9 = pj_Ends 26 (28, L, .int 0 :: st, M) o9 := pj_xs (s26_27)
theorem q26_28 : pj_row 26 28 = some (.istore_n 2, 1, 0, 0, 0) := by decide +kernel
theorem s26_28 {st : List Value} {M : pj_Mem} {l : pj_Loc} {a0 a1 a2 : Option Value} {x : Int32} (h : pj_long a1 = false) : pj_step 26 (28, a0 :: a1 :: a2 :: l, .int x :: st, M) = some (29, a0 :: a1 :: some (.int x) :: l, st, M) := st_istore_n q26_28 (pj_st_2 h)
theorem x26_28 {st : List Value} {M : pj_Mem} {l : pj_Loc} {a0 a1 a2 : Option Value} {x : Int32} (h : pj_long a1 = false) {o9 : Option Value × pj_Mem} : pj_Ends 26 (28, a0 :: a1 :: a2 :: l, .int x :: st, M) o9 = pj_Ends 26 (29, a0 :: a1 :: some (.int x) :: l, st, M) o9 := pj_xs (s26_28 h)
theorem q26_29 : pj_row 26 29 = some (.iload_n 2, 1, 0, 0, 0) := by decide +kernel
theorem s26_29 {st : List Value} {M : pj_Mem} {l : pj_Loc} {a0 a1 : Option Value} {x : Int32} : pj_step 26 (29, a0 :: a1 :: some (.int x) :: l, st, M) = some (30, a0 :: a1 :: some (.int x) :: l, .int x :: st, M) := st_iload_n q26_29 rfl
theorem x26_29 {st : List Value} {M : pj_Mem} {l : pj_Loc} {a0 a1 : Option Value} {x : Int32} {o9 : Option Value × pj_Mem} : pj_Ends 26 (29, a0 :: a1 :: some (.int x) :: l, st, M) o9 = pj_Ends 26 (30, a0 :: a1 :: some (.int x) :: l, .int x :: st, M) o9 := pj_xs (s26_29)
theorem q26_30 : pj_row 26 30 = some (.iconst 3, 1, 0, 0, 0) := by decide +kernel
theorem s26_30 {L : pj_Loc} {st : List Value} {M : pj_Mem}  : pj_step 26 (30, L, st, M) = some (31, L, .int 3 :: st, M) := st_iconst q26_30 (by decide +kernel)
theorem x26_30 {L : pj_Loc} {st : List Value} {M : pj_Mem}  {o9 : Option Value × pj_Mem} : pj_Ends 26 (30, L, st, M) o9 = pj_Ends 26 (31, L, .int 3 :: st, M) o9 := pj_xs (s26_30)
theorem q26_31 : pj_row 26 31 = some (.if_icmp .ge 62, 3, 93, 0, 0) := by decide +kernel
theorem s26_31 {L : pj_Loc} {st : List Value} {M : pj_Mem} {x y : Int32} : pj_step 26 (31, L, .int y :: .int x :: st, M) = some (if y ≤ x then 93 else 34, L, st, M) := st_icmp_ge q26_31
theorem x26_31 {L : pj_Loc} {st : List Value} {M : pj_Mem} {x y : Int32} {o9 : Option Value × pj_Mem} : pj_Ends 26 (31, L, .int y :: .int x :: st, M) o9 = pj_Ends 26 (if y ≤ x then 93 else 34, L, st, M) o9 := pj_xs (s26_31)
theorem q26_34 : pj_row 26 34 = some (.aload_n 0, 1, 0, 0, 0) := by decide +kernel
theorem s26_34 {st : List Value} {M : pj_Mem} {l : pj_Loc} {x : Nat} : pj_step 26 (34, some (.ref x) :: l, st, M) = some (35, some (.ref x) :: l, .ref x :: st, M) := st_aload_n q26_34 rfl
theorem x26_34 {st : List Value} {M : pj_Mem} {l : pj_Loc} {x : Nat} {o9 : Option Value × pj_Mem} : pj_Ends 26 (34, some (.ref x) :: l, st, M) o9 = pj_Ends 26 (35, some (.ref x) :: l, .ref x :: st, M) o9 := pj_xs (s26_34)
theorem q26_35 : pj_row 26 35 = some (.getfield 27, 3, 3, 5, 0) := by decide +kernel
theorem s26_35 {L : pj_Loc} {st : List Value} {N S : Nat} {H : pj_Heap} {o : Nat} : pj_step 26 (35, L, .ref o :: st, (N, S, H)) = pj_pv 38 L st (N, S, H) (pj_fld (H o) 3 5) := st_getfield q26_35
theorem x26_35 {L : pj_Loc} {st : List Value} {N S : Nat} {H : pj_Heap} {o : Nat} {o9 : Option Value × pj_Mem} : pj_Ends 26 (35, L, .ref o :: st, (N, S, H)) o9 = pj_then 26 o9 (pj_pv 38 L st (N, S, H) (pj_fld (H o) 3 5)) := pj_xt q26_35 rfl (pj_cl_nc rfl) (s26_35)
theorem q26_38 : pj_row 26 38 = some (.iload_n 2, 1, 0, 0, 0) := by decide +kernel
theorem s26_38 {st : List Value} {M : pj_Mem} {l : pj_Loc} {a0 a1 : Option Value} {x : Int32} : pj_step 26 (38, a0 :: a1 :: some (.int x) :: l, st, M) = some (39, a0 :: a1 :: some (.int x) :: l, .int x :: st, M) := st_iload_n q26_38 rfl
theorem x26_38 {st : List Value} {M : pj_Mem} {l : pj_Loc} {a0 a1 : Option Value} {x : Int32} {o9 : Option Value × pj_Mem} : pj_Ends 26 (38, a0 :: a1 :: some (.int x) :: l, st, M) o9 = pj_Ends 26 (39, a0 :: a1 :: some (.int x) :: l, .int x :: st, M) o9 := pj_xs (s26_38)
theorem q26_39 : pj_row 26 39 = some (.iaload, 1, 0, 0, 0) := by decide +kernel
theorem s26_39 {L : pj_Loc} {st : List Value} {N S : Nat} {H : pj_Heap} {o : Nat} {i : Int32} : pj_step 26 (39, L, .int i :: .ref o :: st, (N, S, H)) = pj_pi 40 L st (N, S, H) (pj_arl (H o) 0 i) := st_iaload q26_39
theorem x26_39 {L : pj_Loc} {st : List Value} {N S : Nat} {H : pj_Heap} {o : Nat} {i : Int32} {o9 : Option Value × pj_Mem} : pj_Ends 26 (39, L, .int i :: .ref o :: st, (N, S, H)) o9 = pj_then 26 o9 (pj_pi 40 L st (N, S, H) (pj_arl (H o) 0 i)) := pj_xt q26_39 rfl (pj_cl_nc rfl) (s26_39)
theorem q26_40 : pj_row 26 40 = some (.bipush (-6), 2, 0, 0, 0) := by decide +kernel
theorem s26_40 {L : pj_Loc} {st : List Value} {M : pj_Mem}  : pj_step 26 (40, L, st, M) = some (42, L, .int (-6) :: st, M) := st_bipush q26_40 (by decide +kernel)
theorem x26_40 {L : pj_Loc} {st : List Value} {M : pj_Mem}  {o9 : Option Value × pj_Mem} : pj_Ends 26 (40, L, st, M) o9 = pj_Ends 26 (42, L, .int (-6) :: st, M) o9 := pj_xs (s26_40)
theorem q26_42 : pj_row 26 42 = some (.if_icmp .ne 45, 3, 87, 0, 0) := by decide +kernel
theorem s26_42 {L : pj_Loc} {st : List Value} {M : pj_Mem} {x y : Int32} : pj_step 26 (42, L, .int y :: .int x :: st, M) = some (if ¬ x = y then 87 else 45, L, st, M) := st_icmp_ne q26_42
theorem x26_42 {L : pj_Loc} {st : List Value} {M : pj_Mem} {x y : Int32} {o9 : Option Value × pj_Mem} : pj_Ends 26 (42, L, .int y :: .int x :: st, M) o9 = pj_Ends 26 (if ¬ x = y then 87 else 45, L, st, M) o9 := pj_xs (s26_42)
theorem q26_45 : pj_row 26 45 = some (.aload_n 1, 1, 0, 0, 0) := by decide +kernel
theorem s26_45 {st : List Value} {M : pj_Mem} {l : pj_Loc} {a0 : Option Value} {x : Nat} : pj_step 26 (45, a0 :: some (.ref x) :: l, st, M) = some (46, a0 :: some (.ref x) :: l, .ref x :: st, M) := st_aload_n q26_45 rfl
theorem x26_45 {st : List Value} {M : pj_Mem} {l : pj_Loc} {a0 : Option Value} {x : Nat} {o9 : Option Value × pj_Mem} : pj_Ends 26 (45, a0 :: some (.ref x) :: l, st, M) o9 = pj_Ends 26 (46, a0 :: some (.ref x) :: l, .ref x :: st, M) o9 := pj_xs (s26_45)
theorem q26_46 : pj_row 26 46 = some (.getfield 133, 3, 4, 8, 0) := by decide +kernel
theorem s26_46 {L : pj_Loc} {st : List Value} {N S : Nat} {H : pj_Heap} {o : Nat} : pj_step 26 (46, L, .ref o :: st, (N, S, H)) = pj_pv 49 L st (N, S, H) (pj_fld (H o) 4 8) := st_getfield q26_46
theorem x26_46 {L : pj_Loc} {st : List Value} {N S : Nat} {H : pj_Heap} {o : Nat} {o9 : Option Value × pj_Mem} : pj_Ends 26 (46, L, .ref o :: st, (N, S, H)) o9 = pj_then 26 o9 (pj_pv 49 L st (N, S, H) (pj_fld (H o) 4 8)) := pj_xt q26_46 rfl (pj_cl_nc rfl) (s26_46)
theorem q26_49 : pj_row 26 49 = some (.iload_n 2, 1, 0, 0, 0) := by decide +kernel
theorem s26_49 {st : List Value} {M : pj_Mem} {l : pj_Loc} {a0 a1 : Option Value} {x : Int32} : pj_step 26 (49, a0 :: a1 :: some (.int x) :: l, st, M) = some (50, a0 :: a1 :: some (.int x) :: l, .int x :: st, M) := st_iload_n q26_49 rfl
theorem x26_49 {st : List Value} {M : pj_Mem} {l : pj_Loc} {a0 a1 : Option Value} {x : Int32} {o9 : Option Value × pj_Mem} : pj_Ends 26 (49, a0 :: a1 :: some (.int x) :: l, st, M) o9 = pj_Ends 26 (50, a0 :: a1 :: some (.int x) :: l, .int x :: st, M) o9 := pj_xs (s26_49)
theorem q26_50 : pj_row 26 50 = some (.invokestatic 109, 3, 8, 2, 1) := by decide +kernel
theorem e26_50 {L : pj_Loc} {st : List Value} {N S : Nat} {H : pj_Heap} {o : Option Value × pj_Mem} {M' : pj_Mem} {x0 : Int32} {x1 : Int32} {r : Int32} (h4 : pj_le4 st = true) (h1 : pj_Ends 8 (0, [some (.int x0), some (.int x1)], [], (N, S, H)) (some (.int r), M')) (h2 : pj_Ends 26 (53, L, .int r :: st, M') o) : pj_Ends 26 (50, L, .int x1 :: .int x0 :: st, (N, S, H)) o := ec_s2 q26_50 (Or.inr rfl) h4 rfl h1 h2
theorem q26_53 : pj_row 26 53 = some (.ifCond .ne 34, 3, 87, 0, 0) := by decide +kernel
theorem s26_53 {L : pj_Loc} {st : List Value} {M : pj_Mem} {x : Int32} : pj_step 26 (53, L, .int x :: st, M) = some (if ¬ x = 0 then 87 else 56, L, st, M) := st_if_ne q26_53
theorem x26_53 {L : pj_Loc} {st : List Value} {M : pj_Mem} {x : Int32} {o9 : Option Value × pj_Mem} : pj_Ends 26 (53, L, .int x :: st, M) o9 = pj_Ends 26 (if ¬ x = 0 then 87 else 56, L, st, M) o9 := pj_xs (s26_53)
theorem q26_56 : pj_row 26 56 = some (.aload_n 0, 1, 0, 0, 0) := by decide +kernel
theorem s26_56 {st : List Value} {M : pj_Mem} {l : pj_Loc} {x : Nat} : pj_step 26 (56, some (.ref x) :: l, st, M) = some (57, some (.ref x) :: l, .ref x :: st, M) := st_aload_n q26_56 rfl
theorem x26_56 {st : List Value} {M : pj_Mem} {l : pj_Loc} {x : Nat} {o9 : Option Value × pj_Mem} : pj_Ends 26 (56, some (.ref x) :: l, st, M) o9 = pj_Ends 26 (57, some (.ref x) :: l, .ref x :: st, M) o9 := pj_xs (s26_56)
theorem q26_57 : pj_row 26 57 = some (.aload_n 1, 1, 0, 0, 0) := by decide +kernel
theorem s26_57 {st : List Value} {M : pj_Mem} {l : pj_Loc} {a0 : Option Value} {x : Nat} : pj_step 26 (57, a0 :: some (.ref x) :: l, st, M) = some (58, a0 :: some (.ref x) :: l, .ref x :: st, M) := st_aload_n q26_57 rfl
theorem x26_57 {st : List Value} {M : pj_Mem} {l : pj_Loc} {a0 : Option Value} {x : Nat} {o9 : Option Value × pj_Mem} : pj_Ends 26 (57, a0 :: some (.ref x) :: l, st, M) o9 = pj_Ends 26 (58, a0 :: some (.ref x) :: l, .ref x :: st, M) o9 := pj_xs (s26_57)
theorem q26_58 : pj_row 26 58 = some (.iload_n 2, 1, 0, 0, 0) := by decide +kernel
theorem s26_58 {st : List Value} {M : pj_Mem} {l : pj_Loc} {a0 a1 : Option Value} {x : Int32} : pj_step 26 (58, a0 :: a1 :: some (.int x) :: l, st, M) = some (59, a0 :: a1 :: some (.int x) :: l, .int x :: st, M) := st_iload_n q26_58 rfl
theorem x26_58 {st : List Value} {M : pj_Mem} {l : pj_Loc} {a0 a1 : Option Value} {x : Int32} {o9 : Option Value × pj_Mem} : pj_Ends 26 (58, a0 :: a1 :: some (.int x) :: l, st, M) o9 = pj_Ends 26 (59, a0 :: a1 :: some (.int x) :: l, .int x :: st, M) o9 := pj_xs (s26_58)
theorem q26_59 : pj_row 26 59 = some (.invokevirtual 136, 3, 27, 3, 0) := by decide +kernel
theorem e26_59 {L : pj_Loc} {st : List Value} {N S : Nat} {H : pj_Heap} {o : Option Value × pj_Mem} {M' : pj_Mem} {x0 : Nat} {x1 : Nat} {x2 : Int32} {r : Int32} (h4 : pj_le4 st = true) (hu : pj_isU 3 (H x0) = true) (h1 : pj_Ends 27 (0, [some (.ref x0), some (.ref x1), some (.int x2), none, none, none], [], (N, S, H)) (some (.int r), M')) (h2 : pj_Ends 26 (62, L, .int r :: st, M') o) : pj_Ends 26 (59, L, .int x2 :: .ref x1 :: .ref x0 :: st, (N, S, H)) o := ec_v3 q26_59 (Or.inl rfl) h4 hu rfl h1 h2
theorem q26_62 : pj_row 26 62 = some (.ifCond .eq 25, 3, 87, 0, 0) := by decide +kernel
theorem s26_62 {L : pj_Loc} {st : List Value} {M : pj_Mem} {x : Int32} : pj_step 26 (62, L, .int x :: st, M) = some (if x = 0 then 87 else 65, L, st, M) := st_if_eq q26_62
theorem x26_62 {L : pj_Loc} {st : List Value} {M : pj_Mem} {x : Int32} {o9 : Option Value × pj_Mem} : pj_Ends 26 (62, L, .int x :: st, M) o9 = pj_Ends 26 (if x = 0 then 87 else 65, L, st, M) o9 := pj_xs (s26_62)
theorem q26_65 : pj_row 26 65 = some (.aload_n 0, 1, 0, 0, 0) := by decide +kernel
theorem s26_65 {st : List Value} {M : pj_Mem} {l : pj_Loc} {x : Nat} : pj_step 26 (65, some (.ref x) :: l, st, M) = some (66, some (.ref x) :: l, .ref x :: st, M) := st_aload_n q26_65 rfl
theorem x26_65 {st : List Value} {M : pj_Mem} {l : pj_Loc} {x : Nat} {o9 : Option Value × pj_Mem} : pj_Ends 26 (65, some (.ref x) :: l, st, M) o9 = pj_Ends 26 (66, some (.ref x) :: l, .ref x :: st, M) o9 := pj_xs (s26_65)
theorem q26_66 : pj_row 26 66 = some (.getfield 27, 3, 3, 5, 0) := by decide +kernel
theorem s26_66 {L : pj_Loc} {st : List Value} {N S : Nat} {H : pj_Heap} {o : Nat} : pj_step 26 (66, L, .ref o :: st, (N, S, H)) = pj_pv 69 L st (N, S, H) (pj_fld (H o) 3 5) := st_getfield q26_66
theorem x26_66 {L : pj_Loc} {st : List Value} {N S : Nat} {H : pj_Heap} {o : Nat} {o9 : Option Value × pj_Mem} : pj_Ends 26 (66, L, .ref o :: st, (N, S, H)) o9 = pj_then 26 o9 (pj_pv 69 L st (N, S, H) (pj_fld (H o) 3 5)) := pj_xt q26_66 rfl (pj_cl_nc rfl) (s26_66)
theorem q26_69 : pj_row 26 69 = some (.iload_n 2, 1, 0, 0, 0) := by decide +kernel
theorem s26_69 {st : List Value} {M : pj_Mem} {l : pj_Loc} {a0 a1 : Option Value} {x : Int32} : pj_step 26 (69, a0 :: a1 :: some (.int x) :: l, st, M) = some (70, a0 :: a1 :: some (.int x) :: l, .int x :: st, M) := st_iload_n q26_69 rfl
theorem x26_69 {st : List Value} {M : pj_Mem} {l : pj_Loc} {a0 a1 : Option Value} {x : Int32} {o9 : Option Value × pj_Mem} : pj_Ends 26 (69, a0 :: a1 :: some (.int x) :: l, st, M) o9 = pj_Ends 26 (70, a0 :: a1 :: some (.int x) :: l, .int x :: st, M) o9 := pj_xs (s26_69)
theorem q26_70 : pj_row 26 70 = some (.aload_n 0, 1, 0, 0, 0) := by decide +kernel
theorem s26_70 {st : List Value} {M : pj_Mem} {l : pj_Loc} {x : Nat} : pj_step 26 (70, some (.ref x) :: l, st, M) = some (71, some (.ref x) :: l, .ref x :: st, M) := st_aload_n q26_70 rfl
theorem x26_70 {st : List Value} {M : pj_Mem} {l : pj_Loc} {x : Nat} {o9 : Option Value × pj_Mem} : pj_Ends 26 (70, some (.ref x) :: l, st, M) o9 = pj_Ends 26 (71, some (.ref x) :: l, .ref x :: st, M) o9 := pj_xs (s26_70)
theorem q26_71 : pj_row 26 71 = some (.getfield 36, 3, 3, 7, 0) := by decide +kernel
theorem s26_71 {L : pj_Loc} {st : List Value} {N S : Nat} {H : pj_Heap} {o : Nat} : pj_step 26 (71, L, .ref o :: st, (N, S, H)) = pj_pv 74 L st (N, S, H) (pj_fld (H o) 3 7) := st_getfield q26_71
theorem x26_71 {L : pj_Loc} {st : List Value} {N S : Nat} {H : pj_Heap} {o : Nat} {o9 : Option Value × pj_Mem} : pj_Ends 26 (71, L, .ref o :: st, (N, S, H)) o9 = pj_then 26 o9 (pj_pv 74 L st (N, S, H) (pj_fld (H o) 3 7)) := pj_xt q26_71 rfl (pj_cl_nc rfl) (s26_71)
theorem q26_74 : pj_row 26 74 = some (.iastore, 1, 0, 0, 0) := by decide +kernel
theorem s26_74 {L : pj_Loc} {st : List Value} {N S : Nat} {H : pj_Heap} {o : Nat} {i x : Int32} : pj_step 26 (74, L, .int x :: .int i :: .ref o :: st, (N, S, H)) = pj_set 75 L st (N, S, H) o (pj_ars (H o) 0 i x) := st_iastore q26_74
theorem x26_74 {L : pj_Loc} {st : List Value} {N S : Nat} {H : pj_Heap} {o : Nat} {i x : Int32} {o9 : Option Value × pj_Mem} : pj_Ends 26 (74, L, .int x :: .int i :: .ref o :: st, (N, S, H)) o9 = pj_then 26 o9 (pj_set 75 L st (N, S, H) o (pj_ars (H o) 0 i x)) := pj_xt q26_74 rfl (pj_cl_nc rfl) (s26_74)
theorem q26_75 : pj_row 26 75 = some (.aload_n 0, 1, 0, 0, 0) := by decide +kernel
theorem s26_75 {st : List Value} {M : pj_Mem} {l : pj_Loc} {x : Nat} : pj_step 26 (75, some (.ref x) :: l, st, M) = some (76, some (.ref x) :: l, .ref x :: st, M) := st_aload_n q26_75 rfl
theorem x26_75 {st : List Value} {M : pj_Mem} {l : pj_Loc} {x : Nat} {o9 : Option Value × pj_Mem} : pj_Ends 26 (75, some (.ref x) :: l, st, M) o9 = pj_Ends 26 (76, some (.ref x) :: l, .ref x :: st, M) o9 := pj_xs (s26_75)
theorem q26_76 : pj_row 26 76 = some (.aload_n 0, 1, 0, 0, 0) := by decide +kernel
theorem s26_76 {st : List Value} {M : pj_Mem} {l : pj_Loc} {x : Nat} : pj_step 26 (76, some (.ref x) :: l, st, M) = some (77, some (.ref x) :: l, .ref x :: st, M) := st_aload_n q26_76 rfl
theorem x26_76 {st : List Value} {M : pj_Mem} {l : pj_Loc} {x : Nat} {o9 : Option Value × pj_Mem} : pj_Ends 26 (76, some (.ref x) :: l, st, M) o9 = pj_Ends 26 (77, some (.ref x) :: l, .ref x :: st, M) o9 := pj_xs (s26_76)
theorem q26_77 : pj_row 26 77 = some (.getfield 130, 3, 3, 13, 0) := by decide +kernel
theorem s26_77 {L : pj_Loc} {st : List Value} {N S : Nat} {H : pj_Heap} {o : Nat} : pj_step 26 (77, L, .ref o :: st, (N, S, H)) = pj_pv 80 L st (N, S, H) (pj_fld (H o) 3 13) := st_getfield q26_77
theorem x26_77 {L : pj_Loc} {st : List Value} {N S : Nat} {H : pj_Heap} {o : Nat} {o9 : Option Value × pj_Mem} : pj_Ends 26 (77, L, .ref o :: st, (N, S, H)) o9 = pj_then 26 o9 (pj_pv 80 L st (N, S, H) (pj_fld (H o) 3 13)) := pj_xt q26_77 rfl (pj_cl_nc rfl) (s26_77)
theorem q26_80 : pj_row 26 80 = some (.iload_n 2, 1, 0, 0, 0) := by decide +kernel
theorem s26_80 {st : List Value} {M : pj_Mem} {l : pj_Loc} {a0 a1 : Option Value} {x : Int32} : pj_step 26 (80, a0 :: a1 :: some (.int x) :: l, st, M) = some (81, a0 :: a1 :: some (.int x) :: l, .int x :: st, M) := st_iload_n q26_80 rfl
theorem x26_80 {st : List Value} {M : pj_Mem} {l : pj_Loc} {a0 a1 : Option Value} {x : Int32} {o9 : Option Value × pj_Mem} : pj_Ends 26 (80, a0 :: a1 :: some (.int x) :: l, st, M) o9 = pj_Ends 26 (81, a0 :: a1 :: some (.int x) :: l, .int x :: st, M) o9 := pj_xs (s26_80)
theorem q26_81 : pj_row 26 81 = some (.invokestatic 120, 3, 12, 2, 1) := by decide +kernel
theorem e26_81 {L : pj_Loc} {st : List Value} {N S : Nat} {H : pj_Heap} {o : Option Value × pj_Mem} {M' : pj_Mem} {x0 : Int32} {x1 : Int32} {r : Int32} (h4 : pj_le4 st = true) (h1 : pj_Ends 12 (0, [some (.int x0), some (.int x1)], [], (N, S, H)) (some (.int r), M')) (h2 : pj_Ends 26 (84, L, .int r :: st, M') o) : pj_Ends 26 (81, L, .int x1 :: .int x0 :: st, (N, S, H)) o := ec_s2 q26_81 (Or.inr rfl) h4 rfl h1 h2
theorem q26_84 : pj_row 26 84 = some (.putfield 130, 3, 3, 13, 0) := by decide +kernel
theorem s26_84 {L : pj_Loc} {st : List Value} {N S : Nat} {H : pj_Heap} {o : Nat} {v : Value} : pj_step 26 (84, L, v :: .ref o :: st, (N, S, H)) = pj_set 87 L st (N, S, H) o (pj_fset (H o) 3 13 v) := st_putfield q26_84
theorem x26_84 {L : pj_Loc} {st : List Value} {N S : Nat} {H : pj_Heap} {o : Nat} {v : Value} {o9 : Option Value × pj_Mem} : pj_Ends 26 (84, L, v :: .ref o :: st, (N, S, H)) o9 = pj_then 26 o9 (pj_set 87 L st (N, S, H) o (pj_fset (H o) 3 13 v)) := pj_xt q26_84 rfl (pj_cl_nc rfl) (s26_84)
theorem q26_87 : pj_row 26 87 = some (.iinc 2 1, 3, 0, 0, 0) := by decide +kernel
theorem s26_87 {st : List Value} {M : pj_Mem} {l : pj_Loc} {a0 a1 : Option Value} {x : Int32} (h : pj_long a1 = false) : pj_step 26 (87, a0 :: a1 :: some (.int x) :: l, st, M) = some (90, a0 :: a1 :: some (.int (x + 1)) :: l, st, M) := st_iinc q26_87 rfl (congrArg (fun y => x + y) (show Int32.ofInt 1 = 1 by decide +kernel)) (pj_st_2 h)
theorem x26_87 {st : List Value} {M : pj_Mem} {l : pj_Loc} {a0 a1 : Option Value} {x : Int32} (h : pj_long a1 = false) {o9 : Option Value × pj_Mem} : pj_Ends 26 (87, a0 :: a1 :: some (.int x) :: l, st, M) o9 = pj_Ends 26 (90, a0 :: a1 :: some (.int (x + 1)) :: l, st, M) o9 := pj_xs (s26_87 h)
theorem q26_90 : pj_row 26 90 = some (.goto (-61), 3, 29, 0, 0) := by decide +kernel
theorem s26_90 {L : pj_Loc} {st : List Value} {M : pj_Mem}  : pj_step 26 (90, L, st, M) = some (29, L, st, M) := st_goto q26_90
theorem x26_90 {L : pj_Loc} {st : List Value} {M : pj_Mem}  {o9 : Option Value × pj_Mem} : pj_Ends 26 (90, L, st, M) o9 = pj_Ends 26 (29, L, st, M) o9 := pj_xs (s26_90)
theorem q26_93 : pj_row 26 93 = some (.return_, 1, 0, 0, 0) := by decide +kernel
theorem t26_93 {L : pj_Loc} {M : pj_Mem} : pj_Ends 26 (93, L, [], M) (none, M) := pj_Ends.ret q26_93 (pj_rtn_v rt26)
theorem rt27 : pj_rt 27 = some .boolean := rfl
theorem q27_0 : pj_row 27 0 = some (.aload_n 1, 1, 0, 0, 0) := by decide +kernel
theorem s27_0 {st : List Value} {M : pj_Mem} {l : pj_Loc} {a0 : Option Value} {x : Nat} : pj_step 27 (0, a0 :: some (.ref x) :: l, st, M) = some (1, a0 :: some (.ref x) :: l, .ref x :: st, M) := st_aload_n q27_0 rfl
theorem x27_0 {st : List Value} {M : pj_Mem} {l : pj_Loc} {a0 : Option Value} {x : Nat} {o9 : Option Value × pj_Mem} : pj_Ends 27 (0, a0 :: some (.ref x) :: l, st, M) o9 = pj_Ends 27 (1, a0 :: some (.ref x) :: l, .ref x :: st, M) o9 := pj_xs (s27_0)
theorem q27_1 : pj_row 27 1 = some (.getfield 50, 3, 4, 0, 0) := by decide +kernel
theorem s27_1 {L : pj_Loc} {st : List Value} {N S : Nat} {H : pj_Heap} {o : Nat} : pj_step 27 (1, L, .ref o :: st, (N, S, H)) = pj_pv 4 L st (N, S, H) (pj_fld (H o) 4 0) := st_getfield q27_1
theorem x27_1 {L : pj_Loc} {st : List Value} {N S : Nat} {H : pj_Heap} {o : Nat} {o9 : Option Value × pj_Mem} : pj_Ends 27 (1, L, .ref o :: st, (N, S, H)) o9 = pj_then 27 o9 (pj_pv 4 L st (N, S, H) (pj_fld (H o) 4 0)) := pj_xt q27_1 rfl (pj_cl_nc rfl) (s27_1)
theorem q27_4 : pj_row 27 4 = some (.iconst 5, 1, 0, 0, 0) := by decide +kernel
theorem s27_4 {L : pj_Loc} {st : List Value} {M : pj_Mem}  : pj_step 27 (4, L, st, M) = some (5, L, .int 5 :: st, M) := st_iconst q27_4 (by decide +kernel)
theorem x27_4 {L : pj_Loc} {st : List Value} {M : pj_Mem}  {o9 : Option Value × pj_Mem} : pj_Ends 27 (4, L, st, M) o9 = pj_Ends 27 (5, L, .int 5 :: st, M) o9 := pj_xs (s27_4)
theorem q27_5 : pj_row 27 5 = some (.iaload, 1, 0, 0, 0) := by decide +kernel
theorem s27_5 {L : pj_Loc} {st : List Value} {N S : Nat} {H : pj_Heap} {o : Nat} {i : Int32} : pj_step 27 (5, L, .int i :: .ref o :: st, (N, S, H)) = pj_pi 6 L st (N, S, H) (pj_arl (H o) 0 i) := st_iaload q27_5
theorem x27_5 {L : pj_Loc} {st : List Value} {N S : Nat} {H : pj_Heap} {o : Nat} {i : Int32} {o9 : Option Value × pj_Mem} : pj_Ends 27 (5, L, .int i :: .ref o :: st, (N, S, H)) o9 = pj_then 27 o9 (pj_pi 6 L st (N, S, H) (pj_arl (H o) 0 i)) := pj_xt q27_5 rfl (pj_cl_nc rfl) (s27_5)
theorem q27_6 : pj_row 27 6 = some (.istore_n 3, 1, 0, 0, 0) := by decide +kernel
theorem s27_6 {st : List Value} {M : pj_Mem} {l : pj_Loc} {a0 a1 a2 a3 : Option Value} {x : Int32} (h : pj_long a2 = false) : pj_step 27 (6, a0 :: a1 :: a2 :: a3 :: l, .int x :: st, M) = some (7, a0 :: a1 :: a2 :: some (.int x) :: l, st, M) := st_istore_n q27_6 (pj_st_3 h)
theorem x27_6 {st : List Value} {M : pj_Mem} {l : pj_Loc} {a0 a1 a2 a3 : Option Value} {x : Int32} (h : pj_long a2 = false) {o9 : Option Value × pj_Mem} : pj_Ends 27 (6, a0 :: a1 :: a2 :: a3 :: l, .int x :: st, M) o9 = pj_Ends 27 (7, a0 :: a1 :: a2 :: some (.int x) :: l, st, M) o9 := pj_xs (s27_6 h)
theorem q27_7 : pj_row 27 7 = some (.aload_n 0, 1, 0, 0, 0) := by decide +kernel
theorem s27_7 {st : List Value} {M : pj_Mem} {l : pj_Loc} {x : Nat} : pj_step 27 (7, some (.ref x) :: l, st, M) = some (8, some (.ref x) :: l, .ref x :: st, M) := st_aload_n q27_7 rfl
theorem x27_7 {st : List Value} {M : pj_Mem} {l : pj_Loc} {x : Nat} {o9 : Option Value × pj_Mem} : pj_Ends 27 (7, some (.ref x) :: l, st, M) o9 = pj_Ends 27 (8, some (.ref x) :: l, .ref x :: st, M) o9 := pj_xs (s27_7)
theorem q27_8 : pj_row 27 8 = some (.getfield 77, 3, 3, 11, 0) := by decide +kernel
theorem s27_8 {L : pj_Loc} {st : List Value} {N S : Nat} {H : pj_Heap} {o : Nat} : pj_step 27 (8, L, .ref o :: st, (N, S, H)) = pj_pv 11 L st (N, S, H) (pj_fld (H o) 3 11) := st_getfield q27_8
theorem x27_8 {L : pj_Loc} {st : List Value} {N S : Nat} {H : pj_Heap} {o : Nat} {o9 : Option Value × pj_Mem} : pj_Ends 27 (8, L, .ref o :: st, (N, S, H)) o9 = pj_then 27 o9 (pj_pv 11 L st (N, S, H) (pj_fld (H o) 3 11)) := pj_xt q27_8 rfl (pj_cl_nc rfl) (s27_8)
theorem q27_11 : pj_row 27 11 = some (.invokestatic 140, 3, 28, 1, 0) := by decide +kernel
theorem e27_11 {L : pj_Loc} {st : List Value} {N S : Nat} {H : pj_Heap} {o : Option Value × pj_Mem} {M' : pj_Mem} {x0 : Int32} {r : Int32} (h4 : pj_le4 st = true) (h1 : pj_Ends 28 (0, [some (.int x0)], [], (N, S, H)) (some (.int r), M')) (h2 : pj_Ends 27 (14, L, .int r :: st, M') o) : pj_Ends 27 (11, L, .int x0 :: st, (N, S, H)) o := ec_s1 q27_11 (Or.inl rfl) h4 rfl h1 h2
theorem q27_14 : pj_row 27 14 = some (.iconst 2, 1, 0, 0, 0) := by decide +kernel
theorem s27_14 {L : pj_Loc} {st : List Value} {M : pj_Mem}  : pj_step 27 (14, L, st, M) = some (15, L, .int 2 :: st, M) := st_iconst q27_14 (by decide +kernel)
theorem x27_14 {L : pj_Loc} {st : List Value} {M : pj_Mem}  {o9 : Option Value × pj_Mem} : pj_Ends 27 (14, L, st, M) o9 = pj_Ends 27 (15, L, .int 2 :: st, M) o9 := pj_xs (s27_14)
theorem q27_15 : pj_row 27 15 = some (.if_icmp .lt 7, 3, 22, 0, 0) := by decide +kernel
theorem s27_15 {L : pj_Loc} {st : List Value} {M : pj_Mem} {x y : Int32} : pj_step 27 (15, L, .int y :: .int x :: st, M) = some (if x < y then 22 else 18, L, st, M) := st_icmp_lt q27_15
theorem x27_15 {L : pj_Loc} {st : List Value} {M : pj_Mem} {x y : Int32} {o9 : Option Value × pj_Mem} : pj_Ends 27 (15, L, .int y :: .int x :: st, M) o9 = pj_Ends 27 (if x < y then 22 else 18, L, st, M) o9 := pj_xs (s27_15)
theorem q27_18 : pj_row 27 18 = some (.iconst 1, 1, 0, 0, 0) := by decide +kernel
theorem s27_18 {L : pj_Loc} {st : List Value} {M : pj_Mem}  : pj_step 27 (18, L, st, M) = some (19, L, .int 1 :: st, M) := st_iconst q27_18 (by decide +kernel)
theorem x27_18 {L : pj_Loc} {st : List Value} {M : pj_Mem}  {o9 : Option Value × pj_Mem} : pj_Ends 27 (18, L, st, M) o9 = pj_Ends 27 (19, L, .int 1 :: st, M) o9 := pj_xs (s27_18)
theorem q27_19 : pj_row 27 19 = some (.goto 4, 3, 23, 0, 0) := by decide +kernel
theorem s27_19 {L : pj_Loc} {st : List Value} {M : pj_Mem}  : pj_step 27 (19, L, st, M) = some (23, L, st, M) := st_goto q27_19
theorem x27_19 {L : pj_Loc} {st : List Value} {M : pj_Mem}  {o9 : Option Value × pj_Mem} : pj_Ends 27 (19, L, st, M) o9 = pj_Ends 27 (23, L, st, M) o9 := pj_xs (s27_19)
theorem q27_22 : pj_row 27 22 = some (.iconst 0, 1, 0, 0, 0) := by decide +kernel
theorem s27_22 {L : pj_Loc} {st : List Value} {M : pj_Mem}  : pj_step 27 (22, L, st, M) = some (23, L, .int 0 :: st, M) := st_iconst q27_22 (by decide +kernel)
theorem x27_22 {L : pj_Loc} {st : List Value} {M : pj_Mem}  {o9 : Option Value × pj_Mem} : pj_Ends 27 (22, L, st, M) o9 = pj_Ends 27 (23, L, .int 0 :: st, M) o9 := pj_xs (s27_22)
theorem q27_23 : pj_row 27 23 = some (.istore 4, 2, 0, 0, 0) := by decide +kernel
theorem s27_23 {st : List Value} {M : pj_Mem} {l : pj_Loc} {a0 a1 a2 a3 a4 : Option Value} {x : Int32} (h : pj_long a3 = false) : pj_step 27 (23, a0 :: a1 :: a2 :: a3 :: a4 :: l, .int x :: st, M) = some (25, a0 :: a1 :: a2 :: a3 :: some (.int x) :: l, st, M) := st_istore q27_23 (pj_st_4 h)
theorem x27_23 {st : List Value} {M : pj_Mem} {l : pj_Loc} {a0 a1 a2 a3 a4 : Option Value} {x : Int32} (h : pj_long a3 = false) {o9 : Option Value × pj_Mem} : pj_Ends 27 (23, a0 :: a1 :: a2 :: a3 :: a4 :: l, .int x :: st, M) o9 = pj_Ends 27 (25, a0 :: a1 :: a2 :: a3 :: some (.int x) :: l, st, M) o9 := pj_xs (s27_23 h)
theorem q27_25 : pj_row 27 25 = some (.aload_n 0, 1, 0, 0, 0) := by decide +kernel
theorem s27_25 {st : List Value} {M : pj_Mem} {l : pj_Loc} {x : Nat} : pj_step 27 (25, some (.ref x) :: l, st, M) = some (26, some (.ref x) :: l, .ref x :: st, M) := st_aload_n q27_25 rfl
theorem x27_25 {st : List Value} {M : pj_Mem} {l : pj_Loc} {x : Nat} {o9 : Option Value × pj_Mem} : pj_Ends 27 (25, some (.ref x) :: l, st, M) o9 = pj_Ends 27 (26, some (.ref x) :: l, .ref x :: st, M) o9 := pj_xs (s27_25)
theorem q27_26 : pj_row 27 26 = some (.getfield 80, 3, 3, 12, 0) := by decide +kernel
theorem s27_26 {L : pj_Loc} {st : List Value} {N S : Nat} {H : pj_Heap} {o : Nat} : pj_step 27 (26, L, .ref o :: st, (N, S, H)) = pj_pv 29 L st (N, S, H) (pj_fld (H o) 3 12) := st_getfield q27_26
theorem x27_26 {L : pj_Loc} {st : List Value} {N S : Nat} {H : pj_Heap} {o : Nat} {o9 : Option Value × pj_Mem} : pj_Ends 27 (26, L, .ref o :: st, (N, S, H)) o9 = pj_then 27 o9 (pj_pv 29 L st (N, S, H) (pj_fld (H o) 3 12)) := pj_xt q27_26 rfl (pj_cl_nc rfl) (s27_26)
theorem q27_29 : pj_row 27 29 = some (.invokestatic 140, 3, 28, 1, 0) := by decide +kernel
theorem e27_29 {L : pj_Loc} {st : List Value} {N S : Nat} {H : pj_Heap} {o : Option Value × pj_Mem} {M' : pj_Mem} {x0 : Int32} {r : Int32} (h4 : pj_le4 st = true) (h1 : pj_Ends 28 (0, [some (.int x0)], [], (N, S, H)) (some (.int r), M')) (h2 : pj_Ends 27 (32, L, .int r :: st, M') o) : pj_Ends 27 (29, L, .int x0 :: st, (N, S, H)) o := ec_s1 q27_29 (Or.inl rfl) h4 rfl h1 h2
theorem q27_32 : pj_row 27 32 = some (.iconst 2, 1, 0, 0, 0) := by decide +kernel
theorem s27_32 {L : pj_Loc} {st : List Value} {M : pj_Mem}  : pj_step 27 (32, L, st, M) = some (33, L, .int 2 :: st, M) := st_iconst q27_32 (by decide +kernel)
theorem x27_32 {L : pj_Loc} {st : List Value} {M : pj_Mem}  {o9 : Option Value × pj_Mem} : pj_Ends 27 (32, L, st, M) o9 = pj_Ends 27 (33, L, .int 2 :: st, M) o9 := pj_xs (s27_32)
theorem q27_33 : pj_row 27 33 = some (.if_icmp .lt 7, 3, 40, 0, 0) := by decide +kernel
theorem s27_33 {L : pj_Loc} {st : List Value} {M : pj_Mem} {x y : Int32} : pj_step 27 (33, L, .int y :: .int x :: st, M) = some (if x < y then 40 else 36, L, st, M) := st_icmp_lt q27_33
theorem x27_33 {L : pj_Loc} {st : List Value} {M : pj_Mem} {x y : Int32} {o9 : Option Value × pj_Mem} : pj_Ends 27 (33, L, .int y :: .int x :: st, M) o9 = pj_Ends 27 (if x < y then 40 else 36, L, st, M) o9 := pj_xs (s27_33)
theorem q27_36 : pj_row 27 36 = some (.iconst 1, 1, 0, 0, 0) := by decide +kernel
theorem s27_36 {L : pj_Loc} {st : List Value} {M : pj_Mem}  : pj_step 27 (36, L, st, M) = some (37, L, .int 1 :: st, M) := st_iconst q27_36 (by decide +kernel)
theorem x27_36 {L : pj_Loc} {st : List Value} {M : pj_Mem}  {o9 : Option Value × pj_Mem} : pj_Ends 27 (36, L, st, M) o9 = pj_Ends 27 (37, L, .int 1 :: st, M) o9 := pj_xs (s27_36)
theorem q27_37 : pj_row 27 37 = some (.goto 4, 3, 41, 0, 0) := by decide +kernel
theorem s27_37 {L : pj_Loc} {st : List Value} {M : pj_Mem}  : pj_step 27 (37, L, st, M) = some (41, L, st, M) := st_goto q27_37
theorem x27_37 {L : pj_Loc} {st : List Value} {M : pj_Mem}  {o9 : Option Value × pj_Mem} : pj_Ends 27 (37, L, st, M) o9 = pj_Ends 27 (41, L, st, M) o9 := pj_xs (s27_37)
theorem q27_40 : pj_row 27 40 = some (.iconst 0, 1, 0, 0, 0) := by decide +kernel
theorem s27_40 {L : pj_Loc} {st : List Value} {M : pj_Mem}  : pj_step 27 (40, L, st, M) = some (41, L, .int 0 :: st, M) := st_iconst q27_40 (by decide +kernel)
theorem x27_40 {L : pj_Loc} {st : List Value} {M : pj_Mem}  {o9 : Option Value × pj_Mem} : pj_Ends 27 (40, L, st, M) o9 = pj_Ends 27 (41, L, .int 0 :: st, M) o9 := pj_xs (s27_40)
theorem q27_41 : pj_row 27 41 = some (.istore 5, 2, 0, 0, 0) := by decide +kernel
theorem s27_41 {st : List Value} {M : pj_Mem} {l : pj_Loc} {a0 a1 a2 a3 a4 a5 : Option Value} {x : Int32} (h : pj_long a4 = false) : pj_step 27 (41, a0 :: a1 :: a2 :: a3 :: a4 :: a5 :: l, .int x :: st, M) = some (43, a0 :: a1 :: a2 :: a3 :: a4 :: some (.int x) :: l, st, M) := st_istore q27_41 (pj_st_5 h)
theorem x27_41 {st : List Value} {M : pj_Mem} {l : pj_Loc} {a0 a1 a2 a3 a4 a5 : Option Value} {x : Int32} (h : pj_long a4 = false) {o9 : Option Value × pj_Mem} : pj_Ends 27 (41, a0 :: a1 :: a2 :: a3 :: a4 :: a5 :: l, .int x :: st, M) o9 = pj_Ends 27 (43, a0 :: a1 :: a2 :: a3 :: a4 :: some (.int x) :: l, st, M) o9 := pj_xs (s27_41 h)
theorem q27_43 : pj_row 27 43 = some (.iload_n 2, 1, 0, 0, 0) := by decide +kernel
theorem s27_43 {st : List Value} {M : pj_Mem} {l : pj_Loc} {a0 a1 : Option Value} {x : Int32} : pj_step 27 (43, a0 :: a1 :: some (.int x) :: l, st, M) = some (44, a0 :: a1 :: some (.int x) :: l, .int x :: st, M) := st_iload_n q27_43 rfl
theorem x27_43 {st : List Value} {M : pj_Mem} {l : pj_Loc} {a0 a1 : Option Value} {x : Int32} {o9 : Option Value × pj_Mem} : pj_Ends 27 (43, a0 :: a1 :: some (.int x) :: l, st, M) o9 = pj_Ends 27 (44, a0 :: a1 :: some (.int x) :: l, .int x :: st, M) o9 := pj_xs (s27_43)
theorem q27_44 : pj_row 27 44 = some (.tableswitch 82 0 2 #[28, 31, 62], 28, 0, 0, 0) := by decide +kernel
theorem s27_44 {L : pj_Loc} {st : List Value} {M : pj_Mem} {x : Int32} : pj_step 27 (44, L, .int x :: st, M) = some (if x = 0 then 72 else if x = 1 then 75 else if x = 2 then 106 else 126, L, st, M) := by
  rw [st_tsw q27_44]
  unfold pj_tsw
  by_cases hr : x.toInt < 0 ∨ 2 < x.toInt
  · simp only
    rw [if_pos hr]
    rw [if_neg (show ¬ x = 0 from fun e => by rw [e] at hr; revert hr; decide)]
    rw [if_neg (show ¬ x = 1 from fun e => by rw [e] at hr; revert hr; decide)]
    rw [if_neg (show ¬ x = 2 from fun e => by rw [e] at hr; revert hr; decide)]
    rfl
  · have h3 : x.toInt = 0 ∨ x.toInt = 1 ∨ x.toInt = 2 := by omega
    rcases h3 with h3 | h3 | h3
    · have e : x = 0 := Int32.toInt_inj.mp (h3.trans (by decide))
      subst e
      rfl
    · have e : x = 1 := Int32.toInt_inj.mp (h3.trans (by decide))
      subst e
      rfl
    · have e : x = 2 := Int32.toInt_inj.mp (h3.trans (by decide))
      subst e
      rfl
theorem x27_44 {L : pj_Loc} {st : List Value} {M : pj_Mem} {x : Int32} {o9 : Option Value × pj_Mem} : pj_Ends 27 (44, L, .int x :: st, M) o9 = pj_Ends 27 (if x = 0 then 72 else if x = 1 then 75 else if x = 2 then 106 else 126, L, st, M) o9 := pj_xs (s27_44)
theorem q27_72 : pj_row 27 72 = some (.iload 4, 2, 0, 0, 0) := by decide +kernel
theorem s27_72 {st : List Value} {M : pj_Mem} {l : pj_Loc} {a0 a1 a2 a3 : Option Value} {x : Int32} : pj_step 27 (72, a0 :: a1 :: a2 :: a3 :: some (.int x) :: l, st, M) = some (74, a0 :: a1 :: a2 :: a3 :: some (.int x) :: l, .int x :: st, M) := st_iload q27_72 rfl
theorem x27_72 {st : List Value} {M : pj_Mem} {l : pj_Loc} {a0 a1 a2 a3 : Option Value} {x : Int32} {o9 : Option Value × pj_Mem} : pj_Ends 27 (72, a0 :: a1 :: a2 :: a3 :: some (.int x) :: l, st, M) o9 = pj_Ends 27 (74, a0 :: a1 :: a2 :: a3 :: some (.int x) :: l, .int x :: st, M) o9 := pj_xs (s27_72)
theorem q27_74 : pj_row 27 74 = some (.ireturn, 1, 0, 0, 0) := by decide +kernel
theorem t27_74 {L : pj_Loc} {M : pj_Mem} {v : Int32} (hv : v = 0 ∨ v = 1) : pj_Ends 27 (74, L, [.int v], M) (some (.int v), M) := pj_Ends.ret q27_74 (pj_rtn_z rt27 hv)
theorem q27_75 : pj_row 27 75 = some (.iload 4, 2, 0, 0, 0) := by decide +kernel
theorem s27_75 {st : List Value} {M : pj_Mem} {l : pj_Loc} {a0 a1 a2 a3 : Option Value} {x : Int32} : pj_step 27 (75, a0 :: a1 :: a2 :: a3 :: some (.int x) :: l, st, M) = some (77, a0 :: a1 :: a2 :: a3 :: some (.int x) :: l, .int x :: st, M) := st_iload q27_75 rfl
theorem x27_75 {st : List Value} {M : pj_Mem} {l : pj_Loc} {a0 a1 a2 a3 : Option Value} {x : Int32} {o9 : Option Value × pj_Mem} : pj_Ends 27 (75, a0 :: a1 :: a2 :: a3 :: some (.int x) :: l, st, M) o9 = pj_Ends 27 (77, a0 :: a1 :: a2 :: a3 :: some (.int x) :: l, .int x :: st, M) o9 := pj_xs (s27_75)
theorem q27_77 : pj_row 27 77 = some (.ifCond .eq 27, 3, 104, 0, 0) := by decide +kernel
theorem s27_77 {L : pj_Loc} {st : List Value} {M : pj_Mem} {x : Int32} : pj_step 27 (77, L, .int x :: st, M) = some (if x = 0 then 104 else 80, L, st, M) := st_if_eq q27_77
theorem x27_77 {L : pj_Loc} {st : List Value} {M : pj_Mem} {x : Int32} {o9 : Option Value × pj_Mem} : pj_Ends 27 (77, L, .int x :: st, M) o9 = pj_Ends 27 (if x = 0 then 104 else 80, L, st, M) o9 := pj_xs (s27_77)
theorem q27_80 : pj_row 27 80 = some (.aload_n 0, 1, 0, 0, 0) := by decide +kernel
theorem s27_80 {st : List Value} {M : pj_Mem} {l : pj_Loc} {x : Nat} : pj_step 27 (80, some (.ref x) :: l, st, M) = some (81, some (.ref x) :: l, .ref x :: st, M) := st_aload_n q27_80 rfl
theorem x27_80 {st : List Value} {M : pj_Mem} {l : pj_Loc} {x : Nat} {o9 : Option Value × pj_Mem} : pj_Ends 27 (80, some (.ref x) :: l, st, M) o9 = pj_Ends 27 (81, some (.ref x) :: l, .ref x :: st, M) o9 := pj_xs (s27_80)
theorem q27_81 : pj_row 27 81 = some (.iconst 0, 1, 0, 0, 0) := by decide +kernel
theorem s27_81 {L : pj_Loc} {st : List Value} {M : pj_Mem}  : pj_step 27 (81, L, st, M) = some (82, L, .int 0 :: st, M) := st_iconst q27_81 (by decide +kernel)
theorem x27_81 {L : pj_Loc} {st : List Value} {M : pj_Mem}  {o9 : Option Value × pj_Mem} : pj_Ends 27 (81, L, st, M) o9 = pj_Ends 27 (82, L, .int 0 :: st, M) o9 := pj_xs (s27_81)
theorem q27_82 : pj_row 27 82 = some (.iload_n 3, 1, 0, 0, 0) := by decide +kernel
theorem s27_82 {st : List Value} {M : pj_Mem} {l : pj_Loc} {a0 a1 a2 : Option Value} {x : Int32} : pj_step 27 (82, a0 :: a1 :: a2 :: some (.int x) :: l, st, M) = some (83, a0 :: a1 :: a2 :: some (.int x) :: l, .int x :: st, M) := st_iload_n q27_82 rfl
theorem x27_82 {st : List Value} {M : pj_Mem} {l : pj_Loc} {a0 a1 a2 : Option Value} {x : Int32} {o9 : Option Value × pj_Mem} : pj_Ends 27 (82, a0 :: a1 :: a2 :: some (.int x) :: l, st, M) o9 = pj_Ends 27 (83, a0 :: a1 :: a2 :: some (.int x) :: l, .int x :: st, M) o9 := pj_xs (s27_82)
theorem q27_83 : pj_row 27 83 = some (.invokevirtual 145, 3, 29, 3, 0) := by decide +kernel
theorem e27_83 {L : pj_Loc} {st : List Value} {N S : Nat} {H : pj_Heap} {o : Option Value × pj_Mem} {M' : pj_Mem} {x0 : Nat} {x1 : Int32} {x2 : Int32} {r : Int32} (h4 : pj_le4 st = true) (hu : pj_isU 3 (H x0) = true) (h1 : pj_Ends 29 (0, [some (.ref x0), some (.int x1), some (.int x2)], [], (N, S, H)) (some (.int r), M')) (h2 : pj_Ends 27 (86, L, .int r :: st, M') o) : pj_Ends 27 (83, L, .int x2 :: .int x1 :: .ref x0 :: st, (N, S, H)) o := ec_v3 q27_83 (Or.inl rfl) h4 hu rfl h1 h2
theorem q27_86 : pj_row 27 86 = some (.ifCond .ne 14, 3, 100, 0, 0) := by decide +kernel
theorem s27_86 {L : pj_Loc} {st : List Value} {M : pj_Mem} {x : Int32} : pj_step 27 (86, L, .int x :: st, M) = some (if ¬ x = 0 then 100 else 89, L, st, M) := st_if_ne q27_86
theorem x27_86 {L : pj_Loc} {st : List Value} {M : pj_Mem} {x : Int32} {o9 : Option Value × pj_Mem} : pj_Ends 27 (86, L, .int x :: st, M) o9 = pj_Ends 27 (if ¬ x = 0 then 100 else 89, L, st, M) o9 := pj_xs (s27_86)
theorem q27_89 : pj_row 27 89 = some (.aload_n 1, 1, 0, 0, 0) := by decide +kernel
theorem s27_89 {st : List Value} {M : pj_Mem} {l : pj_Loc} {a0 : Option Value} {x : Nat} : pj_step 27 (89, a0 :: some (.ref x) :: l, st, M) = some (90, a0 :: some (.ref x) :: l, .ref x :: st, M) := st_aload_n q27_89 rfl
theorem x27_89 {st : List Value} {M : pj_Mem} {l : pj_Loc} {a0 : Option Value} {x : Nat} {o9 : Option Value × pj_Mem} : pj_Ends 27 (89, a0 :: some (.ref x) :: l, st, M) o9 = pj_Ends 27 (90, a0 :: some (.ref x) :: l, .ref x :: st, M) o9 := pj_xs (s27_89)
theorem q27_90 : pj_row 27 90 = some (.getfield 133, 3, 4, 8, 0) := by decide +kernel
theorem s27_90 {L : pj_Loc} {st : List Value} {N S : Nat} {H : pj_Heap} {o : Nat} : pj_step 27 (90, L, .ref o :: st, (N, S, H)) = pj_pv 93 L st (N, S, H) (pj_fld (H o) 4 8) := st_getfield q27_90
theorem x27_90 {L : pj_Loc} {st : List Value} {N S : Nat} {H : pj_Heap} {o : Nat} {o9 : Option Value × pj_Mem} : pj_Ends 27 (90, L, .ref o :: st, (N, S, H)) o9 = pj_then 27 o9 (pj_pv 93 L st (N, S, H) (pj_fld (H o) 4 8)) := pj_xt q27_90 rfl (pj_cl_nc rfl) (s27_90)
theorem q27_93 : pj_row 27 93 = some (.iconst 0, 1, 0, 0, 0) := by decide +kernel
theorem s27_93 {L : pj_Loc} {st : List Value} {M : pj_Mem}  : pj_step 27 (93, L, st, M) = some (94, L, .int 0 :: st, M) := st_iconst q27_93 (by decide +kernel)
theorem x27_93 {L : pj_Loc} {st : List Value} {M : pj_Mem}  {o9 : Option Value × pj_Mem} : pj_Ends 27 (93, L, st, M) o9 = pj_Ends 27 (94, L, .int 0 :: st, M) o9 := pj_xs (s27_93)
theorem q27_94 : pj_row 27 94 = some (.invokestatic 109, 3, 8, 2, 1) := by decide +kernel
theorem e27_94 {L : pj_Loc} {st : List Value} {N S : Nat} {H : pj_Heap} {o : Option Value × pj_Mem} {M' : pj_Mem} {x0 : Int32} {x1 : Int32} {r : Int32} (h4 : pj_le4 st = true) (h1 : pj_Ends 8 (0, [some (.int x0), some (.int x1)], [], (N, S, H)) (some (.int r), M')) (h2 : pj_Ends 27 (97, L, .int r :: st, M') o) : pj_Ends 27 (94, L, .int x1 :: .int x0 :: st, (N, S, H)) o := ec_s2 q27_94 (Or.inr rfl) h4 rfl h1 h2
theorem q27_97 : pj_row 27 97 = some (.ifCond .eq 7, 3, 104, 0, 0) := by decide +kernel
theorem s27_97 {L : pj_Loc} {st : List Value} {M : pj_Mem} {x : Int32} : pj_step 27 (97, L, .int x :: st, M) = some (if x = 0 then 104 else 100, L, st, M) := st_if_eq q27_97
theorem x27_97 {L : pj_Loc} {st : List Value} {M : pj_Mem} {x : Int32} {o9 : Option Value × pj_Mem} : pj_Ends 27 (97, L, .int x :: st, M) o9 = pj_Ends 27 (if x = 0 then 104 else 100, L, st, M) o9 := pj_xs (s27_97)
theorem q27_100 : pj_row 27 100 = some (.iconst 1, 1, 0, 0, 0) := by decide +kernel
theorem s27_100 {L : pj_Loc} {st : List Value} {M : pj_Mem}  : pj_step 27 (100, L, st, M) = some (101, L, .int 1 :: st, M) := st_iconst q27_100 (by decide +kernel)
theorem x27_100 {L : pj_Loc} {st : List Value} {M : pj_Mem}  {o9 : Option Value × pj_Mem} : pj_Ends 27 (100, L, st, M) o9 = pj_Ends 27 (101, L, .int 1 :: st, M) o9 := pj_xs (s27_100)
theorem q27_101 : pj_row 27 101 = some (.goto 4, 3, 105, 0, 0) := by decide +kernel
theorem s27_101 {L : pj_Loc} {st : List Value} {M : pj_Mem}  : pj_step 27 (101, L, st, M) = some (105, L, st, M) := st_goto q27_101
theorem x27_101 {L : pj_Loc} {st : List Value} {M : pj_Mem}  {o9 : Option Value × pj_Mem} : pj_Ends 27 (101, L, st, M) o9 = pj_Ends 27 (105, L, st, M) o9 := pj_xs (s27_101)
theorem q27_104 : pj_row 27 104 = some (.iconst 0, 1, 0, 0, 0) := by decide +kernel
theorem s27_104 {L : pj_Loc} {st : List Value} {M : pj_Mem}  : pj_step 27 (104, L, st, M) = some (105, L, .int 0 :: st, M) := st_iconst q27_104 (by decide +kernel)
theorem x27_104 {L : pj_Loc} {st : List Value} {M : pj_Mem}  {o9 : Option Value × pj_Mem} : pj_Ends 27 (104, L, st, M) o9 = pj_Ends 27 (105, L, .int 0 :: st, M) o9 := pj_xs (s27_104)
theorem q27_105 : pj_row 27 105 = some (.ireturn, 1, 0, 0, 0) := by decide +kernel
theorem t27_105 {L : pj_Loc} {M : pj_Mem} {v : Int32} (hv : v = 0 ∨ v = 1) : pj_Ends 27 (105, L, [.int v], M) (some (.int v), M) := pj_Ends.ret q27_105 (pj_rtn_z rt27 hv)
theorem q27_106 : pj_row 27 106 = some (.iload 5, 2, 0, 0, 0) := by decide +kernel
theorem s27_106 {st : List Value} {M : pj_Mem} {l : pj_Loc} {a0 a1 a2 a3 a4 : Option Value} {x : Int32} : pj_step 27 (106, a0 :: a1 :: a2 :: a3 :: a4 :: some (.int x) :: l, st, M) = some (108, a0 :: a1 :: a2 :: a3 :: a4 :: some (.int x) :: l, .int x :: st, M) := st_iload q27_106 rfl
theorem x27_106 {st : List Value} {M : pj_Mem} {l : pj_Loc} {a0 a1 a2 a3 a4 : Option Value} {x : Int32} {o9 : Option Value × pj_Mem} : pj_Ends 27 (106, a0 :: a1 :: a2 :: a3 :: a4 :: some (.int x) :: l, st, M) o9 = pj_Ends 27 (108, a0 :: a1 :: a2 :: a3 :: a4 :: some (.int x) :: l, .int x :: st, M) o9 := pj_xs (s27_106)
theorem q27_108 : pj_row 27 108 = some (.ifCond .eq 16, 3, 124, 0, 0) := by decide +kernel
theorem s27_108 {L : pj_Loc} {st : List Value} {M : pj_Mem} {x : Int32} : pj_step 27 (108, L, .int x :: st, M) = some (if x = 0 then 124 else 111, L, st, M) := st_if_eq q27_108
theorem x27_108 {L : pj_Loc} {st : List Value} {M : pj_Mem} {x : Int32} {o9 : Option Value × pj_Mem} : pj_Ends 27 (108, L, .int x :: st, M) o9 = pj_Ends 27 (if x = 0 then 124 else 111, L, st, M) o9 := pj_xs (s27_108)
theorem q27_111 : pj_row 27 111 = some (.aload_n 0, 1, 0, 0, 0) := by decide +kernel
theorem s27_111 {st : List Value} {M : pj_Mem} {l : pj_Loc} {x : Nat} : pj_step 27 (111, some (.ref x) :: l, st, M) = some (112, some (.ref x) :: l, .ref x :: st, M) := st_aload_n q27_111 rfl
theorem x27_111 {st : List Value} {M : pj_Mem} {l : pj_Loc} {x : Nat} {o9 : Option Value × pj_Mem} : pj_Ends 27 (111, some (.ref x) :: l, st, M) o9 = pj_Ends 27 (112, some (.ref x) :: l, .ref x :: st, M) o9 := pj_xs (s27_111)
theorem q27_112 : pj_row 27 112 = some (.iconst 1, 1, 0, 0, 0) := by decide +kernel
theorem s27_112 {L : pj_Loc} {st : List Value} {M : pj_Mem}  : pj_step 27 (112, L, st, M) = some (113, L, .int 1 :: st, M) := st_iconst q27_112 (by decide +kernel)
theorem x27_112 {L : pj_Loc} {st : List Value} {M : pj_Mem}  {o9 : Option Value × pj_Mem} : pj_Ends 27 (112, L, st, M) o9 = pj_Ends 27 (113, L, .int 1 :: st, M) o9 := pj_xs (s27_112)
theorem q27_113 : pj_row 27 113 = some (.iload_n 3, 1, 0, 0, 0) := by decide +kernel
theorem s27_113 {st : List Value} {M : pj_Mem} {l : pj_Loc} {a0 a1 a2 : Option Value} {x : Int32} : pj_step 27 (113, a0 :: a1 :: a2 :: some (.int x) :: l, st, M) = some (114, a0 :: a1 :: a2 :: some (.int x) :: l, .int x :: st, M) := st_iload_n q27_113 rfl
theorem x27_113 {st : List Value} {M : pj_Mem} {l : pj_Loc} {a0 a1 a2 : Option Value} {x : Int32} {o9 : Option Value × pj_Mem} : pj_Ends 27 (113, a0 :: a1 :: a2 :: some (.int x) :: l, st, M) o9 = pj_Ends 27 (114, a0 :: a1 :: a2 :: some (.int x) :: l, .int x :: st, M) o9 := pj_xs (s27_113)
theorem q27_114 : pj_row 27 114 = some (.invokevirtual 145, 3, 29, 3, 0) := by decide +kernel
theorem e27_114 {L : pj_Loc} {st : List Value} {N S : Nat} {H : pj_Heap} {o : Option Value × pj_Mem} {M' : pj_Mem} {x0 : Nat} {x1 : Int32} {x2 : Int32} {r : Int32} (h4 : pj_le4 st = true) (hu : pj_isU 3 (H x0) = true) (h1 : pj_Ends 29 (0, [some (.ref x0), some (.int x1), some (.int x2)], [], (N, S, H)) (some (.int r), M')) (h2 : pj_Ends 27 (117, L, .int r :: st, M') o) : pj_Ends 27 (114, L, .int x2 :: .int x1 :: .ref x0 :: st, (N, S, H)) o := ec_v3 q27_114 (Or.inl rfl) h4 hu rfl h1 h2
theorem q27_117 : pj_row 27 117 = some (.ifCond .eq 7, 3, 124, 0, 0) := by decide +kernel
theorem s27_117 {L : pj_Loc} {st : List Value} {M : pj_Mem} {x : Int32} : pj_step 27 (117, L, .int x :: st, M) = some (if x = 0 then 124 else 120, L, st, M) := st_if_eq q27_117
theorem x27_117 {L : pj_Loc} {st : List Value} {M : pj_Mem} {x : Int32} {o9 : Option Value × pj_Mem} : pj_Ends 27 (117, L, .int x :: st, M) o9 = pj_Ends 27 (if x = 0 then 124 else 120, L, st, M) o9 := pj_xs (s27_117)
theorem q27_120 : pj_row 27 120 = some (.iconst 1, 1, 0, 0, 0) := by decide +kernel
theorem s27_120 {L : pj_Loc} {st : List Value} {M : pj_Mem}  : pj_step 27 (120, L, st, M) = some (121, L, .int 1 :: st, M) := st_iconst q27_120 (by decide +kernel)
theorem x27_120 {L : pj_Loc} {st : List Value} {M : pj_Mem}  {o9 : Option Value × pj_Mem} : pj_Ends 27 (120, L, st, M) o9 = pj_Ends 27 (121, L, .int 1 :: st, M) o9 := pj_xs (s27_120)
theorem q27_121 : pj_row 27 121 = some (.goto 4, 3, 125, 0, 0) := by decide +kernel
theorem s27_121 {L : pj_Loc} {st : List Value} {M : pj_Mem}  : pj_step 27 (121, L, st, M) = some (125, L, st, M) := st_goto q27_121
theorem x27_121 {L : pj_Loc} {st : List Value} {M : pj_Mem}  {o9 : Option Value × pj_Mem} : pj_Ends 27 (121, L, st, M) o9 = pj_Ends 27 (125, L, st, M) o9 := pj_xs (s27_121)
theorem q27_124 : pj_row 27 124 = some (.iconst 0, 1, 0, 0, 0) := by decide +kernel
theorem s27_124 {L : pj_Loc} {st : List Value} {M : pj_Mem}  : pj_step 27 (124, L, st, M) = some (125, L, .int 0 :: st, M) := st_iconst q27_124 (by decide +kernel)
theorem x27_124 {L : pj_Loc} {st : List Value} {M : pj_Mem}  {o9 : Option Value × pj_Mem} : pj_Ends 27 (124, L, st, M) o9 = pj_Ends 27 (125, L, .int 0 :: st, M) o9 := pj_xs (s27_124)
theorem q27_125 : pj_row 27 125 = some (.ireturn, 1, 0, 0, 0) := by decide +kernel
theorem t27_125 {L : pj_Loc} {M : pj_Mem} {v : Int32} (hv : v = 0 ∨ v = 1) : pj_Ends 27 (125, L, [.int v], M) (some (.int v), M) := pj_Ends.ret q27_125 (pj_rtn_z rt27 hv)
theorem q27_126 : pj_row 27 126 = some (.iconst 0, 1, 0, 0, 0) := by decide +kernel
theorem s27_126 {L : pj_Loc} {st : List Value} {M : pj_Mem}  : pj_step 27 (126, L, st, M) = some (127, L, .int 0 :: st, M) := st_iconst q27_126 (by decide +kernel)
theorem x27_126 {L : pj_Loc} {st : List Value} {M : pj_Mem}  {o9 : Option Value × pj_Mem} : pj_Ends 27 (126, L, st, M) o9 = pj_Ends 27 (127, L, .int 0 :: st, M) o9 := pj_xs (s27_126)
theorem q27_127 : pj_row 27 127 = some (.ireturn, 1, 0, 0, 0) := by decide +kernel
theorem t27_127 {L : pj_Loc} {M : pj_Mem} {v : Int32} (hv : v = 0 ∨ v = 1) : pj_Ends 27 (127, L, [.int v], M) (some (.int v), M) := pj_Ends.ret q27_127 (pj_rtn_z rt27 hv)
theorem rt28 : pj_rt 28 = some .int := rfl
theorem q28_0 : pj_row 28 0 = some (.iload_n 0, 1, 0, 0, 0) := by decide +kernel
theorem s28_0 {st : List Value} {M : pj_Mem} {l : pj_Loc} {x : Int32} : pj_step 28 (0, some (.int x) :: l, st, M) = some (1, some (.int x) :: l, .int x :: st, M) := st_iload_n q28_0 rfl
theorem x28_0 {st : List Value} {M : pj_Mem} {l : pj_Loc} {x : Int32} {o9 : Option Value × pj_Mem} : pj_Ends 28 (0, some (.int x) :: l, st, M) o9 = pj_Ends 28 (1, some (.int x) :: l, .int x :: st, M) o9 := pj_xs (s28_0)
theorem q28_1 : pj_row 28 1 = some (.iload_n 0, 1, 0, 0, 0) := by decide +kernel
theorem s28_1 {st : List Value} {M : pj_Mem} {l : pj_Loc} {x : Int32} : pj_step 28 (1, some (.int x) :: l, st, M) = some (2, some (.int x) :: l, .int x :: st, M) := st_iload_n q28_1 rfl
theorem x28_1 {st : List Value} {M : pj_Mem} {l : pj_Loc} {x : Int32} {o9 : Option Value × pj_Mem} : pj_Ends 28 (1, some (.int x) :: l, st, M) o9 = pj_Ends 28 (2, some (.int x) :: l, .int x :: st, M) o9 := pj_xs (s28_1)
theorem q28_2 : pj_row 28 2 = some (.iconst 1, 1, 0, 0, 0) := by decide +kernel
theorem s28_2 {L : pj_Loc} {st : List Value} {M : pj_Mem}  : pj_step 28 (2, L, st, M) = some (3, L, .int 1 :: st, M) := st_iconst q28_2 (by decide +kernel)
theorem x28_2 {L : pj_Loc} {st : List Value} {M : pj_Mem}  {o9 : Option Value × pj_Mem} : pj_Ends 28 (2, L, st, M) o9 = pj_Ends 28 (3, L, .int 1 :: st, M) o9 := pj_xs (s28_2)
theorem q28_3 : pj_row 28 3 = some (.iushr, 1, 0, 0, 0) := by decide +kernel
theorem s28_3 {L : pj_Loc} {st : List Value} {M : pj_Mem} {x y : Int32} : pj_step 28 (3, L, .int y :: .int x :: st, M) = some (4, L, .int ((x.toUInt32 >>> (y.toUInt32 &&& Int32.toUInt32 31)).toInt32) :: st, M) := st_iushr q28_3
theorem x28_3 {L : pj_Loc} {st : List Value} {M : pj_Mem} {x y : Int32} {o9 : Option Value × pj_Mem} : pj_Ends 28 (3, L, .int y :: .int x :: st, M) o9 = pj_Ends 28 (4, L, .int ((x.toUInt32 >>> (y.toUInt32 &&& Int32.toUInt32 31)).toInt32) :: st, M) o9 := pj_xs (s28_3)
theorem q28_4 : pj_row 28 4 = some (.ldc_w 265, 3, 0, 0, 1431655765) := by decide +kernel
theorem s28_4 {L : pj_Loc} {st : List Value} {M : pj_Mem}  : pj_step 28 (4, L, st, M) = some (7, L, .int 1431655765 :: st, M) := st_ldc_w q28_4 (by decide +kernel)
theorem x28_4 {L : pj_Loc} {st : List Value} {M : pj_Mem}  {o9 : Option Value × pj_Mem} : pj_Ends 28 (4, L, st, M) o9 = pj_Ends 28 (7, L, .int 1431655765 :: st, M) o9 := pj_xs (s28_4)
theorem q28_7 : pj_row 28 7 = some (.iand, 1, 0, 0, 0) := by decide +kernel
theorem s28_7 {L : pj_Loc} {st : List Value} {M : pj_Mem} {x y : Int32} : pj_step 28 (7, L, .int y :: .int x :: st, M) = some (8, L, .int (x &&& y) :: st, M) := st_iand q28_7
theorem x28_7 {L : pj_Loc} {st : List Value} {M : pj_Mem} {x y : Int32} {o9 : Option Value × pj_Mem} : pj_Ends 28 (7, L, .int y :: .int x :: st, M) o9 = pj_Ends 28 (8, L, .int (x &&& y) :: st, M) o9 := pj_xs (s28_7)
theorem q28_8 : pj_row 28 8 = some (.isub, 1, 0, 0, 0) := by decide +kernel
theorem s28_8 {L : pj_Loc} {st : List Value} {M : pj_Mem} {x y : Int32} : pj_step 28 (8, L, .int y :: .int x :: st, M) = some (9, L, .int (x - y) :: st, M) := st_isub q28_8
theorem x28_8 {L : pj_Loc} {st : List Value} {M : pj_Mem} {x y : Int32} {o9 : Option Value × pj_Mem} : pj_Ends 28 (8, L, .int y :: .int x :: st, M) o9 = pj_Ends 28 (9, L, .int (x - y) :: st, M) o9 := pj_xs (s28_8)
theorem q28_9 : pj_row 28 9 = some (.istore_n 0, 1, 0, 0, 0) := by decide +kernel
theorem s28_9 {st : List Value} {M : pj_Mem} {l : pj_Loc} {a0 : Option Value} {x : Int32} : pj_step 28 (9, a0 :: l, .int x :: st, M) = some (10, some (.int x) :: l, st, M) := st_istore_n q28_9 (pj_st_0)
theorem x28_9 {st : List Value} {M : pj_Mem} {l : pj_Loc} {a0 : Option Value} {x : Int32} {o9 : Option Value × pj_Mem} : pj_Ends 28 (9, a0 :: l, .int x :: st, M) o9 = pj_Ends 28 (10, some (.int x) :: l, st, M) o9 := pj_xs (s28_9)
theorem q28_10 : pj_row 28 10 = some (.iload_n 0, 1, 0, 0, 0) := by decide +kernel
theorem s28_10 {st : List Value} {M : pj_Mem} {l : pj_Loc} {x : Int32} : pj_step 28 (10, some (.int x) :: l, st, M) = some (11, some (.int x) :: l, .int x :: st, M) := st_iload_n q28_10 rfl
theorem x28_10 {st : List Value} {M : pj_Mem} {l : pj_Loc} {x : Int32} {o9 : Option Value × pj_Mem} : pj_Ends 28 (10, some (.int x) :: l, st, M) o9 = pj_Ends 28 (11, some (.int x) :: l, .int x :: st, M) o9 := pj_xs (s28_10)
theorem q28_11 : pj_row 28 11 = some (.ldc_w 266, 3, 0, 0, 858993459) := by decide +kernel
theorem s28_11 {L : pj_Loc} {st : List Value} {M : pj_Mem}  : pj_step 28 (11, L, st, M) = some (14, L, .int 858993459 :: st, M) := st_ldc_w q28_11 (by decide +kernel)
theorem x28_11 {L : pj_Loc} {st : List Value} {M : pj_Mem}  {o9 : Option Value × pj_Mem} : pj_Ends 28 (11, L, st, M) o9 = pj_Ends 28 (14, L, .int 858993459 :: st, M) o9 := pj_xs (s28_11)
theorem q28_14 : pj_row 28 14 = some (.iand, 1, 0, 0, 0) := by decide +kernel
theorem s28_14 {L : pj_Loc} {st : List Value} {M : pj_Mem} {x y : Int32} : pj_step 28 (14, L, .int y :: .int x :: st, M) = some (15, L, .int (x &&& y) :: st, M) := st_iand q28_14
theorem x28_14 {L : pj_Loc} {st : List Value} {M : pj_Mem} {x y : Int32} {o9 : Option Value × pj_Mem} : pj_Ends 28 (14, L, .int y :: .int x :: st, M) o9 = pj_Ends 28 (15, L, .int (x &&& y) :: st, M) o9 := pj_xs (s28_14)
theorem q28_15 : pj_row 28 15 = some (.iload_n 0, 1, 0, 0, 0) := by decide +kernel
theorem s28_15 {st : List Value} {M : pj_Mem} {l : pj_Loc} {x : Int32} : pj_step 28 (15, some (.int x) :: l, st, M) = some (16, some (.int x) :: l, .int x :: st, M) := st_iload_n q28_15 rfl
theorem x28_15 {st : List Value} {M : pj_Mem} {l : pj_Loc} {x : Int32} {o9 : Option Value × pj_Mem} : pj_Ends 28 (15, some (.int x) :: l, st, M) o9 = pj_Ends 28 (16, some (.int x) :: l, .int x :: st, M) o9 := pj_xs (s28_15)
theorem q28_16 : pj_row 28 16 = some (.iconst 2, 1, 0, 0, 0) := by decide +kernel
theorem s28_16 {L : pj_Loc} {st : List Value} {M : pj_Mem}  : pj_step 28 (16, L, st, M) = some (17, L, .int 2 :: st, M) := st_iconst q28_16 (by decide +kernel)
theorem x28_16 {L : pj_Loc} {st : List Value} {M : pj_Mem}  {o9 : Option Value × pj_Mem} : pj_Ends 28 (16, L, st, M) o9 = pj_Ends 28 (17, L, .int 2 :: st, M) o9 := pj_xs (s28_16)
theorem q28_17 : pj_row 28 17 = some (.iushr, 1, 0, 0, 0) := by decide +kernel
theorem s28_17 {L : pj_Loc} {st : List Value} {M : pj_Mem} {x y : Int32} : pj_step 28 (17, L, .int y :: .int x :: st, M) = some (18, L, .int ((x.toUInt32 >>> (y.toUInt32 &&& Int32.toUInt32 31)).toInt32) :: st, M) := st_iushr q28_17
theorem x28_17 {L : pj_Loc} {st : List Value} {M : pj_Mem} {x y : Int32} {o9 : Option Value × pj_Mem} : pj_Ends 28 (17, L, .int y :: .int x :: st, M) o9 = pj_Ends 28 (18, L, .int ((x.toUInt32 >>> (y.toUInt32 &&& Int32.toUInt32 31)).toInt32) :: st, M) o9 := pj_xs (s28_17)
theorem q28_18 : pj_row 28 18 = some (.ldc_w 266, 3, 0, 0, 858993459) := by decide +kernel
theorem s28_18 {L : pj_Loc} {st : List Value} {M : pj_Mem}  : pj_step 28 (18, L, st, M) = some (21, L, .int 858993459 :: st, M) := st_ldc_w q28_18 (by decide +kernel)
theorem x28_18 {L : pj_Loc} {st : List Value} {M : pj_Mem}  {o9 : Option Value × pj_Mem} : pj_Ends 28 (18, L, st, M) o9 = pj_Ends 28 (21, L, .int 858993459 :: st, M) o9 := pj_xs (s28_18)
theorem q28_21 : pj_row 28 21 = some (.iand, 1, 0, 0, 0) := by decide +kernel
theorem s28_21 {L : pj_Loc} {st : List Value} {M : pj_Mem} {x y : Int32} : pj_step 28 (21, L, .int y :: .int x :: st, M) = some (22, L, .int (x &&& y) :: st, M) := st_iand q28_21
theorem x28_21 {L : pj_Loc} {st : List Value} {M : pj_Mem} {x y : Int32} {o9 : Option Value × pj_Mem} : pj_Ends 28 (21, L, .int y :: .int x :: st, M) o9 = pj_Ends 28 (22, L, .int (x &&& y) :: st, M) o9 := pj_xs (s28_21)
theorem q28_22 : pj_row 28 22 = some (.iadd, 1, 0, 0, 0) := by decide +kernel
theorem s28_22 {L : pj_Loc} {st : List Value} {M : pj_Mem} {x y : Int32} : pj_step 28 (22, L, .int y :: .int x :: st, M) = some (23, L, .int (x + y) :: st, M) := st_iadd q28_22
theorem x28_22 {L : pj_Loc} {st : List Value} {M : pj_Mem} {x y : Int32} {o9 : Option Value × pj_Mem} : pj_Ends 28 (22, L, .int y :: .int x :: st, M) o9 = pj_Ends 28 (23, L, .int (x + y) :: st, M) o9 := pj_xs (s28_22)
theorem q28_23 : pj_row 28 23 = some (.istore_n 0, 1, 0, 0, 0) := by decide +kernel
theorem s28_23 {st : List Value} {M : pj_Mem} {l : pj_Loc} {a0 : Option Value} {x : Int32} : pj_step 28 (23, a0 :: l, .int x :: st, M) = some (24, some (.int x) :: l, st, M) := st_istore_n q28_23 (pj_st_0)
theorem x28_23 {st : List Value} {M : pj_Mem} {l : pj_Loc} {a0 : Option Value} {x : Int32} {o9 : Option Value × pj_Mem} : pj_Ends 28 (23, a0 :: l, .int x :: st, M) o9 = pj_Ends 28 (24, some (.int x) :: l, st, M) o9 := pj_xs (s28_23)
theorem q28_24 : pj_row 28 24 = some (.iload_n 0, 1, 0, 0, 0) := by decide +kernel
theorem s28_24 {st : List Value} {M : pj_Mem} {l : pj_Loc} {x : Int32} : pj_step 28 (24, some (.int x) :: l, st, M) = some (25, some (.int x) :: l, .int x :: st, M) := st_iload_n q28_24 rfl
theorem x28_24 {st : List Value} {M : pj_Mem} {l : pj_Loc} {x : Int32} {o9 : Option Value × pj_Mem} : pj_Ends 28 (24, some (.int x) :: l, st, M) o9 = pj_Ends 28 (25, some (.int x) :: l, .int x :: st, M) o9 := pj_xs (s28_24)
theorem q28_25 : pj_row 28 25 = some (.iload_n 0, 1, 0, 0, 0) := by decide +kernel
theorem s28_25 {st : List Value} {M : pj_Mem} {l : pj_Loc} {x : Int32} : pj_step 28 (25, some (.int x) :: l, st, M) = some (26, some (.int x) :: l, .int x :: st, M) := st_iload_n q28_25 rfl
theorem x28_25 {st : List Value} {M : pj_Mem} {l : pj_Loc} {x : Int32} {o9 : Option Value × pj_Mem} : pj_Ends 28 (25, some (.int x) :: l, st, M) o9 = pj_Ends 28 (26, some (.int x) :: l, .int x :: st, M) o9 := pj_xs (s28_25)
theorem q28_26 : pj_row 28 26 = some (.iconst 4, 1, 0, 0, 0) := by decide +kernel
theorem s28_26 {L : pj_Loc} {st : List Value} {M : pj_Mem}  : pj_step 28 (26, L, st, M) = some (27, L, .int 4 :: st, M) := st_iconst q28_26 (by decide +kernel)
theorem x28_26 {L : pj_Loc} {st : List Value} {M : pj_Mem}  {o9 : Option Value × pj_Mem} : pj_Ends 28 (26, L, st, M) o9 = pj_Ends 28 (27, L, .int 4 :: st, M) o9 := pj_xs (s28_26)
theorem q28_27 : pj_row 28 27 = some (.iushr, 1, 0, 0, 0) := by decide +kernel
theorem s28_27 {L : pj_Loc} {st : List Value} {M : pj_Mem} {x y : Int32} : pj_step 28 (27, L, .int y :: .int x :: st, M) = some (28, L, .int ((x.toUInt32 >>> (y.toUInt32 &&& Int32.toUInt32 31)).toInt32) :: st, M) := st_iushr q28_27
theorem x28_27 {L : pj_Loc} {st : List Value} {M : pj_Mem} {x y : Int32} {o9 : Option Value × pj_Mem} : pj_Ends 28 (27, L, .int y :: .int x :: st, M) o9 = pj_Ends 28 (28, L, .int ((x.toUInt32 >>> (y.toUInt32 &&& Int32.toUInt32 31)).toInt32) :: st, M) o9 := pj_xs (s28_27)
theorem q28_28 : pj_row 28 28 = some (.iadd, 1, 0, 0, 0) := by decide +kernel
theorem s28_28 {L : pj_Loc} {st : List Value} {M : pj_Mem} {x y : Int32} : pj_step 28 (28, L, .int y :: .int x :: st, M) = some (29, L, .int (x + y) :: st, M) := st_iadd q28_28
theorem x28_28 {L : pj_Loc} {st : List Value} {M : pj_Mem} {x y : Int32} {o9 : Option Value × pj_Mem} : pj_Ends 28 (28, L, .int y :: .int x :: st, M) o9 = pj_Ends 28 (29, L, .int (x + y) :: st, M) o9 := pj_xs (s28_28)
theorem q28_29 : pj_row 28 29 = some (.ldc_w 267, 3, 0, 0, 252645135) := by decide +kernel
theorem s28_29 {L : pj_Loc} {st : List Value} {M : pj_Mem}  : pj_step 28 (29, L, st, M) = some (32, L, .int 252645135 :: st, M) := st_ldc_w q28_29 (by decide +kernel)
theorem x28_29 {L : pj_Loc} {st : List Value} {M : pj_Mem}  {o9 : Option Value × pj_Mem} : pj_Ends 28 (29, L, st, M) o9 = pj_Ends 28 (32, L, .int 252645135 :: st, M) o9 := pj_xs (s28_29)
theorem q28_32 : pj_row 28 32 = some (.iand, 1, 0, 0, 0) := by decide +kernel
theorem s28_32 {L : pj_Loc} {st : List Value} {M : pj_Mem} {x y : Int32} : pj_step 28 (32, L, .int y :: .int x :: st, M) = some (33, L, .int (x &&& y) :: st, M) := st_iand q28_32
theorem x28_32 {L : pj_Loc} {st : List Value} {M : pj_Mem} {x y : Int32} {o9 : Option Value × pj_Mem} : pj_Ends 28 (32, L, .int y :: .int x :: st, M) o9 = pj_Ends 28 (33, L, .int (x &&& y) :: st, M) o9 := pj_xs (s28_32)
theorem q28_33 : pj_row 28 33 = some (.istore_n 0, 1, 0, 0, 0) := by decide +kernel
theorem s28_33 {st : List Value} {M : pj_Mem} {l : pj_Loc} {a0 : Option Value} {x : Int32} : pj_step 28 (33, a0 :: l, .int x :: st, M) = some (34, some (.int x) :: l, st, M) := st_istore_n q28_33 (pj_st_0)
theorem x28_33 {st : List Value} {M : pj_Mem} {l : pj_Loc} {a0 : Option Value} {x : Int32} {o9 : Option Value × pj_Mem} : pj_Ends 28 (33, a0 :: l, .int x :: st, M) o9 = pj_Ends 28 (34, some (.int x) :: l, st, M) o9 := pj_xs (s28_33)
theorem q28_34 : pj_row 28 34 = some (.iload_n 0, 1, 0, 0, 0) := by decide +kernel
theorem s28_34 {st : List Value} {M : pj_Mem} {l : pj_Loc} {x : Int32} : pj_step 28 (34, some (.int x) :: l, st, M) = some (35, some (.int x) :: l, .int x :: st, M) := st_iload_n q28_34 rfl
theorem x28_34 {st : List Value} {M : pj_Mem} {l : pj_Loc} {x : Int32} {o9 : Option Value × pj_Mem} : pj_Ends 28 (34, some (.int x) :: l, st, M) o9 = pj_Ends 28 (35, some (.int x) :: l, .int x :: st, M) o9 := pj_xs (s28_34)
theorem q28_35 : pj_row 28 35 = some (.iload_n 0, 1, 0, 0, 0) := by decide +kernel
theorem s28_35 {st : List Value} {M : pj_Mem} {l : pj_Loc} {x : Int32} : pj_step 28 (35, some (.int x) :: l, st, M) = some (36, some (.int x) :: l, .int x :: st, M) := st_iload_n q28_35 rfl
theorem x28_35 {st : List Value} {M : pj_Mem} {l : pj_Loc} {x : Int32} {o9 : Option Value × pj_Mem} : pj_Ends 28 (35, some (.int x) :: l, st, M) o9 = pj_Ends 28 (36, some (.int x) :: l, .int x :: st, M) o9 := pj_xs (s28_35)
theorem q28_36 : pj_row 28 36 = some (.bipush 8, 2, 0, 0, 0) := by decide +kernel
theorem s28_36 {L : pj_Loc} {st : List Value} {M : pj_Mem}  : pj_step 28 (36, L, st, M) = some (38, L, .int 8 :: st, M) := st_bipush q28_36 (by decide +kernel)
theorem x28_36 {L : pj_Loc} {st : List Value} {M : pj_Mem}  {o9 : Option Value × pj_Mem} : pj_Ends 28 (36, L, st, M) o9 = pj_Ends 28 (38, L, .int 8 :: st, M) o9 := pj_xs (s28_36)
theorem q28_38 : pj_row 28 38 = some (.iushr, 1, 0, 0, 0) := by decide +kernel
theorem s28_38 {L : pj_Loc} {st : List Value} {M : pj_Mem} {x y : Int32} : pj_step 28 (38, L, .int y :: .int x :: st, M) = some (39, L, .int ((x.toUInt32 >>> (y.toUInt32 &&& Int32.toUInt32 31)).toInt32) :: st, M) := st_iushr q28_38
theorem x28_38 {L : pj_Loc} {st : List Value} {M : pj_Mem} {x y : Int32} {o9 : Option Value × pj_Mem} : pj_Ends 28 (38, L, .int y :: .int x :: st, M) o9 = pj_Ends 28 (39, L, .int ((x.toUInt32 >>> (y.toUInt32 &&& Int32.toUInt32 31)).toInt32) :: st, M) o9 := pj_xs (s28_38)
theorem q28_39 : pj_row 28 39 = some (.iadd, 1, 0, 0, 0) := by decide +kernel
theorem s28_39 {L : pj_Loc} {st : List Value} {M : pj_Mem} {x y : Int32} : pj_step 28 (39, L, .int y :: .int x :: st, M) = some (40, L, .int (x + y) :: st, M) := st_iadd q28_39
theorem x28_39 {L : pj_Loc} {st : List Value} {M : pj_Mem} {x y : Int32} {o9 : Option Value × pj_Mem} : pj_Ends 28 (39, L, .int y :: .int x :: st, M) o9 = pj_Ends 28 (40, L, .int (x + y) :: st, M) o9 := pj_xs (s28_39)
theorem q28_40 : pj_row 28 40 = some (.istore_n 0, 1, 0, 0, 0) := by decide +kernel
theorem s28_40 {st : List Value} {M : pj_Mem} {l : pj_Loc} {a0 : Option Value} {x : Int32} : pj_step 28 (40, a0 :: l, .int x :: st, M) = some (41, some (.int x) :: l, st, M) := st_istore_n q28_40 (pj_st_0)
theorem x28_40 {st : List Value} {M : pj_Mem} {l : pj_Loc} {a0 : Option Value} {x : Int32} {o9 : Option Value × pj_Mem} : pj_Ends 28 (40, a0 :: l, .int x :: st, M) o9 = pj_Ends 28 (41, some (.int x) :: l, st, M) o9 := pj_xs (s28_40)
theorem q28_41 : pj_row 28 41 = some (.iload_n 0, 1, 0, 0, 0) := by decide +kernel
theorem s28_41 {st : List Value} {M : pj_Mem} {l : pj_Loc} {x : Int32} : pj_step 28 (41, some (.int x) :: l, st, M) = some (42, some (.int x) :: l, .int x :: st, M) := st_iload_n q28_41 rfl
theorem x28_41 {st : List Value} {M : pj_Mem} {l : pj_Loc} {x : Int32} {o9 : Option Value × pj_Mem} : pj_Ends 28 (41, some (.int x) :: l, st, M) o9 = pj_Ends 28 (42, some (.int x) :: l, .int x :: st, M) o9 := pj_xs (s28_41)
theorem q28_42 : pj_row 28 42 = some (.iload_n 0, 1, 0, 0, 0) := by decide +kernel
theorem s28_42 {st : List Value} {M : pj_Mem} {l : pj_Loc} {x : Int32} : pj_step 28 (42, some (.int x) :: l, st, M) = some (43, some (.int x) :: l, .int x :: st, M) := st_iload_n q28_42 rfl
theorem x28_42 {st : List Value} {M : pj_Mem} {l : pj_Loc} {x : Int32} {o9 : Option Value × pj_Mem} : pj_Ends 28 (42, some (.int x) :: l, st, M) o9 = pj_Ends 28 (43, some (.int x) :: l, .int x :: st, M) o9 := pj_xs (s28_42)
theorem q28_43 : pj_row 28 43 = some (.bipush 16, 2, 0, 0, 0) := by decide +kernel
theorem s28_43 {L : pj_Loc} {st : List Value} {M : pj_Mem}  : pj_step 28 (43, L, st, M) = some (45, L, .int 16 :: st, M) := st_bipush q28_43 (by decide +kernel)
theorem x28_43 {L : pj_Loc} {st : List Value} {M : pj_Mem}  {o9 : Option Value × pj_Mem} : pj_Ends 28 (43, L, st, M) o9 = pj_Ends 28 (45, L, .int 16 :: st, M) o9 := pj_xs (s28_43)
theorem q28_45 : pj_row 28 45 = some (.iushr, 1, 0, 0, 0) := by decide +kernel
theorem s28_45 {L : pj_Loc} {st : List Value} {M : pj_Mem} {x y : Int32} : pj_step 28 (45, L, .int y :: .int x :: st, M) = some (46, L, .int ((x.toUInt32 >>> (y.toUInt32 &&& Int32.toUInt32 31)).toInt32) :: st, M) := st_iushr q28_45
theorem x28_45 {L : pj_Loc} {st : List Value} {M : pj_Mem} {x y : Int32} {o9 : Option Value × pj_Mem} : pj_Ends 28 (45, L, .int y :: .int x :: st, M) o9 = pj_Ends 28 (46, L, .int ((x.toUInt32 >>> (y.toUInt32 &&& Int32.toUInt32 31)).toInt32) :: st, M) o9 := pj_xs (s28_45)
theorem q28_46 : pj_row 28 46 = some (.iadd, 1, 0, 0, 0) := by decide +kernel
theorem s28_46 {L : pj_Loc} {st : List Value} {M : pj_Mem} {x y : Int32} : pj_step 28 (46, L, .int y :: .int x :: st, M) = some (47, L, .int (x + y) :: st, M) := st_iadd q28_46
theorem x28_46 {L : pj_Loc} {st : List Value} {M : pj_Mem} {x y : Int32} {o9 : Option Value × pj_Mem} : pj_Ends 28 (46, L, .int y :: .int x :: st, M) o9 = pj_Ends 28 (47, L, .int (x + y) :: st, M) o9 := pj_xs (s28_46)
theorem q28_47 : pj_row 28 47 = some (.istore_n 0, 1, 0, 0, 0) := by decide +kernel
theorem s28_47 {st : List Value} {M : pj_Mem} {l : pj_Loc} {a0 : Option Value} {x : Int32} : pj_step 28 (47, a0 :: l, .int x :: st, M) = some (48, some (.int x) :: l, st, M) := st_istore_n q28_47 (pj_st_0)
theorem x28_47 {st : List Value} {M : pj_Mem} {l : pj_Loc} {a0 : Option Value} {x : Int32} {o9 : Option Value × pj_Mem} : pj_Ends 28 (47, a0 :: l, .int x :: st, M) o9 = pj_Ends 28 (48, some (.int x) :: l, st, M) o9 := pj_xs (s28_47)
theorem q28_48 : pj_row 28 48 = some (.iload_n 0, 1, 0, 0, 0) := by decide +kernel
theorem s28_48 {st : List Value} {M : pj_Mem} {l : pj_Loc} {x : Int32} : pj_step 28 (48, some (.int x) :: l, st, M) = some (49, some (.int x) :: l, .int x :: st, M) := st_iload_n q28_48 rfl
theorem x28_48 {st : List Value} {M : pj_Mem} {l : pj_Loc} {x : Int32} {o9 : Option Value × pj_Mem} : pj_Ends 28 (48, some (.int x) :: l, st, M) o9 = pj_Ends 28 (49, some (.int x) :: l, .int x :: st, M) o9 := pj_xs (s28_48)
theorem q28_49 : pj_row 28 49 = some (.bipush 63, 2, 0, 0, 0) := by decide +kernel
theorem s28_49 {L : pj_Loc} {st : List Value} {M : pj_Mem}  : pj_step 28 (49, L, st, M) = some (51, L, .int 63 :: st, M) := st_bipush q28_49 (by decide +kernel)
theorem x28_49 {L : pj_Loc} {st : List Value} {M : pj_Mem}  {o9 : Option Value × pj_Mem} : pj_Ends 28 (49, L, st, M) o9 = pj_Ends 28 (51, L, .int 63 :: st, M) o9 := pj_xs (s28_49)
theorem q28_51 : pj_row 28 51 = some (.iand, 1, 0, 0, 0) := by decide +kernel
theorem s28_51 {L : pj_Loc} {st : List Value} {M : pj_Mem} {x y : Int32} : pj_step 28 (51, L, .int y :: .int x :: st, M) = some (52, L, .int (x &&& y) :: st, M) := st_iand q28_51
theorem x28_51 {L : pj_Loc} {st : List Value} {M : pj_Mem} {x y : Int32} {o9 : Option Value × pj_Mem} : pj_Ends 28 (51, L, .int y :: .int x :: st, M) o9 = pj_Ends 28 (52, L, .int (x &&& y) :: st, M) o9 := pj_xs (s28_51)
theorem q28_52 : pj_row 28 52 = some (.ireturn, 1, 0, 0, 0) := by decide +kernel
theorem t28_52 {L : pj_Loc} {M : pj_Mem} {v : Int32} : pj_Ends 28 (52, L, [.int v], M) (some (.int v), M) := pj_Ends.ret q28_52 (pj_rtn_i rt28)
theorem rt29 : pj_rt 29 = some .boolean := rfl
theorem q29_0 : pj_row 29 0 = some (.aload_n 0, 1, 0, 0, 0) := by decide +kernel
theorem s29_0 {st : List Value} {M : pj_Mem} {l : pj_Loc} {x : Nat} : pj_step 29 (0, some (.ref x) :: l, st, M) = some (1, some (.ref x) :: l, .ref x :: st, M) := st_aload_n q29_0 rfl
theorem x29_0 {st : List Value} {M : pj_Mem} {l : pj_Loc} {x : Nat} {o9 : Option Value × pj_Mem} : pj_Ends 29 (0, some (.ref x) :: l, st, M) o9 = pj_Ends 29 (1, some (.ref x) :: l, .ref x :: st, M) o9 := pj_xs (s29_0)
theorem q29_1 : pj_row 29 1 = some (.getfield 27, 3, 3, 5, 0) := by decide +kernel
theorem s29_1 {L : pj_Loc} {st : List Value} {N S : Nat} {H : pj_Heap} {o : Nat} : pj_step 29 (1, L, .ref o :: st, (N, S, H)) = pj_pv 4 L st (N, S, H) (pj_fld (H o) 3 5) := st_getfield q29_1
theorem x29_1 {L : pj_Loc} {st : List Value} {N S : Nat} {H : pj_Heap} {o : Nat} {o9 : Option Value × pj_Mem} : pj_Ends 29 (1, L, .ref o :: st, (N, S, H)) o9 = pj_then 29 o9 (pj_pv 4 L st (N, S, H) (pj_fld (H o) 3 5)) := pj_xt q29_1 rfl (pj_cl_nc rfl) (s29_1)
theorem q29_4 : pj_row 29 4 = some (.iload_n 1, 1, 0, 0, 0) := by decide +kernel
theorem s29_4 {st : List Value} {M : pj_Mem} {l : pj_Loc} {a0 : Option Value} {x : Int32} : pj_step 29 (4, a0 :: some (.int x) :: l, st, M) = some (5, a0 :: some (.int x) :: l, .int x :: st, M) := st_iload_n q29_4 rfl
theorem x29_4 {st : List Value} {M : pj_Mem} {l : pj_Loc} {a0 : Option Value} {x : Int32} {o9 : Option Value × pj_Mem} : pj_Ends 29 (4, a0 :: some (.int x) :: l, st, M) o9 = pj_Ends 29 (5, a0 :: some (.int x) :: l, .int x :: st, M) o9 := pj_xs (s29_4)
theorem q29_5 : pj_row 29 5 = some (.iaload, 1, 0, 0, 0) := by decide +kernel
theorem s29_5 {L : pj_Loc} {st : List Value} {N S : Nat} {H : pj_Heap} {o : Nat} {i : Int32} : pj_step 29 (5, L, .int i :: .ref o :: st, (N, S, H)) = pj_pi 6 L st (N, S, H) (pj_arl (H o) 0 i) := st_iaload q29_5
theorem x29_5 {L : pj_Loc} {st : List Value} {N S : Nat} {H : pj_Heap} {o : Nat} {i : Int32} {o9 : Option Value × pj_Mem} : pj_Ends 29 (5, L, .int i :: .ref o :: st, (N, S, H)) o9 = pj_then 29 o9 (pj_pi 6 L st (N, S, H) (pj_arl (H o) 0 i)) := pj_xt q29_5 rfl (pj_cl_nc rfl) (s29_5)
theorem q29_6 : pj_row 29 6 = some (.bipush (-6), 2, 0, 0, 0) := by decide +kernel
theorem s29_6 {L : pj_Loc} {st : List Value} {M : pj_Mem}  : pj_step 29 (6, L, st, M) = some (8, L, .int (-6) :: st, M) := st_bipush q29_6 (by decide +kernel)
theorem x29_6 {L : pj_Loc} {st : List Value} {M : pj_Mem}  {o9 : Option Value × pj_Mem} : pj_Ends 29 (6, L, st, M) o9 = pj_Ends 29 (8, L, .int (-6) :: st, M) o9 := pj_xs (s29_6)
theorem q29_8 : pj_row 29 8 = some (.if_icmp .eq 22, 3, 30, 0, 0) := by decide +kernel
theorem s29_8 {L : pj_Loc} {st : List Value} {M : pj_Mem} {x y : Int32} : pj_step 29 (8, L, .int y :: .int x :: st, M) = some (if x = y then 30 else 11, L, st, M) := st_icmp_eq q29_8
theorem x29_8 {L : pj_Loc} {st : List Value} {M : pj_Mem} {x y : Int32} {o9 : Option Value × pj_Mem} : pj_Ends 29 (8, L, .int y :: .int x :: st, M) o9 = pj_Ends 29 (if x = y then 30 else 11, L, st, M) o9 := pj_xs (s29_8)
theorem q29_11 : pj_row 29 11 = some (.aload_n 0, 1, 0, 0, 0) := by decide +kernel
theorem s29_11 {st : List Value} {M : pj_Mem} {l : pj_Loc} {x : Nat} : pj_step 29 (11, some (.ref x) :: l, st, M) = some (12, some (.ref x) :: l, .ref x :: st, M) := st_aload_n q29_11 rfl
theorem x29_11 {st : List Value} {M : pj_Mem} {l : pj_Loc} {x : Nat} {o9 : Option Value × pj_Mem} : pj_Ends 29 (11, some (.ref x) :: l, st, M) o9 = pj_Ends 29 (12, some (.ref x) :: l, .ref x :: st, M) o9 := pj_xs (s29_11)
theorem q29_12 : pj_row 29 12 = some (.getfield 36, 3, 3, 7, 0) := by decide +kernel
theorem s29_12 {L : pj_Loc} {st : List Value} {N S : Nat} {H : pj_Heap} {o : Nat} : pj_step 29 (12, L, .ref o :: st, (N, S, H)) = pj_pv 15 L st (N, S, H) (pj_fld (H o) 3 7) := st_getfield q29_12
theorem x29_12 {L : pj_Loc} {st : List Value} {N S : Nat} {H : pj_Heap} {o : Nat} {o9 : Option Value × pj_Mem} : pj_Ends 29 (12, L, .ref o :: st, (N, S, H)) o9 = pj_then 29 o9 (pj_pv 15 L st (N, S, H) (pj_fld (H o) 3 7)) := pj_xt q29_12 rfl (pj_cl_nc rfl) (s29_12)
theorem q29_15 : pj_row 29 15 = some (.aload_n 0, 1, 0, 0, 0) := by decide +kernel
theorem s29_15 {st : List Value} {M : pj_Mem} {l : pj_Loc} {x : Nat} : pj_step 29 (15, some (.ref x) :: l, st, M) = some (16, some (.ref x) :: l, .ref x :: st, M) := st_aload_n q29_15 rfl
theorem x29_15 {st : List Value} {M : pj_Mem} {l : pj_Loc} {x : Nat} {o9 : Option Value × pj_Mem} : pj_Ends 29 (15, some (.ref x) :: l, st, M) o9 = pj_Ends 29 (16, some (.ref x) :: l, .ref x :: st, M) o9 := pj_xs (s29_15)
theorem q29_16 : pj_row 29 16 = some (.getfield 27, 3, 3, 5, 0) := by decide +kernel
theorem s29_16 {L : pj_Loc} {st : List Value} {N S : Nat} {H : pj_Heap} {o : Nat} : pj_step 29 (16, L, .ref o :: st, (N, S, H)) = pj_pv 19 L st (N, S, H) (pj_fld (H o) 3 5) := st_getfield q29_16
theorem x29_16 {L : pj_Loc} {st : List Value} {N S : Nat} {H : pj_Heap} {o : Nat} {o9 : Option Value × pj_Mem} : pj_Ends 29 (16, L, .ref o :: st, (N, S, H)) o9 = pj_then 29 o9 (pj_pv 19 L st (N, S, H) (pj_fld (H o) 3 5)) := pj_xt q29_16 rfl (pj_cl_nc rfl) (s29_16)
theorem q29_19 : pj_row 29 19 = some (.iload_n 1, 1, 0, 0, 0) := by decide +kernel
theorem s29_19 {st : List Value} {M : pj_Mem} {l : pj_Loc} {a0 : Option Value} {x : Int32} : pj_step 29 (19, a0 :: some (.int x) :: l, st, M) = some (20, a0 :: some (.int x) :: l, .int x :: st, M) := st_iload_n q29_19 rfl
theorem x29_19 {st : List Value} {M : pj_Mem} {l : pj_Loc} {a0 : Option Value} {x : Int32} {o9 : Option Value × pj_Mem} : pj_Ends 29 (19, a0 :: some (.int x) :: l, st, M) o9 = pj_Ends 29 (20, a0 :: some (.int x) :: l, .int x :: st, M) o9 := pj_xs (s29_19)
theorem q29_20 : pj_row 29 20 = some (.iaload, 1, 0, 0, 0) := by decide +kernel
theorem s29_20 {L : pj_Loc} {st : List Value} {N S : Nat} {H : pj_Heap} {o : Nat} {i : Int32} : pj_step 29 (20, L, .int i :: .ref o :: st, (N, S, H)) = pj_pi 21 L st (N, S, H) (pj_arl (H o) 0 i) := st_iaload q29_20
theorem x29_20 {L : pj_Loc} {st : List Value} {N S : Nat} {H : pj_Heap} {o : Nat} {i : Int32} {o9 : Option Value × pj_Mem} : pj_Ends 29 (20, L, .int i :: .ref o :: st, (N, S, H)) o9 = pj_then 29 o9 (pj_pi 21 L st (N, S, H) (pj_arl (H o) 0 i)) := pj_xt q29_20 rfl (pj_cl_nc rfl) (s29_20)
theorem q29_21 : pj_row 29 21 = some (.isub, 1, 0, 0, 0) := by decide +kernel
theorem s29_21 {L : pj_Loc} {st : List Value} {M : pj_Mem} {x y : Int32} : pj_step 29 (21, L, .int y :: .int x :: st, M) = some (22, L, .int (x - y) :: st, M) := st_isub q29_21
theorem x29_21 {L : pj_Loc} {st : List Value} {M : pj_Mem} {x y : Int32} {o9 : Option Value × pj_Mem} : pj_Ends 29 (21, L, .int y :: .int x :: st, M) o9 = pj_Ends 29 (22, L, .int (x - y) :: st, M) o9 := pj_xs (s29_21)
theorem q29_22 : pj_row 29 22 = some (.iload_n 2, 1, 0, 0, 0) := by decide +kernel
theorem s29_22 {st : List Value} {M : pj_Mem} {l : pj_Loc} {a0 a1 : Option Value} {x : Int32} : pj_step 29 (22, a0 :: a1 :: some (.int x) :: l, st, M) = some (23, a0 :: a1 :: some (.int x) :: l, .int x :: st, M) := st_iload_n q29_22 rfl
theorem x29_22 {st : List Value} {M : pj_Mem} {l : pj_Loc} {a0 a1 : Option Value} {x : Int32} {o9 : Option Value × pj_Mem} : pj_Ends 29 (22, a0 :: a1 :: some (.int x) :: l, st, M) o9 = pj_Ends 29 (23, a0 :: a1 :: some (.int x) :: l, .int x :: st, M) o9 := pj_xs (s29_22)
theorem q29_23 : pj_row 29 23 = some (.if_icmp .lt 7, 3, 30, 0, 0) := by decide +kernel
theorem s29_23 {L : pj_Loc} {st : List Value} {M : pj_Mem} {x y : Int32} : pj_step 29 (23, L, .int y :: .int x :: st, M) = some (if x < y then 30 else 26, L, st, M) := st_icmp_lt q29_23
theorem x29_23 {L : pj_Loc} {st : List Value} {M : pj_Mem} {x y : Int32} {o9 : Option Value × pj_Mem} : pj_Ends 29 (23, L, .int y :: .int x :: st, M) o9 = pj_Ends 29 (if x < y then 30 else 26, L, st, M) o9 := pj_xs (s29_23)
theorem q29_26 : pj_row 29 26 = some (.iconst 1, 1, 0, 0, 0) := by decide +kernel
theorem s29_26 {L : pj_Loc} {st : List Value} {M : pj_Mem}  : pj_step 29 (26, L, st, M) = some (27, L, .int 1 :: st, M) := st_iconst q29_26 (by decide +kernel)
theorem x29_26 {L : pj_Loc} {st : List Value} {M : pj_Mem}  {o9 : Option Value × pj_Mem} : pj_Ends 29 (26, L, st, M) o9 = pj_Ends 29 (27, L, .int 1 :: st, M) o9 := pj_xs (s29_26)
theorem q29_27 : pj_row 29 27 = some (.goto 4, 3, 31, 0, 0) := by decide +kernel
theorem s29_27 {L : pj_Loc} {st : List Value} {M : pj_Mem}  : pj_step 29 (27, L, st, M) = some (31, L, st, M) := st_goto q29_27
theorem x29_27 {L : pj_Loc} {st : List Value} {M : pj_Mem}  {o9 : Option Value × pj_Mem} : pj_Ends 29 (27, L, st, M) o9 = pj_Ends 29 (31, L, st, M) o9 := pj_xs (s29_27)
theorem q29_30 : pj_row 29 30 = some (.iconst 0, 1, 0, 0, 0) := by decide +kernel
theorem s29_30 {L : pj_Loc} {st : List Value} {M : pj_Mem}  : pj_step 29 (30, L, st, M) = some (31, L, .int 0 :: st, M) := st_iconst q29_30 (by decide +kernel)
theorem x29_30 {L : pj_Loc} {st : List Value} {M : pj_Mem}  {o9 : Option Value × pj_Mem} : pj_Ends 29 (30, L, st, M) o9 = pj_Ends 29 (31, L, .int 0 :: st, M) o9 := pj_xs (s29_30)
theorem q29_31 : pj_row 29 31 = some (.ireturn, 1, 0, 0, 0) := by decide +kernel
theorem t29_31 {L : pj_Loc} {M : pj_Mem} {v : Int32} (hv : v = 0 ∨ v = 1) : pj_Ends 29 (31, L, [.int v], M) (some (.int v), M) := pj_Ends.ret q29_31 (pj_rtn_z rt29 hv)
theorem rt30 : pj_rt 30 = some .int := rfl
theorem q30_0 : pj_row 30 0 = some (.iload_n 1, 1, 0, 0, 0) := by decide +kernel
theorem s30_0 {st : List Value} {M : pj_Mem} {l : pj_Loc} {a0 : Option Value} {x : Int32} : pj_step 30 (0, a0 :: some (.int x) :: l, st, M) = some (1, a0 :: some (.int x) :: l, .int x :: st, M) := st_iload_n q30_0 rfl
theorem x30_0 {st : List Value} {M : pj_Mem} {l : pj_Loc} {a0 : Option Value} {x : Int32} {o9 : Option Value × pj_Mem} : pj_Ends 30 (0, a0 :: some (.int x) :: l, st, M) o9 = pj_Ends 30 (1, a0 :: some (.int x) :: l, .int x :: st, M) o9 := pj_xs (s30_0)
theorem q30_1 : pj_row 30 1 = some (.ifCond .lt 8, 3, 9, 0, 0) := by decide +kernel
theorem s30_1 {L : pj_Loc} {st : List Value} {M : pj_Mem} {x : Int32} : pj_step 30 (1, L, .int x :: st, M) = some (if x < 0 then 9 else 4, L, st, M) := st_if_lt q30_1
theorem x30_1 {L : pj_Loc} {st : List Value} {M : pj_Mem} {x : Int32} {o9 : Option Value × pj_Mem} : pj_Ends 30 (1, L, .int x :: st, M) o9 = pj_Ends 30 (if x < 0 then 9 else 4, L, st, M) o9 := pj_xs (s30_1)
theorem q30_4 : pj_row 30 4 = some (.iload_n 1, 1, 0, 0, 0) := by decide +kernel
theorem s30_4 {st : List Value} {M : pj_Mem} {l : pj_Loc} {a0 : Option Value} {x : Int32} : pj_step 30 (4, a0 :: some (.int x) :: l, st, M) = some (5, a0 :: some (.int x) :: l, .int x :: st, M) := st_iload_n q30_4 rfl
theorem x30_4 {st : List Value} {M : pj_Mem} {l : pj_Loc} {a0 : Option Value} {x : Int32} {o9 : Option Value × pj_Mem} : pj_Ends 30 (4, a0 :: some (.int x) :: l, st, M) o9 = pj_Ends 30 (5, a0 :: some (.int x) :: l, .int x :: st, M) o9 := pj_xs (s30_4)
theorem q30_5 : pj_row 30 5 = some (.iconst 3, 1, 0, 0, 0) := by decide +kernel
theorem s30_5 {L : pj_Loc} {st : List Value} {M : pj_Mem}  : pj_step 30 (5, L, st, M) = some (6, L, .int 3 :: st, M) := st_iconst q30_5 (by decide +kernel)
theorem x30_5 {L : pj_Loc} {st : List Value} {M : pj_Mem}  {o9 : Option Value × pj_Mem} : pj_Ends 30 (5, L, st, M) o9 = pj_Ends 30 (6, L, .int 3 :: st, M) o9 := pj_xs (s30_5)
theorem q30_6 : pj_row 30 6 = some (.if_icmp .lt 5, 3, 11, 0, 0) := by decide +kernel
theorem s30_6 {L : pj_Loc} {st : List Value} {M : pj_Mem} {x y : Int32} : pj_step 30 (6, L, .int y :: .int x :: st, M) = some (if x < y then 11 else 9, L, st, M) := st_icmp_lt q30_6
theorem x30_6 {L : pj_Loc} {st : List Value} {M : pj_Mem} {x y : Int32} {o9 : Option Value × pj_Mem} : pj_Ends 30 (6, L, .int y :: .int x :: st, M) o9 = pj_Ends 30 (if x < y then 11 else 9, L, st, M) o9 := pj_xs (s30_6)
theorem q30_9 : pj_row 30 9 = some (.iconst (-1), 1, 0, 0, 0) := by decide +kernel
theorem s30_9 {L : pj_Loc} {st : List Value} {M : pj_Mem}  : pj_step 30 (9, L, st, M) = some (10, L, .int (-1) :: st, M) := st_iconst q30_9 (by decide +kernel)
theorem x30_9 {L : pj_Loc} {st : List Value} {M : pj_Mem}  {o9 : Option Value × pj_Mem} : pj_Ends 30 (9, L, st, M) o9 = pj_Ends 30 (10, L, .int (-1) :: st, M) o9 := pj_xs (s30_9)
theorem q30_10 : pj_row 30 10 = some (.ireturn, 1, 0, 0, 0) := by decide +kernel
theorem t30_10 {L : pj_Loc} {M : pj_Mem} {v : Int32} : pj_Ends 30 (10, L, [.int v], M) (some (.int v), M) := pj_Ends.ret q30_10 (pj_rtn_i rt30)
theorem q30_11 : pj_row 30 11 = some (.iload_n 2, 1, 0, 0, 0) := by decide +kernel
theorem s30_11 {st : List Value} {M : pj_Mem} {l : pj_Loc} {a0 a1 : Option Value} {x : Int32} : pj_step 30 (11, a0 :: a1 :: some (.int x) :: l, st, M) = some (12, a0 :: a1 :: some (.int x) :: l, .int x :: st, M) := st_iload_n q30_11 rfl
theorem x30_11 {st : List Value} {M : pj_Mem} {l : pj_Loc} {a0 a1 : Option Value} {x : Int32} {o9 : Option Value × pj_Mem} : pj_Ends 30 (11, a0 :: a1 :: some (.int x) :: l, st, M) o9 = pj_Ends 30 (12, a0 :: a1 :: some (.int x) :: l, .int x :: st, M) o9 := pj_xs (s30_11)
theorem q30_12 : pj_row 30 12 = some (.invokestatic 169, 3, 31, 1, 0) := by decide +kernel
theorem e30_12 {L : pj_Loc} {st : List Value} {N S : Nat} {H : pj_Heap} {o : Option Value × pj_Mem} {M' : pj_Mem} {x0 : Int32} {r : Int32} (h4 : pj_le4 st = true) (h1 : pj_Ends 31 (0, [some (.int x0)], [], (N, S, H)) (some (.int r), M')) (h2 : pj_Ends 30 (15, L, .int r :: st, M') o) : pj_Ends 30 (12, L, .int x0 :: st, (N, S, H)) o := ec_s1 q30_12 (Or.inl rfl) h4 rfl h1 h2
theorem q30_15 : pj_row 30 15 = some (.ifCond .ne 6, 3, 21, 0, 0) := by decide +kernel
theorem s30_15 {L : pj_Loc} {st : List Value} {M : pj_Mem} {x : Int32} : pj_step 30 (15, L, .int x :: st, M) = some (if ¬ x = 0 then 21 else 18, L, st, M) := st_if_ne q30_15
theorem x30_15 {L : pj_Loc} {st : List Value} {M : pj_Mem} {x : Int32} {o9 : Option Value × pj_Mem} : pj_Ends 30 (15, L, .int x :: st, M) o9 = pj_Ends 30 (if ¬ x = 0 then 21 else 18, L, st, M) o9 := pj_xs (s30_15)
theorem q30_18 : pj_row 30 18 = some (.bipush (-2), 2, 0, 0, 0) := by decide +kernel
theorem s30_18 {L : pj_Loc} {st : List Value} {M : pj_Mem}  : pj_step 30 (18, L, st, M) = some (20, L, .int (-2) :: st, M) := st_bipush q30_18 (by decide +kernel)
theorem x30_18 {L : pj_Loc} {st : List Value} {M : pj_Mem}  {o9 : Option Value × pj_Mem} : pj_Ends 30 (18, L, st, M) o9 = pj_Ends 30 (20, L, .int (-2) :: st, M) o9 := pj_xs (s30_18)
theorem q30_20 : pj_row 30 20 = some (.ireturn, 1, 0, 0, 0) := by decide +kernel
theorem t30_20 {L : pj_Loc} {M : pj_Mem} {v : Int32} : pj_Ends 30 (20, L, [.int v], M) (some (.int v), M) := pj_Ends.ret q30_20 (pj_rtn_i rt30)
theorem q30_21 : pj_row 30 21 = some (.aload_n 0, 1, 0, 0, 0) := by decide +kernel
theorem s30_21 {st : List Value} {M : pj_Mem} {l : pj_Loc} {x : Nat} : pj_step 30 (21, some (.ref x) :: l, st, M) = some (22, some (.ref x) :: l, .ref x :: st, M) := st_aload_n q30_21 rfl
theorem x30_21 {st : List Value} {M : pj_Mem} {l : pj_Loc} {x : Nat} {o9 : Option Value × pj_Mem} : pj_Ends 30 (21, some (.ref x) :: l, st, M) o9 = pj_Ends 30 (22, some (.ref x) :: l, .ref x :: st, M) o9 := pj_xs (s30_21)
theorem q30_22 : pj_row 30 22 = some (.getfield 10, 3, 5, 0, 0) := by decide +kernel
theorem s30_22 {L : pj_Loc} {st : List Value} {N S : Nat} {H : pj_Heap} {o : Nat} : pj_step 30 (22, L, .ref o :: st, (N, S, H)) = pj_pv 25 L st (N, S, H) (pj_fld (H o) 5 0) := st_getfield q30_22
theorem x30_22 {L : pj_Loc} {st : List Value} {N S : Nat} {H : pj_Heap} {o : Nat} {o9 : Option Value × pj_Mem} : pj_Ends 30 (22, L, .ref o :: st, (N, S, H)) o9 = pj_then 30 o9 (pj_pv 25 L st (N, S, H) (pj_fld (H o) 5 0)) := pj_xt q30_22 rfl (pj_cl_nc rfl) (s30_22)
theorem q30_25 : pj_row 30 25 = some (.getfield 81, 3, 4, 5, 0) := by decide +kernel
theorem s30_25 {L : pj_Loc} {st : List Value} {N S : Nat} {H : pj_Heap} {o : Nat} : pj_step 30 (25, L, .ref o :: st, (N, S, H)) = pj_pv 28 L st (N, S, H) (pj_fld (H o) 4 5) := st_getfield q30_25
theorem x30_25 {L : pj_Loc} {st : List Value} {N S : Nat} {H : pj_Heap} {o : Nat} {o9 : Option Value × pj_Mem} : pj_Ends 30 (25, L, .ref o :: st, (N, S, H)) o9 = pj_then 30 o9 (pj_pv 28 L st (N, S, H) (pj_fld (H o) 4 5)) := pj_xt q30_25 rfl (pj_cl_nc rfl) (s30_25)
theorem q30_28 : pj_row 30 28 = some (.iload_n 1, 1, 0, 0, 0) := by decide +kernel
theorem s30_28 {st : List Value} {M : pj_Mem} {l : pj_Loc} {a0 : Option Value} {x : Int32} : pj_step 30 (28, a0 :: some (.int x) :: l, st, M) = some (29, a0 :: some (.int x) :: l, .int x :: st, M) := st_iload_n q30_28 rfl
theorem x30_28 {st : List Value} {M : pj_Mem} {l : pj_Loc} {a0 : Option Value} {x : Int32} {o9 : Option Value × pj_Mem} : pj_Ends 30 (28, a0 :: some (.int x) :: l, st, M) o9 = pj_Ends 30 (29, a0 :: some (.int x) :: l, .int x :: st, M) o9 := pj_xs (s30_28)
theorem q30_29 : pj_row 30 29 = some (.iaload, 1, 0, 0, 0) := by decide +kernel
theorem s30_29 {L : pj_Loc} {st : List Value} {N S : Nat} {H : pj_Heap} {o : Nat} {i : Int32} : pj_step 30 (29, L, .int i :: .ref o :: st, (N, S, H)) = pj_pi 30 L st (N, S, H) (pj_arl (H o) 0 i) := st_iaload q30_29
theorem x30_29 {L : pj_Loc} {st : List Value} {N S : Nat} {H : pj_Heap} {o : Nat} {i : Int32} {o9 : Option Value × pj_Mem} : pj_Ends 30 (29, L, .int i :: .ref o :: st, (N, S, H)) o9 = pj_then 30 o9 (pj_pi 30 L st (N, S, H) (pj_arl (H o) 0 i)) := pj_xt q30_29 rfl (pj_cl_nc rfl) (s30_29)
theorem q30_30 : pj_row 30 30 = some (.bipush (-6), 2, 0, 0, 0) := by decide +kernel
theorem s30_30 {L : pj_Loc} {st : List Value} {M : pj_Mem}  : pj_step 30 (30, L, st, M) = some (32, L, .int (-6) :: st, M) := st_bipush q30_30 (by decide +kernel)
theorem x30_30 {L : pj_Loc} {st : List Value} {M : pj_Mem}  {o9 : Option Value × pj_Mem} : pj_Ends 30 (30, L, st, M) o9 = pj_Ends 30 (32, L, .int (-6) :: st, M) o9 := pj_xs (s30_30)
theorem q30_32 : pj_row 30 32 = some (.if_icmp .eq 5, 3, 37, 0, 0) := by decide +kernel
theorem s30_32 {L : pj_Loc} {st : List Value} {M : pj_Mem} {x y : Int32} : pj_step 30 (32, L, .int y :: .int x :: st, M) = some (if x = y then 37 else 35, L, st, M) := st_icmp_eq q30_32
theorem x30_32 {L : pj_Loc} {st : List Value} {M : pj_Mem} {x y : Int32} {o9 : Option Value × pj_Mem} : pj_Ends 30 (32, L, .int y :: .int x :: st, M) o9 = pj_Ends 30 (if x = y then 37 else 35, L, st, M) o9 := pj_xs (s30_32)
theorem q30_35 : pj_row 30 35 = some (.iconst 0, 1, 0, 0, 0) := by decide +kernel
theorem s30_35 {L : pj_Loc} {st : List Value} {M : pj_Mem}  : pj_step 30 (35, L, st, M) = some (36, L, .int 0 :: st, M) := st_iconst q30_35 (by decide +kernel)
theorem x30_35 {L : pj_Loc} {st : List Value} {M : pj_Mem}  {o9 : Option Value × pj_Mem} : pj_Ends 30 (35, L, st, M) o9 = pj_Ends 30 (36, L, .int 0 :: st, M) o9 := pj_xs (s30_35)
theorem q30_36 : pj_row 30 36 = some (.ireturn, 1, 0, 0, 0) := by decide +kernel
theorem t30_36 {L : pj_Loc} {M : pj_Mem} {v : Int32} : pj_Ends 30 (36, L, [.int v], M) (some (.int v), M) := pj_Ends.ret q30_36 (pj_rtn_i rt30)
theorem q30_37 : pj_row 30 37 = some (.aload_n 0, 1, 0, 0, 0) := by decide +kernel
theorem s30_37 {st : List Value} {M : pj_Mem} {l : pj_Loc} {x : Nat} : pj_step 30 (37, some (.ref x) :: l, st, M) = some (38, some (.ref x) :: l, .ref x :: st, M) := st_aload_n q30_37 rfl
theorem x30_37 {st : List Value} {M : pj_Mem} {l : pj_Loc} {x : Nat} {o9 : Option Value × pj_Mem} : pj_Ends 30 (37, some (.ref x) :: l, st, M) o9 = pj_Ends 30 (38, some (.ref x) :: l, .ref x :: st, M) o9 := pj_xs (s30_37)
theorem q30_38 : pj_row 30 38 = some (.getfield 16, 3, 5, 1, 0) := by decide +kernel
theorem s30_38 {L : pj_Loc} {st : List Value} {N S : Nat} {H : pj_Heap} {o : Nat} : pj_step 30 (38, L, .ref o :: st, (N, S, H)) = pj_pv 41 L st (N, S, H) (pj_fld (H o) 5 1) := st_getfield q30_38
theorem x30_38 {L : pj_Loc} {st : List Value} {N S : Nat} {H : pj_Heap} {o : Nat} {o9 : Option Value × pj_Mem} : pj_Ends 30 (38, L, .ref o :: st, (N, S, H)) o9 = pj_then 30 o9 (pj_pv 41 L st (N, S, H) (pj_fld (H o) 5 1)) := pj_xt q30_38 rfl (pj_cl_nc rfl) (s30_38)
theorem q30_41 : pj_row 30 41 = some (.aload_n 0, 1, 0, 0, 0) := by decide +kernel
theorem s30_41 {st : List Value} {M : pj_Mem} {l : pj_Loc} {x : Nat} : pj_step 30 (41, some (.ref x) :: l, st, M) = some (42, some (.ref x) :: l, .ref x :: st, M) := st_aload_n q30_41 rfl
theorem x30_41 {st : List Value} {M : pj_Mem} {l : pj_Loc} {x : Nat} {o9 : Option Value × pj_Mem} : pj_Ends 30 (41, some (.ref x) :: l, st, M) o9 = pj_Ends 30 (42, some (.ref x) :: l, .ref x :: st, M) o9 := pj_xs (s30_41)
theorem q30_42 : pj_row 30 42 = some (.getfield 10, 3, 5, 0, 0) := by decide +kernel
theorem s30_42 {L : pj_Loc} {st : List Value} {N S : Nat} {H : pj_Heap} {o : Nat} : pj_step 30 (42, L, .ref o :: st, (N, S, H)) = pj_pv 45 L st (N, S, H) (pj_fld (H o) 5 0) := st_getfield q30_42
theorem x30_42 {L : pj_Loc} {st : List Value} {N S : Nat} {H : pj_Heap} {o : Nat} {o9 : Option Value × pj_Mem} : pj_Ends 30 (42, L, .ref o :: st, (N, S, H)) o9 = pj_then 30 o9 (pj_pv 45 L st (N, S, H) (pj_fld (H o) 5 0)) := pj_xt q30_42 rfl (pj_cl_nc rfl) (s30_42)
theorem q30_45 : pj_row 30 45 = some (.invokevirtual 172, 3, 32, 2, 0) := by decide +kernel
theorem e30_45 {L : pj_Loc} {st : List Value} {N S : Nat} {H : pj_Heap} {o : Option Value × pj_Mem} {M' : pj_Mem} {x0 : Nat} {x1 : Nat} (h4 : pj_le4 st = true) (hu : pj_isU 4 (H x0) = true) (h1 : pj_Ends 32 (0, [some (.ref x0), some (.ref x1)], [], (N, S, H)) (none, M')) (h2 : pj_Ends 30 (48, L, st, M') o) : pj_Ends 30 (45, L, .ref x1 :: .ref x0 :: st, (N, S, H)) o := ec_v2 q30_45 (Or.inl rfl) h4 hu rfl h1 h2
theorem q30_48 : pj_row 30 48 = some (.iconst 1, 1, 0, 0, 0) := by decide +kernel
theorem s30_48 {L : pj_Loc} {st : List Value} {M : pj_Mem}  : pj_step 30 (48, L, st, M) = some (49, L, .int 1 :: st, M) := st_iconst q30_48 (by decide +kernel)
theorem x30_48 {L : pj_Loc} {st : List Value} {M : pj_Mem}  {o9 : Option Value × pj_Mem} : pj_Ends 30 (48, L, st, M) o9 = pj_Ends 30 (49, L, .int 1 :: st, M) o9 := pj_xs (s30_48)
theorem q30_49 : pj_row 30 49 = some (.istore_n 3, 1, 0, 0, 0) := by decide +kernel
theorem s30_49 {st : List Value} {M : pj_Mem} {l : pj_Loc} {a0 a1 a2 a3 : Option Value} {x : Int32} (h : pj_long a2 = false) : pj_step 30 (49, a0 :: a1 :: a2 :: a3 :: l, .int x :: st, M) = some (50, a0 :: a1 :: a2 :: some (.int x) :: l, st, M) := st_istore_n q30_49 (pj_st_3 h)
theorem x30_49 {st : List Value} {M : pj_Mem} {l : pj_Loc} {a0 a1 a2 a3 : Option Value} {x : Int32} (h : pj_long a2 = false) {o9 : Option Value × pj_Mem} : pj_Ends 30 (49, a0 :: a1 :: a2 :: a3 :: l, .int x :: st, M) o9 = pj_Ends 30 (50, a0 :: a1 :: a2 :: some (.int x) :: l, st, M) o9 := pj_xs (s30_49 h)
theorem q30_50 : pj_row 30 50 = some (.iload_n 3, 1, 0, 0, 0) := by decide +kernel
theorem s30_50 {st : List Value} {M : pj_Mem} {l : pj_Loc} {a0 a1 a2 : Option Value} {x : Int32} : pj_step 30 (50, a0 :: a1 :: a2 :: some (.int x) :: l, st, M) = some (51, a0 :: a1 :: a2 :: some (.int x) :: l, .int x :: st, M) := st_iload_n q30_50 rfl
theorem x30_50 {st : List Value} {M : pj_Mem} {l : pj_Loc} {a0 a1 a2 : Option Value} {x : Int32} {o9 : Option Value × pj_Mem} : pj_Ends 30 (50, a0 :: a1 :: a2 :: some (.int x) :: l, st, M) o9 = pj_Ends 30 (51, a0 :: a1 :: a2 :: some (.int x) :: l, .int x :: st, M) o9 := pj_xs (s30_50)
theorem q30_51 : pj_row 30 51 = some (.bipush 50, 2, 0, 0, 0) := by decide +kernel
theorem s30_51 {L : pj_Loc} {st : List Value} {M : pj_Mem}  : pj_step 30 (51, L, st, M) = some (53, L, .int 50 :: st, M) := st_bipush q30_51 (by decide +kernel)
theorem x30_51 {L : pj_Loc} {st : List Value} {M : pj_Mem}  {o9 : Option Value × pj_Mem} : pj_Ends 30 (51, L, st, M) o9 = pj_Ends 30 (53, L, .int 50 :: st, M) o9 := pj_xs (s30_51)
theorem q30_53 : pj_row 30 53 = some (.if_icmp .gt 30, 3, 83, 0, 0) := by decide +kernel
theorem s30_53 {L : pj_Loc} {st : List Value} {M : pj_Mem} {x y : Int32} : pj_step 30 (53, L, .int y :: .int x :: st, M) = some (if y < x then 83 else 56, L, st, M) := st_icmp_gt q30_53
theorem x30_53 {L : pj_Loc} {st : List Value} {M : pj_Mem} {x y : Int32} {o9 : Option Value × pj_Mem} : pj_Ends 30 (53, L, .int y :: .int x :: st, M) o9 = pj_Ends 30 (if y < x then 83 else 56, L, st, M) o9 := pj_xs (s30_53)
theorem q30_56 : pj_row 30 56 = some (.aload_n 0, 1, 0, 0, 0) := by decide +kernel
theorem s30_56 {st : List Value} {M : pj_Mem} {l : pj_Loc} {x : Nat} : pj_step 30 (56, some (.ref x) :: l, st, M) = some (57, some (.ref x) :: l, .ref x :: st, M) := st_aload_n q30_56 rfl
theorem x30_56 {st : List Value} {M : pj_Mem} {l : pj_Loc} {x : Nat} {o9 : Option Value × pj_Mem} : pj_Ends 30 (56, some (.ref x) :: l, st, M) o9 = pj_Ends 30 (57, some (.ref x) :: l, .ref x :: st, M) o9 := pj_xs (s30_56)
theorem q30_57 : pj_row 30 57 = some (.aload_n 0, 1, 0, 0, 0) := by decide +kernel
theorem s30_57 {st : List Value} {M : pj_Mem} {l : pj_Loc} {x : Nat} : pj_step 30 (57, some (.ref x) :: l, st, M) = some (58, some (.ref x) :: l, .ref x :: st, M) := st_aload_n q30_57 rfl
theorem x30_57 {st : List Value} {M : pj_Mem} {l : pj_Loc} {x : Nat} {o9 : Option Value × pj_Mem} : pj_Ends 30 (57, some (.ref x) :: l, st, M) o9 = pj_Ends 30 (58, some (.ref x) :: l, .ref x :: st, M) o9 := pj_xs (s30_57)
theorem q30_58 : pj_row 30 58 = some (.getfield 16, 3, 5, 1, 0) := by decide +kernel
theorem s30_58 {L : pj_Loc} {st : List Value} {N S : Nat} {H : pj_Heap} {o : Nat} : pj_step 30 (58, L, .ref o :: st, (N, S, H)) = pj_pv 61 L st (N, S, H) (pj_fld (H o) 5 1) := st_getfield q30_58
theorem x30_58 {L : pj_Loc} {st : List Value} {N S : Nat} {H : pj_Heap} {o : Nat} {o9 : Option Value × pj_Mem} : pj_Ends 30 (58, L, .ref o :: st, (N, S, H)) o9 = pj_then 30 o9 (pj_pv 61 L st (N, S, H) (pj_fld (H o) 5 1)) := pj_xt q30_58 rfl (pj_cl_nc rfl) (s30_58)
theorem q30_61 : pj_row 30 61 = some (.iload_n 2, 1, 0, 0, 0) := by decide +kernel
theorem s30_61 {st : List Value} {M : pj_Mem} {l : pj_Loc} {a0 a1 : Option Value} {x : Int32} : pj_step 30 (61, a0 :: a1 :: some (.int x) :: l, st, M) = some (62, a0 :: a1 :: some (.int x) :: l, .int x :: st, M) := st_iload_n q30_61 rfl
theorem x30_61 {st : List Value} {M : pj_Mem} {l : pj_Loc} {a0 a1 : Option Value} {x : Int32} {o9 : Option Value × pj_Mem} : pj_Ends 30 (61, a0 :: a1 :: some (.int x) :: l, st, M) o9 = pj_Ends 30 (62, a0 :: a1 :: some (.int x) :: l, .int x :: st, M) o9 := pj_xs (s30_61)
theorem q30_62 : pj_row 30 62 = some (.iload_n 2, 1, 0, 0, 0) := by decide +kernel
theorem s30_62 {st : List Value} {M : pj_Mem} {l : pj_Loc} {a0 a1 : Option Value} {x : Int32} : pj_step 30 (62, a0 :: a1 :: some (.int x) :: l, st, M) = some (63, a0 :: a1 :: some (.int x) :: l, .int x :: st, M) := st_iload_n q30_62 rfl
theorem x30_62 {st : List Value} {M : pj_Mem} {l : pj_Loc} {a0 a1 : Option Value} {x : Int32} {o9 : Option Value × pj_Mem} : pj_Ends 30 (62, a0 :: a1 :: some (.int x) :: l, st, M) o9 = pj_Ends 30 (63, a0 :: a1 :: some (.int x) :: l, .int x :: st, M) o9 := pj_xs (s30_62)
theorem q30_63 : pj_row 30 63 = some (.iload_n 2, 1, 0, 0, 0) := by decide +kernel
theorem s30_63 {st : List Value} {M : pj_Mem} {l : pj_Loc} {a0 a1 : Option Value} {x : Int32} : pj_step 30 (63, a0 :: a1 :: some (.int x) :: l, st, M) = some (64, a0 :: a1 :: some (.int x) :: l, .int x :: st, M) := st_iload_n q30_63 rfl
theorem x30_63 {st : List Value} {M : pj_Mem} {l : pj_Loc} {a0 a1 : Option Value} {x : Int32} {o9 : Option Value × pj_Mem} : pj_Ends 30 (63, a0 :: a1 :: some (.int x) :: l, st, M) o9 = pj_Ends 30 (64, a0 :: a1 :: some (.int x) :: l, .int x :: st, M) o9 := pj_xs (s30_63)
theorem q30_64 : pj_row 30 64 = some (.iconst 1, 1, 0, 0, 0) := by decide +kernel
theorem s30_64 {L : pj_Loc} {st : List Value} {M : pj_Mem}  : pj_step 30 (64, L, st, M) = some (65, L, .int 1 :: st, M) := st_iconst q30_64 (by decide +kernel)
theorem x30_64 {L : pj_Loc} {st : List Value} {M : pj_Mem}  {o9 : Option Value × pj_Mem} : pj_Ends 30 (64, L, st, M) o9 = pj_Ends 30 (65, L, .int 1 :: st, M) o9 := pj_xs (s30_64)
theorem q30_65 : pj_row 30 65 = some (.invokevirtual 70, 3, 34, 6, 0) := by decide +kernel
theorem e30_65 {L : pj_Loc} {st : List Value} {N S : Nat} {H : pj_Heap} {o : Option Value × pj_Mem} {M' : pj_Mem} {x0 : Nat} {x1 : Nat} {x2 : Int32} {x3 : Int32} {x4 : Int32} {x5 : Int32} {r : Int32} (h4 : pj_le4 st = true) (hu : pj_isU 5 (H x0) = true) (h1 : pj_Ends 34 (0, [some (.ref x0), some (.ref x1), some (.int x2), some (.int x3), some (.int x4), some (.int x5)], [], (N, S, H)) (some (.int r), M')) (h2 : pj_Ends 30 (68, L, .int r :: st, M') o) : pj_Ends 30 (65, L, .int x5 :: .int x4 :: .int x3 :: .int x2 :: .ref x1 :: .ref x0 :: st, (N, S, H)) o := ec_v6 q30_65 (Or.inl rfl) h4 hu rfl h1 h2
theorem q30_68 : pj_row 30 68 = some (.iload_n 1, 1, 0, 0, 0) := by decide +kernel
theorem s30_68 {st : List Value} {M : pj_Mem} {l : pj_Loc} {a0 : Option Value} {x : Int32} : pj_step 30 (68, a0 :: some (.int x) :: l, st, M) = some (69, a0 :: some (.int x) :: l, .int x :: st, M) := st_iload_n q30_68 rfl
theorem x30_68 {st : List Value} {M : pj_Mem} {l : pj_Loc} {a0 : Option Value} {x : Int32} {o9 : Option Value × pj_Mem} : pj_Ends 30 (68, a0 :: some (.int x) :: l, st, M) o9 = pj_Ends 30 (69, a0 :: some (.int x) :: l, .int x :: st, M) o9 := pj_xs (s30_68)
theorem q30_69 : pj_row 30 69 = some (.invokestatic 77, 3, 8, 2, 0) := by decide +kernel
theorem e30_69 {L : pj_Loc} {st : List Value} {N S : Nat} {H : pj_Heap} {o : Option Value × pj_Mem} {M' : pj_Mem} {x0 : Int32} {x1 : Int32} {r : Int32} (h4 : pj_le4 st = true) (h1 : pj_Ends 8 (0, [some (.int x0), some (.int x1)], [], (N, S, H)) (some (.int r), M')) (h2 : pj_Ends 30 (72, L, .int r :: st, M') o) : pj_Ends 30 (69, L, .int x1 :: .int x0 :: st, (N, S, H)) o := ec_s2 q30_69 (Or.inl rfl) h4 rfl h1 h2
theorem q30_72 : pj_row 30 72 = some (.ifCond .eq 5, 3, 77, 0, 0) := by decide +kernel
theorem s30_72 {L : pj_Loc} {st : List Value} {M : pj_Mem} {x : Int32} : pj_step 30 (72, L, .int x :: st, M) = some (if x = 0 then 77 else 75, L, st, M) := st_if_eq q30_72
theorem x30_72 {L : pj_Loc} {st : List Value} {M : pj_Mem} {x : Int32} {o9 : Option Value × pj_Mem} : pj_Ends 30 (72, L, .int x :: st, M) o9 = pj_Ends 30 (if x = 0 then 77 else 75, L, st, M) o9 := pj_xs (s30_72)
theorem q30_75 : pj_row 30 75 = some (.iload_n 3, 1, 0, 0, 0) := by decide +kernel
theorem s30_75 {st : List Value} {M : pj_Mem} {l : pj_Loc} {a0 a1 a2 : Option Value} {x : Int32} : pj_step 30 (75, a0 :: a1 :: a2 :: some (.int x) :: l, st, M) = some (76, a0 :: a1 :: a2 :: some (.int x) :: l, .int x :: st, M) := st_iload_n q30_75 rfl
theorem x30_75 {st : List Value} {M : pj_Mem} {l : pj_Loc} {a0 a1 a2 : Option Value} {x : Int32} {o9 : Option Value × pj_Mem} : pj_Ends 30 (75, a0 :: a1 :: a2 :: some (.int x) :: l, st, M) o9 = pj_Ends 30 (76, a0 :: a1 :: a2 :: some (.int x) :: l, .int x :: st, M) o9 := pj_xs (s30_75)
theorem q30_76 : pj_row 30 76 = some (.ireturn, 1, 0, 0, 0) := by decide +kernel
theorem t30_76 {L : pj_Loc} {M : pj_Mem} {v : Int32} : pj_Ends 30 (76, L, [.int v], M) (some (.int v), M) := pj_Ends.ret q30_76 (pj_rtn_i rt30)
theorem q30_77 : pj_row 30 77 = some (.iinc 3 1, 3, 0, 0, 0) := by decide +kernel
theorem s30_77 {st : List Value} {M : pj_Mem} {l : pj_Loc} {a0 a1 a2 : Option Value} {x : Int32} (h : pj_long a2 = false) : pj_step 30 (77, a0 :: a1 :: a2 :: some (.int x) :: l, st, M) = some (80, a0 :: a1 :: a2 :: some (.int (x + 1)) :: l, st, M) := st_iinc q30_77 rfl (congrArg (fun y => x + y) (show Int32.ofInt 1 = 1 by decide +kernel)) (pj_st_3 h)
theorem x30_77 {st : List Value} {M : pj_Mem} {l : pj_Loc} {a0 a1 a2 : Option Value} {x : Int32} (h : pj_long a2 = false) {o9 : Option Value × pj_Mem} : pj_Ends 30 (77, a0 :: a1 :: a2 :: some (.int x) :: l, st, M) o9 = pj_Ends 30 (80, a0 :: a1 :: a2 :: some (.int (x + 1)) :: l, st, M) o9 := pj_xs (s30_77 h)
theorem q30_80 : pj_row 30 80 = some (.goto (-30), 3, 50, 0, 0) := by decide +kernel
theorem s30_80 {L : pj_Loc} {st : List Value} {M : pj_Mem}  : pj_step 30 (80, L, st, M) = some (50, L, st, M) := st_goto q30_80
theorem x30_80 {L : pj_Loc} {st : List Value} {M : pj_Mem}  {o9 : Option Value × pj_Mem} : pj_Ends 30 (80, L, st, M) o9 = pj_Ends 30 (50, L, st, M) o9 := pj_xs (s30_80)
theorem q30_83 : pj_row 30 83 = some (.bipush (-6), 2, 0, 0, 0) := by decide +kernel
theorem s30_83 {L : pj_Loc} {st : List Value} {M : pj_Mem}  : pj_step 30 (83, L, st, M) = some (85, L, .int (-6) :: st, M) := st_bipush q30_83 (by decide +kernel)
theorem x30_83 {L : pj_Loc} {st : List Value} {M : pj_Mem}  {o9 : Option Value × pj_Mem} : pj_Ends 30 (83, L, st, M) o9 = pj_Ends 30 (85, L, .int (-6) :: st, M) o9 := pj_xs (s30_83)
theorem q30_85 : pj_row 30 85 = some (.ireturn, 1, 0, 0, 0) := by decide +kernel
theorem t30_85 {L : pj_Loc} {M : pj_Mem} {v : Int32} : pj_Ends 30 (85, L, [.int v], M) (some (.int v), M) := pj_Ends.ret q30_85 (pj_rtn_i rt30)
theorem rt31 : pj_rt 31 = some .boolean := rfl
theorem q31_0 : pj_row 31 0 = some (.iload_n 0, 1, 0, 0, 0) := by decide +kernel
theorem s31_0 {st : List Value} {M : pj_Mem} {l : pj_Loc} {x : Int32} : pj_step 31 (0, some (.int x) :: l, st, M) = some (1, some (.int x) :: l, .int x :: st, M) := st_iload_n q31_0 rfl
theorem x31_0 {st : List Value} {M : pj_Mem} {l : pj_Loc} {x : Int32} {o9 : Option Value × pj_Mem} : pj_Ends 31 (0, some (.int x) :: l, st, M) o9 = pj_Ends 31 (1, some (.int x) :: l, .int x :: st, M) o9 := pj_xs (s31_0)
theorem q31_1 : pj_row 31 1 = some (.sipush (-500), 3, 0, 0, 0) := by decide +kernel
theorem s31_1 {L : pj_Loc} {st : List Value} {M : pj_Mem}  : pj_step 31 (1, L, st, M) = some (4, L, .int (-500) :: st, M) := st_sipush q31_1 (by decide +kernel)
theorem x31_1 {L : pj_Loc} {st : List Value} {M : pj_Mem}  {o9 : Option Value × pj_Mem} : pj_Ends 31 (1, L, st, M) o9 = pj_Ends 31 (4, L, .int (-500) :: st, M) o9 := pj_xs (s31_1)
theorem q31_4 : pj_row 31 4 = some (.if_icmp .lt 14, 3, 18, 0, 0) := by decide +kernel
theorem s31_4 {L : pj_Loc} {st : List Value} {M : pj_Mem} {x y : Int32} : pj_step 31 (4, L, .int y :: .int x :: st, M) = some (if x < y then 18 else 7, L, st, M) := st_icmp_lt q31_4
theorem x31_4 {L : pj_Loc} {st : List Value} {M : pj_Mem} {x y : Int32} {o9 : Option Value × pj_Mem} : pj_Ends 31 (4, L, .int y :: .int x :: st, M) o9 = pj_Ends 31 (if x < y then 18 else 7, L, st, M) o9 := pj_xs (s31_4)
theorem q31_7 : pj_row 31 7 = some (.iload_n 0, 1, 0, 0, 0) := by decide +kernel
theorem s31_7 {st : List Value} {M : pj_Mem} {l : pj_Loc} {x : Int32} : pj_step 31 (7, some (.int x) :: l, st, M) = some (8, some (.int x) :: l, .int x :: st, M) := st_iload_n q31_7 rfl
theorem x31_7 {st : List Value} {M : pj_Mem} {l : pj_Loc} {x : Int32} {o9 : Option Value × pj_Mem} : pj_Ends 31 (7, some (.int x) :: l, st, M) o9 = pj_Ends 31 (8, some (.int x) :: l, .int x :: st, M) o9 := pj_xs (s31_7)
theorem q31_8 : pj_row 31 8 = some (.sipush 500, 3, 0, 0, 0) := by decide +kernel
theorem s31_8 {L : pj_Loc} {st : List Value} {M : pj_Mem}  : pj_step 31 (8, L, st, M) = some (11, L, .int 500 :: st, M) := st_sipush q31_8 (by decide +kernel)
theorem x31_8 {L : pj_Loc} {st : List Value} {M : pj_Mem}  {o9 : Option Value × pj_Mem} : pj_Ends 31 (8, L, st, M) o9 = pj_Ends 31 (11, L, .int 500 :: st, M) o9 := pj_xs (s31_8)
theorem q31_11 : pj_row 31 11 = some (.if_icmp .gt 7, 3, 18, 0, 0) := by decide +kernel
theorem s31_11 {L : pj_Loc} {st : List Value} {M : pj_Mem} {x y : Int32} : pj_step 31 (11, L, .int y :: .int x :: st, M) = some (if y < x then 18 else 14, L, st, M) := st_icmp_gt q31_11
theorem x31_11 {L : pj_Loc} {st : List Value} {M : pj_Mem} {x y : Int32} {o9 : Option Value × pj_Mem} : pj_Ends 31 (11, L, .int y :: .int x :: st, M) o9 = pj_Ends 31 (if y < x then 18 else 14, L, st, M) o9 := pj_xs (s31_11)
theorem q31_14 : pj_row 31 14 = some (.iconst 1, 1, 0, 0, 0) := by decide +kernel
theorem s31_14 {L : pj_Loc} {st : List Value} {M : pj_Mem}  : pj_step 31 (14, L, st, M) = some (15, L, .int 1 :: st, M) := st_iconst q31_14 (by decide +kernel)
theorem x31_14 {L : pj_Loc} {st : List Value} {M : pj_Mem}  {o9 : Option Value × pj_Mem} : pj_Ends 31 (14, L, st, M) o9 = pj_Ends 31 (15, L, .int 1 :: st, M) o9 := pj_xs (s31_14)
theorem q31_15 : pj_row 31 15 = some (.goto 4, 3, 19, 0, 0) := by decide +kernel
theorem s31_15 {L : pj_Loc} {st : List Value} {M : pj_Mem}  : pj_step 31 (15, L, st, M) = some (19, L, st, M) := st_goto q31_15
theorem x31_15 {L : pj_Loc} {st : List Value} {M : pj_Mem}  {o9 : Option Value × pj_Mem} : pj_Ends 31 (15, L, st, M) o9 = pj_Ends 31 (19, L, st, M) o9 := pj_xs (s31_15)
theorem q31_18 : pj_row 31 18 = some (.iconst 0, 1, 0, 0, 0) := by decide +kernel
theorem s31_18 {L : pj_Loc} {st : List Value} {M : pj_Mem}  : pj_step 31 (18, L, st, M) = some (19, L, .int 0 :: st, M) := st_iconst q31_18 (by decide +kernel)
theorem x31_18 {L : pj_Loc} {st : List Value} {M : pj_Mem}  {o9 : Option Value × pj_Mem} : pj_Ends 31 (18, L, st, M) o9 = pj_Ends 31 (19, L, .int 0 :: st, M) o9 := pj_xs (s31_18)
theorem q31_19 : pj_row 31 19 = some (.ireturn, 1, 0, 0, 0) := by decide +kernel
theorem t31_19 {L : pj_Loc} {M : pj_Mem} {v : Int32} (hv : v = 0 ∨ v = 1) : pj_Ends 31 (19, L, [.int v], M) (some (.int v), M) := pj_Ends.ret q31_19 (pj_rtn_z rt31 hv)
theorem rt32 : pj_rt 32 = none := rfl
theorem q32_0 : pj_row 32 0 = some (.aload_n 1, 1, 0, 0, 0) := by decide +kernel
theorem s32_0 {st : List Value} {M : pj_Mem} {l : pj_Loc} {a0 : Option Value} {x : Nat} : pj_step 32 (0, a0 :: some (.ref x) :: l, st, M) = some (1, a0 :: some (.ref x) :: l, .ref x :: st, M) := st_aload_n q32_0 rfl
theorem x32_0 {st : List Value} {M : pj_Mem} {l : pj_Loc} {a0 : Option Value} {x : Nat} {o9 : Option Value × pj_Mem} : pj_Ends 32 (0, a0 :: some (.ref x) :: l, st, M) o9 = pj_Ends 32 (1, a0 :: some (.ref x) :: l, .ref x :: st, M) o9 := pj_xs (s32_0)
theorem q32_1 : pj_row 32 1 = some (.getfield 9, 3, 4, 0, 0) := by decide +kernel
theorem s32_1 {L : pj_Loc} {st : List Value} {N S : Nat} {H : pj_Heap} {o : Nat} : pj_step 32 (1, L, .ref o :: st, (N, S, H)) = pj_pv 4 L st (N, S, H) (pj_fld (H o) 4 0) := st_getfield q32_1
theorem x32_1 {L : pj_Loc} {st : List Value} {N S : Nat} {H : pj_Heap} {o : Nat} {o9 : Option Value × pj_Mem} : pj_Ends 32 (1, L, .ref o :: st, (N, S, H)) o9 = pj_then 32 o9 (pj_pv 4 L st (N, S, H) (pj_fld (H o) 4 0)) := pj_xt q32_1 rfl (pj_cl_nc rfl) (s32_1)
theorem q32_4 : pj_row 32 4 = some (.iconst 0, 1, 0, 0, 0) := by decide +kernel
theorem s32_4 {L : pj_Loc} {st : List Value} {M : pj_Mem}  : pj_step 32 (4, L, st, M) = some (5, L, .int 0 :: st, M) := st_iconst q32_4 (by decide +kernel)
theorem x32_4 {L : pj_Loc} {st : List Value} {M : pj_Mem}  {o9 : Option Value × pj_Mem} : pj_Ends 32 (4, L, st, M) o9 = pj_Ends 32 (5, L, .int 0 :: st, M) o9 := pj_xs (s32_4)
theorem q32_5 : pj_row 32 5 = some (.aload_n 0, 1, 0, 0, 0) := by decide +kernel
theorem s32_5 {st : List Value} {M : pj_Mem} {l : pj_Loc} {x : Nat} : pj_step 32 (5, some (.ref x) :: l, st, M) = some (6, some (.ref x) :: l, .ref x :: st, M) := st_aload_n q32_5 rfl
theorem x32_5 {st : List Value} {M : pj_Mem} {l : pj_Loc} {x : Nat} {o9 : Option Value × pj_Mem} : pj_Ends 32 (5, some (.ref x) :: l, st, M) o9 = pj_Ends 32 (6, some (.ref x) :: l, .ref x :: st, M) o9 := pj_xs (s32_5)
theorem q32_6 : pj_row 32 6 = some (.getfield 9, 3, 4, 0, 0) := by decide +kernel
theorem s32_6 {L : pj_Loc} {st : List Value} {N S : Nat} {H : pj_Heap} {o : Nat} : pj_step 32 (6, L, .ref o :: st, (N, S, H)) = pj_pv 9 L st (N, S, H) (pj_fld (H o) 4 0) := st_getfield q32_6
theorem x32_6 {L : pj_Loc} {st : List Value} {N S : Nat} {H : pj_Heap} {o : Nat} {o9 : Option Value × pj_Mem} : pj_Ends 32 (6, L, .ref o :: st, (N, S, H)) o9 = pj_then 32 o9 (pj_pv 9 L st (N, S, H) (pj_fld (H o) 4 0)) := pj_xt q32_6 rfl (pj_cl_nc rfl) (s32_6)
theorem q32_9 : pj_row 32 9 = some (.iconst 0, 1, 0, 0, 0) := by decide +kernel
theorem s32_9 {L : pj_Loc} {st : List Value} {M : pj_Mem}  : pj_step 32 (9, L, st, M) = some (10, L, .int 0 :: st, M) := st_iconst q32_9 (by decide +kernel)
theorem x32_9 {L : pj_Loc} {st : List Value} {M : pj_Mem}  {o9 : Option Value × pj_Mem} : pj_Ends 32 (9, L, st, M) o9 = pj_Ends 32 (10, L, .int 0 :: st, M) o9 := pj_xs (s32_9)
theorem q32_10 : pj_row 32 10 = some (.bipush 6, 2, 0, 0, 0) := by decide +kernel
theorem s32_10 {L : pj_Loc} {st : List Value} {M : pj_Mem}  : pj_step 32 (10, L, st, M) = some (12, L, .int 6 :: st, M) := st_bipush q32_10 (by decide +kernel)
theorem x32_10 {L : pj_Loc} {st : List Value} {M : pj_Mem}  {o9 : Option Value × pj_Mem} : pj_Ends 32 (10, L, st, M) o9 = pj_Ends 32 (12, L, .int 6 :: st, M) o9 := pj_xs (s32_10)
theorem q32_12 : pj_row 32 12 = some (.invokestatic 44, 3, 0, 5, 3) := by decide +kernel
theorem s32_12 {L : pj_Loc} {st : List Value} {N S : Nat} {H : pj_Heap} {d o : Nat} {n dp sp : Int32} : pj_step 32 (12, L, .int n :: .int dp :: .ref d :: .int sp :: .ref o :: st, (N, S, H)) = pj_g4 st (pj_set 15 L st (N, S, H) d (pj_cas (H o) (H d) sp dp n)) := st_acp q32_12
theorem x32_12 {L : pj_Loc} {st : List Value} {N S : Nat} {H : pj_Heap} {d o : Nat} {n dp sp : Int32} {o9 : Option Value × pj_Mem} : pj_Ends 32 (12, L, .int n :: .int dp :: .ref d :: .int sp :: .ref o :: st, (N, S, H)) o9 = pj_then 32 o9 (pj_g4 st (pj_set 15 L st (N, S, H) d (pj_cas (H o) (H d) sp dp n))) := pj_xt q32_12 rfl rfl (s32_12)
theorem q32_15 : pj_row 32 15 = some (.aload_n 1, 1, 0, 0, 0) := by decide +kernel
theorem s32_15 {st : List Value} {M : pj_Mem} {l : pj_Loc} {a0 : Option Value} {x : Nat} : pj_step 32 (15, a0 :: some (.ref x) :: l, st, M) = some (16, a0 :: some (.ref x) :: l, .ref x :: st, M) := st_aload_n q32_15 rfl
theorem x32_15 {st : List Value} {M : pj_Mem} {l : pj_Loc} {a0 : Option Value} {x : Nat} {o9 : Option Value × pj_Mem} : pj_Ends 32 (15, a0 :: some (.ref x) :: l, st, M) o9 = pj_Ends 32 (16, a0 :: some (.ref x) :: l, .ref x :: st, M) o9 := pj_xs (s32_15)
theorem q32_16 : pj_row 32 16 = some (.getfield 15, 3, 4, 1, 0) := by decide +kernel
theorem s32_16 {L : pj_Loc} {st : List Value} {N S : Nat} {H : pj_Heap} {o : Nat} : pj_step 32 (16, L, .ref o :: st, (N, S, H)) = pj_pv 19 L st (N, S, H) (pj_fld (H o) 4 1) := st_getfield q32_16
theorem x32_16 {L : pj_Loc} {st : List Value} {N S : Nat} {H : pj_Heap} {o : Nat} {o9 : Option Value × pj_Mem} : pj_Ends 32 (16, L, .ref o :: st, (N, S, H)) o9 = pj_then 32 o9 (pj_pv 19 L st (N, S, H) (pj_fld (H o) 4 1)) := pj_xt q32_16 rfl (pj_cl_nc rfl) (s32_16)
theorem q32_19 : pj_row 32 19 = some (.iconst 0, 1, 0, 0, 0) := by decide +kernel
theorem s32_19 {L : pj_Loc} {st : List Value} {M : pj_Mem}  : pj_step 32 (19, L, st, M) = some (20, L, .int 0 :: st, M) := st_iconst q32_19 (by decide +kernel)
theorem x32_19 {L : pj_Loc} {st : List Value} {M : pj_Mem}  {o9 : Option Value × pj_Mem} : pj_Ends 32 (19, L, st, M) o9 = pj_Ends 32 (20, L, .int 0 :: st, M) o9 := pj_xs (s32_19)
theorem q32_20 : pj_row 32 20 = some (.aload_n 0, 1, 0, 0, 0) := by decide +kernel
theorem s32_20 {st : List Value} {M : pj_Mem} {l : pj_Loc} {x : Nat} : pj_step 32 (20, some (.ref x) :: l, st, M) = some (21, some (.ref x) :: l, .ref x :: st, M) := st_aload_n q32_20 rfl
theorem x32_20 {st : List Value} {M : pj_Mem} {l : pj_Loc} {x : Nat} {o9 : Option Value × pj_Mem} : pj_Ends 32 (20, some (.ref x) :: l, st, M) o9 = pj_Ends 32 (21, some (.ref x) :: l, .ref x :: st, M) o9 := pj_xs (s32_20)
theorem q32_21 : pj_row 32 21 = some (.getfield 15, 3, 4, 1, 0) := by decide +kernel
theorem s32_21 {L : pj_Loc} {st : List Value} {N S : Nat} {H : pj_Heap} {o : Nat} : pj_step 32 (21, L, .ref o :: st, (N, S, H)) = pj_pv 24 L st (N, S, H) (pj_fld (H o) 4 1) := st_getfield q32_21
theorem x32_21 {L : pj_Loc} {st : List Value} {N S : Nat} {H : pj_Heap} {o : Nat} {o9 : Option Value × pj_Mem} : pj_Ends 32 (21, L, .ref o :: st, (N, S, H)) o9 = pj_then 32 o9 (pj_pv 24 L st (N, S, H) (pj_fld (H o) 4 1)) := pj_xt q32_21 rfl (pj_cl_nc rfl) (s32_21)
theorem q32_24 : pj_row 32 24 = some (.iconst 0, 1, 0, 0, 0) := by decide +kernel
theorem s32_24 {L : pj_Loc} {st : List Value} {M : pj_Mem}  : pj_step 32 (24, L, st, M) = some (25, L, .int 0 :: st, M) := st_iconst q32_24 (by decide +kernel)
theorem x32_24 {L : pj_Loc} {st : List Value} {M : pj_Mem}  {o9 : Option Value × pj_Mem} : pj_Ends 32 (24, L, st, M) o9 = pj_Ends 32 (25, L, .int 0 :: st, M) o9 := pj_xs (s32_24)
theorem q32_25 : pj_row 32 25 = some (.iconst 3, 1, 0, 0, 0) := by decide +kernel
theorem s32_25 {L : pj_Loc} {st : List Value} {M : pj_Mem}  : pj_step 32 (25, L, st, M) = some (26, L, .int 3 :: st, M) := st_iconst q32_25 (by decide +kernel)
theorem x32_25 {L : pj_Loc} {st : List Value} {M : pj_Mem}  {o9 : Option Value × pj_Mem} : pj_Ends 32 (25, L, st, M) o9 = pj_Ends 32 (26, L, .int 3 :: st, M) o9 := pj_xs (s32_25)
theorem q32_26 : pj_row 32 26 = some (.invokestatic 44, 3, 0, 5, 3) := by decide +kernel
theorem s32_26 {L : pj_Loc} {st : List Value} {N S : Nat} {H : pj_Heap} {d o : Nat} {n dp sp : Int32} : pj_step 32 (26, L, .int n :: .int dp :: .ref d :: .int sp :: .ref o :: st, (N, S, H)) = pj_g4 st (pj_set 29 L st (N, S, H) d (pj_cas (H o) (H d) sp dp n)) := st_acp q32_26
theorem x32_26 {L : pj_Loc} {st : List Value} {N S : Nat} {H : pj_Heap} {d o : Nat} {n dp sp : Int32} {o9 : Option Value × pj_Mem} : pj_Ends 32 (26, L, .int n :: .int dp :: .ref d :: .int sp :: .ref o :: st, (N, S, H)) o9 = pj_then 32 o9 (pj_g4 st (pj_set 29 L st (N, S, H) d (pj_cas (H o) (H d) sp dp n))) := pj_xt q32_26 rfl rfl (s32_26)
theorem q32_29 : pj_row 32 29 = some (.aload_n 1, 1, 0, 0, 0) := by decide +kernel
theorem s32_29 {st : List Value} {M : pj_Mem} {l : pj_Loc} {a0 : Option Value} {x : Nat} : pj_step 32 (29, a0 :: some (.ref x) :: l, st, M) = some (30, a0 :: some (.ref x) :: l, .ref x :: st, M) := st_aload_n q32_29 rfl
theorem x32_29 {st : List Value} {M : pj_Mem} {l : pj_Loc} {a0 : Option Value} {x : Nat} {o9 : Option Value × pj_Mem} : pj_Ends 32 (29, a0 :: some (.ref x) :: l, st, M) o9 = pj_Ends 32 (30, a0 :: some (.ref x) :: l, .ref x :: st, M) o9 := pj_xs (s32_29)
theorem q32_30 : pj_row 32 30 = some (.getfield 18, 3, 4, 2, 0) := by decide +kernel
theorem s32_30 {L : pj_Loc} {st : List Value} {N S : Nat} {H : pj_Heap} {o : Nat} : pj_step 32 (30, L, .ref o :: st, (N, S, H)) = pj_pv 33 L st (N, S, H) (pj_fld (H o) 4 2) := st_getfield q32_30
theorem x32_30 {L : pj_Loc} {st : List Value} {N S : Nat} {H : pj_Heap} {o : Nat} {o9 : Option Value × pj_Mem} : pj_Ends 32 (30, L, .ref o :: st, (N, S, H)) o9 = pj_then 32 o9 (pj_pv 33 L st (N, S, H) (pj_fld (H o) 4 2)) := pj_xt q32_30 rfl (pj_cl_nc rfl) (s32_30)
theorem q32_33 : pj_row 32 33 = some (.iconst 0, 1, 0, 0, 0) := by decide +kernel
theorem s32_33 {L : pj_Loc} {st : List Value} {M : pj_Mem}  : pj_step 32 (33, L, st, M) = some (34, L, .int 0 :: st, M) := st_iconst q32_33 (by decide +kernel)
theorem x32_33 {L : pj_Loc} {st : List Value} {M : pj_Mem}  {o9 : Option Value × pj_Mem} : pj_Ends 32 (33, L, st, M) o9 = pj_Ends 32 (34, L, .int 0 :: st, M) o9 := pj_xs (s32_33)
theorem q32_34 : pj_row 32 34 = some (.aload_n 0, 1, 0, 0, 0) := by decide +kernel
theorem s32_34 {st : List Value} {M : pj_Mem} {l : pj_Loc} {x : Nat} : pj_step 32 (34, some (.ref x) :: l, st, M) = some (35, some (.ref x) :: l, .ref x :: st, M) := st_aload_n q32_34 rfl
theorem x32_34 {st : List Value} {M : pj_Mem} {l : pj_Loc} {x : Nat} {o9 : Option Value × pj_Mem} : pj_Ends 32 (34, some (.ref x) :: l, st, M) o9 = pj_Ends 32 (35, some (.ref x) :: l, .ref x :: st, M) o9 := pj_xs (s32_34)
theorem q32_35 : pj_row 32 35 = some (.getfield 18, 3, 4, 2, 0) := by decide +kernel
theorem s32_35 {L : pj_Loc} {st : List Value} {N S : Nat} {H : pj_Heap} {o : Nat} : pj_step 32 (35, L, .ref o :: st, (N, S, H)) = pj_pv 38 L st (N, S, H) (pj_fld (H o) 4 2) := st_getfield q32_35
theorem x32_35 {L : pj_Loc} {st : List Value} {N S : Nat} {H : pj_Heap} {o : Nat} {o9 : Option Value × pj_Mem} : pj_Ends 32 (35, L, .ref o :: st, (N, S, H)) o9 = pj_then 32 o9 (pj_pv 38 L st (N, S, H) (pj_fld (H o) 4 2)) := pj_xt q32_35 rfl (pj_cl_nc rfl) (s32_35)
theorem q32_38 : pj_row 32 38 = some (.iconst 0, 1, 0, 0, 0) := by decide +kernel
theorem s32_38 {L : pj_Loc} {st : List Value} {M : pj_Mem}  : pj_step 32 (38, L, st, M) = some (39, L, .int 0 :: st, M) := st_iconst q32_38 (by decide +kernel)
theorem x32_38 {L : pj_Loc} {st : List Value} {M : pj_Mem}  {o9 : Option Value × pj_Mem} : pj_Ends 32 (38, L, st, M) o9 = pj_Ends 32 (39, L, .int 0 :: st, M) o9 := pj_xs (s32_38)
theorem q32_39 : pj_row 32 39 = some (.iconst 3, 1, 0, 0, 0) := by decide +kernel
theorem s32_39 {L : pj_Loc} {st : List Value} {M : pj_Mem}  : pj_step 32 (39, L, st, M) = some (40, L, .int 3 :: st, M) := st_iconst q32_39 (by decide +kernel)
theorem x32_39 {L : pj_Loc} {st : List Value} {M : pj_Mem}  {o9 : Option Value × pj_Mem} : pj_Ends 32 (39, L, st, M) o9 = pj_Ends 32 (40, L, .int 3 :: st, M) o9 := pj_xs (s32_39)
theorem q32_40 : pj_row 32 40 = some (.invokestatic 44, 3, 0, 5, 3) := by decide +kernel
theorem s32_40 {L : pj_Loc} {st : List Value} {N S : Nat} {H : pj_Heap} {d o : Nat} {n dp sp : Int32} : pj_step 32 (40, L, .int n :: .int dp :: .ref d :: .int sp :: .ref o :: st, (N, S, H)) = pj_g4 st (pj_set 43 L st (N, S, H) d (pj_cas (H o) (H d) sp dp n)) := st_acp q32_40
theorem x32_40 {L : pj_Loc} {st : List Value} {N S : Nat} {H : pj_Heap} {d o : Nat} {n dp sp : Int32} {o9 : Option Value × pj_Mem} : pj_Ends 32 (40, L, .int n :: .int dp :: .ref d :: .int sp :: .ref o :: st, (N, S, H)) o9 = pj_then 32 o9 (pj_g4 st (pj_set 43 L st (N, S, H) d (pj_cas (H o) (H d) sp dp n))) := pj_xt q32_40 rfl rfl (s32_40)
theorem q32_43 : pj_row 32 43 = some (.aload_n 1, 1, 0, 0, 0) := by decide +kernel
theorem s32_43 {st : List Value} {M : pj_Mem} {l : pj_Loc} {a0 : Option Value} {x : Nat} : pj_step 32 (43, a0 :: some (.ref x) :: l, st, M) = some (44, a0 :: some (.ref x) :: l, .ref x :: st, M) := st_aload_n q32_43 rfl
theorem x32_43 {st : List Value} {M : pj_Mem} {l : pj_Loc} {a0 : Option Value} {x : Nat} {o9 : Option Value × pj_Mem} : pj_Ends 32 (43, a0 :: some (.ref x) :: l, st, M) o9 = pj_Ends 32 (44, a0 :: some (.ref x) :: l, .ref x :: st, M) o9 := pj_xs (s32_43)
theorem q32_44 : pj_row 32 44 = some (.getfield 21, 3, 4, 3, 0) := by decide +kernel
theorem s32_44 {L : pj_Loc} {st : List Value} {N S : Nat} {H : pj_Heap} {o : Nat} : pj_step 32 (44, L, .ref o :: st, (N, S, H)) = pj_pv 47 L st (N, S, H) (pj_fld (H o) 4 3) := st_getfield q32_44
theorem x32_44 {L : pj_Loc} {st : List Value} {N S : Nat} {H : pj_Heap} {o : Nat} {o9 : Option Value × pj_Mem} : pj_Ends 32 (44, L, .ref o :: st, (N, S, H)) o9 = pj_then 32 o9 (pj_pv 47 L st (N, S, H) (pj_fld (H o) 4 3)) := pj_xt q32_44 rfl (pj_cl_nc rfl) (s32_44)
theorem q32_47 : pj_row 32 47 = some (.iconst 0, 1, 0, 0, 0) := by decide +kernel
theorem s32_47 {L : pj_Loc} {st : List Value} {M : pj_Mem}  : pj_step 32 (47, L, st, M) = some (48, L, .int 0 :: st, M) := st_iconst q32_47 (by decide +kernel)
theorem x32_47 {L : pj_Loc} {st : List Value} {M : pj_Mem}  {o9 : Option Value × pj_Mem} : pj_Ends 32 (47, L, st, M) o9 = pj_Ends 32 (48, L, .int 0 :: st, M) o9 := pj_xs (s32_47)
theorem q32_48 : pj_row 32 48 = some (.aload_n 0, 1, 0, 0, 0) := by decide +kernel
theorem s32_48 {st : List Value} {M : pj_Mem} {l : pj_Loc} {x : Nat} : pj_step 32 (48, some (.ref x) :: l, st, M) = some (49, some (.ref x) :: l, .ref x :: st, M) := st_aload_n q32_48 rfl
theorem x32_48 {st : List Value} {M : pj_Mem} {l : pj_Loc} {x : Nat} {o9 : Option Value × pj_Mem} : pj_Ends 32 (48, some (.ref x) :: l, st, M) o9 = pj_Ends 32 (49, some (.ref x) :: l, .ref x :: st, M) o9 := pj_xs (s32_48)
theorem q32_49 : pj_row 32 49 = some (.getfield 21, 3, 4, 3, 0) := by decide +kernel
theorem s32_49 {L : pj_Loc} {st : List Value} {N S : Nat} {H : pj_Heap} {o : Nat} : pj_step 32 (49, L, .ref o :: st, (N, S, H)) = pj_pv 52 L st (N, S, H) (pj_fld (H o) 4 3) := st_getfield q32_49
theorem x32_49 {L : pj_Loc} {st : List Value} {N S : Nat} {H : pj_Heap} {o : Nat} {o9 : Option Value × pj_Mem} : pj_Ends 32 (49, L, .ref o :: st, (N, S, H)) o9 = pj_then 32 o9 (pj_pv 52 L st (N, S, H) (pj_fld (H o) 4 3)) := pj_xt q32_49 rfl (pj_cl_nc rfl) (s32_49)
theorem q32_52 : pj_row 32 52 = some (.iconst 0, 1, 0, 0, 0) := by decide +kernel
theorem s32_52 {L : pj_Loc} {st : List Value} {M : pj_Mem}  : pj_step 32 (52, L, st, M) = some (53, L, .int 0 :: st, M) := st_iconst q32_52 (by decide +kernel)
theorem x32_52 {L : pj_Loc} {st : List Value} {M : pj_Mem}  {o9 : Option Value × pj_Mem} : pj_Ends 32 (52, L, st, M) o9 = pj_Ends 32 (53, L, .int 0 :: st, M) o9 := pj_xs (s32_52)
theorem q32_53 : pj_row 32 53 = some (.iconst 3, 1, 0, 0, 0) := by decide +kernel
theorem s32_53 {L : pj_Loc} {st : List Value} {M : pj_Mem}  : pj_step 32 (53, L, st, M) = some (54, L, .int 3 :: st, M) := st_iconst q32_53 (by decide +kernel)
theorem x32_53 {L : pj_Loc} {st : List Value} {M : pj_Mem}  {o9 : Option Value × pj_Mem} : pj_Ends 32 (53, L, st, M) o9 = pj_Ends 32 (54, L, .int 3 :: st, M) o9 := pj_xs (s32_53)
theorem q32_54 : pj_row 32 54 = some (.invokestatic 44, 3, 0, 5, 3) := by decide +kernel
theorem s32_54 {L : pj_Loc} {st : List Value} {N S : Nat} {H : pj_Heap} {d o : Nat} {n dp sp : Int32} : pj_step 32 (54, L, .int n :: .int dp :: .ref d :: .int sp :: .ref o :: st, (N, S, H)) = pj_g4 st (pj_set 57 L st (N, S, H) d (pj_cas (H o) (H d) sp dp n)) := st_acp q32_54
theorem x32_54 {L : pj_Loc} {st : List Value} {N S : Nat} {H : pj_Heap} {d o : Nat} {n dp sp : Int32} {o9 : Option Value × pj_Mem} : pj_Ends 32 (54, L, .int n :: .int dp :: .ref d :: .int sp :: .ref o :: st, (N, S, H)) o9 = pj_then 32 o9 (pj_g4 st (pj_set 57 L st (N, S, H) d (pj_cas (H o) (H d) sp dp n))) := pj_xt q32_54 rfl rfl (s32_54)
theorem q32_57 : pj_row 32 57 = some (.aload_n 1, 1, 0, 0, 0) := by decide +kernel
theorem s32_57 {st : List Value} {M : pj_Mem} {l : pj_Loc} {a0 : Option Value} {x : Nat} : pj_step 32 (57, a0 :: some (.ref x) :: l, st, M) = some (58, a0 :: some (.ref x) :: l, .ref x :: st, M) := st_aload_n q32_57 rfl
theorem x32_57 {st : List Value} {M : pj_Mem} {l : pj_Loc} {a0 : Option Value} {x : Nat} {o9 : Option Value × pj_Mem} : pj_Ends 32 (57, a0 :: some (.ref x) :: l, st, M) o9 = pj_Ends 32 (58, a0 :: some (.ref x) :: l, .ref x :: st, M) o9 := pj_xs (s32_57)
theorem q32_58 : pj_row 32 58 = some (.getfield 24, 3, 4, 4, 0) := by decide +kernel
theorem s32_58 {L : pj_Loc} {st : List Value} {N S : Nat} {H : pj_Heap} {o : Nat} : pj_step 32 (58, L, .ref o :: st, (N, S, H)) = pj_pv 61 L st (N, S, H) (pj_fld (H o) 4 4) := st_getfield q32_58
theorem x32_58 {L : pj_Loc} {st : List Value} {N S : Nat} {H : pj_Heap} {o : Nat} {o9 : Option Value × pj_Mem} : pj_Ends 32 (58, L, .ref o :: st, (N, S, H)) o9 = pj_then 32 o9 (pj_pv 61 L st (N, S, H) (pj_fld (H o) 4 4)) := pj_xt q32_58 rfl (pj_cl_nc rfl) (s32_58)
theorem q32_61 : pj_row 32 61 = some (.iconst 0, 1, 0, 0, 0) := by decide +kernel
theorem s32_61 {L : pj_Loc} {st : List Value} {M : pj_Mem}  : pj_step 32 (61, L, st, M) = some (62, L, .int 0 :: st, M) := st_iconst q32_61 (by decide +kernel)
theorem x32_61 {L : pj_Loc} {st : List Value} {M : pj_Mem}  {o9 : Option Value × pj_Mem} : pj_Ends 32 (61, L, st, M) o9 = pj_Ends 32 (62, L, .int 0 :: st, M) o9 := pj_xs (s32_61)
theorem q32_62 : pj_row 32 62 = some (.aload_n 0, 1, 0, 0, 0) := by decide +kernel
theorem s32_62 {st : List Value} {M : pj_Mem} {l : pj_Loc} {x : Nat} : pj_step 32 (62, some (.ref x) :: l, st, M) = some (63, some (.ref x) :: l, .ref x :: st, M) := st_aload_n q32_62 rfl
theorem x32_62 {st : List Value} {M : pj_Mem} {l : pj_Loc} {x : Nat} {o9 : Option Value × pj_Mem} : pj_Ends 32 (62, some (.ref x) :: l, st, M) o9 = pj_Ends 32 (63, some (.ref x) :: l, .ref x :: st, M) o9 := pj_xs (s32_62)
theorem q32_63 : pj_row 32 63 = some (.getfield 24, 3, 4, 4, 0) := by decide +kernel
theorem s32_63 {L : pj_Loc} {st : List Value} {N S : Nat} {H : pj_Heap} {o : Nat} : pj_step 32 (63, L, .ref o :: st, (N, S, H)) = pj_pv 66 L st (N, S, H) (pj_fld (H o) 4 4) := st_getfield q32_63
theorem x32_63 {L : pj_Loc} {st : List Value} {N S : Nat} {H : pj_Heap} {o : Nat} {o9 : Option Value × pj_Mem} : pj_Ends 32 (63, L, .ref o :: st, (N, S, H)) o9 = pj_then 32 o9 (pj_pv 66 L st (N, S, H) (pj_fld (H o) 4 4)) := pj_xt q32_63 rfl (pj_cl_nc rfl) (s32_63)
theorem q32_66 : pj_row 32 66 = some (.iconst 0, 1, 0, 0, 0) := by decide +kernel
theorem s32_66 {L : pj_Loc} {st : List Value} {M : pj_Mem}  : pj_step 32 (66, L, st, M) = some (67, L, .int 0 :: st, M) := st_iconst q32_66 (by decide +kernel)
theorem x32_66 {L : pj_Loc} {st : List Value} {M : pj_Mem}  {o9 : Option Value × pj_Mem} : pj_Ends 32 (66, L, st, M) o9 = pj_Ends 32 (67, L, .int 0 :: st, M) o9 := pj_xs (s32_66)
theorem q32_67 : pj_row 32 67 = some (.iconst 3, 1, 0, 0, 0) := by decide +kernel
theorem s32_67 {L : pj_Loc} {st : List Value} {M : pj_Mem}  : pj_step 32 (67, L, st, M) = some (68, L, .int 3 :: st, M) := st_iconst q32_67 (by decide +kernel)
theorem x32_67 {L : pj_Loc} {st : List Value} {M : pj_Mem}  {o9 : Option Value × pj_Mem} : pj_Ends 32 (67, L, st, M) o9 = pj_Ends 32 (68, L, .int 3 :: st, M) o9 := pj_xs (s32_67)
theorem q32_68 : pj_row 32 68 = some (.invokestatic 44, 3, 0, 5, 3) := by decide +kernel
theorem s32_68 {L : pj_Loc} {st : List Value} {N S : Nat} {H : pj_Heap} {d o : Nat} {n dp sp : Int32} : pj_step 32 (68, L, .int n :: .int dp :: .ref d :: .int sp :: .ref o :: st, (N, S, H)) = pj_g4 st (pj_set 71 L st (N, S, H) d (pj_cas (H o) (H d) sp dp n)) := st_acp q32_68
theorem x32_68 {L : pj_Loc} {st : List Value} {N S : Nat} {H : pj_Heap} {d o : Nat} {n dp sp : Int32} {o9 : Option Value × pj_Mem} : pj_Ends 32 (68, L, .int n :: .int dp :: .ref d :: .int sp :: .ref o :: st, (N, S, H)) o9 = pj_then 32 o9 (pj_g4 st (pj_set 71 L st (N, S, H) d (pj_cas (H o) (H d) sp dp n))) := pj_xt q32_68 rfl rfl (s32_68)
theorem q32_71 : pj_row 32 71 = some (.aload_n 1, 1, 0, 0, 0) := by decide +kernel
theorem s32_71 {st : List Value} {M : pj_Mem} {l : pj_Loc} {a0 : Option Value} {x : Nat} : pj_step 32 (71, a0 :: some (.ref x) :: l, st, M) = some (72, a0 :: some (.ref x) :: l, .ref x :: st, M) := st_aload_n q32_71 rfl
theorem x32_71 {st : List Value} {M : pj_Mem} {l : pj_Loc} {a0 : Option Value} {x : Nat} {o9 : Option Value × pj_Mem} : pj_Ends 32 (71, a0 :: some (.ref x) :: l, st, M) o9 = pj_Ends 32 (72, a0 :: some (.ref x) :: l, .ref x :: st, M) o9 := pj_xs (s32_71)
theorem q32_72 : pj_row 32 72 = some (.getfield 27, 3, 4, 5, 0) := by decide +kernel
theorem s32_72 {L : pj_Loc} {st : List Value} {N S : Nat} {H : pj_Heap} {o : Nat} : pj_step 32 (72, L, .ref o :: st, (N, S, H)) = pj_pv 75 L st (N, S, H) (pj_fld (H o) 4 5) := st_getfield q32_72
theorem x32_72 {L : pj_Loc} {st : List Value} {N S : Nat} {H : pj_Heap} {o : Nat} {o9 : Option Value × pj_Mem} : pj_Ends 32 (72, L, .ref o :: st, (N, S, H)) o9 = pj_then 32 o9 (pj_pv 75 L st (N, S, H) (pj_fld (H o) 4 5)) := pj_xt q32_72 rfl (pj_cl_nc rfl) (s32_72)
theorem q32_75 : pj_row 32 75 = some (.iconst 0, 1, 0, 0, 0) := by decide +kernel
theorem s32_75 {L : pj_Loc} {st : List Value} {M : pj_Mem}  : pj_step 32 (75, L, st, M) = some (76, L, .int 0 :: st, M) := st_iconst q32_75 (by decide +kernel)
theorem x32_75 {L : pj_Loc} {st : List Value} {M : pj_Mem}  {o9 : Option Value × pj_Mem} : pj_Ends 32 (75, L, st, M) o9 = pj_Ends 32 (76, L, .int 0 :: st, M) o9 := pj_xs (s32_75)
theorem q32_76 : pj_row 32 76 = some (.aload_n 0, 1, 0, 0, 0) := by decide +kernel
theorem s32_76 {st : List Value} {M : pj_Mem} {l : pj_Loc} {x : Nat} : pj_step 32 (76, some (.ref x) :: l, st, M) = some (77, some (.ref x) :: l, .ref x :: st, M) := st_aload_n q32_76 rfl
theorem x32_76 {st : List Value} {M : pj_Mem} {l : pj_Loc} {x : Nat} {o9 : Option Value × pj_Mem} : pj_Ends 32 (76, some (.ref x) :: l, st, M) o9 = pj_Ends 32 (77, some (.ref x) :: l, .ref x :: st, M) o9 := pj_xs (s32_76)
theorem q32_77 : pj_row 32 77 = some (.getfield 27, 3, 4, 5, 0) := by decide +kernel
theorem s32_77 {L : pj_Loc} {st : List Value} {N S : Nat} {H : pj_Heap} {o : Nat} : pj_step 32 (77, L, .ref o :: st, (N, S, H)) = pj_pv 80 L st (N, S, H) (pj_fld (H o) 4 5) := st_getfield q32_77
theorem x32_77 {L : pj_Loc} {st : List Value} {N S : Nat} {H : pj_Heap} {o : Nat} {o9 : Option Value × pj_Mem} : pj_Ends 32 (77, L, .ref o :: st, (N, S, H)) o9 = pj_then 32 o9 (pj_pv 80 L st (N, S, H) (pj_fld (H o) 4 5)) := pj_xt q32_77 rfl (pj_cl_nc rfl) (s32_77)
theorem q32_80 : pj_row 32 80 = some (.iconst 0, 1, 0, 0, 0) := by decide +kernel
theorem s32_80 {L : pj_Loc} {st : List Value} {M : pj_Mem}  : pj_step 32 (80, L, st, M) = some (81, L, .int 0 :: st, M) := st_iconst q32_80 (by decide +kernel)
theorem x32_80 {L : pj_Loc} {st : List Value} {M : pj_Mem}  {o9 : Option Value × pj_Mem} : pj_Ends 32 (80, L, st, M) o9 = pj_Ends 32 (81, L, .int 0 :: st, M) o9 := pj_xs (s32_80)
theorem q32_81 : pj_row 32 81 = some (.iconst 3, 1, 0, 0, 0) := by decide +kernel
theorem s32_81 {L : pj_Loc} {st : List Value} {M : pj_Mem}  : pj_step 32 (81, L, st, M) = some (82, L, .int 3 :: st, M) := st_iconst q32_81 (by decide +kernel)
theorem x32_81 {L : pj_Loc} {st : List Value} {M : pj_Mem}  {o9 : Option Value × pj_Mem} : pj_Ends 32 (81, L, st, M) o9 = pj_Ends 32 (82, L, .int 3 :: st, M) o9 := pj_xs (s32_81)
theorem q32_82 : pj_row 32 82 = some (.invokestatic 44, 3, 0, 5, 3) := by decide +kernel
theorem s32_82 {L : pj_Loc} {st : List Value} {N S : Nat} {H : pj_Heap} {d o : Nat} {n dp sp : Int32} : pj_step 32 (82, L, .int n :: .int dp :: .ref d :: .int sp :: .ref o :: st, (N, S, H)) = pj_g4 st (pj_set 85 L st (N, S, H) d (pj_cas (H o) (H d) sp dp n)) := st_acp q32_82
theorem x32_82 {L : pj_Loc} {st : List Value} {N S : Nat} {H : pj_Heap} {d o : Nat} {n dp sp : Int32} {o9 : Option Value × pj_Mem} : pj_Ends 32 (82, L, .int n :: .int dp :: .ref d :: .int sp :: .ref o :: st, (N, S, H)) o9 = pj_then 32 o9 (pj_g4 st (pj_set 85 L st (N, S, H) d (pj_cas (H o) (H d) sp dp n))) := pj_xt q32_82 rfl rfl (s32_82)
theorem q32_85 : pj_row 32 85 = some (.aload_n 0, 1, 0, 0, 0) := by decide +kernel
theorem s32_85 {st : List Value} {M : pj_Mem} {l : pj_Loc} {x : Nat} : pj_step 32 (85, some (.ref x) :: l, st, M) = some (86, some (.ref x) :: l, .ref x :: st, M) := st_aload_n q32_85 rfl
theorem x32_85 {st : List Value} {M : pj_Mem} {l : pj_Loc} {x : Nat} {o9 : Option Value × pj_Mem} : pj_Ends 32 (85, some (.ref x) :: l, st, M) o9 = pj_Ends 32 (86, some (.ref x) :: l, .ref x :: st, M) o9 := pj_xs (s32_85)
theorem q32_86 : pj_row 32 86 = some (.getfield 33, 3, 4, 6, 0) := by decide +kernel
theorem s32_86 {L : pj_Loc} {st : List Value} {N S : Nat} {H : pj_Heap} {o : Nat} : pj_step 32 (86, L, .ref o :: st, (N, S, H)) = pj_pv 89 L st (N, S, H) (pj_fld (H o) 4 6) := st_getfield q32_86
theorem x32_86 {L : pj_Loc} {st : List Value} {N S : Nat} {H : pj_Heap} {o : Nat} {o9 : Option Value × pj_Mem} : pj_Ends 32 (86, L, .ref o :: st, (N, S, H)) o9 = pj_then 32 o9 (pj_pv 89 L st (N, S, H) (pj_fld (H o) 4 6)) := pj_xt q32_86 rfl (pj_cl_nc rfl) (s32_86)
theorem q32_89 : pj_row 32 89 = some (.aload_n 1, 1, 0, 0, 0) := by decide +kernel
theorem s32_89 {st : List Value} {M : pj_Mem} {l : pj_Loc} {a0 : Option Value} {x : Nat} : pj_step 32 (89, a0 :: some (.ref x) :: l, st, M) = some (90, a0 :: some (.ref x) :: l, .ref x :: st, M) := st_aload_n q32_89 rfl
theorem x32_89 {st : List Value} {M : pj_Mem} {l : pj_Loc} {a0 : Option Value} {x : Nat} {o9 : Option Value × pj_Mem} : pj_Ends 32 (89, a0 :: some (.ref x) :: l, st, M) o9 = pj_Ends 32 (90, a0 :: some (.ref x) :: l, .ref x :: st, M) o9 := pj_xs (s32_89)
theorem q32_90 : pj_row 32 90 = some (.getfield 33, 3, 4, 6, 0) := by decide +kernel
theorem s32_90 {L : pj_Loc} {st : List Value} {N S : Nat} {H : pj_Heap} {o : Nat} : pj_step 32 (90, L, .ref o :: st, (N, S, H)) = pj_pv 93 L st (N, S, H) (pj_fld (H o) 4 6) := st_getfield q32_90
theorem x32_90 {L : pj_Loc} {st : List Value} {N S : Nat} {H : pj_Heap} {o : Nat} {o9 : Option Value × pj_Mem} : pj_Ends 32 (90, L, .ref o :: st, (N, S, H)) o9 = pj_then 32 o9 (pj_pv 93 L st (N, S, H) (pj_fld (H o) 4 6)) := pj_xt q32_90 rfl (pj_cl_nc rfl) (s32_90)
theorem q32_93 : pj_row 32 93 = some (.invokevirtual 50, 3, 33, 2, 0) := by decide +kernel
theorem e32_93 {L : pj_Loc} {st : List Value} {N S : Nat} {H : pj_Heap} {o : Option Value × pj_Mem} {M' : pj_Mem} {x0 : Nat} {x1 : Nat} (h4 : pj_le4 st = true) (hu : pj_isU 2 (H x0) = true) (h1 : pj_Ends 33 (0, [some (.ref x0), some (.ref x1)], [], (N, S, H)) (none, M')) (h2 : pj_Ends 32 (96, L, st, M') o) : pj_Ends 32 (93, L, .ref x1 :: .ref x0 :: st, (N, S, H)) o := ec_v2 q32_93 (Or.inl rfl) h4 hu rfl h1 h2
theorem q32_96 : pj_row 32 96 = some (.aload_n 0, 1, 0, 0, 0) := by decide +kernel
theorem s32_96 {st : List Value} {M : pj_Mem} {l : pj_Loc} {x : Nat} : pj_step 32 (96, some (.ref x) :: l, st, M) = some (97, some (.ref x) :: l, .ref x :: st, M) := st_aload_n q32_96 rfl
theorem x32_96 {st : List Value} {M : pj_Mem} {l : pj_Loc} {x : Nat} {o9 : Option Value × pj_Mem} : pj_Ends 32 (96, some (.ref x) :: l, st, M) o9 = pj_Ends 32 (97, some (.ref x) :: l, .ref x :: st, M) o9 := pj_xs (s32_96)
theorem q32_97 : pj_row 32 97 = some (.aload_n 1, 1, 0, 0, 0) := by decide +kernel
theorem s32_97 {st : List Value} {M : pj_Mem} {l : pj_Loc} {a0 : Option Value} {x : Nat} : pj_step 32 (97, a0 :: some (.ref x) :: l, st, M) = some (98, a0 :: some (.ref x) :: l, .ref x :: st, M) := st_aload_n q32_97 rfl
theorem x32_97 {st : List Value} {M : pj_Mem} {l : pj_Loc} {a0 : Option Value} {x : Nat} {o9 : Option Value × pj_Mem} : pj_Ends 32 (97, a0 :: some (.ref x) :: l, st, M) o9 = pj_Ends 32 (98, a0 :: some (.ref x) :: l, .ref x :: st, M) o9 := pj_xs (s32_97)
theorem q32_98 : pj_row 32 98 = some (.getfield 37, 3, 4, 7, 0) := by decide +kernel
theorem s32_98 {L : pj_Loc} {st : List Value} {N S : Nat} {H : pj_Heap} {o : Nat} : pj_step 32 (98, L, .ref o :: st, (N, S, H)) = pj_pv 101 L st (N, S, H) (pj_fld (H o) 4 7) := st_getfield q32_98
theorem x32_98 {L : pj_Loc} {st : List Value} {N S : Nat} {H : pj_Heap} {o : Nat} {o9 : Option Value × pj_Mem} : pj_Ends 32 (98, L, .ref o :: st, (N, S, H)) o9 = pj_then 32 o9 (pj_pv 101 L st (N, S, H) (pj_fld (H o) 4 7)) := pj_xt q32_98 rfl (pj_cl_nc rfl) (s32_98)
theorem q32_101 : pj_row 32 101 = some (.putfield 37, 3, 4, 7, 0) := by decide +kernel
theorem s32_101 {L : pj_Loc} {st : List Value} {N S : Nat} {H : pj_Heap} {o : Nat} {v : Value} : pj_step 32 (101, L, v :: .ref o :: st, (N, S, H)) = pj_set 104 L st (N, S, H) o (pj_fset (H o) 4 7 v) := st_putfield q32_101
theorem x32_101 {L : pj_Loc} {st : List Value} {N S : Nat} {H : pj_Heap} {o : Nat} {v : Value} {o9 : Option Value × pj_Mem} : pj_Ends 32 (101, L, v :: .ref o :: st, (N, S, H)) o9 = pj_then 32 o9 (pj_set 104 L st (N, S, H) o (pj_fset (H o) 4 7 v)) := pj_xt q32_101 rfl (pj_cl_nc rfl) (s32_101)
theorem q32_104 : pj_row 32 104 = some (.aload_n 0, 1, 0, 0, 0) := by decide +kernel
theorem s32_104 {st : List Value} {M : pj_Mem} {l : pj_Loc} {x : Nat} : pj_step 32 (104, some (.ref x) :: l, st, M) = some (105, some (.ref x) :: l, .ref x :: st, M) := st_aload_n q32_104 rfl
theorem x32_104 {st : List Value} {M : pj_Mem} {l : pj_Loc} {x : Nat} {o9 : Option Value × pj_Mem} : pj_Ends 32 (104, some (.ref x) :: l, st, M) o9 = pj_Ends 32 (105, some (.ref x) :: l, .ref x :: st, M) o9 := pj_xs (s32_104)
theorem q32_105 : pj_row 32 105 = some (.aload_n 1, 1, 0, 0, 0) := by decide +kernel
theorem s32_105 {st : List Value} {M : pj_Mem} {l : pj_Loc} {a0 : Option Value} {x : Nat} : pj_step 32 (105, a0 :: some (.ref x) :: l, st, M) = some (106, a0 :: some (.ref x) :: l, .ref x :: st, M) := st_aload_n q32_105 rfl
theorem x32_105 {st : List Value} {M : pj_Mem} {l : pj_Loc} {a0 : Option Value} {x : Nat} {o9 : Option Value × pj_Mem} : pj_Ends 32 (105, a0 :: some (.ref x) :: l, st, M) o9 = pj_Ends 32 (106, a0 :: some (.ref x) :: l, .ref x :: st, M) o9 := pj_xs (s32_105)
theorem q32_106 : pj_row 32 106 = some (.getfield 54, 3, 4, 8, 0) := by decide +kernel
theorem s32_106 {L : pj_Loc} {st : List Value} {N S : Nat} {H : pj_Heap} {o : Nat} : pj_step 32 (106, L, .ref o :: st, (N, S, H)) = pj_pv 109 L st (N, S, H) (pj_fld (H o) 4 8) := st_getfield q32_106
theorem x32_106 {L : pj_Loc} {st : List Value} {N S : Nat} {H : pj_Heap} {o : Nat} {o9 : Option Value × pj_Mem} : pj_Ends 32 (106, L, .ref o :: st, (N, S, H)) o9 = pj_then 32 o9 (pj_pv 109 L st (N, S, H) (pj_fld (H o) 4 8)) := pj_xt q32_106 rfl (pj_cl_nc rfl) (s32_106)
theorem q32_109 : pj_row 32 109 = some (.putfield 54, 3, 4, 8, 0) := by decide +kernel
theorem s32_109 {L : pj_Loc} {st : List Value} {N S : Nat} {H : pj_Heap} {o : Nat} {v : Value} : pj_step 32 (109, L, v :: .ref o :: st, (N, S, H)) = pj_set 112 L st (N, S, H) o (pj_fset (H o) 4 8 v) := st_putfield q32_109
theorem x32_109 {L : pj_Loc} {st : List Value} {N S : Nat} {H : pj_Heap} {o : Nat} {v : Value} {o9 : Option Value × pj_Mem} : pj_Ends 32 (109, L, v :: .ref o :: st, (N, S, H)) o9 = pj_then 32 o9 (pj_set 112 L st (N, S, H) o (pj_fset (H o) 4 8 v)) := pj_xt q32_109 rfl (pj_cl_nc rfl) (s32_109)
theorem q32_112 : pj_row 32 112 = some (.aload_n 0, 1, 0, 0, 0) := by decide +kernel
theorem s32_112 {st : List Value} {M : pj_Mem} {l : pj_Loc} {x : Nat} : pj_step 32 (112, some (.ref x) :: l, st, M) = some (113, some (.ref x) :: l, .ref x :: st, M) := st_aload_n q32_112 rfl
theorem x32_112 {st : List Value} {M : pj_Mem} {l : pj_Loc} {x : Nat} {o9 : Option Value × pj_Mem} : pj_Ends 32 (112, some (.ref x) :: l, st, M) o9 = pj_Ends 32 (113, some (.ref x) :: l, .ref x :: st, M) o9 := pj_xs (s32_112)
theorem q32_113 : pj_row 32 113 = some (.aload_n 1, 1, 0, 0, 0) := by decide +kernel
theorem s32_113 {st : List Value} {M : pj_Mem} {l : pj_Loc} {a0 : Option Value} {x : Nat} : pj_step 32 (113, a0 :: some (.ref x) :: l, st, M) = some (114, a0 :: some (.ref x) :: l, .ref x :: st, M) := st_aload_n q32_113 rfl
theorem x32_113 {st : List Value} {M : pj_Mem} {l : pj_Loc} {a0 : Option Value} {x : Nat} {o9 : Option Value × pj_Mem} : pj_Ends 32 (113, a0 :: some (.ref x) :: l, st, M) o9 = pj_Ends 32 (114, a0 :: some (.ref x) :: l, .ref x :: st, M) o9 := pj_xs (s32_113)
theorem q32_114 : pj_row 32 114 = some (.getfield 57, 3, 4, 9, 0) := by decide +kernel
theorem s32_114 {L : pj_Loc} {st : List Value} {N S : Nat} {H : pj_Heap} {o : Nat} : pj_step 32 (114, L, .ref o :: st, (N, S, H)) = pj_pv 117 L st (N, S, H) (pj_fld (H o) 4 9) := st_getfield q32_114
theorem x32_114 {L : pj_Loc} {st : List Value} {N S : Nat} {H : pj_Heap} {o : Nat} {o9 : Option Value × pj_Mem} : pj_Ends 32 (114, L, .ref o :: st, (N, S, H)) o9 = pj_then 32 o9 (pj_pv 117 L st (N, S, H) (pj_fld (H o) 4 9)) := pj_xt q32_114 rfl (pj_cl_nc rfl) (s32_114)
theorem q32_117 : pj_row 32 117 = some (.putfield 57, 3, 4, 9, 0) := by decide +kernel
theorem s32_117 {L : pj_Loc} {st : List Value} {N S : Nat} {H : pj_Heap} {o : Nat} {v : Value} : pj_step 32 (117, L, v :: .ref o :: st, (N, S, H)) = pj_set 120 L st (N, S, H) o (pj_fset (H o) 4 9 v) := st_putfield q32_117
theorem x32_117 {L : pj_Loc} {st : List Value} {N S : Nat} {H : pj_Heap} {o : Nat} {v : Value} {o9 : Option Value × pj_Mem} : pj_Ends 32 (117, L, v :: .ref o :: st, (N, S, H)) o9 = pj_then 32 o9 (pj_set 120 L st (N, S, H) o (pj_fset (H o) 4 9 v)) := pj_xt q32_117 rfl (pj_cl_nc rfl) (s32_117)
theorem q32_120 : pj_row 32 120 = some (.aload_n 0, 1, 0, 0, 0) := by decide +kernel
theorem s32_120 {st : List Value} {M : pj_Mem} {l : pj_Loc} {x : Nat} : pj_step 32 (120, some (.ref x) :: l, st, M) = some (121, some (.ref x) :: l, .ref x :: st, M) := st_aload_n q32_120 rfl
theorem x32_120 {st : List Value} {M : pj_Mem} {l : pj_Loc} {x : Nat} {o9 : Option Value × pj_Mem} : pj_Ends 32 (120, some (.ref x) :: l, st, M) o9 = pj_Ends 32 (121, some (.ref x) :: l, .ref x :: st, M) o9 := pj_xs (s32_120)
theorem q32_121 : pj_row 32 121 = some (.aload_n 1, 1, 0, 0, 0) := by decide +kernel
theorem s32_121 {st : List Value} {M : pj_Mem} {l : pj_Loc} {a0 : Option Value} {x : Nat} : pj_step 32 (121, a0 :: some (.ref x) :: l, st, M) = some (122, a0 :: some (.ref x) :: l, .ref x :: st, M) := st_aload_n q32_121 rfl
theorem x32_121 {st : List Value} {M : pj_Mem} {l : pj_Loc} {a0 : Option Value} {x : Nat} {o9 : Option Value × pj_Mem} : pj_Ends 32 (121, a0 :: some (.ref x) :: l, st, M) o9 = pj_Ends 32 (122, a0 :: some (.ref x) :: l, .ref x :: st, M) o9 := pj_xs (s32_121)
theorem q32_122 : pj_row 32 122 = some (.getfield 60, 3, 4, 10, 0) := by decide +kernel
theorem s32_122 {L : pj_Loc} {st : List Value} {N S : Nat} {H : pj_Heap} {o : Nat} : pj_step 32 (122, L, .ref o :: st, (N, S, H)) = pj_pv 125 L st (N, S, H) (pj_fld (H o) 4 10) := st_getfield q32_122
theorem x32_122 {L : pj_Loc} {st : List Value} {N S : Nat} {H : pj_Heap} {o : Nat} {o9 : Option Value × pj_Mem} : pj_Ends 32 (122, L, .ref o :: st, (N, S, H)) o9 = pj_then 32 o9 (pj_pv 125 L st (N, S, H) (pj_fld (H o) 4 10)) := pj_xt q32_122 rfl (pj_cl_nc rfl) (s32_122)
theorem q32_125 : pj_row 32 125 = some (.putfield 60, 3, 4, 10, 0) := by decide +kernel
theorem s32_125 {L : pj_Loc} {st : List Value} {N S : Nat} {H : pj_Heap} {o : Nat} {v : Value} : pj_step 32 (125, L, v :: .ref o :: st, (N, S, H)) = pj_set 128 L st (N, S, H) o (pj_fset (H o) 4 10 v) := st_putfield q32_125
theorem x32_125 {L : pj_Loc} {st : List Value} {N S : Nat} {H : pj_Heap} {o : Nat} {v : Value} {o9 : Option Value × pj_Mem} : pj_Ends 32 (125, L, v :: .ref o :: st, (N, S, H)) o9 = pj_then 32 o9 (pj_set 128 L st (N, S, H) o (pj_fset (H o) 4 10 v)) := pj_xt q32_125 rfl (pj_cl_nc rfl) (s32_125)
theorem q32_128 : pj_row 32 128 = some (.return_, 1, 0, 0, 0) := by decide +kernel
theorem t32_128 {L : pj_Loc} {M : pj_Mem} : pj_Ends 32 (128, L, [], M) (none, M) := pj_Ends.ret q32_128 (pj_rtn_v rt32)
theorem rt33 : pj_rt 33 = none := rfl
theorem q33_0 : pj_row 33 0 = some (.aload_n 1, 1, 0, 0, 0) := by decide +kernel
theorem s33_0 {st : List Value} {M : pj_Mem} {l : pj_Loc} {a0 : Option Value} {x : Nat} : pj_step 33 (0, a0 :: some (.ref x) :: l, st, M) = some (1, a0 :: some (.ref x) :: l, .ref x :: st, M) := st_aload_n q33_0 rfl
theorem x33_0 {st : List Value} {M : pj_Mem} {l : pj_Loc} {a0 : Option Value} {x : Nat} {o9 : Option Value × pj_Mem} : pj_Ends 33 (0, a0 :: some (.ref x) :: l, st, M) o9 = pj_Ends 33 (1, a0 :: some (.ref x) :: l, .ref x :: st, M) o9 := pj_xs (s33_0)
theorem q33_1 : pj_row 33 1 = some (.getfield 9, 3, 2, 0, 0) := by decide +kernel
theorem s33_1 {L : pj_Loc} {st : List Value} {N S : Nat} {H : pj_Heap} {o : Nat} : pj_step 33 (1, L, .ref o :: st, (N, S, H)) = pj_pv 4 L st (N, S, H) (pj_fld (H o) 2 0) := st_getfield q33_1
theorem x33_1 {L : pj_Loc} {st : List Value} {N S : Nat} {H : pj_Heap} {o : Nat} {o9 : Option Value × pj_Mem} : pj_Ends 33 (1, L, .ref o :: st, (N, S, H)) o9 = pj_then 33 o9 (pj_pv 4 L st (N, S, H) (pj_fld (H o) 2 0)) := pj_xt q33_1 rfl (pj_cl_nc rfl) (s33_1)
theorem q33_4 : pj_row 33 4 = some (.iconst 0, 1, 0, 0, 0) := by decide +kernel
theorem s33_4 {L : pj_Loc} {st : List Value} {M : pj_Mem}  : pj_step 33 (4, L, st, M) = some (5, L, .int 0 :: st, M) := st_iconst q33_4 (by decide +kernel)
theorem x33_4 {L : pj_Loc} {st : List Value} {M : pj_Mem}  {o9 : Option Value × pj_Mem} : pj_Ends 33 (4, L, st, M) o9 = pj_Ends 33 (5, L, .int 0 :: st, M) o9 := pj_xs (s33_4)
theorem q33_5 : pj_row 33 5 = some (.aload_n 0, 1, 0, 0, 0) := by decide +kernel
theorem s33_5 {st : List Value} {M : pj_Mem} {l : pj_Loc} {x : Nat} : pj_step 33 (5, some (.ref x) :: l, st, M) = some (6, some (.ref x) :: l, .ref x :: st, M) := st_aload_n q33_5 rfl
theorem x33_5 {st : List Value} {M : pj_Mem} {l : pj_Loc} {x : Nat} {o9 : Option Value × pj_Mem} : pj_Ends 33 (5, some (.ref x) :: l, st, M) o9 = pj_Ends 33 (6, some (.ref x) :: l, .ref x :: st, M) o9 := pj_xs (s33_5)
theorem q33_6 : pj_row 33 6 = some (.getfield 9, 3, 2, 0, 0) := by decide +kernel
theorem s33_6 {L : pj_Loc} {st : List Value} {N S : Nat} {H : pj_Heap} {o : Nat} : pj_step 33 (6, L, .ref o :: st, (N, S, H)) = pj_pv 9 L st (N, S, H) (pj_fld (H o) 2 0) := st_getfield q33_6
theorem x33_6 {L : pj_Loc} {st : List Value} {N S : Nat} {H : pj_Heap} {o : Nat} {o9 : Option Value × pj_Mem} : pj_Ends 33 (6, L, .ref o :: st, (N, S, H)) o9 = pj_then 33 o9 (pj_pv 9 L st (N, S, H) (pj_fld (H o) 2 0)) := pj_xt q33_6 rfl (pj_cl_nc rfl) (s33_6)
theorem q33_9 : pj_row 33 9 = some (.iconst 0, 1, 0, 0, 0) := by decide +kernel
theorem s33_9 {L : pj_Loc} {st : List Value} {M : pj_Mem}  : pj_step 33 (9, L, st, M) = some (10, L, .int 0 :: st, M) := st_iconst q33_9 (by decide +kernel)
theorem x33_9 {L : pj_Loc} {st : List Value} {M : pj_Mem}  {o9 : Option Value × pj_Mem} : pj_Ends 33 (9, L, st, M) o9 = pj_Ends 33 (10, L, .int 0 :: st, M) o9 := pj_xs (s33_9)
theorem q33_10 : pj_row 33 10 = some (.bipush 120, 2, 0, 0, 0) := by decide +kernel
theorem s33_10 {L : pj_Loc} {st : List Value} {M : pj_Mem}  : pj_step 33 (10, L, st, M) = some (12, L, .int 120 :: st, M) := st_bipush q33_10 (by decide +kernel)
theorem x33_10 {L : pj_Loc} {st : List Value} {M : pj_Mem}  {o9 : Option Value × pj_Mem} : pj_Ends 33 (10, L, st, M) o9 = pj_Ends 33 (12, L, .int 120 :: st, M) o9 := pj_xs (s33_10)
theorem q33_12 : pj_row 33 12 = some (.invokestatic 19, 3, 0, 5, 3) := by decide +kernel
theorem s33_12 {L : pj_Loc} {st : List Value} {N S : Nat} {H : pj_Heap} {d o : Nat} {n dp sp : Int32} : pj_step 33 (12, L, .int n :: .int dp :: .ref d :: .int sp :: .ref o :: st, (N, S, H)) = pj_g4 st (pj_set 15 L st (N, S, H) d (pj_cas (H o) (H d) sp dp n)) := st_acp q33_12
theorem x33_12 {L : pj_Loc} {st : List Value} {N S : Nat} {H : pj_Heap} {d o : Nat} {n dp sp : Int32} {o9 : Option Value × pj_Mem} : pj_Ends 33 (12, L, .int n :: .int dp :: .ref d :: .int sp :: .ref o :: st, (N, S, H)) o9 = pj_then 33 o9 (pj_g4 st (pj_set 15 L st (N, S, H) d (pj_cas (H o) (H d) sp dp n))) := pj_xt q33_12 rfl rfl (s33_12)
theorem q33_15 : pj_row 33 15 = some (.aload_n 0, 1, 0, 0, 0) := by decide +kernel
theorem s33_15 {st : List Value} {M : pj_Mem} {l : pj_Loc} {x : Nat} : pj_step 33 (15, some (.ref x) :: l, st, M) = some (16, some (.ref x) :: l, .ref x :: st, M) := st_aload_n q33_15 rfl
theorem x33_15 {st : List Value} {M : pj_Mem} {l : pj_Loc} {x : Nat} {o9 : Option Value × pj_Mem} : pj_Ends 33 (15, some (.ref x) :: l, st, M) o9 = pj_Ends 33 (16, some (.ref x) :: l, .ref x :: st, M) o9 := pj_xs (s33_15)
theorem q33_16 : pj_row 33 16 = some (.aload_n 1, 1, 0, 0, 0) := by decide +kernel
theorem s33_16 {st : List Value} {M : pj_Mem} {l : pj_Loc} {a0 : Option Value} {x : Nat} : pj_step 33 (16, a0 :: some (.ref x) :: l, st, M) = some (17, a0 :: some (.ref x) :: l, .ref x :: st, M) := st_aload_n q33_16 rfl
theorem x33_16 {st : List Value} {M : pj_Mem} {l : pj_Loc} {a0 : Option Value} {x : Nat} {o9 : Option Value × pj_Mem} : pj_Ends 33 (16, a0 :: some (.ref x) :: l, st, M) o9 = pj_Ends 33 (17, a0 :: some (.ref x) :: l, .ref x :: st, M) o9 := pj_xs (s33_16)
theorem q33_17 : pj_row 33 17 = some (.getfield 25, 3, 2, 1, 0) := by decide +kernel
theorem s33_17 {L : pj_Loc} {st : List Value} {N S : Nat} {H : pj_Heap} {o : Nat} : pj_step 33 (17, L, .ref o :: st, (N, S, H)) = pj_pv 20 L st (N, S, H) (pj_fld (H o) 2 1) := st_getfield q33_17
theorem x33_17 {L : pj_Loc} {st : List Value} {N S : Nat} {H : pj_Heap} {o : Nat} {o9 : Option Value × pj_Mem} : pj_Ends 33 (17, L, .ref o :: st, (N, S, H)) o9 = pj_then 33 o9 (pj_pv 20 L st (N, S, H) (pj_fld (H o) 2 1)) := pj_xt q33_17 rfl (pj_cl_nc rfl) (s33_17)
theorem q33_20 : pj_row 33 20 = some (.putfield 25, 3, 2, 1, 0) := by decide +kernel
theorem s33_20 {L : pj_Loc} {st : List Value} {N S : Nat} {H : pj_Heap} {o : Nat} {v : Value} : pj_step 33 (20, L, v :: .ref o :: st, (N, S, H)) = pj_set 23 L st (N, S, H) o (pj_fset (H o) 2 1 v) := st_putfield q33_20
theorem x33_20 {L : pj_Loc} {st : List Value} {N S : Nat} {H : pj_Heap} {o : Nat} {v : Value} {o9 : Option Value × pj_Mem} : pj_Ends 33 (20, L, v :: .ref o :: st, (N, S, H)) o9 = pj_then 33 o9 (pj_set 23 L st (N, S, H) o (pj_fset (H o) 2 1 v)) := pj_xt q33_20 rfl (pj_cl_nc rfl) (s33_20)
theorem q33_23 : pj_row 33 23 = some (.aload_n 0, 1, 0, 0, 0) := by decide +kernel
theorem s33_23 {st : List Value} {M : pj_Mem} {l : pj_Loc} {x : Nat} : pj_step 33 (23, some (.ref x) :: l, st, M) = some (24, some (.ref x) :: l, .ref x :: st, M) := st_aload_n q33_23 rfl
theorem x33_23 {st : List Value} {M : pj_Mem} {l : pj_Loc} {x : Nat} {o9 : Option Value × pj_Mem} : pj_Ends 33 (23, some (.ref x) :: l, st, M) o9 = pj_Ends 33 (24, some (.ref x) :: l, .ref x :: st, M) o9 := pj_xs (s33_23)
theorem q33_24 : pj_row 33 24 = some (.aload_n 1, 1, 0, 0, 0) := by decide +kernel
theorem s33_24 {st : List Value} {M : pj_Mem} {l : pj_Loc} {a0 : Option Value} {x : Nat} : pj_step 33 (24, a0 :: some (.ref x) :: l, st, M) = some (25, a0 :: some (.ref x) :: l, .ref x :: st, M) := st_aload_n q33_24 rfl
theorem x33_24 {st : List Value} {M : pj_Mem} {l : pj_Loc} {a0 : Option Value} {x : Nat} {o9 : Option Value × pj_Mem} : pj_Ends 33 (24, a0 :: some (.ref x) :: l, st, M) o9 = pj_Ends 33 (25, a0 :: some (.ref x) :: l, .ref x :: st, M) o9 := pj_xs (s33_24)
theorem q33_25 : pj_row 33 25 = some (.getfield 15, 3, 2, 2, 0) := by decide +kernel
theorem s33_25 {L : pj_Loc} {st : List Value} {N S : Nat} {H : pj_Heap} {o : Nat} : pj_step 33 (25, L, .ref o :: st, (N, S, H)) = pj_pv 28 L st (N, S, H) (pj_fld (H o) 2 2) := st_getfield q33_25
theorem x33_25 {L : pj_Loc} {st : List Value} {N S : Nat} {H : pj_Heap} {o : Nat} {o9 : Option Value × pj_Mem} : pj_Ends 33 (25, L, .ref o :: st, (N, S, H)) o9 = pj_then 33 o9 (pj_pv 28 L st (N, S, H) (pj_fld (H o) 2 2)) := pj_xt q33_25 rfl (pj_cl_nc rfl) (s33_25)
theorem q33_28 : pj_row 33 28 = some (.putfield 15, 3, 2, 2, 0) := by decide +kernel
theorem s33_28 {L : pj_Loc} {st : List Value} {N S : Nat} {H : pj_Heap} {o : Nat} {v : Value} : pj_step 33 (28, L, v :: .ref o :: st, (N, S, H)) = pj_set 31 L st (N, S, H) o (pj_fset (H o) 2 2 v) := st_putfield q33_28
theorem x33_28 {L : pj_Loc} {st : List Value} {N S : Nat} {H : pj_Heap} {o : Nat} {v : Value} {o9 : Option Value × pj_Mem} : pj_Ends 33 (28, L, v :: .ref o :: st, (N, S, H)) o9 = pj_then 33 o9 (pj_set 31 L st (N, S, H) o (pj_fset (H o) 2 2 v)) := pj_xt q33_28 rfl (pj_cl_nc rfl) (s33_28)
theorem q33_31 : pj_row 33 31 = some (.return_, 1, 0, 0, 0) := by decide +kernel
theorem t33_31 {L : pj_Loc} {M : pj_Mem} : pj_Ends 33 (31, L, [], M) (none, M) := pj_Ends.ret q33_31 (pj_rtn_v rt33)
theorem rt34 : pj_rt 34 = some .int := rfl
theorem q34_0 : pj_row 34 0 = some (.aload_n 0, 1, 0, 0, 0) := by decide +kernel
theorem s34_0 {st : List Value} {M : pj_Mem} {l : pj_Loc} {x : Nat} : pj_step 34 (0, some (.ref x) :: l, st, M) = some (1, some (.ref x) :: l, .ref x :: st, M) := st_aload_n q34_0 rfl
theorem x34_0 {st : List Value} {M : pj_Mem} {l : pj_Loc} {x : Nat} {o9 : Option Value × pj_Mem} : pj_Ends 34 (0, some (.ref x) :: l, st, M) o9 = pj_Ends 34 (1, some (.ref x) :: l, .ref x :: st, M) o9 := pj_xs (s34_0)
theorem q34_1 : pj_row 34 1 = some (.getfield 22, 3, 5, 2, 0) := by decide +kernel
theorem s34_1 {L : pj_Loc} {st : List Value} {N S : Nat} {H : pj_Heap} {o : Nat} : pj_step 34 (1, L, .ref o :: st, (N, S, H)) = pj_pv 4 L st (N, S, H) (pj_fld (H o) 5 2) := st_getfield q34_1
theorem x34_1 {L : pj_Loc} {st : List Value} {N S : Nat} {H : pj_Heap} {o : Nat} {o9 : Option Value × pj_Mem} : pj_Ends 34 (1, L, .ref o :: st, (N, S, H)) o9 = pj_then 34 o9 (pj_pv 4 L st (N, S, H) (pj_fld (H o) 5 2)) := pj_xt q34_1 rfl (pj_cl_nc rfl) (s34_1)
theorem q34_4 : pj_row 34 4 = some (.aload_n 1, 1, 0, 0, 0) := by decide +kernel
theorem s34_4 {st : List Value} {M : pj_Mem} {l : pj_Loc} {a0 : Option Value} {x : Nat} : pj_step 34 (4, a0 :: some (.ref x) :: l, st, M) = some (5, a0 :: some (.ref x) :: l, .ref x :: st, M) := st_aload_n q34_4 rfl
theorem x34_4 {st : List Value} {M : pj_Mem} {l : pj_Loc} {a0 : Option Value} {x : Nat} {o9 : Option Value × pj_Mem} : pj_Ends 34 (4, a0 :: some (.ref x) :: l, st, M) o9 = pj_Ends 34 (5, a0 :: some (.ref x) :: l, .ref x :: st, M) o9 := pj_xs (s34_4)
theorem q34_5 : pj_row 34 5 = some (.iload_n 2, 1, 0, 0, 0) := by decide +kernel
theorem s34_5 {st : List Value} {M : pj_Mem} {l : pj_Loc} {a0 a1 : Option Value} {x : Int32} : pj_step 34 (5, a0 :: a1 :: some (.int x) :: l, st, M) = some (6, a0 :: a1 :: some (.int x) :: l, .int x :: st, M) := st_iload_n q34_5 rfl
theorem x34_5 {st : List Value} {M : pj_Mem} {l : pj_Loc} {a0 a1 : Option Value} {x : Int32} {o9 : Option Value × pj_Mem} : pj_Ends 34 (5, a0 :: a1 :: some (.int x) :: l, st, M) o9 = pj_Ends 34 (6, a0 :: a1 :: some (.int x) :: l, .int x :: st, M) o9 := pj_xs (s34_5)
theorem q34_6 : pj_row 34 6 = some (.iload_n 3, 1, 0, 0, 0) := by decide +kernel
theorem s34_6 {st : List Value} {M : pj_Mem} {l : pj_Loc} {a0 a1 a2 : Option Value} {x : Int32} : pj_step 34 (6, a0 :: a1 :: a2 :: some (.int x) :: l, st, M) = some (7, a0 :: a1 :: a2 :: some (.int x) :: l, .int x :: st, M) := st_iload_n q34_6 rfl
theorem x34_6 {st : List Value} {M : pj_Mem} {l : pj_Loc} {a0 a1 a2 : Option Value} {x : Int32} {o9 : Option Value × pj_Mem} : pj_Ends 34 (6, a0 :: a1 :: a2 :: some (.int x) :: l, st, M) o9 = pj_Ends 34 (7, a0 :: a1 :: a2 :: some (.int x) :: l, .int x :: st, M) o9 := pj_xs (s34_6)
theorem q34_7 : pj_row 34 7 = some (.iload 4, 2, 0, 0, 0) := by decide +kernel
theorem s34_7 {st : List Value} {M : pj_Mem} {l : pj_Loc} {a0 a1 a2 a3 : Option Value} {x : Int32} : pj_step 34 (7, a0 :: a1 :: a2 :: a3 :: some (.int x) :: l, st, M) = some (9, a0 :: a1 :: a2 :: a3 :: some (.int x) :: l, .int x :: st, M) := st_iload q34_7 rfl
theorem x34_7 {st : List Value} {M : pj_Mem} {l : pj_Loc} {a0 a1 a2 a3 : Option Value} {x : Int32} {o9 : Option Value × pj_Mem} : pj_Ends 34 (7, a0 :: a1 :: a2 :: a3 :: some (.int x) :: l, st, M) o9 = pj_Ends 34 (9, a0 :: a1 :: a2 :: a3 :: some (.int x) :: l, .int x :: st, M) o9 := pj_xs (s34_7)
theorem q34_9 : pj_row 34 9 = some (.iload 5, 2, 0, 0, 0) := by decide +kernel
theorem s34_9 {st : List Value} {M : pj_Mem} {l : pj_Loc} {a0 a1 a2 a3 a4 : Option Value} {x : Int32} : pj_step 34 (9, a0 :: a1 :: a2 :: a3 :: a4 :: some (.int x) :: l, st, M) = some (11, a0 :: a1 :: a2 :: a3 :: a4 :: some (.int x) :: l, .int x :: st, M) := st_iload q34_9 rfl
theorem x34_9 {st : List Value} {M : pj_Mem} {l : pj_Loc} {a0 a1 a2 a3 a4 : Option Value} {x : Int32} {o9 : Option Value × pj_Mem} : pj_Ends 34 (9, a0 :: a1 :: a2 :: a3 :: a4 :: some (.int x) :: l, st, M) o9 = pj_Ends 34 (11, a0 :: a1 :: a2 :: a3 :: a4 :: some (.int x) :: l, .int x :: st, M) o9 := pj_xs (s34_9)
theorem q34_11 : pj_row 34 11 = some (.invokevirtual 151, 3, 15, 6, 0) := by decide +kernel
theorem e34_11 {L : pj_Loc} {st : List Value} {N S : Nat} {H : pj_Heap} {o : Option Value × pj_Mem} {M' : pj_Mem} {x0 : Nat} {x1 : Nat} {x2 : Int32} {x3 : Int32} {x4 : Int32} {x5 : Int32} (h4 : pj_le4 st = true) (hu : pj_isU 3 (H x0) = true) (h1 : pj_Ends 15 (0, [some (.ref x0), some (.ref x1), some (.int x2), some (.int x3), some (.int x4), some (.int x5)], [], (N, S, H)) (none, M')) (h2 : pj_Ends 34 (14, L, st, M') o) : pj_Ends 34 (11, L, .int x5 :: .int x4 :: .int x3 :: .int x2 :: .ref x1 :: .ref x0 :: st, (N, S, H)) o := ec_v6 q34_11 (Or.inl rfl) h4 hu rfl h1 h2
theorem q34_14 : pj_row 34 14 = some (.aload_n 1, 1, 0, 0, 0) := by decide +kernel
theorem s34_14 {st : List Value} {M : pj_Mem} {l : pj_Loc} {a0 : Option Value} {x : Nat} : pj_step 34 (14, a0 :: some (.ref x) :: l, st, M) = some (15, a0 :: some (.ref x) :: l, .ref x :: st, M) := st_aload_n q34_14 rfl
theorem x34_14 {st : List Value} {M : pj_Mem} {l : pj_Loc} {a0 : Option Value} {x : Nat} {o9 : Option Value × pj_Mem} : pj_Ends 34 (14, a0 :: some (.ref x) :: l, st, M) o9 = pj_Ends 34 (15, a0 :: some (.ref x) :: l, .ref x :: st, M) o9 := pj_xs (s34_14)
theorem q34_15 : pj_row 34 15 = some (.aload_n 0, 1, 0, 0, 0) := by decide +kernel
theorem s34_15 {st : List Value} {M : pj_Mem} {l : pj_Loc} {x : Nat} : pj_step 34 (15, some (.ref x) :: l, st, M) = some (16, some (.ref x) :: l, .ref x :: st, M) := st_aload_n q34_15 rfl
theorem x34_15 {st : List Value} {M : pj_Mem} {l : pj_Loc} {x : Nat} {o9 : Option Value × pj_Mem} : pj_Ends 34 (15, some (.ref x) :: l, st, M) o9 = pj_Ends 34 (16, some (.ref x) :: l, .ref x :: st, M) o9 := pj_xs (s34_15)
theorem q34_16 : pj_row 34 16 = some (.getfield 22, 3, 5, 2, 0) := by decide +kernel
theorem s34_16 {L : pj_Loc} {st : List Value} {N S : Nat} {H : pj_Heap} {o : Nat} : pj_step 34 (16, L, .ref o :: st, (N, S, H)) = pj_pv 19 L st (N, S, H) (pj_fld (H o) 5 2) := st_getfield q34_16
theorem x34_16 {L : pj_Loc} {st : List Value} {N S : Nat} {H : pj_Heap} {o : Nat} {o9 : Option Value × pj_Mem} : pj_Ends 34 (16, L, .ref o :: st, (N, S, H)) o9 = pj_then 34 o9 (pj_pv 19 L st (N, S, H) (pj_fld (H o) 5 2)) := pj_xt q34_16 rfl (pj_cl_nc rfl) (s34_16)
theorem q34_19 : pj_row 34 19 = some (.invokevirtual 215, 3, 35, 2, 0) := by decide +kernel
theorem e34_19 {L : pj_Loc} {st : List Value} {N S : Nat} {H : pj_Heap} {o : Option Value × pj_Mem} {M' : pj_Mem} {x0 : Nat} {x1 : Nat} (h4 : pj_le4 st = true) (hu : pj_isU 4 (H x0) = true) (h1 : pj_Ends 35 (0, [some (.ref x0), some (.ref x1)], [], (N, S, H)) (none, M')) (h2 : pj_Ends 34 (22, L, st, M') o) : pj_Ends 34 (19, L, .ref x1 :: .ref x0 :: st, (N, S, H)) o := ec_v2 q34_19 (Or.inl rfl) h4 hu rfl h1 h2
theorem q34_22 : pj_row 34 22 = some (.aload_n 0, 1, 0, 0, 0) := by decide +kernel
theorem s34_22 {st : List Value} {M : pj_Mem} {l : pj_Loc} {x : Nat} : pj_step 34 (22, some (.ref x) :: l, st, M) = some (23, some (.ref x) :: l, .ref x :: st, M) := st_aload_n q34_22 rfl
theorem x34_22 {st : List Value} {M : pj_Mem} {l : pj_Loc} {x : Nat} {o9 : Option Value × pj_Mem} : pj_Ends 34 (22, some (.ref x) :: l, st, M) o9 = pj_Ends 34 (23, some (.ref x) :: l, .ref x :: st, M) o9 := pj_xs (s34_22)
theorem q34_23 : pj_row 34 23 = some (.getfield 22, 3, 5, 2, 0) := by decide +kernel
theorem s34_23 {L : pj_Loc} {st : List Value} {N S : Nat} {H : pj_Heap} {o : Nat} : pj_step 34 (23, L, .ref o :: st, (N, S, H)) = pj_pv 26 L st (N, S, H) (pj_fld (H o) 5 2) := st_getfield q34_23
theorem x34_23 {L : pj_Loc} {st : List Value} {N S : Nat} {H : pj_Heap} {o : Nat} {o9 : Option Value × pj_Mem} : pj_Ends 34 (23, L, .ref o :: st, (N, S, H)) o9 = pj_then 34 o9 (pj_pv 26 L st (N, S, H) (pj_fld (H o) 5 2)) := pj_xt q34_23 rfl (pj_cl_nc rfl) (s34_23)
theorem q34_26 : pj_row 34 26 = some (.getfield 155, 3, 3, 13, 0) := by decide +kernel
theorem s34_26 {L : pj_Loc} {st : List Value} {N S : Nat} {H : pj_Heap} {o : Nat} : pj_step 34 (26, L, .ref o :: st, (N, S, H)) = pj_pv 29 L st (N, S, H) (pj_fld (H o) 3 13) := st_getfield q34_26
theorem x34_26 {L : pj_Loc} {st : List Value} {N S : Nat} {H : pj_Heap} {o : Nat} {o9 : Option Value × pj_Mem} : pj_Ends 34 (26, L, .ref o :: st, (N, S, H)) o9 = pj_then 34 o9 (pj_pv 29 L st (N, S, H) (pj_fld (H o) 3 13)) := pj_xt q34_26 rfl (pj_cl_nc rfl) (s34_26)
theorem q34_29 : pj_row 34 29 = some (.ireturn, 1, 0, 0, 0) := by decide +kernel
theorem t34_29 {L : pj_Loc} {M : pj_Mem} {v : Int32} : pj_Ends 34 (29, L, [.int v], M) (some (.int v), M) := pj_Ends.ret q34_29 (pj_rtn_i rt34)
theorem rt35 : pj_rt 35 = none := rfl
theorem q35_0 : pj_row 35 0 = some (.aload_n 1, 1, 0, 0, 0) := by decide +kernel
theorem s35_0 {st : List Value} {M : pj_Mem} {l : pj_Loc} {a0 : Option Value} {x : Nat} : pj_step 35 (0, a0 :: some (.ref x) :: l, st, M) = some (1, a0 :: some (.ref x) :: l, .ref x :: st, M) := st_aload_n q35_0 rfl
theorem x35_0 {st : List Value} {M : pj_Mem} {l : pj_Loc} {a0 : Option Value} {x : Nat} {o9 : Option Value × pj_Mem} : pj_Ends 35 (0, a0 :: some (.ref x) :: l, st, M) o9 = pj_Ends 35 (1, a0 :: some (.ref x) :: l, .ref x :: st, M) o9 := pj_xs (s35_0)
theorem q35_1 : pj_row 35 1 = some (.getfield 63, 3, 3, 2, 0) := by decide +kernel
theorem s35_1 {L : pj_Loc} {st : List Value} {N S : Nat} {H : pj_Heap} {o : Nat} : pj_step 35 (1, L, .ref o :: st, (N, S, H)) = pj_pv 4 L st (N, S, H) (pj_fld (H o) 3 2) := st_getfield q35_1
theorem x35_1 {L : pj_Loc} {st : List Value} {N S : Nat} {H : pj_Heap} {o : Nat} {o9 : Option Value × pj_Mem} : pj_Ends 35 (1, L, .ref o :: st, (N, S, H)) o9 = pj_then 35 o9 (pj_pv 4 L st (N, S, H) (pj_fld (H o) 3 2)) := pj_xt q35_1 rfl (pj_cl_nc rfl) (s35_1)
theorem q35_4 : pj_row 35 4 = some (.iconst 0, 1, 0, 0, 0) := by decide +kernel
theorem s35_4 {L : pj_Loc} {st : List Value} {M : pj_Mem}  : pj_step 35 (4, L, st, M) = some (5, L, .int 0 :: st, M) := st_iconst q35_4 (by decide +kernel)
theorem x35_4 {L : pj_Loc} {st : List Value} {M : pj_Mem}  {o9 : Option Value × pj_Mem} : pj_Ends 35 (4, L, st, M) o9 = pj_Ends 35 (5, L, .int 0 :: st, M) o9 := pj_xs (s35_4)
theorem q35_5 : pj_row 35 5 = some (.aload_n 0, 1, 0, 0, 0) := by decide +kernel
theorem s35_5 {st : List Value} {M : pj_Mem} {l : pj_Loc} {x : Nat} : pj_step 35 (5, some (.ref x) :: l, st, M) = some (6, some (.ref x) :: l, .ref x :: st, M) := st_aload_n q35_5 rfl
theorem x35_5 {st : List Value} {M : pj_Mem} {l : pj_Loc} {x : Nat} {o9 : Option Value × pj_Mem} : pj_Ends 35 (5, some (.ref x) :: l, st, M) o9 = pj_Ends 35 (6, some (.ref x) :: l, .ref x :: st, M) o9 := pj_xs (s35_5)
theorem q35_6 : pj_row 35 6 = some (.getfield 15, 3, 4, 1, 0) := by decide +kernel
theorem s35_6 {L : pj_Loc} {st : List Value} {N S : Nat} {H : pj_Heap} {o : Nat} : pj_step 35 (6, L, .ref o :: st, (N, S, H)) = pj_pv 9 L st (N, S, H) (pj_fld (H o) 4 1) := st_getfield q35_6
theorem x35_6 {L : pj_Loc} {st : List Value} {N S : Nat} {H : pj_Heap} {o : Nat} {o9 : Option Value × pj_Mem} : pj_Ends 35 (6, L, .ref o :: st, (N, S, H)) o9 = pj_then 35 o9 (pj_pv 9 L st (N, S, H) (pj_fld (H o) 4 1)) := pj_xt q35_6 rfl (pj_cl_nc rfl) (s35_6)
theorem q35_9 : pj_row 35 9 = some (.iconst 0, 1, 0, 0, 0) := by decide +kernel
theorem s35_9 {L : pj_Loc} {st : List Value} {M : pj_Mem}  : pj_step 35 (9, L, st, M) = some (10, L, .int 0 :: st, M) := st_iconst q35_9 (by decide +kernel)
theorem x35_9 {L : pj_Loc} {st : List Value} {M : pj_Mem}  {o9 : Option Value × pj_Mem} : pj_Ends 35 (9, L, st, M) o9 = pj_Ends 35 (10, L, .int 0 :: st, M) o9 := pj_xs (s35_9)
theorem q35_10 : pj_row 35 10 = some (.iconst 3, 1, 0, 0, 0) := by decide +kernel
theorem s35_10 {L : pj_Loc} {st : List Value} {M : pj_Mem}  : pj_step 35 (10, L, st, M) = some (11, L, .int 3 :: st, M) := st_iconst q35_10 (by decide +kernel)
theorem x35_10 {L : pj_Loc} {st : List Value} {M : pj_Mem}  {o9 : Option Value × pj_Mem} : pj_Ends 35 (10, L, st, M) o9 = pj_Ends 35 (11, L, .int 3 :: st, M) o9 := pj_xs (s35_10)
theorem q35_11 : pj_row 35 11 = some (.invokestatic 44, 3, 0, 5, 3) := by decide +kernel
theorem s35_11 {L : pj_Loc} {st : List Value} {N S : Nat} {H : pj_Heap} {d o : Nat} {n dp sp : Int32} : pj_step 35 (11, L, .int n :: .int dp :: .ref d :: .int sp :: .ref o :: st, (N, S, H)) = pj_g4 st (pj_set 14 L st (N, S, H) d (pj_cas (H o) (H d) sp dp n)) := st_acp q35_11
theorem x35_11 {L : pj_Loc} {st : List Value} {N S : Nat} {H : pj_Heap} {d o : Nat} {n dp sp : Int32} {o9 : Option Value × pj_Mem} : pj_Ends 35 (11, L, .int n :: .int dp :: .ref d :: .int sp :: .ref o :: st, (N, S, H)) o9 = pj_then 35 o9 (pj_g4 st (pj_set 14 L st (N, S, H) d (pj_cas (H o) (H d) sp dp n))) := pj_xt q35_11 rfl rfl (s35_11)
theorem q35_14 : pj_row 35 14 = some (.aload_n 1, 1, 0, 0, 0) := by decide +kernel
theorem s35_14 {st : List Value} {M : pj_Mem} {l : pj_Loc} {a0 : Option Value} {x : Nat} : pj_step 35 (14, a0 :: some (.ref x) :: l, st, M) = some (15, a0 :: some (.ref x) :: l, .ref x :: st, M) := st_aload_n q35_14 rfl
theorem x35_14 {st : List Value} {M : pj_Mem} {l : pj_Loc} {a0 : Option Value} {x : Nat} {o9 : Option Value × pj_Mem} : pj_Ends 35 (14, a0 :: some (.ref x) :: l, st, M) o9 = pj_Ends 35 (15, a0 :: some (.ref x) :: l, .ref x :: st, M) o9 := pj_xs (s35_14)
theorem q35_15 : pj_row 35 15 = some (.getfield 66, 3, 3, 3, 0) := by decide +kernel
theorem s35_15 {L : pj_Loc} {st : List Value} {N S : Nat} {H : pj_Heap} {o : Nat} : pj_step 35 (15, L, .ref o :: st, (N, S, H)) = pj_pv 18 L st (N, S, H) (pj_fld (H o) 3 3) := st_getfield q35_15
theorem x35_15 {L : pj_Loc} {st : List Value} {N S : Nat} {H : pj_Heap} {o : Nat} {o9 : Option Value × pj_Mem} : pj_Ends 35 (15, L, .ref o :: st, (N, S, H)) o9 = pj_then 35 o9 (pj_pv 18 L st (N, S, H) (pj_fld (H o) 3 3)) := pj_xt q35_15 rfl (pj_cl_nc rfl) (s35_15)
theorem q35_18 : pj_row 35 18 = some (.iconst 0, 1, 0, 0, 0) := by decide +kernel
theorem s35_18 {L : pj_Loc} {st : List Value} {M : pj_Mem}  : pj_step 35 (18, L, st, M) = some (19, L, .int 0 :: st, M) := st_iconst q35_18 (by decide +kernel)
theorem x35_18 {L : pj_Loc} {st : List Value} {M : pj_Mem}  {o9 : Option Value × pj_Mem} : pj_Ends 35 (18, L, st, M) o9 = pj_Ends 35 (19, L, .int 0 :: st, M) o9 := pj_xs (s35_18)
theorem q35_19 : pj_row 35 19 = some (.aload_n 0, 1, 0, 0, 0) := by decide +kernel
theorem s35_19 {st : List Value} {M : pj_Mem} {l : pj_Loc} {x : Nat} : pj_step 35 (19, some (.ref x) :: l, st, M) = some (20, some (.ref x) :: l, .ref x :: st, M) := st_aload_n q35_19 rfl
theorem x35_19 {st : List Value} {M : pj_Mem} {l : pj_Loc} {x : Nat} {o9 : Option Value × pj_Mem} : pj_Ends 35 (19, some (.ref x) :: l, st, M) o9 = pj_Ends 35 (20, some (.ref x) :: l, .ref x :: st, M) o9 := pj_xs (s35_19)
theorem q35_20 : pj_row 35 20 = some (.getfield 18, 3, 4, 2, 0) := by decide +kernel
theorem s35_20 {L : pj_Loc} {st : List Value} {N S : Nat} {H : pj_Heap} {o : Nat} : pj_step 35 (20, L, .ref o :: st, (N, S, H)) = pj_pv 23 L st (N, S, H) (pj_fld (H o) 4 2) := st_getfield q35_20
theorem x35_20 {L : pj_Loc} {st : List Value} {N S : Nat} {H : pj_Heap} {o : Nat} {o9 : Option Value × pj_Mem} : pj_Ends 35 (20, L, .ref o :: st, (N, S, H)) o9 = pj_then 35 o9 (pj_pv 23 L st (N, S, H) (pj_fld (H o) 4 2)) := pj_xt q35_20 rfl (pj_cl_nc rfl) (s35_20)
theorem q35_23 : pj_row 35 23 = some (.iconst 0, 1, 0, 0, 0) := by decide +kernel
theorem s35_23 {L : pj_Loc} {st : List Value} {M : pj_Mem}  : pj_step 35 (23, L, st, M) = some (24, L, .int 0 :: st, M) := st_iconst q35_23 (by decide +kernel)
theorem x35_23 {L : pj_Loc} {st : List Value} {M : pj_Mem}  {o9 : Option Value × pj_Mem} : pj_Ends 35 (23, L, st, M) o9 = pj_Ends 35 (24, L, .int 0 :: st, M) o9 := pj_xs (s35_23)
theorem q35_24 : pj_row 35 24 = some (.iconst 3, 1, 0, 0, 0) := by decide +kernel
theorem s35_24 {L : pj_Loc} {st : List Value} {M : pj_Mem}  : pj_step 35 (24, L, st, M) = some (25, L, .int 3 :: st, M) := st_iconst q35_24 (by decide +kernel)
theorem x35_24 {L : pj_Loc} {st : List Value} {M : pj_Mem}  {o9 : Option Value × pj_Mem} : pj_Ends 35 (24, L, st, M) o9 = pj_Ends 35 (25, L, .int 3 :: st, M) o9 := pj_xs (s35_24)
theorem q35_25 : pj_row 35 25 = some (.invokestatic 44, 3, 0, 5, 3) := by decide +kernel
theorem s35_25 {L : pj_Loc} {st : List Value} {N S : Nat} {H : pj_Heap} {d o : Nat} {n dp sp : Int32} : pj_step 35 (25, L, .int n :: .int dp :: .ref d :: .int sp :: .ref o :: st, (N, S, H)) = pj_g4 st (pj_set 28 L st (N, S, H) d (pj_cas (H o) (H d) sp dp n)) := st_acp q35_25
theorem x35_25 {L : pj_Loc} {st : List Value} {N S : Nat} {H : pj_Heap} {d o : Nat} {n dp sp : Int32} {o9 : Option Value × pj_Mem} : pj_Ends 35 (25, L, .int n :: .int dp :: .ref d :: .int sp :: .ref o :: st, (N, S, H)) o9 = pj_then 35 o9 (pj_g4 st (pj_set 28 L st (N, S, H) d (pj_cas (H o) (H d) sp dp n))) := pj_xt q35_25 rfl rfl (s35_25)
theorem q35_28 : pj_row 35 28 = some (.aload_n 1, 1, 0, 0, 0) := by decide +kernel
theorem s35_28 {st : List Value} {M : pj_Mem} {l : pj_Loc} {a0 : Option Value} {x : Nat} : pj_step 35 (28, a0 :: some (.ref x) :: l, st, M) = some (29, a0 :: some (.ref x) :: l, .ref x :: st, M) := st_aload_n q35_28 rfl
theorem x35_28 {st : List Value} {M : pj_Mem} {l : pj_Loc} {a0 : Option Value} {x : Nat} {o9 : Option Value × pj_Mem} : pj_Ends 35 (28, a0 :: some (.ref x) :: l, st, M) o9 = pj_Ends 35 (29, a0 :: some (.ref x) :: l, .ref x :: st, M) o9 := pj_xs (s35_28)
theorem q35_29 : pj_row 35 29 = some (.getfield 67, 3, 3, 4, 0) := by decide +kernel
theorem s35_29 {L : pj_Loc} {st : List Value} {N S : Nat} {H : pj_Heap} {o : Nat} : pj_step 35 (29, L, .ref o :: st, (N, S, H)) = pj_pv 32 L st (N, S, H) (pj_fld (H o) 3 4) := st_getfield q35_29
theorem x35_29 {L : pj_Loc} {st : List Value} {N S : Nat} {H : pj_Heap} {o : Nat} {o9 : Option Value × pj_Mem} : pj_Ends 35 (29, L, .ref o :: st, (N, S, H)) o9 = pj_then 35 o9 (pj_pv 32 L st (N, S, H) (pj_fld (H o) 3 4)) := pj_xt q35_29 rfl (pj_cl_nc rfl) (s35_29)
theorem q35_32 : pj_row 35 32 = some (.iconst 0, 1, 0, 0, 0) := by decide +kernel
theorem s35_32 {L : pj_Loc} {st : List Value} {M : pj_Mem}  : pj_step 35 (32, L, st, M) = some (33, L, .int 0 :: st, M) := st_iconst q35_32 (by decide +kernel)
theorem x35_32 {L : pj_Loc} {st : List Value} {M : pj_Mem}  {o9 : Option Value × pj_Mem} : pj_Ends 35 (32, L, st, M) o9 = pj_Ends 35 (33, L, .int 0 :: st, M) o9 := pj_xs (s35_32)
theorem q35_33 : pj_row 35 33 = some (.aload_n 0, 1, 0, 0, 0) := by decide +kernel
theorem s35_33 {st : List Value} {M : pj_Mem} {l : pj_Loc} {x : Nat} : pj_step 35 (33, some (.ref x) :: l, st, M) = some (34, some (.ref x) :: l, .ref x :: st, M) := st_aload_n q35_33 rfl
theorem x35_33 {st : List Value} {M : pj_Mem} {l : pj_Loc} {x : Nat} {o9 : Option Value × pj_Mem} : pj_Ends 35 (33, some (.ref x) :: l, st, M) o9 = pj_Ends 35 (34, some (.ref x) :: l, .ref x :: st, M) o9 := pj_xs (s35_33)
theorem q35_34 : pj_row 35 34 = some (.getfield 21, 3, 4, 3, 0) := by decide +kernel
theorem s35_34 {L : pj_Loc} {st : List Value} {N S : Nat} {H : pj_Heap} {o : Nat} : pj_step 35 (34, L, .ref o :: st, (N, S, H)) = pj_pv 37 L st (N, S, H) (pj_fld (H o) 4 3) := st_getfield q35_34
theorem x35_34 {L : pj_Loc} {st : List Value} {N S : Nat} {H : pj_Heap} {o : Nat} {o9 : Option Value × pj_Mem} : pj_Ends 35 (34, L, .ref o :: st, (N, S, H)) o9 = pj_then 35 o9 (pj_pv 37 L st (N, S, H) (pj_fld (H o) 4 3)) := pj_xt q35_34 rfl (pj_cl_nc rfl) (s35_34)
theorem q35_37 : pj_row 35 37 = some (.iconst 0, 1, 0, 0, 0) := by decide +kernel
theorem s35_37 {L : pj_Loc} {st : List Value} {M : pj_Mem}  : pj_step 35 (37, L, st, M) = some (38, L, .int 0 :: st, M) := st_iconst q35_37 (by decide +kernel)
theorem x35_37 {L : pj_Loc} {st : List Value} {M : pj_Mem}  {o9 : Option Value × pj_Mem} : pj_Ends 35 (37, L, st, M) o9 = pj_Ends 35 (38, L, .int 0 :: st, M) o9 := pj_xs (s35_37)
theorem q35_38 : pj_row 35 38 = some (.iconst 3, 1, 0, 0, 0) := by decide +kernel
theorem s35_38 {L : pj_Loc} {st : List Value} {M : pj_Mem}  : pj_step 35 (38, L, st, M) = some (39, L, .int 3 :: st, M) := st_iconst q35_38 (by decide +kernel)
theorem x35_38 {L : pj_Loc} {st : List Value} {M : pj_Mem}  {o9 : Option Value × pj_Mem} : pj_Ends 35 (38, L, st, M) o9 = pj_Ends 35 (39, L, .int 3 :: st, M) o9 := pj_xs (s35_38)
theorem q35_39 : pj_row 35 39 = some (.invokestatic 44, 3, 0, 5, 3) := by decide +kernel
theorem s35_39 {L : pj_Loc} {st : List Value} {N S : Nat} {H : pj_Heap} {d o : Nat} {n dp sp : Int32} : pj_step 35 (39, L, .int n :: .int dp :: .ref d :: .int sp :: .ref o :: st, (N, S, H)) = pj_g4 st (pj_set 42 L st (N, S, H) d (pj_cas (H o) (H d) sp dp n)) := st_acp q35_39
theorem x35_39 {L : pj_Loc} {st : List Value} {N S : Nat} {H : pj_Heap} {d o : Nat} {n dp sp : Int32} {o9 : Option Value × pj_Mem} : pj_Ends 35 (39, L, .int n :: .int dp :: .ref d :: .int sp :: .ref o :: st, (N, S, H)) o9 = pj_then 35 o9 (pj_g4 st (pj_set 42 L st (N, S, H) d (pj_cas (H o) (H d) sp dp n))) := pj_xt q35_39 rfl rfl (s35_39)
theorem q35_42 : pj_row 35 42 = some (.aload_n 1, 1, 0, 0, 0) := by decide +kernel
theorem s35_42 {st : List Value} {M : pj_Mem} {l : pj_Loc} {a0 : Option Value} {x : Nat} : pj_step 35 (42, a0 :: some (.ref x) :: l, st, M) = some (43, a0 :: some (.ref x) :: l, .ref x :: st, M) := st_aload_n q35_42 rfl
theorem x35_42 {st : List Value} {M : pj_Mem} {l : pj_Loc} {a0 : Option Value} {x : Nat} {o9 : Option Value × pj_Mem} : pj_Ends 35 (42, a0 :: some (.ref x) :: l, st, M) o9 = pj_Ends 35 (43, a0 :: some (.ref x) :: l, .ref x :: st, M) o9 := pj_xs (s35_42)
theorem q35_43 : pj_row 35 43 = some (.getfield 68, 3, 3, 0, 0) := by decide +kernel
theorem s35_43 {L : pj_Loc} {st : List Value} {N S : Nat} {H : pj_Heap} {o : Nat} : pj_step 35 (43, L, .ref o :: st, (N, S, H)) = pj_pv 46 L st (N, S, H) (pj_fld (H o) 3 0) := st_getfield q35_43
theorem x35_43 {L : pj_Loc} {st : List Value} {N S : Nat} {H : pj_Heap} {o : Nat} {o9 : Option Value × pj_Mem} : pj_Ends 35 (43, L, .ref o :: st, (N, S, H)) o9 = pj_then 35 o9 (pj_pv 46 L st (N, S, H) (pj_fld (H o) 3 0)) := pj_xt q35_43 rfl (pj_cl_nc rfl) (s35_43)
theorem q35_46 : pj_row 35 46 = some (.iconst 0, 1, 0, 0, 0) := by decide +kernel
theorem s35_46 {L : pj_Loc} {st : List Value} {M : pj_Mem}  : pj_step 35 (46, L, st, M) = some (47, L, .int 0 :: st, M) := st_iconst q35_46 (by decide +kernel)
theorem x35_46 {L : pj_Loc} {st : List Value} {M : pj_Mem}  {o9 : Option Value × pj_Mem} : pj_Ends 35 (46, L, st, M) o9 = pj_Ends 35 (47, L, .int 0 :: st, M) o9 := pj_xs (s35_46)
theorem q35_47 : pj_row 35 47 = some (.aload_n 0, 1, 0, 0, 0) := by decide +kernel
theorem s35_47 {st : List Value} {M : pj_Mem} {l : pj_Loc} {x : Nat} : pj_step 35 (47, some (.ref x) :: l, st, M) = some (48, some (.ref x) :: l, .ref x :: st, M) := st_aload_n q35_47 rfl
theorem x35_47 {st : List Value} {M : pj_Mem} {l : pj_Loc} {x : Nat} {o9 : Option Value × pj_Mem} : pj_Ends 35 (47, some (.ref x) :: l, st, M) o9 = pj_Ends 35 (48, some (.ref x) :: l, .ref x :: st, M) o9 := pj_xs (s35_47)
theorem q35_48 : pj_row 35 48 = some (.getfield 24, 3, 4, 4, 0) := by decide +kernel
theorem s35_48 {L : pj_Loc} {st : List Value} {N S : Nat} {H : pj_Heap} {o : Nat} : pj_step 35 (48, L, .ref o :: st, (N, S, H)) = pj_pv 51 L st (N, S, H) (pj_fld (H o) 4 4) := st_getfield q35_48
theorem x35_48 {L : pj_Loc} {st : List Value} {N S : Nat} {H : pj_Heap} {o : Nat} {o9 : Option Value × pj_Mem} : pj_Ends 35 (48, L, .ref o :: st, (N, S, H)) o9 = pj_then 35 o9 (pj_pv 51 L st (N, S, H) (pj_fld (H o) 4 4)) := pj_xt q35_48 rfl (pj_cl_nc rfl) (s35_48)
theorem q35_51 : pj_row 35 51 = some (.iconst 0, 1, 0, 0, 0) := by decide +kernel
theorem s35_51 {L : pj_Loc} {st : List Value} {M : pj_Mem}  : pj_step 35 (51, L, st, M) = some (52, L, .int 0 :: st, M) := st_iconst q35_51 (by decide +kernel)
theorem x35_51 {L : pj_Loc} {st : List Value} {M : pj_Mem}  {o9 : Option Value × pj_Mem} : pj_Ends 35 (51, L, st, M) o9 = pj_Ends 35 (52, L, .int 0 :: st, M) o9 := pj_xs (s35_51)
theorem q35_52 : pj_row 35 52 = some (.iconst 3, 1, 0, 0, 0) := by decide +kernel
theorem s35_52 {L : pj_Loc} {st : List Value} {M : pj_Mem}  : pj_step 35 (52, L, st, M) = some (53, L, .int 3 :: st, M) := st_iconst q35_52 (by decide +kernel)
theorem x35_52 {L : pj_Loc} {st : List Value} {M : pj_Mem}  {o9 : Option Value × pj_Mem} : pj_Ends 35 (52, L, st, M) o9 = pj_Ends 35 (53, L, .int 3 :: st, M) o9 := pj_xs (s35_52)
theorem q35_53 : pj_row 35 53 = some (.invokestatic 44, 3, 0, 5, 3) := by decide +kernel
theorem s35_53 {L : pj_Loc} {st : List Value} {N S : Nat} {H : pj_Heap} {d o : Nat} {n dp sp : Int32} : pj_step 35 (53, L, .int n :: .int dp :: .ref d :: .int sp :: .ref o :: st, (N, S, H)) = pj_g4 st (pj_set 56 L st (N, S, H) d (pj_cas (H o) (H d) sp dp n)) := st_acp q35_53
theorem x35_53 {L : pj_Loc} {st : List Value} {N S : Nat} {H : pj_Heap} {d o : Nat} {n dp sp : Int32} {o9 : Option Value × pj_Mem} : pj_Ends 35 (53, L, .int n :: .int dp :: .ref d :: .int sp :: .ref o :: st, (N, S, H)) o9 = pj_then 35 o9 (pj_g4 st (pj_set 56 L st (N, S, H) d (pj_cas (H o) (H d) sp dp n))) := pj_xt q35_53 rfl rfl (s35_53)
theorem q35_56 : pj_row 35 56 = some (.aload_n 1, 1, 0, 0, 0) := by decide +kernel
theorem s35_56 {st : List Value} {M : pj_Mem} {l : pj_Loc} {a0 : Option Value} {x : Nat} : pj_step 35 (56, a0 :: some (.ref x) :: l, st, M) = some (57, a0 :: some (.ref x) :: l, .ref x :: st, M) := st_aload_n q35_56 rfl
theorem x35_56 {st : List Value} {M : pj_Mem} {l : pj_Loc} {a0 : Option Value} {x : Nat} {o9 : Option Value × pj_Mem} : pj_Ends 35 (56, a0 :: some (.ref x) :: l, st, M) o9 = pj_Ends 35 (57, a0 :: some (.ref x) :: l, .ref x :: st, M) o9 := pj_xs (s35_56)
theorem q35_57 : pj_row 35 57 = some (.getfield 69, 3, 3, 5, 0) := by decide +kernel
theorem s35_57 {L : pj_Loc} {st : List Value} {N S : Nat} {H : pj_Heap} {o : Nat} : pj_step 35 (57, L, .ref o :: st, (N, S, H)) = pj_pv 60 L st (N, S, H) (pj_fld (H o) 3 5) := st_getfield q35_57
theorem x35_57 {L : pj_Loc} {st : List Value} {N S : Nat} {H : pj_Heap} {o : Nat} {o9 : Option Value × pj_Mem} : pj_Ends 35 (57, L, .ref o :: st, (N, S, H)) o9 = pj_then 35 o9 (pj_pv 60 L st (N, S, H) (pj_fld (H o) 3 5)) := pj_xt q35_57 rfl (pj_cl_nc rfl) (s35_57)
theorem q35_60 : pj_row 35 60 = some (.iconst 0, 1, 0, 0, 0) := by decide +kernel
theorem s35_60 {L : pj_Loc} {st : List Value} {M : pj_Mem}  : pj_step 35 (60, L, st, M) = some (61, L, .int 0 :: st, M) := st_iconst q35_60 (by decide +kernel)
theorem x35_60 {L : pj_Loc} {st : List Value} {M : pj_Mem}  {o9 : Option Value × pj_Mem} : pj_Ends 35 (60, L, st, M) o9 = pj_Ends 35 (61, L, .int 0 :: st, M) o9 := pj_xs (s35_60)
theorem q35_61 : pj_row 35 61 = some (.aload_n 0, 1, 0, 0, 0) := by decide +kernel
theorem s35_61 {st : List Value} {M : pj_Mem} {l : pj_Loc} {x : Nat} : pj_step 35 (61, some (.ref x) :: l, st, M) = some (62, some (.ref x) :: l, .ref x :: st, M) := st_aload_n q35_61 rfl
theorem x35_61 {st : List Value} {M : pj_Mem} {l : pj_Loc} {x : Nat} {o9 : Option Value × pj_Mem} : pj_Ends 35 (61, some (.ref x) :: l, st, M) o9 = pj_Ends 35 (62, some (.ref x) :: l, .ref x :: st, M) o9 := pj_xs (s35_61)
theorem q35_62 : pj_row 35 62 = some (.getfield 27, 3, 4, 5, 0) := by decide +kernel
theorem s35_62 {L : pj_Loc} {st : List Value} {N S : Nat} {H : pj_Heap} {o : Nat} : pj_step 35 (62, L, .ref o :: st, (N, S, H)) = pj_pv 65 L st (N, S, H) (pj_fld (H o) 4 5) := st_getfield q35_62
theorem x35_62 {L : pj_Loc} {st : List Value} {N S : Nat} {H : pj_Heap} {o : Nat} {o9 : Option Value × pj_Mem} : pj_Ends 35 (62, L, .ref o :: st, (N, S, H)) o9 = pj_then 35 o9 (pj_pv 65 L st (N, S, H) (pj_fld (H o) 4 5)) := pj_xt q35_62 rfl (pj_cl_nc rfl) (s35_62)
theorem q35_65 : pj_row 35 65 = some (.iconst 0, 1, 0, 0, 0) := by decide +kernel
theorem s35_65 {L : pj_Loc} {st : List Value} {M : pj_Mem}  : pj_step 35 (65, L, st, M) = some (66, L, .int 0 :: st, M) := st_iconst q35_65 (by decide +kernel)
theorem x35_65 {L : pj_Loc} {st : List Value} {M : pj_Mem}  {o9 : Option Value × pj_Mem} : pj_Ends 35 (65, L, st, M) o9 = pj_Ends 35 (66, L, .int 0 :: st, M) o9 := pj_xs (s35_65)
theorem q35_66 : pj_row 35 66 = some (.iconst 3, 1, 0, 0, 0) := by decide +kernel
theorem s35_66 {L : pj_Loc} {st : List Value} {M : pj_Mem}  : pj_step 35 (66, L, st, M) = some (67, L, .int 3 :: st, M) := st_iconst q35_66 (by decide +kernel)
theorem x35_66 {L : pj_Loc} {st : List Value} {M : pj_Mem}  {o9 : Option Value × pj_Mem} : pj_Ends 35 (66, L, st, M) o9 = pj_Ends 35 (67, L, .int 3 :: st, M) o9 := pj_xs (s35_66)
theorem q35_67 : pj_row 35 67 = some (.invokestatic 44, 3, 0, 5, 3) := by decide +kernel
theorem s35_67 {L : pj_Loc} {st : List Value} {N S : Nat} {H : pj_Heap} {d o : Nat} {n dp sp : Int32} : pj_step 35 (67, L, .int n :: .int dp :: .ref d :: .int sp :: .ref o :: st, (N, S, H)) = pj_g4 st (pj_set 70 L st (N, S, H) d (pj_cas (H o) (H d) sp dp n)) := st_acp q35_67
theorem x35_67 {L : pj_Loc} {st : List Value} {N S : Nat} {H : pj_Heap} {d o : Nat} {n dp sp : Int32} {o9 : Option Value × pj_Mem} : pj_Ends 35 (67, L, .int n :: .int dp :: .ref d :: .int sp :: .ref o :: st, (N, S, H)) o9 = pj_then 35 o9 (pj_g4 st (pj_set 70 L st (N, S, H) d (pj_cas (H o) (H d) sp dp n))) := pj_xt q35_67 rfl rfl (s35_67)
theorem q35_70 : pj_row 35 70 = some (.aload_n 0, 1, 0, 0, 0) := by decide +kernel
theorem s35_70 {st : List Value} {M : pj_Mem} {l : pj_Loc} {x : Nat} : pj_step 35 (70, some (.ref x) :: l, st, M) = some (71, some (.ref x) :: l, .ref x :: st, M) := st_aload_n q35_70 rfl
theorem x35_70 {st : List Value} {M : pj_Mem} {l : pj_Loc} {x : Nat} {o9 : Option Value × pj_Mem} : pj_Ends 35 (70, some (.ref x) :: l, st, M) o9 = pj_Ends 35 (71, some (.ref x) :: l, .ref x :: st, M) o9 := pj_xs (s35_70)
theorem q35_71 : pj_row 35 71 = some (.aload_n 1, 1, 0, 0, 0) := by decide +kernel
theorem s35_71 {st : List Value} {M : pj_Mem} {l : pj_Loc} {a0 : Option Value} {x : Nat} : pj_step 35 (71, a0 :: some (.ref x) :: l, st, M) = some (72, a0 :: some (.ref x) :: l, .ref x :: st, M) := st_aload_n q35_71 rfl
theorem x35_71 {st : List Value} {M : pj_Mem} {l : pj_Loc} {a0 : Option Value} {x : Nat} {o9 : Option Value × pj_Mem} : pj_Ends 35 (71, a0 :: some (.ref x) :: l, st, M) o9 = pj_Ends 35 (72, a0 :: some (.ref x) :: l, .ref x :: st, M) o9 := pj_xs (s35_71)
theorem q35_72 : pj_row 35 72 = some (.getfield 70, 3, 3, 8, 0) := by decide +kernel
theorem s35_72 {L : pj_Loc} {st : List Value} {N S : Nat} {H : pj_Heap} {o : Nat} : pj_step 35 (72, L, .ref o :: st, (N, S, H)) = pj_pv 75 L st (N, S, H) (pj_fld (H o) 3 8) := st_getfield q35_72
theorem x35_72 {L : pj_Loc} {st : List Value} {N S : Nat} {H : pj_Heap} {o : Nat} {o9 : Option Value × pj_Mem} : pj_Ends 35 (72, L, .ref o :: st, (N, S, H)) o9 = pj_then 35 o9 (pj_pv 75 L st (N, S, H) (pj_fld (H o) 3 8)) := pj_xt q35_72 rfl (pj_cl_nc rfl) (s35_72)
theorem q35_75 : pj_row 35 75 = some (.putfield 37, 3, 4, 7, 0) := by decide +kernel
theorem s35_75 {L : pj_Loc} {st : List Value} {N S : Nat} {H : pj_Heap} {o : Nat} {v : Value} : pj_step 35 (75, L, v :: .ref o :: st, (N, S, H)) = pj_set 78 L st (N, S, H) o (pj_fset (H o) 4 7 v) := st_putfield q35_75
theorem x35_75 {L : pj_Loc} {st : List Value} {N S : Nat} {H : pj_Heap} {o : Nat} {v : Value} {o9 : Option Value × pj_Mem} : pj_Ends 35 (75, L, v :: .ref o :: st, (N, S, H)) o9 = pj_then 35 o9 (pj_set 78 L st (N, S, H) o (pj_fset (H o) 4 7 v)) := pj_xt q35_75 rfl (pj_cl_nc rfl) (s35_75)
theorem q35_78 : pj_row 35 78 = some (.aload_n 0, 1, 0, 0, 0) := by decide +kernel
theorem s35_78 {st : List Value} {M : pj_Mem} {l : pj_Loc} {x : Nat} : pj_step 35 (78, some (.ref x) :: l, st, M) = some (79, some (.ref x) :: l, .ref x :: st, M) := st_aload_n q35_78 rfl
theorem x35_78 {st : List Value} {M : pj_Mem} {l : pj_Loc} {x : Nat} {o9 : Option Value × pj_Mem} : pj_Ends 35 (78, some (.ref x) :: l, st, M) o9 = pj_Ends 35 (79, some (.ref x) :: l, .ref x :: st, M) o9 := pj_xs (s35_78)
theorem q35_79 : pj_row 35 79 = some (.aload_n 1, 1, 0, 0, 0) := by decide +kernel
theorem s35_79 {st : List Value} {M : pj_Mem} {l : pj_Loc} {a0 : Option Value} {x : Nat} : pj_step 35 (79, a0 :: some (.ref x) :: l, st, M) = some (80, a0 :: some (.ref x) :: l, .ref x :: st, M) := st_aload_n q35_79 rfl
theorem x35_79 {st : List Value} {M : pj_Mem} {l : pj_Loc} {a0 : Option Value} {x : Nat} {o9 : Option Value × pj_Mem} : pj_Ends 35 (79, a0 :: some (.ref x) :: l, st, M) o9 = pj_Ends 35 (80, a0 :: some (.ref x) :: l, .ref x :: st, M) o9 := pj_xs (s35_79)
theorem q35_80 : pj_row 35 80 = some (.getfield 71, 3, 3, 10, 0) := by decide +kernel
theorem s35_80 {L : pj_Loc} {st : List Value} {N S : Nat} {H : pj_Heap} {o : Nat} : pj_step 35 (80, L, .ref o :: st, (N, S, H)) = pj_pv 83 L st (N, S, H) (pj_fld (H o) 3 10) := st_getfield q35_80
theorem x35_80 {L : pj_Loc} {st : List Value} {N S : Nat} {H : pj_Heap} {o : Nat} {o9 : Option Value × pj_Mem} : pj_Ends 35 (80, L, .ref o :: st, (N, S, H)) o9 = pj_then 35 o9 (pj_pv 83 L st (N, S, H) (pj_fld (H o) 3 10)) := pj_xt q35_80 rfl (pj_cl_nc rfl) (s35_80)
theorem q35_83 : pj_row 35 83 = some (.putfield 57, 3, 4, 9, 0) := by decide +kernel
theorem s35_83 {L : pj_Loc} {st : List Value} {N S : Nat} {H : pj_Heap} {o : Nat} {v : Value} : pj_step 35 (83, L, v :: .ref o :: st, (N, S, H)) = pj_set 86 L st (N, S, H) o (pj_fset (H o) 4 9 v) := st_putfield q35_83
theorem x35_83 {L : pj_Loc} {st : List Value} {N S : Nat} {H : pj_Heap} {o : Nat} {v : Value} {o9 : Option Value × pj_Mem} : pj_Ends 35 (83, L, v :: .ref o :: st, (N, S, H)) o9 = pj_then 35 o9 (pj_set 86 L st (N, S, H) o (pj_fset (H o) 4 9 v)) := pj_xt q35_83 rfl (pj_cl_nc rfl) (s35_83)
theorem q35_86 : pj_row 35 86 = some (.aload_n 0, 1, 0, 0, 0) := by decide +kernel
theorem s35_86 {st : List Value} {M : pj_Mem} {l : pj_Loc} {x : Nat} : pj_step 35 (86, some (.ref x) :: l, st, M) = some (87, some (.ref x) :: l, .ref x :: st, M) := st_aload_n q35_86 rfl
theorem x35_86 {st : List Value} {M : pj_Mem} {l : pj_Loc} {x : Nat} {o9 : Option Value × pj_Mem} : pj_Ends 35 (86, some (.ref x) :: l, st, M) o9 = pj_Ends 35 (87, some (.ref x) :: l, .ref x :: st, M) o9 := pj_xs (s35_86)
theorem q35_87 : pj_row 35 87 = some (.getfield 33, 3, 4, 6, 0) := by decide +kernel
theorem s35_87 {L : pj_Loc} {st : List Value} {N S : Nat} {H : pj_Heap} {o : Nat} : pj_step 35 (87, L, .ref o :: st, (N, S, H)) = pj_pv 90 L st (N, S, H) (pj_fld (H o) 4 6) := st_getfield q35_87
theorem x35_87 {L : pj_Loc} {st : List Value} {N S : Nat} {H : pj_Heap} {o : Nat} {o9 : Option Value × pj_Mem} : pj_Ends 35 (87, L, .ref o :: st, (N, S, H)) o9 = pj_then 35 o9 (pj_pv 90 L st (N, S, H) (pj_fld (H o) 4 6)) := pj_xt q35_87 rfl (pj_cl_nc rfl) (s35_87)
theorem q35_90 : pj_row 35 90 = some (.aload_n 1, 1, 0, 0, 0) := by decide +kernel
theorem s35_90 {st : List Value} {M : pj_Mem} {l : pj_Loc} {a0 : Option Value} {x : Nat} : pj_step 35 (90, a0 :: some (.ref x) :: l, st, M) = some (91, a0 :: some (.ref x) :: l, .ref x :: st, M) := st_aload_n q35_90 rfl
theorem x35_90 {st : List Value} {M : pj_Mem} {l : pj_Loc} {a0 : Option Value} {x : Nat} {o9 : Option Value × pj_Mem} : pj_Ends 35 (90, a0 :: some (.ref x) :: l, st, M) o9 = pj_Ends 35 (91, a0 :: some (.ref x) :: l, .ref x :: st, M) o9 := pj_xs (s35_90)
theorem q35_91 : pj_row 35 91 = some (.invokevirtual 72, 3, 36, 2, 0) := by decide +kernel
theorem e35_91 {L : pj_Loc} {st : List Value} {N S : Nat} {H : pj_Heap} {o : Option Value × pj_Mem} {M' : pj_Mem} {x0 : Nat} {x1 : Nat} (h4 : pj_le4 st = true) (hu : pj_isU 2 (H x0) = true) (h1 : pj_Ends 36 (0, [some (.ref x0), some (.ref x1)], [], (N, S, H)) (none, M')) (h2 : pj_Ends 35 (94, L, st, M') o) : pj_Ends 35 (91, L, .ref x1 :: .ref x0 :: st, (N, S, H)) o := ec_v2 q35_91 (Or.inl rfl) h4 hu rfl h1 h2
theorem q35_94 : pj_row 35 94 = some (.aload_n 0, 1, 0, 0, 0) := by decide +kernel
theorem s35_94 {st : List Value} {M : pj_Mem} {l : pj_Loc} {x : Nat} : pj_step 35 (94, some (.ref x) :: l, st, M) = some (95, some (.ref x) :: l, .ref x :: st, M) := st_aload_n q35_94 rfl
theorem x35_94 {st : List Value} {M : pj_Mem} {l : pj_Loc} {x : Nat} {o9 : Option Value × pj_Mem} : pj_Ends 35 (94, some (.ref x) :: l, st, M) o9 = pj_Ends 35 (95, some (.ref x) :: l, .ref x :: st, M) o9 := pj_xs (s35_94)
theorem q35_95 : pj_row 35 95 = some (.dup, 1, 0, 0, 0) := by decide +kernel
theorem s35_95 {L : pj_Loc} {st : List Value} {M : pj_Mem} {x : Nat} : pj_step 35 (95, L, .ref x :: st, M) = some (96, L, .ref x :: .ref x :: st, M) := st_dup_ref q35_95
theorem x35_95 {L : pj_Loc} {st : List Value} {M : pj_Mem} {x : Nat} {o9 : Option Value × pj_Mem} : pj_Ends 35 (95, L, .ref x :: st, M) o9 = pj_Ends 35 (96, L, .ref x :: .ref x :: st, M) o9 := pj_xs (s35_95)
theorem s35_95i {L : pj_Loc} {st : List Value} {M : pj_Mem} {x : Int32} : pj_step 35 (95, L, .int x :: st, M) = some (96, L, .int x :: .int x :: st, M) := st_dup_int q35_95
theorem x35_95i {L : pj_Loc} {st : List Value} {M : pj_Mem} {x : Int32} {o9 : Option Value × pj_Mem} : pj_Ends 35 (95, L, .int x :: st, M) o9 = pj_Ends 35 (96, L, .int x :: .int x :: st, M) o9 := pj_xs (s35_95i)
theorem q35_96 : pj_row 35 96 = some (.getfield 60, 3, 4, 10, 0) := by decide +kernel
theorem s35_96 {L : pj_Loc} {st : List Value} {N S : Nat} {H : pj_Heap} {o : Nat} : pj_step 35 (96, L, .ref o :: st, (N, S, H)) = pj_pv 99 L st (N, S, H) (pj_fld (H o) 4 10) := st_getfield q35_96
theorem x35_96 {L : pj_Loc} {st : List Value} {N S : Nat} {H : pj_Heap} {o : Nat} {o9 : Option Value × pj_Mem} : pj_Ends 35 (96, L, .ref o :: st, (N, S, H)) o9 = pj_then 35 o9 (pj_pv 99 L st (N, S, H) (pj_fld (H o) 4 10)) := pj_xt q35_96 rfl (pj_cl_nc rfl) (s35_96)
theorem q35_99 : pj_row 35 99 = some (.iconst 1, 1, 0, 0, 0) := by decide +kernel
theorem s35_99 {L : pj_Loc} {st : List Value} {M : pj_Mem}  : pj_step 35 (99, L, st, M) = some (100, L, .int 1 :: st, M) := st_iconst q35_99 (by decide +kernel)
theorem x35_99 {L : pj_Loc} {st : List Value} {M : pj_Mem}  {o9 : Option Value × pj_Mem} : pj_Ends 35 (99, L, st, M) o9 = pj_Ends 35 (100, L, .int 1 :: st, M) o9 := pj_xs (s35_99)
theorem q35_100 : pj_row 35 100 = some (.iadd, 1, 0, 0, 0) := by decide +kernel
theorem s35_100 {L : pj_Loc} {st : List Value} {M : pj_Mem} {x y : Int32} : pj_step 35 (100, L, .int y :: .int x :: st, M) = some (101, L, .int (x + y) :: st, M) := st_iadd q35_100
theorem x35_100 {L : pj_Loc} {st : List Value} {M : pj_Mem} {x y : Int32} {o9 : Option Value × pj_Mem} : pj_Ends 35 (100, L, .int y :: .int x :: st, M) o9 = pj_Ends 35 (101, L, .int (x + y) :: st, M) o9 := pj_xs (s35_100)
theorem q35_101 : pj_row 35 101 = some (.putfield 60, 3, 4, 10, 0) := by decide +kernel
theorem s35_101 {L : pj_Loc} {st : List Value} {N S : Nat} {H : pj_Heap} {o : Nat} {v : Value} : pj_step 35 (101, L, v :: .ref o :: st, (N, S, H)) = pj_set 104 L st (N, S, H) o (pj_fset (H o) 4 10 v) := st_putfield q35_101
theorem x35_101 {L : pj_Loc} {st : List Value} {N S : Nat} {H : pj_Heap} {o : Nat} {v : Value} {o9 : Option Value × pj_Mem} : pj_Ends 35 (101, L, v :: .ref o :: st, (N, S, H)) o9 = pj_then 35 o9 (pj_set 104 L st (N, S, H) o (pj_fset (H o) 4 10 v)) := pj_xt q35_101 rfl (pj_cl_nc rfl) (s35_101)
theorem q35_104 : pj_row 35 104 = some (.return_, 1, 0, 0, 0) := by decide +kernel
theorem t35_104 {L : pj_Loc} {M : pj_Mem} : pj_Ends 35 (104, L, [], M) (none, M) := pj_Ends.ret q35_104 (pj_rtn_v rt35)
theorem rt36 : pj_rt 36 = none := rfl
theorem q36_0 : pj_row 36 0 = some (.aload_n 0, 1, 0, 0, 0) := by decide +kernel
theorem s36_0 {st : List Value} {M : pj_Mem} {l : pj_Loc} {x : Nat} : pj_step 36 (0, some (.ref x) :: l, st, M) = some (1, some (.ref x) :: l, .ref x :: st, M) := st_aload_n q36_0 rfl
theorem x36_0 {st : List Value} {M : pj_Mem} {l : pj_Loc} {x : Nat} {o9 : Option Value × pj_Mem} : pj_Ends 36 (0, some (.ref x) :: l, st, M) o9 = pj_Ends 36 (1, some (.ref x) :: l, .ref x :: st, M) o9 := pj_xs (s36_0)
theorem q36_1 : pj_row 36 1 = some (.aload_n 1, 1, 0, 0, 0) := by decide +kernel
theorem s36_1 {st : List Value} {M : pj_Mem} {l : pj_Loc} {a0 : Option Value} {x : Nat} : pj_step 36 (1, a0 :: some (.ref x) :: l, st, M) = some (2, a0 :: some (.ref x) :: l, .ref x :: st, M) := st_aload_n q36_1 rfl
theorem x36_1 {st : List Value} {M : pj_Mem} {l : pj_Loc} {a0 : Option Value} {x : Nat} {o9 : Option Value × pj_Mem} : pj_Ends 36 (1, a0 :: some (.ref x) :: l, st, M) o9 = pj_Ends 36 (2, a0 :: some (.ref x) :: l, .ref x :: st, M) o9 := pj_xs (s36_1)
theorem q36_2 : pj_row 36 2 = some (.getfield 28, 3, 3, 7, 0) := by decide +kernel
theorem s36_2 {L : pj_Loc} {st : List Value} {N S : Nat} {H : pj_Heap} {o : Nat} : pj_step 36 (2, L, .ref o :: st, (N, S, H)) = pj_pv 5 L st (N, S, H) (pj_fld (H o) 3 7) := st_getfield q36_2
theorem x36_2 {L : pj_Loc} {st : List Value} {N S : Nat} {H : pj_Heap} {o : Nat} {o9 : Option Value × pj_Mem} : pj_Ends 36 (2, L, .ref o :: st, (N, S, H)) o9 = pj_then 36 o9 (pj_pv 5 L st (N, S, H) (pj_fld (H o) 3 7)) := pj_xt q36_2 rfl (pj_cl_nc rfl) (s36_2)
theorem q36_5 : pj_row 36 5 = some (.invokevirtual 33, 3, 13, 2, 0) := by decide +kernel
theorem e36_5 {L : pj_Loc} {st : List Value} {N S : Nat} {H : pj_Heap} {o : Option Value × pj_Mem} {M' : pj_Mem} {x0 : Nat} {x1 : Int32} {r : Int32} (h4 : pj_le4 st = true) (hu : pj_isU 2 (H x0) = true) (h1 : pj_Ends 13 (0, [some (.ref x0), some (.int x1)], [], (N, S, H)) (some (.int r), M')) (h2 : pj_Ends 36 (8, L, .int r :: st, M') o) : pj_Ends 36 (5, L, .int x1 :: .ref x0 :: st, (N, S, H)) o := ec_v2 q36_5 (Or.inl rfl) h4 hu rfl h1 h2
theorem q36_8 : pj_row 36 8 = some (.ifCond .ne 4, 3, 12, 0, 0) := by decide +kernel
theorem s36_8 {L : pj_Loc} {st : List Value} {M : pj_Mem} {x : Int32} : pj_step 36 (8, L, .int x :: st, M) = some (if ¬ x = 0 then 12 else 11, L, st, M) := st_if_ne q36_8
theorem x36_8 {L : pj_Loc} {st : List Value} {M : pj_Mem} {x : Int32} {o9 : Option Value × pj_Mem} : pj_Ends 36 (8, L, .int x :: st, M) o9 = pj_Ends 36 (if ¬ x = 0 then 12 else 11, L, st, M) o9 := pj_xs (s36_8)
theorem q36_11 : pj_row 36 11 = some (.return_, 1, 0, 0, 0) := by decide +kernel
theorem t36_11 {L : pj_Loc} {M : pj_Mem} : pj_Ends 36 (11, L, [], M) (none, M) := pj_Ends.ret q36_11 (pj_rtn_v rt36)
theorem q36_12 : pj_row 36 12 = some (.aload_n 0, 1, 0, 0, 0) := by decide +kernel
theorem s36_12 {st : List Value} {M : pj_Mem} {l : pj_Loc} {x : Nat} : pj_step 36 (12, some (.ref x) :: l, st, M) = some (13, some (.ref x) :: l, .ref x :: st, M) := st_aload_n q36_12 rfl
theorem x36_12 {st : List Value} {M : pj_Mem} {l : pj_Loc} {x : Nat} {o9 : Option Value × pj_Mem} : pj_Ends 36 (12, some (.ref x) :: l, st, M) o9 = pj_Ends 36 (13, some (.ref x) :: l, .ref x :: st, M) o9 := pj_xs (s36_12)
theorem q36_13 : pj_row 36 13 = some (.getfield 25, 3, 2, 1, 0) := by decide +kernel
theorem s36_13 {L : pj_Loc} {st : List Value} {N S : Nat} {H : pj_Heap} {o : Nat} : pj_step 36 (13, L, .ref o :: st, (N, S, H)) = pj_pv 16 L st (N, S, H) (pj_fld (H o) 2 1) := st_getfield q36_13
theorem x36_13 {L : pj_Loc} {st : List Value} {N S : Nat} {H : pj_Heap} {o : Nat} {o9 : Option Value × pj_Mem} : pj_Ends 36 (13, L, .ref o :: st, (N, S, H)) o9 = pj_then 36 o9 (pj_pv 16 L st (N, S, H) (pj_fld (H o) 2 1)) := pj_xt q36_13 rfl (pj_cl_nc rfl) (s36_13)
theorem q36_16 : pj_row 36 16 = some (.bipush 12, 2, 0, 0, 0) := by decide +kernel
theorem s36_16 {L : pj_Loc} {st : List Value} {M : pj_Mem}  : pj_step 36 (16, L, st, M) = some (18, L, .int 12 :: st, M) := st_bipush q36_16 (by decide +kernel)
theorem x36_16 {L : pj_Loc} {st : List Value} {M : pj_Mem}  {o9 : Option Value × pj_Mem} : pj_Ends 36 (16, L, st, M) o9 = pj_Ends 36 (18, L, .int 12 :: st, M) o9 := pj_xs (s36_16)
theorem q36_18 : pj_row 36 18 = some (.if_icmp .lt 7, 3, 25, 0, 0) := by decide +kernel
theorem s36_18 {L : pj_Loc} {st : List Value} {M : pj_Mem} {x y : Int32} : pj_step 36 (18, L, .int y :: .int x :: st, M) = some (if x < y then 25 else 21, L, st, M) := st_icmp_lt q36_18
theorem x36_18 {L : pj_Loc} {st : List Value} {M : pj_Mem} {x y : Int32} {o9 : Option Value × pj_Mem} : pj_Ends 36 (18, L, .int y :: .int x :: st, M) o9 = pj_Ends 36 (if x < y then 25 else 21, L, st, M) o9 := pj_xs (s36_18)
theorem q36_21 : pj_row 36 21 = some (.aload_n 0, 1, 0, 0, 0) := by decide +kernel
theorem s36_21 {st : List Value} {M : pj_Mem} {l : pj_Loc} {x : Nat} : pj_step 36 (21, some (.ref x) :: l, st, M) = some (22, some (.ref x) :: l, .ref x :: st, M) := st_aload_n q36_21 rfl
theorem x36_21 {st : List Value} {M : pj_Mem} {l : pj_Loc} {x : Nat} {o9 : Option Value × pj_Mem} : pj_Ends 36 (21, some (.ref x) :: l, st, M) o9 = pj_Ends 36 (22, some (.ref x) :: l, .ref x :: st, M) o9 := pj_xs (s36_21)
theorem q36_22 : pj_row 36 22 = some (.invokevirtual 37, 3, 37, 1, 0) := by decide +kernel
theorem e36_22 {L : pj_Loc} {st : List Value} {N S : Nat} {H : pj_Heap} {o : Option Value × pj_Mem} {M' : pj_Mem} {x0 : Nat} (h4 : pj_le4 st = true) (hu : pj_isU 2 (H x0) = true) (h1 : pj_Ends 37 (0, [some (.ref x0)], [], (N, S, H)) (none, M')) (h2 : pj_Ends 36 (25, L, st, M') o) : pj_Ends 36 (22, L, .ref x0 :: st, (N, S, H)) o := ec_v1 q36_22 (Or.inl rfl) h4 hu rfl h1 h2
theorem q36_25 : pj_row 36 25 = some (.aload_n 0, 1, 0, 0, 0) := by decide +kernel
theorem s36_25 {st : List Value} {M : pj_Mem} {l : pj_Loc} {x : Nat} : pj_step 36 (25, some (.ref x) :: l, st, M) = some (26, some (.ref x) :: l, .ref x :: st, M) := st_aload_n q36_25 rfl
theorem x36_25 {st : List Value} {M : pj_Mem} {l : pj_Loc} {x : Nat} {o9 : Option Value × pj_Mem} : pj_Ends 36 (25, some (.ref x) :: l, st, M) o9 = pj_Ends 36 (26, some (.ref x) :: l, .ref x :: st, M) o9 := pj_xs (s36_25)
theorem q36_26 : pj_row 36 26 = some (.aload_n 1, 1, 0, 0, 0) := by decide +kernel
theorem s36_26 {st : List Value} {M : pj_Mem} {l : pj_Loc} {a0 : Option Value} {x : Nat} : pj_step 36 (26, a0 :: some (.ref x) :: l, st, M) = some (27, a0 :: some (.ref x) :: l, .ref x :: st, M) := st_aload_n q36_26 rfl
theorem x36_26 {st : List Value} {M : pj_Mem} {l : pj_Loc} {a0 : Option Value} {x : Nat} {o9 : Option Value × pj_Mem} : pj_Ends 36 (26, a0 :: some (.ref x) :: l, st, M) o9 = pj_Ends 36 (27, a0 :: some (.ref x) :: l, .ref x :: st, M) o9 := pj_xs (s36_26)
theorem q36_27 : pj_row 36 27 = some (.aload_n 0, 1, 0, 0, 0) := by decide +kernel
theorem s36_27 {st : List Value} {M : pj_Mem} {l : pj_Loc} {x : Nat} : pj_step 36 (27, some (.ref x) :: l, st, M) = some (28, some (.ref x) :: l, .ref x :: st, M) := st_aload_n q36_27 rfl
theorem x36_27 {st : List Value} {M : pj_Mem} {l : pj_Loc} {x : Nat} {o9 : Option Value × pj_Mem} : pj_Ends 36 (27, some (.ref x) :: l, st, M) o9 = pj_Ends 36 (28, some (.ref x) :: l, .ref x :: st, M) o9 := pj_xs (s36_27)
theorem q36_28 : pj_row 36 28 = some (.getfield 25, 3, 2, 1, 0) := by decide +kernel
theorem s36_28 {L : pj_Loc} {st : List Value} {N S : Nat} {H : pj_Heap} {o : Nat} : pj_step 36 (28, L, .ref o :: st, (N, S, H)) = pj_pv 31 L st (N, S, H) (pj_fld (H o) 2 1) := st_getfield q36_28
theorem x36_28 {L : pj_Loc} {st : List Value} {N S : Nat} {H : pj_Heap} {o : Nat} {o9 : Option Value × pj_Mem} : pj_Ends 36 (28, L, .ref o :: st, (N, S, H)) o9 = pj_then 36 o9 (pj_pv 31 L st (N, S, H) (pj_fld (H o) 2 1)) := pj_xt q36_28 rfl (pj_cl_nc rfl) (s36_28)
theorem q36_31 : pj_row 36 31 = some (.bipush 10, 2, 0, 0, 0) := by decide +kernel
theorem s36_31 {L : pj_Loc} {st : List Value} {M : pj_Mem}  : pj_step 36 (31, L, st, M) = some (33, L, .int 10 :: st, M) := st_bipush q36_31 (by decide +kernel)
theorem x36_31 {L : pj_Loc} {st : List Value} {M : pj_Mem}  {o9 : Option Value × pj_Mem} : pj_Ends 36 (31, L, st, M) o9 = pj_Ends 36 (33, L, .int 10 :: st, M) o9 := pj_xs (s36_31)
theorem q36_33 : pj_row 36 33 = some (.imul, 1, 0, 0, 0) := by decide +kernel
theorem s36_33 {L : pj_Loc} {st : List Value} {M : pj_Mem} {x y : Int32} : pj_step 36 (33, L, .int y :: .int x :: st, M) = some (34, L, .int (x * y) :: st, M) := st_imul q36_33
theorem x36_33 {L : pj_Loc} {st : List Value} {M : pj_Mem} {x y : Int32} {o9 : Option Value × pj_Mem} : pj_Ends 36 (33, L, .int y :: .int x :: st, M) o9 = pj_Ends 36 (34, L, .int (x * y) :: st, M) o9 := pj_xs (s36_33)
theorem q36_34 : pj_row 36 34 = some (.invokevirtual 40, 3, 38, 3, 0) := by decide +kernel
theorem e36_34 {L : pj_Loc} {st : List Value} {N S : Nat} {H : pj_Heap} {o : Option Value × pj_Mem} {M' : pj_Mem} {x0 : Nat} {x1 : Nat} {x2 : Int32} (h4 : pj_le4 st = true) (hu : pj_isU 2 (H x0) = true) (h1 : pj_Ends 38 (0, [some (.ref x0), some (.ref x1), some (.int x2), none], [], (N, S, H)) (none, M')) (h2 : pj_Ends 36 (37, L, st, M') o) : pj_Ends 36 (34, L, .int x2 :: .ref x1 :: .ref x0 :: st, (N, S, H)) o := ec_v3 q36_34 (Or.inl rfl) h4 hu rfl h1 h2
theorem q36_37 : pj_row 36 37 = some (.aload_n 0, 1, 0, 0, 0) := by decide +kernel
theorem s36_37 {st : List Value} {M : pj_Mem} {l : pj_Loc} {x : Nat} : pj_step 36 (37, some (.ref x) :: l, st, M) = some (38, some (.ref x) :: l, .ref x :: st, M) := st_aload_n q36_37 rfl
theorem x36_37 {st : List Value} {M : pj_Mem} {l : pj_Loc} {x : Nat} {o9 : Option Value × pj_Mem} : pj_Ends 36 (37, some (.ref x) :: l, st, M) o9 = pj_Ends 36 (38, some (.ref x) :: l, .ref x :: st, M) o9 := pj_xs (s36_37)
theorem q36_38 : pj_row 36 38 = some (.dup, 1, 0, 0, 0) := by decide +kernel
theorem s36_38 {L : pj_Loc} {st : List Value} {M : pj_Mem} {x : Nat} : pj_step 36 (38, L, .ref x :: st, M) = some (39, L, .ref x :: .ref x :: st, M) := st_dup_ref q36_38
theorem x36_38 {L : pj_Loc} {st : List Value} {M : pj_Mem} {x : Nat} {o9 : Option Value × pj_Mem} : pj_Ends 36 (38, L, .ref x :: st, M) o9 = pj_Ends 36 (39, L, .ref x :: .ref x :: st, M) o9 := pj_xs (s36_38)
theorem s36_38i {L : pj_Loc} {st : List Value} {M : pj_Mem} {x : Int32} : pj_step 36 (38, L, .int x :: st, M) = some (39, L, .int x :: .int x :: st, M) := st_dup_int q36_38
theorem x36_38i {L : pj_Loc} {st : List Value} {M : pj_Mem} {x : Int32} {o9 : Option Value × pj_Mem} : pj_Ends 36 (38, L, .int x :: st, M) o9 = pj_Ends 36 (39, L, .int x :: .int x :: st, M) o9 := pj_xs (s36_38i)
theorem q36_39 : pj_row 36 39 = some (.getfield 25, 3, 2, 1, 0) := by decide +kernel
theorem s36_39 {L : pj_Loc} {st : List Value} {N S : Nat} {H : pj_Heap} {o : Nat} : pj_step 36 (39, L, .ref o :: st, (N, S, H)) = pj_pv 42 L st (N, S, H) (pj_fld (H o) 2 1) := st_getfield q36_39
theorem x36_39 {L : pj_Loc} {st : List Value} {N S : Nat} {H : pj_Heap} {o : Nat} {o9 : Option Value × pj_Mem} : pj_Ends 36 (39, L, .ref o :: st, (N, S, H)) o9 = pj_then 36 o9 (pj_pv 42 L st (N, S, H) (pj_fld (H o) 2 1)) := pj_xt q36_39 rfl (pj_cl_nc rfl) (s36_39)
theorem q36_42 : pj_row 36 42 = some (.iconst 1, 1, 0, 0, 0) := by decide +kernel
theorem s36_42 {L : pj_Loc} {st : List Value} {M : pj_Mem}  : pj_step 36 (42, L, st, M) = some (43, L, .int 1 :: st, M) := st_iconst q36_42 (by decide +kernel)
theorem x36_42 {L : pj_Loc} {st : List Value} {M : pj_Mem}  {o9 : Option Value × pj_Mem} : pj_Ends 36 (42, L, st, M) o9 = pj_Ends 36 (43, L, .int 1 :: st, M) o9 := pj_xs (s36_42)
theorem q36_43 : pj_row 36 43 = some (.iadd, 1, 0, 0, 0) := by decide +kernel
theorem s36_43 {L : pj_Loc} {st : List Value} {M : pj_Mem} {x y : Int32} : pj_step 36 (43, L, .int y :: .int x :: st, M) = some (44, L, .int (x + y) :: st, M) := st_iadd q36_43
theorem x36_43 {L : pj_Loc} {st : List Value} {M : pj_Mem} {x y : Int32} {o9 : Option Value × pj_Mem} : pj_Ends 36 (43, L, .int y :: .int x :: st, M) o9 = pj_Ends 36 (44, L, .int (x + y) :: st, M) o9 := pj_xs (s36_43)
theorem q36_44 : pj_row 36 44 = some (.putfield 25, 3, 2, 1, 0) := by decide +kernel
theorem s36_44 {L : pj_Loc} {st : List Value} {N S : Nat} {H : pj_Heap} {o : Nat} {v : Value} : pj_step 36 (44, L, v :: .ref o :: st, (N, S, H)) = pj_set 47 L st (N, S, H) o (pj_fset (H o) 2 1 v) := st_putfield q36_44
theorem x36_44 {L : pj_Loc} {st : List Value} {N S : Nat} {H : pj_Heap} {o : Nat} {v : Value} {o9 : Option Value × pj_Mem} : pj_Ends 36 (44, L, v :: .ref o :: st, (N, S, H)) o9 = pj_then 36 o9 (pj_set 47 L st (N, S, H) o (pj_fset (H o) 2 1 v)) := pj_xt q36_44 rfl (pj_cl_nc rfl) (s36_44)
theorem q36_47 : pj_row 36 47 = some (.aload_n 0, 1, 0, 0, 0) := by decide +kernel
theorem s36_47 {st : List Value} {M : pj_Mem} {l : pj_Loc} {x : Nat} : pj_step 36 (47, some (.ref x) :: l, st, M) = some (48, some (.ref x) :: l, .ref x :: st, M) := st_aload_n q36_47 rfl
theorem x36_47 {st : List Value} {M : pj_Mem} {l : pj_Loc} {x : Nat} {o9 : Option Value × pj_Mem} : pj_Ends 36 (47, some (.ref x) :: l, st, M) o9 = pj_Ends 36 (48, some (.ref x) :: l, .ref x :: st, M) o9 := pj_xs (s36_47)
theorem q36_48 : pj_row 36 48 = some (.getfield 15, 3, 2, 2, 0) := by decide +kernel
theorem s36_48 {L : pj_Loc} {st : List Value} {N S : Nat} {H : pj_Heap} {o : Nat} : pj_step 36 (48, L, .ref o :: st, (N, S, H)) = pj_pv 51 L st (N, S, H) (pj_fld (H o) 2 2) := st_getfield q36_48
theorem x36_48 {L : pj_Loc} {st : List Value} {N S : Nat} {H : pj_Heap} {o : Nat} {o9 : Option Value × pj_Mem} : pj_Ends 36 (48, L, .ref o :: st, (N, S, H)) o9 = pj_then 36 o9 (pj_pv 51 L st (N, S, H) (pj_fld (H o) 2 2)) := pj_xt q36_48 rfl (pj_cl_nc rfl) (s36_48)
theorem q36_51 : pj_row 36 51 = some (.bipush (-6), 2, 0, 0, 0) := by decide +kernel
theorem s36_51 {L : pj_Loc} {st : List Value} {M : pj_Mem}  : pj_step 36 (51, L, st, M) = some (53, L, .int (-6) :: st, M) := st_bipush q36_51 (by decide +kernel)
theorem x36_51 {L : pj_Loc} {st : List Value} {M : pj_Mem}  {o9 : Option Value × pj_Mem} : pj_Ends 36 (51, L, st, M) o9 = pj_Ends 36 (53, L, .int (-6) :: st, M) o9 := pj_xs (s36_51)
theorem q36_53 : pj_row 36 53 = some (.if_icmp .ne 18, 3, 71, 0, 0) := by decide +kernel
theorem s36_53 {L : pj_Loc} {st : List Value} {M : pj_Mem} {x y : Int32} : pj_step 36 (53, L, .int y :: .int x :: st, M) = some (if ¬ x = y then 71 else 56, L, st, M) := st_icmp_ne q36_53
theorem x36_53 {L : pj_Loc} {st : List Value} {M : pj_Mem} {x y : Int32} {o9 : Option Value × pj_Mem} : pj_Ends 36 (53, L, .int y :: .int x :: st, M) o9 = pj_Ends 36 (if ¬ x = y then 71 else 56, L, st, M) o9 := pj_xs (s36_53)
theorem q36_56 : pj_row 36 56 = some (.aload_n 1, 1, 0, 0, 0) := by decide +kernel
theorem s36_56 {st : List Value} {M : pj_Mem} {l : pj_Loc} {a0 : Option Value} {x : Nat} : pj_step 36 (56, a0 :: some (.ref x) :: l, st, M) = some (57, a0 :: some (.ref x) :: l, .ref x :: st, M) := st_aload_n q36_56 rfl
theorem x36_56 {st : List Value} {M : pj_Mem} {l : pj_Loc} {a0 : Option Value} {x : Nat} {o9 : Option Value × pj_Mem} : pj_Ends 36 (56, a0 :: some (.ref x) :: l, st, M) o9 = pj_Ends 36 (57, a0 :: some (.ref x) :: l, .ref x :: st, M) o9 := pj_xs (s36_56)
theorem q36_57 : pj_row 36 57 = some (.getfield 44, 3, 3, 13, 0) := by decide +kernel
theorem s36_57 {L : pj_Loc} {st : List Value} {N S : Nat} {H : pj_Heap} {o : Nat} : pj_step 36 (57, L, .ref o :: st, (N, S, H)) = pj_pv 60 L st (N, S, H) (pj_fld (H o) 3 13) := st_getfield q36_57
theorem x36_57 {L : pj_Loc} {st : List Value} {N S : Nat} {H : pj_Heap} {o : Nat} {o9 : Option Value × pj_Mem} : pj_Ends 36 (57, L, .ref o :: st, (N, S, H)) o9 = pj_then 36 o9 (pj_pv 60 L st (N, S, H) (pj_fld (H o) 3 13)) := pj_xt q36_57 rfl (pj_cl_nc rfl) (s36_57)
theorem q36_60 : pj_row 36 60 = some (.ifCond .eq 11, 3, 71, 0, 0) := by decide +kernel
theorem s36_60 {L : pj_Loc} {st : List Value} {M : pj_Mem} {x : Int32} : pj_step 36 (60, L, .int x :: st, M) = some (if x = 0 then 71 else 63, L, st, M) := st_if_eq q36_60
theorem x36_60 {L : pj_Loc} {st : List Value} {M : pj_Mem} {x : Int32} {o9 : Option Value × pj_Mem} : pj_Ends 36 (60, L, .int x :: st, M) o9 = pj_Ends 36 (if x = 0 then 71 else 63, L, st, M) o9 := pj_xs (s36_60)
theorem q36_63 : pj_row 36 63 = some (.aload_n 0, 1, 0, 0, 0) := by decide +kernel
theorem s36_63 {st : List Value} {M : pj_Mem} {l : pj_Loc} {x : Nat} : pj_step 36 (63, some (.ref x) :: l, st, M) = some (64, some (.ref x) :: l, .ref x :: st, M) := st_aload_n q36_63 rfl
theorem x36_63 {st : List Value} {M : pj_Mem} {l : pj_Loc} {x : Nat} {o9 : Option Value × pj_Mem} : pj_Ends 36 (63, some (.ref x) :: l, st, M) o9 = pj_Ends 36 (64, some (.ref x) :: l, .ref x :: st, M) o9 := pj_xs (s36_63)
theorem q36_64 : pj_row 36 64 = some (.aload_n 1, 1, 0, 0, 0) := by decide +kernel
theorem s36_64 {st : List Value} {M : pj_Mem} {l : pj_Loc} {a0 : Option Value} {x : Nat} : pj_step 36 (64, a0 :: some (.ref x) :: l, st, M) = some (65, a0 :: some (.ref x) :: l, .ref x :: st, M) := st_aload_n q36_64 rfl
theorem x36_64 {st : List Value} {M : pj_Mem} {l : pj_Loc} {a0 : Option Value} {x : Nat} {o9 : Option Value × pj_Mem} : pj_Ends 36 (64, a0 :: some (.ref x) :: l, st, M) o9 = pj_Ends 36 (65, a0 :: some (.ref x) :: l, .ref x :: st, M) o9 := pj_xs (s36_64)
theorem q36_65 : pj_row 36 65 = some (.getfield 28, 3, 3, 7, 0) := by decide +kernel
theorem s36_65 {L : pj_Loc} {st : List Value} {N S : Nat} {H : pj_Heap} {o : Nat} : pj_step 36 (65, L, .ref o :: st, (N, S, H)) = pj_pv 68 L st (N, S, H) (pj_fld (H o) 3 7) := st_getfield q36_65
theorem x36_65 {L : pj_Loc} {st : List Value} {N S : Nat} {H : pj_Heap} {o : Nat} {o9 : Option Value × pj_Mem} : pj_Ends 36 (65, L, .ref o :: st, (N, S, H)) o9 = pj_then 36 o9 (pj_pv 68 L st (N, S, H) (pj_fld (H o) 3 7)) := pj_xt q36_65 rfl (pj_cl_nc rfl) (s36_65)
theorem q36_68 : pj_row 36 68 = some (.putfield 15, 3, 2, 2, 0) := by decide +kernel
theorem s36_68 {L : pj_Loc} {st : List Value} {N S : Nat} {H : pj_Heap} {o : Nat} {v : Value} : pj_step 36 (68, L, v :: .ref o :: st, (N, S, H)) = pj_set 71 L st (N, S, H) o (pj_fset (H o) 2 2 v) := st_putfield q36_68
theorem x36_68 {L : pj_Loc} {st : List Value} {N S : Nat} {H : pj_Heap} {o : Nat} {v : Value} {o9 : Option Value × pj_Mem} : pj_Ends 36 (68, L, v :: .ref o :: st, (N, S, H)) o9 = pj_then 36 o9 (pj_set 71 L st (N, S, H) o (pj_fset (H o) 2 2 v)) := pj_xt q36_68 rfl (pj_cl_nc rfl) (s36_68)
theorem q36_71 : pj_row 36 71 = some (.return_, 1, 0, 0, 0) := by decide +kernel
theorem t36_71 {L : pj_Loc} {M : pj_Mem} : pj_Ends 36 (71, L, [], M) (none, M) := pj_Ends.ret q36_71 (pj_rtn_v rt36)
theorem rt37 : pj_rt 37 = none := rfl
theorem q37_0 : pj_row 37 0 = some (.aload_n 0, 1, 0, 0, 0) := by decide +kernel
theorem s37_0 {st : List Value} {M : pj_Mem} {l : pj_Loc} {x : Nat} : pj_step 37 (0, some (.ref x) :: l, st, M) = some (1, some (.ref x) :: l, .ref x :: st, M) := st_aload_n q37_0 rfl
theorem x37_0 {st : List Value} {M : pj_Mem} {l : pj_Loc} {x : Nat} {o9 : Option Value × pj_Mem} : pj_Ends 37 (0, some (.ref x) :: l, st, M) o9 = pj_Ends 37 (1, some (.ref x) :: l, .ref x :: st, M) o9 := pj_xs (s37_0)
theorem q37_1 : pj_row 37 1 = some (.bipush 11, 2, 0, 0, 0) := by decide +kernel
theorem s37_1 {L : pj_Loc} {st : List Value} {M : pj_Mem}  : pj_step 37 (1, L, st, M) = some (3, L, .int 11 :: st, M) := st_bipush q37_1 (by decide +kernel)
theorem x37_1 {L : pj_Loc} {st : List Value} {M : pj_Mem}  {o9 : Option Value × pj_Mem} : pj_Ends 37 (1, L, st, M) o9 = pj_Ends 37 (3, L, .int 11 :: st, M) o9 := pj_xs (s37_1)
theorem q37_3 : pj_row 37 3 = some (.putfield 25, 3, 2, 1, 0) := by decide +kernel
theorem s37_3 {L : pj_Loc} {st : List Value} {N S : Nat} {H : pj_Heap} {o : Nat} {v : Value} : pj_step 37 (3, L, v :: .ref o :: st, (N, S, H)) = pj_set 6 L st (N, S, H) o (pj_fset (H o) 2 1 v) := st_putfield q37_3
theorem x37_3 {L : pj_Loc} {st : List Value} {N S : Nat} {H : pj_Heap} {o : Nat} {v : Value} {o9 : Option Value × pj_Mem} : pj_Ends 37 (3, L, v :: .ref o :: st, (N, S, H)) o9 = pj_then 37 o9 (pj_set 6 L st (N, S, H) o (pj_fset (H o) 2 1 v)) := pj_xt q37_3 rfl (pj_cl_nc rfl) (s37_3)
theorem q37_6 : pj_row 37 6 = some (.aload_n 0, 1, 0, 0, 0) := by decide +kernel
theorem s37_6 {st : List Value} {M : pj_Mem} {l : pj_Loc} {x : Nat} : pj_step 37 (6, some (.ref x) :: l, st, M) = some (7, some (.ref x) :: l, .ref x :: st, M) := st_aload_n q37_6 rfl
theorem x37_6 {st : List Value} {M : pj_Mem} {l : pj_Loc} {x : Nat} {o9 : Option Value × pj_Mem} : pj_Ends 37 (6, some (.ref x) :: l, st, M) o9 = pj_Ends 37 (7, some (.ref x) :: l, .ref x :: st, M) o9 := pj_xs (s37_6)
theorem q37_7 : pj_row 37 7 = some (.getfield 9, 3, 2, 0, 0) := by decide +kernel
theorem s37_7 {L : pj_Loc} {st : List Value} {N S : Nat} {H : pj_Heap} {o : Nat} : pj_step 37 (7, L, .ref o :: st, (N, S, H)) = pj_pv 10 L st (N, S, H) (pj_fld (H o) 2 0) := st_getfield q37_7
theorem x37_7 {L : pj_Loc} {st : List Value} {N S : Nat} {H : pj_Heap} {o : Nat} {o9 : Option Value × pj_Mem} : pj_Ends 37 (7, L, .ref o :: st, (N, S, H)) o9 = pj_then 37 o9 (pj_pv 10 L st (N, S, H) (pj_fld (H o) 2 0)) := pj_xt q37_7 rfl (pj_cl_nc rfl) (s37_7)
theorem q37_10 : pj_row 37 10 = some (.bipush 10, 2, 0, 0, 0) := by decide +kernel
theorem s37_10 {L : pj_Loc} {st : List Value} {M : pj_Mem}  : pj_step 37 (10, L, st, M) = some (12, L, .int 10 :: st, M) := st_bipush q37_10 (by decide +kernel)
theorem x37_10 {L : pj_Loc} {st : List Value} {M : pj_Mem}  {o9 : Option Value × pj_Mem} : pj_Ends 37 (10, L, st, M) o9 = pj_Ends 37 (12, L, .int 10 :: st, M) o9 := pj_xs (s37_10)
theorem q37_12 : pj_row 37 12 = some (.aload_n 0, 1, 0, 0, 0) := by decide +kernel
theorem s37_12 {st : List Value} {M : pj_Mem} {l : pj_Loc} {x : Nat} : pj_step 37 (12, some (.ref x) :: l, st, M) = some (13, some (.ref x) :: l, .ref x :: st, M) := st_aload_n q37_12 rfl
theorem x37_12 {st : List Value} {M : pj_Mem} {l : pj_Loc} {x : Nat} {o9 : Option Value × pj_Mem} : pj_Ends 37 (12, some (.ref x) :: l, st, M) o9 = pj_Ends 37 (13, some (.ref x) :: l, .ref x :: st, M) o9 := pj_xs (s37_12)
theorem q37_13 : pj_row 37 13 = some (.getfield 9, 3, 2, 0, 0) := by decide +kernel
theorem s37_13 {L : pj_Loc} {st : List Value} {N S : Nat} {H : pj_Heap} {o : Nat} : pj_step 37 (13, L, .ref o :: st, (N, S, H)) = pj_pv 16 L st (N, S, H) (pj_fld (H o) 2 0) := st_getfield q37_13
theorem x37_13 {L : pj_Loc} {st : List Value} {N S : Nat} {H : pj_Heap} {o : Nat} {o9 : Option Value × pj_Mem} : pj_Ends 37 (13, L, .ref o :: st, (N, S, H)) o9 = pj_then 37 o9 (pj_pv 16 L st (N, S, H) (pj_fld (H o) 2 0)) := pj_xt q37_13 rfl (pj_cl_nc rfl) (s37_13)
theorem q37_16 : pj_row 37 16 = some (.iconst 0, 1, 0, 0, 0) := by decide +kernel
theorem s37_16 {L : pj_Loc} {st : List Value} {M : pj_Mem}  : pj_step 37 (16, L, st, M) = some (17, L, .int 0 :: st, M) := st_iconst q37_16 (by decide +kernel)
theorem x37_16 {L : pj_Loc} {st : List Value} {M : pj_Mem}  {o9 : Option Value × pj_Mem} : pj_Ends 37 (16, L, st, M) o9 = pj_Ends 37 (17, L, .int 0 :: st, M) o9 := pj_xs (s37_16)
theorem q37_17 : pj_row 37 17 = some (.aload_n 0, 1, 0, 0, 0) := by decide +kernel
theorem s37_17 {st : List Value} {M : pj_Mem} {l : pj_Loc} {x : Nat} : pj_step 37 (17, some (.ref x) :: l, st, M) = some (18, some (.ref x) :: l, .ref x :: st, M) := st_aload_n q37_17 rfl
theorem x37_17 {st : List Value} {M : pj_Mem} {l : pj_Loc} {x : Nat} {o9 : Option Value × pj_Mem} : pj_Ends 37 (17, some (.ref x) :: l, st, M) o9 = pj_Ends 37 (18, some (.ref x) :: l, .ref x :: st, M) o9 := pj_xs (s37_17)
theorem q37_18 : pj_row 37 18 = some (.getfield 25, 3, 2, 1, 0) := by decide +kernel
theorem s37_18 {L : pj_Loc} {st : List Value} {N S : Nat} {H : pj_Heap} {o : Nat} : pj_step 37 (18, L, .ref o :: st, (N, S, H)) = pj_pv 21 L st (N, S, H) (pj_fld (H o) 2 1) := st_getfield q37_18
theorem x37_18 {L : pj_Loc} {st : List Value} {N S : Nat} {H : pj_Heap} {o : Nat} {o9 : Option Value × pj_Mem} : pj_Ends 37 (18, L, .ref o :: st, (N, S, H)) o9 = pj_then 37 o9 (pj_pv 21 L st (N, S, H) (pj_fld (H o) 2 1)) := pj_xt q37_18 rfl (pj_cl_nc rfl) (s37_18)
theorem q37_21 : pj_row 37 21 = some (.bipush 10, 2, 0, 0, 0) := by decide +kernel
theorem s37_21 {L : pj_Loc} {st : List Value} {M : pj_Mem}  : pj_step 37 (21, L, st, M) = some (23, L, .int 10 :: st, M) := st_bipush q37_21 (by decide +kernel)
theorem x37_21 {L : pj_Loc} {st : List Value} {M : pj_Mem}  {o9 : Option Value × pj_Mem} : pj_Ends 37 (21, L, st, M) o9 = pj_Ends 37 (23, L, .int 10 :: st, M) o9 := pj_xs (s37_21)
theorem q37_23 : pj_row 37 23 = some (.imul, 1, 0, 0, 0) := by decide +kernel
theorem s37_23 {L : pj_Loc} {st : List Value} {M : pj_Mem} {x y : Int32} : pj_step 37 (23, L, .int y :: .int x :: st, M) = some (24, L, .int (x * y) :: st, M) := st_imul q37_23
theorem x37_23 {L : pj_Loc} {st : List Value} {M : pj_Mem} {x y : Int32} {o9 : Option Value × pj_Mem} : pj_Ends 37 (23, L, .int y :: .int x :: st, M) o9 = pj_Ends 37 (24, L, .int (x * y) :: st, M) o9 := pj_xs (s37_23)
theorem q37_24 : pj_row 37 24 = some (.invokestatic 19, 3, 0, 5, 3) := by decide +kernel
theorem s37_24 {L : pj_Loc} {st : List Value} {N S : Nat} {H : pj_Heap} {d o : Nat} {n dp sp : Int32} : pj_step 37 (24, L, .int n :: .int dp :: .ref d :: .int sp :: .ref o :: st, (N, S, H)) = pj_g4 st (pj_set 27 L st (N, S, H) d (pj_cas (H o) (H d) sp dp n)) := st_acp q37_24
theorem x37_24 {L : pj_Loc} {st : List Value} {N S : Nat} {H : pj_Heap} {d o : Nat} {n dp sp : Int32} {o9 : Option Value × pj_Mem} : pj_Ends 37 (24, L, .int n :: .int dp :: .ref d :: .int sp :: .ref o :: st, (N, S, H)) o9 = pj_then 37 o9 (pj_g4 st (pj_set 27 L st (N, S, H) d (pj_cas (H o) (H d) sp dp n))) := pj_xt q37_24 rfl rfl (s37_24)
theorem q37_27 : pj_row 37 27 = some (.return_, 1, 0, 0, 0) := by decide +kernel
theorem t37_27 {L : pj_Loc} {M : pj_Mem} : pj_Ends 37 (27, L, [], M) (none, M) := pj_Ends.ret q37_27 (pj_rtn_v rt37)
theorem rt38 : pj_rt 38 = none := rfl
theorem q38_0 : pj_row 38 0 = some (.aload_n 0, 1, 0, 0, 0) := by decide +kernel
theorem s38_0 {st : List Value} {M : pj_Mem} {l : pj_Loc} {x : Nat} : pj_step 38 (0, some (.ref x) :: l, st, M) = some (1, some (.ref x) :: l, .ref x :: st, M) := st_aload_n q38_0 rfl
theorem x38_0 {st : List Value} {M : pj_Mem} {l : pj_Loc} {x : Nat} {o9 : Option Value × pj_Mem} : pj_Ends 38 (0, some (.ref x) :: l, st, M) o9 = pj_Ends 38 (1, some (.ref x) :: l, .ref x :: st, M) o9 := pj_xs (s38_0)
theorem q38_1 : pj_row 38 1 = some (.getfield 9, 3, 2, 0, 0) := by decide +kernel
theorem s38_1 {L : pj_Loc} {st : List Value} {N S : Nat} {H : pj_Heap} {o : Nat} : pj_step 38 (1, L, .ref o :: st, (N, S, H)) = pj_pv 4 L st (N, S, H) (pj_fld (H o) 2 0) := st_getfield q38_1
theorem x38_1 {L : pj_Loc} {st : List Value} {N S : Nat} {H : pj_Heap} {o : Nat} {o9 : Option Value × pj_Mem} : pj_Ends 38 (1, L, .ref o :: st, (N, S, H)) o9 = pj_then 38 o9 (pj_pv 4 L st (N, S, H) (pj_fld (H o) 2 0)) := pj_xt q38_1 rfl (pj_cl_nc rfl) (s38_1)
theorem q38_4 : pj_row 38 4 = some (.iload_n 2, 1, 0, 0, 0) := by decide +kernel
theorem s38_4 {st : List Value} {M : pj_Mem} {l : pj_Loc} {a0 a1 : Option Value} {x : Int32} : pj_step 38 (4, a0 :: a1 :: some (.int x) :: l, st, M) = some (5, a0 :: a1 :: some (.int x) :: l, .int x :: st, M) := st_iload_n q38_4 rfl
theorem x38_4 {st : List Value} {M : pj_Mem} {l : pj_Loc} {a0 a1 : Option Value} {x : Int32} {o9 : Option Value × pj_Mem} : pj_Ends 38 (4, a0 :: a1 :: some (.int x) :: l, st, M) o9 = pj_Ends 38 (5, a0 :: a1 :: some (.int x) :: l, .int x :: st, M) o9 := pj_xs (s38_4)
theorem q38_5 : pj_row 38 5 = some (.aload_n 1, 1, 0, 0, 0) := by decide +kernel
theorem s38_5 {st : List Value} {M : pj_Mem} {l : pj_Loc} {a0 : Option Value} {x : Nat} : pj_step 38 (5, a0 :: some (.ref x) :: l, st, M) = some (6, a0 :: some (.ref x) :: l, .ref x :: st, M) := st_aload_n q38_5 rfl
theorem x38_5 {st : List Value} {M : pj_Mem} {l : pj_Loc} {a0 : Option Value} {x : Nat} {o9 : Option Value × pj_Mem} : pj_Ends 38 (5, a0 :: some (.ref x) :: l, st, M) o9 = pj_Ends 38 (6, a0 :: some (.ref x) :: l, .ref x :: st, M) o9 := pj_xs (s38_5)
theorem q38_6 : pj_row 38 6 = some (.getfield 28, 3, 3, 7, 0) := by decide +kernel
theorem s38_6 {L : pj_Loc} {st : List Value} {N S : Nat} {H : pj_Heap} {o : Nat} : pj_step 38 (6, L, .ref o :: st, (N, S, H)) = pj_pv 9 L st (N, S, H) (pj_fld (H o) 3 7) := st_getfield q38_6
theorem x38_6 {L : pj_Loc} {st : List Value} {N S : Nat} {H : pj_Heap} {o : Nat} {o9 : Option Value × pj_Mem} : pj_Ends 38 (6, L, .ref o :: st, (N, S, H)) o9 = pj_then 38 o9 (pj_pv 9 L st (N, S, H) (pj_fld (H o) 3 7)) := pj_xt q38_6 rfl (pj_cl_nc rfl) (s38_6)
theorem q38_9 : pj_row 38 9 = some (.iastore, 1, 0, 0, 0) := by decide +kernel
theorem s38_9 {L : pj_Loc} {st : List Value} {N S : Nat} {H : pj_Heap} {o : Nat} {i x : Int32} : pj_step 38 (9, L, .int x :: .int i :: .ref o :: st, (N, S, H)) = pj_set 10 L st (N, S, H) o (pj_ars (H o) 0 i x) := st_iastore q38_9
theorem x38_9 {L : pj_Loc} {st : List Value} {N S : Nat} {H : pj_Heap} {o : Nat} {i x : Int32} {o9 : Option Value × pj_Mem} : pj_Ends 38 (9, L, .int x :: .int i :: .ref o :: st, (N, S, H)) o9 = pj_then 38 o9 (pj_set 10 L st (N, S, H) o (pj_ars (H o) 0 i x)) := pj_xt q38_9 rfl (pj_cl_nc rfl) (s38_9)
theorem q38_10 : pj_row 38 10 = some (.iconst 0, 1, 0, 0, 0) := by decide +kernel
theorem s38_10 {L : pj_Loc} {st : List Value} {M : pj_Mem}  : pj_step 38 (10, L, st, M) = some (11, L, .int 0 :: st, M) := st_iconst q38_10 (by decide +kernel)
theorem x38_10 {L : pj_Loc} {st : List Value} {M : pj_Mem}  {o9 : Option Value × pj_Mem} : pj_Ends 38 (10, L, st, M) o9 = pj_Ends 38 (11, L, .int 0 :: st, M) o9 := pj_xs (s38_10)
theorem q38_11 : pj_row 38 11 = some (.istore_n 3, 1, 0, 0, 0) := by decide +kernel
theorem s38_11 {st : List Value} {M : pj_Mem} {l : pj_Loc} {a0 a1 a2 a3 : Option Value} {x : Int32} (h : pj_long a2 = false) : pj_step 38 (11, a0 :: a1 :: a2 :: a3 :: l, .int x :: st, M) = some (12, a0 :: a1 :: a2 :: some (.int x) :: l, st, M) := st_istore_n q38_11 (pj_st_3 h)
theorem x38_11 {st : List Value} {M : pj_Mem} {l : pj_Loc} {a0 a1 a2 a3 : Option Value} {x : Int32} (h : pj_long a2 = false) {o9 : Option Value × pj_Mem} : pj_Ends 38 (11, a0 :: a1 :: a2 :: a3 :: l, .int x :: st, M) o9 = pj_Ends 38 (12, a0 :: a1 :: a2 :: some (.int x) :: l, st, M) o9 := pj_xs (s38_11 h)
theorem q38_12 : pj_row 38 12 = some (.iload_n 3, 1, 0, 0, 0) := by decide +kernel
theorem s38_12 {st : List Value} {M : pj_Mem} {l : pj_Loc} {a0 a1 a2 : Option Value} {x : Int32} : pj_step 38 (12, a0 :: a1 :: a2 :: some (.int x) :: l, st, M) = some (13, a0 :: a1 :: a2 :: some (.int x) :: l, .int x :: st, M) := st_iload_n q38_12 rfl
theorem x38_12 {st : List Value} {M : pj_Mem} {l : pj_Loc} {a0 a1 a2 : Option Value} {x : Int32} {o9 : Option Value × pj_Mem} : pj_Ends 38 (12, a0 :: a1 :: a2 :: some (.int x) :: l, st, M) o9 = pj_Ends 38 (13, a0 :: a1 :: a2 :: some (.int x) :: l, .int x :: st, M) o9 := pj_xs (s38_12)
theorem q38_13 : pj_row 38 13 = some (.iconst 3, 1, 0, 0, 0) := by decide +kernel
theorem s38_13 {L : pj_Loc} {st : List Value} {M : pj_Mem}  : pj_step 38 (13, L, st, M) = some (14, L, .int 3 :: st, M) := st_iconst q38_13 (by decide +kernel)
theorem x38_13 {L : pj_Loc} {st : List Value} {M : pj_Mem}  {o9 : Option Value × pj_Mem} : pj_Ends 38 (13, L, st, M) o9 = pj_Ends 38 (14, L, .int 3 :: st, M) o9 := pj_xs (s38_13)
theorem q38_14 : pj_row 38 14 = some (.if_icmp .ge 28, 3, 42, 0, 0) := by decide +kernel
theorem s38_14 {L : pj_Loc} {st : List Value} {M : pj_Mem} {x y : Int32} : pj_step 38 (14, L, .int y :: .int x :: st, M) = some (if y ≤ x then 42 else 17, L, st, M) := st_icmp_ge q38_14
theorem x38_14 {L : pj_Loc} {st : List Value} {M : pj_Mem} {x y : Int32} {o9 : Option Value × pj_Mem} : pj_Ends 38 (14, L, .int y :: .int x :: st, M) o9 = pj_Ends 38 (if y ≤ x then 42 else 17, L, st, M) o9 := pj_xs (s38_14)
theorem q38_17 : pj_row 38 17 = some (.aload_n 0, 1, 0, 0, 0) := by decide +kernel
theorem s38_17 {st : List Value} {M : pj_Mem} {l : pj_Loc} {x : Nat} : pj_step 38 (17, some (.ref x) :: l, st, M) = some (18, some (.ref x) :: l, .ref x :: st, M) := st_aload_n q38_17 rfl
theorem x38_17 {st : List Value} {M : pj_Mem} {l : pj_Loc} {x : Nat} {o9 : Option Value × pj_Mem} : pj_Ends 38 (17, some (.ref x) :: l, st, M) o9 = pj_Ends 38 (18, some (.ref x) :: l, .ref x :: st, M) o9 := pj_xs (s38_17)
theorem q38_18 : pj_row 38 18 = some (.getfield 9, 3, 2, 0, 0) := by decide +kernel
theorem s38_18 {L : pj_Loc} {st : List Value} {N S : Nat} {H : pj_Heap} {o : Nat} : pj_step 38 (18, L, .ref o :: st, (N, S, H)) = pj_pv 21 L st (N, S, H) (pj_fld (H o) 2 0) := st_getfield q38_18
theorem x38_18 {L : pj_Loc} {st : List Value} {N S : Nat} {H : pj_Heap} {o : Nat} {o9 : Option Value × pj_Mem} : pj_Ends 38 (18, L, .ref o :: st, (N, S, H)) o9 = pj_then 38 o9 (pj_pv 21 L st (N, S, H) (pj_fld (H o) 2 0)) := pj_xt q38_18 rfl (pj_cl_nc rfl) (s38_18)
theorem q38_21 : pj_row 38 21 = some (.iload_n 2, 1, 0, 0, 0) := by decide +kernel
theorem s38_21 {st : List Value} {M : pj_Mem} {l : pj_Loc} {a0 a1 : Option Value} {x : Int32} : pj_step 38 (21, a0 :: a1 :: some (.int x) :: l, st, M) = some (22, a0 :: a1 :: some (.int x) :: l, .int x :: st, M) := st_iload_n q38_21 rfl
theorem x38_21 {st : List Value} {M : pj_Mem} {l : pj_Loc} {a0 a1 : Option Value} {x : Int32} {o9 : Option Value × pj_Mem} : pj_Ends 38 (21, a0 :: a1 :: some (.int x) :: l, st, M) o9 = pj_Ends 38 (22, a0 :: a1 :: some (.int x) :: l, .int x :: st, M) o9 := pj_xs (s38_21)
theorem q38_22 : pj_row 38 22 = some (.iconst 1, 1, 0, 0, 0) := by decide +kernel
theorem s38_22 {L : pj_Loc} {st : List Value} {M : pj_Mem}  : pj_step 38 (22, L, st, M) = some (23, L, .int 1 :: st, M) := st_iconst q38_22 (by decide +kernel)
theorem x38_22 {L : pj_Loc} {st : List Value} {M : pj_Mem}  {o9 : Option Value × pj_Mem} : pj_Ends 38 (22, L, st, M) o9 = pj_Ends 38 (23, L, .int 1 :: st, M) o9 := pj_xs (s38_22)
theorem q38_23 : pj_row 38 23 = some (.iadd, 1, 0, 0, 0) := by decide +kernel
theorem s38_23 {L : pj_Loc} {st : List Value} {M : pj_Mem} {x y : Int32} : pj_step 38 (23, L, .int y :: .int x :: st, M) = some (24, L, .int (x + y) :: st, M) := st_iadd q38_23
theorem x38_23 {L : pj_Loc} {st : List Value} {M : pj_Mem} {x y : Int32} {o9 : Option Value × pj_Mem} : pj_Ends 38 (23, L, .int y :: .int x :: st, M) o9 = pj_Ends 38 (24, L, .int (x + y) :: st, M) o9 := pj_xs (s38_23)
theorem q38_24 : pj_row 38 24 = some (.iload_n 3, 1, 0, 0, 0) := by decide +kernel
theorem s38_24 {st : List Value} {M : pj_Mem} {l : pj_Loc} {a0 a1 a2 : Option Value} {x : Int32} : pj_step 38 (24, a0 :: a1 :: a2 :: some (.int x) :: l, st, M) = some (25, a0 :: a1 :: a2 :: some (.int x) :: l, .int x :: st, M) := st_iload_n q38_24 rfl
theorem x38_24 {st : List Value} {M : pj_Mem} {l : pj_Loc} {a0 a1 a2 : Option Value} {x : Int32} {o9 : Option Value × pj_Mem} : pj_Ends 38 (24, a0 :: a1 :: a2 :: some (.int x) :: l, st, M) o9 = pj_Ends 38 (25, a0 :: a1 :: a2 :: some (.int x) :: l, .int x :: st, M) o9 := pj_xs (s38_24)
theorem q38_25 : pj_row 38 25 = some (.iadd, 1, 0, 0, 0) := by decide +kernel
theorem s38_25 {L : pj_Loc} {st : List Value} {M : pj_Mem} {x y : Int32} : pj_step 38 (25, L, .int y :: .int x :: st, M) = some (26, L, .int (x + y) :: st, M) := st_iadd q38_25
theorem x38_25 {L : pj_Loc} {st : List Value} {M : pj_Mem} {x y : Int32} {o9 : Option Value × pj_Mem} : pj_Ends 38 (25, L, .int y :: .int x :: st, M) o9 = pj_Ends 38 (26, L, .int (x + y) :: st, M) o9 := pj_xs (s38_25)
theorem q38_26 : pj_row 38 26 = some (.aload_n 1, 1, 0, 0, 0) := by decide +kernel
theorem s38_26 {st : List Value} {M : pj_Mem} {l : pj_Loc} {a0 : Option Value} {x : Nat} : pj_step 38 (26, a0 :: some (.ref x) :: l, st, M) = some (27, a0 :: some (.ref x) :: l, .ref x :: st, M) := st_aload_n q38_26 rfl
theorem x38_26 {st : List Value} {M : pj_Mem} {l : pj_Loc} {a0 : Option Value} {x : Nat} {o9 : Option Value × pj_Mem} : pj_Ends 38 (26, a0 :: some (.ref x) :: l, st, M) o9 = pj_Ends 38 (27, a0 :: some (.ref x) :: l, .ref x :: st, M) o9 := pj_xs (s38_26)
theorem q38_27 : pj_row 38 27 = some (.getfield 47, 3, 3, 0, 0) := by decide +kernel
theorem s38_27 {L : pj_Loc} {st : List Value} {N S : Nat} {H : pj_Heap} {o : Nat} : pj_step 38 (27, L, .ref o :: st, (N, S, H)) = pj_pv 30 L st (N, S, H) (pj_fld (H o) 3 0) := st_getfield q38_27
theorem x38_27 {L : pj_Loc} {st : List Value} {N S : Nat} {H : pj_Heap} {o : Nat} {o9 : Option Value × pj_Mem} : pj_Ends 38 (27, L, .ref o :: st, (N, S, H)) o9 = pj_then 38 o9 (pj_pv 30 L st (N, S, H) (pj_fld (H o) 3 0)) := pj_xt q38_27 rfl (pj_cl_nc rfl) (s38_27)
theorem q38_30 : pj_row 38 30 = some (.iload_n 3, 1, 0, 0, 0) := by decide +kernel
theorem s38_30 {st : List Value} {M : pj_Mem} {l : pj_Loc} {a0 a1 a2 : Option Value} {x : Int32} : pj_step 38 (30, a0 :: a1 :: a2 :: some (.int x) :: l, st, M) = some (31, a0 :: a1 :: a2 :: some (.int x) :: l, .int x :: st, M) := st_iload_n q38_30 rfl
theorem x38_30 {st : List Value} {M : pj_Mem} {l : pj_Loc} {a0 a1 a2 : Option Value} {x : Int32} {o9 : Option Value × pj_Mem} : pj_Ends 38 (30, a0 :: a1 :: a2 :: some (.int x) :: l, st, M) o9 = pj_Ends 38 (31, a0 :: a1 :: a2 :: some (.int x) :: l, .int x :: st, M) o9 := pj_xs (s38_30)
theorem q38_31 : pj_row 38 31 = some (.iaload, 1, 0, 0, 0) := by decide +kernel
theorem s38_31 {L : pj_Loc} {st : List Value} {N S : Nat} {H : pj_Heap} {o : Nat} {i : Int32} : pj_step 38 (31, L, .int i :: .ref o :: st, (N, S, H)) = pj_pi 32 L st (N, S, H) (pj_arl (H o) 0 i) := st_iaload q38_31
theorem x38_31 {L : pj_Loc} {st : List Value} {N S : Nat} {H : pj_Heap} {o : Nat} {i : Int32} {o9 : Option Value × pj_Mem} : pj_Ends 38 (31, L, .int i :: .ref o :: st, (N, S, H)) o9 = pj_then 38 o9 (pj_pi 32 L st (N, S, H) (pj_arl (H o) 0 i)) := pj_xt q38_31 rfl (pj_cl_nc rfl) (s38_31)
theorem q38_32 : pj_row 38 32 = some (.ldc 50, 2, 0, 0, 100000) := by decide +kernel
theorem s38_32 {L : pj_Loc} {st : List Value} {M : pj_Mem}  : pj_step 38 (32, L, st, M) = some (34, L, .int 100000 :: st, M) := st_ldc q38_32 (by decide +kernel)
theorem x38_32 {L : pj_Loc} {st : List Value} {M : pj_Mem}  {o9 : Option Value × pj_Mem} : pj_Ends 38 (32, L, st, M) o9 = pj_Ends 38 (34, L, .int 100000 :: st, M) o9 := pj_xs (s38_32)
theorem q38_34 : pj_row 38 34 = some (.iadd, 1, 0, 0, 0) := by decide +kernel
theorem s38_34 {L : pj_Loc} {st : List Value} {M : pj_Mem} {x y : Int32} : pj_step 38 (34, L, .int y :: .int x :: st, M) = some (35, L, .int (x + y) :: st, M) := st_iadd q38_34
theorem x38_34 {L : pj_Loc} {st : List Value} {M : pj_Mem} {x y : Int32} {o9 : Option Value × pj_Mem} : pj_Ends 38 (34, L, .int y :: .int x :: st, M) o9 = pj_Ends 38 (35, L, .int (x + y) :: st, M) o9 := pj_xs (s38_34)
theorem q38_35 : pj_row 38 35 = some (.iastore, 1, 0, 0, 0) := by decide +kernel
theorem s38_35 {L : pj_Loc} {st : List Value} {N S : Nat} {H : pj_Heap} {o : Nat} {i x : Int32} : pj_step 38 (35, L, .int x :: .int i :: .ref o :: st, (N, S, H)) = pj_set 36 L st (N, S, H) o (pj_ars (H o) 0 i x) := st_iastore q38_35
theorem x38_35 {L : pj_Loc} {st : List Value} {N S : Nat} {H : pj_Heap} {o : Nat} {i x : Int32} {o9 : Option Value × pj_Mem} : pj_Ends 38 (35, L, .int x :: .int i :: .ref o :: st, (N, S, H)) o9 = pj_then 38 o9 (pj_set 36 L st (N, S, H) o (pj_ars (H o) 0 i x)) := pj_xt q38_35 rfl (pj_cl_nc rfl) (s38_35)
theorem q38_36 : pj_row 38 36 = some (.iinc 3 1, 3, 0, 0, 0) := by decide +kernel
theorem s38_36 {st : List Value} {M : pj_Mem} {l : pj_Loc} {a0 a1 a2 : Option Value} {x : Int32} (h : pj_long a2 = false) : pj_step 38 (36, a0 :: a1 :: a2 :: some (.int x) :: l, st, M) = some (39, a0 :: a1 :: a2 :: some (.int (x + 1)) :: l, st, M) := st_iinc q38_36 rfl (congrArg (fun y => x + y) (show Int32.ofInt 1 = 1 by decide +kernel)) (pj_st_3 h)
theorem x38_36 {st : List Value} {M : pj_Mem} {l : pj_Loc} {a0 a1 a2 : Option Value} {x : Int32} (h : pj_long a2 = false) {o9 : Option Value × pj_Mem} : pj_Ends 38 (36, a0 :: a1 :: a2 :: some (.int x) :: l, st, M) o9 = pj_Ends 38 (39, a0 :: a1 :: a2 :: some (.int (x + 1)) :: l, st, M) o9 := pj_xs (s38_36 h)
theorem q38_39 : pj_row 38 39 = some (.goto (-27), 3, 12, 0, 0) := by decide +kernel
theorem s38_39 {L : pj_Loc} {st : List Value} {M : pj_Mem}  : pj_step 38 (39, L, st, M) = some (12, L, st, M) := st_goto q38_39
theorem x38_39 {L : pj_Loc} {st : List Value} {M : pj_Mem}  {o9 : Option Value × pj_Mem} : pj_Ends 38 (39, L, st, M) o9 = pj_Ends 38 (12, L, st, M) o9 := pj_xs (s38_39)
theorem q38_42 : pj_row 38 42 = some (.aload_n 0, 1, 0, 0, 0) := by decide +kernel
theorem s38_42 {st : List Value} {M : pj_Mem} {l : pj_Loc} {x : Nat} : pj_step 38 (42, some (.ref x) :: l, st, M) = some (43, some (.ref x) :: l, .ref x :: st, M) := st_aload_n q38_42 rfl
theorem x38_42 {st : List Value} {M : pj_Mem} {l : pj_Loc} {x : Nat} {o9 : Option Value × pj_Mem} : pj_Ends 38 (42, some (.ref x) :: l, st, M) o9 = pj_Ends 38 (43, some (.ref x) :: l, .ref x :: st, M) o9 := pj_xs (s38_42)
theorem q38_43 : pj_row 38 43 = some (.getfield 9, 3, 2, 0, 0) := by decide +kernel
theorem s38_43 {L : pj_Loc} {st : List Value} {N S : Nat} {H : pj_Heap} {o : Nat} : pj_step 38 (43, L, .ref o :: st, (N, S, H)) = pj_pv 46 L st (N, S, H) (pj_fld (H o) 2 0) := st_getfield q38_43
theorem x38_43 {L : pj_Loc} {st : List Value} {N S : Nat} {H : pj_Heap} {o : Nat} {o9 : Option Value × pj_Mem} : pj_Ends 38 (43, L, .ref o :: st, (N, S, H)) o9 = pj_then 38 o9 (pj_pv 46 L st (N, S, H) (pj_fld (H o) 2 0)) := pj_xt q38_43 rfl (pj_cl_nc rfl) (s38_43)
theorem q38_46 : pj_row 38 46 = some (.iload_n 2, 1, 0, 0, 0) := by decide +kernel
theorem s38_46 {st : List Value} {M : pj_Mem} {l : pj_Loc} {a0 a1 : Option Value} {x : Int32} : pj_step 38 (46, a0 :: a1 :: some (.int x) :: l, st, M) = some (47, a0 :: a1 :: some (.int x) :: l, .int x :: st, M) := st_iload_n q38_46 rfl
theorem x38_46 {st : List Value} {M : pj_Mem} {l : pj_Loc} {a0 a1 : Option Value} {x : Int32} {o9 : Option Value × pj_Mem} : pj_Ends 38 (46, a0 :: a1 :: some (.int x) :: l, st, M) o9 = pj_Ends 38 (47, a0 :: a1 :: some (.int x) :: l, .int x :: st, M) o9 := pj_xs (s38_46)
theorem q38_47 : pj_row 38 47 = some (.iconst 4, 1, 0, 0, 0) := by decide +kernel
theorem s38_47 {L : pj_Loc} {st : List Value} {M : pj_Mem}  : pj_step 38 (47, L, st, M) = some (48, L, .int 4 :: st, M) := st_iconst q38_47 (by decide +kernel)
theorem x38_47 {L : pj_Loc} {st : List Value} {M : pj_Mem}  {o9 : Option Value × pj_Mem} : pj_Ends 38 (47, L, st, M) o9 = pj_Ends 38 (48, L, .int 4 :: st, M) o9 := pj_xs (s38_47)
theorem q38_48 : pj_row 38 48 = some (.iadd, 1, 0, 0, 0) := by decide +kernel
theorem s38_48 {L : pj_Loc} {st : List Value} {M : pj_Mem} {x y : Int32} : pj_step 38 (48, L, .int y :: .int x :: st, M) = some (49, L, .int (x + y) :: st, M) := st_iadd q38_48
theorem x38_48 {L : pj_Loc} {st : List Value} {M : pj_Mem} {x y : Int32} {o9 : Option Value × pj_Mem} : pj_Ends 38 (48, L, .int y :: .int x :: st, M) o9 = pj_Ends 38 (49, L, .int (x + y) :: st, M) o9 := pj_xs (s38_48)
theorem q38_49 : pj_row 38 49 = some (.aload_n 1, 1, 0, 0, 0) := by decide +kernel
theorem s38_49 {st : List Value} {M : pj_Mem} {l : pj_Loc} {a0 : Option Value} {x : Nat} : pj_step 38 (49, a0 :: some (.ref x) :: l, st, M) = some (50, a0 :: some (.ref x) :: l, .ref x :: st, M) := st_aload_n q38_49 rfl
theorem x38_49 {st : List Value} {M : pj_Mem} {l : pj_Loc} {a0 : Option Value} {x : Nat} {o9 : Option Value × pj_Mem} : pj_Ends 38 (49, a0 :: some (.ref x) :: l, st, M) o9 = pj_Ends 38 (50, a0 :: some (.ref x) :: l, .ref x :: st, M) o9 := pj_xs (s38_49)
theorem q38_50 : pj_row 38 50 = some (.getfield 51, 3, 3, 6, 0) := by decide +kernel
theorem s38_50 {L : pj_Loc} {st : List Value} {N S : Nat} {H : pj_Heap} {o : Nat} : pj_step 38 (50, L, .ref o :: st, (N, S, H)) = pj_pv 53 L st (N, S, H) (pj_fld (H o) 3 6) := st_getfield q38_50
theorem x38_50 {L : pj_Loc} {st : List Value} {N S : Nat} {H : pj_Heap} {o : Nat} {o9 : Option Value × pj_Mem} : pj_Ends 38 (50, L, .ref o :: st, (N, S, H)) o9 = pj_then 38 o9 (pj_pv 53 L st (N, S, H) (pj_fld (H o) 3 6)) := pj_xt q38_50 rfl (pj_cl_nc rfl) (s38_50)
theorem q38_53 : pj_row 38 53 = some (.invokestatic 55, 3, 9, 1, 1) := by decide +kernel
theorem e38_53 {L : pj_Loc} {st : List Value} {N S : Nat} {H : pj_Heap} {o : Option Value × pj_Mem} {M' : pj_Mem} {x0 : Int32} {r : Int32} (h4 : pj_le4 st = true) (h1 : pj_Ends 9 (0, [some (.int x0)], [], (N, S, H)) (some (.int r), M')) (h2 : pj_Ends 38 (56, L, .int r :: st, M') o) : pj_Ends 38 (53, L, .int x0 :: st, (N, S, H)) o := ec_s1 q38_53 (Or.inr rfl) h4 rfl h1 h2
theorem q38_56 : pj_row 38 56 = some (.iastore, 1, 0, 0, 0) := by decide +kernel
theorem s38_56 {L : pj_Loc} {st : List Value} {N S : Nat} {H : pj_Heap} {o : Nat} {i x : Int32} : pj_step 38 (56, L, .int x :: .int i :: .ref o :: st, (N, S, H)) = pj_set 57 L st (N, S, H) o (pj_ars (H o) 0 i x) := st_iastore q38_56
theorem x38_56 {L : pj_Loc} {st : List Value} {N S : Nat} {H : pj_Heap} {o : Nat} {i x : Int32} {o9 : Option Value × pj_Mem} : pj_Ends 38 (56, L, .int x :: .int i :: .ref o :: st, (N, S, H)) o9 = pj_then 38 o9 (pj_set 57 L st (N, S, H) o (pj_ars (H o) 0 i x)) := pj_xt q38_56 rfl (pj_cl_nc rfl) (s38_56)
theorem q38_57 : pj_row 38 57 = some (.aload_n 0, 1, 0, 0, 0) := by decide +kernel
theorem s38_57 {st : List Value} {M : pj_Mem} {l : pj_Loc} {x : Nat} : pj_step 38 (57, some (.ref x) :: l, st, M) = some (58, some (.ref x) :: l, .ref x :: st, M) := st_aload_n q38_57 rfl
theorem x38_57 {st : List Value} {M : pj_Mem} {l : pj_Loc} {x : Nat} {o9 : Option Value × pj_Mem} : pj_Ends 38 (57, some (.ref x) :: l, st, M) o9 = pj_Ends 38 (58, some (.ref x) :: l, .ref x :: st, M) o9 := pj_xs (s38_57)
theorem q38_58 : pj_row 38 58 = some (.getfield 9, 3, 2, 0, 0) := by decide +kernel
theorem s38_58 {L : pj_Loc} {st : List Value} {N S : Nat} {H : pj_Heap} {o : Nat} : pj_step 38 (58, L, .ref o :: st, (N, S, H)) = pj_pv 61 L st (N, S, H) (pj_fld (H o) 2 0) := st_getfield q38_58
theorem x38_58 {L : pj_Loc} {st : List Value} {N S : Nat} {H : pj_Heap} {o : Nat} {o9 : Option Value × pj_Mem} : pj_Ends 38 (58, L, .ref o :: st, (N, S, H)) o9 = pj_then 38 o9 (pj_pv 61 L st (N, S, H) (pj_fld (H o) 2 0)) := pj_xt q38_58 rfl (pj_cl_nc rfl) (s38_58)
theorem q38_61 : pj_row 38 61 = some (.iload_n 2, 1, 0, 0, 0) := by decide +kernel
theorem s38_61 {st : List Value} {M : pj_Mem} {l : pj_Loc} {a0 a1 : Option Value} {x : Int32} : pj_step 38 (61, a0 :: a1 :: some (.int x) :: l, st, M) = some (62, a0 :: a1 :: some (.int x) :: l, .int x :: st, M) := st_iload_n q38_61 rfl
theorem x38_61 {st : List Value} {M : pj_Mem} {l : pj_Loc} {a0 a1 : Option Value} {x : Int32} {o9 : Option Value × pj_Mem} : pj_Ends 38 (61, a0 :: a1 :: some (.int x) :: l, st, M) o9 = pj_Ends 38 (62, a0 :: a1 :: some (.int x) :: l, .int x :: st, M) o9 := pj_xs (s38_61)
theorem q38_62 : pj_row 38 62 = some (.iconst 5, 1, 0, 0, 0) := by decide +kernel
theorem s38_62 {L : pj_Loc} {st : List Value} {M : pj_Mem}  : pj_step 38 (62, L, st, M) = some (63, L, .int 5 :: st, M) := st_iconst q38_62 (by decide +kernel)
theorem x38_62 {L : pj_Loc} {st : List Value} {M : pj_Mem}  {o9 : Option Value × pj_Mem} : pj_Ends 38 (62, L, st, M) o9 = pj_Ends 38 (63, L, .int 5 :: st, M) o9 := pj_xs (s38_62)
theorem q38_63 : pj_row 38 63 = some (.iadd, 1, 0, 0, 0) := by decide +kernel
theorem s38_63 {L : pj_Loc} {st : List Value} {M : pj_Mem} {x y : Int32} : pj_step 38 (63, L, .int y :: .int x :: st, M) = some (64, L, .int (x + y) :: st, M) := st_iadd q38_63
theorem x38_63 {L : pj_Loc} {st : List Value} {M : pj_Mem} {x y : Int32} {o9 : Option Value × pj_Mem} : pj_Ends 38 (63, L, .int y :: .int x :: st, M) o9 = pj_Ends 38 (64, L, .int (x + y) :: st, M) o9 := pj_xs (s38_63)
theorem q38_64 : pj_row 38 64 = some (.aload_n 1, 1, 0, 0, 0) := by decide +kernel
theorem s38_64 {st : List Value} {M : pj_Mem} {l : pj_Loc} {a0 : Option Value} {x : Nat} : pj_step 38 (64, a0 :: some (.ref x) :: l, st, M) = some (65, a0 :: some (.ref x) :: l, .ref x :: st, M) := st_aload_n q38_64 rfl
theorem x38_64 {st : List Value} {M : pj_Mem} {l : pj_Loc} {a0 : Option Value} {x : Nat} {o9 : Option Value × pj_Mem} : pj_Ends 38 (64, a0 :: some (.ref x) :: l, st, M) o9 = pj_Ends 38 (65, a0 :: some (.ref x) :: l, .ref x :: st, M) o9 := pj_xs (s38_64)
theorem q38_65 : pj_row 38 65 = some (.getfield 59, 3, 3, 9, 0) := by decide +kernel
theorem s38_65 {L : pj_Loc} {st : List Value} {N S : Nat} {H : pj_Heap} {o : Nat} : pj_step 38 (65, L, .ref o :: st, (N, S, H)) = pj_pv 68 L st (N, S, H) (pj_fld (H o) 3 9) := st_getfield q38_65
theorem x38_65 {L : pj_Loc} {st : List Value} {N S : Nat} {H : pj_Heap} {o : Nat} {o9 : Option Value × pj_Mem} : pj_Ends 38 (65, L, .ref o :: st, (N, S, H)) o9 = pj_then 38 o9 (pj_pv 68 L st (N, S, H) (pj_fld (H o) 3 9)) := pj_xt q38_65 rfl (pj_cl_nc rfl) (s38_65)
theorem q38_68 : pj_row 38 68 = some (.ldc 50, 2, 0, 0, 100000) := by decide +kernel
theorem s38_68 {L : pj_Loc} {st : List Value} {M : pj_Mem}  : pj_step 38 (68, L, st, M) = some (70, L, .int 100000 :: st, M) := st_ldc q38_68 (by decide +kernel)
theorem x38_68 {L : pj_Loc} {st : List Value} {M : pj_Mem}  {o9 : Option Value × pj_Mem} : pj_Ends 38 (68, L, st, M) o9 = pj_Ends 38 (70, L, .int 100000 :: st, M) o9 := pj_xs (s38_68)
theorem q38_70 : pj_row 38 70 = some (.iadd, 1, 0, 0, 0) := by decide +kernel
theorem s38_70 {L : pj_Loc} {st : List Value} {M : pj_Mem} {x y : Int32} : pj_step 38 (70, L, .int y :: .int x :: st, M) = some (71, L, .int (x + y) :: st, M) := st_iadd q38_70
theorem x38_70 {L : pj_Loc} {st : List Value} {M : pj_Mem} {x y : Int32} {o9 : Option Value × pj_Mem} : pj_Ends 38 (70, L, .int y :: .int x :: st, M) o9 = pj_Ends 38 (71, L, .int (x + y) :: st, M) o9 := pj_xs (s38_70)
theorem q38_71 : pj_row 38 71 = some (.iastore, 1, 0, 0, 0) := by decide +kernel
theorem s38_71 {L : pj_Loc} {st : List Value} {N S : Nat} {H : pj_Heap} {o : Nat} {i x : Int32} : pj_step 38 (71, L, .int x :: .int i :: .ref o :: st, (N, S, H)) = pj_set 72 L st (N, S, H) o (pj_ars (H o) 0 i x) := st_iastore q38_71
theorem x38_71 {L : pj_Loc} {st : List Value} {N S : Nat} {H : pj_Heap} {o : Nat} {i x : Int32} {o9 : Option Value × pj_Mem} : pj_Ends 38 (71, L, .int x :: .int i :: .ref o :: st, (N, S, H)) o9 = pj_then 38 o9 (pj_set 72 L st (N, S, H) o (pj_ars (H o) 0 i x)) := pj_xt q38_71 rfl (pj_cl_nc rfl) (s38_71)
theorem q38_72 : pj_row 38 72 = some (.aload_n 0, 1, 0, 0, 0) := by decide +kernel
theorem s38_72 {st : List Value} {M : pj_Mem} {l : pj_Loc} {x : Nat} : pj_step 38 (72, some (.ref x) :: l, st, M) = some (73, some (.ref x) :: l, .ref x :: st, M) := st_aload_n q38_72 rfl
theorem x38_72 {st : List Value} {M : pj_Mem} {l : pj_Loc} {x : Nat} {o9 : Option Value × pj_Mem} : pj_Ends 38 (72, some (.ref x) :: l, st, M) o9 = pj_Ends 38 (73, some (.ref x) :: l, .ref x :: st, M) o9 := pj_xs (s38_72)
theorem q38_73 : pj_row 38 73 = some (.getfield 9, 3, 2, 0, 0) := by decide +kernel
theorem s38_73 {L : pj_Loc} {st : List Value} {N S : Nat} {H : pj_Heap} {o : Nat} : pj_step 38 (73, L, .ref o :: st, (N, S, H)) = pj_pv 76 L st (N, S, H) (pj_fld (H o) 2 0) := st_getfield q38_73
theorem x38_73 {L : pj_Loc} {st : List Value} {N S : Nat} {H : pj_Heap} {o : Nat} {o9 : Option Value × pj_Mem} : pj_Ends 38 (73, L, .ref o :: st, (N, S, H)) o9 = pj_then 38 o9 (pj_pv 76 L st (N, S, H) (pj_fld (H o) 2 0)) := pj_xt q38_73 rfl (pj_cl_nc rfl) (s38_73)
theorem q38_76 : pj_row 38 76 = some (.iload_n 2, 1, 0, 0, 0) := by decide +kernel
theorem s38_76 {st : List Value} {M : pj_Mem} {l : pj_Loc} {a0 a1 : Option Value} {x : Int32} : pj_step 38 (76, a0 :: a1 :: some (.int x) :: l, st, M) = some (77, a0 :: a1 :: some (.int x) :: l, .int x :: st, M) := st_iload_n q38_76 rfl
theorem x38_76 {st : List Value} {M : pj_Mem} {l : pj_Loc} {a0 a1 : Option Value} {x : Int32} {o9 : Option Value × pj_Mem} : pj_Ends 38 (76, a0 :: a1 :: some (.int x) :: l, st, M) o9 = pj_Ends 38 (77, a0 :: a1 :: some (.int x) :: l, .int x :: st, M) o9 := pj_xs (s38_76)
theorem q38_77 : pj_row 38 77 = some (.bipush 6, 2, 0, 0, 0) := by decide +kernel
theorem s38_77 {L : pj_Loc} {st : List Value} {M : pj_Mem}  : pj_step 38 (77, L, st, M) = some (79, L, .int 6 :: st, M) := st_bipush q38_77 (by decide +kernel)
theorem x38_77 {L : pj_Loc} {st : List Value} {M : pj_Mem}  {o9 : Option Value × pj_Mem} : pj_Ends 38 (77, L, st, M) o9 = pj_Ends 38 (79, L, .int 6 :: st, M) o9 := pj_xs (s38_77)
theorem q38_79 : pj_row 38 79 = some (.iadd, 1, 0, 0, 0) := by decide +kernel
theorem s38_79 {L : pj_Loc} {st : List Value} {M : pj_Mem} {x y : Int32} : pj_step 38 (79, L, .int y :: .int x :: st, M) = some (80, L, .int (x + y) :: st, M) := st_iadd q38_79
theorem x38_79 {L : pj_Loc} {st : List Value} {M : pj_Mem} {x y : Int32} {o9 : Option Value × pj_Mem} : pj_Ends 38 (79, L, .int y :: .int x :: st, M) o9 = pj_Ends 38 (80, L, .int (x + y) :: st, M) o9 := pj_xs (s38_79)
theorem q38_80 : pj_row 38 80 = some (.aload_n 1, 1, 0, 0, 0) := by decide +kernel
theorem s38_80 {st : List Value} {M : pj_Mem} {l : pj_Loc} {a0 : Option Value} {x : Nat} : pj_step 38 (80, a0 :: some (.ref x) :: l, st, M) = some (81, a0 :: some (.ref x) :: l, .ref x :: st, M) := st_aload_n q38_80 rfl
theorem x38_80 {st : List Value} {M : pj_Mem} {l : pj_Loc} {a0 : Option Value} {x : Nat} {o9 : Option Value × pj_Mem} : pj_Ends 38 (80, a0 :: some (.ref x) :: l, st, M) o9 = pj_Ends 38 (81, a0 :: some (.ref x) :: l, .ref x :: st, M) o9 := pj_xs (s38_80)
theorem q38_81 : pj_row 38 81 = some (.getfield 62, 3, 3, 11, 0) := by decide +kernel
theorem s38_81 {L : pj_Loc} {st : List Value} {N S : Nat} {H : pj_Heap} {o : Nat} : pj_step 38 (81, L, .ref o :: st, (N, S, H)) = pj_pv 84 L st (N, S, H) (pj_fld (H o) 3 11) := st_getfield q38_81
theorem x38_81 {L : pj_Loc} {st : List Value} {N S : Nat} {H : pj_Heap} {o : Nat} {o9 : Option Value × pj_Mem} : pj_Ends 38 (81, L, .ref o :: st, (N, S, H)) o9 = pj_then 38 o9 (pj_pv 84 L st (N, S, H) (pj_fld (H o) 3 11)) := pj_xt q38_81 rfl (pj_cl_nc rfl) (s38_81)
theorem q38_84 : pj_row 38 84 = some (.iastore, 1, 0, 0, 0) := by decide +kernel
theorem s38_84 {L : pj_Loc} {st : List Value} {N S : Nat} {H : pj_Heap} {o : Nat} {i x : Int32} : pj_step 38 (84, L, .int x :: .int i :: .ref o :: st, (N, S, H)) = pj_set 85 L st (N, S, H) o (pj_ars (H o) 0 i x) := st_iastore q38_84
theorem x38_84 {L : pj_Loc} {st : List Value} {N S : Nat} {H : pj_Heap} {o : Nat} {i x : Int32} {o9 : Option Value × pj_Mem} : pj_Ends 38 (84, L, .int x :: .int i :: .ref o :: st, (N, S, H)) o9 = pj_then 38 o9 (pj_set 85 L st (N, S, H) o (pj_ars (H o) 0 i x)) := pj_xt q38_84 rfl (pj_cl_nc rfl) (s38_84)
theorem q38_85 : pj_row 38 85 = some (.aload_n 0, 1, 0, 0, 0) := by decide +kernel
theorem s38_85 {st : List Value} {M : pj_Mem} {l : pj_Loc} {x : Nat} : pj_step 38 (85, some (.ref x) :: l, st, M) = some (86, some (.ref x) :: l, .ref x :: st, M) := st_aload_n q38_85 rfl
theorem x38_85 {st : List Value} {M : pj_Mem} {l : pj_Loc} {x : Nat} {o9 : Option Value × pj_Mem} : pj_Ends 38 (85, some (.ref x) :: l, st, M) o9 = pj_Ends 38 (86, some (.ref x) :: l, .ref x :: st, M) o9 := pj_xs (s38_85)
theorem q38_86 : pj_row 38 86 = some (.getfield 9, 3, 2, 0, 0) := by decide +kernel
theorem s38_86 {L : pj_Loc} {st : List Value} {N S : Nat} {H : pj_Heap} {o : Nat} : pj_step 38 (86, L, .ref o :: st, (N, S, H)) = pj_pv 89 L st (N, S, H) (pj_fld (H o) 2 0) := st_getfield q38_86
theorem x38_86 {L : pj_Loc} {st : List Value} {N S : Nat} {H : pj_Heap} {o : Nat} {o9 : Option Value × pj_Mem} : pj_Ends 38 (86, L, .ref o :: st, (N, S, H)) o9 = pj_then 38 o9 (pj_pv 89 L st (N, S, H) (pj_fld (H o) 2 0)) := pj_xt q38_86 rfl (pj_cl_nc rfl) (s38_86)
theorem q38_89 : pj_row 38 89 = some (.iload_n 2, 1, 0, 0, 0) := by decide +kernel
theorem s38_89 {st : List Value} {M : pj_Mem} {l : pj_Loc} {a0 a1 : Option Value} {x : Int32} : pj_step 38 (89, a0 :: a1 :: some (.int x) :: l, st, M) = some (90, a0 :: a1 :: some (.int x) :: l, .int x :: st, M) := st_iload_n q38_89 rfl
theorem x38_89 {st : List Value} {M : pj_Mem} {l : pj_Loc} {a0 a1 : Option Value} {x : Int32} {o9 : Option Value × pj_Mem} : pj_Ends 38 (89, a0 :: a1 :: some (.int x) :: l, st, M) o9 = pj_Ends 38 (90, a0 :: a1 :: some (.int x) :: l, .int x :: st, M) o9 := pj_xs (s38_89)
theorem q38_90 : pj_row 38 90 = some (.bipush 7, 2, 0, 0, 0) := by decide +kernel
theorem s38_90 {L : pj_Loc} {st : List Value} {M : pj_Mem}  : pj_step 38 (90, L, st, M) = some (92, L, .int 7 :: st, M) := st_bipush q38_90 (by decide +kernel)
theorem x38_90 {L : pj_Loc} {st : List Value} {M : pj_Mem}  {o9 : Option Value × pj_Mem} : pj_Ends 38 (90, L, st, M) o9 = pj_Ends 38 (92, L, .int 7 :: st, M) o9 := pj_xs (s38_90)
theorem q38_92 : pj_row 38 92 = some (.iadd, 1, 0, 0, 0) := by decide +kernel
theorem s38_92 {L : pj_Loc} {st : List Value} {M : pj_Mem} {x y : Int32} : pj_step 38 (92, L, .int y :: .int x :: st, M) = some (93, L, .int (x + y) :: st, M) := st_iadd q38_92
theorem x38_92 {L : pj_Loc} {st : List Value} {M : pj_Mem} {x y : Int32} {o9 : Option Value × pj_Mem} : pj_Ends 38 (92, L, .int y :: .int x :: st, M) o9 = pj_Ends 38 (93, L, .int (x + y) :: st, M) o9 := pj_xs (s38_92)
theorem q38_93 : pj_row 38 93 = some (.aload_n 1, 1, 0, 0, 0) := by decide +kernel
theorem s38_93 {st : List Value} {M : pj_Mem} {l : pj_Loc} {a0 : Option Value} {x : Nat} : pj_step 38 (93, a0 :: some (.ref x) :: l, st, M) = some (94, a0 :: some (.ref x) :: l, .ref x :: st, M) := st_aload_n q38_93 rfl
theorem x38_93 {st : List Value} {M : pj_Mem} {l : pj_Loc} {a0 : Option Value} {x : Nat} {o9 : Option Value × pj_Mem} : pj_Ends 38 (93, a0 :: some (.ref x) :: l, st, M) o9 = pj_Ends 38 (94, a0 :: some (.ref x) :: l, .ref x :: st, M) o9 := pj_xs (s38_93)
theorem q38_94 : pj_row 38 94 = some (.getfield 65, 3, 3, 12, 0) := by decide +kernel
theorem s38_94 {L : pj_Loc} {st : List Value} {N S : Nat} {H : pj_Heap} {o : Nat} : pj_step 38 (94, L, .ref o :: st, (N, S, H)) = pj_pv 97 L st (N, S, H) (pj_fld (H o) 3 12) := st_getfield q38_94
theorem x38_94 {L : pj_Loc} {st : List Value} {N S : Nat} {H : pj_Heap} {o : Nat} {o9 : Option Value × pj_Mem} : pj_Ends 38 (94, L, .ref o :: st, (N, S, H)) o9 = pj_then 38 o9 (pj_pv 97 L st (N, S, H) (pj_fld (H o) 3 12)) := pj_xt q38_94 rfl (pj_cl_nc rfl) (s38_94)
theorem q38_97 : pj_row 38 97 = some (.iastore, 1, 0, 0, 0) := by decide +kernel
theorem s38_97 {L : pj_Loc} {st : List Value} {N S : Nat} {H : pj_Heap} {o : Nat} {i x : Int32} : pj_step 38 (97, L, .int x :: .int i :: .ref o :: st, (N, S, H)) = pj_set 98 L st (N, S, H) o (pj_ars (H o) 0 i x) := st_iastore q38_97
theorem x38_97 {L : pj_Loc} {st : List Value} {N S : Nat} {H : pj_Heap} {o : Nat} {i x : Int32} {o9 : Option Value × pj_Mem} : pj_Ends 38 (97, L, .int x :: .int i :: .ref o :: st, (N, S, H)) o9 = pj_then 38 o9 (pj_set 98 L st (N, S, H) o (pj_ars (H o) 0 i x)) := pj_xt q38_97 rfl (pj_cl_nc rfl) (s38_97)
theorem q38_98 : pj_row 38 98 = some (.aload_n 0, 1, 0, 0, 0) := by decide +kernel
theorem s38_98 {st : List Value} {M : pj_Mem} {l : pj_Loc} {x : Nat} : pj_step 38 (98, some (.ref x) :: l, st, M) = some (99, some (.ref x) :: l, .ref x :: st, M) := st_aload_n q38_98 rfl
theorem x38_98 {st : List Value} {M : pj_Mem} {l : pj_Loc} {x : Nat} {o9 : Option Value × pj_Mem} : pj_Ends 38 (98, some (.ref x) :: l, st, M) o9 = pj_Ends 38 (99, some (.ref x) :: l, .ref x :: st, M) o9 := pj_xs (s38_98)
theorem q38_99 : pj_row 38 99 = some (.getfield 9, 3, 2, 0, 0) := by decide +kernel
theorem s38_99 {L : pj_Loc} {st : List Value} {N S : Nat} {H : pj_Heap} {o : Nat} : pj_step 38 (99, L, .ref o :: st, (N, S, H)) = pj_pv 102 L st (N, S, H) (pj_fld (H o) 2 0) := st_getfield q38_99
theorem x38_99 {L : pj_Loc} {st : List Value} {N S : Nat} {H : pj_Heap} {o : Nat} {o9 : Option Value × pj_Mem} : pj_Ends 38 (99, L, .ref o :: st, (N, S, H)) o9 = pj_then 38 o9 (pj_pv 102 L st (N, S, H) (pj_fld (H o) 2 0)) := pj_xt q38_99 rfl (pj_cl_nc rfl) (s38_99)
theorem q38_102 : pj_row 38 102 = some (.iload_n 2, 1, 0, 0, 0) := by decide +kernel
theorem s38_102 {st : List Value} {M : pj_Mem} {l : pj_Loc} {a0 a1 : Option Value} {x : Int32} : pj_step 38 (102, a0 :: a1 :: some (.int x) :: l, st, M) = some (103, a0 :: a1 :: some (.int x) :: l, .int x :: st, M) := st_iload_n q38_102 rfl
theorem x38_102 {st : List Value} {M : pj_Mem} {l : pj_Loc} {a0 a1 : Option Value} {x : Int32} {o9 : Option Value × pj_Mem} : pj_Ends 38 (102, a0 :: a1 :: some (.int x) :: l, st, M) o9 = pj_Ends 38 (103, a0 :: a1 :: some (.int x) :: l, .int x :: st, M) o9 := pj_xs (s38_102)
theorem q38_103 : pj_row 38 103 = some (.bipush 8, 2, 0, 0, 0) := by decide +kernel
theorem s38_103 {L : pj_Loc} {st : List Value} {M : pj_Mem}  : pj_step 38 (103, L, st, M) = some (105, L, .int 8 :: st, M) := st_bipush q38_103 (by decide +kernel)
theorem x38_103 {L : pj_Loc} {st : List Value} {M : pj_Mem}  {o9 : Option Value × pj_Mem} : pj_Ends 38 (103, L, st, M) o9 = pj_Ends 38 (105, L, .int 8 :: st, M) o9 := pj_xs (s38_103)
theorem q38_105 : pj_row 38 105 = some (.iadd, 1, 0, 0, 0) := by decide +kernel
theorem s38_105 {L : pj_Loc} {st : List Value} {M : pj_Mem} {x y : Int32} : pj_step 38 (105, L, .int y :: .int x :: st, M) = some (106, L, .int (x + y) :: st, M) := st_iadd q38_105
theorem x38_105 {L : pj_Loc} {st : List Value} {M : pj_Mem} {x y : Int32} {o9 : Option Value × pj_Mem} : pj_Ends 38 (105, L, .int y :: .int x :: st, M) o9 = pj_Ends 38 (106, L, .int (x + y) :: st, M) o9 := pj_xs (s38_105)
theorem q38_106 : pj_row 38 106 = some (.aload_n 1, 1, 0, 0, 0) := by decide +kernel
theorem s38_106 {st : List Value} {M : pj_Mem} {l : pj_Loc} {a0 : Option Value} {x : Nat} : pj_step 38 (106, a0 :: some (.ref x) :: l, st, M) = some (107, a0 :: some (.ref x) :: l, .ref x :: st, M) := st_aload_n q38_106 rfl
theorem x38_106 {st : List Value} {M : pj_Mem} {l : pj_Loc} {a0 : Option Value} {x : Nat} {o9 : Option Value × pj_Mem} : pj_Ends 38 (106, a0 :: some (.ref x) :: l, st, M) o9 = pj_Ends 38 (107, a0 :: some (.ref x) :: l, .ref x :: st, M) o9 := pj_xs (s38_106)
theorem q38_107 : pj_row 38 107 = some (.getfield 68, 3, 3, 10, 0) := by decide +kernel
theorem s38_107 {L : pj_Loc} {st : List Value} {N S : Nat} {H : pj_Heap} {o : Nat} : pj_step 38 (107, L, .ref o :: st, (N, S, H)) = pj_pv 110 L st (N, S, H) (pj_fld (H o) 3 10) := st_getfield q38_107
theorem x38_107 {L : pj_Loc} {st : List Value} {N S : Nat} {H : pj_Heap} {o : Nat} {o9 : Option Value × pj_Mem} : pj_Ends 38 (107, L, .ref o :: st, (N, S, H)) o9 = pj_then 38 o9 (pj_pv 110 L st (N, S, H) (pj_fld (H o) 3 10)) := pj_xt q38_107 rfl (pj_cl_nc rfl) (s38_107)
theorem q38_110 : pj_row 38 110 = some (.ifCond .le 7, 3, 117, 0, 0) := by decide +kernel
theorem s38_110 {L : pj_Loc} {st : List Value} {M : pj_Mem} {x : Int32} : pj_step 38 (110, L, .int x :: st, M) = some (if x ≤ 0 then 117 else 113, L, st, M) := st_if_le q38_110
theorem x38_110 {L : pj_Loc} {st : List Value} {M : pj_Mem} {x : Int32} {o9 : Option Value × pj_Mem} : pj_Ends 38 (110, L, .int x :: st, M) o9 = pj_Ends 38 (if x ≤ 0 then 117 else 113, L, st, M) o9 := pj_xs (s38_110)
theorem q38_113 : pj_row 38 113 = some (.iconst 1, 1, 0, 0, 0) := by decide +kernel
theorem s38_113 {L : pj_Loc} {st : List Value} {M : pj_Mem}  : pj_step 38 (113, L, st, M) = some (114, L, .int 1 :: st, M) := st_iconst q38_113 (by decide +kernel)
theorem x38_113 {L : pj_Loc} {st : List Value} {M : pj_Mem}  {o9 : Option Value × pj_Mem} : pj_Ends 38 (113, L, st, M) o9 = pj_Ends 38 (114, L, .int 1 :: st, M) o9 := pj_xs (s38_113)
theorem q38_114 : pj_row 38 114 = some (.goto 4, 3, 118, 0, 0) := by decide +kernel
theorem s38_114 {L : pj_Loc} {st : List Value} {M : pj_Mem}  : pj_step 38 (114, L, st, M) = some (118, L, st, M) := st_goto q38_114
theorem x38_114 {L : pj_Loc} {st : List Value} {M : pj_Mem}  {o9 : Option Value × pj_Mem} : pj_Ends 38 (114, L, st, M) o9 = pj_Ends 38 (118, L, st, M) o9 := pj_xs (s38_114)
theorem q38_117 : pj_row 38 117 = some (.iconst 0, 1, 0, 0, 0) := by decide +kernel
theorem s38_117 {L : pj_Loc} {st : List Value} {M : pj_Mem}  : pj_step 38 (117, L, st, M) = some (118, L, .int 0 :: st, M) := st_iconst q38_117 (by decide +kernel)
theorem x38_117 {L : pj_Loc} {st : List Value} {M : pj_Mem}  {o9 : Option Value × pj_Mem} : pj_Ends 38 (117, L, st, M) o9 = pj_Ends 38 (118, L, .int 0 :: st, M) o9 := pj_xs (s38_117)
theorem q38_118 : pj_row 38 118 = some (.invokestatic 55, 3, 9, 1, 1) := by decide +kernel
theorem e38_118 {L : pj_Loc} {st : List Value} {N S : Nat} {H : pj_Heap} {o : Option Value × pj_Mem} {M' : pj_Mem} {x0 : Int32} {r : Int32} (h4 : pj_le4 st = true) (h1 : pj_Ends 9 (0, [some (.int x0)], [], (N, S, H)) (some (.int r), M')) (h2 : pj_Ends 38 (121, L, .int r :: st, M') o) : pj_Ends 38 (118, L, .int x0 :: st, (N, S, H)) o := ec_s1 q38_118 (Or.inr rfl) h4 rfl h1 h2
theorem q38_121 : pj_row 38 121 = some (.iastore, 1, 0, 0, 0) := by decide +kernel
theorem s38_121 {L : pj_Loc} {st : List Value} {N S : Nat} {H : pj_Heap} {o : Nat} {i x : Int32} : pj_step 38 (121, L, .int x :: .int i :: .ref o :: st, (N, S, H)) = pj_set 122 L st (N, S, H) o (pj_ars (H o) 0 i x) := st_iastore q38_121
theorem x38_121 {L : pj_Loc} {st : List Value} {N S : Nat} {H : pj_Heap} {o : Nat} {i x : Int32} {o9 : Option Value × pj_Mem} : pj_Ends 38 (121, L, .int x :: .int i :: .ref o :: st, (N, S, H)) o9 = pj_then 38 o9 (pj_set 122 L st (N, S, H) o (pj_ars (H o) 0 i x)) := pj_xt q38_121 rfl (pj_cl_nc rfl) (s38_121)
theorem q38_122 : pj_row 38 122 = some (.aload_n 0, 1, 0, 0, 0) := by decide +kernel
theorem s38_122 {st : List Value} {M : pj_Mem} {l : pj_Loc} {x : Nat} : pj_step 38 (122, some (.ref x) :: l, st, M) = some (123, some (.ref x) :: l, .ref x :: st, M) := st_aload_n q38_122 rfl
theorem x38_122 {st : List Value} {M : pj_Mem} {l : pj_Loc} {x : Nat} {o9 : Option Value × pj_Mem} : pj_Ends 38 (122, some (.ref x) :: l, st, M) o9 = pj_Ends 38 (123, some (.ref x) :: l, .ref x :: st, M) o9 := pj_xs (s38_122)
theorem q38_123 : pj_row 38 123 = some (.getfield 9, 3, 2, 0, 0) := by decide +kernel
theorem s38_123 {L : pj_Loc} {st : List Value} {N S : Nat} {H : pj_Heap} {o : Nat} : pj_step 38 (123, L, .ref o :: st, (N, S, H)) = pj_pv 126 L st (N, S, H) (pj_fld (H o) 2 0) := st_getfield q38_123
theorem x38_123 {L : pj_Loc} {st : List Value} {N S : Nat} {H : pj_Heap} {o : Nat} {o9 : Option Value × pj_Mem} : pj_Ends 38 (123, L, .ref o :: st, (N, S, H)) o9 = pj_then 38 o9 (pj_pv 126 L st (N, S, H) (pj_fld (H o) 2 0)) := pj_xt q38_123 rfl (pj_cl_nc rfl) (s38_123)
theorem q38_126 : pj_row 38 126 = some (.iload_n 2, 1, 0, 0, 0) := by decide +kernel
theorem s38_126 {st : List Value} {M : pj_Mem} {l : pj_Loc} {a0 a1 : Option Value} {x : Int32} : pj_step 38 (126, a0 :: a1 :: some (.int x) :: l, st, M) = some (127, a0 :: a1 :: some (.int x) :: l, .int x :: st, M) := st_iload_n q38_126 rfl
theorem x38_126 {st : List Value} {M : pj_Mem} {l : pj_Loc} {a0 a1 : Option Value} {x : Int32} {o9 : Option Value × pj_Mem} : pj_Ends 38 (126, a0 :: a1 :: some (.int x) :: l, st, M) o9 = pj_Ends 38 (127, a0 :: a1 :: some (.int x) :: l, .int x :: st, M) o9 := pj_xs (s38_126)
theorem q38_127 : pj_row 38 127 = some (.bipush 9, 2, 0, 0, 0) := by decide +kernel
theorem s38_127 {L : pj_Loc} {st : List Value} {M : pj_Mem}  : pj_step 38 (127, L, st, M) = some (129, L, .int 9 :: st, M) := st_bipush q38_127 (by decide +kernel)
theorem x38_127 {L : pj_Loc} {st : List Value} {M : pj_Mem}  {o9 : Option Value × pj_Mem} : pj_Ends 38 (127, L, st, M) o9 = pj_Ends 38 (129, L, .int 9 :: st, M) o9 := pj_xs (s38_127)
theorem q38_129 : pj_row 38 129 = some (.iadd, 1, 0, 0, 0) := by decide +kernel
theorem s38_129 {L : pj_Loc} {st : List Value} {M : pj_Mem} {x y : Int32} : pj_step 38 (129, L, .int y :: .int x :: st, M) = some (130, L, .int (x + y) :: st, M) := st_iadd q38_129
theorem x38_129 {L : pj_Loc} {st : List Value} {M : pj_Mem} {x y : Int32} {o9 : Option Value × pj_Mem} : pj_Ends 38 (129, L, .int y :: .int x :: st, M) o9 = pj_Ends 38 (130, L, .int (x + y) :: st, M) o9 := pj_xs (s38_129)
theorem q38_130 : pj_row 38 130 = some (.aload_n 1, 1, 0, 0, 0) := by decide +kernel
theorem s38_130 {st : List Value} {M : pj_Mem} {l : pj_Loc} {a0 : Option Value} {x : Nat} : pj_step 38 (130, a0 :: some (.ref x) :: l, st, M) = some (131, a0 :: some (.ref x) :: l, .ref x :: st, M) := st_aload_n q38_130 rfl
theorem x38_130 {st : List Value} {M : pj_Mem} {l : pj_Loc} {a0 : Option Value} {x : Nat} {o9 : Option Value × pj_Mem} : pj_Ends 38 (130, a0 :: some (.ref x) :: l, st, M) o9 = pj_Ends 38 (131, a0 :: some (.ref x) :: l, .ref x :: st, M) o9 := pj_xs (s38_130)
theorem q38_131 : pj_row 38 131 = some (.getfield 44, 3, 3, 13, 0) := by decide +kernel
theorem s38_131 {L : pj_Loc} {st : List Value} {N S : Nat} {H : pj_Heap} {o : Nat} : pj_step 38 (131, L, .ref o :: st, (N, S, H)) = pj_pv 134 L st (N, S, H) (pj_fld (H o) 3 13) := st_getfield q38_131
theorem x38_131 {L : pj_Loc} {st : List Value} {N S : Nat} {H : pj_Heap} {o : Nat} {o9 : Option Value × pj_Mem} : pj_Ends 38 (131, L, .ref o :: st, (N, S, H)) o9 = pj_then 38 o9 (pj_pv 134 L st (N, S, H) (pj_fld (H o) 3 13)) := pj_xt q38_131 rfl (pj_cl_nc rfl) (s38_131)
theorem q38_134 : pj_row 38 134 = some (.iastore, 1, 0, 0, 0) := by decide +kernel
theorem s38_134 {L : pj_Loc} {st : List Value} {N S : Nat} {H : pj_Heap} {o : Nat} {i x : Int32} : pj_step 38 (134, L, .int x :: .int i :: .ref o :: st, (N, S, H)) = pj_set 135 L st (N, S, H) o (pj_ars (H o) 0 i x) := st_iastore q38_134
theorem x38_134 {L : pj_Loc} {st : List Value} {N S : Nat} {H : pj_Heap} {o : Nat} {i x : Int32} {o9 : Option Value × pj_Mem} : pj_Ends 38 (134, L, .int x :: .int i :: .ref o :: st, (N, S, H)) o9 = pj_then 38 o9 (pj_set 135 L st (N, S, H) o (pj_ars (H o) 0 i x)) := pj_xt q38_134 rfl (pj_cl_nc rfl) (s38_134)
theorem q38_135 : pj_row 38 135 = some (.return_, 1, 0, 0, 0) := by decide +kernel
theorem t38_135 {L : pj_Loc} {M : pj_Mem} : pj_Ends 38 (135, L, [], M) (none, M) := pj_Ends.ret q38_135 (pj_rtn_v rt38)
theorem rt39 : pj_rt 39 = some .int := rfl
theorem q39_0 : pj_row 39 0 = some (.iload_n 1, 1, 0, 0, 0) := by decide +kernel
theorem s39_0 {st : List Value} {M : pj_Mem} {l : pj_Loc} {a0 : Option Value} {x : Int32} : pj_step 39 (0, a0 :: some (.int x) :: l, st, M) = some (1, a0 :: some (.int x) :: l, .int x :: st, M) := st_iload_n q39_0 rfl
theorem x39_0 {st : List Value} {M : pj_Mem} {l : pj_Loc} {a0 : Option Value} {x : Int32} {o9 : Option Value × pj_Mem} : pj_Ends 39 (0, a0 :: some (.int x) :: l, st, M) o9 = pj_Ends 39 (1, a0 :: some (.int x) :: l, .int x :: st, M) o9 := pj_xs (s39_0)
theorem q39_1 : pj_row 39 1 = some (.aload_n 0, 1, 0, 0, 0) := by decide +kernel
theorem s39_1 {st : List Value} {M : pj_Mem} {l : pj_Loc} {x : Nat} : pj_step 39 (1, some (.ref x) :: l, st, M) = some (2, some (.ref x) :: l, .ref x :: st, M) := st_aload_n q39_1 rfl
theorem x39_1 {st : List Value} {M : pj_Mem} {l : pj_Loc} {x : Nat} {o9 : Option Value × pj_Mem} : pj_Ends 39 (1, some (.ref x) :: l, st, M) o9 = pj_Ends 39 (2, some (.ref x) :: l, .ref x :: st, M) o9 := pj_xs (s39_1)
theorem q39_2 : pj_row 39 2 = some (.arraylength, 1, 0, 0, 0) := by decide +kernel
theorem s39_2 {L : pj_Loc} {st : List Value} {N S : Nat} {H : pj_Heap} {o : Nat} : pj_step 39 (2, L, .ref o :: st, (N, S, H)) = pj_pi 3 L st (N, S, H) (pj_len (H o)) := st_arraylength q39_2
theorem x39_2 {L : pj_Loc} {st : List Value} {N S : Nat} {H : pj_Heap} {o : Nat} {o9 : Option Value × pj_Mem} : pj_Ends 39 (2, L, .ref o :: st, (N, S, H)) o9 = pj_then 39 o9 (pj_pi 3 L st (N, S, H) (pj_len (H o))) := pj_xt q39_2 rfl (pj_cl_nc rfl) (s39_2)
theorem q39_3 : pj_row 39 3 = some (.if_icmp .ge 9, 3, 12, 0, 0) := by decide +kernel
theorem s39_3 {L : pj_Loc} {st : List Value} {M : pj_Mem} {x y : Int32} : pj_step 39 (3, L, .int y :: .int x :: st, M) = some (if y ≤ x then 12 else 6, L, st, M) := st_icmp_ge q39_3
theorem x39_3 {L : pj_Loc} {st : List Value} {M : pj_Mem} {x y : Int32} {o9 : Option Value × pj_Mem} : pj_Ends 39 (3, L, .int y :: .int x :: st, M) o9 = pj_Ends 39 (if y ≤ x then 12 else 6, L, st, M) o9 := pj_xs (s39_3)
theorem q39_6 : pj_row 39 6 = some (.aload_n 0, 1, 0, 0, 0) := by decide +kernel
theorem s39_6 {st : List Value} {M : pj_Mem} {l : pj_Loc} {x : Nat} : pj_step 39 (6, some (.ref x) :: l, st, M) = some (7, some (.ref x) :: l, .ref x :: st, M) := st_aload_n q39_6 rfl
theorem x39_6 {st : List Value} {M : pj_Mem} {l : pj_Loc} {x : Nat} {o9 : Option Value × pj_Mem} : pj_Ends 39 (6, some (.ref x) :: l, st, M) o9 = pj_Ends 39 (7, some (.ref x) :: l, .ref x :: st, M) o9 := pj_xs (s39_6)
theorem q39_7 : pj_row 39 7 = some (.iload_n 1, 1, 0, 0, 0) := by decide +kernel
theorem s39_7 {st : List Value} {M : pj_Mem} {l : pj_Loc} {a0 : Option Value} {x : Int32} : pj_step 39 (7, a0 :: some (.int x) :: l, st, M) = some (8, a0 :: some (.int x) :: l, .int x :: st, M) := st_iload_n q39_7 rfl
theorem x39_7 {st : List Value} {M : pj_Mem} {l : pj_Loc} {a0 : Option Value} {x : Int32} {o9 : Option Value × pj_Mem} : pj_Ends 39 (7, a0 :: some (.int x) :: l, st, M) o9 = pj_Ends 39 (8, a0 :: some (.int x) :: l, .int x :: st, M) o9 := pj_xs (s39_7)
theorem q39_8 : pj_row 39 8 = some (.iaload, 1, 0, 0, 0) := by decide +kernel
theorem s39_8 {L : pj_Loc} {st : List Value} {N S : Nat} {H : pj_Heap} {o : Nat} {i : Int32} : pj_step 39 (8, L, .int i :: .ref o :: st, (N, S, H)) = pj_pi 9 L st (N, S, H) (pj_arl (H o) 0 i) := st_iaload q39_8
theorem x39_8 {L : pj_Loc} {st : List Value} {N S : Nat} {H : pj_Heap} {o : Nat} {i : Int32} {o9 : Option Value × pj_Mem} : pj_Ends 39 (8, L, .int i :: .ref o :: st, (N, S, H)) o9 = pj_then 39 o9 (pj_pi 9 L st (N, S, H) (pj_arl (H o) 0 i)) := pj_xt q39_8 rfl (pj_cl_nc rfl) (s39_8)
theorem q39_9 : pj_row 39 9 = some (.goto 11, 3, 20, 0, 0) := by decide +kernel
theorem s39_9 {L : pj_Loc} {st : List Value} {M : pj_Mem}  : pj_step 39 (9, L, st, M) = some (20, L, st, M) := st_goto q39_9
theorem x39_9 {L : pj_Loc} {st : List Value} {M : pj_Mem}  {o9 : Option Value × pj_Mem} : pj_Ends 39 (9, L, st, M) o9 = pj_Ends 39 (20, L, st, M) o9 := pj_xs (s39_9)
theorem q39_12 : pj_row 39 12 = some (.ldc 7, 2, 0, 0, 2146121005) := by decide +kernel
theorem s39_12 {L : pj_Loc} {st : List Value} {M : pj_Mem}  : pj_step 39 (12, L, st, M) = some (14, L, .int 2146121005 :: st, M) := st_ldc q39_12 (by decide +kernel)
theorem x39_12 {L : pj_Loc} {st : List Value} {M : pj_Mem}  {o9 : Option Value × pj_Mem} : pj_Ends 39 (12, L, st, M) o9 = pj_Ends 39 (14, L, .int 2146121005 :: st, M) o9 := pj_xs (s39_12)
theorem q39_14 : pj_row 39 14 = some (.iload_n 1, 1, 0, 0, 0) := by decide +kernel
theorem s39_14 {st : List Value} {M : pj_Mem} {l : pj_Loc} {a0 : Option Value} {x : Int32} : pj_step 39 (14, a0 :: some (.int x) :: l, st, M) = some (15, a0 :: some (.int x) :: l, .int x :: st, M) := st_iload_n q39_14 rfl
theorem x39_14 {st : List Value} {M : pj_Mem} {l : pj_Loc} {a0 : Option Value} {x : Int32} {o9 : Option Value × pj_Mem} : pj_Ends 39 (14, a0 :: some (.int x) :: l, st, M) o9 = pj_Ends 39 (15, a0 :: some (.int x) :: l, .int x :: st, M) o9 := pj_xs (s39_14)
theorem q39_15 : pj_row 39 15 = some (.sipush 883, 3, 0, 0, 0) := by decide +kernel
theorem s39_15 {L : pj_Loc} {st : List Value} {M : pj_Mem}  : pj_step 39 (15, L, st, M) = some (18, L, .int 883 :: st, M) := st_sipush q39_15 (by decide +kernel)
theorem x39_15 {L : pj_Loc} {st : List Value} {M : pj_Mem}  {o9 : Option Value × pj_Mem} : pj_Ends 39 (15, L, st, M) o9 = pj_Ends 39 (18, L, .int 883 :: st, M) o9 := pj_xs (s39_15)
theorem q39_18 : pj_row 39 18 = some (.iadd, 1, 0, 0, 0) := by decide +kernel
theorem s39_18 {L : pj_Loc} {st : List Value} {M : pj_Mem} {x y : Int32} : pj_step 39 (18, L, .int y :: .int x :: st, M) = some (19, L, .int (x + y) :: st, M) := st_iadd q39_18
theorem x39_18 {L : pj_Loc} {st : List Value} {M : pj_Mem} {x y : Int32} {o9 : Option Value × pj_Mem} : pj_Ends 39 (18, L, .int y :: .int x :: st, M) o9 = pj_Ends 39 (19, L, .int (x + y) :: st, M) o9 := pj_xs (s39_18)
theorem q39_19 : pj_row 39 19 = some (.imul, 1, 0, 0, 0) := by decide +kernel
theorem s39_19 {L : pj_Loc} {st : List Value} {M : pj_Mem} {x y : Int32} : pj_step 39 (19, L, .int y :: .int x :: st, M) = some (20, L, .int (x * y) :: st, M) := st_imul q39_19
theorem x39_19 {L : pj_Loc} {st : List Value} {M : pj_Mem} {x y : Int32} {o9 : Option Value × pj_Mem} : pj_Ends 39 (19, L, .int y :: .int x :: st, M) o9 = pj_Ends 39 (20, L, .int (x * y) :: st, M) o9 := pj_xs (s39_19)
theorem q39_20 : pj_row 39 20 = some (.ireturn, 1, 0, 0, 0) := by decide +kernel
theorem t39_20 {L : pj_Loc} {M : pj_Mem} {v : Int32} : pj_Ends 39 (20, L, [.int v], M) (some (.int v), M) := pj_Ends.ret q39_20 (pj_rtn_i rt39)
theorem rt40 : pj_rt 40 = some .int := rfl
theorem q40_0 : pj_row 40 0 = some (.iload_n 0, 1, 0, 0, 0) := by decide +kernel
theorem s40_0 {st : List Value} {M : pj_Mem} {l : pj_Loc} {x : Int32} : pj_step 40 (0, some (.int x) :: l, st, M) = some (1, some (.int x) :: l, .int x :: st, M) := st_iload_n q40_0 rfl
theorem x40_0 {st : List Value} {M : pj_Mem} {l : pj_Loc} {x : Int32} {o9 : Option Value × pj_Mem} : pj_Ends 40 (0, some (.int x) :: l, st, M) o9 = pj_Ends 40 (1, some (.int x) :: l, .int x :: st, M) o9 := pj_xs (s40_0)
theorem q40_1 : pj_row 40 1 = some (.ldc 8, 2, 0, 0, 2147483647) := by decide +kernel
theorem s40_1 {L : pj_Loc} {st : List Value} {M : pj_Mem}  : pj_step 40 (1, L, st, M) = some (3, L, .int 2147483647 :: st, M) := st_ldc q40_1 (by decide +kernel)
theorem x40_1 {L : pj_Loc} {st : List Value} {M : pj_Mem}  {o9 : Option Value × pj_Mem} : pj_Ends 40 (1, L, st, M) o9 = pj_Ends 40 (3, L, .int 2147483647 :: st, M) o9 := pj_xs (s40_1)
theorem q40_3 : pj_row 40 3 = some (.iand, 1, 0, 0, 0) := by decide +kernel
theorem s40_3 {L : pj_Loc} {st : List Value} {M : pj_Mem} {x y : Int32} : pj_step 40 (3, L, .int y :: .int x :: st, M) = some (4, L, .int (x &&& y) :: st, M) := st_iand q40_3
theorem x40_3 {L : pj_Loc} {st : List Value} {M : pj_Mem} {x y : Int32} {o9 : Option Value × pj_Mem} : pj_Ends 40 (3, L, .int y :: .int x :: st, M) o9 = pj_Ends 40 (4, L, .int (x &&& y) :: st, M) o9 := pj_xs (s40_3)
theorem q40_4 : pj_row 40 4 = some (.iload_n 1, 1, 0, 0, 0) := by decide +kernel
theorem s40_4 {st : List Value} {M : pj_Mem} {l : pj_Loc} {a0 : Option Value} {x : Int32} : pj_step 40 (4, a0 :: some (.int x) :: l, st, M) = some (5, a0 :: some (.int x) :: l, .int x :: st, M) := st_iload_n q40_4 rfl
theorem x40_4 {st : List Value} {M : pj_Mem} {l : pj_Loc} {a0 : Option Value} {x : Int32} {o9 : Option Value × pj_Mem} : pj_Ends 40 (4, a0 :: some (.int x) :: l, st, M) o9 = pj_Ends 40 (5, a0 :: some (.int x) :: l, .int x :: st, M) o9 := pj_xs (s40_4)
theorem q40_5 : pj_row 40 5 = some (.irem, 1, 0, 0, 0) := by decide +kernel
theorem s40_5 {L : pj_Loc} {st : List Value} {M : pj_Mem} {x y : Int32} (hy : ¬ y = 0) : pj_step 40 (5, L, .int y :: .int x :: st, M) = some (6, L, .int (x - x / y * y) :: st, M) := st_irem q40_5 hy
theorem x40_5 {L : pj_Loc} {st : List Value} {M : pj_Mem} {x y : Int32} (hy : ¬ y = 0) {o9 : Option Value × pj_Mem} : pj_Ends 40 (5, L, .int y :: .int x :: st, M) o9 = pj_Ends 40 (6, L, .int (x - x / y * y) :: st, M) o9 := pj_xs (s40_5 hy)
theorem q40_6 : pj_row 40 6 = some (.ireturn, 1, 0, 0, 0) := by decide +kernel
theorem t40_6 {L : pj_Loc} {M : pj_Mem} {v : Int32} : pj_Ends 40 (6, L, [.int v], M) (some (.int v), M) := pj_Ends.ret q40_6 (pj_rtn_i rt40)
theorem rt41 : pj_rt 41 = some .boolean := rfl
theorem q41_0 : pj_row 41 0 = some (.iload_n 3, 1, 0, 0, 0) := by decide +kernel
theorem s41_0 {st : List Value} {M : pj_Mem} {l : pj_Loc} {a0 a1 a2 : Option Value} {x : Int32} : pj_step 41 (0, a0 :: a1 :: a2 :: some (.int x) :: l, st, M) = some (1, a0 :: a1 :: a2 :: some (.int x) :: l, .int x :: st, M) := st_iload_n q41_0 rfl
theorem x41_0 {st : List Value} {M : pj_Mem} {l : pj_Loc} {a0 a1 a2 : Option Value} {x : Int32} {o9 : Option Value × pj_Mem} : pj_Ends 41 (0, a0 :: a1 :: a2 :: some (.int x) :: l, st, M) o9 = pj_Ends 41 (1, a0 :: a1 :: a2 :: some (.int x) :: l, .int x :: st, M) o9 := pj_xs (s41_0)
theorem q41_1 : pj_row 41 1 = some (.iconst 4, 1, 0, 0, 0) := by decide +kernel
theorem s41_1 {L : pj_Loc} {st : List Value} {M : pj_Mem}  : pj_step 41 (1, L, st, M) = some (2, L, .int 4 :: st, M) := st_iconst q41_1 (by decide +kernel)
theorem x41_1 {L : pj_Loc} {st : List Value} {M : pj_Mem}  {o9 : Option Value × pj_Mem} : pj_Ends 41 (1, L, st, M) o9 = pj_Ends 41 (2, L, .int 4 :: st, M) o9 := pj_xs (s41_1)
theorem q41_2 : pj_row 41 2 = some (.ishr, 1, 0, 0, 0) := by decide +kernel
theorem s41_2 {L : pj_Loc} {st : List Value} {M : pj_Mem} {x y : Int32} : pj_step 41 (2, L, .int y :: .int x :: st, M) = some (3, L, .int (x >>> (y &&& 31)) :: st, M) := st_ishr q41_2
theorem x41_2 {L : pj_Loc} {st : List Value} {M : pj_Mem} {x y : Int32} {o9 : Option Value × pj_Mem} : pj_Ends 41 (2, L, .int y :: .int x :: st, M) o9 = pj_Ends 41 (3, L, .int (x >>> (y &&& 31)) :: st, M) o9 := pj_xs (s41_2)
theorem q41_3 : pj_row 41 3 = some (.istore 4, 2, 0, 0, 0) := by decide +kernel
theorem s41_3 {st : List Value} {M : pj_Mem} {l : pj_Loc} {a0 a1 a2 a3 a4 : Option Value} {x : Int32} (h : pj_long a3 = false) : pj_step 41 (3, a0 :: a1 :: a2 :: a3 :: a4 :: l, .int x :: st, M) = some (5, a0 :: a1 :: a2 :: a3 :: some (.int x) :: l, st, M) := st_istore q41_3 (pj_st_4 h)
theorem x41_3 {st : List Value} {M : pj_Mem} {l : pj_Loc} {a0 a1 a2 a3 a4 : Option Value} {x : Int32} (h : pj_long a3 = false) {o9 : Option Value × pj_Mem} : pj_Ends 41 (3, a0 :: a1 :: a2 :: a3 :: a4 :: l, .int x :: st, M) o9 = pj_Ends 41 (5, a0 :: a1 :: a2 :: a3 :: some (.int x) :: l, st, M) o9 := pj_xs (s41_3 h)
theorem q41_5 : pj_row 41 5 = some (.iload_n 3, 1, 0, 0, 0) := by decide +kernel
theorem s41_5 {st : List Value} {M : pj_Mem} {l : pj_Loc} {a0 a1 a2 : Option Value} {x : Int32} : pj_step 41 (5, a0 :: a1 :: a2 :: some (.int x) :: l, st, M) = some (6, a0 :: a1 :: a2 :: some (.int x) :: l, .int x :: st, M) := st_iload_n q41_5 rfl
theorem x41_5 {st : List Value} {M : pj_Mem} {l : pj_Loc} {a0 a1 a2 : Option Value} {x : Int32} {o9 : Option Value × pj_Mem} : pj_Ends 41 (5, a0 :: a1 :: a2 :: some (.int x) :: l, st, M) o9 = pj_Ends 41 (6, a0 :: a1 :: a2 :: some (.int x) :: l, .int x :: st, M) o9 := pj_xs (s41_5)
theorem q41_6 : pj_row 41 6 = some (.bipush 18, 2, 0, 0, 0) := by decide +kernel
theorem s41_6 {L : pj_Loc} {st : List Value} {M : pj_Mem}  : pj_step 41 (6, L, st, M) = some (8, L, .int 18 :: st, M) := st_bipush q41_6 (by decide +kernel)
theorem x41_6 {L : pj_Loc} {st : List Value} {M : pj_Mem}  {o9 : Option Value × pj_Mem} : pj_Ends 41 (6, L, st, M) o9 = pj_Ends 41 (8, L, .int 18 :: st, M) o9 := pj_xs (s41_6)
theorem q41_8 : pj_row 41 8 = some (.invokestatic 25, 3, 40, 2, 0) := by decide +kernel
theorem e41_8 {L : pj_Loc} {st : List Value} {N S : Nat} {H : pj_Heap} {o : Option Value × pj_Mem} {M' : pj_Mem} {x0 : Int32} {x1 : Int32} {r : Int32} (h4 : pj_le4 st = true) (h1 : pj_Ends 40 (0, [some (.int x0), some (.int x1)], [], (N, S, H)) (some (.int r), M')) (h2 : pj_Ends 41 (11, L, .int r :: st, M') o) : pj_Ends 41 (8, L, .int x1 :: .int x0 :: st, (N, S, H)) o := ec_s2 q41_8 (Or.inl rfl) h4 rfl h1 h2
theorem q41_11 : pj_row 41 11 = some (.tableswitch 267 0 4 #[33, 121, 182, 215, 241], 33, 0, 0, 0) := by decide +kernel
theorem s41_11 {L : pj_Loc} {st : List Value} {M : pj_Mem} {x : Int32} : pj_step 41 (11, L, .int x :: st, M) = some (if x = 0 then 44 else if x = 1 then 132 else if x = 2 then 193 else if x = 3 then 226 else if x = 4 then 252 else 278, L, st, M) := by
  rw [st_tsw q41_11]
  unfold pj_tsw
  by_cases hr : x.toInt < 0 ∨ 4 < x.toInt
  · simp only
    rw [if_pos hr]
    rw [if_neg (show ¬ x = 0 from fun e => by rw [e] at hr; revert hr; decide)]
    rw [if_neg (show ¬ x = 1 from fun e => by rw [e] at hr; revert hr; decide)]
    rw [if_neg (show ¬ x = 2 from fun e => by rw [e] at hr; revert hr; decide)]
    rw [if_neg (show ¬ x = 3 from fun e => by rw [e] at hr; revert hr; decide)]
    rw [if_neg (show ¬ x = 4 from fun e => by rw [e] at hr; revert hr; decide)]
    rfl
  · have h3 : x.toInt = 0 ∨ x.toInt = 1 ∨ x.toInt = 2 ∨ x.toInt = 3 ∨ x.toInt = 4 := by omega
    rcases h3 with h3 | h3 | h3 | h3 | h3
    · have e : x = 0 := Int32.toInt_inj.mp (h3.trans (by decide))
      subst e
      rfl
    · have e : x = 1 := Int32.toInt_inj.mp (h3.trans (by decide))
      subst e
      rfl
    · have e : x = 2 := Int32.toInt_inj.mp (h3.trans (by decide))
      subst e
      rfl
    · have e : x = 3 := Int32.toInt_inj.mp (h3.trans (by decide))
      subst e
      rfl
    · have e : x = 4 := Int32.toInt_inj.mp (h3.trans (by decide))
      subst e
      rfl
theorem x41_11 {L : pj_Loc} {st : List Value} {M : pj_Mem} {x : Int32} {o9 : Option Value × pj_Mem} : pj_Ends 41 (11, L, .int x :: st, M) o9 = pj_Ends 41 (if x = 0 then 44 else if x = 1 then 132 else if x = 2 then 193 else if x = 3 then 226 else if x = 4 then 252 else 278, L, st, M) o9 := pj_xs (s41_11)
theorem q41_44 : pj_row 41 44 = some (.iload 4, 2, 0, 0, 0) := by decide +kernel
theorem s41_44 {st : List Value} {M : pj_Mem} {l : pj_Loc} {a0 a1 a2 a3 : Option Value} {x : Int32} : pj_step 41 (44, a0 :: a1 :: a2 :: a3 :: some (.int x) :: l, st, M) = some (46, a0 :: a1 :: a2 :: a3 :: some (.int x) :: l, .int x :: st, M) := st_iload q41_44 rfl
theorem x41_44 {st : List Value} {M : pj_Mem} {l : pj_Loc} {a0 a1 a2 a3 : Option Value} {x : Int32} {o9 : Option Value × pj_Mem} : pj_Ends 41 (44, a0 :: a1 :: a2 :: a3 :: some (.int x) :: l, st, M) o9 = pj_Ends 41 (46, a0 :: a1 :: a2 :: a3 :: some (.int x) :: l, .int x :: st, M) o9 := pj_xs (s41_44)
theorem q41_46 : pj_row 41 46 = some (.bipush 6, 2, 0, 0, 0) := by decide +kernel
theorem s41_46 {L : pj_Loc} {st : List Value} {M : pj_Mem}  : pj_step 41 (46, L, st, M) = some (48, L, .int 6 :: st, M) := st_bipush q41_46 (by decide +kernel)
theorem x41_46 {L : pj_Loc} {st : List Value} {M : pj_Mem}  {o9 : Option Value × pj_Mem} : pj_Ends 41 (46, L, st, M) o9 = pj_Ends 41 (48, L, .int 6 :: st, M) o9 := pj_xs (s41_46)
theorem q41_48 : pj_row 41 48 = some (.invokestatic 25, 3, 40, 2, 0) := by decide +kernel
theorem e41_48 {L : pj_Loc} {st : List Value} {N S : Nat} {H : pj_Heap} {o : Option Value × pj_Mem} {M' : pj_Mem} {x0 : Int32} {x1 : Int32} {r : Int32} (h4 : pj_le4 st = true) (h1 : pj_Ends 40 (0, [some (.int x0), some (.int x1)], [], (N, S, H)) (some (.int r), M')) (h2 : pj_Ends 41 (51, L, .int r :: st, M') o) : pj_Ends 41 (48, L, .int x1 :: .int x0 :: st, (N, S, H)) o := ec_s2 q41_48 (Or.inl rfl) h4 rfl h1 h2
theorem q41_51 : pj_row 41 51 = some (.istore 5, 2, 0, 0, 0) := by decide +kernel
theorem s41_51 {st : List Value} {M : pj_Mem} {l : pj_Loc} {a0 a1 a2 a3 a4 a5 : Option Value} {x : Int32} (h : pj_long a4 = false) : pj_step 41 (51, a0 :: a1 :: a2 :: a3 :: a4 :: a5 :: l, .int x :: st, M) = some (53, a0 :: a1 :: a2 :: a3 :: a4 :: some (.int x) :: l, st, M) := st_istore q41_51 (pj_st_5 h)
theorem x41_51 {st : List Value} {M : pj_Mem} {l : pj_Loc} {a0 a1 a2 a3 a4 a5 : Option Value} {x : Int32} (h : pj_long a4 = false) {o9 : Option Value × pj_Mem} : pj_Ends 41 (51, a0 :: a1 :: a2 :: a3 :: a4 :: a5 :: l, .int x :: st, M) o9 = pj_Ends 41 (53, a0 :: a1 :: a2 :: a3 :: a4 :: some (.int x) :: l, st, M) o9 := pj_xs (s41_51 h)
theorem q41_53 : pj_row 41 53 = some (.iload 5, 2, 0, 0, 0) := by decide +kernel
theorem s41_53 {st : List Value} {M : pj_Mem} {l : pj_Loc} {a0 a1 a2 a3 a4 : Option Value} {x : Int32} : pj_step 41 (53, a0 :: a1 :: a2 :: a3 :: a4 :: some (.int x) :: l, st, M) = some (55, a0 :: a1 :: a2 :: a3 :: a4 :: some (.int x) :: l, .int x :: st, M) := st_iload q41_53 rfl
theorem x41_53 {st : List Value} {M : pj_Mem} {l : pj_Loc} {a0 a1 a2 a3 a4 : Option Value} {x : Int32} {o9 : Option Value × pj_Mem} : pj_Ends 41 (53, a0 :: a1 :: a2 :: a3 :: a4 :: some (.int x) :: l, st, M) o9 = pj_Ends 41 (55, a0 :: a1 :: a2 :: a3 :: a4 :: some (.int x) :: l, .int x :: st, M) o9 := pj_xs (s41_53)
theorem q41_55 : pj_row 41 55 = some (.iconst 2, 1, 0, 0, 0) := by decide +kernel
theorem s41_55 {L : pj_Loc} {st : List Value} {M : pj_Mem}  : pj_step 41 (55, L, st, M) = some (56, L, .int 2 :: st, M) := st_iconst q41_55 (by decide +kernel)
theorem x41_55 {L : pj_Loc} {st : List Value} {M : pj_Mem}  {o9 : Option Value × pj_Mem} : pj_Ends 41 (55, L, st, M) o9 = pj_Ends 41 (56, L, .int 2 :: st, M) o9 := pj_xs (s41_55)
theorem q41_56 : pj_row 41 56 = some (.if_icmp .ge 18, 3, 74, 0, 0) := by decide +kernel
theorem s41_56 {L : pj_Loc} {st : List Value} {M : pj_Mem} {x y : Int32} : pj_step 41 (56, L, .int y :: .int x :: st, M) = some (if y ≤ x then 74 else 59, L, st, M) := st_icmp_ge q41_56
theorem x41_56 {L : pj_Loc} {st : List Value} {M : pj_Mem} {x y : Int32} {o9 : Option Value × pj_Mem} : pj_Ends 41 (56, L, .int y :: .int x :: st, M) o9 = pj_Ends 41 (if y ≤ x then 74 else 59, L, st, M) o9 := pj_xs (s41_56)
theorem q41_59 : pj_row 41 59 = some (.iconst 1, 1, 0, 0, 0) := by decide +kernel
theorem s41_59 {L : pj_Loc} {st : List Value} {M : pj_Mem}  : pj_step 41 (59, L, st, M) = some (60, L, .int 1 :: st, M) := st_iconst q41_59 (by decide +kernel)
theorem x41_59 {L : pj_Loc} {st : List Value} {M : pj_Mem}  {o9 : Option Value × pj_Mem} : pj_Ends 41 (59, L, st, M) o9 = pj_Ends 41 (60, L, .int 1 :: st, M) o9 := pj_xs (s41_59)
theorem q41_60 : pj_row 41 60 = some (.iload 4, 2, 0, 0, 0) := by decide +kernel
theorem s41_60 {st : List Value} {M : pj_Mem} {l : pj_Loc} {a0 a1 a2 a3 : Option Value} {x : Int32} : pj_step 41 (60, a0 :: a1 :: a2 :: a3 :: some (.int x) :: l, st, M) = some (62, a0 :: a1 :: a2 :: a3 :: some (.int x) :: l, .int x :: st, M) := st_iload q41_60 rfl
theorem x41_60 {st : List Value} {M : pj_Mem} {l : pj_Loc} {a0 a1 a2 a3 : Option Value} {x : Int32} {o9 : Option Value × pj_Mem} : pj_Ends 41 (60, a0 :: a1 :: a2 :: a3 :: some (.int x) :: l, st, M) o9 = pj_Ends 41 (62, a0 :: a1 :: a2 :: a3 :: some (.int x) :: l, .int x :: st, M) o9 := pj_xs (s41_60)
theorem q41_62 : pj_row 41 62 = some (.iconst 3, 1, 0, 0, 0) := by decide +kernel
theorem s41_62 {L : pj_Loc} {st : List Value} {M : pj_Mem}  : pj_step 41 (62, L, st, M) = some (63, L, .int 3 :: st, M) := st_iconst q41_62 (by decide +kernel)
theorem x41_62 {L : pj_Loc} {st : List Value} {M : pj_Mem}  {o9 : Option Value × pj_Mem} : pj_Ends 41 (62, L, st, M) o9 = pj_Ends 41 (63, L, .int 3 :: st, M) o9 := pj_xs (s41_62)
theorem q41_63 : pj_row 41 63 = some (.ishr, 1, 0, 0, 0) := by decide +kernel
theorem s41_63 {L : pj_Loc} {st : List Value} {M : pj_Mem} {x y : Int32} : pj_step 41 (63, L, .int y :: .int x :: st, M) = some (64, L, .int (x >>> (y &&& 31)) :: st, M) := st_ishr q41_63
theorem x41_63 {L : pj_Loc} {st : List Value} {M : pj_Mem} {x y : Int32} {o9 : Option Value × pj_Mem} : pj_Ends 41 (63, L, .int y :: .int x :: st, M) o9 = pj_Ends 41 (64, L, .int (x >>> (y &&& 31)) :: st, M) o9 := pj_xs (s41_63)
theorem q41_64 : pj_row 41 64 = some (.sipush 200, 3, 0, 0, 0) := by decide +kernel
theorem s41_64 {L : pj_Loc} {st : List Value} {M : pj_Mem}  : pj_step 41 (64, L, st, M) = some (67, L, .int 200 :: st, M) := st_sipush q41_64 (by decide +kernel)
theorem x41_64 {L : pj_Loc} {st : List Value} {M : pj_Mem}  {o9 : Option Value × pj_Mem} : pj_Ends 41 (64, L, st, M) o9 = pj_Ends 41 (67, L, .int 200 :: st, M) o9 := pj_xs (s41_64)
theorem q41_67 : pj_row 41 67 = some (.invokestatic 25, 3, 40, 2, 0) := by decide +kernel
theorem e41_67 {L : pj_Loc} {st : List Value} {N S : Nat} {H : pj_Heap} {o : Option Value × pj_Mem} {M' : pj_Mem} {x0 : Int32} {x1 : Int32} {r : Int32} (h4 : pj_le4 st = true) (h1 : pj_Ends 40 (0, [some (.int x0), some (.int x1)], [], (N, S, H)) (some (.int r), M')) (h2 : pj_Ends 41 (70, L, .int r :: st, M') o) : pj_Ends 41 (67, L, .int x1 :: .int x0 :: st, (N, S, H)) o := ec_s2 q41_67 (Or.inl rfl) h4 rfl h1 h2
theorem q41_70 : pj_row 41 70 = some (.iadd, 1, 0, 0, 0) := by decide +kernel
theorem s41_70 {L : pj_Loc} {st : List Value} {M : pj_Mem} {x y : Int32} : pj_step 41 (70, L, .int y :: .int x :: st, M) = some (71, L, .int (x + y) :: st, M) := st_iadd q41_70
theorem x41_70 {L : pj_Loc} {st : List Value} {M : pj_Mem} {x y : Int32} {o9 : Option Value × pj_Mem} : pj_Ends 41 (70, L, .int y :: .int x :: st, M) o9 = pj_Ends 41 (71, L, .int (x + y) :: st, M) o9 := pj_xs (s41_70)
theorem q41_71 : pj_row 41 71 = some (.goto 34, 3, 105, 0, 0) := by decide +kernel
theorem s41_71 {L : pj_Loc} {st : List Value} {M : pj_Mem}  : pj_step 41 (71, L, st, M) = some (105, L, st, M) := st_goto q41_71
theorem x41_71 {L : pj_Loc} {st : List Value} {M : pj_Mem}  {o9 : Option Value × pj_Mem} : pj_Ends 41 (71, L, st, M) o9 = pj_Ends 41 (105, L, st, M) o9 := pj_xs (s41_71)
theorem q41_74 : pj_row 41 74 = some (.iload 5, 2, 0, 0, 0) := by decide +kernel
theorem s41_74 {st : List Value} {M : pj_Mem} {l : pj_Loc} {a0 a1 a2 a3 a4 : Option Value} {x : Int32} : pj_step 41 (74, a0 :: a1 :: a2 :: a3 :: a4 :: some (.int x) :: l, st, M) = some (76, a0 :: a1 :: a2 :: a3 :: a4 :: some (.int x) :: l, .int x :: st, M) := st_iload q41_74 rfl
theorem x41_74 {st : List Value} {M : pj_Mem} {l : pj_Loc} {a0 a1 a2 a3 a4 : Option Value} {x : Int32} {o9 : Option Value × pj_Mem} : pj_Ends 41 (74, a0 :: a1 :: a2 :: a3 :: a4 :: some (.int x) :: l, st, M) o9 = pj_Ends 41 (76, a0 :: a1 :: a2 :: a3 :: a4 :: some (.int x) :: l, .int x :: st, M) o9 := pj_xs (s41_74)
theorem q41_76 : pj_row 41 76 = some (.iconst 3, 1, 0, 0, 0) := by decide +kernel
theorem s41_76 {L : pj_Loc} {st : List Value} {M : pj_Mem}  : pj_step 41 (76, L, st, M) = some (77, L, .int 3 :: st, M) := st_iconst q41_76 (by decide +kernel)
theorem x41_76 {L : pj_Loc} {st : List Value} {M : pj_Mem}  {o9 : Option Value × pj_Mem} : pj_Ends 41 (76, L, st, M) o9 = pj_Ends 41 (77, L, .int 3 :: st, M) o9 := pj_xs (s41_76)
theorem q41_77 : pj_row 41 77 = some (.if_icmp .ne 17, 3, 94, 0, 0) := by decide +kernel
theorem s41_77 {L : pj_Loc} {st : List Value} {M : pj_Mem} {x y : Int32} : pj_step 41 (77, L, .int y :: .int x :: st, M) = some (if ¬ x = y then 94 else 80, L, st, M) := st_icmp_ne q41_77
theorem x41_77 {L : pj_Loc} {st : List Value} {M : pj_Mem} {x y : Int32} {o9 : Option Value × pj_Mem} : pj_Ends 41 (77, L, .int y :: .int x :: st, M) o9 = pj_Ends 41 (if ¬ x = y then 94 else 80, L, st, M) o9 := pj_xs (s41_77)
theorem q41_80 : pj_row 41 80 = some (.iconst 2, 1, 0, 0, 0) := by decide +kernel
theorem s41_80 {L : pj_Loc} {st : List Value} {M : pj_Mem}  : pj_step 41 (80, L, st, M) = some (81, L, .int 2 :: st, M) := st_iconst q41_80 (by decide +kernel)
theorem x41_80 {L : pj_Loc} {st : List Value} {M : pj_Mem}  {o9 : Option Value × pj_Mem} : pj_Ends 41 (80, L, st, M) o9 = pj_Ends 41 (81, L, .int 2 :: st, M) o9 := pj_xs (s41_80)
theorem q41_81 : pj_row 41 81 = some (.iload 4, 2, 0, 0, 0) := by decide +kernel
theorem s41_81 {st : List Value} {M : pj_Mem} {l : pj_Loc} {a0 a1 a2 a3 : Option Value} {x : Int32} : pj_step 41 (81, a0 :: a1 :: a2 :: a3 :: some (.int x) :: l, st, M) = some (83, a0 :: a1 :: a2 :: a3 :: some (.int x) :: l, .int x :: st, M) := st_iload q41_81 rfl
theorem x41_81 {st : List Value} {M : pj_Mem} {l : pj_Loc} {a0 a1 a2 a3 : Option Value} {x : Int32} {o9 : Option Value × pj_Mem} : pj_Ends 41 (81, a0 :: a1 :: a2 :: a3 :: some (.int x) :: l, st, M) o9 = pj_Ends 41 (83, a0 :: a1 :: a2 :: a3 :: some (.int x) :: l, .int x :: st, M) o9 := pj_xs (s41_81)
theorem q41_83 : pj_row 41 83 = some (.iconst 3, 1, 0, 0, 0) := by decide +kernel
theorem s41_83 {L : pj_Loc} {st : List Value} {M : pj_Mem}  : pj_step 41 (83, L, st, M) = some (84, L, .int 3 :: st, M) := st_iconst q41_83 (by decide +kernel)
theorem x41_83 {L : pj_Loc} {st : List Value} {M : pj_Mem}  {o9 : Option Value × pj_Mem} : pj_Ends 41 (83, L, st, M) o9 = pj_Ends 41 (84, L, .int 3 :: st, M) o9 := pj_xs (s41_83)
theorem q41_84 : pj_row 41 84 = some (.ishr, 1, 0, 0, 0) := by decide +kernel
theorem s41_84 {L : pj_Loc} {st : List Value} {M : pj_Mem} {x y : Int32} : pj_step 41 (84, L, .int y :: .int x :: st, M) = some (85, L, .int (x >>> (y &&& 31)) :: st, M) := st_ishr q41_84
theorem x41_84 {L : pj_Loc} {st : List Value} {M : pj_Mem} {x y : Int32} {o9 : Option Value × pj_Mem} : pj_Ends 41 (84, L, .int y :: .int x :: st, M) o9 = pj_Ends 41 (85, L, .int (x >>> (y &&& 31)) :: st, M) o9 := pj_xs (s41_84)
theorem q41_85 : pj_row 41 85 = some (.bipush 9, 2, 0, 0, 0) := by decide +kernel
theorem s41_85 {L : pj_Loc} {st : List Value} {M : pj_Mem}  : pj_step 41 (85, L, st, M) = some (87, L, .int 9 :: st, M) := st_bipush q41_85 (by decide +kernel)
theorem x41_85 {L : pj_Loc} {st : List Value} {M : pj_Mem}  {o9 : Option Value × pj_Mem} : pj_Ends 41 (85, L, st, M) o9 = pj_Ends 41 (87, L, .int 9 :: st, M) o9 := pj_xs (s41_85)
theorem q41_87 : pj_row 41 87 = some (.invokestatic 25, 3, 40, 2, 0) := by decide +kernel
theorem e41_87 {L : pj_Loc} {st : List Value} {N S : Nat} {H : pj_Heap} {o : Option Value × pj_Mem} {M' : pj_Mem} {x0 : Int32} {x1 : Int32} {r : Int32} (h4 : pj_le4 st = true) (h1 : pj_Ends 40 (0, [some (.int x0), some (.int x1)], [], (N, S, H)) (some (.int r), M')) (h2 : pj_Ends 41 (90, L, .int r :: st, M') o) : pj_Ends 41 (87, L, .int x1 :: .int x0 :: st, (N, S, H)) o := ec_s2 q41_87 (Or.inl rfl) h4 rfl h1 h2
theorem q41_90 : pj_row 41 90 = some (.iadd, 1, 0, 0, 0) := by decide +kernel
theorem s41_90 {L : pj_Loc} {st : List Value} {M : pj_Mem} {x y : Int32} : pj_step 41 (90, L, .int y :: .int x :: st, M) = some (91, L, .int (x + y) :: st, M) := st_iadd q41_90
theorem x41_90 {L : pj_Loc} {st : List Value} {M : pj_Mem} {x y : Int32} {o9 : Option Value × pj_Mem} : pj_Ends 41 (90, L, .int y :: .int x :: st, M) o9 = pj_Ends 41 (91, L, .int (x + y) :: st, M) o9 := pj_xs (s41_90)
theorem q41_91 : pj_row 41 91 = some (.goto 14, 3, 105, 0, 0) := by decide +kernel
theorem s41_91 {L : pj_Loc} {st : List Value} {M : pj_Mem}  : pj_step 41 (91, L, st, M) = some (105, L, st, M) := st_goto q41_91
theorem x41_91 {L : pj_Loc} {st : List Value} {M : pj_Mem}  {o9 : Option Value × pj_Mem} : pj_Ends 41 (91, L, st, M) o9 = pj_Ends 41 (105, L, st, M) o9 := pj_xs (s41_91)
theorem q41_94 : pj_row 41 94 = some (.iconst 1, 1, 0, 0, 0) := by decide +kernel
theorem s41_94 {L : pj_Loc} {st : List Value} {M : pj_Mem}  : pj_step 41 (94, L, st, M) = some (95, L, .int 1 :: st, M) := st_iconst q41_94 (by decide +kernel)
theorem x41_94 {L : pj_Loc} {st : List Value} {M : pj_Mem}  {o9 : Option Value × pj_Mem} : pj_Ends 41 (94, L, st, M) o9 = pj_Ends 41 (95, L, .int 1 :: st, M) o9 := pj_xs (s41_94)
theorem q41_95 : pj_row 41 95 = some (.iload 4, 2, 0, 0, 0) := by decide +kernel
theorem s41_95 {st : List Value} {M : pj_Mem} {l : pj_Loc} {a0 a1 a2 a3 : Option Value} {x : Int32} : pj_step 41 (95, a0 :: a1 :: a2 :: a3 :: some (.int x) :: l, st, M) = some (97, a0 :: a1 :: a2 :: a3 :: some (.int x) :: l, .int x :: st, M) := st_iload q41_95 rfl
theorem x41_95 {st : List Value} {M : pj_Mem} {l : pj_Loc} {a0 a1 a2 a3 : Option Value} {x : Int32} {o9 : Option Value × pj_Mem} : pj_Ends 41 (95, a0 :: a1 :: a2 :: a3 :: some (.int x) :: l, st, M) o9 = pj_Ends 41 (97, a0 :: a1 :: a2 :: a3 :: some (.int x) :: l, .int x :: st, M) o9 := pj_xs (s41_95)
theorem q41_97 : pj_row 41 97 = some (.iconst 3, 1, 0, 0, 0) := by decide +kernel
theorem s41_97 {L : pj_Loc} {st : List Value} {M : pj_Mem}  : pj_step 41 (97, L, st, M) = some (98, L, .int 3 :: st, M) := st_iconst q41_97 (by decide +kernel)
theorem x41_97 {L : pj_Loc} {st : List Value} {M : pj_Mem}  {o9 : Option Value × pj_Mem} : pj_Ends 41 (97, L, st, M) o9 = pj_Ends 41 (98, L, .int 3 :: st, M) o9 := pj_xs (s41_97)
theorem q41_98 : pj_row 41 98 = some (.ishr, 1, 0, 0, 0) := by decide +kernel
theorem s41_98 {L : pj_Loc} {st : List Value} {M : pj_Mem} {x y : Int32} : pj_step 41 (98, L, .int y :: .int x :: st, M) = some (99, L, .int (x >>> (y &&& 31)) :: st, M) := st_ishr q41_98
theorem x41_98 {L : pj_Loc} {st : List Value} {M : pj_Mem} {x y : Int32} {o9 : Option Value × pj_Mem} : pj_Ends 41 (98, L, .int y :: .int x :: st, M) o9 = pj_Ends 41 (99, L, .int (x >>> (y &&& 31)) :: st, M) o9 := pj_xs (s41_98)
theorem q41_99 : pj_row 41 99 = some (.bipush 20, 2, 0, 0, 0) := by decide +kernel
theorem s41_99 {L : pj_Loc} {st : List Value} {M : pj_Mem}  : pj_step 41 (99, L, st, M) = some (101, L, .int 20 :: st, M) := st_bipush q41_99 (by decide +kernel)
theorem x41_99 {L : pj_Loc} {st : List Value} {M : pj_Mem}  {o9 : Option Value × pj_Mem} : pj_Ends 41 (99, L, st, M) o9 = pj_Ends 41 (101, L, .int 20 :: st, M) o9 := pj_xs (s41_99)
theorem q41_101 : pj_row 41 101 = some (.invokestatic 25, 3, 40, 2, 0) := by decide +kernel
theorem e41_101 {L : pj_Loc} {st : List Value} {N S : Nat} {H : pj_Heap} {o : Option Value × pj_Mem} {M' : pj_Mem} {x0 : Int32} {x1 : Int32} {r : Int32} (h4 : pj_le4 st = true) (h1 : pj_Ends 40 (0, [some (.int x0), some (.int x1)], [], (N, S, H)) (some (.int r), M')) (h2 : pj_Ends 41 (104, L, .int r :: st, M') o) : pj_Ends 41 (101, L, .int x1 :: .int x0 :: st, (N, S, H)) o := ec_s2 q41_101 (Or.inl rfl) h4 rfl h1 h2
theorem q41_104 : pj_row 41 104 = some (.iadd, 1, 0, 0, 0) := by decide +kernel
theorem s41_104 {L : pj_Loc} {st : List Value} {M : pj_Mem} {x y : Int32} : pj_step 41 (104, L, .int y :: .int x :: st, M) = some (105, L, .int (x + y) :: st, M) := st_iadd q41_104
theorem x41_104 {L : pj_Loc} {st : List Value} {M : pj_Mem} {x y : Int32} {o9 : Option Value × pj_Mem} : pj_Ends 41 (104, L, .int y :: .int x :: st, M) o9 = pj_Ends 41 (105, L, .int (x + y) :: st, M) o9 := pj_xs (s41_104)
theorem q41_105 : pj_row 41 105 = some (.istore 6, 2, 0, 0, 0) := by decide +kernel
theorem s41_105 {st : List Value} {M : pj_Mem} {l : pj_Loc} {a0 a1 a2 a3 a4 a5 a6 : Option Value} {x : Int32} (h : pj_long a5 = false) : pj_step 41 (105, a0 :: a1 :: a2 :: a3 :: a4 :: a5 :: a6 :: l, .int x :: st, M) = some (107, a0 :: a1 :: a2 :: a3 :: a4 :: a5 :: some (.int x) :: l, st, M) := st_istore q41_105 (pj_st_6 h)
theorem x41_105 {st : List Value} {M : pj_Mem} {l : pj_Loc} {a0 a1 a2 a3 a4 a5 a6 : Option Value} {x : Int32} (h : pj_long a5 = false) {o9 : Option Value × pj_Mem} : pj_Ends 41 (105, a0 :: a1 :: a2 :: a3 :: a4 :: a5 :: a6 :: l, .int x :: st, M) o9 = pj_Ends 41 (107, a0 :: a1 :: a2 :: a3 :: a4 :: a5 :: some (.int x) :: l, st, M) o9 := pj_xs (s41_105 h)
theorem q41_107 : pj_row 41 107 = some (.aload_n 0, 1, 0, 0, 0) := by decide +kernel
theorem s41_107 {st : List Value} {M : pj_Mem} {l : pj_Loc} {x : Nat} : pj_step 41 (107, some (.ref x) :: l, st, M) = some (108, some (.ref x) :: l, .ref x :: st, M) := st_aload_n q41_107 rfl
theorem x41_107 {st : List Value} {M : pj_Mem} {l : pj_Loc} {x : Nat} {o9 : Option Value × pj_Mem} : pj_Ends 41 (107, some (.ref x) :: l, st, M) o9 = pj_Ends 41 (108, some (.ref x) :: l, .ref x :: st, M) o9 := pj_xs (s41_107)
theorem q41_108 : pj_row 41 108 = some (.iload 5, 2, 0, 0, 0) := by decide +kernel
theorem s41_108 {st : List Value} {M : pj_Mem} {l : pj_Loc} {a0 a1 a2 a3 a4 : Option Value} {x : Int32} : pj_step 41 (108, a0 :: a1 :: a2 :: a3 :: a4 :: some (.int x) :: l, st, M) = some (110, a0 :: a1 :: a2 :: a3 :: a4 :: some (.int x) :: l, .int x :: st, M) := st_iload q41_108 rfl
theorem x41_108 {st : List Value} {M : pj_Mem} {l : pj_Loc} {a0 a1 a2 a3 a4 : Option Value} {x : Int32} {o9 : Option Value × pj_Mem} : pj_Ends 41 (108, a0 :: a1 :: a2 :: a3 :: a4 :: some (.int x) :: l, st, M) o9 = pj_Ends 41 (110, a0 :: a1 :: a2 :: a3 :: a4 :: some (.int x) :: l, .int x :: st, M) o9 := pj_xs (s41_108)
theorem q41_110 : pj_row 41 110 = some (.iload 6, 2, 0, 0, 0) := by decide +kernel
theorem s41_110 {st : List Value} {M : pj_Mem} {l : pj_Loc} {a0 a1 a2 a3 a4 a5 : Option Value} {x : Int32} : pj_step 41 (110, a0 :: a1 :: a2 :: a3 :: a4 :: a5 :: some (.int x) :: l, st, M) = some (112, a0 :: a1 :: a2 :: a3 :: a4 :: a5 :: some (.int x) :: l, .int x :: st, M) := st_iload q41_110 rfl
theorem x41_110 {st : List Value} {M : pj_Mem} {l : pj_Loc} {a0 a1 a2 a3 a4 a5 : Option Value} {x : Int32} {o9 : Option Value × pj_Mem} : pj_Ends 41 (110, a0 :: a1 :: a2 :: a3 :: a4 :: a5 :: some (.int x) :: l, st, M) o9 = pj_Ends 41 (112, a0 :: a1 :: a2 :: a3 :: a4 :: a5 :: some (.int x) :: l, .int x :: st, M) o9 := pj_xs (s41_110)
theorem q41_112 : pj_row 41 112 = some (.invokevirtual 41, 3, 42, 3, 0) := by decide +kernel
theorem e41_112 {L : pj_Loc} {st : List Value} {N S : Nat} {H : pj_Heap} {o : Option Value × pj_Mem} {M' : pj_Mem} {x0 : Nat} {x1 : Int32} {x2 : Int32} {r : Int32} (h4 : pj_le4 st = true) (hu : pj_isU 5 (H x0) = true) (h1 : pj_Ends 42 (0, [some (.ref x0), some (.int x1), some (.int x2), none], [], (N, S, H)) (some (.int r), M')) (h2 : pj_Ends 41 (115, L, .int r :: st, M') o) : pj_Ends 41 (112, L, .int x2 :: .int x1 :: .ref x0 :: st, (N, S, H)) o := ec_v3 q41_112 (Or.inl rfl) h4 hu rfl h1 h2
theorem q41_115 : pj_row 41 115 = some (.aload_n 1, 1, 0, 0, 0) := by decide +kernel
theorem s41_115 {st : List Value} {M : pj_Mem} {l : pj_Loc} {a0 : Option Value} {x : Nat} : pj_step 41 (115, a0 :: some (.ref x) :: l, st, M) = some (116, a0 :: some (.ref x) :: l, .ref x :: st, M) := st_aload_n q41_115 rfl
theorem x41_115 {st : List Value} {M : pj_Mem} {l : pj_Loc} {a0 : Option Value} {x : Nat} {o9 : Option Value × pj_Mem} : pj_Ends 41 (115, a0 :: some (.ref x) :: l, st, M) o9 = pj_Ends 41 (116, a0 :: some (.ref x) :: l, .ref x :: st, M) o9 := pj_xs (s41_115)
theorem q41_116 : pj_row 41 116 = some (.iload 5, 2, 0, 0, 0) := by decide +kernel
theorem s41_116 {st : List Value} {M : pj_Mem} {l : pj_Loc} {a0 a1 a2 a3 a4 : Option Value} {x : Int32} : pj_step 41 (116, a0 :: a1 :: a2 :: a3 :: a4 :: some (.int x) :: l, st, M) = some (118, a0 :: a1 :: a2 :: a3 :: a4 :: some (.int x) :: l, .int x :: st, M) := st_iload q41_116 rfl
theorem x41_116 {st : List Value} {M : pj_Mem} {l : pj_Loc} {a0 a1 a2 a3 a4 : Option Value} {x : Int32} {o9 : Option Value × pj_Mem} : pj_Ends 41 (116, a0 :: a1 :: a2 :: a3 :: a4 :: some (.int x) :: l, st, M) o9 = pj_Ends 41 (118, a0 :: a1 :: a2 :: a3 :: a4 :: some (.int x) :: l, .int x :: st, M) o9 := pj_xs (s41_116)
theorem q41_118 : pj_row 41 118 = some (.iload 6, 2, 0, 0, 0) := by decide +kernel
theorem s41_118 {st : List Value} {M : pj_Mem} {l : pj_Loc} {a0 a1 a2 a3 a4 a5 : Option Value} {x : Int32} : pj_step 41 (118, a0 :: a1 :: a2 :: a3 :: a4 :: a5 :: some (.int x) :: l, st, M) = some (120, a0 :: a1 :: a2 :: a3 :: a4 :: a5 :: some (.int x) :: l, .int x :: st, M) := st_iload q41_118 rfl
theorem x41_118 {st : List Value} {M : pj_Mem} {l : pj_Loc} {a0 a1 a2 a3 a4 a5 : Option Value} {x : Int32} {o9 : Option Value × pj_Mem} : pj_Ends 41 (118, a0 :: a1 :: a2 :: a3 :: a4 :: a5 :: some (.int x) :: l, st, M) o9 = pj_Ends 41 (120, a0 :: a1 :: a2 :: a3 :: a4 :: a5 :: some (.int x) :: l, .int x :: st, M) o9 := pj_xs (s41_118)
theorem q41_120 : pj_row 41 120 = some (.invokevirtual 41, 3, 42, 3, 0) := by decide +kernel
theorem e41_120 {L : pj_Loc} {st : List Value} {N S : Nat} {H : pj_Heap} {o : Option Value × pj_Mem} {M' : pj_Mem} {x0 : Nat} {x1 : Int32} {x2 : Int32} {r : Int32} (h4 : pj_le4 st = true) (hu : pj_isU 5 (H x0) = true) (h1 : pj_Ends 42 (0, [some (.ref x0), some (.int x1), some (.int x2), none], [], (N, S, H)) (some (.int r), M')) (h2 : pj_Ends 41 (123, L, .int r :: st, M') o) : pj_Ends 41 (120, L, .int x2 :: .int x1 :: .ref x0 :: st, (N, S, H)) o := ec_v3 q41_120 (Or.inl rfl) h4 hu rfl h1 h2
theorem q41_123 : pj_row 41 123 = some (.if_icmp .ne 7, 3, 130, 0, 0) := by decide +kernel
theorem s41_123 {L : pj_Loc} {st : List Value} {M : pj_Mem} {x y : Int32} : pj_step 41 (123, L, .int y :: .int x :: st, M) = some (if ¬ x = y then 130 else 126, L, st, M) := st_icmp_ne q41_123
theorem x41_123 {L : pj_Loc} {st : List Value} {M : pj_Mem} {x y : Int32} {o9 : Option Value × pj_Mem} : pj_Ends 41 (123, L, .int y :: .int x :: st, M) o9 = pj_Ends 41 (if ¬ x = y then 130 else 126, L, st, M) o9 := pj_xs (s41_123)
theorem q41_126 : pj_row 41 126 = some (.iconst 1, 1, 0, 0, 0) := by decide +kernel
theorem s41_126 {L : pj_Loc} {st : List Value} {M : pj_Mem}  : pj_step 41 (126, L, st, M) = some (127, L, .int 1 :: st, M) := st_iconst q41_126 (by decide +kernel)
theorem x41_126 {L : pj_Loc} {st : List Value} {M : pj_Mem}  {o9 : Option Value × pj_Mem} : pj_Ends 41 (126, L, st, M) o9 = pj_Ends 41 (127, L, .int 1 :: st, M) o9 := pj_xs (s41_126)
theorem q41_127 : pj_row 41 127 = some (.goto 4, 3, 131, 0, 0) := by decide +kernel
theorem s41_127 {L : pj_Loc} {st : List Value} {M : pj_Mem}  : pj_step 41 (127, L, st, M) = some (131, L, st, M) := st_goto q41_127
theorem x41_127 {L : pj_Loc} {st : List Value} {M : pj_Mem}  {o9 : Option Value × pj_Mem} : pj_Ends 41 (127, L, st, M) o9 = pj_Ends 41 (131, L, st, M) o9 := pj_xs (s41_127)
theorem q41_130 : pj_row 41 130 = some (.iconst 0, 1, 0, 0, 0) := by decide +kernel
theorem s41_130 {L : pj_Loc} {st : List Value} {M : pj_Mem}  : pj_step 41 (130, L, st, M) = some (131, L, .int 0 :: st, M) := st_iconst q41_130 (by decide +kernel)
theorem x41_130 {L : pj_Loc} {st : List Value} {M : pj_Mem}  {o9 : Option Value × pj_Mem} : pj_Ends 41 (130, L, st, M) o9 = pj_Ends 41 (131, L, .int 0 :: st, M) o9 := pj_xs (s41_130)
theorem q41_131 : pj_row 41 131 = some (.ireturn, 1, 0, 0, 0) := by decide +kernel
theorem t41_131 {L : pj_Loc} {M : pj_Mem} {v : Int32} (hv : v = 0 ∨ v = 1) : pj_Ends 41 (131, L, [.int v], M) (some (.int v), M) := pj_Ends.ret q41_131 (pj_rtn_z rt41 hv)
theorem q41_132 : pj_row 41 132 = some (.aload_n 0, 1, 0, 0, 0) := by decide +kernel
theorem s41_132 {st : List Value} {M : pj_Mem} {l : pj_Loc} {x : Nat} : pj_step 41 (132, some (.ref x) :: l, st, M) = some (133, some (.ref x) :: l, .ref x :: st, M) := st_aload_n q41_132 rfl
theorem x41_132 {st : List Value} {M : pj_Mem} {l : pj_Loc} {x : Nat} {o9 : Option Value × pj_Mem} : pj_Ends 41 (132, some (.ref x) :: l, st, M) o9 = pj_Ends 41 (133, some (.ref x) :: l, .ref x :: st, M) o9 := pj_xs (s41_132)
theorem q41_133 : pj_row 41 133 = some (.iload 4, 2, 0, 0, 0) := by decide +kernel
theorem s41_133 {st : List Value} {M : pj_Mem} {l : pj_Loc} {a0 a1 a2 a3 : Option Value} {x : Int32} : pj_step 41 (133, a0 :: a1 :: a2 :: a3 :: some (.int x) :: l, st, M) = some (135, a0 :: a1 :: a2 :: a3 :: some (.int x) :: l, .int x :: st, M) := st_iload q41_133 rfl
theorem x41_133 {st : List Value} {M : pj_Mem} {l : pj_Loc} {a0 a1 a2 a3 : Option Value} {x : Int32} {o9 : Option Value × pj_Mem} : pj_Ends 41 (133, a0 :: a1 :: a2 :: a3 :: some (.int x) :: l, st, M) o9 = pj_Ends 41 (135, a0 :: a1 :: a2 :: a3 :: some (.int x) :: l, .int x :: st, M) o9 := pj_xs (s41_133)
theorem q41_135 : pj_row 41 135 = some (.iconst 3, 1, 0, 0, 0) := by decide +kernel
theorem s41_135 {L : pj_Loc} {st : List Value} {M : pj_Mem}  : pj_step 41 (135, L, st, M) = some (136, L, .int 3 :: st, M) := st_iconst q41_135 (by decide +kernel)
theorem x41_135 {L : pj_Loc} {st : List Value} {M : pj_Mem}  {o9 : Option Value × pj_Mem} : pj_Ends 41 (135, L, st, M) o9 = pj_Ends 41 (136, L, .int 3 :: st, M) o9 := pj_xs (s41_135)
theorem q41_136 : pj_row 41 136 = some (.invokestatic 25, 3, 40, 2, 0) := by decide +kernel
theorem e41_136 {L : pj_Loc} {st : List Value} {N S : Nat} {H : pj_Heap} {o : Option Value × pj_Mem} {M' : pj_Mem} {x0 : Int32} {x1 : Int32} {r : Int32} (h4 : pj_le4 st = true) (h1 : pj_Ends 40 (0, [some (.int x0), some (.int x1)], [], (N, S, H)) (some (.int r), M')) (h2 : pj_Ends 41 (139, L, .int r :: st, M') o) : pj_Ends 41 (136, L, .int x1 :: .int x0 :: st, (N, S, H)) o := ec_s2 q41_136 (Or.inl rfl) h4 rfl h1 h2
theorem q41_139 : pj_row 41 139 = some (.iload 4, 2, 0, 0, 0) := by decide +kernel
theorem s41_139 {st : List Value} {M : pj_Mem} {l : pj_Loc} {a0 a1 a2 a3 : Option Value} {x : Int32} : pj_step 41 (139, a0 :: a1 :: a2 :: a3 :: some (.int x) :: l, st, M) = some (141, a0 :: a1 :: a2 :: a3 :: some (.int x) :: l, .int x :: st, M) := st_iload q41_139 rfl
theorem x41_139 {st : List Value} {M : pj_Mem} {l : pj_Loc} {a0 a1 a2 a3 : Option Value} {x : Int32} {o9 : Option Value × pj_Mem} : pj_Ends 41 (139, a0 :: a1 :: a2 :: a3 :: some (.int x) :: l, st, M) o9 = pj_Ends 41 (141, a0 :: a1 :: a2 :: a3 :: some (.int x) :: l, .int x :: st, M) o9 := pj_xs (s41_139)
theorem q41_141 : pj_row 41 141 = some (.iconst 2, 1, 0, 0, 0) := by decide +kernel
theorem s41_141 {L : pj_Loc} {st : List Value} {M : pj_Mem}  : pj_step 41 (141, L, st, M) = some (142, L, .int 2 :: st, M) := st_iconst q41_141 (by decide +kernel)
theorem x41_141 {L : pj_Loc} {st : List Value} {M : pj_Mem}  {o9 : Option Value × pj_Mem} : pj_Ends 41 (141, L, st, M) o9 = pj_Ends 41 (142, L, .int 2 :: st, M) o9 := pj_xs (s41_141)
theorem q41_142 : pj_row 41 142 = some (.ishr, 1, 0, 0, 0) := by decide +kernel
theorem s41_142 {L : pj_Loc} {st : List Value} {M : pj_Mem} {x y : Int32} : pj_step 41 (142, L, .int y :: .int x :: st, M) = some (143, L, .int (x >>> (y &&& 31)) :: st, M) := st_ishr q41_142
theorem x41_142 {L : pj_Loc} {st : List Value} {M : pj_Mem} {x y : Int32} {o9 : Option Value × pj_Mem} : pj_Ends 41 (142, L, .int y :: .int x :: st, M) o9 = pj_Ends 41 (143, L, .int (x >>> (y &&& 31)) :: st, M) o9 := pj_xs (s41_142)
theorem q41_143 : pj_row 41 143 = some (.iconst 2, 1, 0, 0, 0) := by decide +kernel
theorem s41_143 {L : pj_Loc} {st : List Value} {M : pj_Mem}  : pj_step 41 (143, L, st, M) = some (144, L, .int 2 :: st, M) := st_iconst q41_143 (by decide +kernel)
theorem x41_143 {L : pj_Loc} {st : List Value} {M : pj_Mem}  {o9 : Option Value × pj_Mem} : pj_Ends 41 (143, L, st, M) o9 = pj_Ends 41 (144, L, .int 2 :: st, M) o9 := pj_xs (s41_143)
theorem q41_144 : pj_row 41 144 = some (.invokestatic 25, 3, 40, 2, 0) := by decide +kernel
theorem e41_144 {L : pj_Loc} {st : List Value} {N S : Nat} {H : pj_Heap} {o : Option Value × pj_Mem} {M' : pj_Mem} {x0 : Int32} {x1 : Int32} {r : Int32} (h4 : pj_le4 st = true) (h1 : pj_Ends 40 (0, [some (.int x0), some (.int x1)], [], (N, S, H)) (some (.int r), M')) (h2 : pj_Ends 41 (147, L, .int r :: st, M') o) : pj_Ends 41 (144, L, .int x1 :: .int x0 :: st, (N, S, H)) o := ec_s2 q41_144 (Or.inl rfl) h4 rfl h1 h2
theorem q41_147 : pj_row 41 147 = some (.ifCond .ne 7, 3, 154, 0, 0) := by decide +kernel
theorem s41_147 {L : pj_Loc} {st : List Value} {M : pj_Mem} {x : Int32} : pj_step 41 (147, L, .int x :: st, M) = some (if ¬ x = 0 then 154 else 150, L, st, M) := st_if_ne q41_147
theorem x41_147 {L : pj_Loc} {st : List Value} {M : pj_Mem} {x : Int32} {o9 : Option Value × pj_Mem} : pj_Ends 41 (147, L, .int x :: st, M) o9 = pj_Ends 41 (if ¬ x = 0 then 154 else 150, L, st, M) o9 := pj_xs (s41_147)
theorem q41_150 : pj_row 41 150 = some (.iconst 1, 1, 0, 0, 0) := by decide +kernel
theorem s41_150 {L : pj_Loc} {st : List Value} {M : pj_Mem}  : pj_step 41 (150, L, st, M) = some (151, L, .int 1 :: st, M) := st_iconst q41_150 (by decide +kernel)
theorem x41_150 {L : pj_Loc} {st : List Value} {M : pj_Mem}  {o9 : Option Value × pj_Mem} : pj_Ends 41 (150, L, st, M) o9 = pj_Ends 41 (151, L, .int 1 :: st, M) o9 := pj_xs (s41_150)
theorem q41_151 : pj_row 41 151 = some (.goto 4, 3, 155, 0, 0) := by decide +kernel
theorem s41_151 {L : pj_Loc} {st : List Value} {M : pj_Mem}  : pj_step 41 (151, L, st, M) = some (155, L, st, M) := st_goto q41_151
theorem x41_151 {L : pj_Loc} {st : List Value} {M : pj_Mem}  {o9 : Option Value × pj_Mem} : pj_Ends 41 (151, L, st, M) o9 = pj_Ends 41 (155, L, st, M) o9 := pj_xs (s41_151)
theorem q41_154 : pj_row 41 154 = some (.iconst 0, 1, 0, 0, 0) := by decide +kernel
theorem s41_154 {L : pj_Loc} {st : List Value} {M : pj_Mem}  : pj_step 41 (154, L, st, M) = some (155, L, .int 0 :: st, M) := st_iconst q41_154 (by decide +kernel)
theorem x41_154 {L : pj_Loc} {st : List Value} {M : pj_Mem}  {o9 : Option Value × pj_Mem} : pj_Ends 41 (154, L, st, M) o9 = pj_Ends 41 (155, L, .int 0 :: st, M) o9 := pj_xs (s41_154)
theorem q41_155 : pj_row 41 155 = some (.invokevirtual 44, 3, 44, 3, 0) := by decide +kernel
theorem e41_155 {L : pj_Loc} {st : List Value} {N S : Nat} {H : pj_Heap} {o : Option Value × pj_Mem} {M' : pj_Mem} {x0 : Nat} {x1 : Int32} {x2 : Int32} {r : Int32} (h4 : pj_le4 st = true) (hu : pj_isU 5 (H x0) = true) (h1 : pj_Ends 44 (0, [some (.ref x0), some (.int x1), some (.int x2)], [], (N, S, H)) (some (.int r), M')) (h2 : pj_Ends 41 (158, L, .int r :: st, M') o) : pj_Ends 41 (155, L, .int x2 :: .int x1 :: .ref x0 :: st, (N, S, H)) o := ec_v3 q41_155 (Or.inl rfl) h4 hu rfl h1 h2
theorem q41_158 : pj_row 41 158 = some (.aload_n 1, 1, 0, 0, 0) := by decide +kernel
theorem s41_158 {st : List Value} {M : pj_Mem} {l : pj_Loc} {a0 : Option Value} {x : Nat} : pj_step 41 (158, a0 :: some (.ref x) :: l, st, M) = some (159, a0 :: some (.ref x) :: l, .ref x :: st, M) := st_aload_n q41_158 rfl
theorem x41_158 {st : List Value} {M : pj_Mem} {l : pj_Loc} {a0 : Option Value} {x : Nat} {o9 : Option Value × pj_Mem} : pj_Ends 41 (158, a0 :: some (.ref x) :: l, st, M) o9 = pj_Ends 41 (159, a0 :: some (.ref x) :: l, .ref x :: st, M) o9 := pj_xs (s41_158)
theorem q41_159 : pj_row 41 159 = some (.iload 4, 2, 0, 0, 0) := by decide +kernel
theorem s41_159 {st : List Value} {M : pj_Mem} {l : pj_Loc} {a0 a1 a2 a3 : Option Value} {x : Int32} : pj_step 41 (159, a0 :: a1 :: a2 :: a3 :: some (.int x) :: l, st, M) = some (161, a0 :: a1 :: a2 :: a3 :: some (.int x) :: l, .int x :: st, M) := st_iload q41_159 rfl
theorem x41_159 {st : List Value} {M : pj_Mem} {l : pj_Loc} {a0 a1 a2 a3 : Option Value} {x : Int32} {o9 : Option Value × pj_Mem} : pj_Ends 41 (159, a0 :: a1 :: a2 :: a3 :: some (.int x) :: l, st, M) o9 = pj_Ends 41 (161, a0 :: a1 :: a2 :: a3 :: some (.int x) :: l, .int x :: st, M) o9 := pj_xs (s41_159)
theorem q41_161 : pj_row 41 161 = some (.iconst 3, 1, 0, 0, 0) := by decide +kernel
theorem s41_161 {L : pj_Loc} {st : List Value} {M : pj_Mem}  : pj_step 41 (161, L, st, M) = some (162, L, .int 3 :: st, M) := st_iconst q41_161 (by decide +kernel)
theorem x41_161 {L : pj_Loc} {st : List Value} {M : pj_Mem}  {o9 : Option Value × pj_Mem} : pj_Ends 41 (161, L, st, M) o9 = pj_Ends 41 (162, L, .int 3 :: st, M) o9 := pj_xs (s41_161)
theorem q41_162 : pj_row 41 162 = some (.invokestatic 25, 3, 40, 2, 0) := by decide +kernel
theorem e41_162 {L : pj_Loc} {st : List Value} {N S : Nat} {H : pj_Heap} {o : Option Value × pj_Mem} {M' : pj_Mem} {x0 : Int32} {x1 : Int32} {r : Int32} (h4 : pj_le4 st = true) (h1 : pj_Ends 40 (0, [some (.int x0), some (.int x1)], [], (N, S, H)) (some (.int r), M')) (h2 : pj_Ends 41 (165, L, .int r :: st, M') o) : pj_Ends 41 (162, L, .int x1 :: .int x0 :: st, (N, S, H)) o := ec_s2 q41_162 (Or.inl rfl) h4 rfl h1 h2
theorem q41_165 : pj_row 41 165 = some (.iload 4, 2, 0, 0, 0) := by decide +kernel
theorem s41_165 {st : List Value} {M : pj_Mem} {l : pj_Loc} {a0 a1 a2 a3 : Option Value} {x : Int32} : pj_step 41 (165, a0 :: a1 :: a2 :: a3 :: some (.int x) :: l, st, M) = some (167, a0 :: a1 :: a2 :: a3 :: some (.int x) :: l, .int x :: st, M) := st_iload q41_165 rfl
theorem x41_165 {st : List Value} {M : pj_Mem} {l : pj_Loc} {a0 a1 a2 a3 : Option Value} {x : Int32} {o9 : Option Value × pj_Mem} : pj_Ends 41 (165, a0 :: a1 :: a2 :: a3 :: some (.int x) :: l, st, M) o9 = pj_Ends 41 (167, a0 :: a1 :: a2 :: a3 :: some (.int x) :: l, .int x :: st, M) o9 := pj_xs (s41_165)
theorem q41_167 : pj_row 41 167 = some (.iconst 2, 1, 0, 0, 0) := by decide +kernel
theorem s41_167 {L : pj_Loc} {st : List Value} {M : pj_Mem}  : pj_step 41 (167, L, st, M) = some (168, L, .int 2 :: st, M) := st_iconst q41_167 (by decide +kernel)
theorem x41_167 {L : pj_Loc} {st : List Value} {M : pj_Mem}  {o9 : Option Value × pj_Mem} : pj_Ends 41 (167, L, st, M) o9 = pj_Ends 41 (168, L, .int 2 :: st, M) o9 := pj_xs (s41_167)
theorem q41_168 : pj_row 41 168 = some (.ishr, 1, 0, 0, 0) := by decide +kernel
theorem s41_168 {L : pj_Loc} {st : List Value} {M : pj_Mem} {x y : Int32} : pj_step 41 (168, L, .int y :: .int x :: st, M) = some (169, L, .int (x >>> (y &&& 31)) :: st, M) := st_ishr q41_168
theorem x41_168 {L : pj_Loc} {st : List Value} {M : pj_Mem} {x y : Int32} {o9 : Option Value × pj_Mem} : pj_Ends 41 (168, L, .int y :: .int x :: st, M) o9 = pj_Ends 41 (169, L, .int (x >>> (y &&& 31)) :: st, M) o9 := pj_xs (s41_168)
theorem q41_169 : pj_row 41 169 = some (.iconst 2, 1, 0, 0, 0) := by decide +kernel
theorem s41_169 {L : pj_Loc} {st : List Value} {M : pj_Mem}  : pj_step 41 (169, L, st, M) = some (170, L, .int 2 :: st, M) := st_iconst q41_169 (by decide +kernel)
theorem x41_169 {L : pj_Loc} {st : List Value} {M : pj_Mem}  {o9 : Option Value × pj_Mem} : pj_Ends 41 (169, L, st, M) o9 = pj_Ends 41 (170, L, .int 2 :: st, M) o9 := pj_xs (s41_169)
theorem q41_170 : pj_row 41 170 = some (.invokestatic 25, 3, 40, 2, 0) := by decide +kernel
theorem e41_170 {L : pj_Loc} {st : List Value} {N S : Nat} {H : pj_Heap} {o : Option Value × pj_Mem} {M' : pj_Mem} {x0 : Int32} {x1 : Int32} {r : Int32} (h4 : pj_le4 st = true) (h1 : pj_Ends 40 (0, [some (.int x0), some (.int x1)], [], (N, S, H)) (some (.int r), M')) (h2 : pj_Ends 41 (173, L, .int r :: st, M') o) : pj_Ends 41 (170, L, .int x1 :: .int x0 :: st, (N, S, H)) o := ec_s2 q41_170 (Or.inl rfl) h4 rfl h1 h2
theorem q41_173 : pj_row 41 173 = some (.ifCond .ne 7, 3, 180, 0, 0) := by decide +kernel
theorem s41_173 {L : pj_Loc} {st : List Value} {M : pj_Mem} {x : Int32} : pj_step 41 (173, L, .int x :: st, M) = some (if ¬ x = 0 then 180 else 176, L, st, M) := st_if_ne q41_173
theorem x41_173 {L : pj_Loc} {st : List Value} {M : pj_Mem} {x : Int32} {o9 : Option Value × pj_Mem} : pj_Ends 41 (173, L, .int x :: st, M) o9 = pj_Ends 41 (if ¬ x = 0 then 180 else 176, L, st, M) o9 := pj_xs (s41_173)
theorem q41_176 : pj_row 41 176 = some (.iconst 1, 1, 0, 0, 0) := by decide +kernel
theorem s41_176 {L : pj_Loc} {st : List Value} {M : pj_Mem}  : pj_step 41 (176, L, st, M) = some (177, L, .int 1 :: st, M) := st_iconst q41_176 (by decide +kernel)
theorem x41_176 {L : pj_Loc} {st : List Value} {M : pj_Mem}  {o9 : Option Value × pj_Mem} : pj_Ends 41 (176, L, st, M) o9 = pj_Ends 41 (177, L, .int 1 :: st, M) o9 := pj_xs (s41_176)
theorem q41_177 : pj_row 41 177 = some (.goto 4, 3, 181, 0, 0) := by decide +kernel
theorem s41_177 {L : pj_Loc} {st : List Value} {M : pj_Mem}  : pj_step 41 (177, L, st, M) = some (181, L, st, M) := st_goto q41_177
theorem x41_177 {L : pj_Loc} {st : List Value} {M : pj_Mem}  {o9 : Option Value × pj_Mem} : pj_Ends 41 (177, L, st, M) o9 = pj_Ends 41 (181, L, st, M) o9 := pj_xs (s41_177)
theorem q41_180 : pj_row 41 180 = some (.iconst 0, 1, 0, 0, 0) := by decide +kernel
theorem s41_180 {L : pj_Loc} {st : List Value} {M : pj_Mem}  : pj_step 41 (180, L, st, M) = some (181, L, .int 0 :: st, M) := st_iconst q41_180 (by decide +kernel)
theorem x41_180 {L : pj_Loc} {st : List Value} {M : pj_Mem}  {o9 : Option Value × pj_Mem} : pj_Ends 41 (180, L, st, M) o9 = pj_Ends 41 (181, L, .int 0 :: st, M) o9 := pj_xs (s41_180)
theorem q41_181 : pj_row 41 181 = some (.invokevirtual 44, 3, 44, 3, 0) := by decide +kernel
theorem e41_181 {L : pj_Loc} {st : List Value} {N S : Nat} {H : pj_Heap} {o : Option Value × pj_Mem} {M' : pj_Mem} {x0 : Nat} {x1 : Int32} {x2 : Int32} {r : Int32} (h4 : pj_le4 st = true) (hu : pj_isU 5 (H x0) = true) (h1 : pj_Ends 44 (0, [some (.ref x0), some (.int x1), some (.int x2)], [], (N, S, H)) (some (.int r), M')) (h2 : pj_Ends 41 (184, L, .int r :: st, M') o) : pj_Ends 41 (181, L, .int x2 :: .int x1 :: .ref x0 :: st, (N, S, H)) o := ec_v3 q41_181 (Or.inl rfl) h4 hu rfl h1 h2
theorem q41_184 : pj_row 41 184 = some (.if_icmp .ne 7, 3, 191, 0, 0) := by decide +kernel
theorem s41_184 {L : pj_Loc} {st : List Value} {M : pj_Mem} {x y : Int32} : pj_step 41 (184, L, .int y :: .int x :: st, M) = some (if ¬ x = y then 191 else 187, L, st, M) := st_icmp_ne q41_184
theorem x41_184 {L : pj_Loc} {st : List Value} {M : pj_Mem} {x y : Int32} {o9 : Option Value × pj_Mem} : pj_Ends 41 (184, L, .int y :: .int x :: st, M) o9 = pj_Ends 41 (if ¬ x = y then 191 else 187, L, st, M) o9 := pj_xs (s41_184)
theorem q41_187 : pj_row 41 187 = some (.iconst 1, 1, 0, 0, 0) := by decide +kernel
theorem s41_187 {L : pj_Loc} {st : List Value} {M : pj_Mem}  : pj_step 41 (187, L, st, M) = some (188, L, .int 1 :: st, M) := st_iconst q41_187 (by decide +kernel)
theorem x41_187 {L : pj_Loc} {st : List Value} {M : pj_Mem}  {o9 : Option Value × pj_Mem} : pj_Ends 41 (187, L, st, M) o9 = pj_Ends 41 (188, L, .int 1 :: st, M) o9 := pj_xs (s41_187)
theorem q41_188 : pj_row 41 188 = some (.goto 4, 3, 192, 0, 0) := by decide +kernel
theorem s41_188 {L : pj_Loc} {st : List Value} {M : pj_Mem}  : pj_step 41 (188, L, st, M) = some (192, L, st, M) := st_goto q41_188
theorem x41_188 {L : pj_Loc} {st : List Value} {M : pj_Mem}  {o9 : Option Value × pj_Mem} : pj_Ends 41 (188, L, st, M) o9 = pj_Ends 41 (192, L, st, M) o9 := pj_xs (s41_188)
theorem q41_191 : pj_row 41 191 = some (.iconst 0, 1, 0, 0, 0) := by decide +kernel
theorem s41_191 {L : pj_Loc} {st : List Value} {M : pj_Mem}  : pj_step 41 (191, L, st, M) = some (192, L, .int 0 :: st, M) := st_iconst q41_191 (by decide +kernel)
theorem x41_191 {L : pj_Loc} {st : List Value} {M : pj_Mem}  {o9 : Option Value × pj_Mem} : pj_Ends 41 (191, L, st, M) o9 = pj_Ends 41 (192, L, .int 0 :: st, M) o9 := pj_xs (s41_191)
theorem q41_192 : pj_row 41 192 = some (.ireturn, 1, 0, 0, 0) := by decide +kernel
theorem t41_192 {L : pj_Loc} {M : pj_Mem} {v : Int32} (hv : v = 0 ∨ v = 1) : pj_Ends 41 (192, L, [.int v], M) (some (.int v), M) := pj_Ends.ret q41_192 (pj_rtn_z rt41 hv)
theorem q41_193 : pj_row 41 193 = some (.aload_n 0, 1, 0, 0, 0) := by decide +kernel
theorem s41_193 {st : List Value} {M : pj_Mem} {l : pj_Loc} {x : Nat} : pj_step 41 (193, some (.ref x) :: l, st, M) = some (194, some (.ref x) :: l, .ref x :: st, M) := st_aload_n q41_193 rfl
theorem x41_193 {st : List Value} {M : pj_Mem} {l : pj_Loc} {x : Nat} {o9 : Option Value × pj_Mem} : pj_Ends 41 (193, some (.ref x) :: l, st, M) o9 = pj_Ends 41 (194, some (.ref x) :: l, .ref x :: st, M) o9 := pj_xs (s41_193)
theorem q41_194 : pj_row 41 194 = some (.iload 4, 2, 0, 0, 0) := by decide +kernel
theorem s41_194 {st : List Value} {M : pj_Mem} {l : pj_Loc} {a0 a1 a2 a3 : Option Value} {x : Int32} : pj_step 41 (194, a0 :: a1 :: a2 :: a3 :: some (.int x) :: l, st, M) = some (196, a0 :: a1 :: a2 :: a3 :: some (.int x) :: l, .int x :: st, M) := st_iload q41_194 rfl
theorem x41_194 {st : List Value} {M : pj_Mem} {l : pj_Loc} {a0 a1 a2 a3 : Option Value} {x : Int32} {o9 : Option Value × pj_Mem} : pj_Ends 41 (194, a0 :: a1 :: a2 :: a3 :: some (.int x) :: l, st, M) o9 = pj_Ends 41 (196, a0 :: a1 :: a2 :: a3 :: some (.int x) :: l, .int x :: st, M) o9 := pj_xs (s41_194)
theorem q41_196 : pj_row 41 196 = some (.iconst 3, 1, 0, 0, 0) := by decide +kernel
theorem s41_196 {L : pj_Loc} {st : List Value} {M : pj_Mem}  : pj_step 41 (196, L, st, M) = some (197, L, .int 3 :: st, M) := st_iconst q41_196 (by decide +kernel)
theorem x41_196 {L : pj_Loc} {st : List Value} {M : pj_Mem}  {o9 : Option Value × pj_Mem} : pj_Ends 41 (196, L, st, M) o9 = pj_Ends 41 (197, L, .int 3 :: st, M) o9 := pj_xs (s41_196)
theorem q41_197 : pj_row 41 197 = some (.invokestatic 25, 3, 40, 2, 0) := by decide +kernel
theorem e41_197 {L : pj_Loc} {st : List Value} {N S : Nat} {H : pj_Heap} {o : Option Value × pj_Mem} {M' : pj_Mem} {x0 : Int32} {x1 : Int32} {r : Int32} (h4 : pj_le4 st = true) (h1 : pj_Ends 40 (0, [some (.int x0), some (.int x1)], [], (N, S, H)) (some (.int r), M')) (h2 : pj_Ends 41 (200, L, .int r :: st, M') o) : pj_Ends 41 (197, L, .int x1 :: .int x0 :: st, (N, S, H)) o := ec_s2 q41_197 (Or.inl rfl) h4 rfl h1 h2
theorem q41_200 : pj_row 41 200 = some (.invokevirtual 48, 3, 45, 2, 0) := by decide +kernel
theorem e41_200 {L : pj_Loc} {st : List Value} {N S : Nat} {H : pj_Heap} {o : Option Value × pj_Mem} {M' : pj_Mem} {x0 : Nat} {x1 : Int32} {r : Int32} (h4 : pj_le4 st = true) (hu : pj_isU 5 (H x0) = true) (h1 : pj_Ends 45 (0, [some (.ref x0), some (.int x1), none], [], (N, S, H)) (some (.int r), M')) (h2 : pj_Ends 41 (203, L, .int r :: st, M') o) : pj_Ends 41 (200, L, .int x1 :: .ref x0 :: st, (N, S, H)) o := ec_v2 q41_200 (Or.inl rfl) h4 hu rfl h1 h2
theorem q41_203 : pj_row 41 203 = some (.aload_n 1, 1, 0, 0, 0) := by decide +kernel
theorem s41_203 {st : List Value} {M : pj_Mem} {l : pj_Loc} {a0 : Option Value} {x : Nat} : pj_step 41 (203, a0 :: some (.ref x) :: l, st, M) = some (204, a0 :: some (.ref x) :: l, .ref x :: st, M) := st_aload_n q41_203 rfl
theorem x41_203 {st : List Value} {M : pj_Mem} {l : pj_Loc} {a0 : Option Value} {x : Nat} {o9 : Option Value × pj_Mem} : pj_Ends 41 (203, a0 :: some (.ref x) :: l, st, M) o9 = pj_Ends 41 (204, a0 :: some (.ref x) :: l, .ref x :: st, M) o9 := pj_xs (s41_203)
theorem q41_204 : pj_row 41 204 = some (.iload_n 2, 1, 0, 0, 0) := by decide +kernel
theorem s41_204 {st : List Value} {M : pj_Mem} {l : pj_Loc} {a0 a1 : Option Value} {x : Int32} : pj_step 41 (204, a0 :: a1 :: some (.int x) :: l, st, M) = some (205, a0 :: a1 :: some (.int x) :: l, .int x :: st, M) := st_iload_n q41_204 rfl
theorem x41_204 {st : List Value} {M : pj_Mem} {l : pj_Loc} {a0 a1 : Option Value} {x : Int32} {o9 : Option Value × pj_Mem} : pj_Ends 41 (204, a0 :: a1 :: some (.int x) :: l, st, M) o9 = pj_Ends 41 (205, a0 :: a1 :: some (.int x) :: l, .int x :: st, M) o9 := pj_xs (s41_204)
theorem q41_205 : pj_row 41 205 = some (.iload 4, 2, 0, 0, 0) := by decide +kernel
theorem s41_205 {st : List Value} {M : pj_Mem} {l : pj_Loc} {a0 a1 a2 a3 : Option Value} {x : Int32} : pj_step 41 (205, a0 :: a1 :: a2 :: a3 :: some (.int x) :: l, st, M) = some (207, a0 :: a1 :: a2 :: a3 :: some (.int x) :: l, .int x :: st, M) := st_iload q41_205 rfl
theorem x41_205 {st : List Value} {M : pj_Mem} {l : pj_Loc} {a0 a1 a2 a3 : Option Value} {x : Int32} {o9 : Option Value × pj_Mem} : pj_Ends 41 (205, a0 :: a1 :: a2 :: a3 :: some (.int x) :: l, st, M) o9 = pj_Ends 41 (207, a0 :: a1 :: a2 :: a3 :: some (.int x) :: l, .int x :: st, M) o9 := pj_xs (s41_205)
theorem q41_207 : pj_row 41 207 = some (.iconst 3, 1, 0, 0, 0) := by decide +kernel
theorem s41_207 {L : pj_Loc} {st : List Value} {M : pj_Mem}  : pj_step 41 (207, L, st, M) = some (208, L, .int 3 :: st, M) := st_iconst q41_207 (by decide +kernel)
theorem x41_207 {L : pj_Loc} {st : List Value} {M : pj_Mem}  {o9 : Option Value × pj_Mem} : pj_Ends 41 (207, L, st, M) o9 = pj_Ends 41 (208, L, .int 3 :: st, M) o9 := pj_xs (s41_207)
theorem q41_208 : pj_row 41 208 = some (.invokestatic 25, 3, 40, 2, 0) := by decide +kernel
theorem e41_208 {L : pj_Loc} {st : List Value} {N S : Nat} {H : pj_Heap} {o : Option Value × pj_Mem} {M' : pj_Mem} {x0 : Int32} {x1 : Int32} {r : Int32} (h4 : pj_le4 st = true) (h1 : pj_Ends 40 (0, [some (.int x0), some (.int x1)], [], (N, S, H)) (some (.int r), M')) (h2 : pj_Ends 41 (211, L, .int r :: st, M') o) : pj_Ends 41 (208, L, .int x1 :: .int x0 :: st, (N, S, H)) o := ec_s2 q41_208 (Or.inl rfl) h4 rfl h1 h2
theorem q41_211 : pj_row 41 211 = some (.invokestatic 9, 3, 46, 2, 0) := by decide +kernel
theorem e41_211 {L : pj_Loc} {st : List Value} {N S : Nat} {H : pj_Heap} {o : Option Value × pj_Mem} {M' : pj_Mem} {x0 : Int32} {x1 : Int32} {r : Int32} (h4 : pj_le4 st = true) (h1 : pj_Ends 46 (0, [some (.int x0), some (.int x1)], [], (N, S, H)) (some (.int r), M')) (h2 : pj_Ends 41 (214, L, .int r :: st, M') o) : pj_Ends 41 (211, L, .int x1 :: .int x0 :: st, (N, S, H)) o := ec_s2 q41_211 (Or.inl rfl) h4 rfl h1 h2
theorem q41_214 : pj_row 41 214 = some (.invokevirtual 48, 3, 45, 2, 0) := by decide +kernel
theorem e41_214 {L : pj_Loc} {st : List Value} {N S : Nat} {H : pj_Heap} {o : Option Value × pj_Mem} {M' : pj_Mem} {x0 : Nat} {x1 : Int32} {r : Int32} (h4 : pj_le4 st = true) (hu : pj_isU 5 (H x0) = true) (h1 : pj_Ends 45 (0, [some (.ref x0), some (.int x1), none], [], (N, S, H)) (some (.int r), M')) (h2 : pj_Ends 41 (217, L, .int r :: st, M') o) : pj_Ends 41 (214, L, .int x1 :: .ref x0 :: st, (N, S, H)) o := ec_v2 q41_214 (Or.inl rfl) h4 hu rfl h1 h2
theorem q41_217 : pj_row 41 217 = some (.if_icmp .ne 7, 3, 224, 0, 0) := by decide +kernel
theorem s41_217 {L : pj_Loc} {st : List Value} {M : pj_Mem} {x y : Int32} : pj_step 41 (217, L, .int y :: .int x :: st, M) = some (if ¬ x = y then 224 else 220, L, st, M) := st_icmp_ne q41_217
theorem x41_217 {L : pj_Loc} {st : List Value} {M : pj_Mem} {x y : Int32} {o9 : Option Value × pj_Mem} : pj_Ends 41 (217, L, .int y :: .int x :: st, M) o9 = pj_Ends 41 (if ¬ x = y then 224 else 220, L, st, M) o9 := pj_xs (s41_217)
theorem q41_220 : pj_row 41 220 = some (.iconst 1, 1, 0, 0, 0) := by decide +kernel
theorem s41_220 {L : pj_Loc} {st : List Value} {M : pj_Mem}  : pj_step 41 (220, L, st, M) = some (221, L, .int 1 :: st, M) := st_iconst q41_220 (by decide +kernel)
theorem x41_220 {L : pj_Loc} {st : List Value} {M : pj_Mem}  {o9 : Option Value × pj_Mem} : pj_Ends 41 (220, L, st, M) o9 = pj_Ends 41 (221, L, .int 1 :: st, M) o9 := pj_xs (s41_220)
theorem q41_221 : pj_row 41 221 = some (.goto 4, 3, 225, 0, 0) := by decide +kernel
theorem s41_221 {L : pj_Loc} {st : List Value} {M : pj_Mem}  : pj_step 41 (221, L, st, M) = some (225, L, st, M) := st_goto q41_221
theorem x41_221 {L : pj_Loc} {st : List Value} {M : pj_Mem}  {o9 : Option Value × pj_Mem} : pj_Ends 41 (221, L, st, M) o9 = pj_Ends 41 (225, L, st, M) o9 := pj_xs (s41_221)
theorem q41_224 : pj_row 41 224 = some (.iconst 0, 1, 0, 0, 0) := by decide +kernel
theorem s41_224 {L : pj_Loc} {st : List Value} {M : pj_Mem}  : pj_step 41 (224, L, st, M) = some (225, L, .int 0 :: st, M) := st_iconst q41_224 (by decide +kernel)
theorem x41_224 {L : pj_Loc} {st : List Value} {M : pj_Mem}  {o9 : Option Value × pj_Mem} : pj_Ends 41 (224, L, st, M) o9 = pj_Ends 41 (225, L, .int 0 :: st, M) o9 := pj_xs (s41_224)
theorem q41_225 : pj_row 41 225 = some (.ireturn, 1, 0, 0, 0) := by decide +kernel
theorem t41_225 {L : pj_Loc} {M : pj_Mem} {v : Int32} (hv : v = 0 ∨ v = 1) : pj_Ends 41 (225, L, [.int v], M) (some (.int v), M) := pj_Ends.ret q41_225 (pj_rtn_z rt41 hv)
theorem q41_226 : pj_row 41 226 = some (.iload 4, 2, 0, 0, 0) := by decide +kernel
theorem s41_226 {st : List Value} {M : pj_Mem} {l : pj_Loc} {a0 a1 a2 a3 : Option Value} {x : Int32} : pj_step 41 (226, a0 :: a1 :: a2 :: a3 :: some (.int x) :: l, st, M) = some (228, a0 :: a1 :: a2 :: a3 :: some (.int x) :: l, .int x :: st, M) := st_iload q41_226 rfl
theorem x41_226 {st : List Value} {M : pj_Mem} {l : pj_Loc} {a0 a1 a2 a3 : Option Value} {x : Int32} {o9 : Option Value × pj_Mem} : pj_Ends 41 (226, a0 :: a1 :: a2 :: a3 :: some (.int x) :: l, st, M) o9 = pj_Ends 41 (228, a0 :: a1 :: a2 :: a3 :: some (.int x) :: l, .int x :: st, M) o9 := pj_xs (s41_226)
theorem q41_228 : pj_row 41 228 = some (.iconst 3, 1, 0, 0, 0) := by decide +kernel
theorem s41_228 {L : pj_Loc} {st : List Value} {M : pj_Mem}  : pj_step 41 (228, L, st, M) = some (229, L, .int 3 :: st, M) := st_iconst q41_228 (by decide +kernel)
theorem x41_228 {L : pj_Loc} {st : List Value} {M : pj_Mem}  {o9 : Option Value × pj_Mem} : pj_Ends 41 (228, L, st, M) o9 = pj_Ends 41 (229, L, .int 3 :: st, M) o9 := pj_xs (s41_228)
theorem q41_229 : pj_row 41 229 = some (.invokestatic 25, 3, 40, 2, 0) := by decide +kernel
theorem e41_229 {L : pj_Loc} {st : List Value} {N S : Nat} {H : pj_Heap} {o : Option Value × pj_Mem} {M' : pj_Mem} {x0 : Int32} {x1 : Int32} {r : Int32} (h4 : pj_le4 st = true) (h1 : pj_Ends 40 (0, [some (.int x0), some (.int x1)], [], (N, S, H)) (some (.int r), M')) (h2 : pj_Ends 41 (232, L, .int r :: st, M') o) : pj_Ends 41 (229, L, .int x1 :: .int x0 :: st, (N, S, H)) o := ec_s2 q41_229 (Or.inl rfl) h4 rfl h1 h2
theorem q41_232 : pj_row 41 232 = some (.ifCond .gt 14, 3, 246, 0, 0) := by decide +kernel
theorem s41_232 {L : pj_Loc} {st : List Value} {M : pj_Mem} {x : Int32} : pj_step 41 (232, L, .int x :: st, M) = some (if 0 < x then 246 else 235, L, st, M) := st_if_gt q41_232
theorem x41_232 {L : pj_Loc} {st : List Value} {M : pj_Mem} {x : Int32} {o9 : Option Value × pj_Mem} : pj_Ends 41 (232, L, .int x :: st, M) o9 = pj_Ends 41 (if 0 < x then 246 else 235, L, st, M) o9 := pj_xs (s41_232)
theorem q41_235 : pj_row 41 235 = some (.aload_n 0, 1, 0, 0, 0) := by decide +kernel
theorem s41_235 {st : List Value} {M : pj_Mem} {l : pj_Loc} {x : Nat} : pj_step 41 (235, some (.ref x) :: l, st, M) = some (236, some (.ref x) :: l, .ref x :: st, M) := st_aload_n q41_235 rfl
theorem x41_235 {st : List Value} {M : pj_Mem} {l : pj_Loc} {x : Nat} {o9 : Option Value × pj_Mem} : pj_Ends 41 (235, some (.ref x) :: l, st, M) o9 = pj_Ends 41 (236, some (.ref x) :: l, .ref x :: st, M) o9 := pj_xs (s41_235)
theorem q41_236 : pj_row 41 236 = some (.invokevirtual 51, 3, 47, 1, 0) := by decide +kernel
theorem e41_236 {L : pj_Loc} {st : List Value} {N S : Nat} {H : pj_Heap} {o : Option Value × pj_Mem} {M' : pj_Mem} {x0 : Nat} {r : Int32} (h4 : pj_le4 st = true) (hu : pj_isU 5 (H x0) = true) (h1 : pj_Ends 47 (0, [some (.ref x0), none], [], (N, S, H)) (some (.int r), M')) (h2 : pj_Ends 41 (239, L, .int r :: st, M') o) : pj_Ends 41 (236, L, .ref x0 :: st, (N, S, H)) o := ec_v1 q41_236 (Or.inl rfl) h4 hu rfl h1 h2
theorem q41_239 : pj_row 41 239 = some (.aload_n 1, 1, 0, 0, 0) := by decide +kernel
theorem s41_239 {st : List Value} {M : pj_Mem} {l : pj_Loc} {a0 : Option Value} {x : Nat} : pj_step 41 (239, a0 :: some (.ref x) :: l, st, M) = some (240, a0 :: some (.ref x) :: l, .ref x :: st, M) := st_aload_n q41_239 rfl
theorem x41_239 {st : List Value} {M : pj_Mem} {l : pj_Loc} {a0 : Option Value} {x : Nat} {o9 : Option Value × pj_Mem} : pj_Ends 41 (239, a0 :: some (.ref x) :: l, st, M) o9 = pj_Ends 41 (240, a0 :: some (.ref x) :: l, .ref x :: st, M) o9 := pj_xs (s41_239)
theorem q41_240 : pj_row 41 240 = some (.invokevirtual 51, 3, 47, 1, 0) := by decide +kernel
theorem e41_240 {L : pj_Loc} {st : List Value} {N S : Nat} {H : pj_Heap} {o : Option Value × pj_Mem} {M' : pj_Mem} {x0 : Nat} {r : Int32} (h4 : pj_le4 st = true) (hu : pj_isU 5 (H x0) = true) (h1 : pj_Ends 47 (0, [some (.ref x0), none], [], (N, S, H)) (some (.int r), M')) (h2 : pj_Ends 41 (243, L, .int r :: st, M') o) : pj_Ends 41 (240, L, .ref x0 :: st, (N, S, H)) o := ec_v1 q41_240 (Or.inl rfl) h4 hu rfl h1 h2
theorem q41_243 : pj_row 41 243 = some (.if_icmp .ne 7, 3, 250, 0, 0) := by decide +kernel
theorem s41_243 {L : pj_Loc} {st : List Value} {M : pj_Mem} {x y : Int32} : pj_step 41 (243, L, .int y :: .int x :: st, M) = some (if ¬ x = y then 250 else 246, L, st, M) := st_icmp_ne q41_243
theorem x41_243 {L : pj_Loc} {st : List Value} {M : pj_Mem} {x y : Int32} {o9 : Option Value × pj_Mem} : pj_Ends 41 (243, L, .int y :: .int x :: st, M) o9 = pj_Ends 41 (if ¬ x = y then 250 else 246, L, st, M) o9 := pj_xs (s41_243)
theorem q41_246 : pj_row 41 246 = some (.iconst 1, 1, 0, 0, 0) := by decide +kernel
theorem s41_246 {L : pj_Loc} {st : List Value} {M : pj_Mem}  : pj_step 41 (246, L, st, M) = some (247, L, .int 1 :: st, M) := st_iconst q41_246 (by decide +kernel)
theorem x41_246 {L : pj_Loc} {st : List Value} {M : pj_Mem}  {o9 : Option Value × pj_Mem} : pj_Ends 41 (246, L, st, M) o9 = pj_Ends 41 (247, L, .int 1 :: st, M) o9 := pj_xs (s41_246)
theorem q41_247 : pj_row 41 247 = some (.goto 4, 3, 251, 0, 0) := by decide +kernel
theorem s41_247 {L : pj_Loc} {st : List Value} {M : pj_Mem}  : pj_step 41 (247, L, st, M) = some (251, L, st, M) := st_goto q41_247
theorem x41_247 {L : pj_Loc} {st : List Value} {M : pj_Mem}  {o9 : Option Value × pj_Mem} : pj_Ends 41 (247, L, st, M) o9 = pj_Ends 41 (251, L, st, M) o9 := pj_xs (s41_247)
theorem q41_250 : pj_row 41 250 = some (.iconst 0, 1, 0, 0, 0) := by decide +kernel
theorem s41_250 {L : pj_Loc} {st : List Value} {M : pj_Mem}  : pj_step 41 (250, L, st, M) = some (251, L, .int 0 :: st, M) := st_iconst q41_250 (by decide +kernel)
theorem x41_250 {L : pj_Loc} {st : List Value} {M : pj_Mem}  {o9 : Option Value × pj_Mem} : pj_Ends 41 (250, L, st, M) o9 = pj_Ends 41 (251, L, .int 0 :: st, M) o9 := pj_xs (s41_250)
theorem q41_251 : pj_row 41 251 = some (.ireturn, 1, 0, 0, 0) := by decide +kernel
theorem t41_251 {L : pj_Loc} {M : pj_Mem} {v : Int32} (hv : v = 0 ∨ v = 1) : pj_Ends 41 (251, L, [.int v], M) (some (.int v), M) := pj_Ends.ret q41_251 (pj_rtn_z rt41 hv)
theorem q41_252 : pj_row 41 252 = some (.aload_n 0, 1, 0, 0, 0) := by decide +kernel
theorem s41_252 {st : List Value} {M : pj_Mem} {l : pj_Loc} {x : Nat} : pj_step 41 (252, some (.ref x) :: l, st, M) = some (253, some (.ref x) :: l, .ref x :: st, M) := st_aload_n q41_252 rfl
theorem x41_252 {st : List Value} {M : pj_Mem} {l : pj_Loc} {x : Nat} {o9 : Option Value × pj_Mem} : pj_Ends 41 (252, some (.ref x) :: l, st, M) o9 = pj_Ends 41 (253, some (.ref x) :: l, .ref x :: st, M) o9 := pj_xs (s41_252)
theorem q41_253 : pj_row 41 253 = some (.bipush 15, 2, 0, 0, 0) := by decide +kernel
theorem s41_253 {L : pj_Loc} {st : List Value} {M : pj_Mem}  : pj_step 41 (253, L, st, M) = some (255, L, .int 15 :: st, M) := st_bipush q41_253 (by decide +kernel)
theorem x41_253 {L : pj_Loc} {st : List Value} {M : pj_Mem}  {o9 : Option Value × pj_Mem} : pj_Ends 41 (253, L, st, M) o9 = pj_Ends 41 (255, L, .int 15 :: st, M) o9 := pj_xs (s41_253)
theorem q41_255 : pj_row 41 255 = some (.invokevirtual 28, 3, 10, 2, 0) := by decide +kernel
theorem e41_255 {L : pj_Loc} {st : List Value} {N S : Nat} {H : pj_Heap} {o : Option Value × pj_Mem} {M' : pj_Mem} {x0 : Nat} {x1 : Int32} {r : Int32} (h4 : pj_le4 st = true) (hu : pj_isU 5 (H x0) = true) (h1 : pj_Ends 10 (0, [some (.ref x0), some (.int x1)], [], (N, S, H)) (some (.int r), M')) (h2 : pj_Ends 41 (258, L, .int r :: st, M') o) : pj_Ends 41 (255, L, .int x1 :: .ref x0 :: st, (N, S, H)) o := ec_v2 q41_255 (Or.inl rfl) h4 hu rfl h1 h2
theorem q41_258 : pj_row 41 258 = some (.ifCond .eq 14, 3, 272, 0, 0) := by decide +kernel
theorem s41_258 {L : pj_Loc} {st : List Value} {M : pj_Mem} {x : Int32} : pj_step 41 (258, L, .int x :: st, M) = some (if x = 0 then 272 else 261, L, st, M) := st_if_eq q41_258
theorem x41_258 {L : pj_Loc} {st : List Value} {M : pj_Mem} {x : Int32} {o9 : Option Value × pj_Mem} : pj_Ends 41 (258, L, .int x :: st, M) o9 = pj_Ends 41 (if x = 0 then 272 else 261, L, st, M) o9 := pj_xs (s41_258)
theorem q41_261 : pj_row 41 261 = some (.aload_n 0, 1, 0, 0, 0) := by decide +kernel
theorem s41_261 {st : List Value} {M : pj_Mem} {l : pj_Loc} {x : Nat} : pj_step 41 (261, some (.ref x) :: l, st, M) = some (262, some (.ref x) :: l, .ref x :: st, M) := st_aload_n q41_261 rfl
theorem x41_261 {st : List Value} {M : pj_Mem} {l : pj_Loc} {x : Nat} {o9 : Option Value × pj_Mem} : pj_Ends 41 (261, some (.ref x) :: l, st, M) o9 = pj_Ends 41 (262, some (.ref x) :: l, .ref x :: st, M) o9 := pj_xs (s41_261)
theorem q41_262 : pj_row 41 262 = some (.invokevirtual 55, 3, 50, 1, 0) := by decide +kernel
theorem e41_262 {L : pj_Loc} {st : List Value} {N S : Nat} {H : pj_Heap} {o : Option Value × pj_Mem} {M' : pj_Mem} {x0 : Nat} {r : Int32} (h4 : pj_le4 st = true) (hu : pj_isU 5 (H x0) = true) (h1 : pj_Ends 50 (0, [some (.ref x0)], [], (N, S, H)) (some (.int r), M')) (h2 : pj_Ends 41 (265, L, .int r :: st, M') o) : pj_Ends 41 (262, L, .ref x0 :: st, (N, S, H)) o := ec_v1 q41_262 (Or.inl rfl) h4 hu rfl h1 h2
theorem q41_265 : pj_row 41 265 = some (.aload_n 1, 1, 0, 0, 0) := by decide +kernel
theorem s41_265 {st : List Value} {M : pj_Mem} {l : pj_Loc} {a0 : Option Value} {x : Nat} : pj_step 41 (265, a0 :: some (.ref x) :: l, st, M) = some (266, a0 :: some (.ref x) :: l, .ref x :: st, M) := st_aload_n q41_265 rfl
theorem x41_265 {st : List Value} {M : pj_Mem} {l : pj_Loc} {a0 : Option Value} {x : Nat} {o9 : Option Value × pj_Mem} : pj_Ends 41 (265, a0 :: some (.ref x) :: l, st, M) o9 = pj_Ends 41 (266, a0 :: some (.ref x) :: l, .ref x :: st, M) o9 := pj_xs (s41_265)
theorem q41_266 : pj_row 41 266 = some (.invokevirtual 55, 3, 50, 1, 0) := by decide +kernel
theorem e41_266 {L : pj_Loc} {st : List Value} {N S : Nat} {H : pj_Heap} {o : Option Value × pj_Mem} {M' : pj_Mem} {x0 : Nat} {r : Int32} (h4 : pj_le4 st = true) (hu : pj_isU 5 (H x0) = true) (h1 : pj_Ends 50 (0, [some (.ref x0)], [], (N, S, H)) (some (.int r), M')) (h2 : pj_Ends 41 (269, L, .int r :: st, M') o) : pj_Ends 41 (266, L, .ref x0 :: st, (N, S, H)) o := ec_v1 q41_266 (Or.inl rfl) h4 hu rfl h1 h2
theorem q41_269 : pj_row 41 269 = some (.if_icmp .ne 7, 3, 276, 0, 0) := by decide +kernel
theorem s41_269 {L : pj_Loc} {st : List Value} {M : pj_Mem} {x y : Int32} : pj_step 41 (269, L, .int y :: .int x :: st, M) = some (if ¬ x = y then 276 else 272, L, st, M) := st_icmp_ne q41_269
theorem x41_269 {L : pj_Loc} {st : List Value} {M : pj_Mem} {x y : Int32} {o9 : Option Value × pj_Mem} : pj_Ends 41 (269, L, .int y :: .int x :: st, M) o9 = pj_Ends 41 (if ¬ x = y then 276 else 272, L, st, M) o9 := pj_xs (s41_269)
theorem q41_272 : pj_row 41 272 = some (.iconst 1, 1, 0, 0, 0) := by decide +kernel
theorem s41_272 {L : pj_Loc} {st : List Value} {M : pj_Mem}  : pj_step 41 (272, L, st, M) = some (273, L, .int 1 :: st, M) := st_iconst q41_272 (by decide +kernel)
theorem x41_272 {L : pj_Loc} {st : List Value} {M : pj_Mem}  {o9 : Option Value × pj_Mem} : pj_Ends 41 (272, L, st, M) o9 = pj_Ends 41 (273, L, .int 1 :: st, M) o9 := pj_xs (s41_272)
theorem q41_273 : pj_row 41 273 = some (.goto 4, 3, 277, 0, 0) := by decide +kernel
theorem s41_273 {L : pj_Loc} {st : List Value} {M : pj_Mem}  : pj_step 41 (273, L, st, M) = some (277, L, st, M) := st_goto q41_273
theorem x41_273 {L : pj_Loc} {st : List Value} {M : pj_Mem}  {o9 : Option Value × pj_Mem} : pj_Ends 41 (273, L, st, M) o9 = pj_Ends 41 (277, L, st, M) o9 := pj_xs (s41_273)
theorem q41_276 : pj_row 41 276 = some (.iconst 0, 1, 0, 0, 0) := by decide +kernel
theorem s41_276 {L : pj_Loc} {st : List Value} {M : pj_Mem}  : pj_step 41 (276, L, st, M) = some (277, L, .int 0 :: st, M) := st_iconst q41_276 (by decide +kernel)
theorem x41_276 {L : pj_Loc} {st : List Value} {M : pj_Mem}  {o9 : Option Value × pj_Mem} : pj_Ends 41 (276, L, st, M) o9 = pj_Ends 41 (277, L, .int 0 :: st, M) o9 := pj_xs (s41_276)
theorem q41_277 : pj_row 41 277 = some (.ireturn, 1, 0, 0, 0) := by decide +kernel
theorem t41_277 {L : pj_Loc} {M : pj_Mem} {v : Int32} (hv : v = 0 ∨ v = 1) : pj_Ends 41 (277, L, [.int v], M) (some (.int v), M) := pj_Ends.ret q41_277 (pj_rtn_z rt41 hv)
theorem q41_278 : pj_row 41 278 = some (.aload_n 0, 1, 0, 0, 0) := by decide +kernel
theorem s41_278 {st : List Value} {M : pj_Mem} {l : pj_Loc} {x : Nat} : pj_step 41 (278, some (.ref x) :: l, st, M) = some (279, some (.ref x) :: l, .ref x :: st, M) := st_aload_n q41_278 rfl
theorem x41_278 {st : List Value} {M : pj_Mem} {l : pj_Loc} {x : Nat} {o9 : Option Value × pj_Mem} : pj_Ends 41 (278, some (.ref x) :: l, st, M) o9 = pj_Ends 41 (279, some (.ref x) :: l, .ref x :: st, M) o9 := pj_xs (s41_278)
theorem q41_279 : pj_row 41 279 = some (.aload_n 1, 1, 0, 0, 0) := by decide +kernel
theorem s41_279 {st : List Value} {M : pj_Mem} {l : pj_Loc} {a0 : Option Value} {x : Nat} : pj_step 41 (279, a0 :: some (.ref x) :: l, st, M) = some (280, a0 :: some (.ref x) :: l, .ref x :: st, M) := st_aload_n q41_279 rfl
theorem x41_279 {st : List Value} {M : pj_Mem} {l : pj_Loc} {a0 : Option Value} {x : Nat} {o9 : Option Value × pj_Mem} : pj_Ends 41 (279, a0 :: some (.ref x) :: l, st, M) o9 = pj_Ends 41 (280, a0 :: some (.ref x) :: l, .ref x :: st, M) o9 := pj_xs (s41_279)
theorem q41_280 : pj_row 41 280 = some (.iload_n 2, 1, 0, 0, 0) := by decide +kernel
theorem s41_280 {st : List Value} {M : pj_Mem} {l : pj_Loc} {a0 a1 : Option Value} {x : Int32} : pj_step 41 (280, a0 :: a1 :: some (.int x) :: l, st, M) = some (281, a0 :: a1 :: some (.int x) :: l, .int x :: st, M) := st_iload_n q41_280 rfl
theorem x41_280 {st : List Value} {M : pj_Mem} {l : pj_Loc} {a0 a1 : Option Value} {x : Int32} {o9 : Option Value × pj_Mem} : pj_Ends 41 (280, a0 :: a1 :: some (.int x) :: l, st, M) o9 = pj_Ends 41 (281, a0 :: a1 :: some (.int x) :: l, .int x :: st, M) o9 := pj_xs (s41_280)
theorem q41_281 : pj_row 41 281 = some (.iload 4, 2, 0, 0, 0) := by decide +kernel
theorem s41_281 {st : List Value} {M : pj_Mem} {l : pj_Loc} {a0 a1 a2 a3 : Option Value} {x : Int32} : pj_step 41 (281, a0 :: a1 :: a2 :: a3 :: some (.int x) :: l, st, M) = some (283, a0 :: a1 :: a2 :: a3 :: some (.int x) :: l, .int x :: st, M) := st_iload q41_281 rfl
theorem x41_281 {st : List Value} {M : pj_Mem} {l : pj_Loc} {a0 a1 a2 a3 : Option Value} {x : Int32} {o9 : Option Value × pj_Mem} : pj_Ends 41 (281, a0 :: a1 :: a2 :: a3 :: some (.int x) :: l, st, M) o9 = pj_Ends 41 (283, a0 :: a1 :: a2 :: a3 :: some (.int x) :: l, .int x :: st, M) o9 := pj_xs (s41_281)
theorem q41_283 : pj_row 41 283 = some (.invokestatic 58, 3, 51, 4, 0) := by decide +kernel
theorem e41_283 {L : pj_Loc} {st : List Value} {N S : Nat} {H : pj_Heap} {o : Option Value × pj_Mem} {M' : pj_Mem} {x0 : Nat} {x1 : Nat} {x2 : Int32} {x3 : Int32} {r : Int32} (h4 : pj_le4 st = true) (h1 : pj_Ends 51 (0, [some (.ref x0), some (.ref x1), some (.int x2), some (.int x3), none, none, none, none, none, none, none, none, none, none], [], (N, S, H)) (some (.int r), M')) (h2 : pj_Ends 41 (286, L, .int r :: st, M') o) : pj_Ends 41 (283, L, .int x3 :: .int x2 :: .ref x1 :: .ref x0 :: st, (N, S, H)) o := ec_s4 q41_283 (Or.inl rfl) h4 rfl h1 h2
theorem q41_286 : pj_row 41 286 = some (.ireturn, 1, 0, 0, 0) := by decide +kernel
theorem t41_286 {L : pj_Loc} {M : pj_Mem} {v : Int32} (hv : v = 0 ∨ v = 1) : pj_Ends 41 (286, L, [.int v], M) (some (.int v), M) := pj_Ends.ret q41_286 (pj_rtn_z rt41 hv)
theorem rt42 : pj_rt 42 = some .int := rfl
theorem q42_0 : pj_row 42 0 = some (.iload_n 1, 1, 0, 0, 0) := by decide +kernel
theorem s42_0 {st : List Value} {M : pj_Mem} {l : pj_Loc} {a0 : Option Value} {x : Int32} : pj_step 42 (0, a0 :: some (.int x) :: l, st, M) = some (1, a0 :: some (.int x) :: l, .int x :: st, M) := st_iload_n q42_0 rfl
theorem x42_0 {st : List Value} {M : pj_Mem} {l : pj_Loc} {a0 : Option Value} {x : Int32} {o9 : Option Value × pj_Mem} : pj_Ends 42 (0, a0 :: some (.int x) :: l, st, M) o9 = pj_Ends 42 (1, a0 :: some (.int x) :: l, .int x :: st, M) o9 := pj_xs (s42_0)
theorem q42_1 : pj_row 42 1 = some (.ifCond .lt 9, 3, 10, 0, 0) := by decide +kernel
theorem s42_1 {L : pj_Loc} {st : List Value} {M : pj_Mem} {x : Int32} : pj_step 42 (1, L, .int x :: st, M) = some (if x < 0 then 10 else 4, L, st, M) := st_if_lt q42_1
theorem x42_1 {L : pj_Loc} {st : List Value} {M : pj_Mem} {x : Int32} {o9 : Option Value × pj_Mem} : pj_Ends 42 (1, L, .int x :: st, M) o9 = pj_Ends 42 (if x < 0 then 10 else 4, L, st, M) o9 := pj_xs (s42_1)
theorem q42_4 : pj_row 42 4 = some (.iload_n 1, 1, 0, 0, 0) := by decide +kernel
theorem s42_4 {st : List Value} {M : pj_Mem} {l : pj_Loc} {a0 : Option Value} {x : Int32} : pj_step 42 (4, a0 :: some (.int x) :: l, st, M) = some (5, a0 :: some (.int x) :: l, .int x :: st, M) := st_iload_n q42_4 rfl
theorem x42_4 {st : List Value} {M : pj_Mem} {l : pj_Loc} {a0 : Option Value} {x : Int32} {o9 : Option Value × pj_Mem} : pj_Ends 42 (4, a0 :: some (.int x) :: l, st, M) o9 = pj_Ends 42 (5, a0 :: some (.int x) :: l, .int x :: st, M) o9 := pj_xs (s42_4)
theorem q42_5 : pj_row 42 5 = some (.bipush 6, 2, 0, 0, 0) := by decide +kernel
theorem s42_5 {L : pj_Loc} {st : List Value} {M : pj_Mem}  : pj_step 42 (5, L, st, M) = some (7, L, .int 6 :: st, M) := st_bipush q42_5 (by decide +kernel)
theorem x42_5 {L : pj_Loc} {st : List Value} {M : pj_Mem}  {o9 : Option Value × pj_Mem} : pj_Ends 42 (5, L, st, M) o9 = pj_Ends 42 (7, L, .int 6 :: st, M) o9 := pj_xs (s42_5)
theorem q42_7 : pj_row 42 7 = some (.if_icmp .lt 6, 3, 13, 0, 0) := by decide +kernel
theorem s42_7 {L : pj_Loc} {st : List Value} {M : pj_Mem} {x y : Int32} : pj_step 42 (7, L, .int y :: .int x :: st, M) = some (if x < y then 13 else 10, L, st, M) := st_icmp_lt q42_7
theorem x42_7 {L : pj_Loc} {st : List Value} {M : pj_Mem} {x y : Int32} {o9 : Option Value × pj_Mem} : pj_Ends 42 (7, L, .int y :: .int x :: st, M) o9 = pj_Ends 42 (if x < y then 13 else 10, L, st, M) o9 := pj_xs (s42_7)
theorem q42_10 : pj_row 42 10 = some (.bipush (-2), 2, 0, 0, 0) := by decide +kernel
theorem s42_10 {L : pj_Loc} {st : List Value} {M : pj_Mem}  : pj_step 42 (10, L, st, M) = some (12, L, .int (-2) :: st, M) := st_bipush q42_10 (by decide +kernel)
theorem x42_10 {L : pj_Loc} {st : List Value} {M : pj_Mem}  {o9 : Option Value × pj_Mem} : pj_Ends 42 (10, L, st, M) o9 = pj_Ends 42 (12, L, .int (-2) :: st, M) o9 := pj_xs (s42_10)
theorem q42_12 : pj_row 42 12 = some (.ireturn, 1, 0, 0, 0) := by decide +kernel
theorem t42_12 {L : pj_Loc} {M : pj_Mem} {v : Int32} : pj_Ends 42 (12, L, [.int v], M) (some (.int v), M) := pj_Ends.ret q42_12 (pj_rtn_i rt42)
theorem q42_13 : pj_row 42 13 = some (.iload_n 2, 1, 0, 0, 0) := by decide +kernel
theorem s42_13 {st : List Value} {M : pj_Mem} {l : pj_Loc} {a0 a1 : Option Value} {x : Int32} : pj_step 42 (13, a0 :: a1 :: some (.int x) :: l, st, M) = some (14, a0 :: a1 :: some (.int x) :: l, .int x :: st, M) := st_iload_n q42_13 rfl
theorem x42_13 {st : List Value} {M : pj_Mem} {l : pj_Loc} {a0 a1 : Option Value} {x : Int32} {o9 : Option Value × pj_Mem} : pj_Ends 42 (13, a0 :: a1 :: some (.int x) :: l, st, M) o9 = pj_Ends 42 (14, a0 :: a1 :: some (.int x) :: l, .int x :: st, M) o9 := pj_xs (s42_13)
theorem q42_14 : pj_row 42 14 = some (.getstatic 48, 3, 2, 0, 0) := by decide +kernel
theorem s42_14 {L : pj_Loc} {st : List Value} {M : pj_Mem}  : pj_step 42 (14, L, st, M) = some (17, L, .ref 2 :: st, M) := st_getstatic q42_14
theorem x42_14 {L : pj_Loc} {st : List Value} {M : pj_Mem}  {o9 : Option Value × pj_Mem} : pj_Ends 42 (14, L, st, M) o9 = pj_Ends 42 (17, L, .ref 2 :: st, M) o9 := pj_xs (s42_14)
theorem q42_17 : pj_row 42 17 = some (.iload_n 1, 1, 0, 0, 0) := by decide +kernel
theorem s42_17 {st : List Value} {M : pj_Mem} {l : pj_Loc} {a0 : Option Value} {x : Int32} : pj_step 42 (17, a0 :: some (.int x) :: l, st, M) = some (18, a0 :: some (.int x) :: l, .int x :: st, M) := st_iload_n q42_17 rfl
theorem x42_17 {st : List Value} {M : pj_Mem} {l : pj_Loc} {a0 : Option Value} {x : Int32} {o9 : Option Value × pj_Mem} : pj_Ends 42 (17, a0 :: some (.int x) :: l, st, M) o9 = pj_Ends 42 (18, a0 :: some (.int x) :: l, .int x :: st, M) o9 := pj_xs (s42_17)
theorem q42_18 : pj_row 42 18 = some (.iaload, 1, 0, 0, 0) := by decide +kernel
theorem s42_18 {L : pj_Loc} {st : List Value} {N S : Nat} {H : pj_Heap} {o : Nat} {i : Int32} : pj_step 42 (18, L, .int i :: .ref o :: st, (N, S, H)) = pj_pi 19 L st (N, S, H) (pj_arl (H o) 0 i) := st_iaload q42_18
theorem x42_18 {L : pj_Loc} {st : List Value} {N S : Nat} {H : pj_Heap} {o : Nat} {i : Int32} {o9 : Option Value × pj_Mem} : pj_Ends 42 (18, L, .int i :: .ref o :: st, (N, S, H)) o9 = pj_then 42 o9 (pj_pi 19 L st (N, S, H) (pj_arl (H o) 0 i)) := pj_xt q42_18 rfl (pj_cl_nc rfl) (s42_18)
theorem q42_19 : pj_row 42 19 = some (.if_icmp .lt 12, 3, 31, 0, 0) := by decide +kernel
theorem s42_19 {L : pj_Loc} {st : List Value} {M : pj_Mem} {x y : Int32} : pj_step 42 (19, L, .int y :: .int x :: st, M) = some (if x < y then 31 else 22, L, st, M) := st_icmp_lt q42_19
theorem x42_19 {L : pj_Loc} {st : List Value} {M : pj_Mem} {x y : Int32} {o9 : Option Value × pj_Mem} : pj_Ends 42 (19, L, .int y :: .int x :: st, M) o9 = pj_Ends 42 (if x < y then 31 else 22, L, st, M) o9 := pj_xs (s42_19)
theorem q42_22 : pj_row 42 22 = some (.iload_n 2, 1, 0, 0, 0) := by decide +kernel
theorem s42_22 {st : List Value} {M : pj_Mem} {l : pj_Loc} {a0 a1 : Option Value} {x : Int32} : pj_step 42 (22, a0 :: a1 :: some (.int x) :: l, st, M) = some (23, a0 :: a1 :: some (.int x) :: l, .int x :: st, M) := st_iload_n q42_22 rfl
theorem x42_22 {st : List Value} {M : pj_Mem} {l : pj_Loc} {a0 a1 : Option Value} {x : Int32} {o9 : Option Value × pj_Mem} : pj_Ends 42 (22, a0 :: a1 :: some (.int x) :: l, st, M) o9 = pj_Ends 42 (23, a0 :: a1 :: some (.int x) :: l, .int x :: st, M) o9 := pj_xs (s42_22)
theorem q42_23 : pj_row 42 23 = some (.getstatic 52, 3, 3, 0, 0) := by decide +kernel
theorem s42_23 {L : pj_Loc} {st : List Value} {M : pj_Mem}  : pj_step 42 (23, L, st, M) = some (26, L, .ref 3 :: st, M) := st_getstatic q42_23
theorem x42_23 {L : pj_Loc} {st : List Value} {M : pj_Mem}  {o9 : Option Value × pj_Mem} : pj_Ends 42 (23, L, st, M) o9 = pj_Ends 42 (26, L, .ref 3 :: st, M) o9 := pj_xs (s42_23)
theorem q42_26 : pj_row 42 26 = some (.iload_n 1, 1, 0, 0, 0) := by decide +kernel
theorem s42_26 {st : List Value} {M : pj_Mem} {l : pj_Loc} {a0 : Option Value} {x : Int32} : pj_step 42 (26, a0 :: some (.int x) :: l, st, M) = some (27, a0 :: some (.int x) :: l, .int x :: st, M) := st_iload_n q42_26 rfl
theorem x42_26 {st : List Value} {M : pj_Mem} {l : pj_Loc} {a0 : Option Value} {x : Int32} {o9 : Option Value × pj_Mem} : pj_Ends 42 (26, a0 :: some (.int x) :: l, st, M) o9 = pj_Ends 42 (27, a0 :: some (.int x) :: l, .int x :: st, M) o9 := pj_xs (s42_26)
theorem q42_27 : pj_row 42 27 = some (.iaload, 1, 0, 0, 0) := by decide +kernel
theorem s42_27 {L : pj_Loc} {st : List Value} {N S : Nat} {H : pj_Heap} {o : Nat} {i : Int32} : pj_step 42 (27, L, .int i :: .ref o :: st, (N, S, H)) = pj_pi 28 L st (N, S, H) (pj_arl (H o) 0 i) := st_iaload q42_27
theorem x42_27 {L : pj_Loc} {st : List Value} {N S : Nat} {H : pj_Heap} {o : Nat} {i : Int32} {o9 : Option Value × pj_Mem} : pj_Ends 42 (27, L, .int i :: .ref o :: st, (N, S, H)) o9 = pj_then 42 o9 (pj_pi 28 L st (N, S, H) (pj_arl (H o) 0 i)) := pj_xt q42_27 rfl (pj_cl_nc rfl) (s42_27)
theorem q42_28 : pj_row 42 28 = some (.if_icmp .le 6, 3, 34, 0, 0) := by decide +kernel
theorem s42_28 {L : pj_Loc} {st : List Value} {M : pj_Mem} {x y : Int32} : pj_step 42 (28, L, .int y :: .int x :: st, M) = some (if x ≤ y then 34 else 31, L, st, M) := st_icmp_le q42_28
theorem x42_28 {L : pj_Loc} {st : List Value} {M : pj_Mem} {x y : Int32} {o9 : Option Value × pj_Mem} : pj_Ends 42 (28, L, .int y :: .int x :: st, M) o9 = pj_Ends 42 (if x ≤ y then 34 else 31, L, st, M) o9 := pj_xs (s42_28)
theorem q42_31 : pj_row 42 31 = some (.bipush (-2), 2, 0, 0, 0) := by decide +kernel
theorem s42_31 {L : pj_Loc} {st : List Value} {M : pj_Mem}  : pj_step 42 (31, L, st, M) = some (33, L, .int (-2) :: st, M) := st_bipush q42_31 (by decide +kernel)
theorem x42_31 {L : pj_Loc} {st : List Value} {M : pj_Mem}  {o9 : Option Value × pj_Mem} : pj_Ends 42 (31, L, st, M) o9 = pj_Ends 42 (33, L, .int (-2) :: st, M) o9 := pj_xs (s42_31)
theorem q42_33 : pj_row 42 33 = some (.ireturn, 1, 0, 0, 0) := by decide +kernel
theorem t42_33 {L : pj_Loc} {M : pj_Mem} {v : Int32} : pj_Ends 42 (33, L, [.int v], M) (some (.int v), M) := pj_Ends.ret q42_33 (pj_rtn_i rt42)
theorem q42_34 : pj_row 42 34 = some (.aload_n 0, 1, 0, 0, 0) := by decide +kernel
theorem s42_34 {st : List Value} {M : pj_Mem} {l : pj_Loc} {x : Nat} : pj_step 42 (34, some (.ref x) :: l, st, M) = some (35, some (.ref x) :: l, .ref x :: st, M) := st_aload_n q42_34 rfl
theorem x42_34 {st : List Value} {M : pj_Mem} {l : pj_Loc} {x : Nat} {o9 : Option Value × pj_Mem} : pj_Ends 42 (34, some (.ref x) :: l, st, M) o9 = pj_Ends 42 (35, some (.ref x) :: l, .ref x :: st, M) o9 := pj_xs (s42_34)
theorem q42_35 : pj_row 42 35 = some (.invokevirtual 55, 3, 43, 1, 0) := by decide +kernel
theorem e42_35 {L : pj_Loc} {st : List Value} {N S : Nat} {H : pj_Heap} {o : Option Value × pj_Mem} {M' : pj_Mem} {x0 : Nat} (h4 : pj_le4 st = true) (hu : pj_isU 5 (H x0) = true) (h1 : pj_Ends 43 (0, [some (.ref x0), none, none], [], (N, S, H)) (none, M')) (h2 : pj_Ends 42 (38, L, st, M') o) : pj_Ends 42 (35, L, .ref x0 :: st, (N, S, H)) o := ec_v1 q42_35 (Or.inl rfl) h4 hu rfl h1 h2
theorem q42_38 : pj_row 42 38 = some (.aload_n 0, 1, 0, 0, 0) := by decide +kernel
theorem s42_38 {st : List Value} {M : pj_Mem} {l : pj_Loc} {x : Nat} : pj_step 42 (38, some (.ref x) :: l, st, M) = some (39, some (.ref x) :: l, .ref x :: st, M) := st_aload_n q42_38 rfl
theorem x42_38 {st : List Value} {M : pj_Mem} {l : pj_Loc} {x : Nat} {o9 : Option Value × pj_Mem} : pj_Ends 42 (38, some (.ref x) :: l, st, M) o9 = pj_Ends 42 (39, some (.ref x) :: l, .ref x :: st, M) o9 := pj_xs (s42_38)
theorem q42_39 : pj_row 42 39 = some (.getfield 10, 3, 5, 0, 0) := by decide +kernel
theorem s42_39 {L : pj_Loc} {st : List Value} {N S : Nat} {H : pj_Heap} {o : Nat} : pj_step 42 (39, L, .ref o :: st, (N, S, H)) = pj_pv 42 L st (N, S, H) (pj_fld (H o) 5 0) := st_getfield q42_39
theorem x42_39 {L : pj_Loc} {st : List Value} {N S : Nat} {H : pj_Heap} {o : Nat} {o9 : Option Value × pj_Mem} : pj_Ends 42 (39, L, .ref o :: st, (N, S, H)) o9 = pj_then 42 o9 (pj_pv 42 L st (N, S, H) (pj_fld (H o) 5 0)) := pj_xt q42_39 rfl (pj_cl_nc rfl) (s42_39)
theorem q42_42 : pj_row 42 42 = some (.getfield 58, 3, 4, 0, 0) := by decide +kernel
theorem s42_42 {L : pj_Loc} {st : List Value} {N S : Nat} {H : pj_Heap} {o : Nat} : pj_step 42 (42, L, .ref o :: st, (N, S, H)) = pj_pv 45 L st (N, S, H) (pj_fld (H o) 4 0) := st_getfield q42_42
theorem x42_42 {L : pj_Loc} {st : List Value} {N S : Nat} {H : pj_Heap} {o : Nat} {o9 : Option Value × pj_Mem} : pj_Ends 42 (42, L, .ref o :: st, (N, S, H)) o9 = pj_then 42 o9 (pj_pv 45 L st (N, S, H) (pj_fld (H o) 4 0)) := pj_xt q42_42 rfl (pj_cl_nc rfl) (s42_42)
theorem q42_45 : pj_row 42 45 = some (.iload_n 1, 1, 0, 0, 0) := by decide +kernel
theorem s42_45 {st : List Value} {M : pj_Mem} {l : pj_Loc} {a0 : Option Value} {x : Int32} : pj_step 42 (45, a0 :: some (.int x) :: l, st, M) = some (46, a0 :: some (.int x) :: l, .int x :: st, M) := st_iload_n q42_45 rfl
theorem x42_45 {st : List Value} {M : pj_Mem} {l : pj_Loc} {a0 : Option Value} {x : Int32} {o9 : Option Value × pj_Mem} : pj_Ends 42 (45, a0 :: some (.int x) :: l, st, M) o9 = pj_Ends 42 (46, a0 :: some (.int x) :: l, .int x :: st, M) o9 := pj_xs (s42_45)
theorem q42_46 : pj_row 42 46 = some (.iaload, 1, 0, 0, 0) := by decide +kernel
theorem s42_46 {L : pj_Loc} {st : List Value} {N S : Nat} {H : pj_Heap} {o : Nat} {i : Int32} : pj_step 42 (46, L, .int i :: .ref o :: st, (N, S, H)) = pj_pi 47 L st (N, S, H) (pj_arl (H o) 0 i) := st_iaload q42_46
theorem x42_46 {L : pj_Loc} {st : List Value} {N S : Nat} {H : pj_Heap} {o : Nat} {i : Int32} {o9 : Option Value × pj_Mem} : pj_Ends 42 (46, L, .int i :: .ref o :: st, (N, S, H)) o9 = pj_then 42 o9 (pj_pi 47 L st (N, S, H) (pj_arl (H o) 0 i)) := pj_xt q42_46 rfl (pj_cl_nc rfl) (s42_46)
theorem q42_47 : pj_row 42 47 = some (.istore_n 3, 1, 0, 0, 0) := by decide +kernel
theorem s42_47 {st : List Value} {M : pj_Mem} {l : pj_Loc} {a0 a1 a2 a3 : Option Value} {x : Int32} (h : pj_long a2 = false) : pj_step 42 (47, a0 :: a1 :: a2 :: a3 :: l, .int x :: st, M) = some (48, a0 :: a1 :: a2 :: some (.int x) :: l, st, M) := st_istore_n q42_47 (pj_st_3 h)
theorem x42_47 {st : List Value} {M : pj_Mem} {l : pj_Loc} {a0 a1 a2 a3 : Option Value} {x : Int32} (h : pj_long a2 = false) {o9 : Option Value × pj_Mem} : pj_Ends 42 (47, a0 :: a1 :: a2 :: a3 :: l, .int x :: st, M) o9 = pj_Ends 42 (48, a0 :: a1 :: a2 :: some (.int x) :: l, st, M) o9 := pj_xs (s42_47 h)
theorem q42_48 : pj_row 42 48 = some (.aload_n 0, 1, 0, 0, 0) := by decide +kernel
theorem s42_48 {st : List Value} {M : pj_Mem} {l : pj_Loc} {x : Nat} : pj_step 42 (48, some (.ref x) :: l, st, M) = some (49, some (.ref x) :: l, .ref x :: st, M) := st_aload_n q42_48 rfl
theorem x42_48 {st : List Value} {M : pj_Mem} {l : pj_Loc} {x : Nat} {o9 : Option Value × pj_Mem} : pj_Ends 42 (48, some (.ref x) :: l, st, M) o9 = pj_Ends 42 (49, some (.ref x) :: l, .ref x :: st, M) o9 := pj_xs (s42_48)
theorem q42_49 : pj_row 42 49 = some (.getfield 10, 3, 5, 0, 0) := by decide +kernel
theorem s42_49 {L : pj_Loc} {st : List Value} {N S : Nat} {H : pj_Heap} {o : Nat} : pj_step 42 (49, L, .ref o :: st, (N, S, H)) = pj_pv 52 L st (N, S, H) (pj_fld (H o) 5 0) := st_getfield q42_49
theorem x42_49 {L : pj_Loc} {st : List Value} {N S : Nat} {H : pj_Heap} {o : Nat} {o9 : Option Value × pj_Mem} : pj_Ends 42 (49, L, .ref o :: st, (N, S, H)) o9 = pj_then 42 o9 (pj_pv 52 L st (N, S, H) (pj_fld (H o) 5 0)) := pj_xt q42_49 rfl (pj_cl_nc rfl) (s42_49)
theorem q42_52 : pj_row 42 52 = some (.getfield 58, 3, 4, 0, 0) := by decide +kernel
theorem s42_52 {L : pj_Loc} {st : List Value} {N S : Nat} {H : pj_Heap} {o : Nat} : pj_step 42 (52, L, .ref o :: st, (N, S, H)) = pj_pv 55 L st (N, S, H) (pj_fld (H o) 4 0) := st_getfield q42_52
theorem x42_52 {L : pj_Loc} {st : List Value} {N S : Nat} {H : pj_Heap} {o : Nat} {o9 : Option Value × pj_Mem} : pj_Ends 42 (52, L, .ref o :: st, (N, S, H)) o9 = pj_then 42 o9 (pj_pv 55 L st (N, S, H) (pj_fld (H o) 4 0)) := pj_xt q42_52 rfl (pj_cl_nc rfl) (s42_52)
theorem q42_55 : pj_row 42 55 = some (.iload_n 1, 1, 0, 0, 0) := by decide +kernel
theorem s42_55 {st : List Value} {M : pj_Mem} {l : pj_Loc} {a0 : Option Value} {x : Int32} : pj_step 42 (55, a0 :: some (.int x) :: l, st, M) = some (56, a0 :: some (.int x) :: l, .int x :: st, M) := st_iload_n q42_55 rfl
theorem x42_55 {st : List Value} {M : pj_Mem} {l : pj_Loc} {a0 : Option Value} {x : Int32} {o9 : Option Value × pj_Mem} : pj_Ends 42 (55, a0 :: some (.int x) :: l, st, M) o9 = pj_Ends 42 (56, a0 :: some (.int x) :: l, .int x :: st, M) o9 := pj_xs (s42_55)
theorem q42_56 : pj_row 42 56 = some (.iload_n 2, 1, 0, 0, 0) := by decide +kernel
theorem s42_56 {st : List Value} {M : pj_Mem} {l : pj_Loc} {a0 a1 : Option Value} {x : Int32} : pj_step 42 (56, a0 :: a1 :: some (.int x) :: l, st, M) = some (57, a0 :: a1 :: some (.int x) :: l, .int x :: st, M) := st_iload_n q42_56 rfl
theorem x42_56 {st : List Value} {M : pj_Mem} {l : pj_Loc} {a0 a1 : Option Value} {x : Int32} {o9 : Option Value × pj_Mem} : pj_Ends 42 (56, a0 :: a1 :: some (.int x) :: l, st, M) o9 = pj_Ends 42 (57, a0 :: a1 :: some (.int x) :: l, .int x :: st, M) o9 := pj_xs (s42_56)
theorem q42_57 : pj_row 42 57 = some (.iastore, 1, 0, 0, 0) := by decide +kernel
theorem s42_57 {L : pj_Loc} {st : List Value} {N S : Nat} {H : pj_Heap} {o : Nat} {i x : Int32} : pj_step 42 (57, L, .int x :: .int i :: .ref o :: st, (N, S, H)) = pj_set 58 L st (N, S, H) o (pj_ars (H o) 0 i x) := st_iastore q42_57
theorem x42_57 {L : pj_Loc} {st : List Value} {N S : Nat} {H : pj_Heap} {o : Nat} {i x : Int32} {o9 : Option Value × pj_Mem} : pj_Ends 42 (57, L, .int x :: .int i :: .ref o :: st, (N, S, H)) o9 = pj_then 42 o9 (pj_set 58 L st (N, S, H) o (pj_ars (H o) 0 i x)) := pj_xt q42_57 rfl (pj_cl_nc rfl) (s42_57)
theorem q42_58 : pj_row 42 58 = some (.iload_n 3, 1, 0, 0, 0) := by decide +kernel
theorem s42_58 {st : List Value} {M : pj_Mem} {l : pj_Loc} {a0 a1 a2 : Option Value} {x : Int32} : pj_step 42 (58, a0 :: a1 :: a2 :: some (.int x) :: l, st, M) = some (59, a0 :: a1 :: a2 :: some (.int x) :: l, .int x :: st, M) := st_iload_n q42_58 rfl
theorem x42_58 {st : List Value} {M : pj_Mem} {l : pj_Loc} {a0 a1 a2 : Option Value} {x : Int32} {o9 : Option Value × pj_Mem} : pj_Ends 42 (58, a0 :: a1 :: a2 :: some (.int x) :: l, st, M) o9 = pj_Ends 42 (59, a0 :: a1 :: a2 :: some (.int x) :: l, .int x :: st, M) o9 := pj_xs (s42_58)
theorem q42_59 : pj_row 42 59 = some (.ireturn, 1, 0, 0, 0) := by decide +kernel
theorem t42_59 {L : pj_Loc} {M : pj_Mem} {v : Int32} : pj_Ends 42 (59, L, [.int v], M) (some (.int v), M) := pj_Ends.ret q42_59 (pj_rtn_i rt42)
theorem rt43 : pj_rt 43 = none := rfl
theorem q43_0 : pj_row 43 0 = some (.aload_n 0, 1, 0, 0, 0) := by decide +kernel
theorem s43_0 {st : List Value} {M : pj_Mem} {l : pj_Loc} {x : Nat} : pj_step 43 (0, some (.ref x) :: l, st, M) = some (1, some (.ref x) :: l, .ref x :: st, M) := st_aload_n q43_0 rfl
theorem x43_0 {st : List Value} {M : pj_Mem} {l : pj_Loc} {x : Nat} {o9 : Option Value × pj_Mem} : pj_Ends 43 (0, some (.ref x) :: l, st, M) o9 = pj_Ends 43 (1, some (.ref x) :: l, .ref x :: st, M) o9 := pj_xs (s43_0)
theorem q43_1 : pj_row 43 1 = some (.getfield 148, 3, 5, 5, 0) := by decide +kernel
theorem s43_1 {L : pj_Loc} {st : List Value} {N S : Nat} {H : pj_Heap} {o : Nat} : pj_step 43 (1, L, .ref o :: st, (N, S, H)) = pj_pv 4 L st (N, S, H) (pj_fld (H o) 5 5) := st_getfield q43_1
theorem x43_1 {L : pj_Loc} {st : List Value} {N S : Nat} {H : pj_Heap} {o : Nat} {o9 : Option Value × pj_Mem} : pj_Ends 43 (1, L, .ref o :: st, (N, S, H)) o9 = pj_then 43 o9 (pj_pv 4 L st (N, S, H) (pj_fld (H o) 5 5)) := pj_xt q43_1 rfl (pj_cl_nc rfl) (s43_1)
theorem q43_4 : pj_row 43 4 = some (.bipush 6, 2, 0, 0, 0) := by decide +kernel
theorem s43_4 {L : pj_Loc} {st : List Value} {M : pj_Mem}  : pj_step 43 (4, L, st, M) = some (6, L, .int 6 :: st, M) := st_bipush q43_4 (by decide +kernel)
theorem x43_4 {L : pj_Loc} {st : List Value} {M : pj_Mem}  {o9 : Option Value × pj_Mem} : pj_Ends 43 (4, L, st, M) o9 = pj_Ends 43 (6, L, .int 6 :: st, M) o9 := pj_xs (s43_4)
theorem q43_6 : pj_row 43 6 = some (.if_icmp .lt 50, 3, 56, 0, 0) := by decide +kernel
theorem s43_6 {L : pj_Loc} {st : List Value} {M : pj_Mem} {x y : Int32} : pj_step 43 (6, L, .int y :: .int x :: st, M) = some (if x < y then 56 else 9, L, st, M) := st_icmp_lt q43_6
theorem x43_6 {L : pj_Loc} {st : List Value} {M : pj_Mem} {x y : Int32} {o9 : Option Value × pj_Mem} : pj_Ends 43 (6, L, .int y :: .int x :: st, M) o9 = pj_Ends 43 (if x < y then 56 else 9, L, st, M) o9 := pj_xs (s43_6)
theorem q43_9 : pj_row 43 9 = some (.aload_n 0, 1, 0, 0, 0) := by decide +kernel
theorem s43_9 {st : List Value} {M : pj_Mem} {l : pj_Loc} {x : Nat} : pj_step 43 (9, some (.ref x) :: l, st, M) = some (10, some (.ref x) :: l, .ref x :: st, M) := st_aload_n q43_9 rfl
theorem x43_9 {st : List Value} {M : pj_Mem} {l : pj_Loc} {x : Nat} {o9 : Option Value × pj_Mem} : pj_Ends 43 (9, some (.ref x) :: l, st, M) o9 = pj_Ends 43 (10, some (.ref x) :: l, .ref x :: st, M) o9 := pj_xs (s43_9)
theorem q43_10 : pj_row 43 10 = some (.getfield 37, 3, 5, 4, 0) := by decide +kernel
theorem s43_10 {L : pj_Loc} {st : List Value} {N S : Nat} {H : pj_Heap} {o : Nat} : pj_step 43 (10, L, .ref o :: st, (N, S, H)) = pj_pv 13 L st (N, S, H) (pj_fld (H o) 5 4) := st_getfield q43_10
theorem x43_10 {L : pj_Loc} {st : List Value} {N S : Nat} {H : pj_Heap} {o : Nat} {o9 : Option Value × pj_Mem} : pj_Ends 43 (10, L, .ref o :: st, (N, S, H)) o9 = pj_then 43 o9 (pj_pv 13 L st (N, S, H) (pj_fld (H o) 5 4)) := pj_xt q43_10 rfl (pj_cl_nc rfl) (s43_10)
theorem q43_13 : pj_row 43 13 = some (.iconst 0, 1, 0, 0, 0) := by decide +kernel
theorem s43_13 {L : pj_Loc} {st : List Value} {M : pj_Mem}  : pj_step 43 (13, L, st, M) = some (14, L, .int 0 :: st, M) := st_iconst q43_13 (by decide +kernel)
theorem x43_13 {L : pj_Loc} {st : List Value} {M : pj_Mem}  {o9 : Option Value × pj_Mem} : pj_Ends 43 (13, L, st, M) o9 = pj_Ends 43 (14, L, .int 0 :: st, M) o9 := pj_xs (s43_13)
theorem q43_14 : pj_row 43 14 = some (.aaload, 1, 0, 0, 0) := by decide +kernel
theorem s43_14 {L : pj_Loc} {st : List Value} {N S : Nat} {H : pj_Heap} {o : Nat} {i : Int32} : pj_step 43 (14, L, .int i :: .ref o :: st, (N, S, H)) = pj_pv 15 L st (N, S, H) (pj_qrl (H o) i) := st_aaload q43_14
theorem x43_14 {L : pj_Loc} {st : List Value} {N S : Nat} {H : pj_Heap} {o : Nat} {i : Int32} {o9 : Option Value × pj_Mem} : pj_Ends 43 (14, L, .int i :: .ref o :: st, (N, S, H)) o9 = pj_then 43 o9 (pj_pv 15 L st (N, S, H) (pj_qrl (H o) i)) := pj_xt q43_14 rfl (pj_cl_nc rfl) (s43_14)
theorem q43_15 : pj_row 43 15 = some (.astore_n 1, 1, 0, 0, 0) := by decide +kernel
theorem s43_15 {st : List Value} {M : pj_Mem} {l : pj_Loc} {a0 a1 : Option Value} {x : Nat} (h : pj_long a0 = false) : pj_step 43 (15, a0 :: a1 :: l, .ref x :: st, M) = some (16, a0 :: some (.ref x) :: l, st, M) := st_astore_n q43_15 (pj_st_1 h)
theorem x43_15 {st : List Value} {M : pj_Mem} {l : pj_Loc} {a0 a1 : Option Value} {x : Nat} (h : pj_long a0 = false) {o9 : Option Value × pj_Mem} : pj_Ends 43 (15, a0 :: a1 :: l, .ref x :: st, M) o9 = pj_Ends 43 (16, a0 :: some (.ref x) :: l, st, M) o9 := pj_xs (s43_15 h)
theorem q43_16 : pj_row 43 16 = some (.iconst 1, 1, 0, 0, 0) := by decide +kernel
theorem s43_16 {L : pj_Loc} {st : List Value} {M : pj_Mem}  : pj_step 43 (16, L, st, M) = some (17, L, .int 1 :: st, M) := st_iconst q43_16 (by decide +kernel)
theorem x43_16 {L : pj_Loc} {st : List Value} {M : pj_Mem}  {o9 : Option Value × pj_Mem} : pj_Ends 43 (16, L, st, M) o9 = pj_Ends 43 (17, L, .int 1 :: st, M) o9 := pj_xs (s43_16)
theorem q43_17 : pj_row 43 17 = some (.istore_n 2, 1, 0, 0, 0) := by decide +kernel
theorem s43_17 {st : List Value} {M : pj_Mem} {l : pj_Loc} {a0 a1 a2 : Option Value} {x : Int32} (h : pj_long a1 = false) : pj_step 43 (17, a0 :: a1 :: a2 :: l, .int x :: st, M) = some (18, a0 :: a1 :: some (.int x) :: l, st, M) := st_istore_n q43_17 (pj_st_2 h)
theorem x43_17 {st : List Value} {M : pj_Mem} {l : pj_Loc} {a0 a1 a2 : Option Value} {x : Int32} (h : pj_long a1 = false) {o9 : Option Value × pj_Mem} : pj_Ends 43 (17, a0 :: a1 :: a2 :: l, .int x :: st, M) o9 = pj_Ends 43 (18, a0 :: a1 :: some (.int x) :: l, st, M) o9 := pj_xs (s43_17 h)
theorem q43_18 : pj_row 43 18 = some (.iload_n 2, 1, 0, 0, 0) := by decide +kernel
theorem s43_18 {st : List Value} {M : pj_Mem} {l : pj_Loc} {a0 a1 : Option Value} {x : Int32} : pj_step 43 (18, a0 :: a1 :: some (.int x) :: l, st, M) = some (19, a0 :: a1 :: some (.int x) :: l, .int x :: st, M) := st_iload_n q43_18 rfl
theorem x43_18 {st : List Value} {M : pj_Mem} {l : pj_Loc} {a0 a1 : Option Value} {x : Int32} {o9 : Option Value × pj_Mem} : pj_Ends 43 (18, a0 :: a1 :: some (.int x) :: l, st, M) o9 = pj_Ends 43 (19, a0 :: a1 :: some (.int x) :: l, .int x :: st, M) o9 := pj_xs (s43_18)
theorem q43_19 : pj_row 43 19 = some (.bipush 6, 2, 0, 0, 0) := by decide +kernel
theorem s43_19 {L : pj_Loc} {st : List Value} {M : pj_Mem}  : pj_step 43 (19, L, st, M) = some (21, L, .int 6 :: st, M) := st_bipush q43_19 (by decide +kernel)
theorem x43_19 {L : pj_Loc} {st : List Value} {M : pj_Mem}  {o9 : Option Value × pj_Mem} : pj_Ends 43 (19, L, st, M) o9 = pj_Ends 43 (21, L, .int 6 :: st, M) o9 := pj_xs (s43_19)
theorem q43_21 : pj_row 43 21 = some (.if_icmp .ge 23, 3, 44, 0, 0) := by decide +kernel
theorem s43_21 {L : pj_Loc} {st : List Value} {M : pj_Mem} {x y : Int32} : pj_step 43 (21, L, .int y :: .int x :: st, M) = some (if y ≤ x then 44 else 24, L, st, M) := st_icmp_ge q43_21
theorem x43_21 {L : pj_Loc} {st : List Value} {M : pj_Mem} {x y : Int32} {o9 : Option Value × pj_Mem} : pj_Ends 43 (21, L, .int y :: .int x :: st, M) o9 = pj_Ends 43 (if y ≤ x then 44 else 24, L, st, M) o9 := pj_xs (s43_21)
theorem q43_24 : pj_row 43 24 = some (.aload_n 0, 1, 0, 0, 0) := by decide +kernel
theorem s43_24 {st : List Value} {M : pj_Mem} {l : pj_Loc} {x : Nat} : pj_step 43 (24, some (.ref x) :: l, st, M) = some (25, some (.ref x) :: l, .ref x :: st, M) := st_aload_n q43_24 rfl
theorem x43_24 {st : List Value} {M : pj_Mem} {l : pj_Loc} {x : Nat} {o9 : Option Value × pj_Mem} : pj_Ends 43 (24, some (.ref x) :: l, st, M) o9 = pj_Ends 43 (25, some (.ref x) :: l, .ref x :: st, M) o9 := pj_xs (s43_24)
theorem q43_25 : pj_row 43 25 = some (.getfield 37, 3, 5, 4, 0) := by decide +kernel
theorem s43_25 {L : pj_Loc} {st : List Value} {N S : Nat} {H : pj_Heap} {o : Nat} : pj_step 43 (25, L, .ref o :: st, (N, S, H)) = pj_pv 28 L st (N, S, H) (pj_fld (H o) 5 4) := st_getfield q43_25
theorem x43_25 {L : pj_Loc} {st : List Value} {N S : Nat} {H : pj_Heap} {o : Nat} {o9 : Option Value × pj_Mem} : pj_Ends 43 (25, L, .ref o :: st, (N, S, H)) o9 = pj_then 43 o9 (pj_pv 28 L st (N, S, H) (pj_fld (H o) 5 4)) := pj_xt q43_25 rfl (pj_cl_nc rfl) (s43_25)
theorem q43_28 : pj_row 43 28 = some (.iload_n 2, 1, 0, 0, 0) := by decide +kernel
theorem s43_28 {st : List Value} {M : pj_Mem} {l : pj_Loc} {a0 a1 : Option Value} {x : Int32} : pj_step 43 (28, a0 :: a1 :: some (.int x) :: l, st, M) = some (29, a0 :: a1 :: some (.int x) :: l, .int x :: st, M) := st_iload_n q43_28 rfl
theorem x43_28 {st : List Value} {M : pj_Mem} {l : pj_Loc} {a0 a1 : Option Value} {x : Int32} {o9 : Option Value × pj_Mem} : pj_Ends 43 (28, a0 :: a1 :: some (.int x) :: l, st, M) o9 = pj_Ends 43 (29, a0 :: a1 :: some (.int x) :: l, .int x :: st, M) o9 := pj_xs (s43_28)
theorem q43_29 : pj_row 43 29 = some (.iconst 1, 1, 0, 0, 0) := by decide +kernel
theorem s43_29 {L : pj_Loc} {st : List Value} {M : pj_Mem}  : pj_step 43 (29, L, st, M) = some (30, L, .int 1 :: st, M) := st_iconst q43_29 (by decide +kernel)
theorem x43_29 {L : pj_Loc} {st : List Value} {M : pj_Mem}  {o9 : Option Value × pj_Mem} : pj_Ends 43 (29, L, st, M) o9 = pj_Ends 43 (30, L, .int 1 :: st, M) o9 := pj_xs (s43_29)
theorem q43_30 : pj_row 43 30 = some (.isub, 1, 0, 0, 0) := by decide +kernel
theorem s43_30 {L : pj_Loc} {st : List Value} {M : pj_Mem} {x y : Int32} : pj_step 43 (30, L, .int y :: .int x :: st, M) = some (31, L, .int (x - y) :: st, M) := st_isub q43_30
theorem x43_30 {L : pj_Loc} {st : List Value} {M : pj_Mem} {x y : Int32} {o9 : Option Value × pj_Mem} : pj_Ends 43 (30, L, .int y :: .int x :: st, M) o9 = pj_Ends 43 (31, L, .int (x - y) :: st, M) o9 := pj_xs (s43_30)
theorem q43_31 : pj_row 43 31 = some (.aload_n 0, 1, 0, 0, 0) := by decide +kernel
theorem s43_31 {st : List Value} {M : pj_Mem} {l : pj_Loc} {x : Nat} : pj_step 43 (31, some (.ref x) :: l, st, M) = some (32, some (.ref x) :: l, .ref x :: st, M) := st_aload_n q43_31 rfl
theorem x43_31 {st : List Value} {M : pj_Mem} {l : pj_Loc} {x : Nat} {o9 : Option Value × pj_Mem} : pj_Ends 43 (31, some (.ref x) :: l, st, M) o9 = pj_Ends 43 (32, some (.ref x) :: l, .ref x :: st, M) o9 := pj_xs (s43_31)
theorem q43_32 : pj_row 43 32 = some (.getfield 37, 3, 5, 4, 0) := by decide +kernel
theorem s43_32 {L : pj_Loc} {st : List Value} {N S : Nat} {H : pj_Heap} {o : Nat} : pj_step 43 (32, L, .ref o :: st, (N, S, H)) = pj_pv 35 L st (N, S, H) (pj_fld (H o) 5 4) := st_getfield q43_32
theorem x43_32 {L : pj_Loc} {st : List Value} {N S : Nat} {H : pj_Heap} {o : Nat} {o9 : Option Value × pj_Mem} : pj_Ends 43 (32, L, .ref o :: st, (N, S, H)) o9 = pj_then 43 o9 (pj_pv 35 L st (N, S, H) (pj_fld (H o) 5 4)) := pj_xt q43_32 rfl (pj_cl_nc rfl) (s43_32)
theorem q43_35 : pj_row 43 35 = some (.iload_n 2, 1, 0, 0, 0) := by decide +kernel
theorem s43_35 {st : List Value} {M : pj_Mem} {l : pj_Loc} {a0 a1 : Option Value} {x : Int32} : pj_step 43 (35, a0 :: a1 :: some (.int x) :: l, st, M) = some (36, a0 :: a1 :: some (.int x) :: l, .int x :: st, M) := st_iload_n q43_35 rfl
theorem x43_35 {st : List Value} {M : pj_Mem} {l : pj_Loc} {a0 a1 : Option Value} {x : Int32} {o9 : Option Value × pj_Mem} : pj_Ends 43 (35, a0 :: a1 :: some (.int x) :: l, st, M) o9 = pj_Ends 43 (36, a0 :: a1 :: some (.int x) :: l, .int x :: st, M) o9 := pj_xs (s43_35)
theorem q43_36 : pj_row 43 36 = some (.aaload, 1, 0, 0, 0) := by decide +kernel
theorem s43_36 {L : pj_Loc} {st : List Value} {N S : Nat} {H : pj_Heap} {o : Nat} {i : Int32} : pj_step 43 (36, L, .int i :: .ref o :: st, (N, S, H)) = pj_pv 37 L st (N, S, H) (pj_qrl (H o) i) := st_aaload q43_36
theorem x43_36 {L : pj_Loc} {st : List Value} {N S : Nat} {H : pj_Heap} {o : Nat} {i : Int32} {o9 : Option Value × pj_Mem} : pj_Ends 43 (36, L, .int i :: .ref o :: st, (N, S, H)) o9 = pj_then 43 o9 (pj_pv 37 L st (N, S, H) (pj_qrl (H o) i)) := pj_xt q43_36 rfl (pj_cl_nc rfl) (s43_36)
theorem q43_37 : pj_row 43 37 = some (.aastore, 1, 0, 0, 0) := by decide +kernel
theorem s43_37 {L : pj_Loc} {st : List Value} {N S : Nat} {H : pj_Heap} {o x : Nat} {i : Int32} (hx : pj_isU 4 (H x) = true) : pj_step 43 (37, L, .ref x :: .int i :: .ref o :: st, (N, S, H)) = pj_set 38 L st (N, S, H) o (pj_qrs (H o) i x) := st_aastore q43_37 hx
theorem x43_37 {L : pj_Loc} {st : List Value} {N S : Nat} {H : pj_Heap} {o x : Nat} {i : Int32} (hx : pj_isU 4 (H x) = true) {o9 : Option Value × pj_Mem} : pj_Ends 43 (37, L, .ref x :: .int i :: .ref o :: st, (N, S, H)) o9 = pj_then 43 o9 (pj_set 38 L st (N, S, H) o (pj_qrs (H o) i x)) := pj_xt q43_37 rfl (pj_cl_nc rfl) (s43_37 hx)
theorem q43_38 : pj_row 43 38 = some (.iinc 2 1, 3, 0, 0, 0) := by decide +kernel
theorem s43_38 {st : List Value} {M : pj_Mem} {l : pj_Loc} {a0 a1 : Option Value} {x : Int32} (h : pj_long a1 = false) : pj_step 43 (38, a0 :: a1 :: some (.int x) :: l, st, M) = some (41, a0 :: a1 :: some (.int (x + 1)) :: l, st, M) := st_iinc q43_38 rfl (congrArg (fun y => x + y) (show Int32.ofInt 1 = 1 by decide +kernel)) (pj_st_2 h)
theorem x43_38 {st : List Value} {M : pj_Mem} {l : pj_Loc} {a0 a1 : Option Value} {x : Int32} (h : pj_long a1 = false) {o9 : Option Value × pj_Mem} : pj_Ends 43 (38, a0 :: a1 :: some (.int x) :: l, st, M) o9 = pj_Ends 43 (41, a0 :: a1 :: some (.int (x + 1)) :: l, st, M) o9 := pj_xs (s43_38 h)
theorem q43_41 : pj_row 43 41 = some (.goto (-23), 3, 18, 0, 0) := by decide +kernel
theorem s43_41 {L : pj_Loc} {st : List Value} {M : pj_Mem}  : pj_step 43 (41, L, st, M) = some (18, L, st, M) := st_goto q43_41
theorem x43_41 {L : pj_Loc} {st : List Value} {M : pj_Mem}  {o9 : Option Value × pj_Mem} : pj_Ends 43 (41, L, st, M) o9 = pj_Ends 43 (18, L, st, M) o9 := pj_xs (s43_41)
theorem q43_44 : pj_row 43 44 = some (.aload_n 0, 1, 0, 0, 0) := by decide +kernel
theorem s43_44 {st : List Value} {M : pj_Mem} {l : pj_Loc} {x : Nat} : pj_step 43 (44, some (.ref x) :: l, st, M) = some (45, some (.ref x) :: l, .ref x :: st, M) := st_aload_n q43_44 rfl
theorem x43_44 {st : List Value} {M : pj_Mem} {l : pj_Loc} {x : Nat} {o9 : Option Value × pj_Mem} : pj_Ends 43 (44, some (.ref x) :: l, st, M) o9 = pj_Ends 43 (45, some (.ref x) :: l, .ref x :: st, M) o9 := pj_xs (s43_44)
theorem q43_45 : pj_row 43 45 = some (.getfield 37, 3, 5, 4, 0) := by decide +kernel
theorem s43_45 {L : pj_Loc} {st : List Value} {N S : Nat} {H : pj_Heap} {o : Nat} : pj_step 43 (45, L, .ref o :: st, (N, S, H)) = pj_pv 48 L st (N, S, H) (pj_fld (H o) 5 4) := st_getfield q43_45
theorem x43_45 {L : pj_Loc} {st : List Value} {N S : Nat} {H : pj_Heap} {o : Nat} {o9 : Option Value × pj_Mem} : pj_Ends 43 (45, L, .ref o :: st, (N, S, H)) o9 = pj_then 43 o9 (pj_pv 48 L st (N, S, H) (pj_fld (H o) 5 4)) := pj_xt q43_45 rfl (pj_cl_nc rfl) (s43_45)
theorem q43_48 : pj_row 43 48 = some (.iconst 5, 1, 0, 0, 0) := by decide +kernel
theorem s43_48 {L : pj_Loc} {st : List Value} {M : pj_Mem}  : pj_step 43 (48, L, st, M) = some (49, L, .int 5 :: st, M) := st_iconst q43_48 (by decide +kernel)
theorem x43_48 {L : pj_Loc} {st : List Value} {M : pj_Mem}  {o9 : Option Value × pj_Mem} : pj_Ends 43 (48, L, st, M) o9 = pj_Ends 43 (49, L, .int 5 :: st, M) o9 := pj_xs (s43_48)
theorem q43_49 : pj_row 43 49 = some (.aload_n 1, 1, 0, 0, 0) := by decide +kernel
theorem s43_49 {st : List Value} {M : pj_Mem} {l : pj_Loc} {a0 : Option Value} {x : Nat} : pj_step 43 (49, a0 :: some (.ref x) :: l, st, M) = some (50, a0 :: some (.ref x) :: l, .ref x :: st, M) := st_aload_n q43_49 rfl
theorem x43_49 {st : List Value} {M : pj_Mem} {l : pj_Loc} {a0 : Option Value} {x : Nat} {o9 : Option Value × pj_Mem} : pj_Ends 43 (49, a0 :: some (.ref x) :: l, st, M) o9 = pj_Ends 43 (50, a0 :: some (.ref x) :: l, .ref x :: st, M) o9 := pj_xs (s43_49)
theorem q43_50 : pj_row 43 50 = some (.aastore, 1, 0, 0, 0) := by decide +kernel
theorem s43_50 {L : pj_Loc} {st : List Value} {N S : Nat} {H : pj_Heap} {o x : Nat} {i : Int32} (hx : pj_isU 4 (H x) = true) : pj_step 43 (50, L, .ref x :: .int i :: .ref o :: st, (N, S, H)) = pj_set 51 L st (N, S, H) o (pj_qrs (H o) i x) := st_aastore q43_50 hx
theorem x43_50 {L : pj_Loc} {st : List Value} {N S : Nat} {H : pj_Heap} {o x : Nat} {i : Int32} (hx : pj_isU 4 (H x) = true) {o9 : Option Value × pj_Mem} : pj_Ends 43 (50, L, .ref x :: .int i :: .ref o :: st, (N, S, H)) o9 = pj_then 43 o9 (pj_set 51 L st (N, S, H) o (pj_qrs (H o) i x)) := pj_xt q43_50 rfl (pj_cl_nc rfl) (s43_50 hx)
theorem q43_51 : pj_row 43 51 = some (.aload_n 0, 1, 0, 0, 0) := by decide +kernel
theorem s43_51 {st : List Value} {M : pj_Mem} {l : pj_Loc} {x : Nat} : pj_step 43 (51, some (.ref x) :: l, st, M) = some (52, some (.ref x) :: l, .ref x :: st, M) := st_aload_n q43_51 rfl
theorem x43_51 {st : List Value} {M : pj_Mem} {l : pj_Loc} {x : Nat} {o9 : Option Value × pj_Mem} : pj_Ends 43 (51, some (.ref x) :: l, st, M) o9 = pj_Ends 43 (52, some (.ref x) :: l, .ref x :: st, M) o9 := pj_xs (s43_51)
theorem q43_52 : pj_row 43 52 = some (.iconst 5, 1, 0, 0, 0) := by decide +kernel
theorem s43_52 {L : pj_Loc} {st : List Value} {M : pj_Mem}  : pj_step 43 (52, L, st, M) = some (53, L, .int 5 :: st, M) := st_iconst q43_52 (by decide +kernel)
theorem x43_52 {L : pj_Loc} {st : List Value} {M : pj_Mem}  {o9 : Option Value × pj_Mem} : pj_Ends 43 (52, L, st, M) o9 = pj_Ends 43 (53, L, .int 5 :: st, M) o9 := pj_xs (s43_52)
theorem q43_53 : pj_row 43 53 = some (.putfield 148, 3, 5, 5, 0) := by decide +kernel
theorem s43_53 {L : pj_Loc} {st : List Value} {N S : Nat} {H : pj_Heap} {o : Nat} {v : Value} : pj_step 43 (53, L, v :: .ref o :: st, (N, S, H)) = pj_set 56 L st (N, S, H) o (pj_fset (H o) 5 5 v) := st_putfield q43_53
theorem x43_53 {L : pj_Loc} {st : List Value} {N S : Nat} {H : pj_Heap} {o : Nat} {v : Value} {o9 : Option Value × pj_Mem} : pj_Ends 43 (53, L, v :: .ref o :: st, (N, S, H)) o9 = pj_then 43 o9 (pj_set 56 L st (N, S, H) o (pj_fset (H o) 5 5 v)) := pj_xt q43_53 rfl (pj_cl_nc rfl) (s43_53)
theorem q43_56 : pj_row 43 56 = some (.aload_n 0, 1, 0, 0, 0) := by decide +kernel
theorem s43_56 {st : List Value} {M : pj_Mem} {l : pj_Loc} {x : Nat} : pj_step 43 (56, some (.ref x) :: l, st, M) = some (57, some (.ref x) :: l, .ref x :: st, M) := st_aload_n q43_56 rfl
theorem x43_56 {st : List Value} {M : pj_Mem} {l : pj_Loc} {x : Nat} {o9 : Option Value × pj_Mem} : pj_Ends 43 (56, some (.ref x) :: l, st, M) o9 = pj_Ends 43 (57, some (.ref x) :: l, .ref x :: st, M) o9 := pj_xs (s43_56)
theorem q43_57 : pj_row 43 57 = some (.getfield 37, 3, 5, 4, 0) := by decide +kernel
theorem s43_57 {L : pj_Loc} {st : List Value} {N S : Nat} {H : pj_Heap} {o : Nat} : pj_step 43 (57, L, .ref o :: st, (N, S, H)) = pj_pv 60 L st (N, S, H) (pj_fld (H o) 5 4) := st_getfield q43_57
theorem x43_57 {L : pj_Loc} {st : List Value} {N S : Nat} {H : pj_Heap} {o : Nat} {o9 : Option Value × pj_Mem} : pj_Ends 43 (57, L, .ref o :: st, (N, S, H)) o9 = pj_then 43 o9 (pj_pv 60 L st (N, S, H) (pj_fld (H o) 5 4)) := pj_xt q43_57 rfl (pj_cl_nc rfl) (s43_57)
theorem q43_60 : pj_row 43 60 = some (.aload_n 0, 1, 0, 0, 0) := by decide +kernel
theorem s43_60 {st : List Value} {M : pj_Mem} {l : pj_Loc} {x : Nat} : pj_step 43 (60, some (.ref x) :: l, st, M) = some (61, some (.ref x) :: l, .ref x :: st, M) := st_aload_n q43_60 rfl
theorem x43_60 {st : List Value} {M : pj_Mem} {l : pj_Loc} {x : Nat} {o9 : Option Value × pj_Mem} : pj_Ends 43 (60, some (.ref x) :: l, st, M) o9 = pj_Ends 43 (61, some (.ref x) :: l, .ref x :: st, M) o9 := pj_xs (s43_60)
theorem q43_61 : pj_row 43 61 = some (.getfield 148, 3, 5, 5, 0) := by decide +kernel
theorem s43_61 {L : pj_Loc} {st : List Value} {N S : Nat} {H : pj_Heap} {o : Nat} : pj_step 43 (61, L, .ref o :: st, (N, S, H)) = pj_pv 64 L st (N, S, H) (pj_fld (H o) 5 5) := st_getfield q43_61
theorem x43_61 {L : pj_Loc} {st : List Value} {N S : Nat} {H : pj_Heap} {o : Nat} {o9 : Option Value × pj_Mem} : pj_Ends 43 (61, L, .ref o :: st, (N, S, H)) o9 = pj_then 43 o9 (pj_pv 64 L st (N, S, H) (pj_fld (H o) 5 5)) := pj_xt q43_61 rfl (pj_cl_nc rfl) (s43_61)
theorem q43_64 : pj_row 43 64 = some (.aaload, 1, 0, 0, 0) := by decide +kernel
theorem s43_64 {L : pj_Loc} {st : List Value} {N S : Nat} {H : pj_Heap} {o : Nat} {i : Int32} : pj_step 43 (64, L, .int i :: .ref o :: st, (N, S, H)) = pj_pv 65 L st (N, S, H) (pj_qrl (H o) i) := st_aaload q43_64
theorem x43_64 {L : pj_Loc} {st : List Value} {N S : Nat} {H : pj_Heap} {o : Nat} {i : Int32} {o9 : Option Value × pj_Mem} : pj_Ends 43 (64, L, .int i :: .ref o :: st, (N, S, H)) o9 = pj_then 43 o9 (pj_pv 65 L st (N, S, H) (pj_qrl (H o) i)) := pj_xt q43_64 rfl (pj_cl_nc rfl) (s43_64)
theorem q43_65 : pj_row 43 65 = some (.aload_n 0, 1, 0, 0, 0) := by decide +kernel
theorem s43_65 {st : List Value} {M : pj_Mem} {l : pj_Loc} {x : Nat} : pj_step 43 (65, some (.ref x) :: l, st, M) = some (66, some (.ref x) :: l, .ref x :: st, M) := st_aload_n q43_65 rfl
theorem x43_65 {st : List Value} {M : pj_Mem} {l : pj_Loc} {x : Nat} {o9 : Option Value × pj_Mem} : pj_Ends 43 (65, some (.ref x) :: l, st, M) o9 = pj_Ends 43 (66, some (.ref x) :: l, .ref x :: st, M) o9 := pj_xs (s43_65)
theorem q43_66 : pj_row 43 66 = some (.getfield 10, 3, 5, 0, 0) := by decide +kernel
theorem s43_66 {L : pj_Loc} {st : List Value} {N S : Nat} {H : pj_Heap} {o : Nat} : pj_step 43 (66, L, .ref o :: st, (N, S, H)) = pj_pv 69 L st (N, S, H) (pj_fld (H o) 5 0) := st_getfield q43_66
theorem x43_66 {L : pj_Loc} {st : List Value} {N S : Nat} {H : pj_Heap} {o : Nat} {o9 : Option Value × pj_Mem} : pj_Ends 43 (66, L, .ref o :: st, (N, S, H)) o9 = pj_then 43 o9 (pj_pv 69 L st (N, S, H) (pj_fld (H o) 5 0)) := pj_xt q43_66 rfl (pj_cl_nc rfl) (s43_66)
theorem q43_69 : pj_row 43 69 = some (.invokevirtual 172, 3, 32, 2, 0) := by decide +kernel
theorem e43_69 {L : pj_Loc} {st : List Value} {N S : Nat} {H : pj_Heap} {o : Option Value × pj_Mem} {M' : pj_Mem} {x0 : Nat} {x1 : Nat} (h4 : pj_le4 st = true) (hu : pj_isU 4 (H x0) = true) (h1 : pj_Ends 32 (0, [some (.ref x0), some (.ref x1)], [], (N, S, H)) (none, M')) (h2 : pj_Ends 43 (72, L, st, M') o) : pj_Ends 43 (69, L, .ref x1 :: .ref x0 :: st, (N, S, H)) o := ec_v2 q43_69 (Or.inl rfl) h4 hu rfl h1 h2
theorem q43_72 : pj_row 43 72 = some (.aload_n 0, 1, 0, 0, 0) := by decide +kernel
theorem s43_72 {st : List Value} {M : pj_Mem} {l : pj_Loc} {x : Nat} : pj_step 43 (72, some (.ref x) :: l, st, M) = some (73, some (.ref x) :: l, .ref x :: st, M) := st_aload_n q43_72 rfl
theorem x43_72 {st : List Value} {M : pj_Mem} {l : pj_Loc} {x : Nat} {o9 : Option Value × pj_Mem} : pj_Ends 43 (72, some (.ref x) :: l, st, M) o9 = pj_Ends 43 (73, some (.ref x) :: l, .ref x :: st, M) o9 := pj_xs (s43_72)
theorem q43_73 : pj_row 43 73 = some (.dup, 1, 0, 0, 0) := by decide +kernel
theorem s43_73 {L : pj_Loc} {st : List Value} {M : pj_Mem} {x : Nat} : pj_step 43 (73, L, .ref x :: st, M) = some (74, L, .ref x :: .ref x :: st, M) := st_dup_ref q43_73
theorem x43_73 {L : pj_Loc} {st : List Value} {M : pj_Mem} {x : Nat} {o9 : Option Value × pj_Mem} : pj_Ends 43 (73, L, .ref x :: st, M) o9 = pj_Ends 43 (74, L, .ref x :: .ref x :: st, M) o9 := pj_xs (s43_73)
theorem s43_73i {L : pj_Loc} {st : List Value} {M : pj_Mem} {x : Int32} : pj_step 43 (73, L, .int x :: st, M) = some (74, L, .int x :: .int x :: st, M) := st_dup_int q43_73
theorem x43_73i {L : pj_Loc} {st : List Value} {M : pj_Mem} {x : Int32} {o9 : Option Value × pj_Mem} : pj_Ends 43 (73, L, .int x :: st, M) o9 = pj_Ends 43 (74, L, .int x :: .int x :: st, M) o9 := pj_xs (s43_73i)
theorem q43_74 : pj_row 43 74 = some (.getfield 148, 3, 5, 5, 0) := by decide +kernel
theorem s43_74 {L : pj_Loc} {st : List Value} {N S : Nat} {H : pj_Heap} {o : Nat} : pj_step 43 (74, L, .ref o :: st, (N, S, H)) = pj_pv 77 L st (N, S, H) (pj_fld (H o) 5 5) := st_getfield q43_74
theorem x43_74 {L : pj_Loc} {st : List Value} {N S : Nat} {H : pj_Heap} {o : Nat} {o9 : Option Value × pj_Mem} : pj_Ends 43 (74, L, .ref o :: st, (N, S, H)) o9 = pj_then 43 o9 (pj_pv 77 L st (N, S, H) (pj_fld (H o) 5 5)) := pj_xt q43_74 rfl (pj_cl_nc rfl) (s43_74)
theorem q43_77 : pj_row 43 77 = some (.iconst 1, 1, 0, 0, 0) := by decide +kernel
theorem s43_77 {L : pj_Loc} {st : List Value} {M : pj_Mem}  : pj_step 43 (77, L, st, M) = some (78, L, .int 1 :: st, M) := st_iconst q43_77 (by decide +kernel)
theorem x43_77 {L : pj_Loc} {st : List Value} {M : pj_Mem}  {o9 : Option Value × pj_Mem} : pj_Ends 43 (77, L, st, M) o9 = pj_Ends 43 (78, L, .int 1 :: st, M) o9 := pj_xs (s43_77)
theorem q43_78 : pj_row 43 78 = some (.iadd, 1, 0, 0, 0) := by decide +kernel
theorem s43_78 {L : pj_Loc} {st : List Value} {M : pj_Mem} {x y : Int32} : pj_step 43 (78, L, .int y :: .int x :: st, M) = some (79, L, .int (x + y) :: st, M) := st_iadd q43_78
theorem x43_78 {L : pj_Loc} {st : List Value} {M : pj_Mem} {x y : Int32} {o9 : Option Value × pj_Mem} : pj_Ends 43 (78, L, .int y :: .int x :: st, M) o9 = pj_Ends 43 (79, L, .int (x + y) :: st, M) o9 := pj_xs (s43_78)
theorem q43_79 : pj_row 43 79 = some (.putfield 148, 3, 5, 5, 0) := by decide +kernel
theorem s43_79 {L : pj_Loc} {st : List Value} {N S : Nat} {H : pj_Heap} {o : Nat} {v : Value} : pj_step 43 (79, L, v :: .ref o :: st, (N, S, H)) = pj_set 82 L st (N, S, H) o (pj_fset (H o) 5 5 v) := st_putfield q43_79
theorem x43_79 {L : pj_Loc} {st : List Value} {N S : Nat} {H : pj_Heap} {o : Nat} {v : Value} {o9 : Option Value × pj_Mem} : pj_Ends 43 (79, L, v :: .ref o :: st, (N, S, H)) o9 = pj_then 43 o9 (pj_set 82 L st (N, S, H) o (pj_fset (H o) 5 5 v)) := pj_xt q43_79 rfl (pj_cl_nc rfl) (s43_79)
theorem q43_82 : pj_row 43 82 = some (.return_, 1, 0, 0, 0) := by decide +kernel
theorem t43_82 {L : pj_Loc} {M : pj_Mem} : pj_Ends 43 (82, L, [], M) (none, M) := pj_Ends.ret q43_82 (pj_rtn_v rt43)
theorem rt44 : pj_rt 44 = some .int := rfl
theorem q44_0 : pj_row 44 0 = some (.iload_n 1, 1, 0, 0, 0) := by decide +kernel
theorem s44_0 {st : List Value} {M : pj_Mem} {l : pj_Loc} {a0 : Option Value} {x : Int32} : pj_step 44 (0, a0 :: some (.int x) :: l, st, M) = some (1, a0 :: some (.int x) :: l, .int x :: st, M) := st_iload_n q44_0 rfl
theorem x44_0 {st : List Value} {M : pj_Mem} {l : pj_Loc} {a0 : Option Value} {x : Int32} {o9 : Option Value × pj_Mem} : pj_Ends 44 (0, a0 :: some (.int x) :: l, st, M) o9 = pj_Ends 44 (1, a0 :: some (.int x) :: l, .int x :: st, M) o9 := pj_xs (s44_0)
theorem q44_1 : pj_row 44 1 = some (.ifCond .lt 8, 3, 9, 0, 0) := by decide +kernel
theorem s44_1 {L : pj_Loc} {st : List Value} {M : pj_Mem} {x : Int32} : pj_step 44 (1, L, .int x :: st, M) = some (if x < 0 then 9 else 4, L, st, M) := st_if_lt q44_1
theorem x44_1 {L : pj_Loc} {st : List Value} {M : pj_Mem} {x : Int32} {o9 : Option Value × pj_Mem} : pj_Ends 44 (1, L, .int x :: st, M) o9 = pj_Ends 44 (if x < 0 then 9 else 4, L, st, M) o9 := pj_xs (s44_1)
theorem q44_4 : pj_row 44 4 = some (.iload_n 1, 1, 0, 0, 0) := by decide +kernel
theorem s44_4 {st : List Value} {M : pj_Mem} {l : pj_Loc} {a0 : Option Value} {x : Int32} : pj_step 44 (4, a0 :: some (.int x) :: l, st, M) = some (5, a0 :: some (.int x) :: l, .int x :: st, M) := st_iload_n q44_4 rfl
theorem x44_4 {st : List Value} {M : pj_Mem} {l : pj_Loc} {a0 : Option Value} {x : Int32} {o9 : Option Value × pj_Mem} : pj_Ends 44 (4, a0 :: some (.int x) :: l, st, M) o9 = pj_Ends 44 (5, a0 :: some (.int x) :: l, .int x :: st, M) o9 := pj_xs (s44_4)
theorem q44_5 : pj_row 44 5 = some (.iconst 3, 1, 0, 0, 0) := by decide +kernel
theorem s44_5 {L : pj_Loc} {st : List Value} {M : pj_Mem}  : pj_step 44 (5, L, st, M) = some (6, L, .int 3 :: st, M) := st_iconst q44_5 (by decide +kernel)
theorem x44_5 {L : pj_Loc} {st : List Value} {M : pj_Mem}  {o9 : Option Value × pj_Mem} : pj_Ends 44 (5, L, st, M) o9 = pj_Ends 44 (6, L, .int 3 :: st, M) o9 := pj_xs (s44_5)
theorem q44_6 : pj_row 44 6 = some (.if_icmp .lt 5, 3, 11, 0, 0) := by decide +kernel
theorem s44_6 {L : pj_Loc} {st : List Value} {M : pj_Mem} {x y : Int32} : pj_step 44 (6, L, .int y :: .int x :: st, M) = some (if x < y then 11 else 9, L, st, M) := st_icmp_lt q44_6
theorem x44_6 {L : pj_Loc} {st : List Value} {M : pj_Mem} {x y : Int32} {o9 : Option Value × pj_Mem} : pj_Ends 44 (6, L, .int y :: .int x :: st, M) o9 = pj_Ends 44 (if x < y then 11 else 9, L, st, M) o9 := pj_xs (s44_6)
theorem q44_9 : pj_row 44 9 = some (.iconst (-1), 1, 0, 0, 0) := by decide +kernel
theorem s44_9 {L : pj_Loc} {st : List Value} {M : pj_Mem}  : pj_step 44 (9, L, st, M) = some (10, L, .int (-1) :: st, M) := st_iconst q44_9 (by decide +kernel)
theorem x44_9 {L : pj_Loc} {st : List Value} {M : pj_Mem}  {o9 : Option Value × pj_Mem} : pj_Ends 44 (9, L, st, M) o9 = pj_Ends 44 (10, L, .int (-1) :: st, M) o9 := pj_xs (s44_9)
theorem q44_10 : pj_row 44 10 = some (.ireturn, 1, 0, 0, 0) := by decide +kernel
theorem t44_10 {L : pj_Loc} {M : pj_Mem} {v : Int32} : pj_Ends 44 (10, L, [.int v], M) (some (.int v), M) := pj_Ends.ret q44_10 (pj_rtn_i rt44)
theorem q44_11 : pj_row 44 11 = some (.aload_n 0, 1, 0, 0, 0) := by decide +kernel
theorem s44_11 {st : List Value} {M : pj_Mem} {l : pj_Loc} {x : Nat} : pj_step 44 (11, some (.ref x) :: l, st, M) = some (12, some (.ref x) :: l, .ref x :: st, M) := st_aload_n q44_11 rfl
theorem x44_11 {st : List Value} {M : pj_Mem} {l : pj_Loc} {x : Nat} {o9 : Option Value × pj_Mem} : pj_Ends 44 (11, some (.ref x) :: l, st, M) o9 = pj_Ends 44 (12, some (.ref x) :: l, .ref x :: st, M) o9 := pj_xs (s44_11)
theorem q44_12 : pj_row 44 12 = some (.getfield 10, 3, 5, 0, 0) := by decide +kernel
theorem s44_12 {L : pj_Loc} {st : List Value} {N S : Nat} {H : pj_Heap} {o : Nat} : pj_step 44 (12, L, .ref o :: st, (N, S, H)) = pj_pv 15 L st (N, S, H) (pj_fld (H o) 5 0) := st_getfield q44_12
theorem x44_12 {L : pj_Loc} {st : List Value} {N S : Nat} {H : pj_Heap} {o : Nat} {o9 : Option Value × pj_Mem} : pj_Ends 44 (12, L, .ref o :: st, (N, S, H)) o9 = pj_then 44 o9 (pj_pv 15 L st (N, S, H) (pj_fld (H o) 5 0)) := pj_xt q44_12 rfl (pj_cl_nc rfl) (s44_12)
theorem q44_15 : pj_row 44 15 = some (.getfield 74, 3, 4, 8, 0) := by decide +kernel
theorem s44_15 {L : pj_Loc} {st : List Value} {N S : Nat} {H : pj_Heap} {o : Nat} : pj_step 44 (15, L, .ref o :: st, (N, S, H)) = pj_pv 18 L st (N, S, H) (pj_fld (H o) 4 8) := st_getfield q44_15
theorem x44_15 {L : pj_Loc} {st : List Value} {N S : Nat} {H : pj_Heap} {o : Nat} {o9 : Option Value × pj_Mem} : pj_Ends 44 (15, L, .ref o :: st, (N, S, H)) o9 = pj_then 44 o9 (pj_pv 18 L st (N, S, H) (pj_fld (H o) 4 8)) := pj_xt q44_15 rfl (pj_cl_nc rfl) (s44_15)
theorem q44_18 : pj_row 44 18 = some (.iload_n 1, 1, 0, 0, 0) := by decide +kernel
theorem s44_18 {st : List Value} {M : pj_Mem} {l : pj_Loc} {a0 : Option Value} {x : Int32} : pj_step 44 (18, a0 :: some (.int x) :: l, st, M) = some (19, a0 :: some (.int x) :: l, .int x :: st, M) := st_iload_n q44_18 rfl
theorem x44_18 {st : List Value} {M : pj_Mem} {l : pj_Loc} {a0 : Option Value} {x : Int32} {o9 : Option Value × pj_Mem} : pj_Ends 44 (18, a0 :: some (.int x) :: l, st, M) o9 = pj_Ends 44 (19, a0 :: some (.int x) :: l, .int x :: st, M) o9 := pj_xs (s44_18)
theorem q44_19 : pj_row 44 19 = some (.invokestatic 77, 3, 8, 2, 0) := by decide +kernel
theorem e44_19 {L : pj_Loc} {st : List Value} {N S : Nat} {H : pj_Heap} {o : Option Value × pj_Mem} {M' : pj_Mem} {x0 : Int32} {x1 : Int32} {r : Int32} (h4 : pj_le4 st = true) (h1 : pj_Ends 8 (0, [some (.int x0), some (.int x1)], [], (N, S, H)) (some (.int r), M')) (h2 : pj_Ends 44 (22, L, .int r :: st, M') o) : pj_Ends 44 (19, L, .int x1 :: .int x0 :: st, (N, S, H)) o := ec_s2 q44_19 (Or.inl rfl) h4 rfl h1 h2
theorem q44_22 : pj_row 44 22 = some (.iload_n 2, 1, 0, 0, 0) := by decide +kernel
theorem s44_22 {st : List Value} {M : pj_Mem} {l : pj_Loc} {a0 a1 : Option Value} {x : Int32} : pj_step 44 (22, a0 :: a1 :: some (.int x) :: l, st, M) = some (23, a0 :: a1 :: some (.int x) :: l, .int x :: st, M) := st_iload_n q44_22 rfl
theorem x44_22 {st : List Value} {M : pj_Mem} {l : pj_Loc} {a0 a1 : Option Value} {x : Int32} {o9 : Option Value × pj_Mem} : pj_Ends 44 (22, a0 :: a1 :: some (.int x) :: l, st, M) o9 = pj_Ends 44 (23, a0 :: a1 :: some (.int x) :: l, .int x :: st, M) o9 := pj_xs (s44_22)
theorem q44_23 : pj_row 44 23 = some (.if_icmp .eq 17, 3, 40, 0, 0) := by decide +kernel
theorem s44_23 {L : pj_Loc} {st : List Value} {M : pj_Mem} {x y : Int32} : pj_step 44 (23, L, .int y :: .int x :: st, M) = some (if x = y then 40 else 26, L, st, M) := st_icmp_eq q44_23
theorem x44_23 {L : pj_Loc} {st : List Value} {M : pj_Mem} {x y : Int32} {o9 : Option Value × pj_Mem} : pj_Ends 44 (23, L, .int y :: .int x :: st, M) o9 = pj_Ends 44 (if x = y then 40 else 26, L, st, M) o9 := pj_xs (s44_23)
theorem q44_26 : pj_row 44 26 = some (.aload_n 0, 1, 0, 0, 0) := by decide +kernel
theorem s44_26 {st : List Value} {M : pj_Mem} {l : pj_Loc} {x : Nat} : pj_step 44 (26, some (.ref x) :: l, st, M) = some (27, some (.ref x) :: l, .ref x :: st, M) := st_aload_n q44_26 rfl
theorem x44_26 {st : List Value} {M : pj_Mem} {l : pj_Loc} {x : Nat} {o9 : Option Value × pj_Mem} : pj_Ends 44 (26, some (.ref x) :: l, st, M) o9 = pj_Ends 44 (27, some (.ref x) :: l, .ref x :: st, M) o9 := pj_xs (s44_26)
theorem q44_27 : pj_row 44 27 = some (.getfield 10, 3, 5, 0, 0) := by decide +kernel
theorem s44_27 {L : pj_Loc} {st : List Value} {N S : Nat} {H : pj_Heap} {o : Nat} : pj_step 44 (27, L, .ref o :: st, (N, S, H)) = pj_pv 30 L st (N, S, H) (pj_fld (H o) 5 0) := st_getfield q44_27
theorem x44_27 {L : pj_Loc} {st : List Value} {N S : Nat} {H : pj_Heap} {o : Nat} {o9 : Option Value × pj_Mem} : pj_Ends 44 (27, L, .ref o :: st, (N, S, H)) o9 = pj_then 44 o9 (pj_pv 30 L st (N, S, H) (pj_fld (H o) 5 0)) := pj_xt q44_27 rfl (pj_cl_nc rfl) (s44_27)
theorem q44_30 : pj_row 44 30 = some (.getfield 81, 3, 4, 5, 0) := by decide +kernel
theorem s44_30 {L : pj_Loc} {st : List Value} {N S : Nat} {H : pj_Heap} {o : Nat} : pj_step 44 (30, L, .ref o :: st, (N, S, H)) = pj_pv 33 L st (N, S, H) (pj_fld (H o) 4 5) := st_getfield q44_30
theorem x44_30 {L : pj_Loc} {st : List Value} {N S : Nat} {H : pj_Heap} {o : Nat} {o9 : Option Value × pj_Mem} : pj_Ends 44 (30, L, .ref o :: st, (N, S, H)) o9 = pj_then 44 o9 (pj_pv 33 L st (N, S, H) (pj_fld (H o) 4 5)) := pj_xt q44_30 rfl (pj_cl_nc rfl) (s44_30)
theorem q44_33 : pj_row 44 33 = some (.iload_n 1, 1, 0, 0, 0) := by decide +kernel
theorem s44_33 {st : List Value} {M : pj_Mem} {l : pj_Loc} {a0 : Option Value} {x : Int32} : pj_step 44 (33, a0 :: some (.int x) :: l, st, M) = some (34, a0 :: some (.int x) :: l, .int x :: st, M) := st_iload_n q44_33 rfl
theorem x44_33 {st : List Value} {M : pj_Mem} {l : pj_Loc} {a0 : Option Value} {x : Int32} {o9 : Option Value × pj_Mem} : pj_Ends 44 (33, a0 :: some (.int x) :: l, st, M) o9 = pj_Ends 44 (34, a0 :: some (.int x) :: l, .int x :: st, M) o9 := pj_xs (s44_33)
theorem q44_34 : pj_row 44 34 = some (.iaload, 1, 0, 0, 0) := by decide +kernel
theorem s44_34 {L : pj_Loc} {st : List Value} {N S : Nat} {H : pj_Heap} {o : Nat} {i : Int32} : pj_step 44 (34, L, .int i :: .ref o :: st, (N, S, H)) = pj_pi 35 L st (N, S, H) (pj_arl (H o) 0 i) := st_iaload q44_34
theorem x44_34 {L : pj_Loc} {st : List Value} {N S : Nat} {H : pj_Heap} {o : Nat} {i : Int32} {o9 : Option Value × pj_Mem} : pj_Ends 44 (34, L, .int i :: .ref o :: st, (N, S, H)) o9 = pj_then 44 o9 (pj_pi 35 L st (N, S, H) (pj_arl (H o) 0 i)) := pj_xt q44_34 rfl (pj_cl_nc rfl) (s44_34)
theorem q44_35 : pj_row 44 35 = some (.bipush (-6), 2, 0, 0, 0) := by decide +kernel
theorem s44_35 {L : pj_Loc} {st : List Value} {M : pj_Mem}  : pj_step 44 (35, L, st, M) = some (37, L, .int (-6) :: st, M) := st_bipush q44_35 (by decide +kernel)
theorem x44_35 {L : pj_Loc} {st : List Value} {M : pj_Mem}  {o9 : Option Value × pj_Mem} : pj_Ends 44 (35, L, st, M) o9 = pj_Ends 44 (37, L, .int (-6) :: st, M) o9 := pj_xs (s44_35)
theorem q44_37 : pj_row 44 37 = some (.if_icmp .eq 6, 3, 43, 0, 0) := by decide +kernel
theorem s44_37 {L : pj_Loc} {st : List Value} {M : pj_Mem} {x y : Int32} : pj_step 44 (37, L, .int y :: .int x :: st, M) = some (if x = y then 43 else 40, L, st, M) := st_icmp_eq q44_37
theorem x44_37 {L : pj_Loc} {st : List Value} {M : pj_Mem} {x y : Int32} {o9 : Option Value × pj_Mem} : pj_Ends 44 (37, L, .int y :: .int x :: st, M) o9 = pj_Ends 44 (if x = y then 43 else 40, L, st, M) o9 := pj_xs (s44_37)
theorem q44_40 : pj_row 44 40 = some (.bipush (-5), 2, 0, 0, 0) := by decide +kernel
theorem s44_40 {L : pj_Loc} {st : List Value} {M : pj_Mem}  : pj_step 44 (40, L, st, M) = some (42, L, .int (-5) :: st, M) := st_bipush q44_40 (by decide +kernel)
theorem x44_40 {L : pj_Loc} {st : List Value} {M : pj_Mem}  {o9 : Option Value × pj_Mem} : pj_Ends 44 (40, L, st, M) o9 = pj_Ends 44 (42, L, .int (-5) :: st, M) o9 := pj_xs (s44_40)
theorem q44_42 : pj_row 44 42 = some (.ireturn, 1, 0, 0, 0) := by decide +kernel
theorem t44_42 {L : pj_Loc} {M : pj_Mem} {v : Int32} : pj_Ends 44 (42, L, [.int v], M) (some (.int v), M) := pj_Ends.ret q44_42 (pj_rtn_i rt44)
theorem q44_43 : pj_row 44 43 = some (.aload_n 0, 1, 0, 0, 0) := by decide +kernel
theorem s44_43 {st : List Value} {M : pj_Mem} {l : pj_Loc} {x : Nat} : pj_step 44 (43, some (.ref x) :: l, st, M) = some (44, some (.ref x) :: l, .ref x :: st, M) := st_aload_n q44_43 rfl
theorem x44_43 {st : List Value} {M : pj_Mem} {l : pj_Loc} {x : Nat} {o9 : Option Value × pj_Mem} : pj_Ends 44 (43, some (.ref x) :: l, st, M) o9 = pj_Ends 44 (44, some (.ref x) :: l, .ref x :: st, M) o9 := pj_xs (s44_43)
theorem q44_44 : pj_row 44 44 = some (.invokevirtual 55, 3, 43, 1, 0) := by decide +kernel
theorem e44_44 {L : pj_Loc} {st : List Value} {N S : Nat} {H : pj_Heap} {o : Option Value × pj_Mem} {M' : pj_Mem} {x0 : Nat} (h4 : pj_le4 st = true) (hu : pj_isU 5 (H x0) = true) (h1 : pj_Ends 43 (0, [some (.ref x0), none, none], [], (N, S, H)) (none, M')) (h2 : pj_Ends 44 (47, L, st, M') o) : pj_Ends 44 (44, L, .ref x0 :: st, (N, S, H)) o := ec_v1 q44_44 (Or.inl rfl) h4 hu rfl h1 h2
theorem q44_47 : pj_row 44 47 = some (.aload_n 0, 1, 0, 0, 0) := by decide +kernel
theorem s44_47 {st : List Value} {M : pj_Mem} {l : pj_Loc} {x : Nat} : pj_step 44 (47, some (.ref x) :: l, st, M) = some (48, some (.ref x) :: l, .ref x :: st, M) := st_aload_n q44_47 rfl
theorem x44_47 {st : List Value} {M : pj_Mem} {l : pj_Loc} {x : Nat} {o9 : Option Value × pj_Mem} : pj_Ends 44 (47, some (.ref x) :: l, st, M) o9 = pj_Ends 44 (48, some (.ref x) :: l, .ref x :: st, M) o9 := pj_xs (s44_47)
theorem q44_48 : pj_row 44 48 = some (.getfield 10, 3, 5, 0, 0) := by decide +kernel
theorem s44_48 {L : pj_Loc} {st : List Value} {N S : Nat} {H : pj_Heap} {o : Nat} : pj_step 44 (48, L, .ref o :: st, (N, S, H)) = pj_pv 51 L st (N, S, H) (pj_fld (H o) 5 0) := st_getfield q44_48
theorem x44_48 {L : pj_Loc} {st : List Value} {N S : Nat} {H : pj_Heap} {o : Nat} {o9 : Option Value × pj_Mem} : pj_Ends 44 (48, L, .ref o :: st, (N, S, H)) o9 = pj_then 44 o9 (pj_pv 51 L st (N, S, H) (pj_fld (H o) 5 0)) := pj_xt q44_48 rfl (pj_cl_nc rfl) (s44_48)
theorem q44_51 : pj_row 44 51 = some (.iload_n 2, 1, 0, 0, 0) := by decide +kernel
theorem s44_51 {st : List Value} {M : pj_Mem} {l : pj_Loc} {a0 a1 : Option Value} {x : Int32} : pj_step 44 (51, a0 :: a1 :: some (.int x) :: l, st, M) = some (52, a0 :: a1 :: some (.int x) :: l, .int x :: st, M) := st_iload_n q44_51 rfl
theorem x44_51 {st : List Value} {M : pj_Mem} {l : pj_Loc} {a0 a1 : Option Value} {x : Int32} {o9 : Option Value × pj_Mem} : pj_Ends 44 (51, a0 :: a1 :: some (.int x) :: l, st, M) o9 = pj_Ends 44 (52, a0 :: a1 :: some (.int x) :: l, .int x :: st, M) o9 := pj_xs (s44_51)
theorem q44_52 : pj_row 44 52 = some (.ifCond .eq 17, 3, 69, 0, 0) := by decide +kernel
theorem s44_52 {L : pj_Loc} {st : List Value} {M : pj_Mem} {x : Int32} : pj_step 44 (52, L, .int x :: st, M) = some (if x = 0 then 69 else 55, L, st, M) := st_if_eq q44_52
theorem x44_52 {L : pj_Loc} {st : List Value} {M : pj_Mem} {x : Int32} {o9 : Option Value × pj_Mem} : pj_Ends 44 (52, L, .int x :: st, M) o9 = pj_Ends 44 (if x = 0 then 69 else 55, L, st, M) o9 := pj_xs (s44_52)
theorem q44_55 : pj_row 44 55 = some (.aload_n 0, 1, 0, 0, 0) := by decide +kernel
theorem s44_55 {st : List Value} {M : pj_Mem} {l : pj_Loc} {x : Nat} : pj_step 44 (55, some (.ref x) :: l, st, M) = some (56, some (.ref x) :: l, .ref x :: st, M) := st_aload_n q44_55 rfl
theorem x44_55 {st : List Value} {M : pj_Mem} {l : pj_Loc} {x : Nat} {o9 : Option Value × pj_Mem} : pj_Ends 44 (55, some (.ref x) :: l, st, M) o9 = pj_Ends 44 (56, some (.ref x) :: l, .ref x :: st, M) o9 := pj_xs (s44_55)
theorem q44_56 : pj_row 44 56 = some (.getfield 10, 3, 5, 0, 0) := by decide +kernel
theorem s44_56 {L : pj_Loc} {st : List Value} {N S : Nat} {H : pj_Heap} {o : Nat} : pj_step 44 (56, L, .ref o :: st, (N, S, H)) = pj_pv 59 L st (N, S, H) (pj_fld (H o) 5 0) := st_getfield q44_56
theorem x44_56 {L : pj_Loc} {st : List Value} {N S : Nat} {H : pj_Heap} {o : Nat} {o9 : Option Value × pj_Mem} : pj_Ends 44 (56, L, .ref o :: st, (N, S, H)) o9 = pj_then 44 o9 (pj_pv 59 L st (N, S, H) (pj_fld (H o) 5 0)) := pj_xt q44_56 rfl (pj_cl_nc rfl) (s44_56)
theorem q44_59 : pj_row 44 59 = some (.getfield 74, 3, 4, 8, 0) := by decide +kernel
theorem s44_59 {L : pj_Loc} {st : List Value} {N S : Nat} {H : pj_Heap} {o : Nat} : pj_step 44 (59, L, .ref o :: st, (N, S, H)) = pj_pv 62 L st (N, S, H) (pj_fld (H o) 4 8) := st_getfield q44_59
theorem x44_59 {L : pj_Loc} {st : List Value} {N S : Nat} {H : pj_Heap} {o : Nat} {o9 : Option Value × pj_Mem} : pj_Ends 44 (59, L, .ref o :: st, (N, S, H)) o9 = pj_then 44 o9 (pj_pv 62 L st (N, S, H) (pj_fld (H o) 4 8)) := pj_xt q44_59 rfl (pj_cl_nc rfl) (s44_59)
theorem q44_62 : pj_row 44 62 = some (.iload_n 1, 1, 0, 0, 0) := by decide +kernel
theorem s44_62 {st : List Value} {M : pj_Mem} {l : pj_Loc} {a0 : Option Value} {x : Int32} : pj_step 44 (62, a0 :: some (.int x) :: l, st, M) = some (63, a0 :: some (.int x) :: l, .int x :: st, M) := st_iload_n q44_62 rfl
theorem x44_62 {st : List Value} {M : pj_Mem} {l : pj_Loc} {a0 : Option Value} {x : Int32} {o9 : Option Value × pj_Mem} : pj_Ends 44 (62, a0 :: some (.int x) :: l, st, M) o9 = pj_Ends 44 (63, a0 :: some (.int x) :: l, .int x :: st, M) o9 := pj_xs (s44_62)
theorem q44_63 : pj_row 44 63 = some (.invokestatic 84, 3, 12, 2, 0) := by decide +kernel
theorem e44_63 {L : pj_Loc} {st : List Value} {N S : Nat} {H : pj_Heap} {o : Option Value × pj_Mem} {M' : pj_Mem} {x0 : Int32} {x1 : Int32} {r : Int32} (h4 : pj_le4 st = true) (h1 : pj_Ends 12 (0, [some (.int x0), some (.int x1)], [], (N, S, H)) (some (.int r), M')) (h2 : pj_Ends 44 (66, L, .int r :: st, M') o) : pj_Ends 44 (63, L, .int x1 :: .int x0 :: st, (N, S, H)) o := ec_s2 q44_63 (Or.inl rfl) h4 rfl h1 h2
theorem q44_66 : pj_row 44 66 = some (.goto 14, 3, 80, 0, 0) := by decide +kernel
theorem s44_66 {L : pj_Loc} {st : List Value} {M : pj_Mem}  : pj_step 44 (66, L, st, M) = some (80, L, st, M) := st_goto q44_66
theorem x44_66 {L : pj_Loc} {st : List Value} {M : pj_Mem}  {o9 : Option Value × pj_Mem} : pj_Ends 44 (66, L, st, M) o9 = pj_Ends 44 (80, L, st, M) o9 := pj_xs (s44_66)
theorem q44_69 : pj_row 44 69 = some (.aload_n 0, 1, 0, 0, 0) := by decide +kernel
theorem s44_69 {st : List Value} {M : pj_Mem} {l : pj_Loc} {x : Nat} : pj_step 44 (69, some (.ref x) :: l, st, M) = some (70, some (.ref x) :: l, .ref x :: st, M) := st_aload_n q44_69 rfl
theorem x44_69 {st : List Value} {M : pj_Mem} {l : pj_Loc} {x : Nat} {o9 : Option Value × pj_Mem} : pj_Ends 44 (69, some (.ref x) :: l, st, M) o9 = pj_Ends 44 (70, some (.ref x) :: l, .ref x :: st, M) o9 := pj_xs (s44_69)
theorem q44_70 : pj_row 44 70 = some (.getfield 10, 3, 5, 0, 0) := by decide +kernel
theorem s44_70 {L : pj_Loc} {st : List Value} {N S : Nat} {H : pj_Heap} {o : Nat} : pj_step 44 (70, L, .ref o :: st, (N, S, H)) = pj_pv 73 L st (N, S, H) (pj_fld (H o) 5 0) := st_getfield q44_70
theorem x44_70 {L : pj_Loc} {st : List Value} {N S : Nat} {H : pj_Heap} {o : Nat} {o9 : Option Value × pj_Mem} : pj_Ends 44 (70, L, .ref o :: st, (N, S, H)) o9 = pj_then 44 o9 (pj_pv 73 L st (N, S, H) (pj_fld (H o) 5 0)) := pj_xt q44_70 rfl (pj_cl_nc rfl) (s44_70)
theorem q44_73 : pj_row 44 73 = some (.getfield 74, 3, 4, 8, 0) := by decide +kernel
theorem s44_73 {L : pj_Loc} {st : List Value} {N S : Nat} {H : pj_Heap} {o : Nat} : pj_step 44 (73, L, .ref o :: st, (N, S, H)) = pj_pv 76 L st (N, S, H) (pj_fld (H o) 4 8) := st_getfield q44_73
theorem x44_73 {L : pj_Loc} {st : List Value} {N S : Nat} {H : pj_Heap} {o : Nat} {o9 : Option Value × pj_Mem} : pj_Ends 44 (73, L, .ref o :: st, (N, S, H)) o9 = pj_then 44 o9 (pj_pv 76 L st (N, S, H) (pj_fld (H o) 4 8)) := pj_xt q44_73 rfl (pj_cl_nc rfl) (s44_73)
theorem q44_76 : pj_row 44 76 = some (.iload_n 1, 1, 0, 0, 0) := by decide +kernel
theorem s44_76 {st : List Value} {M : pj_Mem} {l : pj_Loc} {a0 : Option Value} {x : Int32} : pj_step 44 (76, a0 :: some (.int x) :: l, st, M) = some (77, a0 :: some (.int x) :: l, .int x :: st, M) := st_iload_n q44_76 rfl
theorem x44_76 {st : List Value} {M : pj_Mem} {l : pj_Loc} {a0 : Option Value} {x : Int32} {o9 : Option Value × pj_Mem} : pj_Ends 44 (76, a0 :: some (.int x) :: l, st, M) o9 = pj_Ends 44 (77, a0 :: some (.int x) :: l, .int x :: st, M) o9 := pj_xs (s44_76)
theorem q44_77 : pj_row 44 77 = some (.invokestatic 88, 3, 17, 2, 0) := by decide +kernel
theorem e44_77 {L : pj_Loc} {st : List Value} {N S : Nat} {H : pj_Heap} {o : Option Value × pj_Mem} {M' : pj_Mem} {x0 : Int32} {x1 : Int32} {r : Int32} (h4 : pj_le4 st = true) (h1 : pj_Ends 17 (0, [some (.int x0), some (.int x1)], [], (N, S, H)) (some (.int r), M')) (h2 : pj_Ends 44 (80, L, .int r :: st, M') o) : pj_Ends 44 (77, L, .int x1 :: .int x0 :: st, (N, S, H)) o := ec_s2 q44_77 (Or.inl rfl) h4 rfl h1 h2
theorem q44_80 : pj_row 44 80 = some (.putfield 74, 3, 4, 8, 0) := by decide +kernel
theorem s44_80 {L : pj_Loc} {st : List Value} {N S : Nat} {H : pj_Heap} {o : Nat} {v : Value} : pj_step 44 (80, L, v :: .ref o :: st, (N, S, H)) = pj_set 83 L st (N, S, H) o (pj_fset (H o) 4 8 v) := st_putfield q44_80
theorem x44_80 {L : pj_Loc} {st : List Value} {N S : Nat} {H : pj_Heap} {o : Nat} {v : Value} {o9 : Option Value × pj_Mem} : pj_Ends 44 (80, L, v :: .ref o :: st, (N, S, H)) o9 = pj_then 44 o9 (pj_set 83 L st (N, S, H) o (pj_fset (H o) 4 8 v)) := pj_xt q44_80 rfl (pj_cl_nc rfl) (s44_80)
theorem q44_83 : pj_row 44 83 = some (.aload_n 0, 1, 0, 0, 0) := by decide +kernel
theorem s44_83 {st : List Value} {M : pj_Mem} {l : pj_Loc} {x : Nat} : pj_step 44 (83, some (.ref x) :: l, st, M) = some (84, some (.ref x) :: l, .ref x :: st, M) := st_aload_n q44_83 rfl
theorem x44_83 {st : List Value} {M : pj_Mem} {l : pj_Loc} {x : Nat} {o9 : Option Value × pj_Mem} : pj_Ends 44 (83, some (.ref x) :: l, st, M) o9 = pj_Ends 44 (84, some (.ref x) :: l, .ref x :: st, M) o9 := pj_xs (s44_83)
theorem q44_84 : pj_row 44 84 = some (.getfield 10, 3, 5, 0, 0) := by decide +kernel
theorem s44_84 {L : pj_Loc} {st : List Value} {N S : Nat} {H : pj_Heap} {o : Nat} : pj_step 44 (84, L, .ref o :: st, (N, S, H)) = pj_pv 87 L st (N, S, H) (pj_fld (H o) 5 0) := st_getfield q44_84
theorem x44_84 {L : pj_Loc} {st : List Value} {N S : Nat} {H : pj_Heap} {o : Nat} {o9 : Option Value × pj_Mem} : pj_Ends 44 (84, L, .ref o :: st, (N, S, H)) o9 = pj_then 44 o9 (pj_pv 87 L st (N, S, H) (pj_fld (H o) 5 0)) := pj_xt q44_84 rfl (pj_cl_nc rfl) (s44_84)
theorem q44_87 : pj_row 44 87 = some (.getfield 74, 3, 4, 8, 0) := by decide +kernel
theorem s44_87 {L : pj_Loc} {st : List Value} {N S : Nat} {H : pj_Heap} {o : Nat} : pj_step 44 (87, L, .ref o :: st, (N, S, H)) = pj_pv 90 L st (N, S, H) (pj_fld (H o) 4 8) := st_getfield q44_87
theorem x44_87 {L : pj_Loc} {st : List Value} {N S : Nat} {H : pj_Heap} {o : Nat} {o9 : Option Value × pj_Mem} : pj_Ends 44 (87, L, .ref o :: st, (N, S, H)) o9 = pj_then 44 o9 (pj_pv 90 L st (N, S, H) (pj_fld (H o) 4 8)) := pj_xt q44_87 rfl (pj_cl_nc rfl) (s44_87)
theorem q44_90 : pj_row 44 90 = some (.ireturn, 1, 0, 0, 0) := by decide +kernel
theorem t44_90 {L : pj_Loc} {M : pj_Mem} {v : Int32} : pj_Ends 44 (90, L, [.int v], M) (some (.int v), M) := pj_Ends.ret q44_90 (pj_rtn_i rt44)
theorem rt45 : pj_rt 45 = some .int := rfl
theorem q45_0 : pj_row 45 0 = some (.iload_n 1, 1, 0, 0, 0) := by decide +kernel
theorem s45_0 {st : List Value} {M : pj_Mem} {l : pj_Loc} {a0 : Option Value} {x : Int32} : pj_step 45 (0, a0 :: some (.int x) :: l, st, M) = some (1, a0 :: some (.int x) :: l, .int x :: st, M) := st_iload_n q45_0 rfl
theorem x45_0 {st : List Value} {M : pj_Mem} {l : pj_Loc} {a0 : Option Value} {x : Int32} {o9 : Option Value × pj_Mem} : pj_Ends 45 (0, a0 :: some (.int x) :: l, st, M) o9 = pj_Ends 45 (1, a0 :: some (.int x) :: l, .int x :: st, M) o9 := pj_xs (s45_0)
theorem q45_1 : pj_row 45 1 = some (.ifCond .lt 8, 3, 9, 0, 0) := by decide +kernel
theorem s45_1 {L : pj_Loc} {st : List Value} {M : pj_Mem} {x : Int32} : pj_step 45 (1, L, .int x :: st, M) = some (if x < 0 then 9 else 4, L, st, M) := st_if_lt q45_1
theorem x45_1 {L : pj_Loc} {st : List Value} {M : pj_Mem} {x : Int32} {o9 : Option Value × pj_Mem} : pj_Ends 45 (1, L, .int x :: st, M) o9 = pj_Ends 45 (if x < 0 then 9 else 4, L, st, M) o9 := pj_xs (s45_1)
theorem q45_4 : pj_row 45 4 = some (.iload_n 1, 1, 0, 0, 0) := by decide +kernel
theorem s45_4 {st : List Value} {M : pj_Mem} {l : pj_Loc} {a0 : Option Value} {x : Int32} : pj_step 45 (4, a0 :: some (.int x) :: l, st, M) = some (5, a0 :: some (.int x) :: l, .int x :: st, M) := st_iload_n q45_4 rfl
theorem x45_4 {st : List Value} {M : pj_Mem} {l : pj_Loc} {a0 : Option Value} {x : Int32} {o9 : Option Value × pj_Mem} : pj_Ends 45 (4, a0 :: some (.int x) :: l, st, M) o9 = pj_Ends 45 (5, a0 :: some (.int x) :: l, .int x :: st, M) o9 := pj_xs (s45_4)
theorem q45_5 : pj_row 45 5 = some (.iconst 3, 1, 0, 0, 0) := by decide +kernel
theorem s45_5 {L : pj_Loc} {st : List Value} {M : pj_Mem}  : pj_step 45 (5, L, st, M) = some (6, L, .int 3 :: st, M) := st_iconst q45_5 (by decide +kernel)
theorem x45_5 {L : pj_Loc} {st : List Value} {M : pj_Mem}  {o9 : Option Value × pj_Mem} : pj_Ends 45 (5, L, st, M) o9 = pj_Ends 45 (6, L, .int 3 :: st, M) o9 := pj_xs (s45_5)
theorem q45_6 : pj_row 45 6 = some (.if_icmp .lt 5, 3, 11, 0, 0) := by decide +kernel
theorem s45_6 {L : pj_Loc} {st : List Value} {M : pj_Mem} {x y : Int32} : pj_step 45 (6, L, .int y :: .int x :: st, M) = some (if x < y then 11 else 9, L, st, M) := st_icmp_lt q45_6
theorem x45_6 {L : pj_Loc} {st : List Value} {M : pj_Mem} {x y : Int32} {o9 : Option Value × pj_Mem} : pj_Ends 45 (6, L, .int y :: .int x :: st, M) o9 = pj_Ends 45 (if x < y then 11 else 9, L, st, M) o9 := pj_xs (s45_6)
theorem q45_9 : pj_row 45 9 = some (.iconst (-1), 1, 0, 0, 0) := by decide +kernel
theorem s45_9 {L : pj_Loc} {st : List Value} {M : pj_Mem}  : pj_step 45 (9, L, st, M) = some (10, L, .int (-1) :: st, M) := st_iconst q45_9 (by decide +kernel)
theorem x45_9 {L : pj_Loc} {st : List Value} {M : pj_Mem}  {o9 : Option Value × pj_Mem} : pj_Ends 45 (9, L, st, M) o9 = pj_Ends 45 (10, L, .int (-1) :: st, M) o9 := pj_xs (s45_9)
theorem q45_10 : pj_row 45 10 = some (.ireturn, 1, 0, 0, 0) := by decide +kernel
theorem t45_10 {L : pj_Loc} {M : pj_Mem} {v : Int32} : pj_Ends 45 (10, L, [.int v], M) (some (.int v), M) := pj_Ends.ret q45_10 (pj_rtn_i rt45)
theorem q45_11 : pj_row 45 11 = some (.aload_n 0, 1, 0, 0, 0) := by decide +kernel
theorem s45_11 {st : List Value} {M : pj_Mem} {l : pj_Loc} {x : Nat} : pj_step 45 (11, some (.ref x) :: l, st, M) = some (12, some (.ref x) :: l, .ref x :: st, M) := st_aload_n q45_11 rfl
theorem x45_11 {st : List Value} {M : pj_Mem} {l : pj_Loc} {x : Nat} {o9 : Option Value × pj_Mem} : pj_Ends 45 (11, some (.ref x) :: l, st, M) o9 = pj_Ends 45 (12, some (.ref x) :: l, .ref x :: st, M) o9 := pj_xs (s45_11)
theorem q45_12 : pj_row 45 12 = some (.getfield 10, 3, 5, 0, 0) := by decide +kernel
theorem s45_12 {L : pj_Loc} {st : List Value} {N S : Nat} {H : pj_Heap} {o : Nat} : pj_step 45 (12, L, .ref o :: st, (N, S, H)) = pj_pv 15 L st (N, S, H) (pj_fld (H o) 5 0) := st_getfield q45_12
theorem x45_12 {L : pj_Loc} {st : List Value} {N S : Nat} {H : pj_Heap} {o : Nat} {o9 : Option Value × pj_Mem} : pj_Ends 45 (12, L, .ref o :: st, (N, S, H)) o9 = pj_then 45 o9 (pj_pv 15 L st (N, S, H) (pj_fld (H o) 5 0)) := pj_xt q45_12 rfl (pj_cl_nc rfl) (s45_12)
theorem q45_15 : pj_row 45 15 = some (.invokevirtual 91, 3, 11, 1, 0) := by decide +kernel
theorem e45_15 {L : pj_Loc} {st : List Value} {N S : Nat} {H : pj_Heap} {o : Option Value × pj_Mem} {M' : pj_Mem} {x0 : Nat} {r : Int32} (h4 : pj_le4 st = true) (hu : pj_isU 4 (H x0) = true) (h1 : pj_Ends 11 (0, [some (.ref x0), none, none], [], (N, S, H)) (some (.int r), M')) (h2 : pj_Ends 45 (18, L, .int r :: st, M') o) : pj_Ends 45 (15, L, .ref x0 :: st, (N, S, H)) o := ec_v1 q45_15 (Or.inl rfl) h4 hu rfl h1 h2
theorem q45_18 : pj_row 45 18 = some (.ifCond .eq 6, 3, 24, 0, 0) := by decide +kernel
theorem s45_18 {L : pj_Loc} {st : List Value} {M : pj_Mem} {x : Int32} : pj_step 45 (18, L, .int x :: st, M) = some (if x = 0 then 24 else 21, L, st, M) := st_if_eq q45_18
theorem x45_18 {L : pj_Loc} {st : List Value} {M : pj_Mem} {x : Int32} {o9 : Option Value × pj_Mem} : pj_Ends 45 (18, L, .int x :: st, M) o9 = pj_Ends 45 (if x = 0 then 24 else 21, L, st, M) o9 := pj_xs (s45_18)
theorem q45_21 : pj_row 45 21 = some (.bipush (-5), 2, 0, 0, 0) := by decide +kernel
theorem s45_21 {L : pj_Loc} {st : List Value} {M : pj_Mem}  : pj_step 45 (21, L, st, M) = some (23, L, .int (-5) :: st, M) := st_bipush q45_21 (by decide +kernel)
theorem x45_21 {L : pj_Loc} {st : List Value} {M : pj_Mem}  {o9 : Option Value × pj_Mem} : pj_Ends 45 (21, L, st, M) o9 = pj_Ends 45 (23, L, .int (-5) :: st, M) o9 := pj_xs (s45_21)
theorem q45_23 : pj_row 45 23 = some (.ireturn, 1, 0, 0, 0) := by decide +kernel
theorem t45_23 {L : pj_Loc} {M : pj_Mem} {v : Int32} : pj_Ends 45 (23, L, [.int v], M) (some (.int v), M) := pj_Ends.ret q45_23 (pj_rtn_i rt45)
theorem q45_24 : pj_row 45 24 = some (.aload_n 0, 1, 0, 0, 0) := by decide +kernel
theorem s45_24 {st : List Value} {M : pj_Mem} {l : pj_Loc} {x : Nat} : pj_step 45 (24, some (.ref x) :: l, st, M) = some (25, some (.ref x) :: l, .ref x :: st, M) := st_aload_n q45_24 rfl
theorem x45_24 {st : List Value} {M : pj_Mem} {l : pj_Loc} {x : Nat} {o9 : Option Value × pj_Mem} : pj_Ends 45 (24, some (.ref x) :: l, st, M) o9 = pj_Ends 45 (25, some (.ref x) :: l, .ref x :: st, M) o9 := pj_xs (s45_24)
theorem q45_25 : pj_row 45 25 = some (.invokevirtual 55, 3, 43, 1, 0) := by decide +kernel
theorem e45_25 {L : pj_Loc} {st : List Value} {N S : Nat} {H : pj_Heap} {o : Option Value × pj_Mem} {M' : pj_Mem} {x0 : Nat} (h4 : pj_le4 st = true) (hu : pj_isU 5 (H x0) = true) (h1 : pj_Ends 43 (0, [some (.ref x0), none, none], [], (N, S, H)) (none, M')) (h2 : pj_Ends 45 (28, L, st, M') o) : pj_Ends 45 (25, L, .ref x0 :: st, (N, S, H)) o := ec_v1 q45_25 (Or.inl rfl) h4 hu rfl h1 h2
theorem q45_28 : pj_row 45 28 = some (.aload_n 0, 1, 0, 0, 0) := by decide +kernel
theorem s45_28 {st : List Value} {M : pj_Mem} {l : pj_Loc} {x : Nat} : pj_step 45 (28, some (.ref x) :: l, st, M) = some (29, some (.ref x) :: l, .ref x :: st, M) := st_aload_n q45_28 rfl
theorem x45_28 {st : List Value} {M : pj_Mem} {l : pj_Loc} {x : Nat} {o9 : Option Value × pj_Mem} : pj_Ends 45 (28, some (.ref x) :: l, st, M) o9 = pj_Ends 45 (29, some (.ref x) :: l, .ref x :: st, M) o9 := pj_xs (s45_28)
theorem q45_29 : pj_row 45 29 = some (.getfield 10, 3, 5, 0, 0) := by decide +kernel
theorem s45_29 {L : pj_Loc} {st : List Value} {N S : Nat} {H : pj_Heap} {o : Nat} : pj_step 45 (29, L, .ref o :: st, (N, S, H)) = pj_pv 32 L st (N, S, H) (pj_fld (H o) 5 0) := st_getfield q45_29
theorem x45_29 {L : pj_Loc} {st : List Value} {N S : Nat} {H : pj_Heap} {o : Nat} {o9 : Option Value × pj_Mem} : pj_Ends 45 (29, L, .ref o :: st, (N, S, H)) o9 = pj_then 45 o9 (pj_pv 32 L st (N, S, H) (pj_fld (H o) 5 0)) := pj_xt q45_29 rfl (pj_cl_nc rfl) (s45_29)
theorem q45_32 : pj_row 45 32 = some (.getfield 95, 3, 4, 7, 0) := by decide +kernel
theorem s45_32 {L : pj_Loc} {st : List Value} {N S : Nat} {H : pj_Heap} {o : Nat} : pj_step 45 (32, L, .ref o :: st, (N, S, H)) = pj_pv 35 L st (N, S, H) (pj_fld (H o) 4 7) := st_getfield q45_32
theorem x45_32 {L : pj_Loc} {st : List Value} {N S : Nat} {H : pj_Heap} {o : Nat} {o9 : Option Value × pj_Mem} : pj_Ends 45 (32, L, .ref o :: st, (N, S, H)) o9 = pj_then 45 o9 (pj_pv 35 L st (N, S, H) (pj_fld (H o) 4 7)) := pj_xt q45_32 rfl (pj_cl_nc rfl) (s45_32)
theorem q45_35 : pj_row 45 35 = some (.iload_n 1, 1, 0, 0, 0) := by decide +kernel
theorem s45_35 {st : List Value} {M : pj_Mem} {l : pj_Loc} {a0 : Option Value} {x : Int32} : pj_step 45 (35, a0 :: some (.int x) :: l, st, M) = some (36, a0 :: some (.int x) :: l, .int x :: st, M) := st_iload_n q45_35 rfl
theorem x45_35 {st : List Value} {M : pj_Mem} {l : pj_Loc} {a0 : Option Value} {x : Int32} {o9 : Option Value × pj_Mem} : pj_Ends 45 (35, a0 :: some (.int x) :: l, st, M) o9 = pj_Ends 45 (36, a0 :: some (.int x) :: l, .int x :: st, M) o9 := pj_xs (s45_35)
theorem q45_36 : pj_row 45 36 = some (.invokestatic 77, 3, 8, 2, 0) := by decide +kernel
theorem e45_36 {L : pj_Loc} {st : List Value} {N S : Nat} {H : pj_Heap} {o : Option Value × pj_Mem} {M' : pj_Mem} {x0 : Int32} {x1 : Int32} {r : Int32} (h4 : pj_le4 st = true) (h1 : pj_Ends 8 (0, [some (.int x0), some (.int x1)], [], (N, S, H)) (some (.int r), M')) (h2 : pj_Ends 45 (39, L, .int r :: st, M') o) : pj_Ends 45 (36, L, .int x1 :: .int x0 :: st, (N, S, H)) o := ec_s2 q45_36 (Or.inl rfl) h4 rfl h1 h2
theorem q45_39 : pj_row 45 39 = some (.ifCond .eq 7, 3, 46, 0, 0) := by decide +kernel
theorem s45_39 {L : pj_Loc} {st : List Value} {M : pj_Mem} {x : Int32} : pj_step 45 (39, L, .int x :: st, M) = some (if x = 0 then 46 else 42, L, st, M) := st_if_eq q45_39
theorem x45_39 {L : pj_Loc} {st : List Value} {M : pj_Mem} {x : Int32} {o9 : Option Value × pj_Mem} : pj_Ends 45 (39, L, .int x :: st, M) o9 = pj_Ends 45 (if x = 0 then 46 else 42, L, st, M) o9 := pj_xs (s45_39)
theorem q45_42 : pj_row 45 42 = some (.iconst 0, 1, 0, 0, 0) := by decide +kernel
theorem s45_42 {L : pj_Loc} {st : List Value} {M : pj_Mem}  : pj_step 45 (42, L, st, M) = some (43, L, .int 0 :: st, M) := st_iconst q45_42 (by decide +kernel)
theorem x45_42 {L : pj_Loc} {st : List Value} {M : pj_Mem}  {o9 : Option Value × pj_Mem} : pj_Ends 45 (42, L, st, M) o9 = pj_Ends 45 (43, L, .int 0 :: st, M) o9 := pj_xs (s45_42)
theorem q45_43 : pj_row 45 43 = some (.goto 4, 3, 47, 0, 0) := by decide +kernel
theorem s45_43 {L : pj_Loc} {st : List Value} {M : pj_Mem}  : pj_step 45 (43, L, st, M) = some (47, L, st, M) := st_goto q45_43
theorem x45_43 {L : pj_Loc} {st : List Value} {M : pj_Mem}  {o9 : Option Value × pj_Mem} : pj_Ends 45 (43, L, st, M) o9 = pj_Ends 45 (47, L, st, M) o9 := pj_xs (s45_43)
theorem q45_46 : pj_row 45 46 = some (.iconst 1, 1, 0, 0, 0) := by decide +kernel
theorem s45_46 {L : pj_Loc} {st : List Value} {M : pj_Mem}  : pj_step 45 (46, L, st, M) = some (47, L, .int 1 :: st, M) := st_iconst q45_46 (by decide +kernel)
theorem x45_46 {L : pj_Loc} {st : List Value} {M : pj_Mem}  {o9 : Option Value × pj_Mem} : pj_Ends 45 (46, L, st, M) o9 = pj_Ends 45 (47, L, .int 1 :: st, M) o9 := pj_xs (s45_46)
theorem q45_47 : pj_row 45 47 = some (.istore_n 2, 1, 0, 0, 0) := by decide +kernel
theorem s45_47 {st : List Value} {M : pj_Mem} {l : pj_Loc} {a0 a1 a2 : Option Value} {x : Int32} (h : pj_long a1 = false) : pj_step 45 (47, a0 :: a1 :: a2 :: l, .int x :: st, M) = some (48, a0 :: a1 :: some (.int x) :: l, st, M) := st_istore_n q45_47 (pj_st_2 h)
theorem x45_47 {st : List Value} {M : pj_Mem} {l : pj_Loc} {a0 a1 a2 : Option Value} {x : Int32} (h : pj_long a1 = false) {o9 : Option Value × pj_Mem} : pj_Ends 45 (47, a0 :: a1 :: a2 :: l, .int x :: st, M) o9 = pj_Ends 45 (48, a0 :: a1 :: some (.int x) :: l, st, M) o9 := pj_xs (s45_47 h)
theorem q45_48 : pj_row 45 48 = some (.aload_n 0, 1, 0, 0, 0) := by decide +kernel
theorem s45_48 {st : List Value} {M : pj_Mem} {l : pj_Loc} {x : Nat} : pj_step 45 (48, some (.ref x) :: l, st, M) = some (49, some (.ref x) :: l, .ref x :: st, M) := st_aload_n q45_48 rfl
theorem x45_48 {st : List Value} {M : pj_Mem} {l : pj_Loc} {x : Nat} {o9 : Option Value × pj_Mem} : pj_Ends 45 (48, some (.ref x) :: l, st, M) o9 = pj_Ends 45 (49, some (.ref x) :: l, .ref x :: st, M) o9 := pj_xs (s45_48)
theorem q45_49 : pj_row 45 49 = some (.getfield 10, 3, 5, 0, 0) := by decide +kernel
theorem s45_49 {L : pj_Loc} {st : List Value} {N S : Nat} {H : pj_Heap} {o : Nat} : pj_step 45 (49, L, .ref o :: st, (N, S, H)) = pj_pv 52 L st (N, S, H) (pj_fld (H o) 5 0) := st_getfield q45_49
theorem x45_49 {L : pj_Loc} {st : List Value} {N S : Nat} {H : pj_Heap} {o : Nat} {o9 : Option Value × pj_Mem} : pj_Ends 45 (49, L, .ref o :: st, (N, S, H)) o9 = pj_then 45 o9 (pj_pv 52 L st (N, S, H) (pj_fld (H o) 5 0)) := pj_xt q45_49 rfl (pj_cl_nc rfl) (s45_49)
theorem q45_52 : pj_row 45 52 = some (.aload_n 0, 1, 0, 0, 0) := by decide +kernel
theorem s45_52 {st : List Value} {M : pj_Mem} {l : pj_Loc} {x : Nat} : pj_step 45 (52, some (.ref x) :: l, st, M) = some (53, some (.ref x) :: l, .ref x :: st, M) := st_aload_n q45_52 rfl
theorem x45_52 {st : List Value} {M : pj_Mem} {l : pj_Loc} {x : Nat} {o9 : Option Value × pj_Mem} : pj_Ends 45 (52, some (.ref x) :: l, st, M) o9 = pj_Ends 45 (53, some (.ref x) :: l, .ref x :: st, M) o9 := pj_xs (s45_52)
theorem q45_53 : pj_row 45 53 = some (.getfield 10, 3, 5, 0, 0) := by decide +kernel
theorem s45_53 {L : pj_Loc} {st : List Value} {N S : Nat} {H : pj_Heap} {o : Nat} : pj_step 45 (53, L, .ref o :: st, (N, S, H)) = pj_pv 56 L st (N, S, H) (pj_fld (H o) 5 0) := st_getfield q45_53
theorem x45_53 {L : pj_Loc} {st : List Value} {N S : Nat} {H : pj_Heap} {o : Nat} {o9 : Option Value × pj_Mem} : pj_Ends 45 (53, L, .ref o :: st, (N, S, H)) o9 = pj_then 45 o9 (pj_pv 56 L st (N, S, H) (pj_fld (H o) 5 0)) := pj_xt q45_53 rfl (pj_cl_nc rfl) (s45_53)
theorem q45_56 : pj_row 45 56 = some (.getfield 95, 3, 4, 7, 0) := by decide +kernel
theorem s45_56 {L : pj_Loc} {st : List Value} {N S : Nat} {H : pj_Heap} {o : Nat} : pj_step 45 (56, L, .ref o :: st, (N, S, H)) = pj_pv 59 L st (N, S, H) (pj_fld (H o) 4 7) := st_getfield q45_56
theorem x45_56 {L : pj_Loc} {st : List Value} {N S : Nat} {H : pj_Heap} {o : Nat} {o9 : Option Value × pj_Mem} : pj_Ends 45 (56, L, .ref o :: st, (N, S, H)) o9 = pj_then 45 o9 (pj_pv 59 L st (N, S, H) (pj_fld (H o) 4 7)) := pj_xt q45_56 rfl (pj_cl_nc rfl) (s45_56)
theorem q45_59 : pj_row 45 59 = some (.iload_n 1, 1, 0, 0, 0) := by decide +kernel
theorem s45_59 {st : List Value} {M : pj_Mem} {l : pj_Loc} {a0 : Option Value} {x : Int32} : pj_step 45 (59, a0 :: some (.int x) :: l, st, M) = some (60, a0 :: some (.int x) :: l, .int x :: st, M) := st_iload_n q45_59 rfl
theorem x45_59 {st : List Value} {M : pj_Mem} {l : pj_Loc} {a0 : Option Value} {x : Int32} {o9 : Option Value × pj_Mem} : pj_Ends 45 (59, a0 :: some (.int x) :: l, st, M) o9 = pj_Ends 45 (60, a0 :: some (.int x) :: l, .int x :: st, M) o9 := pj_xs (s45_59)
theorem q45_60 : pj_row 45 60 = some (.invokestatic 84, 3, 12, 2, 0) := by decide +kernel
theorem e45_60 {L : pj_Loc} {st : List Value} {N S : Nat} {H : pj_Heap} {o : Option Value × pj_Mem} {M' : pj_Mem} {x0 : Int32} {x1 : Int32} {r : Int32} (h4 : pj_le4 st = true) (h1 : pj_Ends 12 (0, [some (.int x0), some (.int x1)], [], (N, S, H)) (some (.int r), M')) (h2 : pj_Ends 45 (63, L, .int r :: st, M') o) : pj_Ends 45 (60, L, .int x1 :: .int x0 :: st, (N, S, H)) o := ec_s2 q45_60 (Or.inl rfl) h4 rfl h1 h2
theorem q45_63 : pj_row 45 63 = some (.putfield 95, 3, 4, 7, 0) := by decide +kernel
theorem s45_63 {L : pj_Loc} {st : List Value} {N S : Nat} {H : pj_Heap} {o : Nat} {v : Value} : pj_step 45 (63, L, v :: .ref o :: st, (N, S, H)) = pj_set 66 L st (N, S, H) o (pj_fset (H o) 4 7 v) := st_putfield q45_63
theorem x45_63 {L : pj_Loc} {st : List Value} {N S : Nat} {H : pj_Heap} {o : Nat} {v : Value} {o9 : Option Value × pj_Mem} : pj_Ends 45 (63, L, v :: .ref o :: st, (N, S, H)) o9 = pj_then 45 o9 (pj_set 66 L st (N, S, H) o (pj_fset (H o) 4 7 v)) := pj_xt q45_63 rfl (pj_cl_nc rfl) (s45_63)
theorem q45_66 : pj_row 45 66 = some (.aload_n 0, 1, 0, 0, 0) := by decide +kernel
theorem s45_66 {st : List Value} {M : pj_Mem} {l : pj_Loc} {x : Nat} : pj_step 45 (66, some (.ref x) :: l, st, M) = some (67, some (.ref x) :: l, .ref x :: st, M) := st_aload_n q45_66 rfl
theorem x45_66 {st : List Value} {M : pj_Mem} {l : pj_Loc} {x : Nat} {o9 : Option Value × pj_Mem} : pj_Ends 45 (66, some (.ref x) :: l, st, M) o9 = pj_Ends 45 (67, some (.ref x) :: l, .ref x :: st, M) o9 := pj_xs (s45_66)
theorem q45_67 : pj_row 45 67 = some (.getfield 10, 3, 5, 0, 0) := by decide +kernel
theorem s45_67 {L : pj_Loc} {st : List Value} {N S : Nat} {H : pj_Heap} {o : Nat} : pj_step 45 (67, L, .ref o :: st, (N, S, H)) = pj_pv 70 L st (N, S, H) (pj_fld (H o) 5 0) := st_getfield q45_67
theorem x45_67 {L : pj_Loc} {st : List Value} {N S : Nat} {H : pj_Heap} {o : Nat} {o9 : Option Value × pj_Mem} : pj_Ends 45 (67, L, .ref o :: st, (N, S, H)) o9 = pj_then 45 o9 (pj_pv 70 L st (N, S, H) (pj_fld (H o) 5 0)) := pj_xt q45_67 rfl (pj_cl_nc rfl) (s45_67)
theorem q45_70 : pj_row 45 70 = some (.getfield 98, 3, 4, 1, 0) := by decide +kernel
theorem s45_70 {L : pj_Loc} {st : List Value} {N S : Nat} {H : pj_Heap} {o : Nat} : pj_step 45 (70, L, .ref o :: st, (N, S, H)) = pj_pv 73 L st (N, S, H) (pj_fld (H o) 4 1) := st_getfield q45_70
theorem x45_70 {L : pj_Loc} {st : List Value} {N S : Nat} {H : pj_Heap} {o : Nat} {o9 : Option Value × pj_Mem} : pj_Ends 45 (70, L, .ref o :: st, (N, S, H)) o9 = pj_then 45 o9 (pj_pv 73 L st (N, S, H) (pj_fld (H o) 4 1)) := pj_xt q45_70 rfl (pj_cl_nc rfl) (s45_70)
theorem q45_73 : pj_row 45 73 = some (.iload_n 1, 1, 0, 0, 0) := by decide +kernel
theorem s45_73 {st : List Value} {M : pj_Mem} {l : pj_Loc} {a0 : Option Value} {x : Int32} : pj_step 45 (73, a0 :: some (.int x) :: l, st, M) = some (74, a0 :: some (.int x) :: l, .int x :: st, M) := st_iload_n q45_73 rfl
theorem x45_73 {st : List Value} {M : pj_Mem} {l : pj_Loc} {a0 : Option Value} {x : Int32} {o9 : Option Value × pj_Mem} : pj_Ends 45 (73, a0 :: some (.int x) :: l, st, M) o9 = pj_Ends 45 (74, a0 :: some (.int x) :: l, .int x :: st, M) o9 := pj_xs (s45_73)
theorem q45_74 : pj_row 45 74 = some (.iconst 0, 1, 0, 0, 0) := by decide +kernel
theorem s45_74 {L : pj_Loc} {st : List Value} {M : pj_Mem}  : pj_step 45 (74, L, st, M) = some (75, L, .int 0 :: st, M) := st_iconst q45_74 (by decide +kernel)
theorem x45_74 {L : pj_Loc} {st : List Value} {M : pj_Mem}  {o9 : Option Value × pj_Mem} : pj_Ends 45 (74, L, st, M) o9 = pj_Ends 45 (75, L, .int 0 :: st, M) o9 := pj_xs (s45_74)
theorem q45_75 : pj_row 45 75 = some (.iastore, 1, 0, 0, 0) := by decide +kernel
theorem s45_75 {L : pj_Loc} {st : List Value} {N S : Nat} {H : pj_Heap} {o : Nat} {i x : Int32} : pj_step 45 (75, L, .int x :: .int i :: .ref o :: st, (N, S, H)) = pj_set 76 L st (N, S, H) o (pj_ars (H o) 0 i x) := st_iastore q45_75
theorem x45_75 {L : pj_Loc} {st : List Value} {N S : Nat} {H : pj_Heap} {o : Nat} {i x : Int32} {o9 : Option Value × pj_Mem} : pj_Ends 45 (75, L, .int x :: .int i :: .ref o :: st, (N, S, H)) o9 = pj_then 45 o9 (pj_set 76 L st (N, S, H) o (pj_ars (H o) 0 i x)) := pj_xt q45_75 rfl (pj_cl_nc rfl) (s45_75)
theorem q45_76 : pj_row 45 76 = some (.aload_n 0, 1, 0, 0, 0) := by decide +kernel
theorem s45_76 {st : List Value} {M : pj_Mem} {l : pj_Loc} {x : Nat} : pj_step 45 (76, some (.ref x) :: l, st, M) = some (77, some (.ref x) :: l, .ref x :: st, M) := st_aload_n q45_76 rfl
theorem x45_76 {st : List Value} {M : pj_Mem} {l : pj_Loc} {x : Nat} {o9 : Option Value × pj_Mem} : pj_Ends 45 (76, some (.ref x) :: l, st, M) o9 = pj_Ends 45 (77, some (.ref x) :: l, .ref x :: st, M) o9 := pj_xs (s45_76)
theorem q45_77 : pj_row 45 77 = some (.getfield 10, 3, 5, 0, 0) := by decide +kernel
theorem s45_77 {L : pj_Loc} {st : List Value} {N S : Nat} {H : pj_Heap} {o : Nat} : pj_step 45 (77, L, .ref o :: st, (N, S, H)) = pj_pv 80 L st (N, S, H) (pj_fld (H o) 5 0) := st_getfield q45_77
theorem x45_77 {L : pj_Loc} {st : List Value} {N S : Nat} {H : pj_Heap} {o : Nat} {o9 : Option Value × pj_Mem} : pj_Ends 45 (77, L, .ref o :: st, (N, S, H)) o9 = pj_then 45 o9 (pj_pv 80 L st (N, S, H) (pj_fld (H o) 5 0)) := pj_xt q45_77 rfl (pj_cl_nc rfl) (s45_77)
theorem q45_80 : pj_row 45 80 = some (.getfield 101, 3, 4, 2, 0) := by decide +kernel
theorem s45_80 {L : pj_Loc} {st : List Value} {N S : Nat} {H : pj_Heap} {o : Nat} : pj_step 45 (80, L, .ref o :: st, (N, S, H)) = pj_pv 83 L st (N, S, H) (pj_fld (H o) 4 2) := st_getfield q45_80
theorem x45_80 {L : pj_Loc} {st : List Value} {N S : Nat} {H : pj_Heap} {o : Nat} {o9 : Option Value × pj_Mem} : pj_Ends 45 (80, L, .ref o :: st, (N, S, H)) o9 = pj_then 45 o9 (pj_pv 83 L st (N, S, H) (pj_fld (H o) 4 2)) := pj_xt q45_80 rfl (pj_cl_nc rfl) (s45_80)
theorem q45_83 : pj_row 45 83 = some (.iload_n 1, 1, 0, 0, 0) := by decide +kernel
theorem s45_83 {st : List Value} {M : pj_Mem} {l : pj_Loc} {a0 : Option Value} {x : Int32} : pj_step 45 (83, a0 :: some (.int x) :: l, st, M) = some (84, a0 :: some (.int x) :: l, .int x :: st, M) := st_iload_n q45_83 rfl
theorem x45_83 {st : List Value} {M : pj_Mem} {l : pj_Loc} {a0 : Option Value} {x : Int32} {o9 : Option Value × pj_Mem} : pj_Ends 45 (83, a0 :: some (.int x) :: l, st, M) o9 = pj_Ends 45 (84, a0 :: some (.int x) :: l, .int x :: st, M) o9 := pj_xs (s45_83)
theorem q45_84 : pj_row 45 84 = some (.iconst 0, 1, 0, 0, 0) := by decide +kernel
theorem s45_84 {L : pj_Loc} {st : List Value} {M : pj_Mem}  : pj_step 45 (84, L, st, M) = some (85, L, .int 0 :: st, M) := st_iconst q45_84 (by decide +kernel)
theorem x45_84 {L : pj_Loc} {st : List Value} {M : pj_Mem}  {o9 : Option Value × pj_Mem} : pj_Ends 45 (84, L, st, M) o9 = pj_Ends 45 (85, L, .int 0 :: st, M) o9 := pj_xs (s45_84)
theorem q45_85 : pj_row 45 85 = some (.iastore, 1, 0, 0, 0) := by decide +kernel
theorem s45_85 {L : pj_Loc} {st : List Value} {N S : Nat} {H : pj_Heap} {o : Nat} {i x : Int32} : pj_step 45 (85, L, .int x :: .int i :: .ref o :: st, (N, S, H)) = pj_set 86 L st (N, S, H) o (pj_ars (H o) 0 i x) := st_iastore q45_85
theorem x45_85 {L : pj_Loc} {st : List Value} {N S : Nat} {H : pj_Heap} {o : Nat} {i x : Int32} {o9 : Option Value × pj_Mem} : pj_Ends 45 (85, L, .int x :: .int i :: .ref o :: st, (N, S, H)) o9 = pj_then 45 o9 (pj_set 86 L st (N, S, H) o (pj_ars (H o) 0 i x)) := pj_xt q45_85 rfl (pj_cl_nc rfl) (s45_85)
theorem q45_86 : pj_row 45 86 = some (.aload_n 0, 1, 0, 0, 0) := by decide +kernel
theorem s45_86 {st : List Value} {M : pj_Mem} {l : pj_Loc} {x : Nat} : pj_step 45 (86, some (.ref x) :: l, st, M) = some (87, some (.ref x) :: l, .ref x :: st, M) := st_aload_n q45_86 rfl
theorem x45_86 {st : List Value} {M : pj_Mem} {l : pj_Loc} {x : Nat} {o9 : Option Value × pj_Mem} : pj_Ends 45 (86, some (.ref x) :: l, st, M) o9 = pj_Ends 45 (87, some (.ref x) :: l, .ref x :: st, M) o9 := pj_xs (s45_86)
theorem q45_87 : pj_row 45 87 = some (.getfield 10, 3, 5, 0, 0) := by decide +kernel
theorem s45_87 {L : pj_Loc} {st : List Value} {N S : Nat} {H : pj_Heap} {o : Nat} : pj_step 45 (87, L, .ref o :: st, (N, S, H)) = pj_pv 90 L st (N, S, H) (pj_fld (H o) 5 0) := st_getfield q45_87
theorem x45_87 {L : pj_Loc} {st : List Value} {N S : Nat} {H : pj_Heap} {o : Nat} {o9 : Option Value × pj_Mem} : pj_Ends 45 (87, L, .ref o :: st, (N, S, H)) o9 = pj_then 45 o9 (pj_pv 90 L st (N, S, H) (pj_fld (H o) 5 0)) := pj_xt q45_87 rfl (pj_cl_nc rfl) (s45_87)
theorem q45_90 : pj_row 45 90 = some (.getfield 104, 3, 4, 3, 0) := by decide +kernel
theorem s45_90 {L : pj_Loc} {st : List Value} {N S : Nat} {H : pj_Heap} {o : Nat} : pj_step 45 (90, L, .ref o :: st, (N, S, H)) = pj_pv 93 L st (N, S, H) (pj_fld (H o) 4 3) := st_getfield q45_90
theorem x45_90 {L : pj_Loc} {st : List Value} {N S : Nat} {H : pj_Heap} {o : Nat} {o9 : Option Value × pj_Mem} : pj_Ends 45 (90, L, .ref o :: st, (N, S, H)) o9 = pj_then 45 o9 (pj_pv 93 L st (N, S, H) (pj_fld (H o) 4 3)) := pj_xt q45_90 rfl (pj_cl_nc rfl) (s45_90)
theorem q45_93 : pj_row 45 93 = some (.iload_n 1, 1, 0, 0, 0) := by decide +kernel
theorem s45_93 {st : List Value} {M : pj_Mem} {l : pj_Loc} {a0 : Option Value} {x : Int32} : pj_step 45 (93, a0 :: some (.int x) :: l, st, M) = some (94, a0 :: some (.int x) :: l, .int x :: st, M) := st_iload_n q45_93 rfl
theorem x45_93 {st : List Value} {M : pj_Mem} {l : pj_Loc} {a0 : Option Value} {x : Int32} {o9 : Option Value × pj_Mem} : pj_Ends 45 (93, a0 :: some (.int x) :: l, st, M) o9 = pj_Ends 45 (94, a0 :: some (.int x) :: l, .int x :: st, M) o9 := pj_xs (s45_93)
theorem q45_94 : pj_row 45 94 = some (.iconst 0, 1, 0, 0, 0) := by decide +kernel
theorem s45_94 {L : pj_Loc} {st : List Value} {M : pj_Mem}  : pj_step 45 (94, L, st, M) = some (95, L, .int 0 :: st, M) := st_iconst q45_94 (by decide +kernel)
theorem x45_94 {L : pj_Loc} {st : List Value} {M : pj_Mem}  {o9 : Option Value × pj_Mem} : pj_Ends 45 (94, L, st, M) o9 = pj_Ends 45 (95, L, .int 0 :: st, M) o9 := pj_xs (s45_94)
theorem q45_95 : pj_row 45 95 = some (.iastore, 1, 0, 0, 0) := by decide +kernel
theorem s45_95 {L : pj_Loc} {st : List Value} {N S : Nat} {H : pj_Heap} {o : Nat} {i x : Int32} : pj_step 45 (95, L, .int x :: .int i :: .ref o :: st, (N, S, H)) = pj_set 96 L st (N, S, H) o (pj_ars (H o) 0 i x) := st_iastore q45_95
theorem x45_95 {L : pj_Loc} {st : List Value} {N S : Nat} {H : pj_Heap} {o : Nat} {i x : Int32} {o9 : Option Value × pj_Mem} : pj_Ends 45 (95, L, .int x :: .int i :: .ref o :: st, (N, S, H)) o9 = pj_then 45 o9 (pj_set 96 L st (N, S, H) o (pj_ars (H o) 0 i x)) := pj_xt q45_95 rfl (pj_cl_nc rfl) (s45_95)
theorem q45_96 : pj_row 45 96 = some (.iload_n 2, 1, 0, 0, 0) := by decide +kernel
theorem s45_96 {st : List Value} {M : pj_Mem} {l : pj_Loc} {a0 a1 : Option Value} {x : Int32} : pj_step 45 (96, a0 :: a1 :: some (.int x) :: l, st, M) = some (97, a0 :: a1 :: some (.int x) :: l, .int x :: st, M) := st_iload_n q45_96 rfl
theorem x45_96 {st : List Value} {M : pj_Mem} {l : pj_Loc} {a0 a1 : Option Value} {x : Int32} {o9 : Option Value × pj_Mem} : pj_Ends 45 (96, a0 :: a1 :: some (.int x) :: l, st, M) o9 = pj_Ends 45 (97, a0 :: a1 :: some (.int x) :: l, .int x :: st, M) o9 := pj_xs (s45_96)
theorem q45_97 : pj_row 45 97 = some (.ireturn, 1, 0, 0, 0) := by decide +kernel
theorem t45_97 {L : pj_Loc} {M : pj_Mem} {v : Int32} : pj_Ends 45 (97, L, [.int v], M) (some (.int v), M) := pj_Ends.ret q45_97 (pj_rtn_i rt45)
theorem rt46 : pj_rt 46 = some .int := rfl
theorem q46_0 : pj_row 46 0 = some (.iload_n 0, 1, 0, 0, 0) := by decide +kernel
theorem s46_0 {st : List Value} {M : pj_Mem} {l : pj_Loc} {x : Int32} : pj_step 46 (0, some (.int x) :: l, st, M) = some (1, some (.int x) :: l, .int x :: st, M) := st_iload_n q46_0 rfl
theorem x46_0 {st : List Value} {M : pj_Mem} {l : pj_Loc} {x : Int32} {o9 : Option Value × pj_Mem} : pj_Ends 46 (0, some (.int x) :: l, st, M) o9 = pj_Ends 46 (1, some (.int x) :: l, .int x :: st, M) o9 := pj_xs (s46_0)
theorem q46_1 : pj_row 46 1 = some (.iconst 3, 1, 0, 0, 0) := by decide +kernel
theorem s46_1 {L : pj_Loc} {st : List Value} {M : pj_Mem}  : pj_step 46 (1, L, st, M) = some (2, L, .int 3 :: st, M) := st_iconst q46_1 (by decide +kernel)
theorem x46_1 {L : pj_Loc} {st : List Value} {M : pj_Mem}  {o9 : Option Value × pj_Mem} : pj_Ends 46 (1, L, st, M) o9 = pj_Ends 46 (2, L, .int 3 :: st, M) o9 := pj_xs (s46_1)
theorem q46_2 : pj_row 46 2 = some (.if_icmp .ge 11, 3, 13, 0, 0) := by decide +kernel
theorem s46_2 {L : pj_Loc} {st : List Value} {M : pj_Mem} {x y : Int32} : pj_step 46 (2, L, .int y :: .int x :: st, M) = some (if y ≤ x then 13 else 5, L, st, M) := st_icmp_ge q46_2
theorem x46_2 {L : pj_Loc} {st : List Value} {M : pj_Mem} {x y : Int32} {o9 : Option Value × pj_Mem} : pj_Ends 46 (2, L, .int y :: .int x :: st, M) o9 = pj_Ends 46 (if y ≤ x then 13 else 5, L, st, M) o9 := pj_xs (s46_2)
theorem q46_5 : pj_row 46 5 = some (.iload_n 1, 1, 0, 0, 0) := by decide +kernel
theorem s46_5 {st : List Value} {M : pj_Mem} {l : pj_Loc} {a0 : Option Value} {x : Int32} : pj_step 46 (5, a0 :: some (.int x) :: l, st, M) = some (6, a0 :: some (.int x) :: l, .int x :: st, M) := st_iload_n q46_5 rfl
theorem x46_5 {st : List Value} {M : pj_Mem} {l : pj_Loc} {a0 : Option Value} {x : Int32} {o9 : Option Value × pj_Mem} : pj_Ends 46 (5, a0 :: some (.int x) :: l, st, M) o9 = pj_Ends 46 (6, a0 :: some (.int x) :: l, .int x :: st, M) o9 := pj_xs (s46_5)
theorem q46_6 : pj_row 46 6 = some (.iload_n 0, 1, 0, 0, 0) := by decide +kernel
theorem s46_6 {st : List Value} {M : pj_Mem} {l : pj_Loc} {x : Int32} : pj_step 46 (6, some (.int x) :: l, st, M) = some (7, some (.int x) :: l, .int x :: st, M) := st_iload_n q46_6 rfl
theorem x46_6 {st : List Value} {M : pj_Mem} {l : pj_Loc} {x : Int32} {o9 : Option Value × pj_Mem} : pj_Ends 46 (6, some (.int x) :: l, st, M) o9 = pj_Ends 46 (7, some (.int x) :: l, .int x :: st, M) o9 := pj_xs (s46_6)
theorem q46_7 : pj_row 46 7 = some (.iadd, 1, 0, 0, 0) := by decide +kernel
theorem s46_7 {L : pj_Loc} {st : List Value} {M : pj_Mem} {x y : Int32} : pj_step 46 (7, L, .int y :: .int x :: st, M) = some (8, L, .int (x + y) :: st, M) := st_iadd q46_7
theorem x46_7 {L : pj_Loc} {st : List Value} {M : pj_Mem} {x y : Int32} {o9 : Option Value × pj_Mem} : pj_Ends 46 (7, L, .int y :: .int x :: st, M) o9 = pj_Ends 46 (8, L, .int (x + y) :: st, M) o9 := pj_xs (s46_7)
theorem q46_8 : pj_row 46 8 = some (.iconst 3, 1, 0, 0, 0) := by decide +kernel
theorem s46_8 {L : pj_Loc} {st : List Value} {M : pj_Mem}  : pj_step 46 (8, L, st, M) = some (9, L, .int 3 :: st, M) := st_iconst q46_8 (by decide +kernel)
theorem x46_8 {L : pj_Loc} {st : List Value} {M : pj_Mem}  {o9 : Option Value × pj_Mem} : pj_Ends 46 (8, L, st, M) o9 = pj_Ends 46 (9, L, .int 3 :: st, M) o9 := pj_xs (s46_8)
theorem q46_9 : pj_row 46 9 = some (.irem, 1, 0, 0, 0) := by decide +kernel
theorem s46_9 {L : pj_Loc} {st : List Value} {M : pj_Mem} {x y : Int32} (hy : ¬ y = 0) : pj_step 46 (9, L, .int y :: .int x :: st, M) = some (10, L, .int (x - x / y * y) :: st, M) := st_irem q46_9 hy
theorem x46_9 {L : pj_Loc} {st : List Value} {M : pj_Mem} {x y : Int32} (hy : ¬ y = 0) {o9 : Option Value × pj_Mem} : pj_Ends 46 (9, L, .int y :: .int x :: st, M) o9 = pj_Ends 46 (10, L, .int (x - x / y * y) :: st, M) o9 := pj_xs (s46_9 hy)
theorem q46_10 : pj_row 46 10 = some (.goto 10, 3, 20, 0, 0) := by decide +kernel
theorem s46_10 {L : pj_Loc} {st : List Value} {M : pj_Mem}  : pj_step 46 (10, L, st, M) = some (20, L, st, M) := st_goto q46_10
theorem x46_10 {L : pj_Loc} {st : List Value} {M : pj_Mem}  {o9 : Option Value × pj_Mem} : pj_Ends 46 (10, L, st, M) o9 = pj_Ends 46 (20, L, st, M) o9 := pj_xs (s46_10)
theorem q46_13 : pj_row 46 13 = some (.iconst 5, 1, 0, 0, 0) := by decide +kernel
theorem s46_13 {L : pj_Loc} {st : List Value} {M : pj_Mem}  : pj_step 46 (13, L, st, M) = some (14, L, .int 5 :: st, M) := st_iconst q46_13 (by decide +kernel)
theorem x46_13 {L : pj_Loc} {st : List Value} {M : pj_Mem}  {o9 : Option Value × pj_Mem} : pj_Ends 46 (13, L, st, M) o9 = pj_Ends 46 (14, L, .int 5 :: st, M) o9 := pj_xs (s46_13)
theorem q46_14 : pj_row 46 14 = some (.iload_n 1, 1, 0, 0, 0) := by decide +kernel
theorem s46_14 {st : List Value} {M : pj_Mem} {l : pj_Loc} {a0 : Option Value} {x : Int32} : pj_step 46 (14, a0 :: some (.int x) :: l, st, M) = some (15, a0 :: some (.int x) :: l, .int x :: st, M) := st_iload_n q46_14 rfl
theorem x46_14 {st : List Value} {M : pj_Mem} {l : pj_Loc} {a0 : Option Value} {x : Int32} {o9 : Option Value × pj_Mem} : pj_Ends 46 (14, a0 :: some (.int x) :: l, st, M) o9 = pj_Ends 46 (15, a0 :: some (.int x) :: l, .int x :: st, M) o9 := pj_xs (s46_14)
theorem q46_15 : pj_row 46 15 = some (.isub, 1, 0, 0, 0) := by decide +kernel
theorem s46_15 {L : pj_Loc} {st : List Value} {M : pj_Mem} {x y : Int32} : pj_step 46 (15, L, .int y :: .int x :: st, M) = some (16, L, .int (x - y) :: st, M) := st_isub q46_15
theorem x46_15 {L : pj_Loc} {st : List Value} {M : pj_Mem} {x y : Int32} {o9 : Option Value × pj_Mem} : pj_Ends 46 (15, L, .int y :: .int x :: st, M) o9 = pj_Ends 46 (16, L, .int (x - y) :: st, M) o9 := pj_xs (s46_15)
theorem q46_16 : pj_row 46 16 = some (.iload_n 0, 1, 0, 0, 0) := by decide +kernel
theorem s46_16 {st : List Value} {M : pj_Mem} {l : pj_Loc} {x : Int32} : pj_step 46 (16, some (.int x) :: l, st, M) = some (17, some (.int x) :: l, .int x :: st, M) := st_iload_n q46_16 rfl
theorem x46_16 {st : List Value} {M : pj_Mem} {l : pj_Loc} {x : Int32} {o9 : Option Value × pj_Mem} : pj_Ends 46 (16, some (.int x) :: l, st, M) o9 = pj_Ends 46 (17, some (.int x) :: l, .int x :: st, M) o9 := pj_xs (s46_16)
theorem q46_17 : pj_row 46 17 = some (.iadd, 1, 0, 0, 0) := by decide +kernel
theorem s46_17 {L : pj_Loc} {st : List Value} {M : pj_Mem} {x y : Int32} : pj_step 46 (17, L, .int y :: .int x :: st, M) = some (18, L, .int (x + y) :: st, M) := st_iadd q46_17
theorem x46_17 {L : pj_Loc} {st : List Value} {M : pj_Mem} {x y : Int32} {o9 : Option Value × pj_Mem} : pj_Ends 46 (17, L, .int y :: .int x :: st, M) o9 = pj_Ends 46 (18, L, .int (x + y) :: st, M) o9 := pj_xs (s46_17)
theorem q46_18 : pj_row 46 18 = some (.iconst 3, 1, 0, 0, 0) := by decide +kernel
theorem s46_18 {L : pj_Loc} {st : List Value} {M : pj_Mem}  : pj_step 46 (18, L, st, M) = some (19, L, .int 3 :: st, M) := st_iconst q46_18 (by decide +kernel)
theorem x46_18 {L : pj_Loc} {st : List Value} {M : pj_Mem}  {o9 : Option Value × pj_Mem} : pj_Ends 46 (18, L, st, M) o9 = pj_Ends 46 (19, L, .int 3 :: st, M) o9 := pj_xs (s46_18)
theorem q46_19 : pj_row 46 19 = some (.irem, 1, 0, 0, 0) := by decide +kernel
theorem s46_19 {L : pj_Loc} {st : List Value} {M : pj_Mem} {x y : Int32} (hy : ¬ y = 0) : pj_step 46 (19, L, .int y :: .int x :: st, M) = some (20, L, .int (x - x / y * y) :: st, M) := st_irem q46_19 hy
theorem x46_19 {L : pj_Loc} {st : List Value} {M : pj_Mem} {x y : Int32} (hy : ¬ y = 0) {o9 : Option Value × pj_Mem} : pj_Ends 46 (19, L, .int y :: .int x :: st, M) o9 = pj_Ends 46 (20, L, .int (x - x / y * y) :: st, M) o9 := pj_xs (s46_19 hy)
theorem q46_20 : pj_row 46 20 = some (.ireturn, 1, 0, 0, 0) := by decide +kernel
theorem t46_20 {L : pj_Loc} {M : pj_Mem} {v : Int32} : pj_Ends 46 (20, L, [.int v], M) (some (.int v), M) := pj_Ends.ret q46_20 (pj_rtn_i rt46)
theorem rt47 : pj_rt 47 = some .int := rfl
theorem q47_0 : pj_row 47 0 = some (.aload_n 0, 1, 0, 0, 0) := by decide +kernel
theorem s47_0 {st : List Value} {M : pj_Mem} {l : pj_Loc} {x : Nat} : pj_step 47 (0, some (.ref x) :: l, st, M) = some (1, some (.ref x) :: l, .ref x :: st, M) := st_aload_n q47_0 rfl
theorem x47_0 {st : List Value} {M : pj_Mem} {l : pj_Loc} {x : Nat} {o9 : Option Value × pj_Mem} : pj_Ends 47 (0, some (.ref x) :: l, st, M) o9 = pj_Ends 47 (1, some (.ref x) :: l, .ref x :: st, M) o9 := pj_xs (s47_0)
theorem q47_1 : pj_row 47 1 = some (.invokevirtual 55, 3, 43, 1, 0) := by decide +kernel
theorem e47_1 {L : pj_Loc} {st : List Value} {N S : Nat} {H : pj_Heap} {o : Option Value × pj_Mem} {M' : pj_Mem} {x0 : Nat} (h4 : pj_le4 st = true) (hu : pj_isU 5 (H x0) = true) (h1 : pj_Ends 43 (0, [some (.ref x0), none, none], [], (N, S, H)) (none, M')) (h2 : pj_Ends 47 (4, L, st, M') o) : pj_Ends 47 (1, L, .ref x0 :: st, (N, S, H)) o := ec_v1 q47_1 (Or.inl rfl) h4 hu rfl h1 h2
theorem q47_4 : pj_row 47 4 = some (.aload_n 0, 1, 0, 0, 0) := by decide +kernel
theorem s47_4 {st : List Value} {M : pj_Mem} {l : pj_Loc} {x : Nat} : pj_step 47 (4, some (.ref x) :: l, st, M) = some (5, some (.ref x) :: l, .ref x :: st, M) := st_aload_n q47_4 rfl
theorem x47_4 {st : List Value} {M : pj_Mem} {l : pj_Loc} {x : Nat} {o9 : Option Value × pj_Mem} : pj_Ends 47 (4, some (.ref x) :: l, st, M) o9 = pj_Ends 47 (5, some (.ref x) :: l, .ref x :: st, M) o9 := pj_xs (s47_4)
theorem q47_5 : pj_row 47 5 = some (.getfield 10, 3, 5, 0, 0) := by decide +kernel
theorem s47_5 {L : pj_Loc} {st : List Value} {N S : Nat} {H : pj_Heap} {o : Nat} : pj_step 47 (5, L, .ref o :: st, (N, S, H)) = pj_pv 8 L st (N, S, H) (pj_fld (H o) 5 0) := st_getfield q47_5
theorem x47_5 {L : pj_Loc} {st : List Value} {N S : Nat} {H : pj_Heap} {o : Nat} {o9 : Option Value × pj_Mem} : pj_Ends 47 (5, L, .ref o :: st, (N, S, H)) o9 = pj_then 47 o9 (pj_pv 8 L st (N, S, H) (pj_fld (H o) 5 0)) := pj_xt q47_5 rfl (pj_cl_nc rfl) (s47_5)
theorem q47_8 : pj_row 47 8 = some (.invokevirtual 91, 3, 11, 1, 0) := by decide +kernel
theorem e47_8 {L : pj_Loc} {st : List Value} {N S : Nat} {H : pj_Heap} {o : Option Value × pj_Mem} {M' : pj_Mem} {x0 : Nat} {r : Int32} (h4 : pj_le4 st = true) (hu : pj_isU 4 (H x0) = true) (h1 : pj_Ends 11 (0, [some (.ref x0), none, none], [], (N, S, H)) (some (.int r), M')) (h2 : pj_Ends 47 (11, L, .int r :: st, M') o) : pj_Ends 47 (8, L, .ref x0 :: st, (N, S, H)) o := ec_v1 q47_8 (Or.inl rfl) h4 hu rfl h1 h2
theorem q47_11 : pj_row 47 11 = some (.invokestatic 107, 3, 28, 1, 0) := by decide +kernel
theorem e47_11 {L : pj_Loc} {st : List Value} {N S : Nat} {H : pj_Heap} {o : Option Value × pj_Mem} {M' : pj_Mem} {x0 : Int32} {r : Int32} (h4 : pj_le4 st = true) (h1 : pj_Ends 28 (0, [some (.int x0)], [], (N, S, H)) (some (.int r), M')) (h2 : pj_Ends 47 (14, L, .int r :: st, M') o) : pj_Ends 47 (11, L, .int x0 :: st, (N, S, H)) o := ec_s1 q47_11 (Or.inl rfl) h4 rfl h1 h2
theorem q47_14 : pj_row 47 14 = some (.istore_n 1, 1, 0, 0, 0) := by decide +kernel
theorem s47_14 {st : List Value} {M : pj_Mem} {l : pj_Loc} {a0 a1 : Option Value} {x : Int32} (h : pj_long a0 = false) : pj_step 47 (14, a0 :: a1 :: l, .int x :: st, M) = some (15, a0 :: some (.int x) :: l, st, M) := st_istore_n q47_14 (pj_st_1 h)
theorem x47_14 {st : List Value} {M : pj_Mem} {l : pj_Loc} {a0 a1 : Option Value} {x : Int32} (h : pj_long a0 = false) {o9 : Option Value × pj_Mem} : pj_Ends 47 (14, a0 :: a1 :: l, .int x :: st, M) o9 = pj_Ends 47 (15, a0 :: some (.int x) :: l, st, M) o9 := pj_xs (s47_14 h)
theorem q47_15 : pj_row 47 15 = some (.aload_n 0, 1, 0, 0, 0) := by decide +kernel
theorem s47_15 {st : List Value} {M : pj_Mem} {l : pj_Loc} {x : Nat} : pj_step 47 (15, some (.ref x) :: l, st, M) = some (16, some (.ref x) :: l, .ref x :: st, M) := st_aload_n q47_15 rfl
theorem x47_15 {st : List Value} {M : pj_Mem} {l : pj_Loc} {x : Nat} {o9 : Option Value × pj_Mem} : pj_Ends 47 (15, some (.ref x) :: l, st, M) o9 = pj_Ends 47 (16, some (.ref x) :: l, .ref x :: st, M) o9 := pj_xs (s47_15)
theorem q47_16 : pj_row 47 16 = some (.getfield 10, 3, 5, 0, 0) := by decide +kernel
theorem s47_16 {L : pj_Loc} {st : List Value} {N S : Nat} {H : pj_Heap} {o : Nat} : pj_step 47 (16, L, .ref o :: st, (N, S, H)) = pj_pv 19 L st (N, S, H) (pj_fld (H o) 5 0) := st_getfield q47_16
theorem x47_16 {L : pj_Loc} {st : List Value} {N S : Nat} {H : pj_Heap} {o : Nat} {o9 : Option Value × pj_Mem} : pj_Ends 47 (16, L, .ref o :: st, (N, S, H)) o9 = pj_then 47 o9 (pj_pv 19 L st (N, S, H) (pj_fld (H o) 5 0)) := pj_xt q47_16 rfl (pj_cl_nc rfl) (s47_16)
theorem q47_19 : pj_row 47 19 = some (.invokevirtual 113, 3, 48, 1, 0) := by decide +kernel
theorem e47_19 {L : pj_Loc} {st : List Value} {N S : Nat} {H : pj_Heap} {o : Option Value × pj_Mem} {M' : pj_Mem} {x0 : Nat} (h4 : pj_le4 st = true) (hu : pj_isU 4 (H x0) = true) (h1 : pj_Ends 48 (0, [some (.ref x0), none], [], (N, S, H)) (none, M')) (h2 : pj_Ends 47 (22, L, st, M') o) : pj_Ends 47 (19, L, .ref x0 :: st, (N, S, H)) o := ec_v1 q47_19 (Or.inl rfl) h4 hu rfl h1 h2
theorem q47_22 : pj_row 47 22 = some (.iload_n 1, 1, 0, 0, 0) := by decide +kernel
theorem s47_22 {st : List Value} {M : pj_Mem} {l : pj_Loc} {a0 : Option Value} {x : Int32} : pj_step 47 (22, a0 :: some (.int x) :: l, st, M) = some (23, a0 :: some (.int x) :: l, .int x :: st, M) := st_iload_n q47_22 rfl
theorem x47_22 {st : List Value} {M : pj_Mem} {l : pj_Loc} {a0 : Option Value} {x : Int32} {o9 : Option Value × pj_Mem} : pj_Ends 47 (22, a0 :: some (.int x) :: l, st, M) o9 = pj_Ends 47 (23, a0 :: some (.int x) :: l, .int x :: st, M) o9 := pj_xs (s47_22)
theorem q47_23 : pj_row 47 23 = some (.ireturn, 1, 0, 0, 0) := by decide +kernel
theorem t47_23 {L : pj_Loc} {M : pj_Mem} {v : Int32} : pj_Ends 47 (23, L, [.int v], M) (some (.int v), M) := pj_Ends.ret q47_23 (pj_rtn_i rt47)
theorem rt48 : pj_rt 48 = none := rfl
theorem q48_0 : pj_row 48 0 = some (.iconst 0, 1, 0, 0, 0) := by decide +kernel
theorem s48_0 {L : pj_Loc} {st : List Value} {M : pj_Mem}  : pj_step 48 (0, L, st, M) = some (1, L, .int 0 :: st, M) := st_iconst q48_0 (by decide +kernel)
theorem x48_0 {L : pj_Loc} {st : List Value} {M : pj_Mem}  {o9 : Option Value × pj_Mem} : pj_Ends 48 (0, L, st, M) o9 = pj_Ends 48 (1, L, .int 0 :: st, M) o9 := pj_xs (s48_0)
theorem q48_1 : pj_row 48 1 = some (.istore_n 1, 1, 0, 0, 0) := by decide +kernel
theorem s48_1 {st : List Value} {M : pj_Mem} {l : pj_Loc} {a0 a1 : Option Value} {x : Int32} (h : pj_long a0 = false) : pj_step 48 (1, a0 :: a1 :: l, .int x :: st, M) = some (2, a0 :: some (.int x) :: l, st, M) := st_istore_n q48_1 (pj_st_1 h)
theorem x48_1 {st : List Value} {M : pj_Mem} {l : pj_Loc} {a0 a1 : Option Value} {x : Int32} (h : pj_long a0 = false) {o9 : Option Value × pj_Mem} : pj_Ends 48 (1, a0 :: a1 :: l, .int x :: st, M) o9 = pj_Ends 48 (2, a0 :: some (.int x) :: l, st, M) o9 := pj_xs (s48_1 h)
theorem q48_2 : pj_row 48 2 = some (.iload_n 1, 1, 0, 0, 0) := by decide +kernel
theorem s48_2 {st : List Value} {M : pj_Mem} {l : pj_Loc} {a0 : Option Value} {x : Int32} : pj_step 48 (2, a0 :: some (.int x) :: l, st, M) = some (3, a0 :: some (.int x) :: l, .int x :: st, M) := st_iload_n q48_2 rfl
theorem x48_2 {st : List Value} {M : pj_Mem} {l : pj_Loc} {a0 : Option Value} {x : Int32} {o9 : Option Value × pj_Mem} : pj_Ends 48 (2, a0 :: some (.int x) :: l, st, M) o9 = pj_Ends 48 (3, a0 :: some (.int x) :: l, .int x :: st, M) o9 := pj_xs (s48_2)
theorem q48_3 : pj_row 48 3 = some (.iconst 3, 1, 0, 0, 0) := by decide +kernel
theorem s48_3 {L : pj_Loc} {st : List Value} {M : pj_Mem}  : pj_step 48 (3, L, st, M) = some (4, L, .int 3 :: st, M) := st_iconst q48_3 (by decide +kernel)
theorem x48_3 {L : pj_Loc} {st : List Value} {M : pj_Mem}  {o9 : Option Value × pj_Mem} : pj_Ends 48 (3, L, st, M) o9 = pj_Ends 48 (4, L, .int 3 :: st, M) o9 := pj_xs (s48_3)
theorem q48_4 : pj_row 48 4 = some (.if_icmp .ge 17, 3, 21, 0, 0) := by decide +kernel
theorem s48_4 {L : pj_Loc} {st : List Value} {M : pj_Mem} {x y : Int32} : pj_step 48 (4, L, .int y :: .int x :: st, M) = some (if y ≤ x then 21 else 7, L, st, M) := st_icmp_ge q48_4
theorem x48_4 {L : pj_Loc} {st : List Value} {M : pj_Mem} {x y : Int32} {o9 : Option Value × pj_Mem} : pj_Ends 48 (4, L, .int y :: .int x :: st, M) o9 = pj_Ends 48 (if y ≤ x then 21 else 7, L, st, M) o9 := pj_xs (s48_4)
theorem q48_7 : pj_row 48 7 = some (.aload_n 0, 1, 0, 0, 0) := by decide +kernel
theorem s48_7 {st : List Value} {M : pj_Mem} {l : pj_Loc} {x : Nat} : pj_step 48 (7, some (.ref x) :: l, st, M) = some (8, some (.ref x) :: l, .ref x :: st, M) := st_aload_n q48_7 rfl
theorem x48_7 {st : List Value} {M : pj_Mem} {l : pj_Loc} {x : Nat} {o9 : Option Value × pj_Mem} : pj_Ends 48 (7, some (.ref x) :: l, st, M) o9 = pj_Ends 48 (8, some (.ref x) :: l, .ref x :: st, M) o9 := pj_xs (s48_7)
theorem q48_8 : pj_row 48 8 = some (.getfield 27, 3, 4, 5, 0) := by decide +kernel
theorem s48_8 {L : pj_Loc} {st : List Value} {N S : Nat} {H : pj_Heap} {o : Nat} : pj_step 48 (8, L, .ref o :: st, (N, S, H)) = pj_pv 11 L st (N, S, H) (pj_fld (H o) 4 5) := st_getfield q48_8
theorem x48_8 {L : pj_Loc} {st : List Value} {N S : Nat} {H : pj_Heap} {o : Nat} {o9 : Option Value × pj_Mem} : pj_Ends 48 (8, L, .ref o :: st, (N, S, H)) o9 = pj_then 48 o9 (pj_pv 11 L st (N, S, H) (pj_fld (H o) 4 5)) := pj_xt q48_8 rfl (pj_cl_nc rfl) (s48_8)
theorem q48_11 : pj_row 48 11 = some (.iload_n 1, 1, 0, 0, 0) := by decide +kernel
theorem s48_11 {st : List Value} {M : pj_Mem} {l : pj_Loc} {a0 : Option Value} {x : Int32} : pj_step 48 (11, a0 :: some (.int x) :: l, st, M) = some (12, a0 :: some (.int x) :: l, .int x :: st, M) := st_iload_n q48_11 rfl
theorem x48_11 {st : List Value} {M : pj_Mem} {l : pj_Loc} {a0 : Option Value} {x : Int32} {o9 : Option Value × pj_Mem} : pj_Ends 48 (11, a0 :: some (.int x) :: l, st, M) o9 = pj_Ends 48 (12, a0 :: some (.int x) :: l, .int x :: st, M) o9 := pj_xs (s48_11)
theorem q48_12 : pj_row 48 12 = some (.bipush (-6), 2, 0, 0, 0) := by decide +kernel
theorem s48_12 {L : pj_Loc} {st : List Value} {M : pj_Mem}  : pj_step 48 (12, L, st, M) = some (14, L, .int (-6) :: st, M) := st_bipush q48_12 (by decide +kernel)
theorem x48_12 {L : pj_Loc} {st : List Value} {M : pj_Mem}  {o9 : Option Value × pj_Mem} : pj_Ends 48 (12, L, st, M) o9 = pj_Ends 48 (14, L, .int (-6) :: st, M) o9 := pj_xs (s48_12)
theorem q48_14 : pj_row 48 14 = some (.iastore, 1, 0, 0, 0) := by decide +kernel
theorem s48_14 {L : pj_Loc} {st : List Value} {N S : Nat} {H : pj_Heap} {o : Nat} {i x : Int32} : pj_step 48 (14, L, .int x :: .int i :: .ref o :: st, (N, S, H)) = pj_set 15 L st (N, S, H) o (pj_ars (H o) 0 i x) := st_iastore q48_14
theorem x48_14 {L : pj_Loc} {st : List Value} {N S : Nat} {H : pj_Heap} {o : Nat} {i x : Int32} {o9 : Option Value × pj_Mem} : pj_Ends 48 (14, L, .int x :: .int i :: .ref o :: st, (N, S, H)) o9 = pj_then 48 o9 (pj_set 15 L st (N, S, H) o (pj_ars (H o) 0 i x)) := pj_xt q48_14 rfl (pj_cl_nc rfl) (s48_14)
theorem q48_15 : pj_row 48 15 = some (.iinc 1 1, 3, 0, 0, 0) := by decide +kernel
theorem s48_15 {st : List Value} {M : pj_Mem} {l : pj_Loc} {a0 : Option Value} {x : Int32} (h : pj_long a0 = false) : pj_step 48 (15, a0 :: some (.int x) :: l, st, M) = some (18, a0 :: some (.int (x + 1)) :: l, st, M) := st_iinc q48_15 rfl (congrArg (fun y => x + y) (show Int32.ofInt 1 = 1 by decide +kernel)) (pj_st_1 h)
theorem x48_15 {st : List Value} {M : pj_Mem} {l : pj_Loc} {a0 : Option Value} {x : Int32} (h : pj_long a0 = false) {o9 : Option Value × pj_Mem} : pj_Ends 48 (15, a0 :: some (.int x) :: l, st, M) o9 = pj_Ends 48 (18, a0 :: some (.int (x + 1)) :: l, st, M) o9 := pj_xs (s48_15 h)
theorem q48_18 : pj_row 48 18 = some (.goto (-16), 3, 2, 0, 0) := by decide +kernel
theorem s48_18 {L : pj_Loc} {st : List Value} {M : pj_Mem}  : pj_step 48 (18, L, st, M) = some (2, L, st, M) := st_goto q48_18
theorem x48_18 {L : pj_Loc} {st : List Value} {M : pj_Mem}  {o9 : Option Value × pj_Mem} : pj_Ends 48 (18, L, st, M) o9 = pj_Ends 48 (2, L, st, M) o9 := pj_xs (s48_18)
theorem q48_21 : pj_row 48 21 = some (.iconst 0, 1, 0, 0, 0) := by decide +kernel
theorem s48_21 {L : pj_Loc} {st : List Value} {M : pj_Mem}  : pj_step 48 (21, L, st, M) = some (22, L, .int 0 :: st, M) := st_iconst q48_21 (by decide +kernel)
theorem x48_21 {L : pj_Loc} {st : List Value} {M : pj_Mem}  {o9 : Option Value × pj_Mem} : pj_Ends 48 (21, L, st, M) o9 = pj_Ends 48 (22, L, .int 0 :: st, M) o9 := pj_xs (s48_21)
theorem q48_22 : pj_row 48 22 = some (.istore_n 1, 1, 0, 0, 0) := by decide +kernel
theorem s48_22 {st : List Value} {M : pj_Mem} {l : pj_Loc} {a0 a1 : Option Value} {x : Int32} (h : pj_long a0 = false) : pj_step 48 (22, a0 :: a1 :: l, .int x :: st, M) = some (23, a0 :: some (.int x) :: l, st, M) := st_istore_n q48_22 (pj_st_1 h)
theorem x48_22 {st : List Value} {M : pj_Mem} {l : pj_Loc} {a0 a1 : Option Value} {x : Int32} (h : pj_long a0 = false) {o9 : Option Value × pj_Mem} : pj_Ends 48 (22, a0 :: a1 :: l, .int x :: st, M) o9 = pj_Ends 48 (23, a0 :: some (.int x) :: l, st, M) o9 := pj_xs (s48_22 h)
theorem q48_23 : pj_row 48 23 = some (.iload_n 1, 1, 0, 0, 0) := by decide +kernel
theorem s48_23 {st : List Value} {M : pj_Mem} {l : pj_Loc} {a0 : Option Value} {x : Int32} : pj_step 48 (23, a0 :: some (.int x) :: l, st, M) = some (24, a0 :: some (.int x) :: l, .int x :: st, M) := st_iload_n q48_23 rfl
theorem x48_23 {st : List Value} {M : pj_Mem} {l : pj_Loc} {a0 : Option Value} {x : Int32} {o9 : Option Value × pj_Mem} : pj_Ends 48 (23, a0 :: some (.int x) :: l, st, M) o9 = pj_Ends 48 (24, a0 :: some (.int x) :: l, .int x :: st, M) o9 := pj_xs (s48_23)
theorem q48_24 : pj_row 48 24 = some (.iconst 3, 1, 0, 0, 0) := by decide +kernel
theorem s48_24 {L : pj_Loc} {st : List Value} {M : pj_Mem}  : pj_step 48 (24, L, st, M) = some (25, L, .int 3 :: st, M) := st_iconst q48_24 (by decide +kernel)
theorem x48_24 {L : pj_Loc} {st : List Value} {M : pj_Mem}  {o9 : Option Value × pj_Mem} : pj_Ends 48 (24, L, st, M) o9 = pj_Ends 48 (25, L, .int 3 :: st, M) o9 := pj_xs (s48_24)
theorem q48_25 : pj_row 48 25 = some (.if_icmp .ge 16, 3, 41, 0, 0) := by decide +kernel
theorem s48_25 {L : pj_Loc} {st : List Value} {M : pj_Mem} {x y : Int32} : pj_step 48 (25, L, .int y :: .int x :: st, M) = some (if y ≤ x then 41 else 28, L, st, M) := st_icmp_ge q48_25
theorem x48_25 {L : pj_Loc} {st : List Value} {M : pj_Mem} {x y : Int32} {o9 : Option Value × pj_Mem} : pj_Ends 48 (25, L, .int y :: .int x :: st, M) o9 = pj_Ends 48 (if y ≤ x then 41 else 28, L, st, M) o9 := pj_xs (s48_25)
theorem q48_28 : pj_row 48 28 = some (.aload_n 0, 1, 0, 0, 0) := by decide +kernel
theorem s48_28 {st : List Value} {M : pj_Mem} {l : pj_Loc} {x : Nat} : pj_step 48 (28, some (.ref x) :: l, st, M) = some (29, some (.ref x) :: l, .ref x :: st, M) := st_aload_n q48_28 rfl
theorem x48_28 {st : List Value} {M : pj_Mem} {l : pj_Loc} {x : Nat} {o9 : Option Value × pj_Mem} : pj_Ends 48 (28, some (.ref x) :: l, st, M) o9 = pj_Ends 48 (29, some (.ref x) :: l, .ref x :: st, M) o9 := pj_xs (s48_28)
theorem q48_29 : pj_row 48 29 = some (.getfield 18, 3, 4, 2, 0) := by decide +kernel
theorem s48_29 {L : pj_Loc} {st : List Value} {N S : Nat} {H : pj_Heap} {o : Nat} : pj_step 48 (29, L, .ref o :: st, (N, S, H)) = pj_pv 32 L st (N, S, H) (pj_fld (H o) 4 2) := st_getfield q48_29
theorem x48_29 {L : pj_Loc} {st : List Value} {N S : Nat} {H : pj_Heap} {o : Nat} {o9 : Option Value × pj_Mem} : pj_Ends 48 (29, L, .ref o :: st, (N, S, H)) o9 = pj_then 48 o9 (pj_pv 32 L st (N, S, H) (pj_fld (H o) 4 2)) := pj_xt q48_29 rfl (pj_cl_nc rfl) (s48_29)
theorem q48_32 : pj_row 48 32 = some (.iload_n 1, 1, 0, 0, 0) := by decide +kernel
theorem s48_32 {st : List Value} {M : pj_Mem} {l : pj_Loc} {a0 : Option Value} {x : Int32} : pj_step 48 (32, a0 :: some (.int x) :: l, st, M) = some (33, a0 :: some (.int x) :: l, .int x :: st, M) := st_iload_n q48_32 rfl
theorem x48_32 {st : List Value} {M : pj_Mem} {l : pj_Loc} {a0 : Option Value} {x : Int32} {o9 : Option Value × pj_Mem} : pj_Ends 48 (32, a0 :: some (.int x) :: l, st, M) o9 = pj_Ends 48 (33, a0 :: some (.int x) :: l, .int x :: st, M) o9 := pj_xs (s48_32)
theorem q48_33 : pj_row 48 33 = some (.iconst 0, 1, 0, 0, 0) := by decide +kernel
theorem s48_33 {L : pj_Loc} {st : List Value} {M : pj_Mem}  : pj_step 48 (33, L, st, M) = some (34, L, .int 0 :: st, M) := st_iconst q48_33 (by decide +kernel)
theorem x48_33 {L : pj_Loc} {st : List Value} {M : pj_Mem}  {o9 : Option Value × pj_Mem} : pj_Ends 48 (33, L, st, M) o9 = pj_Ends 48 (34, L, .int 0 :: st, M) o9 := pj_xs (s48_33)
theorem q48_34 : pj_row 48 34 = some (.iastore, 1, 0, 0, 0) := by decide +kernel
theorem s48_34 {L : pj_Loc} {st : List Value} {N S : Nat} {H : pj_Heap} {o : Nat} {i x : Int32} : pj_step 48 (34, L, .int x :: .int i :: .ref o :: st, (N, S, H)) = pj_set 35 L st (N, S, H) o (pj_ars (H o) 0 i x) := st_iastore q48_34
theorem x48_34 {L : pj_Loc} {st : List Value} {N S : Nat} {H : pj_Heap} {o : Nat} {i x : Int32} {o9 : Option Value × pj_Mem} : pj_Ends 48 (34, L, .int x :: .int i :: .ref o :: st, (N, S, H)) o9 = pj_then 48 o9 (pj_set 35 L st (N, S, H) o (pj_ars (H o) 0 i x)) := pj_xt q48_34 rfl (pj_cl_nc rfl) (s48_34)
theorem q48_35 : pj_row 48 35 = some (.iinc 1 1, 3, 0, 0, 0) := by decide +kernel
theorem s48_35 {st : List Value} {M : pj_Mem} {l : pj_Loc} {a0 : Option Value} {x : Int32} (h : pj_long a0 = false) : pj_step 48 (35, a0 :: some (.int x) :: l, st, M) = some (38, a0 :: some (.int (x + 1)) :: l, st, M) := st_iinc q48_35 rfl (congrArg (fun y => x + y) (show Int32.ofInt 1 = 1 by decide +kernel)) (pj_st_1 h)
theorem x48_35 {st : List Value} {M : pj_Mem} {l : pj_Loc} {a0 : Option Value} {x : Int32} (h : pj_long a0 = false) {o9 : Option Value × pj_Mem} : pj_Ends 48 (35, a0 :: some (.int x) :: l, st, M) o9 = pj_Ends 48 (38, a0 :: some (.int (x + 1)) :: l, st, M) o9 := pj_xs (s48_35 h)
theorem q48_38 : pj_row 48 38 = some (.goto (-15), 3, 23, 0, 0) := by decide +kernel
theorem s48_38 {L : pj_Loc} {st : List Value} {M : pj_Mem}  : pj_step 48 (38, L, st, M) = some (23, L, st, M) := st_goto q48_38
theorem x48_38 {L : pj_Loc} {st : List Value} {M : pj_Mem}  {o9 : Option Value × pj_Mem} : pj_Ends 48 (38, L, st, M) o9 = pj_Ends 48 (23, L, st, M) o9 := pj_xs (s48_38)
theorem q48_41 : pj_row 48 41 = some (.aload_n 0, 1, 0, 0, 0) := by decide +kernel
theorem s48_41 {st : List Value} {M : pj_Mem} {l : pj_Loc} {x : Nat} : pj_step 48 (41, some (.ref x) :: l, st, M) = some (42, some (.ref x) :: l, .ref x :: st, M) := st_aload_n q48_41 rfl
theorem x48_41 {st : List Value} {M : pj_Mem} {l : pj_Loc} {x : Nat} {o9 : Option Value × pj_Mem} : pj_Ends 48 (41, some (.ref x) :: l, st, M) o9 = pj_Ends 48 (42, some (.ref x) :: l, .ref x :: st, M) o9 := pj_xs (s48_41)
theorem q48_42 : pj_row 48 42 = some (.iconst 0, 1, 0, 0, 0) := by decide +kernel
theorem s48_42 {L : pj_Loc} {st : List Value} {M : pj_Mem}  : pj_step 48 (42, L, st, M) = some (43, L, .int 0 :: st, M) := st_iconst q48_42 (by decide +kernel)
theorem x48_42 {L : pj_Loc} {st : List Value} {M : pj_Mem}  {o9 : Option Value × pj_Mem} : pj_Ends 48 (42, L, st, M) o9 = pj_Ends 48 (43, L, .int 0 :: st, M) o9 := pj_xs (s48_42)
theorem q48_43 : pj_row 48 43 = some (.putfield 57, 3, 4, 9, 0) := by decide +kernel
theorem s48_43 {L : pj_Loc} {st : List Value} {N S : Nat} {H : pj_Heap} {o : Nat} {v : Value} : pj_step 48 (43, L, v :: .ref o :: st, (N, S, H)) = pj_set 46 L st (N, S, H) o (pj_fset (H o) 4 9 v) := st_putfield q48_43
theorem x48_43 {L : pj_Loc} {st : List Value} {N S : Nat} {H : pj_Heap} {o : Nat} {v : Value} {o9 : Option Value × pj_Mem} : pj_Ends 48 (43, L, v :: .ref o :: st, (N, S, H)) o9 = pj_then 48 o9 (pj_set 46 L st (N, S, H) o (pj_fset (H o) 4 9 v)) := pj_xt q48_43 rfl (pj_cl_nc rfl) (s48_43)
theorem q48_46 : pj_row 48 46 = some (.aload_n 0, 1, 0, 0, 0) := by decide +kernel
theorem s48_46 {st : List Value} {M : pj_Mem} {l : pj_Loc} {x : Nat} : pj_step 48 (46, some (.ref x) :: l, st, M) = some (47, some (.ref x) :: l, .ref x :: st, M) := st_aload_n q48_46 rfl
theorem x48_46 {st : List Value} {M : pj_Mem} {l : pj_Loc} {x : Nat} {o9 : Option Value × pj_Mem} : pj_Ends 48 (46, some (.ref x) :: l, st, M) o9 = pj_Ends 48 (47, some (.ref x) :: l, .ref x :: st, M) o9 := pj_xs (s48_46)
theorem q48_47 : pj_row 48 47 = some (.getfield 33, 3, 4, 6, 0) := by decide +kernel
theorem s48_47 {L : pj_Loc} {st : List Value} {N S : Nat} {H : pj_Heap} {o : Nat} : pj_step 48 (47, L, .ref o :: st, (N, S, H)) = pj_pv 50 L st (N, S, H) (pj_fld (H o) 4 6) := st_getfield q48_47
theorem x48_47 {L : pj_Loc} {st : List Value} {N S : Nat} {H : pj_Heap} {o : Nat} {o9 : Option Value × pj_Mem} : pj_Ends 48 (47, L, .ref o :: st, (N, S, H)) o9 = pj_then 48 o9 (pj_pv 50 L st (N, S, H) (pj_fld (H o) 4 6)) := pj_xt q48_47 rfl (pj_cl_nc rfl) (s48_47)
theorem q48_50 : pj_row 48 50 = some (.invokevirtual 76, 3, 49, 1, 0) := by decide +kernel
theorem e48_50 {L : pj_Loc} {st : List Value} {N S : Nat} {H : pj_Heap} {o : Option Value × pj_Mem} {M' : pj_Mem} {x0 : Nat} (h4 : pj_le4 st = true) (hu : pj_isU 2 (H x0) = true) (h1 : pj_Ends 49 (0, [some (.ref x0)], [], (N, S, H)) (none, M')) (h2 : pj_Ends 48 (53, L, st, M') o) : pj_Ends 48 (50, L, .ref x0 :: st, (N, S, H)) o := ec_v1 q48_50 (Or.inl rfl) h4 hu rfl h1 h2
theorem q48_53 : pj_row 48 53 = some (.return_, 1, 0, 0, 0) := by decide +kernel
theorem t48_53 {L : pj_Loc} {M : pj_Mem} : pj_Ends 48 (53, L, [], M) (none, M) := pj_Ends.ret q48_53 (pj_rtn_v rt48)
theorem rt49 : pj_rt 49 = none := rfl
theorem q49_0 : pj_row 49 0 = some (.aload_n 0, 1, 0, 0, 0) := by decide +kernel
theorem s49_0 {st : List Value} {M : pj_Mem} {l : pj_Loc} {x : Nat} : pj_step 49 (0, some (.ref x) :: l, st, M) = some (1, some (.ref x) :: l, .ref x :: st, M) := st_aload_n q49_0 rfl
theorem x49_0 {st : List Value} {M : pj_Mem} {l : pj_Loc} {x : Nat} {o9 : Option Value × pj_Mem} : pj_Ends 49 (0, some (.ref x) :: l, st, M) o9 = pj_Ends 49 (1, some (.ref x) :: l, .ref x :: st, M) o9 := pj_xs (s49_0)
theorem q49_1 : pj_row 49 1 = some (.iconst 0, 1, 0, 0, 0) := by decide +kernel
theorem s49_1 {L : pj_Loc} {st : List Value} {M : pj_Mem}  : pj_step 49 (1, L, st, M) = some (2, L, .int 0 :: st, M) := st_iconst q49_1 (by decide +kernel)
theorem x49_1 {L : pj_Loc} {st : List Value} {M : pj_Mem}  {o9 : Option Value × pj_Mem} : pj_Ends 49 (1, L, st, M) o9 = pj_Ends 49 (2, L, .int 0 :: st, M) o9 := pj_xs (s49_1)
theorem q49_2 : pj_row 49 2 = some (.putfield 25, 3, 2, 1, 0) := by decide +kernel
theorem s49_2 {L : pj_Loc} {st : List Value} {N S : Nat} {H : pj_Heap} {o : Nat} {v : Value} : pj_step 49 (2, L, v :: .ref o :: st, (N, S, H)) = pj_set 5 L st (N, S, H) o (pj_fset (H o) 2 1 v) := st_putfield q49_2
theorem x49_2 {L : pj_Loc} {st : List Value} {N S : Nat} {H : pj_Heap} {o : Nat} {v : Value} {o9 : Option Value × pj_Mem} : pj_Ends 49 (2, L, v :: .ref o :: st, (N, S, H)) o9 = pj_then 49 o9 (pj_set 5 L st (N, S, H) o (pj_fset (H o) 2 1 v)) := pj_xt q49_2 rfl (pj_cl_nc rfl) (s49_2)
theorem q49_5 : pj_row 49 5 = some (.aload_n 0, 1, 0, 0, 0) := by decide +kernel
theorem s49_5 {st : List Value} {M : pj_Mem} {l : pj_Loc} {x : Nat} : pj_step 49 (5, some (.ref x) :: l, st, M) = some (6, some (.ref x) :: l, .ref x :: st, M) := st_aload_n q49_5 rfl
theorem x49_5 {st : List Value} {M : pj_Mem} {l : pj_Loc} {x : Nat} {o9 : Option Value × pj_Mem} : pj_Ends 49 (5, some (.ref x) :: l, st, M) o9 = pj_Ends 49 (6, some (.ref x) :: l, .ref x :: st, M) o9 := pj_xs (s49_5)
theorem q49_6 : pj_row 49 6 = some (.bipush (-6), 2, 0, 0, 0) := by decide +kernel
theorem s49_6 {L : pj_Loc} {st : List Value} {M : pj_Mem}  : pj_step 49 (6, L, st, M) = some (8, L, .int (-6) :: st, M) := st_bipush q49_6 (by decide +kernel)
theorem x49_6 {L : pj_Loc} {st : List Value} {M : pj_Mem}  {o9 : Option Value × pj_Mem} : pj_Ends 49 (6, L, st, M) o9 = pj_Ends 49 (8, L, .int (-6) :: st, M) o9 := pj_xs (s49_6)
theorem q49_8 : pj_row 49 8 = some (.putfield 15, 3, 2, 2, 0) := by decide +kernel
theorem s49_8 {L : pj_Loc} {st : List Value} {N S : Nat} {H : pj_Heap} {o : Nat} {v : Value} : pj_step 49 (8, L, v :: .ref o :: st, (N, S, H)) = pj_set 11 L st (N, S, H) o (pj_fset (H o) 2 2 v) := st_putfield q49_8
theorem x49_8 {L : pj_Loc} {st : List Value} {N S : Nat} {H : pj_Heap} {o : Nat} {v : Value} {o9 : Option Value × pj_Mem} : pj_Ends 49 (8, L, v :: .ref o :: st, (N, S, H)) o9 = pj_then 49 o9 (pj_set 11 L st (N, S, H) o (pj_fset (H o) 2 2 v)) := pj_xt q49_8 rfl (pj_cl_nc rfl) (s49_8)
theorem q49_11 : pj_row 49 11 = some (.return_, 1, 0, 0, 0) := by decide +kernel
theorem t49_11 {L : pj_Loc} {M : pj_Mem} : pj_Ends 49 (11, L, [], M) (none, M) := pj_Ends.ret q49_11 (pj_rtn_v rt49)
