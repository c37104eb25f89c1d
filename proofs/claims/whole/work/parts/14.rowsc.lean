/-! THE STEPS OF EACH METHOD, by program (wip/whole/gen/gen12.py) -/
theorem rt75 : pj_rt 75 = some .int := rfl
theorem q75_0 : pj_row 75 0 = some (.iload_n 1, 1, 0, 0, 0) := by decide +kernel
theorem s75_0 {st : List Value} {M : pj_Mem} {l : pj_Loc} {a0 : Option Value} {x : Int32} : pj_step 75 (0, a0 :: some (.int x) :: l, st, M) = some (1, a0 :: some (.int x) :: l, .int x :: st, M) := st_iload_n q75_0 rfl
theorem x75_0 {st : List Value} {M : pj_Mem} {l : pj_Loc} {a0 : Option Value} {x : Int32} {o9 : Option Value × pj_Mem} : pj_Ends 75 (0, a0 :: some (.int x) :: l, st, M) o9 = pj_Ends 75 (1, a0 :: some (.int x) :: l, .int x :: st, M) o9 := pj_xs (s75_0)
theorem q75_1 : pj_row 75 1 = some (.iload_n 2, 1, 0, 0, 0) := by decide +kernel
theorem s75_1 {st : List Value} {M : pj_Mem} {l : pj_Loc} {a0 a1 : Option Value} {x : Int32} : pj_step 75 (1, a0 :: a1 :: some (.int x) :: l, st, M) = some (2, a0 :: a1 :: some (.int x) :: l, .int x :: st, M) := st_iload_n q75_1 rfl
theorem x75_1 {st : List Value} {M : pj_Mem} {l : pj_Loc} {a0 a1 : Option Value} {x : Int32} {o9 : Option Value × pj_Mem} : pj_Ends 75 (1, a0 :: a1 :: some (.int x) :: l, st, M) o9 = pj_Ends 75 (2, a0 :: a1 :: some (.int x) :: l, .int x :: st, M) o9 := pj_xs (s75_1)
theorem q75_2 : pj_row 75 2 = some (.invokestatic 117, 3, 76, 2, 0) := by decide +kernel
theorem e75_2 {L : pj_Loc} {st : List Value} {N S : Nat} {H : pj_Heap} {o : Option Value × pj_Mem} {M' : pj_Mem} {x0 : Int32} {x1 : Int32} {r : Int32} (h4 : pj_le4 st = true) (h1 : pj_Ends 76 (0, [some (.int x0), some (.int x1)], [], (N, S, H)) (some (.int r), M')) (h2 : pj_Ends 75 (5, L, .int r :: st, M') o) : pj_Ends 75 (2, L, .int x1 :: .int x0 :: st, (N, S, H)) o := ec_s2 q75_2 (Or.inl rfl) h4 rfl h1 h2
theorem q75_5 : pj_row 75 5 = some (.ifCond .ne 6, 3, 11, 0, 0) := by decide +kernel
theorem s75_5 {L : pj_Loc} {st : List Value} {M : pj_Mem} {x : Int32} : pj_step 75 (5, L, .int x :: st, M) = some (if ¬ x = 0 then 11 else 8, L, st, M) := st_if_ne q75_5
theorem x75_5 {L : pj_Loc} {st : List Value} {M : pj_Mem} {x : Int32} {o9 : Option Value × pj_Mem} : pj_Ends 75 (5, L, .int x :: st, M) o9 = pj_Ends 75 (if ¬ x = 0 then 11 else 8, L, st, M) o9 := pj_xs (s75_5)
theorem q75_8 : pj_row 75 8 = some (.bipush (-2), 2, 0, 0, 0) := by decide +kernel
theorem s75_8 {L : pj_Loc} {st : List Value} {M : pj_Mem}  : pj_step 75 (8, L, st, M) = some (10, L, .int (-2) :: st, M) := st_bipush q75_8 (by decide +kernel)
theorem x75_8 {L : pj_Loc} {st : List Value} {M : pj_Mem}  {o9 : Option Value × pj_Mem} : pj_Ends 75 (8, L, st, M) o9 = pj_Ends 75 (10, L, .int (-2) :: st, M) o9 := pj_xs (s75_8)
theorem q75_10 : pj_row 75 10 = some (.ireturn, 1, 0, 0, 0) := by decide +kernel
theorem t75_10 {L : pj_Loc} {M : pj_Mem} {v : Int32} : pj_Ends 75 (10, L, [.int v], M) (some (.int v), M) := pj_Ends.ret q75_10 (pj_rtn_i rt75)
theorem q75_11 : pj_row 75 11 = some (.aload_n 0, 1, 0, 0, 0) := by decide +kernel
theorem s75_11 {st : List Value} {M : pj_Mem} {l : pj_Loc} {x : Nat} : pj_step 75 (11, some (.ref x) :: l, st, M) = some (12, some (.ref x) :: l, .ref x :: st, M) := st_aload_n q75_11 rfl
theorem x75_11 {st : List Value} {M : pj_Mem} {l : pj_Loc} {x : Nat} {o9 : Option Value × pj_Mem} : pj_Ends 75 (11, some (.ref x) :: l, st, M) o9 = pj_Ends 75 (12, some (.ref x) :: l, .ref x :: st, M) o9 := pj_xs (s75_11)
theorem q75_12 : pj_row 75 12 = some (.invokevirtual 121, 3, 78, 1, 0) := by decide +kernel
theorem e75_12 {L : pj_Loc} {st : List Value} {N S : Nat} {H : pj_Heap} {o : Option Value × pj_Mem} {M' : pj_Mem} {x0 : Nat} (h4 : pj_le4 st = true) (hu : pj_isU 6 (H x0) = true) (h1 : pj_Ends 78 (0, [some (.ref x0), none], [], (N, S, H)) (none, M')) (h2 : pj_Ends 75 (15, L, st, M') o) : pj_Ends 75 (12, L, .ref x0 :: st, (N, S, H)) o := ec_v1 q75_12 (Or.inl rfl) h4 hu rfl h1 h2
theorem q75_15 : pj_row 75 15 = some (.aload_n 0, 1, 0, 0, 0) := by decide +kernel
theorem s75_15 {st : List Value} {M : pj_Mem} {l : pj_Loc} {x : Nat} : pj_step 75 (15, some (.ref x) :: l, st, M) = some (16, some (.ref x) :: l, .ref x :: st, M) := st_aload_n q75_15 rfl
theorem x75_15 {st : List Value} {M : pj_Mem} {l : pj_Loc} {x : Nat} {o9 : Option Value × pj_Mem} : pj_Ends 75 (15, some (.ref x) :: l, st, M) o9 = pj_Ends 75 (16, some (.ref x) :: l, .ref x :: st, M) o9 := pj_xs (s75_15)
theorem q75_16 : pj_row 75 16 = some (.getfield 7, 3, 6, 0, 0) := by decide +kernel
theorem s75_16 {L : pj_Loc} {st : List Value} {N S : Nat} {H : pj_Heap} {o : Nat} : pj_step 75 (16, L, .ref o :: st, (N, S, H)) = pj_pv 19 L st (N, S, H) (pj_fld (H o) 6 0) := st_getfield q75_16
theorem x75_16 {L : pj_Loc} {st : List Value} {N S : Nat} {H : pj_Heap} {o : Nat} {o9 : Option Value × pj_Mem} : pj_Ends 75 (16, L, .ref o :: st, (N, S, H)) o9 = pj_then 75 o9 (pj_pv 19 L st (N, S, H) (pj_fld (H o) 6 0)) := pj_xt q75_16 rfl (pj_cl_nc rfl) (s75_16)
theorem q75_19 : pj_row 75 19 = some (.iload_n 1, 1, 0, 0, 0) := by decide +kernel
theorem s75_19 {st : List Value} {M : pj_Mem} {l : pj_Loc} {a0 : Option Value} {x : Int32} : pj_step 75 (19, a0 :: some (.int x) :: l, st, M) = some (20, a0 :: some (.int x) :: l, .int x :: st, M) := st_iload_n q75_19 rfl
theorem x75_19 {st : List Value} {M : pj_Mem} {l : pj_Loc} {a0 : Option Value} {x : Int32} {o9 : Option Value × pj_Mem} : pj_Ends 75 (19, a0 :: some (.int x) :: l, st, M) o9 = pj_Ends 75 (20, a0 :: some (.int x) :: l, .int x :: st, M) o9 := pj_xs (s75_19)
theorem q75_20 : pj_row 75 20 = some (.iaload, 1, 0, 0, 0) := by decide +kernel
theorem s75_20 {L : pj_Loc} {st : List Value} {N S : Nat} {H : pj_Heap} {o : Nat} {i : Int32} : pj_step 75 (20, L, .int i :: .ref o :: st, (N, S, H)) = pj_pi 21 L st (N, S, H) (pj_arl (H o) 0 i) := st_iaload q75_20
theorem x75_20 {L : pj_Loc} {st : List Value} {N S : Nat} {H : pj_Heap} {o : Nat} {i : Int32} {o9 : Option Value × pj_Mem} : pj_Ends 75 (20, L, .int i :: .ref o :: st, (N, S, H)) o9 = pj_then 75 o9 (pj_pi 21 L st (N, S, H) (pj_arl (H o) 0 i)) := pj_xt q75_20 rfl (pj_cl_nc rfl) (s75_20)
theorem q75_21 : pj_row 75 21 = some (.istore_n 3, 1, 0, 0, 0) := by decide +kernel
theorem s75_21 {st : List Value} {M : pj_Mem} {l : pj_Loc} {a0 a1 a2 a3 : Option Value} {x : Int32} (h : pj_long a2 = false) : pj_step 75 (21, a0 :: a1 :: a2 :: a3 :: l, .int x :: st, M) = some (22, a0 :: a1 :: a2 :: some (.int x) :: l, st, M) := st_istore_n q75_21 (pj_st_3 h)
theorem x75_21 {st : List Value} {M : pj_Mem} {l : pj_Loc} {a0 a1 a2 a3 : Option Value} {x : Int32} (h : pj_long a2 = false) {o9 : Option Value × pj_Mem} : pj_Ends 75 (21, a0 :: a1 :: a2 :: a3 :: l, .int x :: st, M) o9 = pj_Ends 75 (22, a0 :: a1 :: a2 :: some (.int x) :: l, st, M) o9 := pj_xs (s75_21 h)
theorem q75_22 : pj_row 75 22 = some (.aload_n 0, 1, 0, 0, 0) := by decide +kernel
theorem s75_22 {st : List Value} {M : pj_Mem} {l : pj_Loc} {x : Nat} : pj_step 75 (22, some (.ref x) :: l, st, M) = some (23, some (.ref x) :: l, .ref x :: st, M) := st_aload_n q75_22 rfl
theorem x75_22 {st : List Value} {M : pj_Mem} {l : pj_Loc} {x : Nat} {o9 : Option Value × pj_Mem} : pj_Ends 75 (22, some (.ref x) :: l, st, M) o9 = pj_Ends 75 (23, some (.ref x) :: l, .ref x :: st, M) o9 := pj_xs (s75_22)
theorem q75_23 : pj_row 75 23 = some (.getfield 7, 3, 6, 0, 0) := by decide +kernel
theorem s75_23 {L : pj_Loc} {st : List Value} {N S : Nat} {H : pj_Heap} {o : Nat} : pj_step 75 (23, L, .ref o :: st, (N, S, H)) = pj_pv 26 L st (N, S, H) (pj_fld (H o) 6 0) := st_getfield q75_23
theorem x75_23 {L : pj_Loc} {st : List Value} {N S : Nat} {H : pj_Heap} {o : Nat} {o9 : Option Value × pj_Mem} : pj_Ends 75 (23, L, .ref o :: st, (N, S, H)) o9 = pj_then 75 o9 (pj_pv 26 L st (N, S, H) (pj_fld (H o) 6 0)) := pj_xt q75_23 rfl (pj_cl_nc rfl) (s75_23)
theorem q75_26 : pj_row 75 26 = some (.iload_n 1, 1, 0, 0, 0) := by decide +kernel
theorem s75_26 {st : List Value} {M : pj_Mem} {l : pj_Loc} {a0 : Option Value} {x : Int32} : pj_step 75 (26, a0 :: some (.int x) :: l, st, M) = some (27, a0 :: some (.int x) :: l, .int x :: st, M) := st_iload_n q75_26 rfl
theorem x75_26 {st : List Value} {M : pj_Mem} {l : pj_Loc} {a0 : Option Value} {x : Int32} {o9 : Option Value × pj_Mem} : pj_Ends 75 (26, a0 :: some (.int x) :: l, st, M) o9 = pj_Ends 75 (27, a0 :: some (.int x) :: l, .int x :: st, M) o9 := pj_xs (s75_26)
theorem q75_27 : pj_row 75 27 = some (.iload_n 2, 1, 0, 0, 0) := by decide +kernel
theorem s75_27 {st : List Value} {M : pj_Mem} {l : pj_Loc} {a0 a1 : Option Value} {x : Int32} : pj_step 75 (27, a0 :: a1 :: some (.int x) :: l, st, M) = some (28, a0 :: a1 :: some (.int x) :: l, .int x :: st, M) := st_iload_n q75_27 rfl
theorem x75_27 {st : List Value} {M : pj_Mem} {l : pj_Loc} {a0 a1 : Option Value} {x : Int32} {o9 : Option Value × pj_Mem} : pj_Ends 75 (27, a0 :: a1 :: some (.int x) :: l, st, M) o9 = pj_Ends 75 (28, a0 :: a1 :: some (.int x) :: l, .int x :: st, M) o9 := pj_xs (s75_27)
theorem q75_28 : pj_row 75 28 = some (.iastore, 1, 0, 0, 0) := by decide +kernel
theorem s75_28 {L : pj_Loc} {st : List Value} {N S : Nat} {H : pj_Heap} {o : Nat} {i x : Int32} : pj_step 75 (28, L, .int x :: .int i :: .ref o :: st, (N, S, H)) = pj_set 29 L st (N, S, H) o (pj_ars (H o) 0 i x) := st_iastore q75_28
theorem x75_28 {L : pj_Loc} {st : List Value} {N S : Nat} {H : pj_Heap} {o : Nat} {i x : Int32} {o9 : Option Value × pj_Mem} : pj_Ends 75 (28, L, .int x :: .int i :: .ref o :: st, (N, S, H)) o9 = pj_then 75 o9 (pj_set 29 L st (N, S, H) o (pj_ars (H o) 0 i x)) := pj_xt q75_28 rfl (pj_cl_nc rfl) (s75_28)
theorem q75_29 : pj_row 75 29 = some (.aload_n 0, 1, 0, 0, 0) := by decide +kernel
theorem s75_29 {st : List Value} {M : pj_Mem} {l : pj_Loc} {x : Nat} : pj_step 75 (29, some (.ref x) :: l, st, M) = some (30, some (.ref x) :: l, .ref x :: st, M) := st_aload_n q75_29 rfl
theorem x75_29 {st : List Value} {M : pj_Mem} {l : pj_Loc} {x : Nat} {o9 : Option Value × pj_Mem} : pj_Ends 75 (29, some (.ref x) :: l, st, M) o9 = pj_Ends 75 (30, some (.ref x) :: l, .ref x :: st, M) o9 := pj_xs (s75_29)
theorem q75_30 : pj_row 75 30 = some (.iload_n 3, 1, 0, 0, 0) := by decide +kernel
theorem s75_30 {st : List Value} {M : pj_Mem} {l : pj_Loc} {a0 a1 a2 : Option Value} {x : Int32} : pj_step 75 (30, a0 :: a1 :: a2 :: some (.int x) :: l, st, M) = some (31, a0 :: a1 :: a2 :: some (.int x) :: l, .int x :: st, M) := st_iload_n q75_30 rfl
theorem x75_30 {st : List Value} {M : pj_Mem} {l : pj_Loc} {a0 a1 a2 : Option Value} {x : Int32} {o9 : Option Value × pj_Mem} : pj_Ends 75 (30, a0 :: a1 :: a2 :: some (.int x) :: l, st, M) o9 = pj_Ends 75 (31, a0 :: a1 :: a2 :: some (.int x) :: l, .int x :: st, M) o9 := pj_xs (s75_30)
theorem q75_31 : pj_row 75 31 = some (.invokevirtual 124, 3, 79, 2, 0) := by decide +kernel
theorem e75_31 {L : pj_Loc} {st : List Value} {N S : Nat} {H : pj_Heap} {o : Option Value × pj_Mem} {M' : pj_Mem} {x0 : Nat} {x1 : Int32} {r : Int32} (h4 : pj_le4 st = true) (hu : pj_isU 6 (H x0) = true) (h1 : pj_Ends 79 (0, [some (.ref x0), some (.int x1), none], [], (N, S, H)) (some (.int r), M')) (h2 : pj_Ends 75 (34, L, .int r :: st, M') o) : pj_Ends 75 (31, L, .int x1 :: .ref x0 :: st, (N, S, H)) o := ec_v2 q75_31 (Or.inl rfl) h4 hu rfl h1 h2
theorem q75_34 : pj_row 75 34 = some (.ireturn, 1, 0, 0, 0) := by decide +kernel
theorem t75_34 {L : pj_Loc} {M : pj_Mem} {v : Int32} : pj_Ends 75 (34, L, [.int v], M) (some (.int v), M) := pj_Ends.ret q75_34 (pj_rtn_i rt75)
theorem rt76 : pj_rt 76 = some .boolean := rfl
theorem q76_0 : pj_row 76 0 = some (.iload_n 0, 1, 0, 0, 0) := by decide +kernel
theorem s76_0 {st : List Value} {M : pj_Mem} {l : pj_Loc} {x : Int32} : pj_step 76 (0, some (.int x) :: l, st, M) = some (1, some (.int x) :: l, .int x :: st, M) := st_iload_n q76_0 rfl
theorem x76_0 {st : List Value} {M : pj_Mem} {l : pj_Loc} {x : Int32} {o9 : Option Value × pj_Mem} : pj_Ends 76 (0, some (.int x) :: l, st, M) o9 = pj_Ends 76 (1, some (.int x) :: l, .int x :: st, M) o9 := pj_xs (s76_0)
theorem q76_1 : pj_row 76 1 = some (.tableswitch 77 0 4 #[35, 35, 45, 55, 67], 35, 0, 0, 0) := by decide +kernel
theorem s76_1 {L : pj_Loc} {st : List Value} {M : pj_Mem} {x : Int32} : pj_step 76 (1, L, .int x :: st, M) = some (if x = 0 then 36 else if x = 1 then 36 else if x = 2 then 46 else if x = 3 then 56 else if x = 4 then 68 else 78, L, st, M) := by
  rw [st_tsw q76_1]
  unfold pj_tsw
  by_cases hr : x.toInt < 0 ∨ 4 < x.toInt
  · simp only
    rw [if_pos hr]
    rw [if_neg (show ¬ x = 0 from fun e => by rw [e] at hr; revert hr; decide)]
    rw [if_neg (show ¬ x = 1 from fun e => by rw [e] at hr; revert hr; decide)]
    rw [if_neg (show ¬ x = 2 from fun e => by rw [e] at hr; revert hr; decide)]
    rw [if_neg (show ¬ x = 3 from fun e => by rw [e] at hr; revert hr; decide)]
    rw [if_neg (show ¬ x = 4 from fun e => by rw [e] at hr; revert hr; decide)]
    rfl
  · have h3 : x.toInt = 0 ∨ x.toInt = 1 ∨ x.toInt = 2 ∨ x.toInt = 3 ∨ x.toInt = 4 := by omega
    rcases h3 with h3 | h3 | h3 | h3 | h3
    · have e : x = 0 := Int32.toInt_inj.mp (h3.trans (by decide))
      subst e
      rfl
    · have e : x = 1 := Int32.toInt_inj.mp (h3.trans (by decide))
      subst e
      rfl
    · have e : x = 2 := Int32.toInt_inj.mp (h3.trans (by decide))
      subst e
      rfl
    · have e : x = 3 := Int32.toInt_inj.mp (h3.trans (by decide))
      subst e
      rfl
    · have e : x = 4 := Int32.toInt_inj.mp (h3.trans (by decide))
      subst e
      rfl
theorem x76_1 {L : pj_Loc} {st : List Value} {M : pj_Mem} {x : Int32} {o9 : Option Value × pj_Mem} : pj_Ends 76 (1, L, .int x :: st, M) o9 = pj_Ends 76 (if x = 0 then 36 else if x = 1 then 36 else if x = 2 then 46 else if x = 3 then 56 else if x = 4 then 68 else 78, L, st, M) o9 := pj_xs (s76_1)
theorem q76_36 : pj_row 76 36 = some (.iload_n 1, 1, 0, 0, 0) := by decide +kernel
theorem s76_36 {st : List Value} {M : pj_Mem} {l : pj_Loc} {a0 : Option Value} {x : Int32} : pj_step 76 (36, a0 :: some (.int x) :: l, st, M) = some (37, a0 :: some (.int x) :: l, .int x :: st, M) := st_iload_n q76_36 rfl
theorem x76_36 {st : List Value} {M : pj_Mem} {l : pj_Loc} {a0 : Option Value} {x : Int32} {o9 : Option Value × pj_Mem} : pj_Ends 76 (36, a0 :: some (.int x) :: l, st, M) o9 = pj_Ends 76 (37, a0 :: some (.int x) :: l, .int x :: st, M) o9 := pj_xs (s76_36)
theorem q76_37 : pj_row 76 37 = some (.i2l, 1, 0, 0, 0) := by decide +kernel
theorem s76_37 {L : pj_Loc} {st : List Value} {M : pj_Mem} {x : Int32} : pj_step 76 (37, L, .int x :: st, M) = some (38, L, .long x.toInt64 :: st, M) := st_i2l q76_37
theorem x76_37 {L : pj_Loc} {st : List Value} {M : pj_Mem} {x : Int32} {o9 : Option Value × pj_Mem} : pj_Ends 76 (37, L, .int x :: st, M) o9 = pj_Ends 76 (38, L, .long x.toInt64 :: st, M) o9 := pj_xs (s76_37)
theorem q76_38 : pj_row 76 38 = some (.lconst 1, 1, 0, 0, 0) := by decide +kernel
theorem s76_38 {L : pj_Loc} {st : List Value} {M : pj_Mem}  : pj_step 76 (38, L, st, M) = some (39, L, .long 1 :: st, M) := st_lconst q76_38 (by decide +kernel)
theorem x76_38 {L : pj_Loc} {st : List Value} {M : pj_Mem}  {o9 : Option Value × pj_Mem} : pj_Ends 76 (38, L, st, M) o9 = pj_Ends 76 (39, L, .long 1 :: st, M) o9 := pj_xs (s76_38)
theorem q76_39 : pj_row 76 39 = some (.ldc2_w 111, 3, 0, 0, 2000) := by decide +kernel
theorem s76_39 {L : pj_Loc} {st : List Value} {M : pj_Mem}  : pj_step 76 (39, L, st, M) = some (42, L, .long 2000 :: st, M) := st_ldc2_w q76_39 (by decide +kernel)
theorem x76_39 {L : pj_Loc} {st : List Value} {M : pj_Mem}  {o9 : Option Value × pj_Mem} : pj_Ends 76 (39, L, st, M) o9 = pj_Ends 76 (42, L, .long 2000 :: st, M) o9 := pj_xs (s76_39)
theorem q76_42 : pj_row 76 42 = some (.invokestatic 42, 3, 77, 3, 0) := by decide +kernel
theorem e76_42 {L : pj_Loc} {st : List Value} {N S : Nat} {H : pj_Heap} {o : Option Value × pj_Mem} {M' : pj_Mem} {x0 : Int64} {x1 : Int64} {x2 : Int64} {r : Int32} (h4 : pj_le4 st = true) (h1 : pj_Ends 77 (0, [some (.long x0), none, some (.long x1), none, some (.long x2), none], [], (N, S, H)) (some (.int r), M')) (h2 : pj_Ends 76 (45, L, .int r :: st, M') o) : pj_Ends 76 (42, L, .long x2 :: .long x1 :: .long x0 :: st, (N, S, H)) o := ec_s3 q76_42 (Or.inl rfl) h4 rfl h1 h2
theorem q76_45 : pj_row 76 45 = some (.ireturn, 1, 0, 0, 0) := by decide +kernel
theorem t76_45 {L : pj_Loc} {M : pj_Mem} {v : Int32} (hv : v = 0 ∨ v = 1) : pj_Ends 76 (45, L, [.int v], M) (some (.int v), M) := pj_Ends.ret q76_45 (pj_rtn_z rt76 hv)
theorem q76_46 : pj_row 76 46 = some (.iload_n 1, 1, 0, 0, 0) := by decide +kernel
theorem s76_46 {st : List Value} {M : pj_Mem} {l : pj_Loc} {a0 : Option Value} {x : Int32} : pj_step 76 (46, a0 :: some (.int x) :: l, st, M) = some (47, a0 :: some (.int x) :: l, .int x :: st, M) := st_iload_n q76_46 rfl
theorem x76_46 {st : List Value} {M : pj_Mem} {l : pj_Loc} {a0 : Option Value} {x : Int32} {o9 : Option Value × pj_Mem} : pj_Ends 76 (46, a0 :: some (.int x) :: l, st, M) o9 = pj_Ends 76 (47, a0 :: some (.int x) :: l, .int x :: st, M) o9 := pj_xs (s76_46)
theorem q76_47 : pj_row 76 47 = some (.i2l, 1, 0, 0, 0) := by decide +kernel
theorem s76_47 {L : pj_Loc} {st : List Value} {M : pj_Mem} {x : Int32} : pj_step 76 (47, L, .int x :: st, M) = some (48, L, .long x.toInt64 :: st, M) := st_i2l q76_47
theorem x76_47 {L : pj_Loc} {st : List Value} {M : pj_Mem} {x : Int32} {o9 : Option Value × pj_Mem} : pj_Ends 76 (47, L, .int x :: st, M) o9 = pj_Ends 76 (48, L, .long x.toInt64 :: st, M) o9 := pj_xs (s76_47)
theorem q76_48 : pj_row 76 48 = some (.lconst 1, 1, 0, 0, 0) := by decide +kernel
theorem s76_48 {L : pj_Loc} {st : List Value} {M : pj_Mem}  : pj_step 76 (48, L, st, M) = some (49, L, .long 1 :: st, M) := st_lconst q76_48 (by decide +kernel)
theorem x76_48 {L : pj_Loc} {st : List Value} {M : pj_Mem}  {o9 : Option Value × pj_Mem} : pj_Ends 76 (48, L, st, M) o9 = pj_Ends 76 (49, L, .long 1 :: st, M) o9 := pj_xs (s76_48)
theorem q76_49 : pj_row 76 49 = some (.ldc2_w 113, 3, 0, 0, 50) := by decide +kernel
theorem s76_49 {L : pj_Loc} {st : List Value} {M : pj_Mem}  : pj_step 76 (49, L, st, M) = some (52, L, .long 50 :: st, M) := st_ldc2_w q76_49 (by decide +kernel)
theorem x76_49 {L : pj_Loc} {st : List Value} {M : pj_Mem}  {o9 : Option Value × pj_Mem} : pj_Ends 76 (49, L, st, M) o9 = pj_Ends 76 (52, L, .long 50 :: st, M) o9 := pj_xs (s76_49)
theorem q76_52 : pj_row 76 52 = some (.invokestatic 42, 3, 77, 3, 0) := by decide +kernel
theorem e76_52 {L : pj_Loc} {st : List Value} {N S : Nat} {H : pj_Heap} {o : Option Value × pj_Mem} {M' : pj_Mem} {x0 : Int64} {x1 : Int64} {x2 : Int64} {r : Int32} (h4 : pj_le4 st = true) (h1 : pj_Ends 77 (0, [some (.long x0), none, some (.long x1), none, some (.long x2), none], [], (N, S, H)) (some (.int r), M')) (h2 : pj_Ends 76 (55, L, .int r :: st, M') o) : pj_Ends 76 (52, L, .long x2 :: .long x1 :: .long x0 :: st, (N, S, H)) o := ec_s3 q76_52 (Or.inl rfl) h4 rfl h1 h2
theorem q76_55 : pj_row 76 55 = some (.ireturn, 1, 0, 0, 0) := by decide +kernel
theorem t76_55 {L : pj_Loc} {M : pj_Mem} {v : Int32} (hv : v = 0 ∨ v = 1) : pj_Ends 76 (55, L, [.int v], M) (some (.int v), M) := pj_Ends.ret q76_55 (pj_rtn_z rt76 hv)
theorem q76_56 : pj_row 76 56 = some (.iload_n 1, 1, 0, 0, 0) := by decide +kernel
theorem s76_56 {st : List Value} {M : pj_Mem} {l : pj_Loc} {a0 : Option Value} {x : Int32} : pj_step 76 (56, a0 :: some (.int x) :: l, st, M) = some (57, a0 :: some (.int x) :: l, .int x :: st, M) := st_iload_n q76_56 rfl
theorem x76_56 {st : List Value} {M : pj_Mem} {l : pj_Loc} {a0 : Option Value} {x : Int32} {o9 : Option Value × pj_Mem} : pj_Ends 76 (56, a0 :: some (.int x) :: l, st, M) o9 = pj_Ends 76 (57, a0 :: some (.int x) :: l, .int x :: st, M) o9 := pj_xs (s76_56)
theorem q76_57 : pj_row 76 57 = some (.i2l, 1, 0, 0, 0) := by decide +kernel
theorem s76_57 {L : pj_Loc} {st : List Value} {M : pj_Mem} {x : Int32} : pj_step 76 (57, L, .int x :: st, M) = some (58, L, .long x.toInt64 :: st, M) := st_i2l q76_57
theorem x76_57 {L : pj_Loc} {st : List Value} {M : pj_Mem} {x : Int32} {o9 : Option Value × pj_Mem} : pj_Ends 76 (57, L, .int x :: st, M) o9 = pj_Ends 76 (58, L, .long x.toInt64 :: st, M) o9 := pj_xs (s76_57)
theorem q76_58 : pj_row 76 58 = some (.ldc2_w 46, 3, 0, 0, 2) := by decide +kernel
theorem s76_58 {L : pj_Loc} {st : List Value} {M : pj_Mem}  : pj_step 76 (58, L, st, M) = some (61, L, .long 2 :: st, M) := st_ldc2_w q76_58 (by decide +kernel)
theorem x76_58 {L : pj_Loc} {st : List Value} {M : pj_Mem}  {o9 : Option Value × pj_Mem} : pj_Ends 76 (58, L, st, M) o9 = pj_Ends 76 (61, L, .long 2 :: st, M) o9 := pj_xs (s76_58)
theorem q76_61 : pj_row 76 61 = some (.ldc2_w 113, 3, 0, 0, 50) := by decide +kernel
theorem s76_61 {L : pj_Loc} {st : List Value} {M : pj_Mem}  : pj_step 76 (61, L, st, M) = some (64, L, .long 50 :: st, M) := st_ldc2_w q76_61 (by decide +kernel)
theorem x76_61 {L : pj_Loc} {st : List Value} {M : pj_Mem}  {o9 : Option Value × pj_Mem} : pj_Ends 76 (61, L, st, M) o9 = pj_Ends 76 (64, L, .long 50 :: st, M) o9 := pj_xs (s76_61)
theorem q76_64 : pj_row 76 64 = some (.invokestatic 42, 3, 77, 3, 0) := by decide +kernel
theorem e76_64 {L : pj_Loc} {st : List Value} {N S : Nat} {H : pj_Heap} {o : Option Value × pj_Mem} {M' : pj_Mem} {x0 : Int64} {x1 : Int64} {x2 : Int64} {r : Int32} (h4 : pj_le4 st = true) (h1 : pj_Ends 77 (0, [some (.long x0), none, some (.long x1), none, some (.long x2), none], [], (N, S, H)) (some (.int r), M')) (h2 : pj_Ends 76 (67, L, .int r :: st, M') o) : pj_Ends 76 (64, L, .long x2 :: .long x1 :: .long x0 :: st, (N, S, H)) o := ec_s3 q76_64 (Or.inl rfl) h4 rfl h1 h2
theorem q76_67 : pj_row 76 67 = some (.ireturn, 1, 0, 0, 0) := by decide +kernel
theorem t76_67 {L : pj_Loc} {M : pj_Mem} {v : Int32} (hv : v = 0 ∨ v = 1) : pj_Ends 76 (67, L, [.int v], M) (some (.int v), M) := pj_Ends.ret q76_67 (pj_rtn_z rt76 hv)
theorem q76_68 : pj_row 76 68 = some (.iload_n 1, 1, 0, 0, 0) := by decide +kernel
theorem s76_68 {st : List Value} {M : pj_Mem} {l : pj_Loc} {a0 : Option Value} {x : Int32} : pj_step 76 (68, a0 :: some (.int x) :: l, st, M) = some (69, a0 :: some (.int x) :: l, .int x :: st, M) := st_iload_n q76_68 rfl
theorem x76_68 {st : List Value} {M : pj_Mem} {l : pj_Loc} {a0 : Option Value} {x : Int32} {o9 : Option Value × pj_Mem} : pj_Ends 76 (68, a0 :: some (.int x) :: l, st, M) o9 = pj_Ends 76 (69, a0 :: some (.int x) :: l, .int x :: st, M) o9 := pj_xs (s76_68)
theorem q76_69 : pj_row 76 69 = some (.i2l, 1, 0, 0, 0) := by decide +kernel
theorem s76_69 {L : pj_Loc} {st : List Value} {M : pj_Mem} {x : Int32} : pj_step 76 (69, L, .int x :: st, M) = some (70, L, .long x.toInt64 :: st, M) := st_i2l q76_69
theorem x76_69 {L : pj_Loc} {st : List Value} {M : pj_Mem} {x : Int32} {o9 : Option Value × pj_Mem} : pj_Ends 76 (69, L, .int x :: st, M) o9 = pj_Ends 76 (70, L, .long x.toInt64 :: st, M) o9 := pj_xs (s76_69)
theorem q76_70 : pj_row 76 70 = some (.lconst 1, 1, 0, 0, 0) := by decide +kernel
theorem s76_70 {L : pj_Loc} {st : List Value} {M : pj_Mem}  : pj_step 76 (70, L, st, M) = some (71, L, .long 1 :: st, M) := st_lconst q76_70 (by decide +kernel)
theorem x76_70 {L : pj_Loc} {st : List Value} {M : pj_Mem}  {o9 : Option Value × pj_Mem} : pj_Ends 76 (70, L, st, M) o9 = pj_Ends 76 (71, L, .long 1 :: st, M) o9 := pj_xs (s76_70)
theorem q76_71 : pj_row 76 71 = some (.ldc2_w 40, 3, 0, 0, 500) := by decide +kernel
theorem s76_71 {L : pj_Loc} {st : List Value} {M : pj_Mem}  : pj_step 76 (71, L, st, M) = some (74, L, .long 500 :: st, M) := st_ldc2_w q76_71 (by decide +kernel)
theorem x76_71 {L : pj_Loc} {st : List Value} {M : pj_Mem}  {o9 : Option Value × pj_Mem} : pj_Ends 76 (71, L, st, M) o9 = pj_Ends 76 (74, L, .long 500 :: st, M) o9 := pj_xs (s76_71)
theorem q76_74 : pj_row 76 74 = some (.invokestatic 42, 3, 77, 3, 0) := by decide +kernel
theorem e76_74 {L : pj_Loc} {st : List Value} {N S : Nat} {H : pj_Heap} {o : Option Value × pj_Mem} {M' : pj_Mem} {x0 : Int64} {x1 : Int64} {x2 : Int64} {r : Int32} (h4 : pj_le4 st = true) (h1 : pj_Ends 77 (0, [some (.long x0), none, some (.long x1), none, some (.long x2), none], [], (N, S, H)) (some (.int r), M')) (h2 : pj_Ends 76 (77, L, .int r :: st, M') o) : pj_Ends 76 (74, L, .long x2 :: .long x1 :: .long x0 :: st, (N, S, H)) o := ec_s3 q76_74 (Or.inl rfl) h4 rfl h1 h2
theorem q76_77 : pj_row 76 77 = some (.ireturn, 1, 0, 0, 0) := by decide +kernel
theorem t76_77 {L : pj_Loc} {M : pj_Mem} {v : Int32} (hv : v = 0 ∨ v = 1) : pj_Ends 76 (77, L, [.int v], M) (some (.int v), M) := pj_Ends.ret q76_77 (pj_rtn_z rt76 hv)
theorem q76_78 : pj_row 76 78 = some (.iload_n 0, 1, 0, 0, 0) := by decide +kernel
theorem s76_78 {st : List Value} {M : pj_Mem} {l : pj_Loc} {x : Int32} : pj_step 76 (78, some (.int x) :: l, st, M) = some (79, some (.int x) :: l, .int x :: st, M) := st_iload_n q76_78 rfl
theorem x76_78 {st : List Value} {M : pj_Mem} {l : pj_Loc} {x : Int32} {o9 : Option Value × pj_Mem} : pj_Ends 76 (78, some (.int x) :: l, st, M) o9 = pj_Ends 76 (79, some (.int x) :: l, .int x :: st, M) o9 := pj_xs (s76_78)
theorem q76_79 : pj_row 76 79 = some (.iconst 5, 1, 0, 0, 0) := by decide +kernel
theorem s76_79 {L : pj_Loc} {st : List Value} {M : pj_Mem}  : pj_step 76 (79, L, st, M) = some (80, L, .int 5 :: st, M) := st_iconst q76_79 (by decide +kernel)
theorem x76_79 {L : pj_Loc} {st : List Value} {M : pj_Mem}  {o9 : Option Value × pj_Mem} : pj_Ends 76 (79, L, st, M) o9 = pj_Ends 76 (80, L, .int 5 :: st, M) o9 := pj_xs (s76_79)
theorem q76_80 : pj_row 76 80 = some (.if_icmp .ne 19, 3, 99, 0, 0) := by decide +kernel
theorem s76_80 {L : pj_Loc} {st : List Value} {M : pj_Mem} {x y : Int32} : pj_step 76 (80, L, .int y :: .int x :: st, M) = some (if ¬ x = y then 99 else 83, L, st, M) := st_icmp_ne q76_80
theorem x76_80 {L : pj_Loc} {st : List Value} {M : pj_Mem} {x y : Int32} {o9 : Option Value × pj_Mem} : pj_Ends 76 (80, L, .int y :: .int x :: st, M) o9 = pj_Ends 76 (if ¬ x = y then 99 else 83, L, st, M) o9 := pj_xs (s76_80)
theorem q76_83 : pj_row 76 83 = some (.iload_n 1, 1, 0, 0, 0) := by decide +kernel
theorem s76_83 {st : List Value} {M : pj_Mem} {l : pj_Loc} {a0 : Option Value} {x : Int32} : pj_step 76 (83, a0 :: some (.int x) :: l, st, M) = some (84, a0 :: some (.int x) :: l, .int x :: st, M) := st_iload_n q76_83 rfl
theorem x76_83 {st : List Value} {M : pj_Mem} {l : pj_Loc} {a0 : Option Value} {x : Int32} {o9 : Option Value × pj_Mem} : pj_Ends 76 (83, a0 :: some (.int x) :: l, st, M) o9 = pj_Ends 76 (84, a0 :: some (.int x) :: l, .int x :: st, M) o9 := pj_xs (s76_83)
theorem q76_84 : pj_row 76 84 = some (.i2l, 1, 0, 0, 0) := by decide +kernel
theorem s76_84 {L : pj_Loc} {st : List Value} {M : pj_Mem} {x : Int32} : pj_step 76 (84, L, .int x :: st, M) = some (85, L, .long x.toInt64 :: st, M) := st_i2l q76_84
theorem x76_84 {L : pj_Loc} {st : List Value} {M : pj_Mem} {x : Int32} {o9 : Option Value × pj_Mem} : pj_Ends 76 (84, L, .int x :: st, M) o9 = pj_Ends 76 (85, L, .long x.toInt64 :: st, M) o9 := pj_xs (s76_84)
theorem q76_85 : pj_row 76 85 = some (.lconst 0, 1, 0, 0, 0) := by decide +kernel
theorem s76_85 {L : pj_Loc} {st : List Value} {M : pj_Mem}  : pj_step 76 (85, L, st, M) = some (86, L, .long 0 :: st, M) := st_lconst q76_85 (by decide +kernel)
theorem x76_85 {L : pj_Loc} {st : List Value} {M : pj_Mem}  {o9 : Option Value × pj_Mem} : pj_Ends 76 (85, L, st, M) o9 = pj_Ends 76 (86, L, .long 0 :: st, M) o9 := pj_xs (s76_85)
theorem q76_86 : pj_row 76 86 = some (.ldc2_w 115, 3, 0, 0, 20) := by decide +kernel
theorem s76_86 {L : pj_Loc} {st : List Value} {M : pj_Mem}  : pj_step 76 (86, L, st, M) = some (89, L, .long 20 :: st, M) := st_ldc2_w q76_86 (by decide +kernel)
theorem x76_86 {L : pj_Loc} {st : List Value} {M : pj_Mem}  {o9 : Option Value × pj_Mem} : pj_Ends 76 (86, L, st, M) o9 = pj_Ends 76 (89, L, .long 20 :: st, M) o9 := pj_xs (s76_86)
theorem q76_89 : pj_row 76 89 = some (.invokestatic 42, 3, 77, 3, 0) := by decide +kernel
theorem e76_89 {L : pj_Loc} {st : List Value} {N S : Nat} {H : pj_Heap} {o : Option Value × pj_Mem} {M' : pj_Mem} {x0 : Int64} {x1 : Int64} {x2 : Int64} {r : Int32} (h4 : pj_le4 st = true) (h1 : pj_Ends 77 (0, [some (.long x0), none, some (.long x1), none, some (.long x2), none], [], (N, S, H)) (some (.int r), M')) (h2 : pj_Ends 76 (92, L, .int r :: st, M') o) : pj_Ends 76 (89, L, .long x2 :: .long x1 :: .long x0 :: st, (N, S, H)) o := ec_s3 q76_89 (Or.inl rfl) h4 rfl h1 h2
theorem q76_92 : pj_row 76 92 = some (.ifCond .eq 7, 3, 99, 0, 0) := by decide +kernel
theorem s76_92 {L : pj_Loc} {st : List Value} {M : pj_Mem} {x : Int32} : pj_step 76 (92, L, .int x :: st, M) = some (if x = 0 then 99 else 95, L, st, M) := st_if_eq q76_92
theorem x76_92 {L : pj_Loc} {st : List Value} {M : pj_Mem} {x : Int32} {o9 : Option Value × pj_Mem} : pj_Ends 76 (92, L, .int x :: st, M) o9 = pj_Ends 76 (if x = 0 then 99 else 95, L, st, M) o9 := pj_xs (s76_92)
theorem q76_95 : pj_row 76 95 = some (.iconst 1, 1, 0, 0, 0) := by decide +kernel
theorem s76_95 {L : pj_Loc} {st : List Value} {M : pj_Mem}  : pj_step 76 (95, L, st, M) = some (96, L, .int 1 :: st, M) := st_iconst q76_95 (by decide +kernel)
theorem x76_95 {L : pj_Loc} {st : List Value} {M : pj_Mem}  {o9 : Option Value × pj_Mem} : pj_Ends 76 (95, L, st, M) o9 = pj_Ends 76 (96, L, .int 1 :: st, M) o9 := pj_xs (s76_95)
theorem q76_96 : pj_row 76 96 = some (.goto 4, 3, 100, 0, 0) := by decide +kernel
theorem s76_96 {L : pj_Loc} {st : List Value} {M : pj_Mem}  : pj_step 76 (96, L, st, M) = some (100, L, st, M) := st_goto q76_96
theorem x76_96 {L : pj_Loc} {st : List Value} {M : pj_Mem}  {o9 : Option Value × pj_Mem} : pj_Ends 76 (96, L, st, M) o9 = pj_Ends 76 (100, L, st, M) o9 := pj_xs (s76_96)
theorem q76_99 : pj_row 76 99 = some (.iconst 0, 1, 0, 0, 0) := by decide +kernel
theorem s76_99 {L : pj_Loc} {st : List Value} {M : pj_Mem}  : pj_step 76 (99, L, st, M) = some (100, L, .int 0 :: st, M) := st_iconst q76_99 (by decide +kernel)
theorem x76_99 {L : pj_Loc} {st : List Value} {M : pj_Mem}  {o9 : Option Value × pj_Mem} : pj_Ends 76 (99, L, st, M) o9 = pj_Ends 76 (100, L, .int 0 :: st, M) o9 := pj_xs (s76_99)
theorem q76_100 : pj_row 76 100 = some (.ireturn, 1, 0, 0, 0) := by decide +kernel
theorem t76_100 {L : pj_Loc} {M : pj_Mem} {v : Int32} (hv : v = 0 ∨ v = 1) : pj_Ends 76 (100, L, [.int v], M) (some (.int v), M) := pj_Ends.ret q76_100 (pj_rtn_z rt76 hv)
theorem rt77 : pj_rt 77 = some .boolean := rfl
theorem q77_0 : pj_row 77 0 = some (.lload_n 0, 1, 0, 0, 0) := by decide +kernel
theorem s77_0 {st : List Value} {M : pj_Mem} {l : pj_Loc} {x : Int64} : pj_step 77 (0, some (.long x) :: l, st, M) = some (1, some (.long x) :: l, .long x :: st, M) := st_lload_n q77_0 rfl
theorem x77_0 {st : List Value} {M : pj_Mem} {l : pj_Loc} {x : Int64} {o9 : Option Value × pj_Mem} : pj_Ends 77 (0, some (.long x) :: l, st, M) o9 = pj_Ends 77 (1, some (.long x) :: l, .long x :: st, M) o9 := pj_xs (s77_0)
theorem q77_1 : pj_row 77 1 = some (.lload_n 2, 1, 0, 0, 0) := by decide +kernel
theorem s77_1 {st : List Value} {M : pj_Mem} {l : pj_Loc} {a0 a1 : Option Value} {x : Int64} : pj_step 77 (1, a0 :: a1 :: some (.long x) :: l, st, M) = some (2, a0 :: a1 :: some (.long x) :: l, .long x :: st, M) := st_lload_n q77_1 rfl
theorem x77_1 {st : List Value} {M : pj_Mem} {l : pj_Loc} {a0 a1 : Option Value} {x : Int64} {o9 : Option Value × pj_Mem} : pj_Ends 77 (1, a0 :: a1 :: some (.long x) :: l, st, M) o9 = pj_Ends 77 (2, a0 :: a1 :: some (.long x) :: l, .long x :: st, M) o9 := pj_xs (s77_1)
theorem q77_2 : pj_row 77 2 = some (.lcmp, 1, 0, 0, 0) := by decide +kernel
theorem s77_2 {L : pj_Loc} {st : List Value} {M : pj_Mem} {x y : Int64} : pj_step 77 (2, L, .long y :: .long x :: st, M) = some (3, L, .int (lg_cmp x y) :: st, M) := st_lcmp q77_2
theorem x77_2 {L : pj_Loc} {st : List Value} {M : pj_Mem} {x y : Int64} {o9 : Option Value × pj_Mem} : pj_Ends 77 (2, L, .long y :: .long x :: st, M) o9 = pj_Ends 77 (3, L, .int (lg_cmp x y) :: st, M) o9 := pj_xs (s77_2)
theorem q77_3 : pj_row 77 3 = some (.ifCond .lt 14, 3, 17, 0, 0) := by decide +kernel
theorem s77_3 {L : pj_Loc} {st : List Value} {M : pj_Mem} {x : Int32} : pj_step 77 (3, L, .int x :: st, M) = some (if x < 0 then 17 else 6, L, st, M) := st_if_lt q77_3
theorem x77_3 {L : pj_Loc} {st : List Value} {M : pj_Mem} {x : Int32} {o9 : Option Value × pj_Mem} : pj_Ends 77 (3, L, .int x :: st, M) o9 = pj_Ends 77 (if x < 0 then 17 else 6, L, st, M) o9 := pj_xs (s77_3)
theorem q77_6 : pj_row 77 6 = some (.lload_n 0, 1, 0, 0, 0) := by decide +kernel
theorem s77_6 {st : List Value} {M : pj_Mem} {l : pj_Loc} {x : Int64} : pj_step 77 (6, some (.long x) :: l, st, M) = some (7, some (.long x) :: l, .long x :: st, M) := st_lload_n q77_6 rfl
theorem x77_6 {st : List Value} {M : pj_Mem} {l : pj_Loc} {x : Int64} {o9 : Option Value × pj_Mem} : pj_Ends 77 (6, some (.long x) :: l, st, M) o9 = pj_Ends 77 (7, some (.long x) :: l, .long x :: st, M) o9 := pj_xs (s77_6)
theorem q77_7 : pj_row 77 7 = some (.lload 4, 2, 0, 0, 0) := by decide +kernel
theorem s77_7 {st : List Value} {M : pj_Mem} {l : pj_Loc} {a0 a1 a2 a3 : Option Value} {x : Int64} : pj_step 77 (7, a0 :: a1 :: a2 :: a3 :: some (.long x) :: l, st, M) = some (9, a0 :: a1 :: a2 :: a3 :: some (.long x) :: l, .long x :: st, M) := st_lload q77_7 rfl
theorem x77_7 {st : List Value} {M : pj_Mem} {l : pj_Loc} {a0 a1 a2 a3 : Option Value} {x : Int64} {o9 : Option Value × pj_Mem} : pj_Ends 77 (7, a0 :: a1 :: a2 :: a3 :: some (.long x) :: l, st, M) o9 = pj_Ends 77 (9, a0 :: a1 :: a2 :: a3 :: some (.long x) :: l, .long x :: st, M) o9 := pj_xs (s77_7)
theorem q77_9 : pj_row 77 9 = some (.lcmp, 1, 0, 0, 0) := by decide +kernel
theorem s77_9 {L : pj_Loc} {st : List Value} {M : pj_Mem} {x y : Int64} : pj_step 77 (9, L, .long y :: .long x :: st, M) = some (10, L, .int (lg_cmp x y) :: st, M) := st_lcmp q77_9
theorem x77_9 {L : pj_Loc} {st : List Value} {M : pj_Mem} {x y : Int64} {o9 : Option Value × pj_Mem} : pj_Ends 77 (9, L, .long y :: .long x :: st, M) o9 = pj_Ends 77 (10, L, .int (lg_cmp x y) :: st, M) o9 := pj_xs (s77_9)
theorem q77_10 : pj_row 77 10 = some (.ifCond .gt 7, 3, 17, 0, 0) := by decide +kernel
theorem s77_10 {L : pj_Loc} {st : List Value} {M : pj_Mem} {x : Int32} : pj_step 77 (10, L, .int x :: st, M) = some (if 0 < x then 17 else 13, L, st, M) := st_if_gt q77_10
theorem x77_10 {L : pj_Loc} {st : List Value} {M : pj_Mem} {x : Int32} {o9 : Option Value × pj_Mem} : pj_Ends 77 (10, L, .int x :: st, M) o9 = pj_Ends 77 (if 0 < x then 17 else 13, L, st, M) o9 := pj_xs (s77_10)
theorem q77_13 : pj_row 77 13 = some (.iconst 1, 1, 0, 0, 0) := by decide +kernel
theorem s77_13 {L : pj_Loc} {st : List Value} {M : pj_Mem}  : pj_step 77 (13, L, st, M) = some (14, L, .int 1 :: st, M) := st_iconst q77_13 (by decide +kernel)
theorem x77_13 {L : pj_Loc} {st : List Value} {M : pj_Mem}  {o9 : Option Value × pj_Mem} : pj_Ends 77 (13, L, st, M) o9 = pj_Ends 77 (14, L, .int 1 :: st, M) o9 := pj_xs (s77_13)
theorem q77_14 : pj_row 77 14 = some (.goto 4, 3, 18, 0, 0) := by decide +kernel
theorem s77_14 {L : pj_Loc} {st : List Value} {M : pj_Mem}  : pj_step 77 (14, L, st, M) = some (18, L, st, M) := st_goto q77_14
theorem x77_14 {L : pj_Loc} {st : List Value} {M : pj_Mem}  {o9 : Option Value × pj_Mem} : pj_Ends 77 (14, L, st, M) o9 = pj_Ends 77 (18, L, st, M) o9 := pj_xs (s77_14)
theorem q77_17 : pj_row 77 17 = some (.iconst 0, 1, 0, 0, 0) := by decide +kernel
theorem s77_17 {L : pj_Loc} {st : List Value} {M : pj_Mem}  : pj_step 77 (17, L, st, M) = some (18, L, .int 0 :: st, M) := st_iconst q77_17 (by decide +kernel)
theorem x77_17 {L : pj_Loc} {st : List Value} {M : pj_Mem}  {o9 : Option Value × pj_Mem} : pj_Ends 77 (17, L, st, M) o9 = pj_Ends 77 (18, L, .int 0 :: st, M) o9 := pj_xs (s77_17)
theorem q77_18 : pj_row 77 18 = some (.ireturn, 1, 0, 0, 0) := by decide +kernel
theorem t77_18 {L : pj_Loc} {M : pj_Mem} {v : Int32} (hv : v = 0 ∨ v = 1) : pj_Ends 77 (18, L, [.int v], M) (some (.int v), M) := pj_Ends.ret q77_18 (pj_rtn_z rt77 hv)
theorem rt78 : pj_rt 78 = none := rfl
theorem q78_0 : pj_row 78 0 = some (.iconst 0, 1, 0, 0, 0) := by decide +kernel
theorem s78_0 {L : pj_Loc} {st : List Value} {M : pj_Mem}  : pj_step 78 (0, L, st, M) = some (1, L, .int 0 :: st, M) := st_iconst q78_0 (by decide +kernel)
theorem x78_0 {L : pj_Loc} {st : List Value} {M : pj_Mem}  {o9 : Option Value × pj_Mem} : pj_Ends 78 (0, L, st, M) o9 = pj_Ends 78 (1, L, .int 0 :: st, M) o9 := pj_xs (s78_0)
theorem q78_1 : pj_row 78 1 = some (.istore_n 1, 1, 0, 0, 0) := by decide +kernel
theorem s78_1 {st : List Value} {M : pj_Mem} {l : pj_Loc} {a0 a1 : Option Value} {x : Int32} (h : pj_long a0 = false) : pj_step 78 (1, a0 :: a1 :: l, .int x :: st, M) = some (2, a0 :: some (.int x) :: l, st, M) := st_istore_n q78_1 (pj_st_1 h)
theorem x78_1 {st : List Value} {M : pj_Mem} {l : pj_Loc} {a0 a1 : Option Value} {x : Int32} (h : pj_long a0 = false) {o9 : Option Value × pj_Mem} : pj_Ends 78 (1, a0 :: a1 :: l, .int x :: st, M) o9 = pj_Ends 78 (2, a0 :: some (.int x) :: l, st, M) o9 := pj_xs (s78_1 h)
theorem q78_2 : pj_row 78 2 = some (.iload_n 1, 1, 0, 0, 0) := by decide +kernel
theorem s78_2 {st : List Value} {M : pj_Mem} {l : pj_Loc} {a0 : Option Value} {x : Int32} : pj_step 78 (2, a0 :: some (.int x) :: l, st, M) = some (3, a0 :: some (.int x) :: l, .int x :: st, M) := st_iload_n q78_2 rfl
theorem x78_2 {st : List Value} {M : pj_Mem} {l : pj_Loc} {a0 : Option Value} {x : Int32} {o9 : Option Value × pj_Mem} : pj_Ends 78 (2, a0 :: some (.int x) :: l, st, M) o9 = pj_Ends 78 (3, a0 :: some (.int x) :: l, .int x :: st, M) o9 := pj_xs (s78_2)
theorem q78_3 : pj_row 78 3 = some (.sipush 152, 3, 0, 0, 0) := by decide +kernel
theorem s78_3 {L : pj_Loc} {st : List Value} {M : pj_Mem}  : pj_step 78 (3, L, st, M) = some (6, L, .int 152 :: st, M) := st_sipush q78_3 (by decide +kernel)
theorem x78_3 {L : pj_Loc} {st : List Value} {M : pj_Mem}  {o9 : Option Value × pj_Mem} : pj_Ends 78 (3, L, st, M) o9 = pj_Ends 78 (6, L, .int 152 :: st, M) o9 := pj_xs (s78_3)
theorem q78_6 : pj_row 78 6 = some (.if_icmp .ge 21, 3, 27, 0, 0) := by decide +kernel
theorem s78_6 {L : pj_Loc} {st : List Value} {M : pj_Mem} {x y : Int32} : pj_step 78 (6, L, .int y :: .int x :: st, M) = some (if y ≤ x then 27 else 9, L, st, M) := st_icmp_ge q78_6
theorem x78_6 {L : pj_Loc} {st : List Value} {M : pj_Mem} {x y : Int32} {o9 : Option Value × pj_Mem} : pj_Ends 78 (6, L, .int y :: .int x :: st, M) o9 = pj_Ends 78 (if y ≤ x then 27 else 9, L, st, M) o9 := pj_xs (s78_6)
theorem q78_9 : pj_row 78 9 = some (.aload_n 0, 1, 0, 0, 0) := by decide +kernel
theorem s78_9 {st : List Value} {M : pj_Mem} {l : pj_Loc} {x : Nat} : pj_step 78 (9, some (.ref x) :: l, st, M) = some (10, some (.ref x) :: l, .ref x :: st, M) := st_aload_n q78_9 rfl
theorem x78_9 {st : List Value} {M : pj_Mem} {l : pj_Loc} {x : Nat} {o9 : Option Value × pj_Mem} : pj_Ends 78 (9, some (.ref x) :: l, st, M) o9 = pj_Ends 78 (10, some (.ref x) :: l, .ref x :: st, M) o9 := pj_xs (s78_9)
theorem q78_10 : pj_row 78 10 = some (.getfield 13, 3, 6, 1, 0) := by decide +kernel
theorem s78_10 {L : pj_Loc} {st : List Value} {N S : Nat} {H : pj_Heap} {o : Nat} : pj_step 78 (10, L, .ref o :: st, (N, S, H)) = pj_pv 13 L st (N, S, H) (pj_fld (H o) 6 1) := st_getfield q78_10
theorem x78_10 {L : pj_Loc} {st : List Value} {N S : Nat} {H : pj_Heap} {o : Nat} {o9 : Option Value × pj_Mem} : pj_Ends 78 (10, L, .ref o :: st, (N, S, H)) o9 = pj_then 78 o9 (pj_pv 13 L st (N, S, H) (pj_fld (H o) 6 1)) := pj_xt q78_10 rfl (pj_cl_nc rfl) (s78_10)
theorem q78_13 : pj_row 78 13 = some (.iload_n 1, 1, 0, 0, 0) := by decide +kernel
theorem s78_13 {st : List Value} {M : pj_Mem} {l : pj_Loc} {a0 : Option Value} {x : Int32} : pj_step 78 (13, a0 :: some (.int x) :: l, st, M) = some (14, a0 :: some (.int x) :: l, .int x :: st, M) := st_iload_n q78_13 rfl
theorem x78_13 {st : List Value} {M : pj_Mem} {l : pj_Loc} {a0 : Option Value} {x : Int32} {o9 : Option Value × pj_Mem} : pj_Ends 78 (13, a0 :: some (.int x) :: l, st, M) o9 = pj_Ends 78 (14, a0 :: some (.int x) :: l, .int x :: st, M) o9 := pj_xs (s78_13)
theorem q78_14 : pj_row 78 14 = some (.aload_n 0, 1, 0, 0, 0) := by decide +kernel
theorem s78_14 {st : List Value} {M : pj_Mem} {l : pj_Loc} {x : Nat} : pj_step 78 (14, some (.ref x) :: l, st, M) = some (15, some (.ref x) :: l, .ref x :: st, M) := st_aload_n q78_14 rfl
theorem x78_14 {st : List Value} {M : pj_Mem} {l : pj_Loc} {x : Nat} {o9 : Option Value × pj_Mem} : pj_Ends 78 (14, some (.ref x) :: l, st, M) o9 = pj_Ends 78 (15, some (.ref x) :: l, .ref x :: st, M) o9 := pj_xs (s78_14)
theorem q78_15 : pj_row 78 15 = some (.getfield 7, 3, 6, 0, 0) := by decide +kernel
theorem s78_15 {L : pj_Loc} {st : List Value} {N S : Nat} {H : pj_Heap} {o : Nat} : pj_step 78 (15, L, .ref o :: st, (N, S, H)) = pj_pv 18 L st (N, S, H) (pj_fld (H o) 6 0) := st_getfield q78_15
theorem x78_15 {L : pj_Loc} {st : List Value} {N S : Nat} {H : pj_Heap} {o : Nat} {o9 : Option Value × pj_Mem} : pj_Ends 78 (15, L, .ref o :: st, (N, S, H)) o9 = pj_then 78 o9 (pj_pv 18 L st (N, S, H) (pj_fld (H o) 6 0)) := pj_xt q78_15 rfl (pj_cl_nc rfl) (s78_15)
theorem q78_18 : pj_row 78 18 = some (.iload_n 1, 1, 0, 0, 0) := by decide +kernel
theorem s78_18 {st : List Value} {M : pj_Mem} {l : pj_Loc} {a0 : Option Value} {x : Int32} : pj_step 78 (18, a0 :: some (.int x) :: l, st, M) = some (19, a0 :: some (.int x) :: l, .int x :: st, M) := st_iload_n q78_18 rfl
theorem x78_18 {st : List Value} {M : pj_Mem} {l : pj_Loc} {a0 : Option Value} {x : Int32} {o9 : Option Value × pj_Mem} : pj_Ends 78 (18, a0 :: some (.int x) :: l, st, M) o9 = pj_Ends 78 (19, a0 :: some (.int x) :: l, .int x :: st, M) o9 := pj_xs (s78_18)
theorem q78_19 : pj_row 78 19 = some (.iaload, 1, 0, 0, 0) := by decide +kernel
theorem s78_19 {L : pj_Loc} {st : List Value} {N S : Nat} {H : pj_Heap} {o : Nat} {i : Int32} : pj_step 78 (19, L, .int i :: .ref o :: st, (N, S, H)) = pj_pi 20 L st (N, S, H) (pj_arl (H o) 0 i) := st_iaload q78_19
theorem x78_19 {L : pj_Loc} {st : List Value} {N S : Nat} {H : pj_Heap} {o : Nat} {i : Int32} {o9 : Option Value × pj_Mem} : pj_Ends 78 (19, L, .int i :: .ref o :: st, (N, S, H)) o9 = pj_then 78 o9 (pj_pi 20 L st (N, S, H) (pj_arl (H o) 0 i)) := pj_xt q78_19 rfl (pj_cl_nc rfl) (s78_19)
theorem q78_20 : pj_row 78 20 = some (.iastore, 1, 0, 0, 0) := by decide +kernel
theorem s78_20 {L : pj_Loc} {st : List Value} {N S : Nat} {H : pj_Heap} {o : Nat} {i x : Int32} : pj_step 78 (20, L, .int x :: .int i :: .ref o :: st, (N, S, H)) = pj_set 21 L st (N, S, H) o (pj_ars (H o) 0 i x) := st_iastore q78_20
theorem x78_20 {L : pj_Loc} {st : List Value} {N S : Nat} {H : pj_Heap} {o : Nat} {i x : Int32} {o9 : Option Value × pj_Mem} : pj_Ends 78 (20, L, .int x :: .int i :: .ref o :: st, (N, S, H)) o9 = pj_then 78 o9 (pj_set 21 L st (N, S, H) o (pj_ars (H o) 0 i x)) := pj_xt q78_20 rfl (pj_cl_nc rfl) (s78_20)
theorem q78_21 : pj_row 78 21 = some (.iinc 1 1, 3, 0, 0, 0) := by decide +kernel
theorem s78_21 {st : List Value} {M : pj_Mem} {l : pj_Loc} {a0 : Option Value} {x : Int32} (h : pj_long a0 = false) : pj_step 78 (21, a0 :: some (.int x) :: l, st, M) = some (24, a0 :: some (.int (x + 1)) :: l, st, M) := st_iinc q78_21 rfl (congrArg (fun y => x + y) (show Int32.ofInt 1 = 1 by decide +kernel)) (pj_st_1 h)
theorem x78_21 {st : List Value} {M : pj_Mem} {l : pj_Loc} {a0 : Option Value} {x : Int32} (h : pj_long a0 = false) {o9 : Option Value × pj_Mem} : pj_Ends 78 (21, a0 :: some (.int x) :: l, st, M) o9 = pj_Ends 78 (24, a0 :: some (.int (x + 1)) :: l, st, M) o9 := pj_xs (s78_21 h)
theorem q78_24 : pj_row 78 24 = some (.goto (-22), 3, 2, 0, 0) := by decide +kernel
theorem s78_24 {L : pj_Loc} {st : List Value} {M : pj_Mem}  : pj_step 78 (24, L, st, M) = some (2, L, st, M) := st_goto q78_24
theorem x78_24 {L : pj_Loc} {st : List Value} {M : pj_Mem}  {o9 : Option Value × pj_Mem} : pj_Ends 78 (24, L, st, M) o9 = pj_Ends 78 (2, L, st, M) o9 := pj_xs (s78_24)
theorem q78_27 : pj_row 78 27 = some (.return_, 1, 0, 0, 0) := by decide +kernel
theorem t78_27 {L : pj_Loc} {M : pj_Mem} : pj_Ends 78 (27, L, [], M) (none, M) := pj_Ends.ret q78_27 (pj_rtn_v rt78)
theorem rt79 : pj_rt 79 = some .int := rfl
theorem q79_0 : pj_row 79 0 = some (.aload_n 0, 1, 0, 0, 0) := by decide +kernel
theorem s79_0 {st : List Value} {M : pj_Mem} {l : pj_Loc} {x : Nat} : pj_step 79 (0, some (.ref x) :: l, st, M) = some (1, some (.ref x) :: l, .ref x :: st, M) := st_aload_n q79_0 rfl
theorem x79_0 {st : List Value} {M : pj_Mem} {l : pj_Loc} {x : Nat} {o9 : Option Value × pj_Mem} : pj_Ends 79 (0, some (.ref x) :: l, st, M) o9 = pj_Ends 79 (1, some (.ref x) :: l, .ref x :: st, M) o9 := pj_xs (s79_0)
theorem q79_1 : pj_row 79 1 = some (.getfield 34, 3, 6, 3, 0) := by decide +kernel
theorem s79_1 {L : pj_Loc} {st : List Value} {N S : Nat} {H : pj_Heap} {o : Nat} : pj_step 79 (1, L, .ref o :: st, (N, S, H)) = pj_pv 4 L st (N, S, H) (pj_fld (H o) 6 3) := st_getfield q79_1
theorem x79_1 {L : pj_Loc} {st : List Value} {N S : Nat} {H : pj_Heap} {o : Nat} {o9 : Option Value × pj_Mem} : pj_Ends 79 (1, L, .ref o :: st, (N, S, H)) o9 = pj_then 79 o9 (pj_pv 4 L st (N, S, H) (pj_fld (H o) 6 3)) := pj_xt q79_1 rfl (pj_cl_nc rfl) (s79_1)
theorem q79_4 : pj_row 79 4 = some (.bipush 6, 2, 0, 0, 0) := by decide +kernel
theorem s79_4 {L : pj_Loc} {st : List Value} {M : pj_Mem}  : pj_step 79 (4, L, st, M) = some (6, L, .int 6 :: st, M) := st_bipush q79_4 (by decide +kernel)
theorem x79_4 {L : pj_Loc} {st : List Value} {M : pj_Mem}  {o9 : Option Value × pj_Mem} : pj_Ends 79 (4, L, st, M) o9 = pj_Ends 79 (6, L, .int 6 :: st, M) o9 := pj_xs (s79_4)
theorem q79_6 : pj_row 79 6 = some (.if_icmp .ne 44, 3, 50, 0, 0) := by decide +kernel
theorem s79_6 {L : pj_Loc} {st : List Value} {M : pj_Mem} {x y : Int32} : pj_step 79 (6, L, .int y :: .int x :: st, M) = some (if ¬ x = y then 50 else 9, L, st, M) := st_icmp_ne q79_6
theorem x79_6 {L : pj_Loc} {st : List Value} {M : pj_Mem} {x y : Int32} {o9 : Option Value × pj_Mem} : pj_Ends 79 (6, L, .int y :: .int x :: st, M) o9 = pj_Ends 79 (if ¬ x = y then 50 else 9, L, st, M) o9 := pj_xs (s79_6)
theorem q79_9 : pj_row 79 9 = some (.iconst 0, 1, 0, 0, 0) := by decide +kernel
theorem s79_9 {L : pj_Loc} {st : List Value} {M : pj_Mem}  : pj_step 79 (9, L, st, M) = some (10, L, .int 0 :: st, M) := st_iconst q79_9 (by decide +kernel)
theorem x79_9 {L : pj_Loc} {st : List Value} {M : pj_Mem}  {o9 : Option Value × pj_Mem} : pj_Ends 79 (9, L, st, M) o9 = pj_Ends 79 (10, L, .int 0 :: st, M) o9 := pj_xs (s79_9)
theorem q79_10 : pj_row 79 10 = some (.istore_n 2, 1, 0, 0, 0) := by decide +kernel
theorem s79_10 {st : List Value} {M : pj_Mem} {l : pj_Loc} {a0 a1 a2 : Option Value} {x : Int32} (h : pj_long a1 = false) : pj_step 79 (10, a0 :: a1 :: a2 :: l, .int x :: st, M) = some (11, a0 :: a1 :: some (.int x) :: l, st, M) := st_istore_n q79_10 (pj_st_2 h)
theorem x79_10 {st : List Value} {M : pj_Mem} {l : pj_Loc} {a0 a1 a2 : Option Value} {x : Int32} (h : pj_long a1 = false) {o9 : Option Value × pj_Mem} : pj_Ends 79 (10, a0 :: a1 :: a2 :: l, .int x :: st, M) o9 = pj_Ends 79 (11, a0 :: a1 :: some (.int x) :: l, st, M) o9 := pj_xs (s79_10 h)
theorem q79_11 : pj_row 79 11 = some (.iload_n 2, 1, 0, 0, 0) := by decide +kernel
theorem s79_11 {st : List Value} {M : pj_Mem} {l : pj_Loc} {a0 a1 : Option Value} {x : Int32} : pj_step 79 (11, a0 :: a1 :: some (.int x) :: l, st, M) = some (12, a0 :: a1 :: some (.int x) :: l, .int x :: st, M) := st_iload_n q79_11 rfl
theorem x79_11 {st : List Value} {M : pj_Mem} {l : pj_Loc} {a0 a1 : Option Value} {x : Int32} {o9 : Option Value × pj_Mem} : pj_Ends 79 (11, a0 :: a1 :: some (.int x) :: l, st, M) o9 = pj_Ends 79 (12, a0 :: a1 :: some (.int x) :: l, .int x :: st, M) o9 := pj_xs (s79_11)
theorem q79_12 : pj_row 79 12 = some (.sipush 760, 3, 0, 0, 0) := by decide +kernel
theorem s79_12 {L : pj_Loc} {st : List Value} {M : pj_Mem}  : pj_step 79 (12, L, st, M) = some (15, L, .int 760 :: st, M) := st_sipush q79_12 (by decide +kernel)
theorem x79_12 {L : pj_Loc} {st : List Value} {M : pj_Mem}  {o9 : Option Value × pj_Mem} : pj_Ends 79 (12, L, st, M) o9 = pj_Ends 79 (15, L, .int 760 :: st, M) o9 := pj_xs (s79_12)
theorem q79_15 : pj_row 79 15 = some (.if_icmp .ge 25, 3, 40, 0, 0) := by decide +kernel
theorem s79_15 {L : pj_Loc} {st : List Value} {M : pj_Mem} {x y : Int32} : pj_step 79 (15, L, .int y :: .int x :: st, M) = some (if y ≤ x then 40 else 18, L, st, M) := st_icmp_ge q79_15
theorem x79_15 {L : pj_Loc} {st : List Value} {M : pj_Mem} {x y : Int32} {o9 : Option Value × pj_Mem} : pj_Ends 79 (15, L, .int y :: .int x :: st, M) o9 = pj_Ends 79 (if y ≤ x then 40 else 18, L, st, M) o9 := pj_xs (s79_15)
theorem q79_18 : pj_row 79 18 = some (.aload_n 0, 1, 0, 0, 0) := by decide +kernel
theorem s79_18 {st : List Value} {M : pj_Mem} {l : pj_Loc} {x : Nat} : pj_step 79 (18, some (.ref x) :: l, st, M) = some (19, some (.ref x) :: l, .ref x :: st, M) := st_aload_n q79_18 rfl
theorem x79_18 {st : List Value} {M : pj_Mem} {l : pj_Loc} {x : Nat} {o9 : Option Value × pj_Mem} : pj_Ends 79 (18, some (.ref x) :: l, st, M) o9 = pj_Ends 79 (19, some (.ref x) :: l, .ref x :: st, M) o9 := pj_xs (s79_18)
theorem q79_19 : pj_row 79 19 = some (.getfield 16, 3, 6, 2, 0) := by decide +kernel
theorem s79_19 {L : pj_Loc} {st : List Value} {N S : Nat} {H : pj_Heap} {o : Nat} : pj_step 79 (19, L, .ref o :: st, (N, S, H)) = pj_pv 22 L st (N, S, H) (pj_fld (H o) 6 2) := st_getfield q79_19
theorem x79_19 {L : pj_Loc} {st : List Value} {N S : Nat} {H : pj_Heap} {o : Nat} {o9 : Option Value × pj_Mem} : pj_Ends 79 (19, L, .ref o :: st, (N, S, H)) o9 = pj_then 79 o9 (pj_pv 22 L st (N, S, H) (pj_fld (H o) 6 2)) := pj_xt q79_19 rfl (pj_cl_nc rfl) (s79_19)
theorem q79_22 : pj_row 79 22 = some (.iload_n 2, 1, 0, 0, 0) := by decide +kernel
theorem s79_22 {st : List Value} {M : pj_Mem} {l : pj_Loc} {a0 a1 : Option Value} {x : Int32} : pj_step 79 (22, a0 :: a1 :: some (.int x) :: l, st, M) = some (23, a0 :: a1 :: some (.int x) :: l, .int x :: st, M) := st_iload_n q79_22 rfl
theorem x79_22 {st : List Value} {M : pj_Mem} {l : pj_Loc} {a0 a1 : Option Value} {x : Int32} {o9 : Option Value × pj_Mem} : pj_Ends 79 (22, a0 :: a1 :: some (.int x) :: l, st, M) o9 = pj_Ends 79 (23, a0 :: a1 :: some (.int x) :: l, .int x :: st, M) o9 := pj_xs (s79_22)
theorem q79_23 : pj_row 79 23 = some (.aload_n 0, 1, 0, 0, 0) := by decide +kernel
theorem s79_23 {st : List Value} {M : pj_Mem} {l : pj_Loc} {x : Nat} : pj_step 79 (23, some (.ref x) :: l, st, M) = some (24, some (.ref x) :: l, .ref x :: st, M) := st_aload_n q79_23 rfl
theorem x79_23 {st : List Value} {M : pj_Mem} {l : pj_Loc} {x : Nat} {o9 : Option Value × pj_Mem} : pj_Ends 79 (23, some (.ref x) :: l, st, M) o9 = pj_Ends 79 (24, some (.ref x) :: l, .ref x :: st, M) o9 := pj_xs (s79_23)
theorem q79_24 : pj_row 79 24 = some (.getfield 16, 3, 6, 2, 0) := by decide +kernel
theorem s79_24 {L : pj_Loc} {st : List Value} {N S : Nat} {H : pj_Heap} {o : Nat} : pj_step 79 (24, L, .ref o :: st, (N, S, H)) = pj_pv 27 L st (N, S, H) (pj_fld (H o) 6 2) := st_getfield q79_24
theorem x79_24 {L : pj_Loc} {st : List Value} {N S : Nat} {H : pj_Heap} {o : Nat} {o9 : Option Value × pj_Mem} : pj_Ends 79 (24, L, .ref o :: st, (N, S, H)) o9 = pj_then 79 o9 (pj_pv 27 L st (N, S, H) (pj_fld (H o) 6 2)) := pj_xt q79_24 rfl (pj_cl_nc rfl) (s79_24)
theorem q79_27 : pj_row 79 27 = some (.iload_n 2, 1, 0, 0, 0) := by decide +kernel
theorem s79_27 {st : List Value} {M : pj_Mem} {l : pj_Loc} {a0 a1 : Option Value} {x : Int32} : pj_step 79 (27, a0 :: a1 :: some (.int x) :: l, st, M) = some (28, a0 :: a1 :: some (.int x) :: l, .int x :: st, M) := st_iload_n q79_27 rfl
theorem x79_27 {st : List Value} {M : pj_Mem} {l : pj_Loc} {a0 a1 : Option Value} {x : Int32} {o9 : Option Value × pj_Mem} : pj_Ends 79 (27, a0 :: a1 :: some (.int x) :: l, st, M) o9 = pj_Ends 79 (28, a0 :: a1 :: some (.int x) :: l, .int x :: st, M) o9 := pj_xs (s79_27)
theorem q79_28 : pj_row 79 28 = some (.sipush 152, 3, 0, 0, 0) := by decide +kernel
theorem s79_28 {L : pj_Loc} {st : List Value} {M : pj_Mem}  : pj_step 79 (28, L, st, M) = some (31, L, .int 152 :: st, M) := st_sipush q79_28 (by decide +kernel)
theorem x79_28 {L : pj_Loc} {st : List Value} {M : pj_Mem}  {o9 : Option Value × pj_Mem} : pj_Ends 79 (28, L, st, M) o9 = pj_Ends 79 (31, L, .int 152 :: st, M) o9 := pj_xs (s79_28)
theorem q79_31 : pj_row 79 31 = some (.iadd, 1, 0, 0, 0) := by decide +kernel
theorem s79_31 {L : pj_Loc} {st : List Value} {M : pj_Mem} {x y : Int32} : pj_step 79 (31, L, .int y :: .int x :: st, M) = some (32, L, .int (x + y) :: st, M) := st_iadd q79_31
theorem x79_31 {L : pj_Loc} {st : List Value} {M : pj_Mem} {x y : Int32} {o9 : Option Value × pj_Mem} : pj_Ends 79 (31, L, .int y :: .int x :: st, M) o9 = pj_Ends 79 (32, L, .int (x + y) :: st, M) o9 := pj_xs (s79_31)
theorem q79_32 : pj_row 79 32 = some (.iaload, 1, 0, 0, 0) := by decide +kernel
theorem s79_32 {L : pj_Loc} {st : List Value} {N S : Nat} {H : pj_Heap} {o : Nat} {i : Int32} : pj_step 79 (32, L, .int i :: .ref o :: st, (N, S, H)) = pj_pi 33 L st (N, S, H) (pj_arl (H o) 0 i) := st_iaload q79_32
theorem x79_32 {L : pj_Loc} {st : List Value} {N S : Nat} {H : pj_Heap} {o : Nat} {i : Int32} {o9 : Option Value × pj_Mem} : pj_Ends 79 (32, L, .int i :: .ref o :: st, (N, S, H)) o9 = pj_then 79 o9 (pj_pi 33 L st (N, S, H) (pj_arl (H o) 0 i)) := pj_xt q79_32 rfl (pj_cl_nc rfl) (s79_32)
theorem q79_33 : pj_row 79 33 = some (.iastore, 1, 0, 0, 0) := by decide +kernel
theorem s79_33 {L : pj_Loc} {st : List Value} {N S : Nat} {H : pj_Heap} {o : Nat} {i x : Int32} : pj_step 79 (33, L, .int x :: .int i :: .ref o :: st, (N, S, H)) = pj_set 34 L st (N, S, H) o (pj_ars (H o) 0 i x) := st_iastore q79_33
theorem x79_33 {L : pj_Loc} {st : List Value} {N S : Nat} {H : pj_Heap} {o : Nat} {i x : Int32} {o9 : Option Value × pj_Mem} : pj_Ends 79 (33, L, .int x :: .int i :: .ref o :: st, (N, S, H)) o9 = pj_then 79 o9 (pj_set 34 L st (N, S, H) o (pj_ars (H o) 0 i x)) := pj_xt q79_33 rfl (pj_cl_nc rfl) (s79_33)
theorem q79_34 : pj_row 79 34 = some (.iinc 2 1, 3, 0, 0, 0) := by decide +kernel
theorem s79_34 {st : List Value} {M : pj_Mem} {l : pj_Loc} {a0 a1 : Option Value} {x : Int32} (h : pj_long a1 = false) : pj_step 79 (34, a0 :: a1 :: some (.int x) :: l, st, M) = some (37, a0 :: a1 :: some (.int (x + 1)) :: l, st, M) := st_iinc q79_34 rfl (congrArg (fun y => x + y) (show Int32.ofInt 1 = 1 by decide +kernel)) (pj_st_2 h)
theorem x79_34 {st : List Value} {M : pj_Mem} {l : pj_Loc} {a0 a1 : Option Value} {x : Int32} (h : pj_long a1 = false) {o9 : Option Value × pj_Mem} : pj_Ends 79 (34, a0 :: a1 :: some (.int x) :: l, st, M) o9 = pj_Ends 79 (37, a0 :: a1 :: some (.int (x + 1)) :: l, st, M) o9 := pj_xs (s79_34 h)
theorem q79_37 : pj_row 79 37 = some (.goto (-26), 3, 11, 0, 0) := by decide +kernel
theorem s79_37 {L : pj_Loc} {st : List Value} {M : pj_Mem}  : pj_step 79 (37, L, st, M) = some (11, L, st, M) := st_goto q79_37
theorem x79_37 {L : pj_Loc} {st : List Value} {M : pj_Mem}  {o9 : Option Value × pj_Mem} : pj_Ends 79 (37, L, st, M) o9 = pj_Ends 79 (11, L, st, M) o9 := pj_xs (s79_37)
theorem q79_40 : pj_row 79 40 = some (.aload_n 0, 1, 0, 0, 0) := by decide +kernel
theorem s79_40 {st : List Value} {M : pj_Mem} {l : pj_Loc} {x : Nat} : pj_step 79 (40, some (.ref x) :: l, st, M) = some (41, some (.ref x) :: l, .ref x :: st, M) := st_aload_n q79_40 rfl
theorem x79_40 {st : List Value} {M : pj_Mem} {l : pj_Loc} {x : Nat} {o9 : Option Value × pj_Mem} : pj_Ends 79 (40, some (.ref x) :: l, st, M) o9 = pj_Ends 79 (41, some (.ref x) :: l, .ref x :: st, M) o9 := pj_xs (s79_40)
theorem q79_41 : pj_row 79 41 = some (.dup, 1, 0, 0, 0) := by decide +kernel
theorem s79_41 {L : pj_Loc} {st : List Value} {M : pj_Mem} {x : Nat} : pj_step 79 (41, L, .ref x :: st, M) = some (42, L, .ref x :: .ref x :: st, M) := st_dup_ref q79_41
theorem x79_41 {L : pj_Loc} {st : List Value} {M : pj_Mem} {x : Nat} {o9 : Option Value × pj_Mem} : pj_Ends 79 (41, L, .ref x :: st, M) o9 = pj_Ends 79 (42, L, .ref x :: .ref x :: st, M) o9 := pj_xs (s79_41)
theorem s79_41i {L : pj_Loc} {st : List Value} {M : pj_Mem} {x : Int32} : pj_step 79 (41, L, .int x :: st, M) = some (42, L, .int x :: .int x :: st, M) := st_dup_int q79_41
theorem x79_41i {L : pj_Loc} {st : List Value} {M : pj_Mem} {x : Int32} {o9 : Option Value × pj_Mem} : pj_Ends 79 (41, L, .int x :: st, M) o9 = pj_Ends 79 (42, L, .int x :: .int x :: st, M) o9 := pj_xs (s79_41i)
theorem q79_42 : pj_row 79 42 = some (.getfield 34, 3, 6, 3, 0) := by decide +kernel
theorem s79_42 {L : pj_Loc} {st : List Value} {N S : Nat} {H : pj_Heap} {o : Nat} : pj_step 79 (42, L, .ref o :: st, (N, S, H)) = pj_pv 45 L st (N, S, H) (pj_fld (H o) 6 3) := st_getfield q79_42
theorem x79_42 {L : pj_Loc} {st : List Value} {N S : Nat} {H : pj_Heap} {o : Nat} {o9 : Option Value × pj_Mem} : pj_Ends 79 (42, L, .ref o :: st, (N, S, H)) o9 = pj_then 79 o9 (pj_pv 45 L st (N, S, H) (pj_fld (H o) 6 3)) := pj_xt q79_42 rfl (pj_cl_nc rfl) (s79_42)
theorem q79_45 : pj_row 79 45 = some (.iconst 1, 1, 0, 0, 0) := by decide +kernel
theorem s79_45 {L : pj_Loc} {st : List Value} {M : pj_Mem}  : pj_step 79 (45, L, st, M) = some (46, L, .int 1 :: st, M) := st_iconst q79_45 (by decide +kernel)
theorem x79_45 {L : pj_Loc} {st : List Value} {M : pj_Mem}  {o9 : Option Value × pj_Mem} : pj_Ends 79 (45, L, st, M) o9 = pj_Ends 79 (46, L, .int 1 :: st, M) o9 := pj_xs (s79_45)
theorem q79_46 : pj_row 79 46 = some (.isub, 1, 0, 0, 0) := by decide +kernel
theorem s79_46 {L : pj_Loc} {st : List Value} {M : pj_Mem} {x y : Int32} : pj_step 79 (46, L, .int y :: .int x :: st, M) = some (47, L, .int (x - y) :: st, M) := st_isub q79_46
theorem x79_46 {L : pj_Loc} {st : List Value} {M : pj_Mem} {x y : Int32} {o9 : Option Value × pj_Mem} : pj_Ends 79 (46, L, .int y :: .int x :: st, M) o9 = pj_Ends 79 (47, L, .int (x - y) :: st, M) o9 := pj_xs (s79_46)
theorem q79_47 : pj_row 79 47 = some (.putfield 34, 3, 6, 3, 0) := by decide +kernel
theorem s79_47 {L : pj_Loc} {st : List Value} {N S : Nat} {H : pj_Heap} {o : Nat} {v : Value} : pj_step 79 (47, L, v :: .ref o :: st, (N, S, H)) = pj_set 50 L st (N, S, H) o (pj_fset (H o) 6 3 v) := st_putfield q79_47
theorem x79_47 {L : pj_Loc} {st : List Value} {N S : Nat} {H : pj_Heap} {o : Nat} {v : Value} {o9 : Option Value × pj_Mem} : pj_Ends 79 (47, L, v :: .ref o :: st, (N, S, H)) o9 = pj_then 79 o9 (pj_set 50 L st (N, S, H) o (pj_fset (H o) 6 3 v)) := pj_xt q79_47 rfl (pj_cl_nc rfl) (s79_47)
theorem q79_50 : pj_row 79 50 = some (.iconst 0, 1, 0, 0, 0) := by decide +kernel
theorem s79_50 {L : pj_Loc} {st : List Value} {M : pj_Mem}  : pj_step 79 (50, L, st, M) = some (51, L, .int 0 :: st, M) := st_iconst q79_50 (by decide +kernel)
theorem x79_50 {L : pj_Loc} {st : List Value} {M : pj_Mem}  {o9 : Option Value × pj_Mem} : pj_Ends 79 (50, L, st, M) o9 = pj_Ends 79 (51, L, .int 0 :: st, M) o9 := pj_xs (s79_50)
theorem q79_51 : pj_row 79 51 = some (.istore_n 2, 1, 0, 0, 0) := by decide +kernel
theorem s79_51 {st : List Value} {M : pj_Mem} {l : pj_Loc} {a0 a1 a2 : Option Value} {x : Int32} (h : pj_long a1 = false) : pj_step 79 (51, a0 :: a1 :: a2 :: l, .int x :: st, M) = some (52, a0 :: a1 :: some (.int x) :: l, st, M) := st_istore_n q79_51 (pj_st_2 h)
theorem x79_51 {st : List Value} {M : pj_Mem} {l : pj_Loc} {a0 a1 a2 : Option Value} {x : Int32} (h : pj_long a1 = false) {o9 : Option Value × pj_Mem} : pj_Ends 79 (51, a0 :: a1 :: a2 :: l, .int x :: st, M) o9 = pj_Ends 79 (52, a0 :: a1 :: some (.int x) :: l, st, M) o9 := pj_xs (s79_51 h)
theorem q79_52 : pj_row 79 52 = some (.iload_n 2, 1, 0, 0, 0) := by decide +kernel
theorem s79_52 {st : List Value} {M : pj_Mem} {l : pj_Loc} {a0 a1 : Option Value} {x : Int32} : pj_step 79 (52, a0 :: a1 :: some (.int x) :: l, st, M) = some (53, a0 :: a1 :: some (.int x) :: l, .int x :: st, M) := st_iload_n q79_52 rfl
theorem x79_52 {st : List Value} {M : pj_Mem} {l : pj_Loc} {a0 a1 : Option Value} {x : Int32} {o9 : Option Value × pj_Mem} : pj_Ends 79 (52, a0 :: a1 :: some (.int x) :: l, st, M) o9 = pj_Ends 79 (53, a0 :: a1 :: some (.int x) :: l, .int x :: st, M) o9 := pj_xs (s79_52)
theorem q79_53 : pj_row 79 53 = some (.sipush 152, 3, 0, 0, 0) := by decide +kernel
theorem s79_53 {L : pj_Loc} {st : List Value} {M : pj_Mem}  : pj_step 79 (53, L, st, M) = some (56, L, .int 152 :: st, M) := st_sipush q79_53 (by decide +kernel)
theorem x79_53 {L : pj_Loc} {st : List Value} {M : pj_Mem}  {o9 : Option Value × pj_Mem} : pj_Ends 79 (53, L, st, M) o9 = pj_Ends 79 (56, L, .int 152 :: st, M) o9 := pj_xs (s79_53)
theorem q79_56 : pj_row 79 56 = some (.if_icmp .ge 30, 3, 86, 0, 0) := by decide +kernel
theorem s79_56 {L : pj_Loc} {st : List Value} {M : pj_Mem} {x y : Int32} : pj_step 79 (56, L, .int y :: .int x :: st, M) = some (if y ≤ x then 86 else 59, L, st, M) := st_icmp_ge q79_56
theorem x79_56 {L : pj_Loc} {st : List Value} {M : pj_Mem} {x y : Int32} {o9 : Option Value × pj_Mem} : pj_Ends 79 (56, L, .int y :: .int x :: st, M) o9 = pj_Ends 79 (if y ≤ x then 86 else 59, L, st, M) o9 := pj_xs (s79_56)
theorem q79_59 : pj_row 79 59 = some (.aload_n 0, 1, 0, 0, 0) := by decide +kernel
theorem s79_59 {st : List Value} {M : pj_Mem} {l : pj_Loc} {x : Nat} : pj_step 79 (59, some (.ref x) :: l, st, M) = some (60, some (.ref x) :: l, .ref x :: st, M) := st_aload_n q79_59 rfl
theorem x79_59 {st : List Value} {M : pj_Mem} {l : pj_Loc} {x : Nat} {o9 : Option Value × pj_Mem} : pj_Ends 79 (59, some (.ref x) :: l, st, M) o9 = pj_Ends 79 (60, some (.ref x) :: l, .ref x :: st, M) o9 := pj_xs (s79_59)
theorem q79_60 : pj_row 79 60 = some (.getfield 16, 3, 6, 2, 0) := by decide +kernel
theorem s79_60 {L : pj_Loc} {st : List Value} {N S : Nat} {H : pj_Heap} {o : Nat} : pj_step 79 (60, L, .ref o :: st, (N, S, H)) = pj_pv 63 L st (N, S, H) (pj_fld (H o) 6 2) := st_getfield q79_60
theorem x79_60 {L : pj_Loc} {st : List Value} {N S : Nat} {H : pj_Heap} {o : Nat} {o9 : Option Value × pj_Mem} : pj_Ends 79 (60, L, .ref o :: st, (N, S, H)) o9 = pj_then 79 o9 (pj_pv 63 L st (N, S, H) (pj_fld (H o) 6 2)) := pj_xt q79_60 rfl (pj_cl_nc rfl) (s79_60)
theorem q79_63 : pj_row 79 63 = some (.sipush 152, 3, 0, 0, 0) := by decide +kernel
theorem s79_63 {L : pj_Loc} {st : List Value} {M : pj_Mem}  : pj_step 79 (63, L, st, M) = some (66, L, .int 152 :: st, M) := st_sipush q79_63 (by decide +kernel)
theorem x79_63 {L : pj_Loc} {st : List Value} {M : pj_Mem}  {o9 : Option Value × pj_Mem} : pj_Ends 79 (63, L, st, M) o9 = pj_Ends 79 (66, L, .int 152 :: st, M) o9 := pj_xs (s79_63)
theorem q79_66 : pj_row 79 66 = some (.aload_n 0, 1, 0, 0, 0) := by decide +kernel
theorem s79_66 {st : List Value} {M : pj_Mem} {l : pj_Loc} {x : Nat} : pj_step 79 (66, some (.ref x) :: l, st, M) = some (67, some (.ref x) :: l, .ref x :: st, M) := st_aload_n q79_66 rfl
theorem x79_66 {st : List Value} {M : pj_Mem} {l : pj_Loc} {x : Nat} {o9 : Option Value × pj_Mem} : pj_Ends 79 (66, some (.ref x) :: l, st, M) o9 = pj_Ends 79 (67, some (.ref x) :: l, .ref x :: st, M) o9 := pj_xs (s79_66)
theorem q79_67 : pj_row 79 67 = some (.getfield 34, 3, 6, 3, 0) := by decide +kernel
theorem s79_67 {L : pj_Loc} {st : List Value} {N S : Nat} {H : pj_Heap} {o : Nat} : pj_step 79 (67, L, .ref o :: st, (N, S, H)) = pj_pv 70 L st (N, S, H) (pj_fld (H o) 6 3) := st_getfield q79_67
theorem x79_67 {L : pj_Loc} {st : List Value} {N S : Nat} {H : pj_Heap} {o : Nat} {o9 : Option Value × pj_Mem} : pj_Ends 79 (67, L, .ref o :: st, (N, S, H)) o9 = pj_then 79 o9 (pj_pv 70 L st (N, S, H) (pj_fld (H o) 6 3)) := pj_xt q79_67 rfl (pj_cl_nc rfl) (s79_67)
theorem q79_70 : pj_row 79 70 = some (.imul, 1, 0, 0, 0) := by decide +kernel
theorem s79_70 {L : pj_Loc} {st : List Value} {M : pj_Mem} {x y : Int32} : pj_step 79 (70, L, .int y :: .int x :: st, M) = some (71, L, .int (x * y) :: st, M) := st_imul q79_70
theorem x79_70 {L : pj_Loc} {st : List Value} {M : pj_Mem} {x y : Int32} {o9 : Option Value × pj_Mem} : pj_Ends 79 (70, L, .int y :: .int x :: st, M) o9 = pj_Ends 79 (71, L, .int (x * y) :: st, M) o9 := pj_xs (s79_70)
theorem q79_71 : pj_row 79 71 = some (.iload_n 2, 1, 0, 0, 0) := by decide +kernel
theorem s79_71 {st : List Value} {M : pj_Mem} {l : pj_Loc} {a0 a1 : Option Value} {x : Int32} : pj_step 79 (71, a0 :: a1 :: some (.int x) :: l, st, M) = some (72, a0 :: a1 :: some (.int x) :: l, .int x :: st, M) := st_iload_n q79_71 rfl
theorem x79_71 {st : List Value} {M : pj_Mem} {l : pj_Loc} {a0 a1 : Option Value} {x : Int32} {o9 : Option Value × pj_Mem} : pj_Ends 79 (71, a0 :: a1 :: some (.int x) :: l, st, M) o9 = pj_Ends 79 (72, a0 :: a1 :: some (.int x) :: l, .int x :: st, M) o9 := pj_xs (s79_71)
theorem q79_72 : pj_row 79 72 = some (.iadd, 1, 0, 0, 0) := by decide +kernel
theorem s79_72 {L : pj_Loc} {st : List Value} {M : pj_Mem} {x y : Int32} : pj_step 79 (72, L, .int y :: .int x :: st, M) = some (73, L, .int (x + y) :: st, M) := st_iadd q79_72
theorem x79_72 {L : pj_Loc} {st : List Value} {M : pj_Mem} {x y : Int32} {o9 : Option Value × pj_Mem} : pj_Ends 79 (72, L, .int y :: .int x :: st, M) o9 = pj_Ends 79 (73, L, .int (x + y) :: st, M) o9 := pj_xs (s79_72)
theorem q79_73 : pj_row 79 73 = some (.aload_n 0, 1, 0, 0, 0) := by decide +kernel
theorem s79_73 {st : List Value} {M : pj_Mem} {l : pj_Loc} {x : Nat} : pj_step 79 (73, some (.ref x) :: l, st, M) = some (74, some (.ref x) :: l, .ref x :: st, M) := st_aload_n q79_73 rfl
theorem x79_73 {st : List Value} {M : pj_Mem} {l : pj_Loc} {x : Nat} {o9 : Option Value × pj_Mem} : pj_Ends 79 (73, some (.ref x) :: l, st, M) o9 = pj_Ends 79 (74, some (.ref x) :: l, .ref x :: st, M) o9 := pj_xs (s79_73)
theorem q79_74 : pj_row 79 74 = some (.getfield 13, 3, 6, 1, 0) := by decide +kernel
theorem s79_74 {L : pj_Loc} {st : List Value} {N S : Nat} {H : pj_Heap} {o : Nat} : pj_step 79 (74, L, .ref o :: st, (N, S, H)) = pj_pv 77 L st (N, S, H) (pj_fld (H o) 6 1) := st_getfield q79_74
theorem x79_74 {L : pj_Loc} {st : List Value} {N S : Nat} {H : pj_Heap} {o : Nat} {o9 : Option Value × pj_Mem} : pj_Ends 79 (74, L, .ref o :: st, (N, S, H)) o9 = pj_then 79 o9 (pj_pv 77 L st (N, S, H) (pj_fld (H o) 6 1)) := pj_xt q79_74 rfl (pj_cl_nc rfl) (s79_74)
theorem q79_77 : pj_row 79 77 = some (.iload_n 2, 1, 0, 0, 0) := by decide +kernel
theorem s79_77 {st : List Value} {M : pj_Mem} {l : pj_Loc} {a0 a1 : Option Value} {x : Int32} : pj_step 79 (77, a0 :: a1 :: some (.int x) :: l, st, M) = some (78, a0 :: a1 :: some (.int x) :: l, .int x :: st, M) := st_iload_n q79_77 rfl
theorem x79_77 {st : List Value} {M : pj_Mem} {l : pj_Loc} {a0 a1 : Option Value} {x : Int32} {o9 : Option Value × pj_Mem} : pj_Ends 79 (77, a0 :: a1 :: some (.int x) :: l, st, M) o9 = pj_Ends 79 (78, a0 :: a1 :: some (.int x) :: l, .int x :: st, M) o9 := pj_xs (s79_77)
theorem q79_78 : pj_row 79 78 = some (.iaload, 1, 0, 0, 0) := by decide +kernel
theorem s79_78 {L : pj_Loc} {st : List Value} {N S : Nat} {H : pj_Heap} {o : Nat} {i : Int32} : pj_step 79 (78, L, .int i :: .ref o :: st, (N, S, H)) = pj_pi 79 L st (N, S, H) (pj_arl (H o) 0 i) := st_iaload q79_78
theorem x79_78 {L : pj_Loc} {st : List Value} {N S : Nat} {H : pj_Heap} {o : Nat} {i : Int32} {o9 : Option Value × pj_Mem} : pj_Ends 79 (78, L, .int i :: .ref o :: st, (N, S, H)) o9 = pj_then 79 o9 (pj_pi 79 L st (N, S, H) (pj_arl (H o) 0 i)) := pj_xt q79_78 rfl (pj_cl_nc rfl) (s79_78)
theorem q79_79 : pj_row 79 79 = some (.iastore, 1, 0, 0, 0) := by decide +kernel
theorem s79_79 {L : pj_Loc} {st : List Value} {N S : Nat} {H : pj_Heap} {o : Nat} {i x : Int32} : pj_step 79 (79, L, .int x :: .int i :: .ref o :: st, (N, S, H)) = pj_set 80 L st (N, S, H) o (pj_ars (H o) 0 i x) := st_iastore q79_79
theorem x79_79 {L : pj_Loc} {st : List Value} {N S : Nat} {H : pj_Heap} {o : Nat} {i x : Int32} {o9 : Option Value × pj_Mem} : pj_Ends 79 (79, L, .int x :: .int i :: .ref o :: st, (N, S, H)) o9 = pj_then 79 o9 (pj_set 80 L st (N, S, H) o (pj_ars (H o) 0 i x)) := pj_xt q79_79 rfl (pj_cl_nc rfl) (s79_79)
theorem q79_80 : pj_row 79 80 = some (.iinc 2 1, 3, 0, 0, 0) := by decide +kernel
theorem s79_80 {st : List Value} {M : pj_Mem} {l : pj_Loc} {a0 a1 : Option Value} {x : Int32} (h : pj_long a1 = false) : pj_step 79 (80, a0 :: a1 :: some (.int x) :: l, st, M) = some (83, a0 :: a1 :: some (.int (x + 1)) :: l, st, M) := st_iinc q79_80 rfl (congrArg (fun y => x + y) (show Int32.ofInt 1 = 1 by decide +kernel)) (pj_st_2 h)
theorem x79_80 {st : List Value} {M : pj_Mem} {l : pj_Loc} {a0 a1 : Option Value} {x : Int32} (h : pj_long a1 = false) {o9 : Option Value × pj_Mem} : pj_Ends 79 (80, a0 :: a1 :: some (.int x) :: l, st, M) o9 = pj_Ends 79 (83, a0 :: a1 :: some (.int (x + 1)) :: l, st, M) o9 := pj_xs (s79_80 h)
theorem q79_83 : pj_row 79 83 = some (.goto (-31), 3, 52, 0, 0) := by decide +kernel
theorem s79_83 {L : pj_Loc} {st : List Value} {M : pj_Mem}  : pj_step 79 (83, L, st, M) = some (52, L, st, M) := st_goto q79_83
theorem x79_83 {L : pj_Loc} {st : List Value} {M : pj_Mem}  {o9 : Option Value × pj_Mem} : pj_Ends 79 (83, L, st, M) o9 = pj_Ends 79 (52, L, st, M) o9 := pj_xs (s79_83)
theorem q79_86 : pj_row 79 86 = some (.aload_n 0, 1, 0, 0, 0) := by decide +kernel
theorem s79_86 {st : List Value} {M : pj_Mem} {l : pj_Loc} {x : Nat} : pj_step 79 (86, some (.ref x) :: l, st, M) = some (87, some (.ref x) :: l, .ref x :: st, M) := st_aload_n q79_86 rfl
theorem x79_86 {st : List Value} {M : pj_Mem} {l : pj_Loc} {x : Nat} {o9 : Option Value × pj_Mem} : pj_Ends 79 (86, some (.ref x) :: l, st, M) o9 = pj_Ends 79 (87, some (.ref x) :: l, .ref x :: st, M) o9 := pj_xs (s79_86)
theorem q79_87 : pj_row 79 87 = some (.dup, 1, 0, 0, 0) := by decide +kernel
theorem s79_87 {L : pj_Loc} {st : List Value} {M : pj_Mem} {x : Nat} : pj_step 79 (87, L, .ref x :: st, M) = some (88, L, .ref x :: .ref x :: st, M) := st_dup_ref q79_87
theorem x79_87 {L : pj_Loc} {st : List Value} {M : pj_Mem} {x : Nat} {o9 : Option Value × pj_Mem} : pj_Ends 79 (87, L, .ref x :: st, M) o9 = pj_Ends 79 (88, L, .ref x :: .ref x :: st, M) o9 := pj_xs (s79_87)
theorem s79_87i {L : pj_Loc} {st : List Value} {M : pj_Mem} {x : Int32} : pj_step 79 (87, L, .int x :: st, M) = some (88, L, .int x :: .int x :: st, M) := st_dup_int q79_87
theorem x79_87i {L : pj_Loc} {st : List Value} {M : pj_Mem} {x : Int32} {o9 : Option Value × pj_Mem} : pj_Ends 79 (87, L, .int x :: st, M) o9 = pj_Ends 79 (88, L, .int x :: .int x :: st, M) o9 := pj_xs (s79_87i)
theorem q79_88 : pj_row 79 88 = some (.getfield 34, 3, 6, 3, 0) := by decide +kernel
theorem s79_88 {L : pj_Loc} {st : List Value} {N S : Nat} {H : pj_Heap} {o : Nat} : pj_step 79 (88, L, .ref o :: st, (N, S, H)) = pj_pv 91 L st (N, S, H) (pj_fld (H o) 6 3) := st_getfield q79_88
theorem x79_88 {L : pj_Loc} {st : List Value} {N S : Nat} {H : pj_Heap} {o : Nat} {o9 : Option Value × pj_Mem} : pj_Ends 79 (88, L, .ref o :: st, (N, S, H)) o9 = pj_then 79 o9 (pj_pv 91 L st (N, S, H) (pj_fld (H o) 6 3)) := pj_xt q79_88 rfl (pj_cl_nc rfl) (s79_88)
theorem q79_91 : pj_row 79 91 = some (.iconst 1, 1, 0, 0, 0) := by decide +kernel
theorem s79_91 {L : pj_Loc} {st : List Value} {M : pj_Mem}  : pj_step 79 (91, L, st, M) = some (92, L, .int 1 :: st, M) := st_iconst q79_91 (by decide +kernel)
theorem x79_91 {L : pj_Loc} {st : List Value} {M : pj_Mem}  {o9 : Option Value × pj_Mem} : pj_Ends 79 (91, L, st, M) o9 = pj_Ends 79 (92, L, .int 1 :: st, M) o9 := pj_xs (s79_91)
theorem q79_92 : pj_row 79 92 = some (.iadd, 1, 0, 0, 0) := by decide +kernel
theorem s79_92 {L : pj_Loc} {st : List Value} {M : pj_Mem} {x y : Int32} : pj_step 79 (92, L, .int y :: .int x :: st, M) = some (93, L, .int (x + y) :: st, M) := st_iadd q79_92
theorem x79_92 {L : pj_Loc} {st : List Value} {M : pj_Mem} {x y : Int32} {o9 : Option Value × pj_Mem} : pj_Ends 79 (92, L, .int y :: .int x :: st, M) o9 = pj_Ends 79 (93, L, .int (x + y) :: st, M) o9 := pj_xs (s79_92)
theorem q79_93 : pj_row 79 93 = some (.putfield 34, 3, 6, 3, 0) := by decide +kernel
theorem s79_93 {L : pj_Loc} {st : List Value} {N S : Nat} {H : pj_Heap} {o : Nat} {v : Value} : pj_step 79 (93, L, v :: .ref o :: st, (N, S, H)) = pj_set 96 L st (N, S, H) o (pj_fset (H o) 6 3 v) := st_putfield q79_93
theorem x79_93 {L : pj_Loc} {st : List Value} {N S : Nat} {H : pj_Heap} {o : Nat} {v : Value} {o9 : Option Value × pj_Mem} : pj_Ends 79 (93, L, v :: .ref o :: st, (N, S, H)) o9 = pj_then 79 o9 (pj_set 96 L st (N, S, H) o (pj_fset (H o) 6 3 v)) := pj_xt q79_93 rfl (pj_cl_nc rfl) (s79_93)
theorem q79_96 : pj_row 79 96 = some (.iload_n 1, 1, 0, 0, 0) := by decide +kernel
theorem s79_96 {st : List Value} {M : pj_Mem} {l : pj_Loc} {a0 : Option Value} {x : Int32} : pj_step 79 (96, a0 :: some (.int x) :: l, st, M) = some (97, a0 :: some (.int x) :: l, .int x :: st, M) := st_iload_n q79_96 rfl
theorem x79_96 {st : List Value} {M : pj_Mem} {l : pj_Loc} {a0 : Option Value} {x : Int32} {o9 : Option Value × pj_Mem} : pj_Ends 79 (96, a0 :: some (.int x) :: l, st, M) o9 = pj_Ends 79 (97, a0 :: some (.int x) :: l, .int x :: st, M) o9 := pj_xs (s79_96)
theorem q79_97 : pj_row 79 97 = some (.ireturn, 1, 0, 0, 0) := by decide +kernel
theorem t79_97 {L : pj_Loc} {M : pj_Mem} {v : Int32} : pj_Ends 79 (97, L, [.int v], M) (some (.int v), M) := pj_Ends.ret q79_97 (pj_rtn_i rt79)
theorem rt80 : pj_rt 80 = some .int := rfl
theorem q80_0 : pj_row 80 0 = some (.iload_n 1, 1, 0, 0, 0) := by decide +kernel
theorem s80_0 {st : List Value} {M : pj_Mem} {l : pj_Loc} {a0 : Option Value} {x : Int32} : pj_step 80 (0, a0 :: some (.int x) :: l, st, M) = some (1, a0 :: some (.int x) :: l, .int x :: st, M) := st_iload_n q80_0 rfl
theorem x80_0 {st : List Value} {M : pj_Mem} {l : pj_Loc} {a0 : Option Value} {x : Int32} {o9 : Option Value × pj_Mem} : pj_Ends 80 (0, a0 :: some (.int x) :: l, st, M) o9 = pj_Ends 80 (1, a0 :: some (.int x) :: l, .int x :: st, M) o9 := pj_xs (s80_0)
theorem q80_1 : pj_row 80 1 = some (.invokestatic 127, 3, 81, 1, 0) := by decide +kernel
theorem e80_1 {L : pj_Loc} {st : List Value} {N S : Nat} {H : pj_Heap} {o : Option Value × pj_Mem} {M' : pj_Mem} {x0 : Int32} {r : Int32} (h4 : pj_le4 st = true) (h1 : pj_Ends 81 (0, [some (.int x0)], [], (N, S, H)) (some (.int r), M')) (h2 : pj_Ends 80 (4, L, .int r :: st, M') o) : pj_Ends 80 (1, L, .int x0 :: st, (N, S, H)) o := ec_s1 q80_1 (Or.inl rfl) h4 rfl h1 h2
theorem q80_4 : pj_row 80 4 = some (.ifCond .eq 17, 3, 21, 0, 0) := by decide +kernel
theorem s80_4 {L : pj_Loc} {st : List Value} {M : pj_Mem} {x : Int32} : pj_step 80 (4, L, .int x :: st, M) = some (if x = 0 then 21 else 7, L, st, M) := st_if_eq q80_4
theorem x80_4 {L : pj_Loc} {st : List Value} {M : pj_Mem} {x : Int32} {o9 : Option Value × pj_Mem} : pj_Ends 80 (4, L, .int x :: st, M) o9 = pj_Ends 80 (if x = 0 then 21 else 7, L, st, M) o9 := pj_xs (s80_4)
theorem q80_7 : pj_row 80 7 = some (.iload_n 2, 1, 0, 0, 0) := by decide +kernel
theorem s80_7 {st : List Value} {M : pj_Mem} {l : pj_Loc} {a0 a1 : Option Value} {x : Int32} : pj_step 80 (7, a0 :: a1 :: some (.int x) :: l, st, M) = some (8, a0 :: a1 :: some (.int x) :: l, .int x :: st, M) := st_iload_n q80_7 rfl
theorem x80_7 {st : List Value} {M : pj_Mem} {l : pj_Loc} {a0 a1 : Option Value} {x : Int32} {o9 : Option Value × pj_Mem} : pj_Ends 80 (7, a0 :: a1 :: some (.int x) :: l, st, M) o9 = pj_Ends 80 (8, a0 :: a1 :: some (.int x) :: l, .int x :: st, M) o9 := pj_xs (s80_7)
theorem q80_8 : pj_row 80 8 = some (.invokestatic 127, 3, 81, 1, 0) := by decide +kernel
theorem e80_8 {L : pj_Loc} {st : List Value} {N S : Nat} {H : pj_Heap} {o : Option Value × pj_Mem} {M' : pj_Mem} {x0 : Int32} {r : Int32} (h4 : pj_le4 st = true) (h1 : pj_Ends 81 (0, [some (.int x0)], [], (N, S, H)) (some (.int r), M')) (h2 : pj_Ends 80 (11, L, .int r :: st, M') o) : pj_Ends 80 (8, L, .int x0 :: st, (N, S, H)) o := ec_s1 q80_8 (Or.inl rfl) h4 rfl h1 h2
theorem q80_11 : pj_row 80 11 = some (.ifCond .eq 10, 3, 21, 0, 0) := by decide +kernel
theorem s80_11 {L : pj_Loc} {st : List Value} {M : pj_Mem} {x : Int32} : pj_step 80 (11, L, .int x :: st, M) = some (if x = 0 then 21 else 14, L, st, M) := st_if_eq q80_11
theorem x80_11 {L : pj_Loc} {st : List Value} {M : pj_Mem} {x : Int32} {o9 : Option Value × pj_Mem} : pj_Ends 80 (11, L, .int x :: st, M) o9 = pj_Ends 80 (if x = 0 then 21 else 14, L, st, M) o9 := pj_xs (s80_11)
theorem q80_14 : pj_row 80 14 = some (.iload_n 3, 1, 0, 0, 0) := by decide +kernel
theorem s80_14 {st : List Value} {M : pj_Mem} {l : pj_Loc} {a0 a1 a2 : Option Value} {x : Int32} : pj_step 80 (14, a0 :: a1 :: a2 :: some (.int x) :: l, st, M) = some (15, a0 :: a1 :: a2 :: some (.int x) :: l, .int x :: st, M) := st_iload_n q80_14 rfl
theorem x80_14 {st : List Value} {M : pj_Mem} {l : pj_Loc} {a0 a1 a2 : Option Value} {x : Int32} {o9 : Option Value × pj_Mem} : pj_Ends 80 (14, a0 :: a1 :: a2 :: some (.int x) :: l, st, M) o9 = pj_Ends 80 (15, a0 :: a1 :: a2 :: some (.int x) :: l, .int x :: st, M) o9 := pj_xs (s80_14)
theorem q80_15 : pj_row 80 15 = some (.invokestatic 127, 3, 81, 1, 0) := by decide +kernel
theorem e80_15 {L : pj_Loc} {st : List Value} {N S : Nat} {H : pj_Heap} {o : Option Value × pj_Mem} {M' : pj_Mem} {x0 : Int32} {r : Int32} (h4 : pj_le4 st = true) (h1 : pj_Ends 81 (0, [some (.int x0)], [], (N, S, H)) (some (.int r), M')) (h2 : pj_Ends 80 (18, L, .int r :: st, M') o) : pj_Ends 80 (15, L, .int x0 :: st, (N, S, H)) o := ec_s1 q80_15 (Or.inl rfl) h4 rfl h1 h2
theorem q80_18 : pj_row 80 18 = some (.ifCond .ne 6, 3, 24, 0, 0) := by decide +kernel
theorem s80_18 {L : pj_Loc} {st : List Value} {M : pj_Mem} {x : Int32} : pj_step 80 (18, L, .int x :: st, M) = some (if ¬ x = 0 then 24 else 21, L, st, M) := st_if_ne q80_18
theorem x80_18 {L : pj_Loc} {st : List Value} {M : pj_Mem} {x : Int32} {o9 : Option Value × pj_Mem} : pj_Ends 80 (18, L, .int x :: st, M) o9 = pj_Ends 80 (if ¬ x = 0 then 24 else 21, L, st, M) o9 := pj_xs (s80_18)
theorem q80_21 : pj_row 80 21 = some (.bipush (-2), 2, 0, 0, 0) := by decide +kernel
theorem s80_21 {L : pj_Loc} {st : List Value} {M : pj_Mem}  : pj_step 80 (21, L, st, M) = some (23, L, .int (-2) :: st, M) := st_bipush q80_21 (by decide +kernel)
theorem x80_21 {L : pj_Loc} {st : List Value} {M : pj_Mem}  {o9 : Option Value × pj_Mem} : pj_Ends 80 (21, L, st, M) o9 = pj_Ends 80 (23, L, .int (-2) :: st, M) o9 := pj_xs (s80_21)
theorem q80_23 : pj_row 80 23 = some (.ireturn, 1, 0, 0, 0) := by decide +kernel
theorem t80_23 {L : pj_Loc} {M : pj_Mem} {v : Int32} : pj_Ends 80 (23, L, [.int v], M) (some (.int v), M) := pj_Ends.ret q80_23 (pj_rtn_i rt80)
theorem q80_24 : pj_row 80 24 = some (.aload_n 0, 1, 0, 0, 0) := by decide +kernel
theorem s80_24 {st : List Value} {M : pj_Mem} {l : pj_Loc} {x : Nat} : pj_step 80 (24, some (.ref x) :: l, st, M) = some (25, some (.ref x) :: l, .ref x :: st, M) := st_aload_n q80_24 rfl
theorem x80_24 {st : List Value} {M : pj_Mem} {l : pj_Loc} {x : Nat} {o9 : Option Value × pj_Mem} : pj_Ends 80 (24, some (.ref x) :: l, st, M) o9 = pj_Ends 80 (25, some (.ref x) :: l, .ref x :: st, M) o9 := pj_xs (s80_24)
theorem q80_25 : pj_row 80 25 = some (.getfield 7, 3, 6, 0, 0) := by decide +kernel
theorem s80_25 {L : pj_Loc} {st : List Value} {N S : Nat} {H : pj_Heap} {o : Nat} : pj_step 80 (25, L, .ref o :: st, (N, S, H)) = pj_pv 28 L st (N, S, H) (pj_fld (H o) 6 0) := st_getfield q80_25
theorem x80_25 {L : pj_Loc} {st : List Value} {N S : Nat} {H : pj_Heap} {o : Nat} {o9 : Option Value × pj_Mem} : pj_Ends 80 (25, L, .ref o :: st, (N, S, H)) o9 = pj_then 80 o9 (pj_pv 28 L st (N, S, H) (pj_fld (H o) 6 0)) := pj_xt q80_25 rfl (pj_cl_nc rfl) (s80_25)
theorem q80_28 : pj_row 80 28 = some (.bipush 6, 2, 0, 0, 0) := by decide +kernel
theorem s80_28 {L : pj_Loc} {st : List Value} {M : pj_Mem}  : pj_step 80 (28, L, st, M) = some (30, L, .int 6 :: st, M) := st_bipush q80_28 (by decide +kernel)
theorem x80_28 {L : pj_Loc} {st : List Value} {M : pj_Mem}  {o9 : Option Value × pj_Mem} : pj_Ends 80 (28, L, st, M) o9 = pj_Ends 80 (30, L, .int 6 :: st, M) o9 := pj_xs (s80_28)
theorem q80_30 : pj_row 80 30 = some (.iaload, 1, 0, 0, 0) := by decide +kernel
theorem s80_30 {L : pj_Loc} {st : List Value} {N S : Nat} {H : pj_Heap} {o : Nat} {i : Int32} : pj_step 80 (30, L, .int i :: .ref o :: st, (N, S, H)) = pj_pi 31 L st (N, S, H) (pj_arl (H o) 0 i) := st_iaload q80_30
theorem x80_30 {L : pj_Loc} {st : List Value} {N S : Nat} {H : pj_Heap} {o : Nat} {i : Int32} {o9 : Option Value × pj_Mem} : pj_Ends 80 (30, L, .int i :: .ref o :: st, (N, S, H)) o9 = pj_then 80 o9 (pj_pi 31 L st (N, S, H) (pj_arl (H o) 0 i)) := pj_xt q80_30 rfl (pj_cl_nc rfl) (s80_30)
theorem q80_31 : pj_row 80 31 = some (.ldc 81, 2, 0, 0, 100000) := by decide +kernel
theorem s80_31 {L : pj_Loc} {st : List Value} {M : pj_Mem}  : pj_step 80 (31, L, st, M) = some (33, L, .int 100000 :: st, M) := st_ldc q80_31 (by decide +kernel)
theorem x80_31 {L : pj_Loc} {st : List Value} {M : pj_Mem}  {o9 : Option Value × pj_Mem} : pj_Ends 80 (31, L, st, M) o9 = pj_Ends 80 (33, L, .int 100000 :: st, M) o9 := pj_xs (s80_31)
theorem q80_33 : pj_row 80 33 = some (.if_icmp .lt 6, 3, 39, 0, 0) := by decide +kernel
theorem s80_33 {L : pj_Loc} {st : List Value} {M : pj_Mem} {x y : Int32} : pj_step 80 (33, L, .int y :: .int x :: st, M) = some (if x < y then 39 else 36, L, st, M) := st_icmp_lt q80_33
theorem x80_33 {L : pj_Loc} {st : List Value} {M : pj_Mem} {x y : Int32} {o9 : Option Value × pj_Mem} : pj_Ends 80 (33, L, .int y :: .int x :: st, M) o9 = pj_Ends 80 (if x < y then 39 else 36, L, st, M) o9 := pj_xs (s80_33)
theorem q80_36 : pj_row 80 36 = some (.bipush (-4), 2, 0, 0, 0) := by decide +kernel
theorem s80_36 {L : pj_Loc} {st : List Value} {M : pj_Mem}  : pj_step 80 (36, L, st, M) = some (38, L, .int (-4) :: st, M) := st_bipush q80_36 (by decide +kernel)
theorem x80_36 {L : pj_Loc} {st : List Value} {M : pj_Mem}  {o9 : Option Value × pj_Mem} : pj_Ends 80 (36, L, st, M) o9 = pj_Ends 80 (38, L, .int (-4) :: st, M) o9 := pj_xs (s80_36)
theorem q80_38 : pj_row 80 38 = some (.ireturn, 1, 0, 0, 0) := by decide +kernel
theorem t80_38 {L : pj_Loc} {M : pj_Mem} {v : Int32} : pj_Ends 80 (38, L, [.int v], M) (some (.int v), M) := pj_Ends.ret q80_38 (pj_rtn_i rt80)
theorem q80_39 : pj_row 80 39 = some (.aload_n 0, 1, 0, 0, 0) := by decide +kernel
theorem s80_39 {st : List Value} {M : pj_Mem} {l : pj_Loc} {x : Nat} : pj_step 80 (39, some (.ref x) :: l, st, M) = some (40, some (.ref x) :: l, .ref x :: st, M) := st_aload_n q80_39 rfl
theorem x80_39 {st : List Value} {M : pj_Mem} {l : pj_Loc} {x : Nat} {o9 : Option Value × pj_Mem} : pj_Ends 80 (39, some (.ref x) :: l, st, M) o9 = pj_Ends 80 (40, some (.ref x) :: l, .ref x :: st, M) o9 := pj_xs (s80_39)
theorem q80_40 : pj_row 80 40 = some (.invokevirtual 121, 3, 78, 1, 0) := by decide +kernel
theorem e80_40 {L : pj_Loc} {st : List Value} {N S : Nat} {H : pj_Heap} {o : Option Value × pj_Mem} {M' : pj_Mem} {x0 : Nat} (h4 : pj_le4 st = true) (hu : pj_isU 6 (H x0) = true) (h1 : pj_Ends 78 (0, [some (.ref x0), none], [], (N, S, H)) (none, M')) (h2 : pj_Ends 80 (43, L, st, M') o) : pj_Ends 80 (40, L, .ref x0 :: st, (N, S, H)) o := ec_v1 q80_40 (Or.inl rfl) h4 hu rfl h1 h2
theorem q80_43 : pj_row 80 43 = some (.aload_n 0, 1, 0, 0, 0) := by decide +kernel
theorem s80_43 {st : List Value} {M : pj_Mem} {l : pj_Loc} {x : Nat} : pj_step 80 (43, some (.ref x) :: l, st, M) = some (44, some (.ref x) :: l, .ref x :: st, M) := st_aload_n q80_43 rfl
theorem x80_43 {st : List Value} {M : pj_Mem} {l : pj_Loc} {x : Nat} {o9 : Option Value × pj_Mem} : pj_Ends 80 (43, some (.ref x) :: l, st, M) o9 = pj_Ends 80 (44, some (.ref x) :: l, .ref x :: st, M) o9 := pj_xs (s80_43)
theorem q80_44 : pj_row 80 44 = some (.iload_n 1, 1, 0, 0, 0) := by decide +kernel
theorem s80_44 {st : List Value} {M : pj_Mem} {l : pj_Loc} {a0 : Option Value} {x : Int32} : pj_step 80 (44, a0 :: some (.int x) :: l, st, M) = some (45, a0 :: some (.int x) :: l, .int x :: st, M) := st_iload_n q80_44 rfl
theorem x80_44 {st : List Value} {M : pj_Mem} {l : pj_Loc} {a0 : Option Value} {x : Int32} {o9 : Option Value × pj_Mem} : pj_Ends 80 (44, a0 :: some (.int x) :: l, st, M) o9 = pj_Ends 80 (45, a0 :: some (.int x) :: l, .int x :: st, M) o9 := pj_xs (s80_44)
theorem q80_45 : pj_row 80 45 = some (.iload_n 2, 1, 0, 0, 0) := by decide +kernel
theorem s80_45 {st : List Value} {M : pj_Mem} {l : pj_Loc} {a0 a1 : Option Value} {x : Int32} : pj_step 80 (45, a0 :: a1 :: some (.int x) :: l, st, M) = some (46, a0 :: a1 :: some (.int x) :: l, .int x :: st, M) := st_iload_n q80_45 rfl
theorem x80_45 {st : List Value} {M : pj_Mem} {l : pj_Loc} {a0 a1 : Option Value} {x : Int32} {o9 : Option Value × pj_Mem} : pj_Ends 80 (45, a0 :: a1 :: some (.int x) :: l, st, M) o9 = pj_Ends 80 (46, a0 :: a1 :: some (.int x) :: l, .int x :: st, M) o9 := pj_xs (s80_45)
theorem q80_46 : pj_row 80 46 = some (.iload_n 3, 1, 0, 0, 0) := by decide +kernel
theorem s80_46 {st : List Value} {M : pj_Mem} {l : pj_Loc} {a0 a1 a2 : Option Value} {x : Int32} : pj_step 80 (46, a0 :: a1 :: a2 :: some (.int x) :: l, st, M) = some (47, a0 :: a1 :: a2 :: some (.int x) :: l, .int x :: st, M) := st_iload_n q80_46 rfl
theorem x80_46 {st : List Value} {M : pj_Mem} {l : pj_Loc} {a0 a1 a2 : Option Value} {x : Int32} {o9 : Option Value × pj_Mem} : pj_Ends 80 (46, a0 :: a1 :: a2 :: some (.int x) :: l, st, M) o9 = pj_Ends 80 (47, a0 :: a1 :: a2 :: some (.int x) :: l, .int x :: st, M) o9 := pj_xs (s80_46)
theorem q80_47 : pj_row 80 47 = some (.invokevirtual 130, 3, 82, 4, 0) := by decide +kernel
theorem e80_47 {L : pj_Loc} {st : List Value} {N S : Nat} {H : pj_Heap} {o : Option Value × pj_Mem} {M' : pj_Mem} {x0 : Nat} {x1 : Int32} {x2 : Int32} {x3 : Int32} (h4 : pj_le4 st = true) (hu : pj_isU 6 (H x0) = true) (h1 : pj_Ends 82 (0, [some (.ref x0), some (.int x1), some (.int x2), some (.int x3)], [], (N, S, H)) (none, M')) (h2 : pj_Ends 80 (50, L, st, M') o) : pj_Ends 80 (47, L, .int x3 :: .int x2 :: .int x1 :: .ref x0 :: st, (N, S, H)) o := ec_v4 q80_47 (Or.inl rfl) h4 hu rfl h1 h2
theorem q80_50 : pj_row 80 50 = some (.aload_n 0, 1, 0, 0, 0) := by decide +kernel
theorem s80_50 {st : List Value} {M : pj_Mem} {l : pj_Loc} {x : Nat} : pj_step 80 (50, some (.ref x) :: l, st, M) = some (51, some (.ref x) :: l, .ref x :: st, M) := st_aload_n q80_50 rfl
theorem x80_50 {st : List Value} {M : pj_Mem} {l : pj_Loc} {x : Nat} {o9 : Option Value × pj_Mem} : pj_Ends 80 (50, some (.ref x) :: l, st, M) o9 = pj_Ends 80 (51, some (.ref x) :: l, .ref x :: st, M) o9 := pj_xs (s80_50)
theorem q80_51 : pj_row 80 51 = some (.iload 4, 2, 0, 0, 0) := by decide +kernel
theorem s80_51 {st : List Value} {M : pj_Mem} {l : pj_Loc} {a0 a1 a2 a3 : Option Value} {x : Int32} : pj_step 80 (51, a0 :: a1 :: a2 :: a3 :: some (.int x) :: l, st, M) = some (53, a0 :: a1 :: a2 :: a3 :: some (.int x) :: l, .int x :: st, M) := st_iload q80_51 rfl
theorem x80_51 {st : List Value} {M : pj_Mem} {l : pj_Loc} {a0 a1 a2 a3 : Option Value} {x : Int32} {o9 : Option Value × pj_Mem} : pj_Ends 80 (51, a0 :: a1 :: a2 :: a3 :: some (.int x) :: l, st, M) o9 = pj_Ends 80 (53, a0 :: a1 :: a2 :: a3 :: some (.int x) :: l, .int x :: st, M) o9 := pj_xs (s80_51)
theorem q80_53 : pj_row 80 53 = some (.invokevirtual 134, 3, 83, 2, 0) := by decide +kernel
theorem e80_53 {L : pj_Loc} {st : List Value} {N S : Nat} {H : pj_Heap} {o : Option Value × pj_Mem} {M' : pj_Mem} {x0 : Nat} {x1 : Int32} (h4 : pj_le4 st = true) (hu : pj_isU 6 (H x0) = true) (h1 : pj_Ends 83 (0, [some (.ref x0), some (.int x1)], [], (N, S, H)) (none, M')) (h2 : pj_Ends 80 (56, L, st, M') o) : pj_Ends 80 (53, L, .int x1 :: .ref x0 :: st, (N, S, H)) o := ec_v2 q80_53 (Or.inl rfl) h4 hu rfl h1 h2
theorem q80_56 : pj_row 80 56 = some (.aload_n 0, 1, 0, 0, 0) := by decide +kernel
theorem s80_56 {st : List Value} {M : pj_Mem} {l : pj_Loc} {x : Nat} : pj_step 80 (56, some (.ref x) :: l, st, M) = some (57, some (.ref x) :: l, .ref x :: st, M) := st_aload_n q80_56 rfl
theorem x80_56 {st : List Value} {M : pj_Mem} {l : pj_Loc} {x : Nat} {o9 : Option Value × pj_Mem} : pj_Ends 80 (56, some (.ref x) :: l, st, M) o9 = pj_Ends 80 (57, some (.ref x) :: l, .ref x :: st, M) o9 := pj_xs (s80_56)
theorem q80_57 : pj_row 80 57 = some (.aload_n 0, 1, 0, 0, 0) := by decide +kernel
theorem s80_57 {st : List Value} {M : pj_Mem} {l : pj_Loc} {x : Nat} : pj_step 80 (57, some (.ref x) :: l, st, M) = some (58, some (.ref x) :: l, .ref x :: st, M) := st_aload_n q80_57 rfl
theorem x80_57 {st : List Value} {M : pj_Mem} {l : pj_Loc} {x : Nat} {o9 : Option Value × pj_Mem} : pj_Ends 80 (57, some (.ref x) :: l, st, M) o9 = pj_Ends 80 (58, some (.ref x) :: l, .ref x :: st, M) o9 := pj_xs (s80_57)
theorem q80_58 : pj_row 80 58 = some (.getfield 75, 3, 6, 11, 0) := by decide +kernel
theorem s80_58 {L : pj_Loc} {st : List Value} {N S : Nat} {H : pj_Heap} {o : Nat} : pj_step 80 (58, L, .ref o :: st, (N, S, H)) = pj_pv 61 L st (N, S, H) (pj_fld (H o) 6 11) := st_getfield q80_58
theorem x80_58 {L : pj_Loc} {st : List Value} {N S : Nat} {H : pj_Heap} {o : Nat} {o9 : Option Value × pj_Mem} : pj_Ends 80 (58, L, .ref o :: st, (N, S, H)) o9 = pj_then 80 o9 (pj_pv 61 L st (N, S, H) (pj_fld (H o) 6 11)) := pj_xt q80_58 rfl (pj_cl_nc rfl) (s80_58)
theorem q80_61 : pj_row 80 61 = some (.invokevirtual 124, 3, 79, 2, 0) := by decide +kernel
theorem e80_61 {L : pj_Loc} {st : List Value} {N S : Nat} {H : pj_Heap} {o : Option Value × pj_Mem} {M' : pj_Mem} {x0 : Nat} {x1 : Int32} {r : Int32} (h4 : pj_le4 st = true) (hu : pj_isU 6 (H x0) = true) (h1 : pj_Ends 79 (0, [some (.ref x0), some (.int x1), none], [], (N, S, H)) (some (.int r), M')) (h2 : pj_Ends 80 (64, L, .int r :: st, M') o) : pj_Ends 80 (61, L, .int x1 :: .ref x0 :: st, (N, S, H)) o := ec_v2 q80_61 (Or.inl rfl) h4 hu rfl h1 h2
theorem q80_64 : pj_row 80 64 = some (.ireturn, 1, 0, 0, 0) := by decide +kernel
theorem t80_64 {L : pj_Loc} {M : pj_Mem} {v : Int32} : pj_Ends 80 (64, L, [.int v], M) (some (.int v), M) := pj_Ends.ret q80_64 (pj_rtn_i rt80)
theorem rt81 : pj_rt 81 = some .boolean := rfl
theorem q81_0 : pj_row 81 0 = some (.iload_n 0, 1, 0, 0, 0) := by decide +kernel
theorem s81_0 {st : List Value} {M : pj_Mem} {l : pj_Loc} {x : Int32} : pj_step 81 (0, some (.int x) :: l, st, M) = some (1, some (.int x) :: l, .int x :: st, M) := st_iload_n q81_0 rfl
theorem x81_0 {st : List Value} {M : pj_Mem} {l : pj_Loc} {x : Int32} {o9 : Option Value × pj_Mem} : pj_Ends 81 (0, some (.int x) :: l, st, M) o9 = pj_Ends 81 (1, some (.int x) :: l, .int x :: st, M) o9 := pj_xs (s81_0)
theorem q81_1 : pj_row 81 1 = some (.i2l, 1, 0, 0, 0) := by decide +kernel
theorem s81_1 {L : pj_Loc} {st : List Value} {M : pj_Mem} {x : Int32} : pj_step 81 (1, L, .int x :: st, M) = some (2, L, .long x.toInt64 :: st, M) := st_i2l q81_1
theorem x81_1 {L : pj_Loc} {st : List Value} {M : pj_Mem} {x : Int32} {o9 : Option Value × pj_Mem} : pj_Ends 81 (1, L, .int x :: st, M) o9 = pj_Ends 81 (2, L, .long x.toInt64 :: st, M) o9 := pj_xs (s81_1)
theorem q81_2 : pj_row 81 2 = some (.ldc2_w 38, 3, 0, 0, (-500)) := by decide +kernel
theorem s81_2 {L : pj_Loc} {st : List Value} {M : pj_Mem}  : pj_step 81 (2, L, st, M) = some (5, L, .long (-500) :: st, M) := st_ldc2_w q81_2 (by decide +kernel)
theorem x81_2 {L : pj_Loc} {st : List Value} {M : pj_Mem}  {o9 : Option Value × pj_Mem} : pj_Ends 81 (2, L, st, M) o9 = pj_Ends 81 (5, L, .long (-500) :: st, M) o9 := pj_xs (s81_2)
theorem q81_5 : pj_row 81 5 = some (.ldc2_w 40, 3, 0, 0, 500) := by decide +kernel
theorem s81_5 {L : pj_Loc} {st : List Value} {M : pj_Mem}  : pj_step 81 (5, L, st, M) = some (8, L, .long 500 :: st, M) := st_ldc2_w q81_5 (by decide +kernel)
theorem x81_5 {L : pj_Loc} {st : List Value} {M : pj_Mem}  {o9 : Option Value × pj_Mem} : pj_Ends 81 (5, L, st, M) o9 = pj_Ends 81 (8, L, .long 500 :: st, M) o9 := pj_xs (s81_5)
theorem q81_8 : pj_row 81 8 = some (.invokestatic 42, 3, 77, 3, 0) := by decide +kernel
theorem e81_8 {L : pj_Loc} {st : List Value} {N S : Nat} {H : pj_Heap} {o : Option Value × pj_Mem} {M' : pj_Mem} {x0 : Int64} {x1 : Int64} {x2 : Int64} {r : Int32} (h4 : pj_le4 st = true) (h1 : pj_Ends 77 (0, [some (.long x0), none, some (.long x1), none, some (.long x2), none], [], (N, S, H)) (some (.int r), M')) (h2 : pj_Ends 81 (11, L, .int r :: st, M') o) : pj_Ends 81 (8, L, .long x2 :: .long x1 :: .long x0 :: st, (N, S, H)) o := ec_s3 q81_8 (Or.inl rfl) h4 rfl h1 h2
theorem q81_11 : pj_row 81 11 = some (.ireturn, 1, 0, 0, 0) := by decide +kernel
theorem t81_11 {L : pj_Loc} {M : pj_Mem} {v : Int32} (hv : v = 0 ∨ v = 1) : pj_Ends 81 (11, L, [.int v], M) (some (.int v), M) := pj_Ends.ret q81_11 (pj_rtn_z rt81 hv)
theorem rt82 : pj_rt 82 = none := rfl
theorem q82_0 : pj_row 82 0 = some (.aload_n 0, 1, 0, 0, 0) := by decide +kernel
theorem s82_0 {st : List Value} {M : pj_Mem} {l : pj_Loc} {x : Nat} : pj_step 82 (0, some (.ref x) :: l, st, M) = some (1, some (.ref x) :: l, .ref x :: st, M) := st_aload_n q82_0 rfl
theorem x82_0 {st : List Value} {M : pj_Mem} {l : pj_Loc} {x : Nat} {o9 : Option Value × pj_Mem} : pj_Ends 82 (0, some (.ref x) :: l, st, M) o9 = pj_Ends 82 (1, some (.ref x) :: l, .ref x :: st, M) o9 := pj_xs (s82_0)
theorem q82_1 : pj_row 82 1 = some (.getfield 25, 3, 6, 6, 0) := by decide +kernel
theorem s82_1 {L : pj_Loc} {st : List Value} {N S : Nat} {H : pj_Heap} {o : Nat} : pj_step 82 (1, L, .ref o :: st, (N, S, H)) = pj_pv 4 L st (N, S, H) (pj_fld (H o) 6 6) := st_getfield q82_1
theorem x82_1 {L : pj_Loc} {st : List Value} {N S : Nat} {H : pj_Heap} {o : Nat} {o9 : Option Value × pj_Mem} : pj_Ends 82 (1, L, .ref o :: st, (N, S, H)) o9 = pj_then 82 o9 (pj_pv 4 L st (N, S, H) (pj_fld (H o) 6 6)) := pj_xt q82_1 rfl (pj_cl_nc rfl) (s82_1)
theorem q82_4 : pj_row 82 4 = some (.iconst 0, 1, 0, 0, 0) := by decide +kernel
theorem s82_4 {L : pj_Loc} {st : List Value} {M : pj_Mem}  : pj_step 82 (4, L, st, M) = some (5, L, .int 0 :: st, M) := st_iconst q82_4 (by decide +kernel)
theorem x82_4 {L : pj_Loc} {st : List Value} {M : pj_Mem}  {o9 : Option Value × pj_Mem} : pj_Ends 82 (4, L, st, M) o9 = pj_Ends 82 (5, L, .int 0 :: st, M) o9 := pj_xs (s82_4)
theorem q82_5 : pj_row 82 5 = some (.iload_n 1, 1, 0, 0, 0) := by decide +kernel
theorem s82_5 {st : List Value} {M : pj_Mem} {l : pj_Loc} {a0 : Option Value} {x : Int32} : pj_step 82 (5, a0 :: some (.int x) :: l, st, M) = some (6, a0 :: some (.int x) :: l, .int x :: st, M) := st_iload_n q82_5 rfl
theorem x82_5 {st : List Value} {M : pj_Mem} {l : pj_Loc} {a0 : Option Value} {x : Int32} {o9 : Option Value × pj_Mem} : pj_Ends 82 (5, a0 :: some (.int x) :: l, st, M) o9 = pj_Ends 82 (6, a0 :: some (.int x) :: l, .int x :: st, M) o9 := pj_xs (s82_5)
theorem q82_6 : pj_row 82 6 = some (.iastore, 1, 0, 0, 0) := by decide +kernel
theorem s82_6 {L : pj_Loc} {st : List Value} {N S : Nat} {H : pj_Heap} {o : Nat} {i x : Int32} : pj_step 82 (6, L, .int x :: .int i :: .ref o :: st, (N, S, H)) = pj_set 7 L st (N, S, H) o (pj_ars (H o) 0 i x) := st_iastore q82_6
theorem x82_6 {L : pj_Loc} {st : List Value} {N S : Nat} {H : pj_Heap} {o : Nat} {i x : Int32} {o9 : Option Value × pj_Mem} : pj_Ends 82 (6, L, .int x :: .int i :: .ref o :: st, (N, S, H)) o9 = pj_then 82 o9 (pj_set 7 L st (N, S, H) o (pj_ars (H o) 0 i x)) := pj_xt q82_6 rfl (pj_cl_nc rfl) (s82_6)
theorem q82_7 : pj_row 82 7 = some (.aload_n 0, 1, 0, 0, 0) := by decide +kernel
theorem s82_7 {st : List Value} {M : pj_Mem} {l : pj_Loc} {x : Nat} : pj_step 82 (7, some (.ref x) :: l, st, M) = some (8, some (.ref x) :: l, .ref x :: st, M) := st_aload_n q82_7 rfl
theorem x82_7 {st : List Value} {M : pj_Mem} {l : pj_Loc} {x : Nat} {o9 : Option Value × pj_Mem} : pj_Ends 82 (7, some (.ref x) :: l, st, M) o9 = pj_Ends 82 (8, some (.ref x) :: l, .ref x :: st, M) o9 := pj_xs (s82_7)
theorem q82_8 : pj_row 82 8 = some (.getfield 25, 3, 6, 6, 0) := by decide +kernel
theorem s82_8 {L : pj_Loc} {st : List Value} {N S : Nat} {H : pj_Heap} {o : Nat} : pj_step 82 (8, L, .ref o :: st, (N, S, H)) = pj_pv 11 L st (N, S, H) (pj_fld (H o) 6 6) := st_getfield q82_8
theorem x82_8 {L : pj_Loc} {st : List Value} {N S : Nat} {H : pj_Heap} {o : Nat} {o9 : Option Value × pj_Mem} : pj_Ends 82 (8, L, .ref o :: st, (N, S, H)) o9 = pj_then 82 o9 (pj_pv 11 L st (N, S, H) (pj_fld (H o) 6 6)) := pj_xt q82_8 rfl (pj_cl_nc rfl) (s82_8)
theorem q82_11 : pj_row 82 11 = some (.iconst 1, 1, 0, 0, 0) := by decide +kernel
theorem s82_11 {L : pj_Loc} {st : List Value} {M : pj_Mem}  : pj_step 82 (11, L, st, M) = some (12, L, .int 1 :: st, M) := st_iconst q82_11 (by decide +kernel)
theorem x82_11 {L : pj_Loc} {st : List Value} {M : pj_Mem}  {o9 : Option Value × pj_Mem} : pj_Ends 82 (11, L, st, M) o9 = pj_Ends 82 (12, L, .int 1 :: st, M) o9 := pj_xs (s82_11)
theorem q82_12 : pj_row 82 12 = some (.iload_n 2, 1, 0, 0, 0) := by decide +kernel
theorem s82_12 {st : List Value} {M : pj_Mem} {l : pj_Loc} {a0 a1 : Option Value} {x : Int32} : pj_step 82 (12, a0 :: a1 :: some (.int x) :: l, st, M) = some (13, a0 :: a1 :: some (.int x) :: l, .int x :: st, M) := st_iload_n q82_12 rfl
theorem x82_12 {st : List Value} {M : pj_Mem} {l : pj_Loc} {a0 a1 : Option Value} {x : Int32} {o9 : Option Value × pj_Mem} : pj_Ends 82 (12, a0 :: a1 :: some (.int x) :: l, st, M) o9 = pj_Ends 82 (13, a0 :: a1 :: some (.int x) :: l, .int x :: st, M) o9 := pj_xs (s82_12)
theorem q82_13 : pj_row 82 13 = some (.iastore, 1, 0, 0, 0) := by decide +kernel
theorem s82_13 {L : pj_Loc} {st : List Value} {N S : Nat} {H : pj_Heap} {o : Nat} {i x : Int32} : pj_step 82 (13, L, .int x :: .int i :: .ref o :: st, (N, S, H)) = pj_set 14 L st (N, S, H) o (pj_ars (H o) 0 i x) := st_iastore q82_13
theorem x82_13 {L : pj_Loc} {st : List Value} {N S : Nat} {H : pj_Heap} {o : Nat} {i x : Int32} {o9 : Option Value × pj_Mem} : pj_Ends 82 (13, L, .int x :: .int i :: .ref o :: st, (N, S, H)) o9 = pj_then 82 o9 (pj_set 14 L st (N, S, H) o (pj_ars (H o) 0 i x)) := pj_xt q82_13 rfl (pj_cl_nc rfl) (s82_13)
theorem q82_14 : pj_row 82 14 = some (.aload_n 0, 1, 0, 0, 0) := by decide +kernel
theorem s82_14 {st : List Value} {M : pj_Mem} {l : pj_Loc} {x : Nat} : pj_step 82 (14, some (.ref x) :: l, st, M) = some (15, some (.ref x) :: l, .ref x :: st, M) := st_aload_n q82_14 rfl
theorem x82_14 {st : List Value} {M : pj_Mem} {l : pj_Loc} {x : Nat} {o9 : Option Value × pj_Mem} : pj_Ends 82 (14, some (.ref x) :: l, st, M) o9 = pj_Ends 82 (15, some (.ref x) :: l, .ref x :: st, M) o9 := pj_xs (s82_14)
theorem q82_15 : pj_row 82 15 = some (.getfield 25, 3, 6, 6, 0) := by decide +kernel
theorem s82_15 {L : pj_Loc} {st : List Value} {N S : Nat} {H : pj_Heap} {o : Nat} : pj_step 82 (15, L, .ref o :: st, (N, S, H)) = pj_pv 18 L st (N, S, H) (pj_fld (H o) 6 6) := st_getfield q82_15
theorem x82_15 {L : pj_Loc} {st : List Value} {N S : Nat} {H : pj_Heap} {o : Nat} {o9 : Option Value × pj_Mem} : pj_Ends 82 (15, L, .ref o :: st, (N, S, H)) o9 = pj_then 82 o9 (pj_pv 18 L st (N, S, H) (pj_fld (H o) 6 6)) := pj_xt q82_15 rfl (pj_cl_nc rfl) (s82_15)
theorem q82_18 : pj_row 82 18 = some (.iconst 2, 1, 0, 0, 0) := by decide +kernel
theorem s82_18 {L : pj_Loc} {st : List Value} {M : pj_Mem}  : pj_step 82 (18, L, st, M) = some (19, L, .int 2 :: st, M) := st_iconst q82_18 (by decide +kernel)
theorem x82_18 {L : pj_Loc} {st : List Value} {M : pj_Mem}  {o9 : Option Value × pj_Mem} : pj_Ends 82 (18, L, st, M) o9 = pj_Ends 82 (19, L, .int 2 :: st, M) o9 := pj_xs (s82_18)
theorem q82_19 : pj_row 82 19 = some (.iload_n 3, 1, 0, 0, 0) := by decide +kernel
theorem s82_19 {st : List Value} {M : pj_Mem} {l : pj_Loc} {a0 a1 a2 : Option Value} {x : Int32} : pj_step 82 (19, a0 :: a1 :: a2 :: some (.int x) :: l, st, M) = some (20, a0 :: a1 :: a2 :: some (.int x) :: l, .int x :: st, M) := st_iload_n q82_19 rfl
theorem x82_19 {st : List Value} {M : pj_Mem} {l : pj_Loc} {a0 a1 a2 : Option Value} {x : Int32} {o9 : Option Value × pj_Mem} : pj_Ends 82 (19, a0 :: a1 :: a2 :: some (.int x) :: l, st, M) o9 = pj_Ends 82 (20, a0 :: a1 :: a2 :: some (.int x) :: l, .int x :: st, M) o9 := pj_xs (s82_19)
theorem q82_20 : pj_row 82 20 = some (.iastore, 1, 0, 0, 0) := by decide +kernel
theorem s82_20 {L : pj_Loc} {st : List Value} {N S : Nat} {H : pj_Heap} {o : Nat} {i x : Int32} : pj_step 82 (20, L, .int x :: .int i :: .ref o :: st, (N, S, H)) = pj_set 21 L st (N, S, H) o (pj_ars (H o) 0 i x) := st_iastore q82_20
theorem x82_20 {L : pj_Loc} {st : List Value} {N S : Nat} {H : pj_Heap} {o : Nat} {i x : Int32} {o9 : Option Value × pj_Mem} : pj_Ends 82 (20, L, .int x :: .int i :: .ref o :: st, (N, S, H)) o9 = pj_then 82 o9 (pj_set 21 L st (N, S, H) o (pj_ars (H o) 0 i x)) := pj_xt q82_20 rfl (pj_cl_nc rfl) (s82_20)
theorem q82_21 : pj_row 82 21 = some (.return_, 1, 0, 0, 0) := by decide +kernel
theorem t82_21 {L : pj_Loc} {M : pj_Mem} : pj_Ends 82 (21, L, [], M) (none, M) := pj_Ends.ret q82_21 (pj_rtn_v rt82)
theorem rt83 : pj_rt 83 = none := rfl
theorem q83_0 : pj_row 83 0 = some (.aload_n 0, 1, 0, 0, 0) := by decide +kernel
theorem s83_0 {st : List Value} {M : pj_Mem} {l : pj_Loc} {x : Nat} : pj_step 83 (0, some (.ref x) :: l, st, M) = some (1, some (.ref x) :: l, .ref x :: st, M) := st_aload_n q83_0 rfl
theorem x83_0 {st : List Value} {M : pj_Mem} {l : pj_Loc} {x : Nat} {o9 : Option Value × pj_Mem} : pj_Ends 83 (0, some (.ref x) :: l, st, M) o9 = pj_Ends 83 (1, some (.ref x) :: l, .ref x :: st, M) o9 := pj_xs (s83_0)
theorem q83_1 : pj_row 83 1 = some (.invokevirtual 82, 3, 84, 1, 0) := by decide +kernel
theorem e83_1 {L : pj_Loc} {st : List Value} {N S : Nat} {H : pj_Heap} {o : Option Value × pj_Mem} {M' : pj_Mem} {x0 : Nat} (h4 : pj_le4 st = true) (hu : pj_isU 6 (H x0) = true) (h1 : pj_Ends 84 (0, [some (.ref x0), none, none], [], (N, S, H)) (none, M')) (h2 : pj_Ends 83 (4, L, st, M') o) : pj_Ends 83 (1, L, .ref x0 :: st, (N, S, H)) o := ec_v1 q83_1 (Or.inl rfl) h4 hu rfl h1 h2
theorem q83_4 : pj_row 83 4 = some (.aload_n 0, 1, 0, 0, 0) := by decide +kernel
theorem s83_4 {st : List Value} {M : pj_Mem} {l : pj_Loc} {x : Nat} : pj_step 83 (4, some (.ref x) :: l, st, M) = some (5, some (.ref x) :: l, .ref x :: st, M) := st_aload_n q83_4 rfl
theorem x83_4 {st : List Value} {M : pj_Mem} {l : pj_Loc} {x : Nat} {o9 : Option Value × pj_Mem} : pj_Ends 83 (4, some (.ref x) :: l, st, M) o9 = pj_Ends 83 (5, some (.ref x) :: l, .ref x :: st, M) o9 := pj_xs (s83_4)
theorem q83_5 : pj_row 83 5 = some (.invokevirtual 85, 3, 85, 1, 0) := by decide +kernel
theorem e83_5 {L : pj_Loc} {st : List Value} {N S : Nat} {H : pj_Heap} {o : Option Value × pj_Mem} {M' : pj_Mem} {x0 : Nat} (h4 : pj_le4 st = true) (hu : pj_isU 6 (H x0) = true) (h1 : pj_Ends 85 (0, [some (.ref x0), none, none], [], (N, S, H)) (none, M')) (h2 : pj_Ends 83 (8, L, st, M') o) : pj_Ends 83 (5, L, .ref x0 :: st, (N, S, H)) o := ec_v1 q83_5 (Or.inl rfl) h4 hu rfl h1 h2
theorem q83_8 : pj_row 83 8 = some (.aload_n 0, 1, 0, 0, 0) := by decide +kernel
theorem s83_8 {st : List Value} {M : pj_Mem} {l : pj_Loc} {x : Nat} : pj_step 83 (8, some (.ref x) :: l, st, M) = some (9, some (.ref x) :: l, .ref x :: st, M) := st_aload_n q83_8 rfl
theorem x83_8 {st : List Value} {M : pj_Mem} {l : pj_Loc} {x : Nat} {o9 : Option Value × pj_Mem} : pj_Ends 83 (8, some (.ref x) :: l, st, M) o9 = pj_Ends 83 (9, some (.ref x) :: l, .ref x :: st, M) o9 := pj_xs (s83_8)
theorem q83_9 : pj_row 83 9 = some (.invokevirtual 88, 3, 89, 1, 0) := by decide +kernel
theorem e83_9 {L : pj_Loc} {st : List Value} {N S : Nat} {H : pj_Heap} {o : Option Value × pj_Mem} {M' : pj_Mem} {x0 : Nat} (h4 : pj_le4 st = true) (hu : pj_isU 6 (H x0) = true) (h1 : pj_Ends 89 (0, [some (.ref x0), none, none], [], (N, S, H)) (none, M')) (h2 : pj_Ends 83 (12, L, st, M') o) : pj_Ends 83 (9, L, .ref x0 :: st, (N, S, H)) o := ec_v1 q83_9 (Or.inl rfl) h4 hu rfl h1 h2
theorem q83_12 : pj_row 83 12 = some (.aload_n 0, 1, 0, 0, 0) := by decide +kernel
theorem s83_12 {st : List Value} {M : pj_Mem} {l : pj_Loc} {x : Nat} : pj_step 83 (12, some (.ref x) :: l, st, M) = some (13, some (.ref x) :: l, .ref x :: st, M) := st_aload_n q83_12 rfl
theorem x83_12 {st : List Value} {M : pj_Mem} {l : pj_Loc} {x : Nat} {o9 : Option Value × pj_Mem} : pj_Ends 83 (12, some (.ref x) :: l, st, M) o9 = pj_Ends 83 (13, some (.ref x) :: l, .ref x :: st, M) o9 := pj_xs (s83_12)
theorem q83_13 : pj_row 83 13 = some (.iload_n 1, 1, 0, 0, 0) := by decide +kernel
theorem s83_13 {st : List Value} {M : pj_Mem} {l : pj_Loc} {a0 : Option Value} {x : Int32} : pj_step 83 (13, a0 :: some (.int x) :: l, st, M) = some (14, a0 :: some (.int x) :: l, .int x :: st, M) := st_iload_n q83_13 rfl
theorem x83_13 {st : List Value} {M : pj_Mem} {l : pj_Loc} {a0 : Option Value} {x : Int32} {o9 : Option Value × pj_Mem} : pj_Ends 83 (13, a0 :: some (.int x) :: l, st, M) o9 = pj_Ends 83 (14, a0 :: some (.int x) :: l, .int x :: st, M) o9 := pj_xs (s83_13)
theorem q83_14 : pj_row 83 14 = some (.invokevirtual 91, 3, 91, 2, 0) := by decide +kernel
theorem e83_14 {L : pj_Loc} {st : List Value} {N S : Nat} {H : pj_Heap} {o : Option Value × pj_Mem} {M' : pj_Mem} {x0 : Nat} {x1 : Int32} (h4 : pj_le4 st = true) (hu : pj_isU 6 (H x0) = true) (h1 : pj_Ends 91 (0, [some (.ref x0), some (.int x1), none, none], [], (N, S, H)) (none, M')) (h2 : pj_Ends 83 (17, L, st, M') o) : pj_Ends 83 (14, L, .int x1 :: .ref x0 :: st, (N, S, H)) o := ec_v2 q83_14 (Or.inl rfl) h4 hu rfl h1 h2
theorem q83_17 : pj_row 83 17 = some (.aload_n 0, 1, 0, 0, 0) := by decide +kernel
theorem s83_17 {st : List Value} {M : pj_Mem} {l : pj_Loc} {x : Nat} : pj_step 83 (17, some (.ref x) :: l, st, M) = some (18, some (.ref x) :: l, .ref x :: st, M) := st_aload_n q83_17 rfl
theorem x83_17 {st : List Value} {M : pj_Mem} {l : pj_Loc} {x : Nat} {o9 : Option Value × pj_Mem} : pj_Ends 83 (17, some (.ref x) :: l, st, M) o9 = pj_Ends 83 (18, some (.ref x) :: l, .ref x :: st, M) o9 := pj_xs (s83_17)
theorem q83_18 : pj_row 83 18 = some (.invokevirtual 95, 3, 92, 1, 0) := by decide +kernel
theorem e83_18 {L : pj_Loc} {st : List Value} {N S : Nat} {H : pj_Heap} {o : Option Value × pj_Mem} {M' : pj_Mem} {x0 : Nat} (h4 : pj_le4 st = true) (hu : pj_isU 6 (H x0) = true) (h1 : pj_Ends 92 (0, [some (.ref x0), none], [], (N, S, H)) (none, M')) (h2 : pj_Ends 83 (21, L, st, M') o) : pj_Ends 83 (18, L, .ref x0 :: st, (N, S, H)) o := ec_v1 q83_18 (Or.inl rfl) h4 hu rfl h1 h2
theorem q83_21 : pj_row 83 21 = some (.aload_n 0, 1, 0, 0, 0) := by decide +kernel
theorem s83_21 {st : List Value} {M : pj_Mem} {l : pj_Loc} {x : Nat} : pj_step 83 (21, some (.ref x) :: l, st, M) = some (22, some (.ref x) :: l, .ref x :: st, M) := st_aload_n q83_21 rfl
theorem x83_21 {st : List Value} {M : pj_Mem} {l : pj_Loc} {x : Nat} {o9 : Option Value × pj_Mem} : pj_Ends 83 (21, some (.ref x) :: l, st, M) o9 = pj_Ends 83 (22, some (.ref x) :: l, .ref x :: st, M) o9 := pj_xs (s83_21)
theorem q83_22 : pj_row 83 22 = some (.getfield 7, 3, 6, 0, 0) := by decide +kernel
theorem s83_22 {L : pj_Loc} {st : List Value} {N S : Nat} {H : pj_Heap} {o : Nat} : pj_step 83 (22, L, .ref o :: st, (N, S, H)) = pj_pv 25 L st (N, S, H) (pj_fld (H o) 6 0) := st_getfield q83_22
theorem x83_22 {L : pj_Loc} {st : List Value} {N S : Nat} {H : pj_Heap} {o : Nat} {o9 : Option Value × pj_Mem} : pj_Ends 83 (22, L, .ref o :: st, (N, S, H)) o9 = pj_then 83 o9 (pj_pv 25 L st (N, S, H) (pj_fld (H o) 6 0)) := pj_xt q83_22 rfl (pj_cl_nc rfl) (s83_22)
theorem q83_25 : pj_row 83 25 = some (.bipush 7, 2, 0, 0, 0) := by decide +kernel
theorem s83_25 {L : pj_Loc} {st : List Value} {M : pj_Mem}  : pj_step 83 (25, L, st, M) = some (27, L, .int 7 :: st, M) := st_bipush q83_25 (by decide +kernel)
theorem x83_25 {L : pj_Loc} {st : List Value} {M : pj_Mem}  {o9 : Option Value × pj_Mem} : pj_Ends 83 (25, L, st, M) o9 = pj_Ends 83 (27, L, .int 7 :: st, M) o9 := pj_xs (s83_25)
theorem q83_27 : pj_row 83 27 = some (.iload_n 1, 1, 0, 0, 0) := by decide +kernel
theorem s83_27 {st : List Value} {M : pj_Mem} {l : pj_Loc} {a0 : Option Value} {x : Int32} : pj_step 83 (27, a0 :: some (.int x) :: l, st, M) = some (28, a0 :: some (.int x) :: l, .int x :: st, M) := st_iload_n q83_27 rfl
theorem x83_27 {st : List Value} {M : pj_Mem} {l : pj_Loc} {a0 : Option Value} {x : Int32} {o9 : Option Value × pj_Mem} : pj_Ends 83 (27, a0 :: some (.int x) :: l, st, M) o9 = pj_Ends 83 (28, a0 :: some (.int x) :: l, .int x :: st, M) o9 := pj_xs (s83_27)
theorem q83_28 : pj_row 83 28 = some (.ifCond .eq 12, 3, 40, 0, 0) := by decide +kernel
theorem s83_28 {L : pj_Loc} {st : List Value} {M : pj_Mem} {x : Int32} : pj_step 83 (28, L, .int x :: st, M) = some (if x = 0 then 40 else 31, L, st, M) := st_if_eq q83_28
theorem x83_28 {L : pj_Loc} {st : List Value} {M : pj_Mem} {x : Int32} {o9 : Option Value × pj_Mem} : pj_Ends 83 (28, L, .int x :: st, M) o9 = pj_Ends 83 (if x = 0 then 40 else 31, L, st, M) o9 := pj_xs (s83_28)
theorem q83_31 : pj_row 83 31 = some (.aload_n 0, 1, 0, 0, 0) := by decide +kernel
theorem s83_31 {st : List Value} {M : pj_Mem} {l : pj_Loc} {x : Nat} : pj_step 83 (31, some (.ref x) :: l, st, M) = some (32, some (.ref x) :: l, .ref x :: st, M) := st_aload_n q83_31 rfl
theorem x83_31 {st : List Value} {M : pj_Mem} {l : pj_Loc} {x : Nat} {o9 : Option Value × pj_Mem} : pj_Ends 83 (31, some (.ref x) :: l, st, M) o9 = pj_Ends 83 (32, some (.ref x) :: l, .ref x :: st, M) o9 := pj_xs (s83_31)
theorem q83_32 : pj_row 83 32 = some (.getfield 7, 3, 6, 0, 0) := by decide +kernel
theorem s83_32 {L : pj_Loc} {st : List Value} {N S : Nat} {H : pj_Heap} {o : Nat} : pj_step 83 (32, L, .ref o :: st, (N, S, H)) = pj_pv 35 L st (N, S, H) (pj_fld (H o) 6 0) := st_getfield q83_32
theorem x83_32 {L : pj_Loc} {st : List Value} {N S : Nat} {H : pj_Heap} {o : Nat} {o9 : Option Value × pj_Mem} : pj_Ends 83 (32, L, .ref o :: st, (N, S, H)) o9 = pj_then 83 o9 (pj_pv 35 L st (N, S, H) (pj_fld (H o) 6 0)) := pj_xt q83_32 rfl (pj_cl_nc rfl) (s83_32)
theorem q83_35 : pj_row 83 35 = some (.iconst 2, 1, 0, 0, 0) := by decide +kernel
theorem s83_35 {L : pj_Loc} {st : List Value} {M : pj_Mem}  : pj_step 83 (35, L, st, M) = some (36, L, .int 2 :: st, M) := st_iconst q83_35 (by decide +kernel)
theorem x83_35 {L : pj_Loc} {st : List Value} {M : pj_Mem}  {o9 : Option Value × pj_Mem} : pj_Ends 83 (35, L, st, M) o9 = pj_Ends 83 (36, L, .int 2 :: st, M) o9 := pj_xs (s83_35)
theorem q83_36 : pj_row 83 36 = some (.iaload, 1, 0, 0, 0) := by decide +kernel
theorem s83_36 {L : pj_Loc} {st : List Value} {N S : Nat} {H : pj_Heap} {o : Nat} {i : Int32} : pj_step 83 (36, L, .int i :: .ref o :: st, (N, S, H)) = pj_pi 37 L st (N, S, H) (pj_arl (H o) 0 i) := st_iaload q83_36
theorem x83_36 {L : pj_Loc} {st : List Value} {N S : Nat} {H : pj_Heap} {o : Nat} {i : Int32} {o9 : Option Value × pj_Mem} : pj_Ends 83 (36, L, .int i :: .ref o :: st, (N, S, H)) o9 = pj_then 83 o9 (pj_pi 37 L st (N, S, H) (pj_arl (H o) 0 i)) := pj_xt q83_36 rfl (pj_cl_nc rfl) (s83_36)
theorem q83_37 : pj_row 83 37 = some (.goto 26, 3, 63, 0, 0) := by decide +kernel
theorem s83_37 {L : pj_Loc} {st : List Value} {M : pj_Mem}  : pj_step 83 (37, L, st, M) = some (63, L, st, M) := st_goto q83_37
theorem x83_37 {L : pj_Loc} {st : List Value} {M : pj_Mem}  {o9 : Option Value × pj_Mem} : pj_Ends 83 (37, L, st, M) o9 = pj_Ends 83 (63, L, st, M) o9 := pj_xs (s83_37)
theorem q83_40 : pj_row 83 40 = some (.aload_n 0, 1, 0, 0, 0) := by decide +kernel
theorem s83_40 {st : List Value} {M : pj_Mem} {l : pj_Loc} {x : Nat} : pj_step 83 (40, some (.ref x) :: l, st, M) = some (41, some (.ref x) :: l, .ref x :: st, M) := st_aload_n q83_40 rfl
theorem x83_40 {st : List Value} {M : pj_Mem} {l : pj_Loc} {x : Nat} {o9 : Option Value × pj_Mem} : pj_Ends 83 (40, some (.ref x) :: l, st, M) o9 = pj_Ends 83 (41, some (.ref x) :: l, .ref x :: st, M) o9 := pj_xs (s83_40)
theorem q83_41 : pj_row 83 41 = some (.getfield 7, 3, 6, 0, 0) := by decide +kernel
theorem s83_41 {L : pj_Loc} {st : List Value} {N S : Nat} {H : pj_Heap} {o : Nat} : pj_step 83 (41, L, .ref o :: st, (N, S, H)) = pj_pv 44 L st (N, S, H) (pj_fld (H o) 6 0) := st_getfield q83_41
theorem x83_41 {L : pj_Loc} {st : List Value} {N S : Nat} {H : pj_Heap} {o : Nat} {o9 : Option Value × pj_Mem} : pj_Ends 83 (41, L, .ref o :: st, (N, S, H)) o9 = pj_then 83 o9 (pj_pv 44 L st (N, S, H) (pj_fld (H o) 6 0)) := pj_xt q83_41 rfl (pj_cl_nc rfl) (s83_41)
theorem q83_44 : pj_row 83 44 = some (.bipush 7, 2, 0, 0, 0) := by decide +kernel
theorem s83_44 {L : pj_Loc} {st : List Value} {M : pj_Mem}  : pj_step 83 (44, L, st, M) = some (46, L, .int 7 :: st, M) := st_bipush q83_44 (by decide +kernel)
theorem x83_44 {L : pj_Loc} {st : List Value} {M : pj_Mem}  {o9 : Option Value × pj_Mem} : pj_Ends 83 (44, L, st, M) o9 = pj_Ends 83 (46, L, .int 7 :: st, M) o9 := pj_xs (s83_44)
theorem q83_46 : pj_row 83 46 = some (.iaload, 1, 0, 0, 0) := by decide +kernel
theorem s83_46 {L : pj_Loc} {st : List Value} {N S : Nat} {H : pj_Heap} {o : Nat} {i : Int32} : pj_step 83 (46, L, .int i :: .ref o :: st, (N, S, H)) = pj_pi 47 L st (N, S, H) (pj_arl (H o) 0 i) := st_iaload q83_46
theorem x83_46 {L : pj_Loc} {st : List Value} {N S : Nat} {H : pj_Heap} {o : Nat} {i : Int32} {o9 : Option Value × pj_Mem} : pj_Ends 83 (46, L, .int i :: .ref o :: st, (N, S, H)) o9 = pj_then 83 o9 (pj_pi 47 L st (N, S, H) (pj_arl (H o) 0 i)) := pj_xt q83_46 rfl (pj_cl_nc rfl) (s83_46)
theorem q83_47 : pj_row 83 47 = some (.ifCond .le 15, 3, 62, 0, 0) := by decide +kernel
theorem s83_47 {L : pj_Loc} {st : List Value} {M : pj_Mem} {x : Int32} : pj_step 83 (47, L, .int x :: st, M) = some (if x ≤ 0 then 62 else 50, L, st, M) := st_if_le q83_47
theorem x83_47 {L : pj_Loc} {st : List Value} {M : pj_Mem} {x : Int32} {o9 : Option Value × pj_Mem} : pj_Ends 83 (47, L, .int x :: st, M) o9 = pj_Ends 83 (if x ≤ 0 then 62 else 50, L, st, M) o9 := pj_xs (s83_47)
theorem q83_50 : pj_row 83 50 = some (.aload_n 0, 1, 0, 0, 0) := by decide +kernel
theorem s83_50 {st : List Value} {M : pj_Mem} {l : pj_Loc} {x : Nat} : pj_step 83 (50, some (.ref x) :: l, st, M) = some (51, some (.ref x) :: l, .ref x :: st, M) := st_aload_n q83_50 rfl
theorem x83_50 {st : List Value} {M : pj_Mem} {l : pj_Loc} {x : Nat} {o9 : Option Value × pj_Mem} : pj_Ends 83 (50, some (.ref x) :: l, st, M) o9 = pj_Ends 83 (51, some (.ref x) :: l, .ref x :: st, M) o9 := pj_xs (s83_50)
theorem q83_51 : pj_row 83 51 = some (.getfield 7, 3, 6, 0, 0) := by decide +kernel
theorem s83_51 {L : pj_Loc} {st : List Value} {N S : Nat} {H : pj_Heap} {o : Nat} : pj_step 83 (51, L, .ref o :: st, (N, S, H)) = pj_pv 54 L st (N, S, H) (pj_fld (H o) 6 0) := st_getfield q83_51
theorem x83_51 {L : pj_Loc} {st : List Value} {N S : Nat} {H : pj_Heap} {o : Nat} {o9 : Option Value × pj_Mem} : pj_Ends 83 (51, L, .ref o :: st, (N, S, H)) o9 = pj_then 83 o9 (pj_pv 54 L st (N, S, H) (pj_fld (H o) 6 0)) := pj_xt q83_51 rfl (pj_cl_nc rfl) (s83_51)
theorem q83_54 : pj_row 83 54 = some (.bipush 7, 2, 0, 0, 0) := by decide +kernel
theorem s83_54 {L : pj_Loc} {st : List Value} {M : pj_Mem}  : pj_step 83 (54, L, st, M) = some (56, L, .int 7 :: st, M) := st_bipush q83_54 (by decide +kernel)
theorem x83_54 {L : pj_Loc} {st : List Value} {M : pj_Mem}  {o9 : Option Value × pj_Mem} : pj_Ends 83 (54, L, st, M) o9 = pj_Ends 83 (56, L, .int 7 :: st, M) o9 := pj_xs (s83_54)
theorem q83_56 : pj_row 83 56 = some (.iaload, 1, 0, 0, 0) := by decide +kernel
theorem s83_56 {L : pj_Loc} {st : List Value} {N S : Nat} {H : pj_Heap} {o : Nat} {i : Int32} : pj_step 83 (56, L, .int i :: .ref o :: st, (N, S, H)) = pj_pi 57 L st (N, S, H) (pj_arl (H o) 0 i) := st_iaload q83_56
theorem x83_56 {L : pj_Loc} {st : List Value} {N S : Nat} {H : pj_Heap} {o : Nat} {i : Int32} {o9 : Option Value × pj_Mem} : pj_Ends 83 (56, L, .int i :: .ref o :: st, (N, S, H)) o9 = pj_then 83 o9 (pj_pi 57 L st (N, S, H) (pj_arl (H o) 0 i)) := pj_xt q83_56 rfl (pj_cl_nc rfl) (s83_56)
theorem q83_57 : pj_row 83 57 = some (.iconst 1, 1, 0, 0, 0) := by decide +kernel
theorem s83_57 {L : pj_Loc} {st : List Value} {M : pj_Mem}  : pj_step 83 (57, L, st, M) = some (58, L, .int 1 :: st, M) := st_iconst q83_57 (by decide +kernel)
theorem x83_57 {L : pj_Loc} {st : List Value} {M : pj_Mem}  {o9 : Option Value × pj_Mem} : pj_Ends 83 (57, L, st, M) o9 = pj_Ends 83 (58, L, .int 1 :: st, M) o9 := pj_xs (s83_57)
theorem q83_58 : pj_row 83 58 = some (.isub, 1, 0, 0, 0) := by decide +kernel
theorem s83_58 {L : pj_Loc} {st : List Value} {M : pj_Mem} {x y : Int32} : pj_step 83 (58, L, .int y :: .int x :: st, M) = some (59, L, .int (x - y) :: st, M) := st_isub q83_58
theorem x83_58 {L : pj_Loc} {st : List Value} {M : pj_Mem} {x y : Int32} {o9 : Option Value × pj_Mem} : pj_Ends 83 (58, L, .int y :: .int x :: st, M) o9 = pj_Ends 83 (59, L, .int (x - y) :: st, M) o9 := pj_xs (s83_58)
theorem q83_59 : pj_row 83 59 = some (.goto 4, 3, 63, 0, 0) := by decide +kernel
theorem s83_59 {L : pj_Loc} {st : List Value} {M : pj_Mem}  : pj_step 83 (59, L, st, M) = some (63, L, st, M) := st_goto q83_59
theorem x83_59 {L : pj_Loc} {st : List Value} {M : pj_Mem}  {o9 : Option Value × pj_Mem} : pj_Ends 83 (59, L, st, M) o9 = pj_Ends 83 (63, L, st, M) o9 := pj_xs (s83_59)
theorem q83_62 : pj_row 83 62 = some (.iconst 0, 1, 0, 0, 0) := by decide +kernel
theorem s83_62 {L : pj_Loc} {st : List Value} {M : pj_Mem}  : pj_step 83 (62, L, st, M) = some (63, L, .int 0 :: st, M) := st_iconst q83_62 (by decide +kernel)
theorem x83_62 {L : pj_Loc} {st : List Value} {M : pj_Mem}  {o9 : Option Value × pj_Mem} : pj_Ends 83 (62, L, st, M) o9 = pj_Ends 83 (63, L, .int 0 :: st, M) o9 := pj_xs (s83_62)
theorem q83_63 : pj_row 83 63 = some (.iastore, 1, 0, 0, 0) := by decide +kernel
theorem s83_63 {L : pj_Loc} {st : List Value} {N S : Nat} {H : pj_Heap} {o : Nat} {i x : Int32} : pj_step 83 (63, L, .int x :: .int i :: .ref o :: st, (N, S, H)) = pj_set 64 L st (N, S, H) o (pj_ars (H o) 0 i x) := st_iastore q83_63
theorem x83_63 {L : pj_Loc} {st : List Value} {N S : Nat} {H : pj_Heap} {o : Nat} {i x : Int32} {o9 : Option Value × pj_Mem} : pj_Ends 83 (63, L, .int x :: .int i :: .ref o :: st, (N, S, H)) o9 = pj_then 83 o9 (pj_set 64 L st (N, S, H) o (pj_ars (H o) 0 i x)) := pj_xt q83_63 rfl (pj_cl_nc rfl) (s83_63)
theorem q83_64 : pj_row 83 64 = some (.aload_n 0, 1, 0, 0, 0) := by decide +kernel
theorem s83_64 {st : List Value} {M : pj_Mem} {l : pj_Loc} {x : Nat} : pj_step 83 (64, some (.ref x) :: l, st, M) = some (65, some (.ref x) :: l, .ref x :: st, M) := st_aload_n q83_64 rfl
theorem x83_64 {st : List Value} {M : pj_Mem} {l : pj_Loc} {x : Nat} {o9 : Option Value × pj_Mem} : pj_Ends 83 (64, some (.ref x) :: l, st, M) o9 = pj_Ends 83 (65, some (.ref x) :: l, .ref x :: st, M) o9 := pj_xs (s83_64)
theorem q83_65 : pj_row 83 65 = some (.aload_n 0, 1, 0, 0, 0) := by decide +kernel
theorem s83_65 {st : List Value} {M : pj_Mem} {l : pj_Loc} {x : Nat} : pj_step 83 (65, some (.ref x) :: l, st, M) = some (66, some (.ref x) :: l, .ref x :: st, M) := st_aload_n q83_65 rfl
theorem x83_65 {st : List Value} {M : pj_Mem} {l : pj_Loc} {x : Nat} {o9 : Option Value × pj_Mem} : pj_Ends 83 (65, some (.ref x) :: l, st, M) o9 = pj_Ends 83 (66, some (.ref x) :: l, .ref x :: st, M) o9 := pj_xs (s83_65)
theorem q83_66 : pj_row 83 66 = some (.aload_n 0, 1, 0, 0, 0) := by decide +kernel
theorem s83_66 {st : List Value} {M : pj_Mem} {l : pj_Loc} {x : Nat} : pj_step 83 (66, some (.ref x) :: l, st, M) = some (67, some (.ref x) :: l, .ref x :: st, M) := st_aload_n q83_66 rfl
theorem x83_66 {st : List Value} {M : pj_Mem} {l : pj_Loc} {x : Nat} {o9 : Option Value × pj_Mem} : pj_Ends 83 (66, some (.ref x) :: l, st, M) o9 = pj_Ends 83 (67, some (.ref x) :: l, .ref x :: st, M) o9 := pj_xs (s83_66)
theorem q83_67 : pj_row 83 67 = some (.getfield 7, 3, 6, 0, 0) := by decide +kernel
theorem s83_67 {L : pj_Loc} {st : List Value} {N S : Nat} {H : pj_Heap} {o : Nat} : pj_step 83 (67, L, .ref o :: st, (N, S, H)) = pj_pv 70 L st (N, S, H) (pj_fld (H o) 6 0) := st_getfield q83_67
theorem x83_67 {L : pj_Loc} {st : List Value} {N S : Nat} {H : pj_Heap} {o : Nat} {o9 : Option Value × pj_Mem} : pj_Ends 83 (67, L, .ref o :: st, (N, S, H)) o9 = pj_then 83 o9 (pj_pv 70 L st (N, S, H) (pj_fld (H o) 6 0)) := pj_xt q83_67 rfl (pj_cl_nc rfl) (s83_67)
theorem q83_70 : pj_row 83 70 = some (.iconst 0, 1, 0, 0, 0) := by decide +kernel
theorem s83_70 {L : pj_Loc} {st : List Value} {M : pj_Mem}  : pj_step 83 (70, L, st, M) = some (71, L, .int 0 :: st, M) := st_iconst q83_70 (by decide +kernel)
theorem x83_70 {L : pj_Loc} {st : List Value} {M : pj_Mem}  {o9 : Option Value × pj_Mem} : pj_Ends 83 (70, L, st, M) o9 = pj_Ends 83 (71, L, .int 0 :: st, M) o9 := pj_xs (s83_70)
theorem q83_71 : pj_row 83 71 = some (.iaload, 1, 0, 0, 0) := by decide +kernel
theorem s83_71 {L : pj_Loc} {st : List Value} {N S : Nat} {H : pj_Heap} {o : Nat} {i : Int32} : pj_step 83 (71, L, .int i :: .ref o :: st, (N, S, H)) = pj_pi 72 L st (N, S, H) (pj_arl (H o) 0 i) := st_iaload q83_71
theorem x83_71 {L : pj_Loc} {st : List Value} {N S : Nat} {H : pj_Heap} {o : Nat} {i : Int32} {o9 : Option Value × pj_Mem} : pj_Ends 83 (71, L, .int i :: .ref o :: st, (N, S, H)) o9 = pj_then 83 o9 (pj_pi 72 L st (N, S, H) (pj_arl (H o) 0 i)) := pj_xt q83_71 rfl (pj_cl_nc rfl) (s83_71)
theorem q83_72 : pj_row 83 72 = some (.invokevirtual 98, 3, 93, 2, 0) := by decide +kernel
theorem e83_72 {L : pj_Loc} {st : List Value} {N S : Nat} {H : pj_Heap} {o : Option Value × pj_Mem} {M' : pj_Mem} {x0 : Nat} {x1 : Int32} {r : Int32} (h4 : pj_le4 st = true) (hu : pj_isU 6 (H x0) = true) (h1 : pj_Ends 93 (0, [some (.ref x0), some (.int x1), none, none], [], (N, S, H)) (some (.int r), M')) (h2 : pj_Ends 83 (75, L, .int r :: st, M') o) : pj_Ends 83 (72, L, .int x1 :: .ref x0 :: st, (N, S, H)) o := ec_v2 q83_72 (Or.inl rfl) h4 hu rfl h1 h2
theorem q83_75 : pj_row 83 75 = some (.putfield 72, 3, 6, 9, 0) := by decide +kernel
theorem s83_75 {L : pj_Loc} {st : List Value} {N S : Nat} {H : pj_Heap} {o : Nat} {v : Value} : pj_step 83 (75, L, v :: .ref o :: st, (N, S, H)) = pj_set 78 L st (N, S, H) o (pj_fset (H o) 6 9 v) := st_putfield q83_75
theorem x83_75 {L : pj_Loc} {st : List Value} {N S : Nat} {H : pj_Heap} {o : Nat} {v : Value} {o9 : Option Value × pj_Mem} : pj_Ends 83 (75, L, v :: .ref o :: st, (N, S, H)) o9 = pj_then 83 o9 (pj_set 78 L st (N, S, H) o (pj_fset (H o) 6 9 v)) := pj_xt q83_75 rfl (pj_cl_nc rfl) (s83_75)
theorem q83_78 : pj_row 83 78 = some (.aload_n 0, 1, 0, 0, 0) := by decide +kernel
theorem s83_78 {st : List Value} {M : pj_Mem} {l : pj_Loc} {x : Nat} : pj_step 83 (78, some (.ref x) :: l, st, M) = some (79, some (.ref x) :: l, .ref x :: st, M) := st_aload_n q83_78 rfl
theorem x83_78 {st : List Value} {M : pj_Mem} {l : pj_Loc} {x : Nat} {o9 : Option Value × pj_Mem} : pj_Ends 83 (78, some (.ref x) :: l, st, M) o9 = pj_Ends 83 (79, some (.ref x) :: l, .ref x :: st, M) o9 := pj_xs (s83_78)
theorem q83_79 : pj_row 83 79 = some (.aload_n 0, 1, 0, 0, 0) := by decide +kernel
theorem s83_79 {st : List Value} {M : pj_Mem} {l : pj_Loc} {x : Nat} : pj_step 83 (79, some (.ref x) :: l, st, M) = some (80, some (.ref x) :: l, .ref x :: st, M) := st_aload_n q83_79 rfl
theorem x83_79 {st : List Value} {M : pj_Mem} {l : pj_Loc} {x : Nat} {o9 : Option Value × pj_Mem} : pj_Ends 83 (79, some (.ref x) :: l, st, M) o9 = pj_Ends 83 (80, some (.ref x) :: l, .ref x :: st, M) o9 := pj_xs (s83_79)
theorem q83_80 : pj_row 83 80 = some (.aload_n 0, 1, 0, 0, 0) := by decide +kernel
theorem s83_80 {st : List Value} {M : pj_Mem} {l : pj_Loc} {x : Nat} : pj_step 83 (80, some (.ref x) :: l, st, M) = some (81, some (.ref x) :: l, .ref x :: st, M) := st_aload_n q83_80 rfl
theorem x83_80 {st : List Value} {M : pj_Mem} {l : pj_Loc} {x : Nat} {o9 : Option Value × pj_Mem} : pj_Ends 83 (80, some (.ref x) :: l, st, M) o9 = pj_Ends 83 (81, some (.ref x) :: l, .ref x :: st, M) o9 := pj_xs (s83_80)
theorem q83_81 : pj_row 83 81 = some (.getfield 7, 3, 6, 0, 0) := by decide +kernel
theorem s83_81 {L : pj_Loc} {st : List Value} {N S : Nat} {H : pj_Heap} {o : Nat} : pj_step 83 (81, L, .ref o :: st, (N, S, H)) = pj_pv 84 L st (N, S, H) (pj_fld (H o) 6 0) := st_getfield q83_81
theorem x83_81 {L : pj_Loc} {st : List Value} {N S : Nat} {H : pj_Heap} {o : Nat} {o9 : Option Value × pj_Mem} : pj_Ends 83 (81, L, .ref o :: st, (N, S, H)) o9 = pj_then 83 o9 (pj_pv 84 L st (N, S, H) (pj_fld (H o) 6 0)) := pj_xt q83_81 rfl (pj_cl_nc rfl) (s83_81)
theorem q83_84 : pj_row 83 84 = some (.iconst 1, 1, 0, 0, 0) := by decide +kernel
theorem s83_84 {L : pj_Loc} {st : List Value} {M : pj_Mem}  : pj_step 83 (84, L, st, M) = some (85, L, .int 1 :: st, M) := st_iconst q83_84 (by decide +kernel)
theorem x83_84 {L : pj_Loc} {st : List Value} {M : pj_Mem}  {o9 : Option Value × pj_Mem} : pj_Ends 83 (84, L, st, M) o9 = pj_Ends 83 (85, L, .int 1 :: st, M) o9 := pj_xs (s83_84)
theorem q83_85 : pj_row 83 85 = some (.iaload, 1, 0, 0, 0) := by decide +kernel
theorem s83_85 {L : pj_Loc} {st : List Value} {N S : Nat} {H : pj_Heap} {o : Nat} {i : Int32} : pj_step 83 (85, L, .int i :: .ref o :: st, (N, S, H)) = pj_pi 86 L st (N, S, H) (pj_arl (H o) 0 i) := st_iaload q83_85
theorem x83_85 {L : pj_Loc} {st : List Value} {N S : Nat} {H : pj_Heap} {o : Nat} {i : Int32} {o9 : Option Value × pj_Mem} : pj_Ends 83 (85, L, .int i :: .ref o :: st, (N, S, H)) o9 = pj_then 83 o9 (pj_pi 86 L st (N, S, H) (pj_arl (H o) 0 i)) := pj_xt q83_85 rfl (pj_cl_nc rfl) (s83_85)
theorem q83_86 : pj_row 83 86 = some (.invokevirtual 98, 3, 93, 2, 0) := by decide +kernel
theorem e83_86 {L : pj_Loc} {st : List Value} {N S : Nat} {H : pj_Heap} {o : Option Value × pj_Mem} {M' : pj_Mem} {x0 : Nat} {x1 : Int32} {r : Int32} (h4 : pj_le4 st = true) (hu : pj_isU 6 (H x0) = true) (h1 : pj_Ends 93 (0, [some (.ref x0), some (.int x1), none, none], [], (N, S, H)) (some (.int r), M')) (h2 : pj_Ends 83 (89, L, .int r :: st, M') o) : pj_Ends 83 (86, L, .int x1 :: .ref x0 :: st, (N, S, H)) o := ec_v2 q83_86 (Or.inl rfl) h4 hu rfl h1 h2
theorem q83_89 : pj_row 83 89 = some (.putfield 65, 3, 6, 10, 0) := by decide +kernel
theorem s83_89 {L : pj_Loc} {st : List Value} {N S : Nat} {H : pj_Heap} {o : Nat} {v : Value} : pj_step 83 (89, L, v :: .ref o :: st, (N, S, H)) = pj_set 92 L st (N, S, H) o (pj_fset (H o) 6 10 v) := st_putfield q83_89
theorem x83_89 {L : pj_Loc} {st : List Value} {N S : Nat} {H : pj_Heap} {o : Nat} {v : Value} {o9 : Option Value × pj_Mem} : pj_Ends 83 (89, L, v :: .ref o :: st, (N, S, H)) o9 = pj_then 83 o9 (pj_set 92 L st (N, S, H) o (pj_fset (H o) 6 10 v)) := pj_xt q83_89 rfl (pj_cl_nc rfl) (s83_89)
theorem q83_92 : pj_row 83 92 = some (.aload_n 0, 1, 0, 0, 0) := by decide +kernel
theorem s83_92 {st : List Value} {M : pj_Mem} {l : pj_Loc} {x : Nat} : pj_step 83 (92, some (.ref x) :: l, st, M) = some (93, some (.ref x) :: l, .ref x :: st, M) := st_aload_n q83_92 rfl
theorem x83_92 {st : List Value} {M : pj_Mem} {l : pj_Loc} {x : Nat} {o9 : Option Value × pj_Mem} : pj_Ends 83 (92, some (.ref x) :: l, st, M) o9 = pj_Ends 83 (93, some (.ref x) :: l, .ref x :: st, M) o9 := pj_xs (s83_92)
theorem q83_93 : pj_row 83 93 = some (.invokevirtual 101, 3, 94, 1, 0) := by decide +kernel
theorem e83_93 {L : pj_Loc} {st : List Value} {N S : Nat} {H : pj_Heap} {o : Option Value × pj_Mem} {M' : pj_Mem} {x0 : Nat} (h4 : pj_le4 st = true) (hu : pj_isU 6 (H x0) = true) (h1 : pj_Ends 94 (0, [some (.ref x0), none], [], (N, S, H)) (none, M')) (h2 : pj_Ends 83 (96, L, st, M') o) : pj_Ends 83 (93, L, .ref x0 :: st, (N, S, H)) o := ec_v1 q83_93 (Or.inl rfl) h4 hu rfl h1 h2
theorem q83_96 : pj_row 83 96 = some (.aload_n 0, 1, 0, 0, 0) := by decide +kernel
theorem s83_96 {st : List Value} {M : pj_Mem} {l : pj_Loc} {x : Nat} : pj_step 83 (96, some (.ref x) :: l, st, M) = some (97, some (.ref x) :: l, .ref x :: st, M) := st_aload_n q83_96 rfl
theorem x83_96 {st : List Value} {M : pj_Mem} {l : pj_Loc} {x : Nat} {o9 : Option Value × pj_Mem} : pj_Ends 83 (96, some (.ref x) :: l, st, M) o9 = pj_Ends 83 (97, some (.ref x) :: l, .ref x :: st, M) o9 := pj_xs (s83_96)
theorem q83_97 : pj_row 83 97 = some (.invokevirtual 104, 3, 97, 1, 0) := by decide +kernel
theorem e83_97 {L : pj_Loc} {st : List Value} {N S : Nat} {H : pj_Heap} {o : Option Value × pj_Mem} {M' : pj_Mem} {x0 : Nat} {r : Int32} (h4 : pj_le4 st = true) (hu : pj_isU 6 (H x0) = true) (h1 : pj_Ends 97 (0, [some (.ref x0)], [], (N, S, H)) (some (.int r), M')) (h2 : pj_Ends 83 (100, L, .int r :: st, M') o) : pj_Ends 83 (97, L, .ref x0 :: st, (N, S, H)) o := ec_v1 q83_97 (Or.inl rfl) h4 hu rfl h1 h2
theorem q83_100 : pj_row 83 100 = some (.ifCond .eq 8, 3, 108, 0, 0) := by decide +kernel
theorem s83_100 {L : pj_Loc} {st : List Value} {M : pj_Mem} {x : Int32} : pj_step 83 (100, L, .int x :: st, M) = some (if x = 0 then 108 else 103, L, st, M) := st_if_eq q83_100
theorem x83_100 {L : pj_Loc} {st : List Value} {M : pj_Mem} {x : Int32} {o9 : Option Value × pj_Mem} : pj_Ends 83 (100, L, .int x :: st, M) o9 = pj_Ends 83 (if x = 0 then 108 else 103, L, st, M) o9 := pj_xs (s83_100)
theorem q83_103 : pj_row 83 103 = some (.aload_n 0, 1, 0, 0, 0) := by decide +kernel
theorem s83_103 {st : List Value} {M : pj_Mem} {l : pj_Loc} {x : Nat} : pj_step 83 (103, some (.ref x) :: l, st, M) = some (104, some (.ref x) :: l, .ref x :: st, M) := st_aload_n q83_103 rfl
theorem x83_103 {st : List Value} {M : pj_Mem} {l : pj_Loc} {x : Nat} {o9 : Option Value × pj_Mem} : pj_Ends 83 (103, some (.ref x) :: l, st, M) o9 = pj_Ends 83 (104, some (.ref x) :: l, .ref x :: st, M) o9 := pj_xs (s83_103)
theorem q83_104 : pj_row 83 104 = some (.iload_n 1, 1, 0, 0, 0) := by decide +kernel
theorem s83_104 {st : List Value} {M : pj_Mem} {l : pj_Loc} {a0 : Option Value} {x : Int32} : pj_step 83 (104, a0 :: some (.int x) :: l, st, M) = some (105, a0 :: some (.int x) :: l, .int x :: st, M) := st_iload_n q83_104 rfl
theorem x83_104 {st : List Value} {M : pj_Mem} {l : pj_Loc} {a0 : Option Value} {x : Int32} {o9 : Option Value × pj_Mem} : pj_Ends 83 (104, a0 :: some (.int x) :: l, st, M) o9 = pj_Ends 83 (105, a0 :: some (.int x) :: l, .int x :: st, M) o9 := pj_xs (s83_104)
theorem q83_105 : pj_row 83 105 = some (.invokevirtual 108, 3, 98, 2, 0) := by decide +kernel
theorem e83_105 {L : pj_Loc} {st : List Value} {N S : Nat} {H : pj_Heap} {o : Option Value × pj_Mem} {M' : pj_Mem} {x0 : Nat} {x1 : Int32} (h4 : pj_le4 st = true) (hu : pj_isU 6 (H x0) = true) (h1 : pj_Ends 98 (0, [some (.ref x0), some (.int x1), none, none], [], (N, S, H)) (none, M')) (h2 : pj_Ends 83 (108, L, st, M') o) : pj_Ends 83 (105, L, .int x1 :: .ref x0 :: st, (N, S, H)) o := ec_v2 q83_105 (Or.inl rfl) h4 hu rfl h1 h2
theorem q83_108 : pj_row 83 108 = some (.aload_n 0, 1, 0, 0, 0) := by decide +kernel
theorem s83_108 {st : List Value} {M : pj_Mem} {l : pj_Loc} {x : Nat} : pj_step 83 (108, some (.ref x) :: l, st, M) = some (109, some (.ref x) :: l, .ref x :: st, M) := st_aload_n q83_108 rfl
theorem x83_108 {st : List Value} {M : pj_Mem} {l : pj_Loc} {x : Nat} {o9 : Option Value × pj_Mem} : pj_Ends 83 (108, some (.ref x) :: l, st, M) o9 = pj_Ends 83 (109, some (.ref x) :: l, .ref x :: st, M) o9 := pj_xs (s83_108)
theorem q83_109 : pj_row 83 109 = some (.getfield 7, 3, 6, 0, 0) := by decide +kernel
theorem s83_109 {L : pj_Loc} {st : List Value} {N S : Nat} {H : pj_Heap} {o : Nat} : pj_step 83 (109, L, .ref o :: st, (N, S, H)) = pj_pv 112 L st (N, S, H) (pj_fld (H o) 6 0) := st_getfield q83_109
theorem x83_109 {L : pj_Loc} {st : List Value} {N S : Nat} {H : pj_Heap} {o : Nat} {o9 : Option Value × pj_Mem} : pj_Ends 83 (109, L, .ref o :: st, (N, S, H)) o9 = pj_then 83 o9 (pj_pv 112 L st (N, S, H) (pj_fld (H o) 6 0)) := pj_xt q83_109 rfl (pj_cl_nc rfl) (s83_109)
theorem q83_112 : pj_row 83 112 = some (.bipush 29, 2, 0, 0, 0) := by decide +kernel
theorem s83_112 {L : pj_Loc} {st : List Value} {M : pj_Mem}  : pj_step 83 (112, L, st, M) = some (114, L, .int 29 :: st, M) := st_bipush q83_112 (by decide +kernel)
theorem x83_112 {L : pj_Loc} {st : List Value} {M : pj_Mem}  {o9 : Option Value × pj_Mem} : pj_Ends 83 (112, L, st, M) o9 = pj_Ends 83 (114, L, .int 29 :: st, M) o9 := pj_xs (s83_112)
theorem q83_114 : pj_row 83 114 = some (.aload_n 0, 1, 0, 0, 0) := by decide +kernel
theorem s83_114 {st : List Value} {M : pj_Mem} {l : pj_Loc} {x : Nat} : pj_step 83 (114, some (.ref x) :: l, st, M) = some (115, some (.ref x) :: l, .ref x :: st, M) := st_aload_n q83_114 rfl
theorem x83_114 {st : List Value} {M : pj_Mem} {l : pj_Loc} {x : Nat} {o9 : Option Value × pj_Mem} : pj_Ends 83 (114, some (.ref x) :: l, st, M) o9 = pj_Ends 83 (115, some (.ref x) :: l, .ref x :: st, M) o9 := pj_xs (s83_114)
theorem q83_115 : pj_row 83 115 = some (.getfield 75, 3, 6, 11, 0) := by decide +kernel
theorem s83_115 {L : pj_Loc} {st : List Value} {N S : Nat} {H : pj_Heap} {o : Nat} : pj_step 83 (115, L, .ref o :: st, (N, S, H)) = pj_pv 118 L st (N, S, H) (pj_fld (H o) 6 11) := st_getfield q83_115
theorem x83_115 {L : pj_Loc} {st : List Value} {N S : Nat} {H : pj_Heap} {o : Nat} {o9 : Option Value × pj_Mem} : pj_Ends 83 (115, L, .ref o :: st, (N, S, H)) o9 = pj_then 83 o9 (pj_pv 118 L st (N, S, H) (pj_fld (H o) 6 11)) := pj_xt q83_115 rfl (pj_cl_nc rfl) (s83_115)
theorem q83_118 : pj_row 83 118 = some (.ifCond .eq 25, 3, 143, 0, 0) := by decide +kernel
theorem s83_118 {L : pj_Loc} {st : List Value} {M : pj_Mem} {x : Int32} : pj_step 83 (118, L, .int x :: st, M) = some (if x = 0 then 143 else 121, L, st, M) := st_if_eq q83_118
theorem x83_118 {L : pj_Loc} {st : List Value} {M : pj_Mem} {x : Int32} {o9 : Option Value × pj_Mem} : pj_Ends 83 (118, L, .int x :: st, M) o9 = pj_Ends 83 (if x = 0 then 143 else 121, L, st, M) o9 := pj_xs (s83_118)
theorem q83_121 : pj_row 83 121 = some (.aload_n 0, 1, 0, 0, 0) := by decide +kernel
theorem s83_121 {st : List Value} {M : pj_Mem} {l : pj_Loc} {x : Nat} : pj_step 83 (121, some (.ref x) :: l, st, M) = some (122, some (.ref x) :: l, .ref x :: st, M) := st_aload_n q83_121 rfl
theorem x83_121 {st : List Value} {M : pj_Mem} {l : pj_Loc} {x : Nat} {o9 : Option Value × pj_Mem} : pj_Ends 83 (121, some (.ref x) :: l, st, M) o9 = pj_Ends 83 (122, some (.ref x) :: l, .ref x :: st, M) o9 := pj_xs (s83_121)
theorem q83_122 : pj_row 83 122 = some (.getfield 7, 3, 6, 0, 0) := by decide +kernel
theorem s83_122 {L : pj_Loc} {st : List Value} {N S : Nat} {H : pj_Heap} {o : Nat} : pj_step 83 (122, L, .ref o :: st, (N, S, H)) = pj_pv 125 L st (N, S, H) (pj_fld (H o) 6 0) := st_getfield q83_122
theorem x83_122 {L : pj_Loc} {st : List Value} {N S : Nat} {H : pj_Heap} {o : Nat} {o9 : Option Value × pj_Mem} : pj_Ends 83 (122, L, .ref o :: st, (N, S, H)) o9 = pj_then 83 o9 (pj_pv 125 L st (N, S, H) (pj_fld (H o) 6 0)) := pj_xt q83_122 rfl (pj_cl_nc rfl) (s83_122)
theorem q83_125 : pj_row 83 125 = some (.bipush 29, 2, 0, 0, 0) := by decide +kernel
theorem s83_125 {L : pj_Loc} {st : List Value} {M : pj_Mem}  : pj_step 83 (125, L, st, M) = some (127, L, .int 29 :: st, M) := st_bipush q83_125 (by decide +kernel)
theorem x83_125 {L : pj_Loc} {st : List Value} {M : pj_Mem}  {o9 : Option Value × pj_Mem} : pj_Ends 83 (125, L, st, M) o9 = pj_Ends 83 (127, L, .int 29 :: st, M) o9 := pj_xs (s83_125)
theorem q83_127 : pj_row 83 127 = some (.iaload, 1, 0, 0, 0) := by decide +kernel
theorem s83_127 {L : pj_Loc} {st : List Value} {N S : Nat} {H : pj_Heap} {o : Nat} {i : Int32} : pj_step 83 (127, L, .int i :: .ref o :: st, (N, S, H)) = pj_pi 128 L st (N, S, H) (pj_arl (H o) 0 i) := st_iaload q83_127
theorem x83_127 {L : pj_Loc} {st : List Value} {N S : Nat} {H : pj_Heap} {o : Nat} {i : Int32} {o9 : Option Value × pj_Mem} : pj_Ends 83 (127, L, .int i :: .ref o :: st, (N, S, H)) o9 = pj_then 83 o9 (pj_pi 128 L st (N, S, H) (pj_arl (H o) 0 i)) := pj_xt q83_127 rfl (pj_cl_nc rfl) (s83_127)
theorem q83_128 : pj_row 83 128 = some (.bipush (-6), 2, 0, 0, 0) := by decide +kernel
theorem s83_128 {L : pj_Loc} {st : List Value} {M : pj_Mem}  : pj_step 83 (128, L, st, M) = some (130, L, .int (-6) :: st, M) := st_bipush q83_128 (by decide +kernel)
theorem x83_128 {L : pj_Loc} {st : List Value} {M : pj_Mem}  {o9 : Option Value × pj_Mem} : pj_Ends 83 (128, L, st, M) o9 = pj_Ends 83 (130, L, .int (-6) :: st, M) o9 := pj_xs (s83_128)
theorem q83_130 : pj_row 83 130 = some (.if_icmp .ne 13, 3, 143, 0, 0) := by decide +kernel
theorem s83_130 {L : pj_Loc} {st : List Value} {M : pj_Mem} {x y : Int32} : pj_step 83 (130, L, .int y :: .int x :: st, M) = some (if ¬ x = y then 143 else 133, L, st, M) := st_icmp_ne q83_130
theorem x83_130 {L : pj_Loc} {st : List Value} {M : pj_Mem} {x y : Int32} {o9 : Option Value × pj_Mem} : pj_Ends 83 (130, L, .int y :: .int x :: st, M) o9 = pj_Ends 83 (if ¬ x = y then 143 else 133, L, st, M) o9 := pj_xs (s83_130)
theorem q83_133 : pj_row 83 133 = some (.aload_n 0, 1, 0, 0, 0) := by decide +kernel
theorem s83_133 {st : List Value} {M : pj_Mem} {l : pj_Loc} {x : Nat} : pj_step 83 (133, some (.ref x) :: l, st, M) = some (134, some (.ref x) :: l, .ref x :: st, M) := st_aload_n q83_133 rfl
theorem x83_133 {st : List Value} {M : pj_Mem} {l : pj_Loc} {x : Nat} {o9 : Option Value × pj_Mem} : pj_Ends 83 (133, some (.ref x) :: l, st, M) o9 = pj_Ends 83 (134, some (.ref x) :: l, .ref x :: st, M) o9 := pj_xs (s83_133)
theorem q83_134 : pj_row 83 134 = some (.getfield 7, 3, 6, 0, 0) := by decide +kernel
theorem s83_134 {L : pj_Loc} {st : List Value} {N S : Nat} {H : pj_Heap} {o : Nat} : pj_step 83 (134, L, .ref o :: st, (N, S, H)) = pj_pv 137 L st (N, S, H) (pj_fld (H o) 6 0) := st_getfield q83_134
theorem x83_134 {L : pj_Loc} {st : List Value} {N S : Nat} {H : pj_Heap} {o : Nat} {o9 : Option Value × pj_Mem} : pj_Ends 83 (134, L, .ref o :: st, (N, S, H)) o9 = pj_then 83 o9 (pj_pv 137 L st (N, S, H) (pj_fld (H o) 6 0)) := pj_xt q83_134 rfl (pj_cl_nc rfl) (s83_134)
theorem q83_137 : pj_row 83 137 = some (.bipush 6, 2, 0, 0, 0) := by decide +kernel
theorem s83_137 {L : pj_Loc} {st : List Value} {M : pj_Mem}  : pj_step 83 (137, L, st, M) = some (139, L, .int 6 :: st, M) := st_bipush q83_137 (by decide +kernel)
theorem x83_137 {L : pj_Loc} {st : List Value} {M : pj_Mem}  {o9 : Option Value × pj_Mem} : pj_Ends 83 (137, L, st, M) o9 = pj_Ends 83 (139, L, .int 6 :: st, M) o9 := pj_xs (s83_137)
theorem q83_139 : pj_row 83 139 = some (.iaload, 1, 0, 0, 0) := by decide +kernel
theorem s83_139 {L : pj_Loc} {st : List Value} {N S : Nat} {H : pj_Heap} {o : Nat} {i : Int32} : pj_step 83 (139, L, .int i :: .ref o :: st, (N, S, H)) = pj_pi 140 L st (N, S, H) (pj_arl (H o) 0 i) := st_iaload q83_139
theorem x83_139 {L : pj_Loc} {st : List Value} {N S : Nat} {H : pj_Heap} {o : Nat} {i : Int32} {o9 : Option Value × pj_Mem} : pj_Ends 83 (139, L, .int i :: .ref o :: st, (N, S, H)) o9 = pj_then 83 o9 (pj_pi 140 L st (N, S, H) (pj_arl (H o) 0 i)) := pj_xt q83_139 rfl (pj_cl_nc rfl) (s83_139)
theorem q83_140 : pj_row 83 140 = some (.goto 10, 3, 150, 0, 0) := by decide +kernel
theorem s83_140 {L : pj_Loc} {st : List Value} {M : pj_Mem}  : pj_step 83 (140, L, st, M) = some (150, L, st, M) := st_goto q83_140
theorem x83_140 {L : pj_Loc} {st : List Value} {M : pj_Mem}  {o9 : Option Value × pj_Mem} : pj_Ends 83 (140, L, st, M) o9 = pj_Ends 83 (150, L, st, M) o9 := pj_xs (s83_140)
theorem q83_143 : pj_row 83 143 = some (.aload_n 0, 1, 0, 0, 0) := by decide +kernel
theorem s83_143 {st : List Value} {M : pj_Mem} {l : pj_Loc} {x : Nat} : pj_step 83 (143, some (.ref x) :: l, st, M) = some (144, some (.ref x) :: l, .ref x :: st, M) := st_aload_n q83_143 rfl
theorem x83_143 {st : List Value} {M : pj_Mem} {l : pj_Loc} {x : Nat} {o9 : Option Value × pj_Mem} : pj_Ends 83 (143, some (.ref x) :: l, st, M) o9 = pj_Ends 83 (144, some (.ref x) :: l, .ref x :: st, M) o9 := pj_xs (s83_143)
theorem q83_144 : pj_row 83 144 = some (.getfield 7, 3, 6, 0, 0) := by decide +kernel
theorem s83_144 {L : pj_Loc} {st : List Value} {N S : Nat} {H : pj_Heap} {o : Nat} : pj_step 83 (144, L, .ref o :: st, (N, S, H)) = pj_pv 147 L st (N, S, H) (pj_fld (H o) 6 0) := st_getfield q83_144
theorem x83_144 {L : pj_Loc} {st : List Value} {N S : Nat} {H : pj_Heap} {o : Nat} {o9 : Option Value × pj_Mem} : pj_Ends 83 (144, L, .ref o :: st, (N, S, H)) o9 = pj_then 83 o9 (pj_pv 147 L st (N, S, H) (pj_fld (H o) 6 0)) := pj_xt q83_144 rfl (pj_cl_nc rfl) (s83_144)
theorem q83_147 : pj_row 83 147 = some (.bipush 29, 2, 0, 0, 0) := by decide +kernel
theorem s83_147 {L : pj_Loc} {st : List Value} {M : pj_Mem}  : pj_step 83 (147, L, st, M) = some (149, L, .int 29 :: st, M) := st_bipush q83_147 (by decide +kernel)
theorem x83_147 {L : pj_Loc} {st : List Value} {M : pj_Mem}  {o9 : Option Value × pj_Mem} : pj_Ends 83 (147, L, st, M) o9 = pj_Ends 83 (149, L, .int 29 :: st, M) o9 := pj_xs (s83_147)
theorem q83_149 : pj_row 83 149 = some (.iaload, 1, 0, 0, 0) := by decide +kernel
theorem s83_149 {L : pj_Loc} {st : List Value} {N S : Nat} {H : pj_Heap} {o : Nat} {i : Int32} : pj_step 83 (149, L, .int i :: .ref o :: st, (N, S, H)) = pj_pi 150 L st (N, S, H) (pj_arl (H o) 0 i) := st_iaload q83_149
theorem x83_149 {L : pj_Loc} {st : List Value} {N S : Nat} {H : pj_Heap} {o : Nat} {i : Int32} {o9 : Option Value × pj_Mem} : pj_Ends 83 (149, L, .int i :: .ref o :: st, (N, S, H)) o9 = pj_then 83 o9 (pj_pi 150 L st (N, S, H) (pj_arl (H o) 0 i)) := pj_xt q83_149 rfl (pj_cl_nc rfl) (s83_149)
theorem q83_150 : pj_row 83 150 = some (.iastore, 1, 0, 0, 0) := by decide +kernel
theorem s83_150 {L : pj_Loc} {st : List Value} {N S : Nat} {H : pj_Heap} {o : Nat} {i x : Int32} : pj_step 83 (150, L, .int x :: .int i :: .ref o :: st, (N, S, H)) = pj_set 151 L st (N, S, H) o (pj_ars (H o) 0 i x) := st_iastore q83_150
theorem x83_150 {L : pj_Loc} {st : List Value} {N S : Nat} {H : pj_Heap} {o : Nat} {i x : Int32} {o9 : Option Value × pj_Mem} : pj_Ends 83 (150, L, .int x :: .int i :: .ref o :: st, (N, S, H)) o9 = pj_then 83 o9 (pj_set 151 L st (N, S, H) o (pj_ars (H o) 0 i x)) := pj_xt q83_150 rfl (pj_cl_nc rfl) (s83_150)
theorem q83_151 : pj_row 83 151 = some (.aload_n 0, 1, 0, 0, 0) := by decide +kernel
theorem s83_151 {st : List Value} {M : pj_Mem} {l : pj_Loc} {x : Nat} : pj_step 83 (151, some (.ref x) :: l, st, M) = some (152, some (.ref x) :: l, .ref x :: st, M) := st_aload_n q83_151 rfl
theorem x83_151 {st : List Value} {M : pj_Mem} {l : pj_Loc} {x : Nat} {o9 : Option Value × pj_Mem} : pj_Ends 83 (151, some (.ref x) :: l, st, M) o9 = pj_Ends 83 (152, some (.ref x) :: l, .ref x :: st, M) o9 := pj_xs (s83_151)
theorem q83_152 : pj_row 83 152 = some (.getfield 7, 3, 6, 0, 0) := by decide +kernel
theorem s83_152 {L : pj_Loc} {st : List Value} {N S : Nat} {H : pj_Heap} {o : Nat} : pj_step 83 (152, L, .ref o :: st, (N, S, H)) = pj_pv 155 L st (N, S, H) (pj_fld (H o) 6 0) := st_getfield q83_152
theorem x83_152 {L : pj_Loc} {st : List Value} {N S : Nat} {H : pj_Heap} {o : Nat} {o9 : Option Value × pj_Mem} : pj_Ends 83 (152, L, .ref o :: st, (N, S, H)) o9 = pj_then 83 o9 (pj_pv 155 L st (N, S, H) (pj_fld (H o) 6 0)) := pj_xt q83_152 rfl (pj_cl_nc rfl) (s83_152)
theorem q83_155 : pj_row 83 155 = some (.bipush 6, 2, 0, 0, 0) := by decide +kernel
theorem s83_155 {L : pj_Loc} {st : List Value} {M : pj_Mem}  : pj_step 83 (155, L, st, M) = some (157, L, .int 6 :: st, M) := st_bipush q83_155 (by decide +kernel)
theorem x83_155 {L : pj_Loc} {st : List Value} {M : pj_Mem}  {o9 : Option Value × pj_Mem} : pj_Ends 83 (155, L, st, M) o9 = pj_Ends 83 (157, L, .int 6 :: st, M) o9 := pj_xs (s83_155)
theorem q83_157 : pj_row 83 157 = some (.dup2, 1, 0, 0, 0) := by decide +kernel
theorem s83_157 {L : pj_Loc} {st : List Value} {M : pj_Mem} {x : Int32} {o : Nat} : pj_step 83 (157, L, .int x :: .ref o :: st, M) = some (158, L, .int x :: .ref o :: .int x :: .ref o :: st, M) := st_dup2 q83_157
theorem x83_157 {L : pj_Loc} {st : List Value} {M : pj_Mem} {x : Int32} {o : Nat} {o9 : Option Value × pj_Mem} : pj_Ends 83 (157, L, .int x :: .ref o :: st, M) o9 = pj_Ends 83 (158, L, .int x :: .ref o :: .int x :: .ref o :: st, M) o9 := pj_xs (s83_157)
theorem q83_158 : pj_row 83 158 = some (.iaload, 1, 0, 0, 0) := by decide +kernel
theorem s83_158 {L : pj_Loc} {st : List Value} {N S : Nat} {H : pj_Heap} {o : Nat} {i : Int32} : pj_step 83 (158, L, .int i :: .ref o :: st, (N, S, H)) = pj_pi 159 L st (N, S, H) (pj_arl (H o) 0 i) := st_iaload q83_158
theorem x83_158 {L : pj_Loc} {st : List Value} {N S : Nat} {H : pj_Heap} {o : Nat} {i : Int32} {o9 : Option Value × pj_Mem} : pj_Ends 83 (158, L, .int i :: .ref o :: st, (N, S, H)) o9 = pj_then 83 o9 (pj_pi 159 L st (N, S, H) (pj_arl (H o) 0 i)) := pj_xt q83_158 rfl (pj_cl_nc rfl) (s83_158)
theorem q83_159 : pj_row 83 159 = some (.iconst 1, 1, 0, 0, 0) := by decide +kernel
theorem s83_159 {L : pj_Loc} {st : List Value} {M : pj_Mem}  : pj_step 83 (159, L, st, M) = some (160, L, .int 1 :: st, M) := st_iconst q83_159 (by decide +kernel)
theorem x83_159 {L : pj_Loc} {st : List Value} {M : pj_Mem}  {o9 : Option Value × pj_Mem} : pj_Ends 83 (159, L, st, M) o9 = pj_Ends 83 (160, L, .int 1 :: st, M) o9 := pj_xs (s83_159)
theorem q83_160 : pj_row 83 160 = some (.iadd, 1, 0, 0, 0) := by decide +kernel
theorem s83_160 {L : pj_Loc} {st : List Value} {M : pj_Mem} {x y : Int32} : pj_step 83 (160, L, .int y :: .int x :: st, M) = some (161, L, .int (x + y) :: st, M) := st_iadd q83_160
theorem x83_160 {L : pj_Loc} {st : List Value} {M : pj_Mem} {x y : Int32} {o9 : Option Value × pj_Mem} : pj_Ends 83 (160, L, .int y :: .int x :: st, M) o9 = pj_Ends 83 (161, L, .int (x + y) :: st, M) o9 := pj_xs (s83_160)
theorem q83_161 : pj_row 83 161 = some (.iastore, 1, 0, 0, 0) := by decide +kernel
theorem s83_161 {L : pj_Loc} {st : List Value} {N S : Nat} {H : pj_Heap} {o : Nat} {i x : Int32} : pj_step 83 (161, L, .int x :: .int i :: .ref o :: st, (N, S, H)) = pj_set 162 L st (N, S, H) o (pj_ars (H o) 0 i x) := st_iastore q83_161
theorem x83_161 {L : pj_Loc} {st : List Value} {N S : Nat} {H : pj_Heap} {o : Nat} {i x : Int32} {o9 : Option Value × pj_Mem} : pj_Ends 83 (161, L, .int x :: .int i :: .ref o :: st, (N, S, H)) o9 = pj_then 83 o9 (pj_set 162 L st (N, S, H) o (pj_ars (H o) 0 i x)) := pj_xt q83_161 rfl (pj_cl_nc rfl) (s83_161)
theorem q83_162 : pj_row 83 162 = some (.return_, 1, 0, 0, 0) := by decide +kernel
theorem t83_162 {L : pj_Loc} {M : pj_Mem} : pj_Ends 83 (162, L, [], M) (none, M) := pj_Ends.ret q83_162 (pj_rtn_v rt83)
theorem rt84 : pj_rt 84 = none := rfl
theorem q84_0 : pj_row 84 0 = some (.iconst 0, 1, 0, 0, 0) := by decide +kernel
theorem s84_0 {L : pj_Loc} {st : List Value} {M : pj_Mem}  : pj_step 84 (0, L, st, M) = some (1, L, .int 0 :: st, M) := st_iconst q84_0 (by decide +kernel)
theorem x84_0 {L : pj_Loc} {st : List Value} {M : pj_Mem}  {o9 : Option Value × pj_Mem} : pj_Ends 84 (0, L, st, M) o9 = pj_Ends 84 (1, L, .int 0 :: st, M) o9 := pj_xs (s84_0)
theorem q84_1 : pj_row 84 1 = some (.istore_n 1, 1, 0, 0, 0) := by decide +kernel
theorem s84_1 {st : List Value} {M : pj_Mem} {l : pj_Loc} {a0 a1 : Option Value} {x : Int32} (h : pj_long a0 = false) : pj_step 84 (1, a0 :: a1 :: l, .int x :: st, M) = some (2, a0 :: some (.int x) :: l, st, M) := st_istore_n q84_1 (pj_st_1 h)
theorem x84_1 {st : List Value} {M : pj_Mem} {l : pj_Loc} {a0 a1 : Option Value} {x : Int32} (h : pj_long a0 = false) {o9 : Option Value × pj_Mem} : pj_Ends 84 (1, a0 :: a1 :: l, .int x :: st, M) o9 = pj_Ends 84 (2, a0 :: some (.int x) :: l, st, M) o9 := pj_xs (s84_1 h)
theorem q84_2 : pj_row 84 2 = some (.iload_n 1, 1, 0, 0, 0) := by decide +kernel
theorem s84_2 {st : List Value} {M : pj_Mem} {l : pj_Loc} {a0 : Option Value} {x : Int32} : pj_step 84 (2, a0 :: some (.int x) :: l, st, M) = some (3, a0 :: some (.int x) :: l, .int x :: st, M) := st_iload_n q84_2 rfl
theorem x84_2 {st : List Value} {M : pj_Mem} {l : pj_Loc} {a0 : Option Value} {x : Int32} {o9 : Option Value × pj_Mem} : pj_Ends 84 (2, a0 :: some (.int x) :: l, st, M) o9 = pj_Ends 84 (3, a0 :: some (.int x) :: l, .int x :: st, M) o9 := pj_xs (s84_2)
theorem q84_3 : pj_row 84 3 = some (.iconst 3, 1, 0, 0, 0) := by decide +kernel
theorem s84_3 {L : pj_Loc} {st : List Value} {M : pj_Mem}  : pj_step 84 (3, L, st, M) = some (4, L, .int 3 :: st, M) := st_iconst q84_3 (by decide +kernel)
theorem x84_3 {L : pj_Loc} {st : List Value} {M : pj_Mem}  {o9 : Option Value × pj_Mem} : pj_Ends 84 (3, L, st, M) o9 = pj_Ends 84 (4, L, .int 3 :: st, M) o9 := pj_xs (s84_3)
theorem q84_4 : pj_row 84 4 = some (.if_icmp .ge 128, 3, 132, 0, 0) := by decide +kernel
theorem s84_4 {L : pj_Loc} {st : List Value} {M : pj_Mem} {x y : Int32} : pj_step 84 (4, L, .int y :: .int x :: st, M) = some (if y ≤ x then 132 else 7, L, st, M) := st_icmp_ge q84_4
theorem x84_4 {L : pj_Loc} {st : List Value} {M : pj_Mem} {x y : Int32} {o9 : Option Value × pj_Mem} : pj_Ends 84 (4, L, .int y :: .int x :: st, M) o9 = pj_Ends 84 (if y ≤ x then 132 else 7, L, st, M) o9 := pj_xs (s84_4)
theorem q84_7 : pj_row 84 7 = some (.aload_n 0, 1, 0, 0, 0) := by decide +kernel
theorem s84_7 {st : List Value} {M : pj_Mem} {l : pj_Loc} {x : Nat} : pj_step 84 (7, some (.ref x) :: l, st, M) = some (8, some (.ref x) :: l, .ref x :: st, M) := st_aload_n q84_7 rfl
theorem x84_7 {st : List Value} {M : pj_Mem} {l : pj_Loc} {x : Nat} {o9 : Option Value × pj_Mem} : pj_Ends 84 (7, some (.ref x) :: l, st, M) o9 = pj_Ends 84 (8, some (.ref x) :: l, .ref x :: st, M) o9 := pj_xs (s84_7)
theorem q84_8 : pj_row 84 8 = some (.getfield 7, 3, 6, 0, 0) := by decide +kernel
theorem s84_8 {L : pj_Loc} {st : List Value} {N S : Nat} {H : pj_Heap} {o : Nat} : pj_step 84 (8, L, .ref o :: st, (N, S, H)) = pj_pv 11 L st (N, S, H) (pj_fld (H o) 6 0) := st_getfield q84_8
theorem x84_8 {L : pj_Loc} {st : List Value} {N S : Nat} {H : pj_Heap} {o : Nat} {o9 : Option Value × pj_Mem} : pj_Ends 84 (8, L, .ref o :: st, (N, S, H)) o9 = pj_then 84 o9 (pj_pv 11 L st (N, S, H) (pj_fld (H o) 6 0)) := pj_xt q84_8 rfl (pj_cl_nc rfl) (s84_8)
theorem q84_11 : pj_row 84 11 = some (.bipush 17, 2, 0, 0, 0) := by decide +kernel
theorem s84_11 {L : pj_Loc} {st : List Value} {M : pj_Mem}  : pj_step 84 (11, L, st, M) = some (13, L, .int 17 :: st, M) := st_bipush q84_11 (by decide +kernel)
theorem x84_11 {L : pj_Loc} {st : List Value} {M : pj_Mem}  {o9 : Option Value × pj_Mem} : pj_Ends 84 (11, L, st, M) o9 = pj_Ends 84 (13, L, .int 17 :: st, M) o9 := pj_xs (s84_11)
theorem q84_13 : pj_row 84 13 = some (.iload_n 1, 1, 0, 0, 0) := by decide +kernel
theorem s84_13 {st : List Value} {M : pj_Mem} {l : pj_Loc} {a0 : Option Value} {x : Int32} : pj_step 84 (13, a0 :: some (.int x) :: l, st, M) = some (14, a0 :: some (.int x) :: l, .int x :: st, M) := st_iload_n q84_13 rfl
theorem x84_13 {st : List Value} {M : pj_Mem} {l : pj_Loc} {a0 : Option Value} {x : Int32} {o9 : Option Value × pj_Mem} : pj_Ends 84 (13, a0 :: some (.int x) :: l, st, M) o9 = pj_Ends 84 (14, a0 :: some (.int x) :: l, .int x :: st, M) o9 := pj_xs (s84_13)
theorem q84_14 : pj_row 84 14 = some (.iadd, 1, 0, 0, 0) := by decide +kernel
theorem s84_14 {L : pj_Loc} {st : List Value} {M : pj_Mem} {x y : Int32} : pj_step 84 (14, L, .int y :: .int x :: st, M) = some (15, L, .int (x + y) :: st, M) := st_iadd q84_14
theorem x84_14 {L : pj_Loc} {st : List Value} {M : pj_Mem} {x y : Int32} {o9 : Option Value × pj_Mem} : pj_Ends 84 (14, L, .int y :: .int x :: st, M) o9 = pj_Ends 84 (15, L, .int (x + y) :: st, M) o9 := pj_xs (s84_14)
theorem q84_15 : pj_row 84 15 = some (.iaload, 1, 0, 0, 0) := by decide +kernel
theorem s84_15 {L : pj_Loc} {st : List Value} {N S : Nat} {H : pj_Heap} {o : Nat} {i : Int32} : pj_step 84 (15, L, .int i :: .ref o :: st, (N, S, H)) = pj_pi 16 L st (N, S, H) (pj_arl (H o) 0 i) := st_iaload q84_15
theorem x84_15 {L : pj_Loc} {st : List Value} {N S : Nat} {H : pj_Heap} {o : Nat} {i : Int32} {o9 : Option Value × pj_Mem} : pj_Ends 84 (15, L, .int i :: .ref o :: st, (N, S, H)) o9 = pj_then 84 o9 (pj_pi 16 L st (N, S, H) (pj_arl (H o) 0 i)) := pj_xt q84_15 rfl (pj_cl_nc rfl) (s84_15)
theorem q84_16 : pj_row 84 16 = some (.ifCond .le 25, 3, 41, 0, 0) := by decide +kernel
theorem s84_16 {L : pj_Loc} {st : List Value} {M : pj_Mem} {x : Int32} : pj_step 84 (16, L, .int x :: st, M) = some (if x ≤ 0 then 41 else 19, L, st, M) := st_if_le q84_16
theorem x84_16 {L : pj_Loc} {st : List Value} {M : pj_Mem} {x : Int32} {o9 : Option Value × pj_Mem} : pj_Ends 84 (16, L, .int x :: st, M) o9 = pj_Ends 84 (if x ≤ 0 then 41 else 19, L, st, M) o9 := pj_xs (s84_16)
theorem q84_19 : pj_row 84 19 = some (.aload_n 0, 1, 0, 0, 0) := by decide +kernel
theorem s84_19 {st : List Value} {M : pj_Mem} {l : pj_Loc} {x : Nat} : pj_step 84 (19, some (.ref x) :: l, st, M) = some (20, some (.ref x) :: l, .ref x :: st, M) := st_aload_n q84_19 rfl
theorem x84_19 {st : List Value} {M : pj_Mem} {l : pj_Loc} {x : Nat} {o9 : Option Value × pj_Mem} : pj_Ends 84 (19, some (.ref x) :: l, st, M) o9 = pj_Ends 84 (20, some (.ref x) :: l, .ref x :: st, M) o9 := pj_xs (s84_19)
theorem q84_20 : pj_row 84 20 = some (.getfield 7, 3, 6, 0, 0) := by decide +kernel
theorem s84_20 {L : pj_Loc} {st : List Value} {N S : Nat} {H : pj_Heap} {o : Nat} : pj_step 84 (20, L, .ref o :: st, (N, S, H)) = pj_pv 23 L st (N, S, H) (pj_fld (H o) 6 0) := st_getfield q84_20
theorem x84_20 {L : pj_Loc} {st : List Value} {N S : Nat} {H : pj_Heap} {o : Nat} {o9 : Option Value × pj_Mem} : pj_Ends 84 (20, L, .ref o :: st, (N, S, H)) o9 = pj_then 84 o9 (pj_pv 23 L st (N, S, H) (pj_fld (H o) 6 0)) := pj_xt q84_20 rfl (pj_cl_nc rfl) (s84_20)
theorem q84_23 : pj_row 84 23 = some (.bipush 20, 2, 0, 0, 0) := by decide +kernel
theorem s84_23 {L : pj_Loc} {st : List Value} {M : pj_Mem}  : pj_step 84 (23, L, st, M) = some (25, L, .int 20 :: st, M) := st_bipush q84_23 (by decide +kernel)
theorem x84_23 {L : pj_Loc} {st : List Value} {M : pj_Mem}  {o9 : Option Value × pj_Mem} : pj_Ends 84 (23, L, st, M) o9 = pj_Ends 84 (25, L, .int 20 :: st, M) o9 := pj_xs (s84_23)
theorem q84_25 : pj_row 84 25 = some (.iload_n 1, 1, 0, 0, 0) := by decide +kernel
theorem s84_25 {st : List Value} {M : pj_Mem} {l : pj_Loc} {a0 : Option Value} {x : Int32} : pj_step 84 (25, a0 :: some (.int x) :: l, st, M) = some (26, a0 :: some (.int x) :: l, .int x :: st, M) := st_iload_n q84_25 rfl
theorem x84_25 {st : List Value} {M : pj_Mem} {l : pj_Loc} {a0 : Option Value} {x : Int32} {o9 : Option Value × pj_Mem} : pj_Ends 84 (25, a0 :: some (.int x) :: l, st, M) o9 = pj_Ends 84 (26, a0 :: some (.int x) :: l, .int x :: st, M) o9 := pj_xs (s84_25)
theorem q84_26 : pj_row 84 26 = some (.iadd, 1, 0, 0, 0) := by decide +kernel
theorem s84_26 {L : pj_Loc} {st : List Value} {M : pj_Mem} {x y : Int32} : pj_step 84 (26, L, .int y :: .int x :: st, M) = some (27, L, .int (x + y) :: st, M) := st_iadd q84_26
theorem x84_26 {L : pj_Loc} {st : List Value} {M : pj_Mem} {x y : Int32} {o9 : Option Value × pj_Mem} : pj_Ends 84 (26, L, .int y :: .int x :: st, M) o9 = pj_Ends 84 (27, L, .int (x + y) :: st, M) o9 := pj_xs (s84_26)
theorem q84_27 : pj_row 84 27 = some (.iaload, 1, 0, 0, 0) := by decide +kernel
theorem s84_27 {L : pj_Loc} {st : List Value} {N S : Nat} {H : pj_Heap} {o : Nat} {i : Int32} : pj_step 84 (27, L, .int i :: .ref o :: st, (N, S, H)) = pj_pi 28 L st (N, S, H) (pj_arl (H o) 0 i) := st_iaload q84_27
theorem x84_27 {L : pj_Loc} {st : List Value} {N S : Nat} {H : pj_Heap} {o : Nat} {i : Int32} {o9 : Option Value × pj_Mem} : pj_Ends 84 (27, L, .int i :: .ref o :: st, (N, S, H)) o9 = pj_then 84 o9 (pj_pi 28 L st (N, S, H) (pj_arl (H o) 0 i)) := pj_xt q84_27 rfl (pj_cl_nc rfl) (s84_27)
theorem q84_28 : pj_row 84 28 = some (.aload_n 0, 1, 0, 0, 0) := by decide +kernel
theorem s84_28 {st : List Value} {M : pj_Mem} {l : pj_Loc} {x : Nat} : pj_step 84 (28, some (.ref x) :: l, st, M) = some (29, some (.ref x) :: l, .ref x :: st, M) := st_aload_n q84_28 rfl
theorem x84_28 {st : List Value} {M : pj_Mem} {l : pj_Loc} {x : Nat} {o9 : Option Value × pj_Mem} : pj_Ends 84 (28, some (.ref x) :: l, st, M) o9 = pj_Ends 84 (29, some (.ref x) :: l, .ref x :: st, M) o9 := pj_xs (s84_28)
theorem q84_29 : pj_row 84 29 = some (.getfield 25, 3, 6, 6, 0) := by decide +kernel
theorem s84_29 {L : pj_Loc} {st : List Value} {N S : Nat} {H : pj_Heap} {o : Nat} : pj_step 84 (29, L, .ref o :: st, (N, S, H)) = pj_pv 32 L st (N, S, H) (pj_fld (H o) 6 6) := st_getfield q84_29
theorem x84_29 {L : pj_Loc} {st : List Value} {N S : Nat} {H : pj_Heap} {o : Nat} {o9 : Option Value × pj_Mem} : pj_Ends 84 (29, L, .ref o :: st, (N, S, H)) o9 = pj_then 84 o9 (pj_pv 32 L st (N, S, H) (pj_fld (H o) 6 6)) := pj_xt q84_29 rfl (pj_cl_nc rfl) (s84_29)
theorem q84_32 : pj_row 84 32 = some (.iload_n 1, 1, 0, 0, 0) := by decide +kernel
theorem s84_32 {st : List Value} {M : pj_Mem} {l : pj_Loc} {a0 : Option Value} {x : Int32} : pj_step 84 (32, a0 :: some (.int x) :: l, st, M) = some (33, a0 :: some (.int x) :: l, .int x :: st, M) := st_iload_n q84_32 rfl
theorem x84_32 {st : List Value} {M : pj_Mem} {l : pj_Loc} {a0 : Option Value} {x : Int32} {o9 : Option Value × pj_Mem} : pj_Ends 84 (32, a0 :: some (.int x) :: l, st, M) o9 = pj_Ends 84 (33, a0 :: some (.int x) :: l, .int x :: st, M) o9 := pj_xs (s84_32)
theorem q84_33 : pj_row 84 33 = some (.iaload, 1, 0, 0, 0) := by decide +kernel
theorem s84_33 {L : pj_Loc} {st : List Value} {N S : Nat} {H : pj_Heap} {o : Nat} {i : Int32} : pj_step 84 (33, L, .int i :: .ref o :: st, (N, S, H)) = pj_pi 34 L st (N, S, H) (pj_arl (H o) 0 i) := st_iaload q84_33
theorem x84_33 {L : pj_Loc} {st : List Value} {N S : Nat} {H : pj_Heap} {o : Nat} {i : Int32} {o9 : Option Value × pj_Mem} : pj_Ends 84 (33, L, .int i :: .ref o :: st, (N, S, H)) o9 = pj_then 84 o9 (pj_pi 34 L st (N, S, H) (pj_arl (H o) 0 i)) := pj_xt q84_33 rfl (pj_cl_nc rfl) (s84_33)
theorem q84_34 : pj_row 84 34 = some (.if_icmp .ne 7, 3, 41, 0, 0) := by decide +kernel
theorem s84_34 {L : pj_Loc} {st : List Value} {M : pj_Mem} {x y : Int32} : pj_step 84 (34, L, .int y :: .int x :: st, M) = some (if ¬ x = y then 41 else 37, L, st, M) := st_icmp_ne q84_34
theorem x84_34 {L : pj_Loc} {st : List Value} {M : pj_Mem} {x y : Int32} {o9 : Option Value × pj_Mem} : pj_Ends 84 (34, L, .int y :: .int x :: st, M) o9 = pj_Ends 84 (if ¬ x = y then 41 else 37, L, st, M) o9 := pj_xs (s84_34)
theorem q84_37 : pj_row 84 37 = some (.iconst 1, 1, 0, 0, 0) := by decide +kernel
theorem s84_37 {L : pj_Loc} {st : List Value} {M : pj_Mem}  : pj_step 84 (37, L, st, M) = some (38, L, .int 1 :: st, M) := st_iconst q84_37 (by decide +kernel)
theorem x84_37 {L : pj_Loc} {st : List Value} {M : pj_Mem}  {o9 : Option Value × pj_Mem} : pj_Ends 84 (37, L, st, M) o9 = pj_Ends 84 (38, L, .int 1 :: st, M) o9 := pj_xs (s84_37)
theorem q84_38 : pj_row 84 38 = some (.goto 4, 3, 42, 0, 0) := by decide +kernel
theorem s84_38 {L : pj_Loc} {st : List Value} {M : pj_Mem}  : pj_step 84 (38, L, st, M) = some (42, L, st, M) := st_goto q84_38
theorem x84_38 {L : pj_Loc} {st : List Value} {M : pj_Mem}  {o9 : Option Value × pj_Mem} : pj_Ends 84 (38, L, st, M) o9 = pj_Ends 84 (42, L, st, M) o9 := pj_xs (s84_38)
theorem q84_41 : pj_row 84 41 = some (.iconst 0, 1, 0, 0, 0) := by decide +kernel
theorem s84_41 {L : pj_Loc} {st : List Value} {M : pj_Mem}  : pj_step 84 (41, L, st, M) = some (42, L, .int 0 :: st, M) := st_iconst q84_41 (by decide +kernel)
theorem x84_41 {L : pj_Loc} {st : List Value} {M : pj_Mem}  {o9 : Option Value × pj_Mem} : pj_Ends 84 (41, L, st, M) o9 = pj_Ends 84 (42, L, .int 0 :: st, M) o9 := pj_xs (s84_41)
theorem q84_42 : pj_row 84 42 = some (.istore_n 2, 1, 0, 0, 0) := by decide +kernel
theorem s84_42 {st : List Value} {M : pj_Mem} {l : pj_Loc} {a0 a1 a2 : Option Value} {x : Int32} (h : pj_long a1 = false) : pj_step 84 (42, a0 :: a1 :: a2 :: l, .int x :: st, M) = some (43, a0 :: a1 :: some (.int x) :: l, st, M) := st_istore_n q84_42 (pj_st_2 h)
theorem x84_42 {st : List Value} {M : pj_Mem} {l : pj_Loc} {a0 a1 a2 : Option Value} {x : Int32} (h : pj_long a1 = false) {o9 : Option Value × pj_Mem} : pj_Ends 84 (42, a0 :: a1 :: a2 :: l, .int x :: st, M) o9 = pj_Ends 84 (43, a0 :: a1 :: some (.int x) :: l, st, M) o9 := pj_xs (s84_42 h)
theorem q84_43 : pj_row 84 43 = some (.aload_n 0, 1, 0, 0, 0) := by decide +kernel
theorem s84_43 {st : List Value} {M : pj_Mem} {l : pj_Loc} {x : Nat} : pj_step 84 (43, some (.ref x) :: l, st, M) = some (44, some (.ref x) :: l, .ref x :: st, M) := st_aload_n q84_43 rfl
theorem x84_43 {st : List Value} {M : pj_Mem} {l : pj_Loc} {x : Nat} {o9 : Option Value × pj_Mem} : pj_Ends 84 (43, some (.ref x) :: l, st, M) o9 = pj_Ends 84 (44, some (.ref x) :: l, .ref x :: st, M) o9 := pj_xs (s84_43)
theorem q84_44 : pj_row 84 44 = some (.getfield 7, 3, 6, 0, 0) := by decide +kernel
theorem s84_44 {L : pj_Loc} {st : List Value} {N S : Nat} {H : pj_Heap} {o : Nat} : pj_step 84 (44, L, .ref o :: st, (N, S, H)) = pj_pv 47 L st (N, S, H) (pj_fld (H o) 6 0) := st_getfield q84_44
theorem x84_44 {L : pj_Loc} {st : List Value} {N S : Nat} {H : pj_Heap} {o : Nat} {o9 : Option Value × pj_Mem} : pj_Ends 84 (44, L, .ref o :: st, (N, S, H)) o9 = pj_then 84 o9 (pj_pv 47 L st (N, S, H) (pj_fld (H o) 6 0)) := pj_xt q84_44 rfl (pj_cl_nc rfl) (s84_44)
theorem q84_47 : pj_row 84 47 = some (.bipush 17, 2, 0, 0, 0) := by decide +kernel
theorem s84_47 {L : pj_Loc} {st : List Value} {M : pj_Mem}  : pj_step 84 (47, L, st, M) = some (49, L, .int 17 :: st, M) := st_bipush q84_47 (by decide +kernel)
theorem x84_47 {L : pj_Loc} {st : List Value} {M : pj_Mem}  {o9 : Option Value × pj_Mem} : pj_Ends 84 (47, L, st, M) o9 = pj_Ends 84 (49, L, .int 17 :: st, M) o9 := pj_xs (s84_47)
theorem q84_49 : pj_row 84 49 = some (.iload_n 1, 1, 0, 0, 0) := by decide +kernel
theorem s84_49 {st : List Value} {M : pj_Mem} {l : pj_Loc} {a0 : Option Value} {x : Int32} : pj_step 84 (49, a0 :: some (.int x) :: l, st, M) = some (50, a0 :: some (.int x) :: l, .int x :: st, M) := st_iload_n q84_49 rfl
theorem x84_49 {st : List Value} {M : pj_Mem} {l : pj_Loc} {a0 : Option Value} {x : Int32} {o9 : Option Value × pj_Mem} : pj_Ends 84 (49, a0 :: some (.int x) :: l, st, M) o9 = pj_Ends 84 (50, a0 :: some (.int x) :: l, .int x :: st, M) o9 := pj_xs (s84_49)
theorem q84_50 : pj_row 84 50 = some (.iadd, 1, 0, 0, 0) := by decide +kernel
theorem s84_50 {L : pj_Loc} {st : List Value} {M : pj_Mem} {x y : Int32} : pj_step 84 (50, L, .int y :: .int x :: st, M) = some (51, L, .int (x + y) :: st, M) := st_iadd q84_50
theorem x84_50 {L : pj_Loc} {st : List Value} {M : pj_Mem} {x y : Int32} {o9 : Option Value × pj_Mem} : pj_Ends 84 (50, L, .int y :: .int x :: st, M) o9 = pj_Ends 84 (51, L, .int (x + y) :: st, M) o9 := pj_xs (s84_50)
theorem q84_51 : pj_row 84 51 = some (.iload_n 2, 1, 0, 0, 0) := by decide +kernel
theorem s84_51 {st : List Value} {M : pj_Mem} {l : pj_Loc} {a0 a1 : Option Value} {x : Int32} : pj_step 84 (51, a0 :: a1 :: some (.int x) :: l, st, M) = some (52, a0 :: a1 :: some (.int x) :: l, .int x :: st, M) := st_iload_n q84_51 rfl
theorem x84_51 {st : List Value} {M : pj_Mem} {l : pj_Loc} {a0 a1 : Option Value} {x : Int32} {o9 : Option Value × pj_Mem} : pj_Ends 84 (51, a0 :: a1 :: some (.int x) :: l, st, M) o9 = pj_Ends 84 (52, a0 :: a1 :: some (.int x) :: l, .int x :: st, M) o9 := pj_xs (s84_51)
theorem q84_52 : pj_row 84 52 = some (.ifCond .eq 17, 3, 69, 0, 0) := by decide +kernel
theorem s84_52 {L : pj_Loc} {st : List Value} {M : pj_Mem} {x : Int32} : pj_step 84 (52, L, .int x :: st, M) = some (if x = 0 then 69 else 55, L, st, M) := st_if_eq q84_52
theorem x84_52 {L : pj_Loc} {st : List Value} {M : pj_Mem} {x : Int32} {o9 : Option Value × pj_Mem} : pj_Ends 84 (52, L, .int x :: st, M) o9 = pj_Ends 84 (if x = 0 then 69 else 55, L, st, M) o9 := pj_xs (s84_52)
theorem q84_55 : pj_row 84 55 = some (.aload_n 0, 1, 0, 0, 0) := by decide +kernel
theorem s84_55 {st : List Value} {M : pj_Mem} {l : pj_Loc} {x : Nat} : pj_step 84 (55, some (.ref x) :: l, st, M) = some (56, some (.ref x) :: l, .ref x :: st, M) := st_aload_n q84_55 rfl
theorem x84_55 {st : List Value} {M : pj_Mem} {l : pj_Loc} {x : Nat} {o9 : Option Value × pj_Mem} : pj_Ends 84 (55, some (.ref x) :: l, st, M) o9 = pj_Ends 84 (56, some (.ref x) :: l, .ref x :: st, M) o9 := pj_xs (s84_55)
theorem q84_56 : pj_row 84 56 = some (.getfield 7, 3, 6, 0, 0) := by decide +kernel
theorem s84_56 {L : pj_Loc} {st : List Value} {N S : Nat} {H : pj_Heap} {o : Nat} : pj_step 84 (56, L, .ref o :: st, (N, S, H)) = pj_pv 59 L st (N, S, H) (pj_fld (H o) 6 0) := st_getfield q84_56
theorem x84_56 {L : pj_Loc} {st : List Value} {N S : Nat} {H : pj_Heap} {o : Nat} {o9 : Option Value × pj_Mem} : pj_Ends 84 (56, L, .ref o :: st, (N, S, H)) o9 = pj_then 84 o9 (pj_pv 59 L st (N, S, H) (pj_fld (H o) 6 0)) := pj_xt q84_56 rfl (pj_cl_nc rfl) (s84_56)
theorem q84_59 : pj_row 84 59 = some (.bipush 17, 2, 0, 0, 0) := by decide +kernel
theorem s84_59 {L : pj_Loc} {st : List Value} {M : pj_Mem}  : pj_step 84 (59, L, st, M) = some (61, L, .int 17 :: st, M) := st_bipush q84_59 (by decide +kernel)
theorem x84_59 {L : pj_Loc} {st : List Value} {M : pj_Mem}  {o9 : Option Value × pj_Mem} : pj_Ends 84 (59, L, st, M) o9 = pj_Ends 84 (61, L, .int 17 :: st, M) o9 := pj_xs (s84_59)
theorem q84_61 : pj_row 84 61 = some (.iload_n 1, 1, 0, 0, 0) := by decide +kernel
theorem s84_61 {st : List Value} {M : pj_Mem} {l : pj_Loc} {a0 : Option Value} {x : Int32} : pj_step 84 (61, a0 :: some (.int x) :: l, st, M) = some (62, a0 :: some (.int x) :: l, .int x :: st, M) := st_iload_n q84_61 rfl
theorem x84_61 {st : List Value} {M : pj_Mem} {l : pj_Loc} {a0 : Option Value} {x : Int32} {o9 : Option Value × pj_Mem} : pj_Ends 84 (61, a0 :: some (.int x) :: l, st, M) o9 = pj_Ends 84 (62, a0 :: some (.int x) :: l, .int x :: st, M) o9 := pj_xs (s84_61)
theorem q84_62 : pj_row 84 62 = some (.iadd, 1, 0, 0, 0) := by decide +kernel
theorem s84_62 {L : pj_Loc} {st : List Value} {M : pj_Mem} {x y : Int32} : pj_step 84 (62, L, .int y :: .int x :: st, M) = some (63, L, .int (x + y) :: st, M) := st_iadd q84_62
theorem x84_62 {L : pj_Loc} {st : List Value} {M : pj_Mem} {x y : Int32} {o9 : Option Value × pj_Mem} : pj_Ends 84 (62, L, .int y :: .int x :: st, M) o9 = pj_Ends 84 (63, L, .int (x + y) :: st, M) o9 := pj_xs (s84_62)
theorem q84_63 : pj_row 84 63 = some (.iaload, 1, 0, 0, 0) := by decide +kernel
theorem s84_63 {L : pj_Loc} {st : List Value} {N S : Nat} {H : pj_Heap} {o : Nat} {i : Int32} : pj_step 84 (63, L, .int i :: .ref o :: st, (N, S, H)) = pj_pi 64 L st (N, S, H) (pj_arl (H o) 0 i) := st_iaload q84_63
theorem x84_63 {L : pj_Loc} {st : List Value} {N S : Nat} {H : pj_Heap} {o : Nat} {i : Int32} {o9 : Option Value × pj_Mem} : pj_Ends 84 (63, L, .int i :: .ref o :: st, (N, S, H)) o9 = pj_then 84 o9 (pj_pi 64 L st (N, S, H) (pj_arl (H o) 0 i)) := pj_xt q84_63 rfl (pj_cl_nc rfl) (s84_63)
theorem q84_64 : pj_row 84 64 = some (.iconst 1, 1, 0, 0, 0) := by decide +kernel
theorem s84_64 {L : pj_Loc} {st : List Value} {M : pj_Mem}  : pj_step 84 (64, L, st, M) = some (65, L, .int 1 :: st, M) := st_iconst q84_64 (by decide +kernel)
theorem x84_64 {L : pj_Loc} {st : List Value} {M : pj_Mem}  {o9 : Option Value × pj_Mem} : pj_Ends 84 (64, L, st, M) o9 = pj_Ends 84 (65, L, .int 1 :: st, M) o9 := pj_xs (s84_64)
theorem q84_65 : pj_row 84 65 = some (.iadd, 1, 0, 0, 0) := by decide +kernel
theorem s84_65 {L : pj_Loc} {st : List Value} {M : pj_Mem} {x y : Int32} : pj_step 84 (65, L, .int y :: .int x :: st, M) = some (66, L, .int (x + y) :: st, M) := st_iadd q84_65
theorem x84_65 {L : pj_Loc} {st : List Value} {M : pj_Mem} {x y : Int32} {o9 : Option Value × pj_Mem} : pj_Ends 84 (65, L, .int y :: .int x :: st, M) o9 = pj_Ends 84 (66, L, .int (x + y) :: st, M) o9 := pj_xs (s84_65)
theorem q84_66 : pj_row 84 66 = some (.goto 4, 3, 70, 0, 0) := by decide +kernel
theorem s84_66 {L : pj_Loc} {st : List Value} {M : pj_Mem}  : pj_step 84 (66, L, st, M) = some (70, L, st, M) := st_goto q84_66
theorem x84_66 {L : pj_Loc} {st : List Value} {M : pj_Mem}  {o9 : Option Value × pj_Mem} : pj_Ends 84 (66, L, st, M) o9 = pj_Ends 84 (70, L, st, M) o9 := pj_xs (s84_66)
theorem q84_69 : pj_row 84 69 = some (.iconst 1, 1, 0, 0, 0) := by decide +kernel
theorem s84_69 {L : pj_Loc} {st : List Value} {M : pj_Mem}  : pj_step 84 (69, L, st, M) = some (70, L, .int 1 :: st, M) := st_iconst q84_69 (by decide +kernel)
theorem x84_69 {L : pj_Loc} {st : List Value} {M : pj_Mem}  {o9 : Option Value × pj_Mem} : pj_Ends 84 (69, L, st, M) o9 = pj_Ends 84 (70, L, .int 1 :: st, M) o9 := pj_xs (s84_69)
theorem q84_70 : pj_row 84 70 = some (.iastore, 1, 0, 0, 0) := by decide +kernel
theorem s84_70 {L : pj_Loc} {st : List Value} {N S : Nat} {H : pj_Heap} {o : Nat} {i x : Int32} : pj_step 84 (70, L, .int x :: .int i :: .ref o :: st, (N, S, H)) = pj_set 71 L st (N, S, H) o (pj_ars (H o) 0 i x) := st_iastore q84_70
theorem x84_70 {L : pj_Loc} {st : List Value} {N S : Nat} {H : pj_Heap} {o : Nat} {i x : Int32} {o9 : Option Value × pj_Mem} : pj_Ends 84 (70, L, .int x :: .int i :: .ref o :: st, (N, S, H)) o9 = pj_then 84 o9 (pj_set 71 L st (N, S, H) o (pj_ars (H o) 0 i x)) := pj_xt q84_70 rfl (pj_cl_nc rfl) (s84_70)
theorem q84_71 : pj_row 84 71 = some (.aload_n 0, 1, 0, 0, 0) := by decide +kernel
theorem s84_71 {st : List Value} {M : pj_Mem} {l : pj_Loc} {x : Nat} : pj_step 84 (71, some (.ref x) :: l, st, M) = some (72, some (.ref x) :: l, .ref x :: st, M) := st_aload_n q84_71 rfl
theorem x84_71 {st : List Value} {M : pj_Mem} {l : pj_Loc} {x : Nat} {o9 : Option Value × pj_Mem} : pj_Ends 84 (71, some (.ref x) :: l, st, M) o9 = pj_Ends 84 (72, some (.ref x) :: l, .ref x :: st, M) o9 := pj_xs (s84_71)
theorem q84_72 : pj_row 84 72 = some (.getfield 7, 3, 6, 0, 0) := by decide +kernel
theorem s84_72 {L : pj_Loc} {st : List Value} {N S : Nat} {H : pj_Heap} {o : Nat} : pj_step 84 (72, L, .ref o :: st, (N, S, H)) = pj_pv 75 L st (N, S, H) (pj_fld (H o) 6 0) := st_getfield q84_72
theorem x84_72 {L : pj_Loc} {st : List Value} {N S : Nat} {H : pj_Heap} {o : Nat} {o9 : Option Value × pj_Mem} : pj_Ends 84 (72, L, .ref o :: st, (N, S, H)) o9 = pj_then 84 o9 (pj_pv 75 L st (N, S, H) (pj_fld (H o) 6 0)) := pj_xt q84_72 rfl (pj_cl_nc rfl) (s84_72)
theorem q84_75 : pj_row 84 75 = some (.bipush 20, 2, 0, 0, 0) := by decide +kernel
theorem s84_75 {L : pj_Loc} {st : List Value} {M : pj_Mem}  : pj_step 84 (75, L, st, M) = some (77, L, .int 20 :: st, M) := st_bipush q84_75 (by decide +kernel)
theorem x84_75 {L : pj_Loc} {st : List Value} {M : pj_Mem}  {o9 : Option Value × pj_Mem} : pj_Ends 84 (75, L, st, M) o9 = pj_Ends 84 (77, L, .int 20 :: st, M) o9 := pj_xs (s84_75)
theorem q84_77 : pj_row 84 77 = some (.iload_n 1, 1, 0, 0, 0) := by decide +kernel
theorem s84_77 {st : List Value} {M : pj_Mem} {l : pj_Loc} {a0 : Option Value} {x : Int32} : pj_step 84 (77, a0 :: some (.int x) :: l, st, M) = some (78, a0 :: some (.int x) :: l, .int x :: st, M) := st_iload_n q84_77 rfl
theorem x84_77 {st : List Value} {M : pj_Mem} {l : pj_Loc} {a0 : Option Value} {x : Int32} {o9 : Option Value × pj_Mem} : pj_Ends 84 (77, a0 :: some (.int x) :: l, st, M) o9 = pj_Ends 84 (78, a0 :: some (.int x) :: l, .int x :: st, M) o9 := pj_xs (s84_77)
theorem q84_78 : pj_row 84 78 = some (.iadd, 1, 0, 0, 0) := by decide +kernel
theorem s84_78 {L : pj_Loc} {st : List Value} {M : pj_Mem} {x y : Int32} : pj_step 84 (78, L, .int y :: .int x :: st, M) = some (79, L, .int (x + y) :: st, M) := st_iadd q84_78
theorem x84_78 {L : pj_Loc} {st : List Value} {M : pj_Mem} {x y : Int32} {o9 : Option Value × pj_Mem} : pj_Ends 84 (78, L, .int y :: .int x :: st, M) o9 = pj_Ends 84 (79, L, .int (x + y) :: st, M) o9 := pj_xs (s84_78)
theorem q84_79 : pj_row 84 79 = some (.aload_n 0, 1, 0, 0, 0) := by decide +kernel
theorem s84_79 {st : List Value} {M : pj_Mem} {l : pj_Loc} {x : Nat} : pj_step 84 (79, some (.ref x) :: l, st, M) = some (80, some (.ref x) :: l, .ref x :: st, M) := st_aload_n q84_79 rfl
theorem x84_79 {st : List Value} {M : pj_Mem} {l : pj_Loc} {x : Nat} {o9 : Option Value × pj_Mem} : pj_Ends 84 (79, some (.ref x) :: l, st, M) o9 = pj_Ends 84 (80, some (.ref x) :: l, .ref x :: st, M) o9 := pj_xs (s84_79)
theorem q84_80 : pj_row 84 80 = some (.getfield 25, 3, 6, 6, 0) := by decide +kernel
theorem s84_80 {L : pj_Loc} {st : List Value} {N S : Nat} {H : pj_Heap} {o : Nat} : pj_step 84 (80, L, .ref o :: st, (N, S, H)) = pj_pv 83 L st (N, S, H) (pj_fld (H o) 6 6) := st_getfield q84_80
theorem x84_80 {L : pj_Loc} {st : List Value} {N S : Nat} {H : pj_Heap} {o : Nat} {o9 : Option Value × pj_Mem} : pj_Ends 84 (80, L, .ref o :: st, (N, S, H)) o9 = pj_then 84 o9 (pj_pv 83 L st (N, S, H) (pj_fld (H o) 6 6)) := pj_xt q84_80 rfl (pj_cl_nc rfl) (s84_80)
theorem q84_83 : pj_row 84 83 = some (.iload_n 1, 1, 0, 0, 0) := by decide +kernel
theorem s84_83 {st : List Value} {M : pj_Mem} {l : pj_Loc} {a0 : Option Value} {x : Int32} : pj_step 84 (83, a0 :: some (.int x) :: l, st, M) = some (84, a0 :: some (.int x) :: l, .int x :: st, M) := st_iload_n q84_83 rfl
theorem x84_83 {st : List Value} {M : pj_Mem} {l : pj_Loc} {a0 : Option Value} {x : Int32} {o9 : Option Value × pj_Mem} : pj_Ends 84 (83, a0 :: some (.int x) :: l, st, M) o9 = pj_Ends 84 (84, a0 :: some (.int x) :: l, .int x :: st, M) o9 := pj_xs (s84_83)
theorem q84_84 : pj_row 84 84 = some (.iaload, 1, 0, 0, 0) := by decide +kernel
theorem s84_84 {L : pj_Loc} {st : List Value} {N S : Nat} {H : pj_Heap} {o : Nat} {i : Int32} : pj_step 84 (84, L, .int i :: .ref o :: st, (N, S, H)) = pj_pi 85 L st (N, S, H) (pj_arl (H o) 0 i) := st_iaload q84_84
theorem x84_84 {L : pj_Loc} {st : List Value} {N S : Nat} {H : pj_Heap} {o : Nat} {i : Int32} {o9 : Option Value × pj_Mem} : pj_Ends 84 (84, L, .int i :: .ref o :: st, (N, S, H)) o9 = pj_then 84 o9 (pj_pi 85 L st (N, S, H) (pj_arl (H o) 0 i)) := pj_xt q84_84 rfl (pj_cl_nc rfl) (s84_84)
theorem q84_85 : pj_row 84 85 = some (.iastore, 1, 0, 0, 0) := by decide +kernel
theorem s84_85 {L : pj_Loc} {st : List Value} {N S : Nat} {H : pj_Heap} {o : Nat} {i x : Int32} : pj_step 84 (85, L, .int x :: .int i :: .ref o :: st, (N, S, H)) = pj_set 86 L st (N, S, H) o (pj_ars (H o) 0 i x) := st_iastore q84_85
theorem x84_85 {L : pj_Loc} {st : List Value} {N S : Nat} {H : pj_Heap} {o : Nat} {i x : Int32} {o9 : Option Value × pj_Mem} : pj_Ends 84 (85, L, .int x :: .int i :: .ref o :: st, (N, S, H)) o9 = pj_then 84 o9 (pj_set 86 L st (N, S, H) o (pj_ars (H o) 0 i x)) := pj_xt q84_85 rfl (pj_cl_nc rfl) (s84_85)
theorem q84_86 : pj_row 84 86 = some (.aload_n 0, 1, 0, 0, 0) := by decide +kernel
theorem s84_86 {st : List Value} {M : pj_Mem} {l : pj_Loc} {x : Nat} : pj_step 84 (86, some (.ref x) :: l, st, M) = some (87, some (.ref x) :: l, .ref x :: st, M) := st_aload_n q84_86 rfl
theorem x84_86 {st : List Value} {M : pj_Mem} {l : pj_Loc} {x : Nat} {o9 : Option Value × pj_Mem} : pj_Ends 84 (86, some (.ref x) :: l, st, M) o9 = pj_Ends 84 (87, some (.ref x) :: l, .ref x :: st, M) o9 := pj_xs (s84_86)
theorem q84_87 : pj_row 84 87 = some (.getfield 7, 3, 6, 0, 0) := by decide +kernel
theorem s84_87 {L : pj_Loc} {st : List Value} {N S : Nat} {H : pj_Heap} {o : Nat} : pj_step 84 (87, L, .ref o :: st, (N, S, H)) = pj_pv 90 L st (N, S, H) (pj_fld (H o) 6 0) := st_getfield q84_87
theorem x84_87 {L : pj_Loc} {st : List Value} {N S : Nat} {H : pj_Heap} {o : Nat} {o9 : Option Value × pj_Mem} : pj_Ends 84 (87, L, .ref o :: st, (N, S, H)) o9 = pj_then 84 o9 (pj_pv 90 L st (N, S, H) (pj_fld (H o) 6 0)) := pj_xt q84_87 rfl (pj_cl_nc rfl) (s84_87)
theorem q84_90 : pj_row 84 90 = some (.bipush 14, 2, 0, 0, 0) := by decide +kernel
theorem s84_90 {L : pj_Loc} {st : List Value} {M : pj_Mem}  : pj_step 84 (90, L, st, M) = some (92, L, .int 14 :: st, M) := st_bipush q84_90 (by decide +kernel)
theorem x84_90 {L : pj_Loc} {st : List Value} {M : pj_Mem}  {o9 : Option Value × pj_Mem} : pj_Ends 84 (90, L, st, M) o9 = pj_Ends 84 (92, L, .int 14 :: st, M) o9 := pj_xs (s84_90)
theorem q84_92 : pj_row 84 92 = some (.iload_n 1, 1, 0, 0, 0) := by decide +kernel
theorem s84_92 {st : List Value} {M : pj_Mem} {l : pj_Loc} {a0 : Option Value} {x : Int32} : pj_step 84 (92, a0 :: some (.int x) :: l, st, M) = some (93, a0 :: some (.int x) :: l, .int x :: st, M) := st_iload_n q84_92 rfl
theorem x84_92 {st : List Value} {M : pj_Mem} {l : pj_Loc} {a0 : Option Value} {x : Int32} {o9 : Option Value × pj_Mem} : pj_Ends 84 (92, a0 :: some (.int x) :: l, st, M) o9 = pj_Ends 84 (93, a0 :: some (.int x) :: l, .int x :: st, M) o9 := pj_xs (s84_92)
theorem q84_93 : pj_row 84 93 = some (.iadd, 1, 0, 0, 0) := by decide +kernel
theorem s84_93 {L : pj_Loc} {st : List Value} {M : pj_Mem} {x y : Int32} : pj_step 84 (93, L, .int y :: .int x :: st, M) = some (94, L, .int (x + y) :: st, M) := st_iadd q84_93
theorem x84_93 {L : pj_Loc} {st : List Value} {M : pj_Mem} {x y : Int32} {o9 : Option Value × pj_Mem} : pj_Ends 84 (93, L, .int y :: .int x :: st, M) o9 = pj_Ends 84 (94, L, .int (x + y) :: st, M) o9 := pj_xs (s84_93)
theorem q84_94 : pj_row 84 94 = some (.aload_n 0, 1, 0, 0, 0) := by decide +kernel
theorem s84_94 {st : List Value} {M : pj_Mem} {l : pj_Loc} {x : Nat} : pj_step 84 (94, some (.ref x) :: l, st, M) = some (95, some (.ref x) :: l, .ref x :: st, M) := st_aload_n q84_94 rfl
theorem x84_94 {st : List Value} {M : pj_Mem} {l : pj_Loc} {x : Nat} {o9 : Option Value × pj_Mem} : pj_Ends 84 (94, some (.ref x) :: l, st, M) o9 = pj_Ends 84 (95, some (.ref x) :: l, .ref x :: st, M) o9 := pj_xs (s84_94)
theorem q84_95 : pj_row 84 95 = some (.getfield 7, 3, 6, 0, 0) := by decide +kernel
theorem s84_95 {L : pj_Loc} {st : List Value} {N S : Nat} {H : pj_Heap} {o : Nat} : pj_step 84 (95, L, .ref o :: st, (N, S, H)) = pj_pv 98 L st (N, S, H) (pj_fld (H o) 6 0) := st_getfield q84_95
theorem x84_95 {L : pj_Loc} {st : List Value} {N S : Nat} {H : pj_Heap} {o : Nat} {o9 : Option Value × pj_Mem} : pj_Ends 84 (95, L, .ref o :: st, (N, S, H)) o9 = pj_then 84 o9 (pj_pv 98 L st (N, S, H) (pj_fld (H o) 6 0)) := pj_xt q84_95 rfl (pj_cl_nc rfl) (s84_95)
theorem q84_98 : pj_row 84 98 = some (.bipush 17, 2, 0, 0, 0) := by decide +kernel
theorem s84_98 {L : pj_Loc} {st : List Value} {M : pj_Mem}  : pj_step 84 (98, L, st, M) = some (100, L, .int 17 :: st, M) := st_bipush q84_98 (by decide +kernel)
theorem x84_98 {L : pj_Loc} {st : List Value} {M : pj_Mem}  {o9 : Option Value × pj_Mem} : pj_Ends 84 (98, L, st, M) o9 = pj_Ends 84 (100, L, .int 17 :: st, M) o9 := pj_xs (s84_98)
theorem q84_100 : pj_row 84 100 = some (.iload_n 1, 1, 0, 0, 0) := by decide +kernel
theorem s84_100 {st : List Value} {M : pj_Mem} {l : pj_Loc} {a0 : Option Value} {x : Int32} : pj_step 84 (100, a0 :: some (.int x) :: l, st, M) = some (101, a0 :: some (.int x) :: l, .int x :: st, M) := st_iload_n q84_100 rfl
theorem x84_100 {st : List Value} {M : pj_Mem} {l : pj_Loc} {a0 : Option Value} {x : Int32} {o9 : Option Value × pj_Mem} : pj_Ends 84 (100, a0 :: some (.int x) :: l, st, M) o9 = pj_Ends 84 (101, a0 :: some (.int x) :: l, .int x :: st, M) o9 := pj_xs (s84_100)
theorem q84_101 : pj_row 84 101 = some (.iadd, 1, 0, 0, 0) := by decide +kernel
theorem s84_101 {L : pj_Loc} {st : List Value} {M : pj_Mem} {x y : Int32} : pj_step 84 (101, L, .int y :: .int x :: st, M) = some (102, L, .int (x + y) :: st, M) := st_iadd q84_101
theorem x84_101 {L : pj_Loc} {st : List Value} {M : pj_Mem} {x y : Int32} {o9 : Option Value × pj_Mem} : pj_Ends 84 (101, L, .int y :: .int x :: st, M) o9 = pj_Ends 84 (102, L, .int (x + y) :: st, M) o9 := pj_xs (s84_101)
theorem q84_102 : pj_row 84 102 = some (.iaload, 1, 0, 0, 0) := by decide +kernel
theorem s84_102 {L : pj_Loc} {st : List Value} {N S : Nat} {H : pj_Heap} {o : Nat} {i : Int32} : pj_step 84 (102, L, .int i :: .ref o :: st, (N, S, H)) = pj_pi 103 L st (N, S, H) (pj_arl (H o) 0 i) := st_iaload q84_102
theorem x84_102 {L : pj_Loc} {st : List Value} {N S : Nat} {H : pj_Heap} {o : Nat} {i : Int32} {o9 : Option Value × pj_Mem} : pj_Ends 84 (102, L, .int i :: .ref o :: st, (N, S, H)) o9 = pj_then 84 o9 (pj_pi 103 L st (N, S, H) (pj_arl (H o) 0 i)) := pj_xt q84_102 rfl (pj_cl_nc rfl) (s84_102)
theorem q84_103 : pj_row 84 103 = some (.aload_n 0, 1, 0, 0, 0) := by decide +kernel
theorem s84_103 {st : List Value} {M : pj_Mem} {l : pj_Loc} {x : Nat} : pj_step 84 (103, some (.ref x) :: l, st, M) = some (104, some (.ref x) :: l, .ref x :: st, M) := st_aload_n q84_103 rfl
theorem x84_103 {st : List Value} {M : pj_Mem} {l : pj_Loc} {x : Nat} {o9 : Option Value × pj_Mem} : pj_Ends 84 (103, some (.ref x) :: l, st, M) o9 = pj_Ends 84 (104, some (.ref x) :: l, .ref x :: st, M) o9 := pj_xs (s84_103)
theorem q84_104 : pj_row 84 104 = some (.getfield 7, 3, 6, 0, 0) := by decide +kernel
theorem s84_104 {L : pj_Loc} {st : List Value} {N S : Nat} {H : pj_Heap} {o : Nat} : pj_step 84 (104, L, .ref o :: st, (N, S, H)) = pj_pv 107 L st (N, S, H) (pj_fld (H o) 6 0) := st_getfield q84_104
theorem x84_104 {L : pj_Loc} {st : List Value} {N S : Nat} {H : pj_Heap} {o : Nat} {o9 : Option Value × pj_Mem} : pj_Ends 84 (104, L, .ref o :: st, (N, S, H)) o9 = pj_then 84 o9 (pj_pv 107 L st (N, S, H) (pj_fld (H o) 6 0)) := pj_xt q84_104 rfl (pj_cl_nc rfl) (s84_104)
theorem q84_107 : pj_row 84 107 = some (.iconst 3, 1, 0, 0, 0) := by decide +kernel
theorem s84_107 {L : pj_Loc} {st : List Value} {M : pj_Mem}  : pj_step 84 (107, L, st, M) = some (108, L, .int 3 :: st, M) := st_iconst q84_107 (by decide +kernel)
theorem x84_107 {L : pj_Loc} {st : List Value} {M : pj_Mem}  {o9 : Option Value × pj_Mem} : pj_Ends 84 (107, L, st, M) o9 = pj_Ends 84 (108, L, .int 3 :: st, M) o9 := pj_xs (s84_107)
theorem q84_108 : pj_row 84 108 = some (.iaload, 1, 0, 0, 0) := by decide +kernel
theorem s84_108 {L : pj_Loc} {st : List Value} {N S : Nat} {H : pj_Heap} {o : Nat} {i : Int32} : pj_step 84 (108, L, .int i :: .ref o :: st, (N, S, H)) = pj_pi 109 L st (N, S, H) (pj_arl (H o) 0 i) := st_iaload q84_108
theorem x84_108 {L : pj_Loc} {st : List Value} {N S : Nat} {H : pj_Heap} {o : Nat} {i : Int32} {o9 : Option Value × pj_Mem} : pj_Ends 84 (108, L, .int i :: .ref o :: st, (N, S, H)) o9 = pj_then 84 o9 (pj_pi 109 L st (N, S, H) (pj_arl (H o) 0 i)) := pj_xt q84_108 rfl (pj_cl_nc rfl) (s84_108)
theorem q84_109 : pj_row 84 109 = some (.if_icmp .lt 7, 3, 116, 0, 0) := by decide +kernel
theorem s84_109 {L : pj_Loc} {st : List Value} {M : pj_Mem} {x y : Int32} : pj_step 84 (109, L, .int y :: .int x :: st, M) = some (if x < y then 116 else 112, L, st, M) := st_icmp_lt q84_109
theorem x84_109 {L : pj_Loc} {st : List Value} {M : pj_Mem} {x y : Int32} {o9 : Option Value × pj_Mem} : pj_Ends 84 (109, L, .int y :: .int x :: st, M) o9 = pj_Ends 84 (if x < y then 116 else 112, L, st, M) o9 := pj_xs (s84_109)
theorem q84_112 : pj_row 84 112 = some (.iconst 0, 1, 0, 0, 0) := by decide +kernel
theorem s84_112 {L : pj_Loc} {st : List Value} {M : pj_Mem}  : pj_step 84 (112, L, st, M) = some (113, L, .int 0 :: st, M) := st_iconst q84_112 (by decide +kernel)
theorem x84_112 {L : pj_Loc} {st : List Value} {M : pj_Mem}  {o9 : Option Value × pj_Mem} : pj_Ends 84 (112, L, st, M) o9 = pj_Ends 84 (113, L, .int 0 :: st, M) o9 := pj_xs (s84_112)
theorem q84_113 : pj_row 84 113 = some (.goto 12, 3, 125, 0, 0) := by decide +kernel
theorem s84_113 {L : pj_Loc} {st : List Value} {M : pj_Mem}  : pj_step 84 (113, L, st, M) = some (125, L, st, M) := st_goto q84_113
theorem x84_113 {L : pj_Loc} {st : List Value} {M : pj_Mem}  {o9 : Option Value × pj_Mem} : pj_Ends 84 (113, L, st, M) o9 = pj_Ends 84 (125, L, st, M) o9 := pj_xs (s84_113)
theorem q84_116 : pj_row 84 116 = some (.aload_n 0, 1, 0, 0, 0) := by decide +kernel
theorem s84_116 {st : List Value} {M : pj_Mem} {l : pj_Loc} {x : Nat} : pj_step 84 (116, some (.ref x) :: l, st, M) = some (117, some (.ref x) :: l, .ref x :: st, M) := st_aload_n q84_116 rfl
theorem x84_116 {st : List Value} {M : pj_Mem} {l : pj_Loc} {x : Nat} {o9 : Option Value × pj_Mem} : pj_Ends 84 (116, some (.ref x) :: l, st, M) o9 = pj_Ends 84 (117, some (.ref x) :: l, .ref x :: st, M) o9 := pj_xs (s84_116)
theorem q84_117 : pj_row 84 117 = some (.getfield 7, 3, 6, 0, 0) := by decide +kernel
theorem s84_117 {L : pj_Loc} {st : List Value} {N S : Nat} {H : pj_Heap} {o : Nat} : pj_step 84 (117, L, .ref o :: st, (N, S, H)) = pj_pv 120 L st (N, S, H) (pj_fld (H o) 6 0) := st_getfield q84_117
theorem x84_117 {L : pj_Loc} {st : List Value} {N S : Nat} {H : pj_Heap} {o : Nat} {o9 : Option Value × pj_Mem} : pj_Ends 84 (117, L, .ref o :: st, (N, S, H)) o9 = pj_then 84 o9 (pj_pv 120 L st (N, S, H) (pj_fld (H o) 6 0)) := pj_xt q84_117 rfl (pj_cl_nc rfl) (s84_117)
theorem q84_120 : pj_row 84 120 = some (.bipush 14, 2, 0, 0, 0) := by decide +kernel
theorem s84_120 {L : pj_Loc} {st : List Value} {M : pj_Mem}  : pj_step 84 (120, L, st, M) = some (122, L, .int 14 :: st, M) := st_bipush q84_120 (by decide +kernel)
theorem x84_120 {L : pj_Loc} {st : List Value} {M : pj_Mem}  {o9 : Option Value × pj_Mem} : pj_Ends 84 (120, L, st, M) o9 = pj_Ends 84 (122, L, .int 14 :: st, M) o9 := pj_xs (s84_120)
theorem q84_122 : pj_row 84 122 = some (.iload_n 1, 1, 0, 0, 0) := by decide +kernel
theorem s84_122 {st : List Value} {M : pj_Mem} {l : pj_Loc} {a0 : Option Value} {x : Int32} : pj_step 84 (122, a0 :: some (.int x) :: l, st, M) = some (123, a0 :: some (.int x) :: l, .int x :: st, M) := st_iload_n q84_122 rfl
theorem x84_122 {st : List Value} {M : pj_Mem} {l : pj_Loc} {a0 : Option Value} {x : Int32} {o9 : Option Value × pj_Mem} : pj_Ends 84 (122, a0 :: some (.int x) :: l, st, M) o9 = pj_Ends 84 (123, a0 :: some (.int x) :: l, .int x :: st, M) o9 := pj_xs (s84_122)
theorem q84_123 : pj_row 84 123 = some (.iadd, 1, 0, 0, 0) := by decide +kernel
theorem s84_123 {L : pj_Loc} {st : List Value} {M : pj_Mem} {x y : Int32} : pj_step 84 (123, L, .int y :: .int x :: st, M) = some (124, L, .int (x + y) :: st, M) := st_iadd q84_123
theorem x84_123 {L : pj_Loc} {st : List Value} {M : pj_Mem} {x y : Int32} {o9 : Option Value × pj_Mem} : pj_Ends 84 (123, L, .int y :: .int x :: st, M) o9 = pj_Ends 84 (124, L, .int (x + y) :: st, M) o9 := pj_xs (s84_123)
theorem q84_124 : pj_row 84 124 = some (.iaload, 1, 0, 0, 0) := by decide +kernel
theorem s84_124 {L : pj_Loc} {st : List Value} {N S : Nat} {H : pj_Heap} {o : Nat} {i : Int32} : pj_step 84 (124, L, .int i :: .ref o :: st, (N, S, H)) = pj_pi 125 L st (N, S, H) (pj_arl (H o) 0 i) := st_iaload q84_124
theorem x84_124 {L : pj_Loc} {st : List Value} {N S : Nat} {H : pj_Heap} {o : Nat} {i : Int32} {o9 : Option Value × pj_Mem} : pj_Ends 84 (124, L, .int i :: .ref o :: st, (N, S, H)) o9 = pj_then 84 o9 (pj_pi 125 L st (N, S, H) (pj_arl (H o) 0 i)) := pj_xt q84_124 rfl (pj_cl_nc rfl) (s84_124)
theorem q84_125 : pj_row 84 125 = some (.iastore, 1, 0, 0, 0) := by decide +kernel
theorem s84_125 {L : pj_Loc} {st : List Value} {N S : Nat} {H : pj_Heap} {o : Nat} {i x : Int32} : pj_step 84 (125, L, .int x :: .int i :: .ref o :: st, (N, S, H)) = pj_set 126 L st (N, S, H) o (pj_ars (H o) 0 i x) := st_iastore q84_125
theorem x84_125 {L : pj_Loc} {st : List Value} {N S : Nat} {H : pj_Heap} {o : Nat} {i x : Int32} {o9 : Option Value × pj_Mem} : pj_Ends 84 (125, L, .int x :: .int i :: .ref o :: st, (N, S, H)) o9 = pj_then 84 o9 (pj_set 126 L st (N, S, H) o (pj_ars (H o) 0 i x)) := pj_xt q84_125 rfl (pj_cl_nc rfl) (s84_125)
theorem q84_126 : pj_row 84 126 = some (.iinc 1 1, 3, 0, 0, 0) := by decide +kernel
theorem s84_126 {st : List Value} {M : pj_Mem} {l : pj_Loc} {a0 : Option Value} {x : Int32} (h : pj_long a0 = false) : pj_step 84 (126, a0 :: some (.int x) :: l, st, M) = some (129, a0 :: some (.int (x + 1)) :: l, st, M) := st_iinc q84_126 rfl (congrArg (fun y => x + y) (show Int32.ofInt 1 = 1 by decide +kernel)) (pj_st_1 h)
theorem x84_126 {st : List Value} {M : pj_Mem} {l : pj_Loc} {a0 : Option Value} {x : Int32} (h : pj_long a0 = false) {o9 : Option Value × pj_Mem} : pj_Ends 84 (126, a0 :: some (.int x) :: l, st, M) o9 = pj_Ends 84 (129, a0 :: some (.int (x + 1)) :: l, st, M) o9 := pj_xs (s84_126 h)
theorem q84_129 : pj_row 84 129 = some (.goto (-127), 3, 2, 0, 0) := by decide +kernel
theorem s84_129 {L : pj_Loc} {st : List Value} {M : pj_Mem}  : pj_step 84 (129, L, st, M) = some (2, L, st, M) := st_goto q84_129
theorem x84_129 {L : pj_Loc} {st : List Value} {M : pj_Mem}  {o9 : Option Value × pj_Mem} : pj_Ends 84 (129, L, st, M) o9 = pj_Ends 84 (2, L, st, M) o9 := pj_xs (s84_129)
theorem q84_132 : pj_row 84 132 = some (.return_, 1, 0, 0, 0) := by decide +kernel
theorem t84_132 {L : pj_Loc} {M : pj_Mem} : pj_Ends 84 (132, L, [], M) (none, M) := pj_Ends.ret q84_132 (pj_rtn_v rt84)
theorem rt85 : pj_rt 85 = none := rfl
theorem q85_0 : pj_row 85 0 = some (.aload_n 0, 1, 0, 0, 0) := by decide +kernel
theorem s85_0 {st : List Value} {M : pj_Mem} {l : pj_Loc} {x : Nat} : pj_step 85 (0, some (.ref x) :: l, st, M) = some (1, some (.ref x) :: l, .ref x :: st, M) := st_aload_n q85_0 rfl
theorem x85_0 {st : List Value} {M : pj_Mem} {l : pj_Loc} {x : Nat} {o9 : Option Value × pj_Mem} : pj_Ends 85 (0, some (.ref x) :: l, st, M) o9 = pj_Ends 85 (1, some (.ref x) :: l, .ref x :: st, M) o9 := pj_xs (s85_0)
theorem q85_1 : pj_row 85 1 = some (.invokevirtual 48, 3, 86, 1, 0) := by decide +kernel
theorem e85_1 {L : pj_Loc} {st : List Value} {N S : Nat} {H : pj_Heap} {o : Option Value × pj_Mem} {M' : pj_Mem} {x0 : Nat} {r : Int32} (h4 : pj_le4 st = true) (hu : pj_isU 6 (H x0) = true) (h1 : pj_Ends 86 (0, [some (.ref x0)], [], (N, S, H)) (some (.int r), M')) (h2 : pj_Ends 85 (4, L, .int r :: st, M') o) : pj_Ends 85 (1, L, .ref x0 :: st, (N, S, H)) o := ec_v1 q85_1 (Or.inl rfl) h4 hu rfl h1 h2
theorem q85_4 : pj_row 85 4 = some (.invokestatic 52, 3, 87, 1, 0) := by decide +kernel
theorem e85_4 {L : pj_Loc} {st : List Value} {N S : Nat} {H : pj_Heap} {o : Option Value × pj_Mem} {M' : pj_Mem} {x0 : Int32} {r : Int32} (h4 : pj_le4 st = true) (h1 : pj_Ends 87 (0, [some (.int x0)], [], (N, S, H)) (some (.int r), M')) (h2 : pj_Ends 85 (7, L, .int r :: st, M') o) : pj_Ends 85 (4, L, .int x0 :: st, (N, S, H)) o := ec_s1 q85_4 (Or.inl rfl) h4 rfl h1 h2
theorem q85_7 : pj_row 85 7 = some (.iconst 3, 1, 0, 0, 0) := by decide +kernel
theorem s85_7 {L : pj_Loc} {st : List Value} {M : pj_Mem}  : pj_step 85 (7, L, st, M) = some (8, L, .int 3 :: st, M) := st_iconst q85_7 (by decide +kernel)
theorem x85_7 {L : pj_Loc} {st : List Value} {M : pj_Mem}  {o9 : Option Value × pj_Mem} : pj_Ends 85 (7, L, st, M) o9 = pj_Ends 85 (8, L, .int 3 :: st, M) o9 := pj_xs (s85_7)
theorem q85_8 : pj_row 85 8 = some (.if_icmp .ne 7, 3, 15, 0, 0) := by decide +kernel
theorem s85_8 {L : pj_Loc} {st : List Value} {M : pj_Mem} {x y : Int32} : pj_step 85 (8, L, .int y :: .int x :: st, M) = some (if ¬ x = y then 15 else 11, L, st, M) := st_icmp_ne q85_8
theorem x85_8 {L : pj_Loc} {st : List Value} {M : pj_Mem} {x y : Int32} {o9 : Option Value × pj_Mem} : pj_Ends 85 (8, L, .int y :: .int x :: st, M) o9 = pj_Ends 85 (if ¬ x = y then 15 else 11, L, st, M) o9 := pj_xs (s85_8)
theorem q85_11 : pj_row 85 11 = some (.iconst 1, 1, 0, 0, 0) := by decide +kernel
theorem s85_11 {L : pj_Loc} {st : List Value} {M : pj_Mem}  : pj_step 85 (11, L, st, M) = some (12, L, .int 1 :: st, M) := st_iconst q85_11 (by decide +kernel)
theorem x85_11 {L : pj_Loc} {st : List Value} {M : pj_Mem}  {o9 : Option Value × pj_Mem} : pj_Ends 85 (11, L, st, M) o9 = pj_Ends 85 (12, L, .int 1 :: st, M) o9 := pj_xs (s85_11)
theorem q85_12 : pj_row 85 12 = some (.goto 4, 3, 16, 0, 0) := by decide +kernel
theorem s85_12 {L : pj_Loc} {st : List Value} {M : pj_Mem}  : pj_step 85 (12, L, st, M) = some (16, L, st, M) := st_goto q85_12
theorem x85_12 {L : pj_Loc} {st : List Value} {M : pj_Mem}  {o9 : Option Value × pj_Mem} : pj_Ends 85 (12, L, st, M) o9 = pj_Ends 85 (16, L, st, M) o9 := pj_xs (s85_12)
theorem q85_15 : pj_row 85 15 = some (.iconst 0, 1, 0, 0, 0) := by decide +kernel
theorem s85_15 {L : pj_Loc} {st : List Value} {M : pj_Mem}  : pj_step 85 (15, L, st, M) = some (16, L, .int 0 :: st, M) := st_iconst q85_15 (by decide +kernel)
theorem x85_15 {L : pj_Loc} {st : List Value} {M : pj_Mem}  {o9 : Option Value × pj_Mem} : pj_Ends 85 (15, L, st, M) o9 = pj_Ends 85 (16, L, .int 0 :: st, M) o9 := pj_xs (s85_15)
theorem q85_16 : pj_row 85 16 = some (.istore_n 1, 1, 0, 0, 0) := by decide +kernel
theorem s85_16 {st : List Value} {M : pj_Mem} {l : pj_Loc} {a0 a1 : Option Value} {x : Int32} (h : pj_long a0 = false) : pj_step 85 (16, a0 :: a1 :: l, .int x :: st, M) = some (17, a0 :: some (.int x) :: l, st, M) := st_istore_n q85_16 (pj_st_1 h)
theorem x85_16 {st : List Value} {M : pj_Mem} {l : pj_Loc} {a0 a1 : Option Value} {x : Int32} (h : pj_long a0 = false) {o9 : Option Value × pj_Mem} : pj_Ends 85 (16, a0 :: a1 :: l, .int x :: st, M) o9 = pj_Ends 85 (17, a0 :: some (.int x) :: l, st, M) o9 := pj_xs (s85_16 h)
theorem q85_17 : pj_row 85 17 = some (.aload_n 0, 1, 0, 0, 0) := by decide +kernel
theorem s85_17 {st : List Value} {M : pj_Mem} {l : pj_Loc} {x : Nat} : pj_step 85 (17, some (.ref x) :: l, st, M) = some (18, some (.ref x) :: l, .ref x :: st, M) := st_aload_n q85_17 rfl
theorem x85_17 {st : List Value} {M : pj_Mem} {l : pj_Loc} {x : Nat} {o9 : Option Value × pj_Mem} : pj_Ends 85 (17, some (.ref x) :: l, st, M) o9 = pj_Ends 85 (18, some (.ref x) :: l, .ref x :: st, M) o9 := pj_xs (s85_17)
theorem q85_18 : pj_row 85 18 = some (.iconst 0, 1, 0, 0, 0) := by decide +kernel
theorem s85_18 {L : pj_Loc} {st : List Value} {M : pj_Mem}  : pj_step 85 (18, L, st, M) = some (19, L, .int 0 :: st, M) := st_iconst q85_18 (by decide +kernel)
theorem x85_18 {L : pj_Loc} {st : List Value} {M : pj_Mem}  {o9 : Option Value × pj_Mem} : pj_Ends 85 (18, L, st, M) o9 = pj_Ends 85 (19, L, .int 0 :: st, M) o9 := pj_xs (s85_18)
theorem q85_19 : pj_row 85 19 = some (.putfield 56, 3, 6, 8, 0) := by decide +kernel
theorem s85_19 {L : pj_Loc} {st : List Value} {N S : Nat} {H : pj_Heap} {o : Nat} {v : Value} : pj_step 85 (19, L, v :: .ref o :: st, (N, S, H)) = pj_set 22 L st (N, S, H) o (pj_fset (H o) 6 8 v) := st_putfield q85_19
theorem x85_19 {L : pj_Loc} {st : List Value} {N S : Nat} {H : pj_Heap} {o : Nat} {v : Value} {o9 : Option Value × pj_Mem} : pj_Ends 85 (19, L, v :: .ref o :: st, (N, S, H)) o9 = pj_then 85 o9 (pj_set 22 L st (N, S, H) o (pj_fset (H o) 6 8 v)) := pj_xt q85_19 rfl (pj_cl_nc rfl) (s85_19)
theorem q85_22 : pj_row 85 22 = some (.iconst 0, 1, 0, 0, 0) := by decide +kernel
theorem s85_22 {L : pj_Loc} {st : List Value} {M : pj_Mem}  : pj_step 85 (22, L, st, M) = some (23, L, .int 0 :: st, M) := st_iconst q85_22 (by decide +kernel)
theorem x85_22 {L : pj_Loc} {st : List Value} {M : pj_Mem}  {o9 : Option Value × pj_Mem} : pj_Ends 85 (22, L, st, M) o9 = pj_Ends 85 (23, L, .int 0 :: st, M) o9 := pj_xs (s85_22)
theorem q85_23 : pj_row 85 23 = some (.istore_n 2, 1, 0, 0, 0) := by decide +kernel
theorem s85_23 {st : List Value} {M : pj_Mem} {l : pj_Loc} {a0 a1 a2 : Option Value} {x : Int32} (h : pj_long a1 = false) : pj_step 85 (23, a0 :: a1 :: a2 :: l, .int x :: st, M) = some (24, a0 :: a1 :: some (.int x) :: l, st, M) := st_istore_n q85_23 (pj_st_2 h)
theorem x85_23 {st : List Value} {M : pj_Mem} {l : pj_Loc} {a0 a1 a2 : Option Value} {x : Int32} (h : pj_long a1 = false) {o9 : Option Value × pj_Mem} : pj_Ends 85 (23, a0 :: a1 :: a2 :: l, .int x :: st, M) o9 = pj_Ends 85 (24, a0 :: a1 :: some (.int x) :: l, st, M) o9 := pj_xs (s85_23 h)
theorem q85_24 : pj_row 85 24 = some (.iload_n 2, 1, 0, 0, 0) := by decide +kernel
theorem s85_24 {st : List Value} {M : pj_Mem} {l : pj_Loc} {a0 a1 : Option Value} {x : Int32} : pj_step 85 (24, a0 :: a1 :: some (.int x) :: l, st, M) = some (25, a0 :: a1 :: some (.int x) :: l, .int x :: st, M) := st_iload_n q85_24 rfl
theorem x85_24 {st : List Value} {M : pj_Mem} {l : pj_Loc} {a0 a1 : Option Value} {x : Int32} {o9 : Option Value × pj_Mem} : pj_Ends 85 (24, a0 :: a1 :: some (.int x) :: l, st, M) o9 = pj_Ends 85 (25, a0 :: a1 :: some (.int x) :: l, .int x :: st, M) o9 := pj_xs (s85_24)
theorem q85_25 : pj_row 85 25 = some (.iconst 3, 1, 0, 0, 0) := by decide +kernel
theorem s85_25 {L : pj_Loc} {st : List Value} {M : pj_Mem}  : pj_step 85 (25, L, st, M) = some (26, L, .int 3 :: st, M) := st_iconst q85_25 (by decide +kernel)
theorem x85_25 {L : pj_Loc} {st : List Value} {M : pj_Mem}  {o9 : Option Value × pj_Mem} : pj_Ends 85 (25, L, st, M) o9 = pj_Ends 85 (26, L, .int 3 :: st, M) o9 := pj_xs (s85_25)
theorem q85_26 : pj_row 85 26 = some (.if_icmp .ge 31, 3, 57, 0, 0) := by decide +kernel
theorem s85_26 {L : pj_Loc} {st : List Value} {M : pj_Mem} {x y : Int32} : pj_step 85 (26, L, .int y :: .int x :: st, M) = some (if y ≤ x then 57 else 29, L, st, M) := st_icmp_ge q85_26
theorem x85_26 {L : pj_Loc} {st : List Value} {M : pj_Mem} {x y : Int32} {o9 : Option Value × pj_Mem} : pj_Ends 85 (26, L, .int y :: .int x :: st, M) o9 = pj_Ends 85 (if y ≤ x then 57 else 29, L, st, M) o9 := pj_xs (s85_26)
theorem q85_29 : pj_row 85 29 = some (.aload_n 0, 1, 0, 0, 0) := by decide +kernel
theorem s85_29 {st : List Value} {M : pj_Mem} {l : pj_Loc} {x : Nat} : pj_step 85 (29, some (.ref x) :: l, st, M) = some (30, some (.ref x) :: l, .ref x :: st, M) := st_aload_n q85_29 rfl
theorem x85_29 {st : List Value} {M : pj_Mem} {l : pj_Loc} {x : Nat} {o9 : Option Value × pj_Mem} : pj_Ends 85 (29, some (.ref x) :: l, st, M) o9 = pj_Ends 85 (30, some (.ref x) :: l, .ref x :: st, M) o9 := pj_xs (s85_29)
theorem q85_30 : pj_row 85 30 = some (.getfield 28, 3, 6, 7, 0) := by decide +kernel
theorem s85_30 {L : pj_Loc} {st : List Value} {N S : Nat} {H : pj_Heap} {o : Nat} : pj_step 85 (30, L, .ref o :: st, (N, S, H)) = pj_pv 33 L st (N, S, H) (pj_fld (H o) 6 7) := st_getfield q85_30
theorem x85_30 {L : pj_Loc} {st : List Value} {N S : Nat} {H : pj_Heap} {o : Nat} {o9 : Option Value × pj_Mem} : pj_Ends 85 (30, L, .ref o :: st, (N, S, H)) o9 = pj_then 85 o9 (pj_pv 33 L st (N, S, H) (pj_fld (H o) 6 7)) := pj_xt q85_30 rfl (pj_cl_nc rfl) (s85_30)
theorem q85_33 : pj_row 85 33 = some (.iload_n 2, 1, 0, 0, 0) := by decide +kernel
theorem s85_33 {st : List Value} {M : pj_Mem} {l : pj_Loc} {a0 a1 : Option Value} {x : Int32} : pj_step 85 (33, a0 :: a1 :: some (.int x) :: l, st, M) = some (34, a0 :: a1 :: some (.int x) :: l, .int x :: st, M) := st_iload_n q85_33 rfl
theorem x85_33 {st : List Value} {M : pj_Mem} {l : pj_Loc} {a0 a1 : Option Value} {x : Int32} {o9 : Option Value × pj_Mem} : pj_Ends 85 (33, a0 :: a1 :: some (.int x) :: l, st, M) o9 = pj_Ends 85 (34, a0 :: a1 :: some (.int x) :: l, .int x :: st, M) o9 := pj_xs (s85_33)
theorem q85_34 : pj_row 85 34 = some (.aload_n 0, 1, 0, 0, 0) := by decide +kernel
theorem s85_34 {st : List Value} {M : pj_Mem} {l : pj_Loc} {x : Nat} : pj_step 85 (34, some (.ref x) :: l, st, M) = some (35, some (.ref x) :: l, .ref x :: st, M) := st_aload_n q85_34 rfl
theorem x85_34 {st : List Value} {M : pj_Mem} {l : pj_Loc} {x : Nat} {o9 : Option Value × pj_Mem} : pj_Ends 85 (34, some (.ref x) :: l, st, M) o9 = pj_Ends 85 (35, some (.ref x) :: l, .ref x :: st, M) o9 := pj_xs (s85_34)
theorem q85_35 : pj_row 85 35 = some (.getfield 25, 3, 6, 6, 0) := by decide +kernel
theorem s85_35 {L : pj_Loc} {st : List Value} {N S : Nat} {H : pj_Heap} {o : Nat} : pj_step 85 (35, L, .ref o :: st, (N, S, H)) = pj_pv 38 L st (N, S, H) (pj_fld (H o) 6 6) := st_getfield q85_35
theorem x85_35 {L : pj_Loc} {st : List Value} {N S : Nat} {H : pj_Heap} {o : Nat} {o9 : Option Value × pj_Mem} : pj_Ends 85 (35, L, .ref o :: st, (N, S, H)) o9 = pj_then 85 o9 (pj_pv 38 L st (N, S, H) (pj_fld (H o) 6 6)) := pj_xt q85_35 rfl (pj_cl_nc rfl) (s85_35)
theorem q85_38 : pj_row 85 38 = some (.iload_n 2, 1, 0, 0, 0) := by decide +kernel
theorem s85_38 {st : List Value} {M : pj_Mem} {l : pj_Loc} {a0 a1 : Option Value} {x : Int32} : pj_step 85 (38, a0 :: a1 :: some (.int x) :: l, st, M) = some (39, a0 :: a1 :: some (.int x) :: l, .int x :: st, M) := st_iload_n q85_38 rfl
theorem x85_38 {st : List Value} {M : pj_Mem} {l : pj_Loc} {a0 a1 : Option Value} {x : Int32} {o9 : Option Value × pj_Mem} : pj_Ends 85 (38, a0 :: a1 :: some (.int x) :: l, st, M) o9 = pj_Ends 85 (39, a0 :: a1 :: some (.int x) :: l, .int x :: st, M) o9 := pj_xs (s85_38)
theorem q85_39 : pj_row 85 39 = some (.iaload, 1, 0, 0, 0) := by decide +kernel
theorem s85_39 {L : pj_Loc} {st : List Value} {N S : Nat} {H : pj_Heap} {o : Nat} {i : Int32} : pj_step 85 (39, L, .int i :: .ref o :: st, (N, S, H)) = pj_pi 40 L st (N, S, H) (pj_arl (H o) 0 i) := st_iaload q85_39
theorem x85_39 {L : pj_Loc} {st : List Value} {N S : Nat} {H : pj_Heap} {o : Nat} {i : Int32} {o9 : Option Value × pj_Mem} : pj_Ends 85 (39, L, .int i :: .ref o :: st, (N, S, H)) o9 = pj_then 85 o9 (pj_pi 40 L st (N, S, H) (pj_arl (H o) 0 i)) := pj_xt q85_39 rfl (pj_cl_nc rfl) (s85_39)
theorem q85_40 : pj_row 85 40 = some (.aload_n 0, 1, 0, 0, 0) := by decide +kernel
theorem s85_40 {st : List Value} {M : pj_Mem} {l : pj_Loc} {x : Nat} : pj_step 85 (40, some (.ref x) :: l, st, M) = some (41, some (.ref x) :: l, .ref x :: st, M) := st_aload_n q85_40 rfl
theorem x85_40 {st : List Value} {M : pj_Mem} {l : pj_Loc} {x : Nat} {o9 : Option Value × pj_Mem} : pj_Ends 85 (40, some (.ref x) :: l, st, M) o9 = pj_Ends 85 (41, some (.ref x) :: l, .ref x :: st, M) o9 := pj_xs (s85_40)
theorem q85_41 : pj_row 85 41 = some (.getfield 7, 3, 6, 0, 0) := by decide +kernel
theorem s85_41 {L : pj_Loc} {st : List Value} {N S : Nat} {H : pj_Heap} {o : Nat} : pj_step 85 (41, L, .ref o :: st, (N, S, H)) = pj_pv 44 L st (N, S, H) (pj_fld (H o) 6 0) := st_getfield q85_41
theorem x85_41 {L : pj_Loc} {st : List Value} {N S : Nat} {H : pj_Heap} {o : Nat} {o9 : Option Value × pj_Mem} : pj_Ends 85 (41, L, .ref o :: st, (N, S, H)) o9 = pj_then 85 o9 (pj_pv 44 L st (N, S, H) (pj_fld (H o) 6 0)) := pj_xt q85_41 rfl (pj_cl_nc rfl) (s85_41)
theorem q85_44 : pj_row 85 44 = some (.bipush 8, 2, 0, 0, 0) := by decide +kernel
theorem s85_44 {L : pj_Loc} {st : List Value} {M : pj_Mem}  : pj_step 85 (44, L, st, M) = some (46, L, .int 8 :: st, M) := st_bipush q85_44 (by decide +kernel)
theorem x85_44 {L : pj_Loc} {st : List Value} {M : pj_Mem}  {o9 : Option Value × pj_Mem} : pj_Ends 85 (44, L, st, M) o9 = pj_Ends 85 (46, L, .int 8 :: st, M) o9 := pj_xs (s85_44)
theorem q85_46 : pj_row 85 46 = some (.iload_n 2, 1, 0, 0, 0) := by decide +kernel
theorem s85_46 {st : List Value} {M : pj_Mem} {l : pj_Loc} {a0 a1 : Option Value} {x : Int32} : pj_step 85 (46, a0 :: a1 :: some (.int x) :: l, st, M) = some (47, a0 :: a1 :: some (.int x) :: l, .int x :: st, M) := st_iload_n q85_46 rfl
theorem x85_46 {st : List Value} {M : pj_Mem} {l : pj_Loc} {a0 a1 : Option Value} {x : Int32} {o9 : Option Value × pj_Mem} : pj_Ends 85 (46, a0 :: a1 :: some (.int x) :: l, st, M) o9 = pj_Ends 85 (47, a0 :: a1 :: some (.int x) :: l, .int x :: st, M) o9 := pj_xs (s85_46)
theorem q85_47 : pj_row 85 47 = some (.iadd, 1, 0, 0, 0) := by decide +kernel
theorem s85_47 {L : pj_Loc} {st : List Value} {M : pj_Mem} {x y : Int32} : pj_step 85 (47, L, .int y :: .int x :: st, M) = some (48, L, .int (x + y) :: st, M) := st_iadd q85_47
theorem x85_47 {L : pj_Loc} {st : List Value} {M : pj_Mem} {x y : Int32} {o9 : Option Value × pj_Mem} : pj_Ends 85 (47, L, .int y :: .int x :: st, M) o9 = pj_Ends 85 (48, L, .int (x + y) :: st, M) o9 := pj_xs (s85_47)
theorem q85_48 : pj_row 85 48 = some (.iaload, 1, 0, 0, 0) := by decide +kernel
theorem s85_48 {L : pj_Loc} {st : List Value} {N S : Nat} {H : pj_Heap} {o : Nat} {i : Int32} : pj_step 85 (48, L, .int i :: .ref o :: st, (N, S, H)) = pj_pi 49 L st (N, S, H) (pj_arl (H o) 0 i) := st_iaload q85_48
theorem x85_48 {L : pj_Loc} {st : List Value} {N S : Nat} {H : pj_Heap} {o : Nat} {i : Int32} {o9 : Option Value × pj_Mem} : pj_Ends 85 (48, L, .int i :: .ref o :: st, (N, S, H)) o9 = pj_then 85 o9 (pj_pi 49 L st (N, S, H) (pj_arl (H o) 0 i)) := pj_xt q85_48 rfl (pj_cl_nc rfl) (s85_48)
theorem q85_49 : pj_row 85 49 = some (.isub, 1, 0, 0, 0) := by decide +kernel
theorem s85_49 {L : pj_Loc} {st : List Value} {M : pj_Mem} {x y : Int32} : pj_step 85 (49, L, .int y :: .int x :: st, M) = some (50, L, .int (x - y) :: st, M) := st_isub q85_49
theorem x85_49 {L : pj_Loc} {st : List Value} {M : pj_Mem} {x y : Int32} {o9 : Option Value × pj_Mem} : pj_Ends 85 (49, L, .int y :: .int x :: st, M) o9 = pj_Ends 85 (50, L, .int (x - y) :: st, M) o9 := pj_xs (s85_49)
theorem q85_50 : pj_row 85 50 = some (.iastore, 1, 0, 0, 0) := by decide +kernel
theorem s85_50 {L : pj_Loc} {st : List Value} {N S : Nat} {H : pj_Heap} {o : Nat} {i x : Int32} : pj_step 85 (50, L, .int x :: .int i :: .ref o :: st, (N, S, H)) = pj_set 51 L st (N, S, H) o (pj_ars (H o) 0 i x) := st_iastore q85_50
theorem x85_50 {L : pj_Loc} {st : List Value} {N S : Nat} {H : pj_Heap} {o : Nat} {i x : Int32} {o9 : Option Value × pj_Mem} : pj_Ends 85 (50, L, .int x :: .int i :: .ref o :: st, (N, S, H)) o9 = pj_then 85 o9 (pj_set 51 L st (N, S, H) o (pj_ars (H o) 0 i x)) := pj_xt q85_50 rfl (pj_cl_nc rfl) (s85_50)
theorem q85_51 : pj_row 85 51 = some (.iinc 2 1, 3, 0, 0, 0) := by decide +kernel
theorem s85_51 {st : List Value} {M : pj_Mem} {l : pj_Loc} {a0 a1 : Option Value} {x : Int32} (h : pj_long a1 = false) : pj_step 85 (51, a0 :: a1 :: some (.int x) :: l, st, M) = some (54, a0 :: a1 :: some (.int (x + 1)) :: l, st, M) := st_iinc q85_51 rfl (congrArg (fun y => x + y) (show Int32.ofInt 1 = 1 by decide +kernel)) (pj_st_2 h)
theorem x85_51 {st : List Value} {M : pj_Mem} {l : pj_Loc} {a0 a1 : Option Value} {x : Int32} (h : pj_long a1 = false) {o9 : Option Value × pj_Mem} : pj_Ends 85 (51, a0 :: a1 :: some (.int x) :: l, st, M) o9 = pj_Ends 85 (54, a0 :: a1 :: some (.int (x + 1)) :: l, st, M) o9 := pj_xs (s85_51 h)
theorem q85_54 : pj_row 85 54 = some (.goto (-30), 3, 24, 0, 0) := by decide +kernel
theorem s85_54 {L : pj_Loc} {st : List Value} {M : pj_Mem}  : pj_step 85 (54, L, st, M) = some (24, L, st, M) := st_goto q85_54
theorem x85_54 {L : pj_Loc} {st : List Value} {M : pj_Mem}  {o9 : Option Value × pj_Mem} : pj_Ends 85 (54, L, st, M) o9 = pj_Ends 85 (24, L, st, M) o9 := pj_xs (s85_54)
theorem q85_57 : pj_row 85 57 = some (.iconst 0, 1, 0, 0, 0) := by decide +kernel
theorem s85_57 {L : pj_Loc} {st : List Value} {M : pj_Mem}  : pj_step 85 (57, L, st, M) = some (58, L, .int 0 :: st, M) := st_iconst q85_57 (by decide +kernel)
theorem x85_57 {L : pj_Loc} {st : List Value} {M : pj_Mem}  {o9 : Option Value × pj_Mem} : pj_Ends 85 (57, L, st, M) o9 = pj_Ends 85 (58, L, .int 0 :: st, M) o9 := pj_xs (s85_57)
theorem q85_58 : pj_row 85 58 = some (.istore_n 2, 1, 0, 0, 0) := by decide +kernel
theorem s85_58 {st : List Value} {M : pj_Mem} {l : pj_Loc} {a0 a1 a2 : Option Value} {x : Int32} (h : pj_long a1 = false) : pj_step 85 (58, a0 :: a1 :: a2 :: l, .int x :: st, M) = some (59, a0 :: a1 :: some (.int x) :: l, st, M) := st_istore_n q85_58 (pj_st_2 h)
theorem x85_58 {st : List Value} {M : pj_Mem} {l : pj_Loc} {a0 a1 a2 : Option Value} {x : Int32} (h : pj_long a1 = false) {o9 : Option Value × pj_Mem} : pj_Ends 85 (58, a0 :: a1 :: a2 :: l, .int x :: st, M) o9 = pj_Ends 85 (59, a0 :: a1 :: some (.int x) :: l, st, M) o9 := pj_xs (s85_58 h)
theorem q85_59 : pj_row 85 59 = some (.iload_n 2, 1, 0, 0, 0) := by decide +kernel
theorem s85_59 {st : List Value} {M : pj_Mem} {l : pj_Loc} {a0 a1 : Option Value} {x : Int32} : pj_step 85 (59, a0 :: a1 :: some (.int x) :: l, st, M) = some (60, a0 :: a1 :: some (.int x) :: l, .int x :: st, M) := st_iload_n q85_59 rfl
theorem x85_59 {st : List Value} {M : pj_Mem} {l : pj_Loc} {a0 a1 : Option Value} {x : Int32} {o9 : Option Value × pj_Mem} : pj_Ends 85 (59, a0 :: a1 :: some (.int x) :: l, st, M) o9 = pj_Ends 85 (60, a0 :: a1 :: some (.int x) :: l, .int x :: st, M) o9 := pj_xs (s85_59)
theorem q85_60 : pj_row 85 60 = some (.iconst 3, 1, 0, 0, 0) := by decide +kernel
theorem s85_60 {L : pj_Loc} {st : List Value} {M : pj_Mem}  : pj_step 85 (60, L, st, M) = some (61, L, .int 3 :: st, M) := st_iconst q85_60 (by decide +kernel)
theorem x85_60 {L : pj_Loc} {st : List Value} {M : pj_Mem}  {o9 : Option Value × pj_Mem} : pj_Ends 85 (60, L, st, M) o9 = pj_Ends 85 (61, L, .int 3 :: st, M) o9 := pj_xs (s85_60)
theorem q85_61 : pj_row 85 61 = some (.if_icmp .ge 48, 3, 109, 0, 0) := by decide +kernel
theorem s85_61 {L : pj_Loc} {st : List Value} {M : pj_Mem} {x y : Int32} : pj_step 85 (61, L, .int y :: .int x :: st, M) = some (if y ≤ x then 109 else 64, L, st, M) := st_icmp_ge q85_61
theorem x85_61 {L : pj_Loc} {st : List Value} {M : pj_Mem} {x y : Int32} {o9 : Option Value × pj_Mem} : pj_Ends 85 (61, L, .int y :: .int x :: st, M) o9 = pj_Ends 85 (if y ≤ x then 109 else 64, L, st, M) o9 := pj_xs (s85_61)
theorem q85_64 : pj_row 85 64 = some (.aload_n 0, 1, 0, 0, 0) := by decide +kernel
theorem s85_64 {st : List Value} {M : pj_Mem} {l : pj_Loc} {x : Nat} : pj_step 85 (64, some (.ref x) :: l, st, M) = some (65, some (.ref x) :: l, .ref x :: st, M) := st_aload_n q85_64 rfl
theorem x85_64 {st : List Value} {M : pj_Mem} {l : pj_Loc} {x : Nat} {o9 : Option Value × pj_Mem} : pj_Ends 85 (64, some (.ref x) :: l, st, M) o9 = pj_Ends 85 (65, some (.ref x) :: l, .ref x :: st, M) o9 := pj_xs (s85_64)
theorem q85_65 : pj_row 85 65 = some (.aload_n 0, 1, 0, 0, 0) := by decide +kernel
theorem s85_65 {st : List Value} {M : pj_Mem} {l : pj_Loc} {x : Nat} : pj_step 85 (65, some (.ref x) :: l, st, M) = some (66, some (.ref x) :: l, .ref x :: st, M) := st_aload_n q85_65 rfl
theorem x85_65 {st : List Value} {M : pj_Mem} {l : pj_Loc} {x : Nat} {o9 : Option Value × pj_Mem} : pj_Ends 85 (65, some (.ref x) :: l, st, M) o9 = pj_Ends 85 (66, some (.ref x) :: l, .ref x :: st, M) o9 := pj_xs (s85_65)
theorem q85_66 : pj_row 85 66 = some (.getfield 7, 3, 6, 0, 0) := by decide +kernel
theorem s85_66 {L : pj_Loc} {st : List Value} {N S : Nat} {H : pj_Heap} {o : Nat} : pj_step 85 (66, L, .ref o :: st, (N, S, H)) = pj_pv 69 L st (N, S, H) (pj_fld (H o) 6 0) := st_getfield q85_66
theorem x85_66 {L : pj_Loc} {st : List Value} {N S : Nat} {H : pj_Heap} {o : Nat} {o9 : Option Value × pj_Mem} : pj_Ends 85 (66, L, .ref o :: st, (N, S, H)) o9 = pj_then 85 o9 (pj_pv 69 L st (N, S, H) (pj_fld (H o) 6 0)) := pj_xt q85_66 rfl (pj_cl_nc rfl) (s85_66)
theorem q85_69 : pj_row 85 69 = some (.bipush 14, 2, 0, 0, 0) := by decide +kernel
theorem s85_69 {L : pj_Loc} {st : List Value} {M : pj_Mem}  : pj_step 85 (69, L, st, M) = some (71, L, .int 14 :: st, M) := st_bipush q85_69 (by decide +kernel)
theorem x85_69 {L : pj_Loc} {st : List Value} {M : pj_Mem}  {o9 : Option Value × pj_Mem} : pj_Ends 85 (69, L, st, M) o9 = pj_Ends 85 (71, L, .int 14 :: st, M) o9 := pj_xs (s85_69)
theorem q85_71 : pj_row 85 71 = some (.iload_n 2, 1, 0, 0, 0) := by decide +kernel
theorem s85_71 {st : List Value} {M : pj_Mem} {l : pj_Loc} {a0 a1 : Option Value} {x : Int32} : pj_step 85 (71, a0 :: a1 :: some (.int x) :: l, st, M) = some (72, a0 :: a1 :: some (.int x) :: l, .int x :: st, M) := st_iload_n q85_71 rfl
theorem x85_71 {st : List Value} {M : pj_Mem} {l : pj_Loc} {a0 a1 : Option Value} {x : Int32} {o9 : Option Value × pj_Mem} : pj_Ends 85 (71, a0 :: a1 :: some (.int x) :: l, st, M) o9 = pj_Ends 85 (72, a0 :: a1 :: some (.int x) :: l, .int x :: st, M) o9 := pj_xs (s85_71)
theorem q85_72 : pj_row 85 72 = some (.iadd, 1, 0, 0, 0) := by decide +kernel
theorem s85_72 {L : pj_Loc} {st : List Value} {M : pj_Mem} {x y : Int32} : pj_step 85 (72, L, .int y :: .int x :: st, M) = some (73, L, .int (x + y) :: st, M) := st_iadd q85_72
theorem x85_72 {L : pj_Loc} {st : List Value} {M : pj_Mem} {x y : Int32} {o9 : Option Value × pj_Mem} : pj_Ends 85 (72, L, .int y :: .int x :: st, M) o9 = pj_Ends 85 (73, L, .int (x + y) :: st, M) o9 := pj_xs (s85_72)
theorem q85_73 : pj_row 85 73 = some (.iaload, 1, 0, 0, 0) := by decide +kernel
theorem s85_73 {L : pj_Loc} {st : List Value} {N S : Nat} {H : pj_Heap} {o : Nat} {i : Int32} : pj_step 85 (73, L, .int i :: .ref o :: st, (N, S, H)) = pj_pi 74 L st (N, S, H) (pj_arl (H o) 0 i) := st_iaload q85_73
theorem x85_73 {L : pj_Loc} {st : List Value} {N S : Nat} {H : pj_Heap} {o : Nat} {i : Int32} {o9 : Option Value × pj_Mem} : pj_Ends 85 (73, L, .int i :: .ref o :: st, (N, S, H)) o9 = pj_then 85 o9 (pj_pi 74 L st (N, S, H) (pj_arl (H o) 0 i)) := pj_xt q85_73 rfl (pj_cl_nc rfl) (s85_73)
theorem q85_74 : pj_row 85 74 = some (.iconst 1, 1, 0, 0, 0) := by decide +kernel
theorem s85_74 {L : pj_Loc} {st : List Value} {M : pj_Mem}  : pj_step 85 (74, L, st, M) = some (75, L, .int 1 :: st, M) := st_iconst q85_74 (by decide +kernel)
theorem x85_74 {L : pj_Loc} {st : List Value} {M : pj_Mem}  {o9 : Option Value × pj_Mem} : pj_Ends 85 (74, L, st, M) o9 = pj_Ends 85 (75, L, .int 1 :: st, M) o9 := pj_xs (s85_74)
theorem q85_75 : pj_row 85 75 = some (.if_icmp .ne 21, 3, 96, 0, 0) := by decide +kernel
theorem s85_75 {L : pj_Loc} {st : List Value} {M : pj_Mem} {x y : Int32} : pj_step 85 (75, L, .int y :: .int x :: st, M) = some (if ¬ x = y then 96 else 78, L, st, M) := st_icmp_ne q85_75
theorem x85_75 {L : pj_Loc} {st : List Value} {M : pj_Mem} {x y : Int32} {o9 : Option Value × pj_Mem} : pj_Ends 85 (75, L, .int y :: .int x :: st, M) o9 = pj_Ends 85 (if ¬ x = y then 96 else 78, L, st, M) o9 := pj_xs (s85_75)
theorem q85_78 : pj_row 85 78 = some (.aload_n 0, 1, 0, 0, 0) := by decide +kernel
theorem s85_78 {st : List Value} {M : pj_Mem} {l : pj_Loc} {x : Nat} : pj_step 85 (78, some (.ref x) :: l, st, M) = some (79, some (.ref x) :: l, .ref x :: st, M) := st_aload_n q85_78 rfl
theorem x85_78 {st : List Value} {M : pj_Mem} {l : pj_Loc} {x : Nat} {o9 : Option Value × pj_Mem} : pj_Ends 85 (78, some (.ref x) :: l, st, M) o9 = pj_Ends 85 (79, some (.ref x) :: l, .ref x :: st, M) o9 := pj_xs (s85_78)
theorem q85_79 : pj_row 85 79 = some (.iload_n 2, 1, 0, 0, 0) := by decide +kernel
theorem s85_79 {st : List Value} {M : pj_Mem} {l : pj_Loc} {a0 a1 : Option Value} {x : Int32} : pj_step 85 (79, a0 :: a1 :: some (.int x) :: l, st, M) = some (80, a0 :: a1 :: some (.int x) :: l, .int x :: st, M) := st_iload_n q85_79 rfl
theorem x85_79 {st : List Value} {M : pj_Mem} {l : pj_Loc} {a0 a1 : Option Value} {x : Int32} {o9 : Option Value × pj_Mem} : pj_Ends 85 (79, a0 :: a1 :: some (.int x) :: l, st, M) o9 = pj_Ends 85 (80, a0 :: a1 :: some (.int x) :: l, .int x :: st, M) o9 := pj_xs (s85_79)
theorem q85_80 : pj_row 85 80 = some (.invokevirtual 59, 3, 88, 2, 0) := by decide +kernel
theorem e85_80 {L : pj_Loc} {st : List Value} {N S : Nat} {H : pj_Heap} {o : Option Value × pj_Mem} {M' : pj_Mem} {x0 : Nat} {x1 : Int32} {r : Int32} (h4 : pj_le4 st = true) (hu : pj_isU 6 (H x0) = true) (h1 : pj_Ends 88 (0, [some (.ref x0), some (.int x1), none, none, none], [], (N, S, H)) (some (.int r), M')) (h2 : pj_Ends 85 (83, L, .int r :: st, M') o) : pj_Ends 85 (80, L, .int x1 :: .ref x0 :: st, (N, S, H)) o := ec_v2 q85_80 (Or.inl rfl) h4 hu rfl h1 h2
theorem q85_83 : pj_row 85 83 = some (.iload_n 1, 1, 0, 0, 0) := by decide +kernel
theorem s85_83 {st : List Value} {M : pj_Mem} {l : pj_Loc} {a0 : Option Value} {x : Int32} : pj_step 85 (83, a0 :: some (.int x) :: l, st, M) = some (84, a0 :: some (.int x) :: l, .int x :: st, M) := st_iload_n q85_83 rfl
theorem x85_83 {st : List Value} {M : pj_Mem} {l : pj_Loc} {a0 : Option Value} {x : Int32} {o9 : Option Value × pj_Mem} : pj_Ends 85 (83, a0 :: some (.int x) :: l, st, M) o9 = pj_Ends 85 (84, a0 :: some (.int x) :: l, .int x :: st, M) o9 := pj_xs (s85_83)
theorem q85_84 : pj_row 85 84 = some (.if_icmp .ne 12, 3, 96, 0, 0) := by decide +kernel
theorem s85_84 {L : pj_Loc} {st : List Value} {M : pj_Mem} {x y : Int32} : pj_step 85 (84, L, .int y :: .int x :: st, M) = some (if ¬ x = y then 96 else 87, L, st, M) := st_icmp_ne q85_84
theorem x85_84 {L : pj_Loc} {st : List Value} {M : pj_Mem} {x y : Int32} {o9 : Option Value × pj_Mem} : pj_Ends 85 (84, L, .int y :: .int x :: st, M) o9 = pj_Ends 85 (if ¬ x = y then 96 else 87, L, st, M) o9 := pj_xs (s85_84)
theorem q85_87 : pj_row 85 87 = some (.aload_n 0, 1, 0, 0, 0) := by decide +kernel
theorem s85_87 {st : List Value} {M : pj_Mem} {l : pj_Loc} {x : Nat} : pj_step 85 (87, some (.ref x) :: l, st, M) = some (88, some (.ref x) :: l, .ref x :: st, M) := st_aload_n q85_87 rfl
theorem x85_87 {st : List Value} {M : pj_Mem} {l : pj_Loc} {x : Nat} {o9 : Option Value × pj_Mem} : pj_Ends 85 (87, some (.ref x) :: l, st, M) o9 = pj_Ends 85 (88, some (.ref x) :: l, .ref x :: st, M) o9 := pj_xs (s85_87)
theorem q85_88 : pj_row 85 88 = some (.getfield 28, 3, 6, 7, 0) := by decide +kernel
theorem s85_88 {L : pj_Loc} {st : List Value} {N S : Nat} {H : pj_Heap} {o : Nat} : pj_step 85 (88, L, .ref o :: st, (N, S, H)) = pj_pv 91 L st (N, S, H) (pj_fld (H o) 6 7) := st_getfield q85_88
theorem x85_88 {L : pj_Loc} {st : List Value} {N S : Nat} {H : pj_Heap} {o : Nat} {o9 : Option Value × pj_Mem} : pj_Ends 85 (88, L, .ref o :: st, (N, S, H)) o9 = pj_then 85 o9 (pj_pv 91 L st (N, S, H) (pj_fld (H o) 6 7)) := pj_xt q85_88 rfl (pj_cl_nc rfl) (s85_88)
theorem q85_91 : pj_row 85 91 = some (.iload_n 2, 1, 0, 0, 0) := by decide +kernel
theorem s85_91 {st : List Value} {M : pj_Mem} {l : pj_Loc} {a0 a1 : Option Value} {x : Int32} : pj_step 85 (91, a0 :: a1 :: some (.int x) :: l, st, M) = some (92, a0 :: a1 :: some (.int x) :: l, .int x :: st, M) := st_iload_n q85_91 rfl
theorem x85_91 {st : List Value} {M : pj_Mem} {l : pj_Loc} {a0 a1 : Option Value} {x : Int32} {o9 : Option Value × pj_Mem} : pj_Ends 85 (91, a0 :: a1 :: some (.int x) :: l, st, M) o9 = pj_Ends 85 (92, a0 :: a1 :: some (.int x) :: l, .int x :: st, M) o9 := pj_xs (s85_91)
theorem q85_92 : pj_row 85 92 = some (.iaload, 1, 0, 0, 0) := by decide +kernel
theorem s85_92 {L : pj_Loc} {st : List Value} {N S : Nat} {H : pj_Heap} {o : Nat} {i : Int32} : pj_step 85 (92, L, .int i :: .ref o :: st, (N, S, H)) = pj_pi 93 L st (N, S, H) (pj_arl (H o) 0 i) := st_iaload q85_92
theorem x85_92 {L : pj_Loc} {st : List Value} {N S : Nat} {H : pj_Heap} {o : Nat} {i : Int32} {o9 : Option Value × pj_Mem} : pj_Ends 85 (92, L, .int i :: .ref o :: st, (N, S, H)) o9 = pj_then 85 o9 (pj_pi 93 L st (N, S, H) (pj_arl (H o) 0 i)) := pj_xt q85_92 rfl (pj_cl_nc rfl) (s85_92)
theorem q85_93 : pj_row 85 93 = some (.goto 7, 3, 100, 0, 0) := by decide +kernel
theorem s85_93 {L : pj_Loc} {st : List Value} {M : pj_Mem}  : pj_step 85 (93, L, st, M) = some (100, L, st, M) := st_goto q85_93
theorem x85_93 {L : pj_Loc} {st : List Value} {M : pj_Mem}  {o9 : Option Value × pj_Mem} : pj_Ends 85 (93, L, st, M) o9 = pj_Ends 85 (100, L, st, M) o9 := pj_xs (s85_93)
theorem q85_96 : pj_row 85 96 = some (.aload_n 0, 1, 0, 0, 0) := by decide +kernel
theorem s85_96 {st : List Value} {M : pj_Mem} {l : pj_Loc} {x : Nat} : pj_step 85 (96, some (.ref x) :: l, st, M) = some (97, some (.ref x) :: l, .ref x :: st, M) := st_aload_n q85_96 rfl
theorem x85_96 {st : List Value} {M : pj_Mem} {l : pj_Loc} {x : Nat} {o9 : Option Value × pj_Mem} : pj_Ends 85 (96, some (.ref x) :: l, st, M) o9 = pj_Ends 85 (97, some (.ref x) :: l, .ref x :: st, M) o9 := pj_xs (s85_96)
theorem q85_97 : pj_row 85 97 = some (.getfield 56, 3, 6, 8, 0) := by decide +kernel
theorem s85_97 {L : pj_Loc} {st : List Value} {N S : Nat} {H : pj_Heap} {o : Nat} : pj_step 85 (97, L, .ref o :: st, (N, S, H)) = pj_pv 100 L st (N, S, H) (pj_fld (H o) 6 8) := st_getfield q85_97
theorem x85_97 {L : pj_Loc} {st : List Value} {N S : Nat} {H : pj_Heap} {o : Nat} {o9 : Option Value × pj_Mem} : pj_Ends 85 (97, L, .ref o :: st, (N, S, H)) o9 = pj_then 85 o9 (pj_pv 100 L st (N, S, H) (pj_fld (H o) 6 8)) := pj_xt q85_97 rfl (pj_cl_nc rfl) (s85_97)
theorem q85_100 : pj_row 85 100 = some (.putfield 56, 3, 6, 8, 0) := by decide +kernel
theorem s85_100 {L : pj_Loc} {st : List Value} {N S : Nat} {H : pj_Heap} {o : Nat} {v : Value} : pj_step 85 (100, L, v :: .ref o :: st, (N, S, H)) = pj_set 103 L st (N, S, H) o (pj_fset (H o) 6 8 v) := st_putfield q85_100
theorem x85_100 {L : pj_Loc} {st : List Value} {N S : Nat} {H : pj_Heap} {o : Nat} {v : Value} {o9 : Option Value × pj_Mem} : pj_Ends 85 (100, L, v :: .ref o :: st, (N, S, H)) o9 = pj_then 85 o9 (pj_set 103 L st (N, S, H) o (pj_fset (H o) 6 8 v)) := pj_xt q85_100 rfl (pj_cl_nc rfl) (s85_100)
theorem q85_103 : pj_row 85 103 = some (.iinc 2 1, 3, 0, 0, 0) := by decide +kernel
theorem s85_103 {st : List Value} {M : pj_Mem} {l : pj_Loc} {a0 a1 : Option Value} {x : Int32} (h : pj_long a1 = false) : pj_step 85 (103, a0 :: a1 :: some (.int x) :: l, st, M) = some (106, a0 :: a1 :: some (.int (x + 1)) :: l, st, M) := st_iinc q85_103 rfl (congrArg (fun y => x + y) (show Int32.ofInt 1 = 1 by decide +kernel)) (pj_st_2 h)
theorem x85_103 {st : List Value} {M : pj_Mem} {l : pj_Loc} {a0 a1 : Option Value} {x : Int32} (h : pj_long a1 = false) {o9 : Option Value × pj_Mem} : pj_Ends 85 (103, a0 :: a1 :: some (.int x) :: l, st, M) o9 = pj_Ends 85 (106, a0 :: a1 :: some (.int (x + 1)) :: l, st, M) o9 := pj_xs (s85_103 h)
theorem q85_106 : pj_row 85 106 = some (.goto (-47), 3, 59, 0, 0) := by decide +kernel
theorem s85_106 {L : pj_Loc} {st : List Value} {M : pj_Mem}  : pj_step 85 (106, L, st, M) = some (59, L, st, M) := st_goto q85_106
theorem x85_106 {L : pj_Loc} {st : List Value} {M : pj_Mem}  {o9 : Option Value × pj_Mem} : pj_Ends 85 (106, L, st, M) o9 = pj_Ends 85 (59, L, st, M) o9 := pj_xs (s85_106)
theorem q85_109 : pj_row 85 109 = some (.return_, 1, 0, 0, 0) := by decide +kernel
theorem t85_109 {L : pj_Loc} {M : pj_Mem} : pj_Ends 85 (109, L, [], M) (none, M) := pj_Ends.ret q85_109 (pj_rtn_v rt85)
theorem rt86 : pj_rt 86 = some .int := rfl
theorem q86_0 : pj_row 86 0 = some (.aload_n 0, 1, 0, 0, 0) := by decide +kernel
theorem s86_0 {st : List Value} {M : pj_Mem} {l : pj_Loc} {x : Nat} : pj_step 86 (0, some (.ref x) :: l, st, M) = some (1, some (.ref x) :: l, .ref x :: st, M) := st_aload_n q86_0 rfl
theorem x86_0 {st : List Value} {M : pj_Mem} {l : pj_Loc} {x : Nat} {o9 : Option Value × pj_Mem} : pj_Ends 86 (0, some (.ref x) :: l, st, M) o9 = pj_Ends 86 (1, some (.ref x) :: l, .ref x :: st, M) o9 := pj_xs (s86_0)
theorem q86_1 : pj_row 86 1 = some (.getfield 7, 3, 6, 0, 0) := by decide +kernel
theorem s86_1 {L : pj_Loc} {st : List Value} {N S : Nat} {H : pj_Heap} {o : Nat} : pj_step 86 (1, L, .ref o :: st, (N, S, H)) = pj_pv 4 L st (N, S, H) (pj_fld (H o) 6 0) := st_getfield q86_1
theorem x86_1 {L : pj_Loc} {st : List Value} {N S : Nat} {H : pj_Heap} {o : Nat} {o9 : Option Value × pj_Mem} : pj_Ends 86 (1, L, .ref o :: st, (N, S, H)) o9 = pj_then 86 o9 (pj_pv 4 L st (N, S, H) (pj_fld (H o) 6 0)) := pj_xt q86_1 rfl (pj_cl_nc rfl) (s86_1)
theorem q86_4 : pj_row 86 4 = some (.bipush 14, 2, 0, 0, 0) := by decide +kernel
theorem s86_4 {L : pj_Loc} {st : List Value} {M : pj_Mem}  : pj_step 86 (4, L, st, M) = some (6, L, .int 14 :: st, M) := st_bipush q86_4 (by decide +kernel)
theorem x86_4 {L : pj_Loc} {st : List Value} {M : pj_Mem}  {o9 : Option Value × pj_Mem} : pj_Ends 86 (4, L, st, M) o9 = pj_Ends 86 (6, L, .int 14 :: st, M) o9 := pj_xs (s86_4)
theorem q86_6 : pj_row 86 6 = some (.iaload, 1, 0, 0, 0) := by decide +kernel
theorem s86_6 {L : pj_Loc} {st : List Value} {N S : Nat} {H : pj_Heap} {o : Nat} {i : Int32} : pj_step 86 (6, L, .int i :: .ref o :: st, (N, S, H)) = pj_pi 7 L st (N, S, H) (pj_arl (H o) 0 i) := st_iaload q86_6
theorem x86_6 {L : pj_Loc} {st : List Value} {N S : Nat} {H : pj_Heap} {o : Nat} {i : Int32} {o9 : Option Value × pj_Mem} : pj_Ends 86 (6, L, .int i :: .ref o :: st, (N, S, H)) o9 = pj_then 86 o9 (pj_pi 7 L st (N, S, H) (pj_arl (H o) 0 i)) := pj_xt q86_6 rfl (pj_cl_nc rfl) (s86_6)
theorem q86_7 : pj_row 86 7 = some (.iconst 2, 1, 0, 0, 0) := by decide +kernel
theorem s86_7 {L : pj_Loc} {st : List Value} {M : pj_Mem}  : pj_step 86 (7, L, st, M) = some (8, L, .int 2 :: st, M) := st_iconst q86_7 (by decide +kernel)
theorem x86_7 {L : pj_Loc} {st : List Value} {M : pj_Mem}  {o9 : Option Value × pj_Mem} : pj_Ends 86 (7, L, st, M) o9 = pj_Ends 86 (8, L, .int 2 :: st, M) o9 := pj_xs (s86_7)
theorem q86_8 : pj_row 86 8 = some (.aload_n 0, 1, 0, 0, 0) := by decide +kernel
theorem s86_8 {st : List Value} {M : pj_Mem} {l : pj_Loc} {x : Nat} : pj_step 86 (8, some (.ref x) :: l, st, M) = some (9, some (.ref x) :: l, .ref x :: st, M) := st_aload_n q86_8 rfl
theorem x86_8 {st : List Value} {M : pj_Mem} {l : pj_Loc} {x : Nat} {o9 : Option Value × pj_Mem} : pj_Ends 86 (8, some (.ref x) :: l, st, M) o9 = pj_Ends 86 (9, some (.ref x) :: l, .ref x :: st, M) o9 := pj_xs (s86_8)
theorem q86_9 : pj_row 86 9 = some (.getfield 7, 3, 6, 0, 0) := by decide +kernel
theorem s86_9 {L : pj_Loc} {st : List Value} {N S : Nat} {H : pj_Heap} {o : Nat} : pj_step 86 (9, L, .ref o :: st, (N, S, H)) = pj_pv 12 L st (N, S, H) (pj_fld (H o) 6 0) := st_getfield q86_9
theorem x86_9 {L : pj_Loc} {st : List Value} {N S : Nat} {H : pj_Heap} {o : Nat} {o9 : Option Value × pj_Mem} : pj_Ends 86 (9, L, .ref o :: st, (N, S, H)) o9 = pj_then 86 o9 (pj_pv 12 L st (N, S, H) (pj_fld (H o) 6 0)) := pj_xt q86_9 rfl (pj_cl_nc rfl) (s86_9)
theorem q86_12 : pj_row 86 12 = some (.bipush 15, 2, 0, 0, 0) := by decide +kernel
theorem s86_12 {L : pj_Loc} {st : List Value} {M : pj_Mem}  : pj_step 86 (12, L, st, M) = some (14, L, .int 15 :: st, M) := st_bipush q86_12 (by decide +kernel)
theorem x86_12 {L : pj_Loc} {st : List Value} {M : pj_Mem}  {o9 : Option Value × pj_Mem} : pj_Ends 86 (12, L, st, M) o9 = pj_Ends 86 (14, L, .int 15 :: st, M) o9 := pj_xs (s86_12)
theorem q86_14 : pj_row 86 14 = some (.iaload, 1, 0, 0, 0) := by decide +kernel
theorem s86_14 {L : pj_Loc} {st : List Value} {N S : Nat} {H : pj_Heap} {o : Nat} {i : Int32} : pj_step 86 (14, L, .int i :: .ref o :: st, (N, S, H)) = pj_pi 15 L st (N, S, H) (pj_arl (H o) 0 i) := st_iaload q86_14
theorem x86_14 {L : pj_Loc} {st : List Value} {N S : Nat} {H : pj_Heap} {o : Nat} {i : Int32} {o9 : Option Value × pj_Mem} : pj_Ends 86 (14, L, .int i :: .ref o :: st, (N, S, H)) o9 = pj_then 86 o9 (pj_pi 15 L st (N, S, H) (pj_arl (H o) 0 i)) := pj_xt q86_14 rfl (pj_cl_nc rfl) (s86_14)
theorem q86_15 : pj_row 86 15 = some (.imul, 1, 0, 0, 0) := by decide +kernel
theorem s86_15 {L : pj_Loc} {st : List Value} {M : pj_Mem} {x y : Int32} : pj_step 86 (15, L, .int y :: .int x :: st, M) = some (16, L, .int (x * y) :: st, M) := st_imul q86_15
theorem x86_15 {L : pj_Loc} {st : List Value} {M : pj_Mem} {x y : Int32} {o9 : Option Value × pj_Mem} : pj_Ends 86 (15, L, .int y :: .int x :: st, M) o9 = pj_Ends 86 (16, L, .int (x * y) :: st, M) o9 := pj_xs (s86_15)
theorem q86_16 : pj_row 86 16 = some (.iadd, 1, 0, 0, 0) := by decide +kernel
theorem s86_16 {L : pj_Loc} {st : List Value} {M : pj_Mem} {x y : Int32} : pj_step 86 (16, L, .int y :: .int x :: st, M) = some (17, L, .int (x + y) :: st, M) := st_iadd q86_16
theorem x86_16 {L : pj_Loc} {st : List Value} {M : pj_Mem} {x y : Int32} {o9 : Option Value × pj_Mem} : pj_Ends 86 (16, L, .int y :: .int x :: st, M) o9 = pj_Ends 86 (17, L, .int (x + y) :: st, M) o9 := pj_xs (s86_16)
theorem q86_17 : pj_row 86 17 = some (.iconst 4, 1, 0, 0, 0) := by decide +kernel
theorem s86_17 {L : pj_Loc} {st : List Value} {M : pj_Mem}  : pj_step 86 (17, L, st, M) = some (18, L, .int 4 :: st, M) := st_iconst q86_17 (by decide +kernel)
theorem x86_17 {L : pj_Loc} {st : List Value} {M : pj_Mem}  {o9 : Option Value × pj_Mem} : pj_Ends 86 (17, L, st, M) o9 = pj_Ends 86 (18, L, .int 4 :: st, M) o9 := pj_xs (s86_17)
theorem q86_18 : pj_row 86 18 = some (.aload_n 0, 1, 0, 0, 0) := by decide +kernel
theorem s86_18 {st : List Value} {M : pj_Mem} {l : pj_Loc} {x : Nat} : pj_step 86 (18, some (.ref x) :: l, st, M) = some (19, some (.ref x) :: l, .ref x :: st, M) := st_aload_n q86_18 rfl
theorem x86_18 {st : List Value} {M : pj_Mem} {l : pj_Loc} {x : Nat} {o9 : Option Value × pj_Mem} : pj_Ends 86 (18, some (.ref x) :: l, st, M) o9 = pj_Ends 86 (19, some (.ref x) :: l, .ref x :: st, M) o9 := pj_xs (s86_18)
theorem q86_19 : pj_row 86 19 = some (.getfield 7, 3, 6, 0, 0) := by decide +kernel
theorem s86_19 {L : pj_Loc} {st : List Value} {N S : Nat} {H : pj_Heap} {o : Nat} : pj_step 86 (19, L, .ref o :: st, (N, S, H)) = pj_pv 22 L st (N, S, H) (pj_fld (H o) 6 0) := st_getfield q86_19
theorem x86_19 {L : pj_Loc} {st : List Value} {N S : Nat} {H : pj_Heap} {o : Nat} {o9 : Option Value × pj_Mem} : pj_Ends 86 (19, L, .ref o :: st, (N, S, H)) o9 = pj_then 86 o9 (pj_pv 22 L st (N, S, H) (pj_fld (H o) 6 0)) := pj_xt q86_19 rfl (pj_cl_nc rfl) (s86_19)
theorem q86_22 : pj_row 86 22 = some (.bipush 16, 2, 0, 0, 0) := by decide +kernel
theorem s86_22 {L : pj_Loc} {st : List Value} {M : pj_Mem}  : pj_step 86 (22, L, st, M) = some (24, L, .int 16 :: st, M) := st_bipush q86_22 (by decide +kernel)
theorem x86_22 {L : pj_Loc} {st : List Value} {M : pj_Mem}  {o9 : Option Value × pj_Mem} : pj_Ends 86 (22, L, st, M) o9 = pj_Ends 86 (24, L, .int 16 :: st, M) o9 := pj_xs (s86_22)
theorem q86_24 : pj_row 86 24 = some (.iaload, 1, 0, 0, 0) := by decide +kernel
theorem s86_24 {L : pj_Loc} {st : List Value} {N S : Nat} {H : pj_Heap} {o : Nat} {i : Int32} : pj_step 86 (24, L, .int i :: .ref o :: st, (N, S, H)) = pj_pi 25 L st (N, S, H) (pj_arl (H o) 0 i) := st_iaload q86_24
theorem x86_24 {L : pj_Loc} {st : List Value} {N S : Nat} {H : pj_Heap} {o : Nat} {i : Int32} {o9 : Option Value × pj_Mem} : pj_Ends 86 (24, L, .int i :: .ref o :: st, (N, S, H)) o9 = pj_then 86 o9 (pj_pi 25 L st (N, S, H) (pj_arl (H o) 0 i)) := pj_xt q86_24 rfl (pj_cl_nc rfl) (s86_24)
theorem q86_25 : pj_row 86 25 = some (.imul, 1, 0, 0, 0) := by decide +kernel
theorem s86_25 {L : pj_Loc} {st : List Value} {M : pj_Mem} {x y : Int32} : pj_step 86 (25, L, .int y :: .int x :: st, M) = some (26, L, .int (x * y) :: st, M) := st_imul q86_25
theorem x86_25 {L : pj_Loc} {st : List Value} {M : pj_Mem} {x y : Int32} {o9 : Option Value × pj_Mem} : pj_Ends 86 (25, L, .int y :: .int x :: st, M) o9 = pj_Ends 86 (26, L, .int (x * y) :: st, M) o9 := pj_xs (s86_25)
theorem q86_26 : pj_row 86 26 = some (.iadd, 1, 0, 0, 0) := by decide +kernel
theorem s86_26 {L : pj_Loc} {st : List Value} {M : pj_Mem} {x y : Int32} : pj_step 86 (26, L, .int y :: .int x :: st, M) = some (27, L, .int (x + y) :: st, M) := st_iadd q86_26
theorem x86_26 {L : pj_Loc} {st : List Value} {M : pj_Mem} {x y : Int32} {o9 : Option Value × pj_Mem} : pj_Ends 86 (26, L, .int y :: .int x :: st, M) o9 = pj_Ends 86 (27, L, .int (x + y) :: st, M) o9 := pj_xs (s86_26)
theorem q86_27 : pj_row 86 27 = some (.ireturn, 1, 0, 0, 0) := by decide +kernel
theorem t86_27 {L : pj_Loc} {M : pj_Mem} {v : Int32} : pj_Ends 86 (27, L, [.int v], M) (some (.int v), M) := pj_Ends.ret q86_27 (pj_rtn_i rt86)
theorem rt87 : pj_rt 87 = some .int := rfl
theorem q87_0 : pj_row 87 0 = some (.iload_n 0, 1, 0, 0, 0) := by decide +kernel
theorem s87_0 {st : List Value} {M : pj_Mem} {l : pj_Loc} {x : Int32} : pj_step 87 (0, some (.int x) :: l, st, M) = some (1, some (.int x) :: l, .int x :: st, M) := st_iload_n q87_0 rfl
theorem x87_0 {st : List Value} {M : pj_Mem} {l : pj_Loc} {x : Int32} {o9 : Option Value × pj_Mem} : pj_Ends 87 (0, some (.int x) :: l, st, M) o9 = pj_Ends 87 (1, some (.int x) :: l, .int x :: st, M) o9 := pj_xs (s87_0)
theorem q87_1 : pj_row 87 1 = some (.iconst 1, 1, 0, 0, 0) := by decide +kernel
theorem s87_1 {L : pj_Loc} {st : List Value} {M : pj_Mem}  : pj_step 87 (1, L, st, M) = some (2, L, .int 1 :: st, M) := st_iconst q87_1 (by decide +kernel)
theorem x87_1 {L : pj_Loc} {st : List Value} {M : pj_Mem}  {o9 : Option Value × pj_Mem} : pj_Ends 87 (1, L, st, M) o9 = pj_Ends 87 (2, L, .int 1 :: st, M) o9 := pj_xs (s87_1)
theorem q87_2 : pj_row 87 2 = some (.iand, 1, 0, 0, 0) := by decide +kernel
theorem s87_2 {L : pj_Loc} {st : List Value} {M : pj_Mem} {x y : Int32} : pj_step 87 (2, L, .int y :: .int x :: st, M) = some (3, L, .int (x &&& y) :: st, M) := st_iand q87_2
theorem x87_2 {L : pj_Loc} {st : List Value} {M : pj_Mem} {x y : Int32} {o9 : Option Value × pj_Mem} : pj_Ends 87 (2, L, .int y :: .int x :: st, M) o9 = pj_Ends 87 (3, L, .int (x &&& y) :: st, M) o9 := pj_xs (s87_2)
theorem q87_3 : pj_row 87 3 = some (.iload_n 0, 1, 0, 0, 0) := by decide +kernel
theorem s87_3 {st : List Value} {M : pj_Mem} {l : pj_Loc} {x : Int32} : pj_step 87 (3, some (.int x) :: l, st, M) = some (4, some (.int x) :: l, .int x :: st, M) := st_iload_n q87_3 rfl
theorem x87_3 {st : List Value} {M : pj_Mem} {l : pj_Loc} {x : Int32} {o9 : Option Value × pj_Mem} : pj_Ends 87 (3, some (.int x) :: l, st, M) o9 = pj_Ends 87 (4, some (.int x) :: l, .int x :: st, M) o9 := pj_xs (s87_3)
theorem q87_4 : pj_row 87 4 = some (.iconst 1, 1, 0, 0, 0) := by decide +kernel
theorem s87_4 {L : pj_Loc} {st : List Value} {M : pj_Mem}  : pj_step 87 (4, L, st, M) = some (5, L, .int 1 :: st, M) := st_iconst q87_4 (by decide +kernel)
theorem x87_4 {L : pj_Loc} {st : List Value} {M : pj_Mem}  {o9 : Option Value × pj_Mem} : pj_Ends 87 (4, L, st, M) o9 = pj_Ends 87 (5, L, .int 1 :: st, M) o9 := pj_xs (s87_4)
theorem q87_5 : pj_row 87 5 = some (.ishr, 1, 0, 0, 0) := by decide +kernel
theorem s87_5 {L : pj_Loc} {st : List Value} {M : pj_Mem} {x y : Int32} : pj_step 87 (5, L, .int y :: .int x :: st, M) = some (6, L, .int (x >>> (y &&& 31)) :: st, M) := st_ishr q87_5
theorem x87_5 {L : pj_Loc} {st : List Value} {M : pj_Mem} {x y : Int32} {o9 : Option Value × pj_Mem} : pj_Ends 87 (5, L, .int y :: .int x :: st, M) o9 = pj_Ends 87 (6, L, .int (x >>> (y &&& 31)) :: st, M) o9 := pj_xs (s87_5)
theorem q87_6 : pj_row 87 6 = some (.iconst 1, 1, 0, 0, 0) := by decide +kernel
theorem s87_6 {L : pj_Loc} {st : List Value} {M : pj_Mem}  : pj_step 87 (6, L, st, M) = some (7, L, .int 1 :: st, M) := st_iconst q87_6 (by decide +kernel)
theorem x87_6 {L : pj_Loc} {st : List Value} {M : pj_Mem}  {o9 : Option Value × pj_Mem} : pj_Ends 87 (6, L, st, M) o9 = pj_Ends 87 (7, L, .int 1 :: st, M) o9 := pj_xs (s87_6)
theorem q87_7 : pj_row 87 7 = some (.iand, 1, 0, 0, 0) := by decide +kernel
theorem s87_7 {L : pj_Loc} {st : List Value} {M : pj_Mem} {x y : Int32} : pj_step 87 (7, L, .int y :: .int x :: st, M) = some (8, L, .int (x &&& y) :: st, M) := st_iand q87_7
theorem x87_7 {L : pj_Loc} {st : List Value} {M : pj_Mem} {x y : Int32} {o9 : Option Value × pj_Mem} : pj_Ends 87 (7, L, .int y :: .int x :: st, M) o9 = pj_Ends 87 (8, L, .int (x &&& y) :: st, M) o9 := pj_xs (s87_7)
theorem q87_8 : pj_row 87 8 = some (.iadd, 1, 0, 0, 0) := by decide +kernel
theorem s87_8 {L : pj_Loc} {st : List Value} {M : pj_Mem} {x y : Int32} : pj_step 87 (8, L, .int y :: .int x :: st, M) = some (9, L, .int (x + y) :: st, M) := st_iadd q87_8
theorem x87_8 {L : pj_Loc} {st : List Value} {M : pj_Mem} {x y : Int32} {o9 : Option Value × pj_Mem} : pj_Ends 87 (8, L, .int y :: .int x :: st, M) o9 = pj_Ends 87 (9, L, .int (x + y) :: st, M) o9 := pj_xs (s87_8)
theorem q87_9 : pj_row 87 9 = some (.iload_n 0, 1, 0, 0, 0) := by decide +kernel
theorem s87_9 {st : List Value} {M : pj_Mem} {l : pj_Loc} {x : Int32} : pj_step 87 (9, some (.int x) :: l, st, M) = some (10, some (.int x) :: l, .int x :: st, M) := st_iload_n q87_9 rfl
theorem x87_9 {st : List Value} {M : pj_Mem} {l : pj_Loc} {x : Int32} {o9 : Option Value × pj_Mem} : pj_Ends 87 (9, some (.int x) :: l, st, M) o9 = pj_Ends 87 (10, some (.int x) :: l, .int x :: st, M) o9 := pj_xs (s87_9)
theorem q87_10 : pj_row 87 10 = some (.iconst 2, 1, 0, 0, 0) := by decide +kernel
theorem s87_10 {L : pj_Loc} {st : List Value} {M : pj_Mem}  : pj_step 87 (10, L, st, M) = some (11, L, .int 2 :: st, M) := st_iconst q87_10 (by decide +kernel)
theorem x87_10 {L : pj_Loc} {st : List Value} {M : pj_Mem}  {o9 : Option Value × pj_Mem} : pj_Ends 87 (10, L, st, M) o9 = pj_Ends 87 (11, L, .int 2 :: st, M) o9 := pj_xs (s87_10)
theorem q87_11 : pj_row 87 11 = some (.ishr, 1, 0, 0, 0) := by decide +kernel
theorem s87_11 {L : pj_Loc} {st : List Value} {M : pj_Mem} {x y : Int32} : pj_step 87 (11, L, .int y :: .int x :: st, M) = some (12, L, .int (x >>> (y &&& 31)) :: st, M) := st_ishr q87_11
theorem x87_11 {L : pj_Loc} {st : List Value} {M : pj_Mem} {x y : Int32} {o9 : Option Value × pj_Mem} : pj_Ends 87 (11, L, .int y :: .int x :: st, M) o9 = pj_Ends 87 (12, L, .int (x >>> (y &&& 31)) :: st, M) o9 := pj_xs (s87_11)
theorem q87_12 : pj_row 87 12 = some (.iconst 1, 1, 0, 0, 0) := by decide +kernel
theorem s87_12 {L : pj_Loc} {st : List Value} {M : pj_Mem}  : pj_step 87 (12, L, st, M) = some (13, L, .int 1 :: st, M) := st_iconst q87_12 (by decide +kernel)
theorem x87_12 {L : pj_Loc} {st : List Value} {M : pj_Mem}  {o9 : Option Value × pj_Mem} : pj_Ends 87 (12, L, st, M) o9 = pj_Ends 87 (13, L, .int 1 :: st, M) o9 := pj_xs (s87_12)
theorem q87_13 : pj_row 87 13 = some (.iand, 1, 0, 0, 0) := by decide +kernel
theorem s87_13 {L : pj_Loc} {st : List Value} {M : pj_Mem} {x y : Int32} : pj_step 87 (13, L, .int y :: .int x :: st, M) = some (14, L, .int (x &&& y) :: st, M) := st_iand q87_13
theorem x87_13 {L : pj_Loc} {st : List Value} {M : pj_Mem} {x y : Int32} {o9 : Option Value × pj_Mem} : pj_Ends 87 (13, L, .int y :: .int x :: st, M) o9 = pj_Ends 87 (14, L, .int (x &&& y) :: st, M) o9 := pj_xs (s87_13)
theorem q87_14 : pj_row 87 14 = some (.iadd, 1, 0, 0, 0) := by decide +kernel
theorem s87_14 {L : pj_Loc} {st : List Value} {M : pj_Mem} {x y : Int32} : pj_step 87 (14, L, .int y :: .int x :: st, M) = some (15, L, .int (x + y) :: st, M) := st_iadd q87_14
theorem x87_14 {L : pj_Loc} {st : List Value} {M : pj_Mem} {x y : Int32} {o9 : Option Value × pj_Mem} : pj_Ends 87 (14, L, .int y :: .int x :: st, M) o9 = pj_Ends 87 (15, L, .int (x + y) :: st, M) o9 := pj_xs (s87_14)
theorem q87_15 : pj_row 87 15 = some (.ireturn, 1, 0, 0, 0) := by decide +kernel
theorem t87_15 {L : pj_Loc} {M : pj_Mem} {v : Int32} : pj_Ends 87 (15, L, [.int v], M) (some (.int v), M) := pj_Ends.ret q87_15 (pj_rtn_i rt87)
theorem rt88 : pj_rt 88 = some .int := rfl
theorem q88_0 : pj_row 88 0 = some (.iconst 0, 1, 0, 0, 0) := by decide +kernel
theorem s88_0 {L : pj_Loc} {st : List Value} {M : pj_Mem}  : pj_step 88 (0, L, st, M) = some (1, L, .int 0 :: st, M) := st_iconst q88_0 (by decide +kernel)
theorem x88_0 {L : pj_Loc} {st : List Value} {M : pj_Mem}  {o9 : Option Value × pj_Mem} : pj_Ends 88 (0, L, st, M) o9 = pj_Ends 88 (1, L, .int 0 :: st, M) o9 := pj_xs (s88_0)
theorem q88_1 : pj_row 88 1 = some (.istore_n 2, 1, 0, 0, 0) := by decide +kernel
theorem s88_1 {st : List Value} {M : pj_Mem} {l : pj_Loc} {a0 a1 a2 : Option Value} {x : Int32} (h : pj_long a1 = false) : pj_step 88 (1, a0 :: a1 :: a2 :: l, .int x :: st, M) = some (2, a0 :: a1 :: some (.int x) :: l, st, M) := st_istore_n q88_1 (pj_st_2 h)
theorem x88_1 {st : List Value} {M : pj_Mem} {l : pj_Loc} {a0 a1 a2 : Option Value} {x : Int32} (h : pj_long a1 = false) {o9 : Option Value × pj_Mem} : pj_Ends 88 (1, a0 :: a1 :: a2 :: l, .int x :: st, M) o9 = pj_Ends 88 (2, a0 :: a1 :: some (.int x) :: l, st, M) o9 := pj_xs (s88_1 h)
theorem q88_2 : pj_row 88 2 = some (.iconst 0, 1, 0, 0, 0) := by decide +kernel
theorem s88_2 {L : pj_Loc} {st : List Value} {M : pj_Mem}  : pj_step 88 (2, L, st, M) = some (3, L, .int 0 :: st, M) := st_iconst q88_2 (by decide +kernel)
theorem x88_2 {L : pj_Loc} {st : List Value} {M : pj_Mem}  {o9 : Option Value × pj_Mem} : pj_Ends 88 (2, L, st, M) o9 = pj_Ends 88 (3, L, .int 0 :: st, M) o9 := pj_xs (s88_2)
theorem q88_3 : pj_row 88 3 = some (.istore_n 3, 1, 0, 0, 0) := by decide +kernel
theorem s88_3 {st : List Value} {M : pj_Mem} {l : pj_Loc} {a0 a1 a2 a3 : Option Value} {x : Int32} (h : pj_long a2 = false) : pj_step 88 (3, a0 :: a1 :: a2 :: a3 :: l, .int x :: st, M) = some (4, a0 :: a1 :: a2 :: some (.int x) :: l, st, M) := st_istore_n q88_3 (pj_st_3 h)
theorem x88_3 {st : List Value} {M : pj_Mem} {l : pj_Loc} {a0 a1 a2 a3 : Option Value} {x : Int32} (h : pj_long a2 = false) {o9 : Option Value × pj_Mem} : pj_Ends 88 (3, a0 :: a1 :: a2 :: a3 :: l, .int x :: st, M) o9 = pj_Ends 88 (4, a0 :: a1 :: a2 :: some (.int x) :: l, st, M) o9 := pj_xs (s88_3 h)
theorem q88_4 : pj_row 88 4 = some (.iload_n 3, 1, 0, 0, 0) := by decide +kernel
theorem s88_4 {st : List Value} {M : pj_Mem} {l : pj_Loc} {a0 a1 a2 : Option Value} {x : Int32} : pj_step 88 (4, a0 :: a1 :: a2 :: some (.int x) :: l, st, M) = some (5, a0 :: a1 :: a2 :: some (.int x) :: l, .int x :: st, M) := st_iload_n q88_4 rfl
theorem x88_4 {st : List Value} {M : pj_Mem} {l : pj_Loc} {a0 a1 a2 : Option Value} {x : Int32} {o9 : Option Value × pj_Mem} : pj_Ends 88 (4, a0 :: a1 :: a2 :: some (.int x) :: l, st, M) o9 = pj_Ends 88 (5, a0 :: a1 :: a2 :: some (.int x) :: l, .int x :: st, M) o9 := pj_xs (s88_4)
theorem q88_5 : pj_row 88 5 = some (.iconst 3, 1, 0, 0, 0) := by decide +kernel
theorem s88_5 {L : pj_Loc} {st : List Value} {M : pj_Mem}  : pj_step 88 (5, L, st, M) = some (6, L, .int 3 :: st, M) := st_iconst q88_5 (by decide +kernel)
theorem x88_5 {L : pj_Loc} {st : List Value} {M : pj_Mem}  {o9 : Option Value × pj_Mem} : pj_Ends 88 (5, L, st, M) o9 = pj_Ends 88 (6, L, .int 3 :: st, M) o9 := pj_xs (s88_5)
theorem q88_6 : pj_row 88 6 = some (.if_icmp .ge 77, 3, 83, 0, 0) := by decide +kernel
theorem s88_6 {L : pj_Loc} {st : List Value} {M : pj_Mem} {x y : Int32} : pj_step 88 (6, L, .int y :: .int x :: st, M) = some (if y ≤ x then 83 else 9, L, st, M) := st_icmp_ge q88_6
theorem x88_6 {L : pj_Loc} {st : List Value} {M : pj_Mem} {x y : Int32} {o9 : Option Value × pj_Mem} : pj_Ends 88 (6, L, .int y :: .int x :: st, M) o9 = pj_Ends 88 (if y ≤ x then 83 else 9, L, st, M) o9 := pj_xs (s88_6)
theorem q88_9 : pj_row 88 9 = some (.aload_n 0, 1, 0, 0, 0) := by decide +kernel
theorem s88_9 {st : List Value} {M : pj_Mem} {l : pj_Loc} {x : Nat} : pj_step 88 (9, some (.ref x) :: l, st, M) = some (10, some (.ref x) :: l, .ref x :: st, M) := st_aload_n q88_9 rfl
theorem x88_9 {st : List Value} {M : pj_Mem} {l : pj_Loc} {x : Nat} {o9 : Option Value × pj_Mem} : pj_Ends 88 (9, some (.ref x) :: l, st, M) o9 = pj_Ends 88 (10, some (.ref x) :: l, .ref x :: st, M) o9 := pj_xs (s88_9)
theorem q88_10 : pj_row 88 10 = some (.getfield 28, 3, 6, 7, 0) := by decide +kernel
theorem s88_10 {L : pj_Loc} {st : List Value} {N S : Nat} {H : pj_Heap} {o : Nat} : pj_step 88 (10, L, .ref o :: st, (N, S, H)) = pj_pv 13 L st (N, S, H) (pj_fld (H o) 6 7) := st_getfield q88_10
theorem x88_10 {L : pj_Loc} {st : List Value} {N S : Nat} {H : pj_Heap} {o : Nat} {o9 : Option Value × pj_Mem} : pj_Ends 88 (10, L, .ref o :: st, (N, S, H)) o9 = pj_then 88 o9 (pj_pv 13 L st (N, S, H) (pj_fld (H o) 6 7)) := pj_xt q88_10 rfl (pj_cl_nc rfl) (s88_10)
theorem q88_13 : pj_row 88 13 = some (.iload_n 3, 1, 0, 0, 0) := by decide +kernel
theorem s88_13 {st : List Value} {M : pj_Mem} {l : pj_Loc} {a0 a1 a2 : Option Value} {x : Int32} : pj_step 88 (13, a0 :: a1 :: a2 :: some (.int x) :: l, st, M) = some (14, a0 :: a1 :: a2 :: some (.int x) :: l, .int x :: st, M) := st_iload_n q88_13 rfl
theorem x88_13 {st : List Value} {M : pj_Mem} {l : pj_Loc} {a0 a1 a2 : Option Value} {x : Int32} {o9 : Option Value × pj_Mem} : pj_Ends 88 (13, a0 :: a1 :: a2 :: some (.int x) :: l, st, M) o9 = pj_Ends 88 (14, a0 :: a1 :: a2 :: some (.int x) :: l, .int x :: st, M) o9 := pj_xs (s88_13)
theorem q88_14 : pj_row 88 14 = some (.iaload, 1, 0, 0, 0) := by decide +kernel
theorem s88_14 {L : pj_Loc} {st : List Value} {N S : Nat} {H : pj_Heap} {o : Nat} {i : Int32} : pj_step 88 (14, L, .int i :: .ref o :: st, (N, S, H)) = pj_pi 15 L st (N, S, H) (pj_arl (H o) 0 i) := st_iaload q88_14
theorem x88_14 {L : pj_Loc} {st : List Value} {N S : Nat} {H : pj_Heap} {o : Nat} {i : Int32} {o9 : Option Value × pj_Mem} : pj_Ends 88 (14, L, .int i :: .ref o :: st, (N, S, H)) o9 = pj_then 88 o9 (pj_pi 15 L st (N, S, H) (pj_arl (H o) 0 i)) := pj_xt q88_14 rfl (pj_cl_nc rfl) (s88_14)
theorem q88_15 : pj_row 88 15 = some (.aload_n 0, 1, 0, 0, 0) := by decide +kernel
theorem s88_15 {st : List Value} {M : pj_Mem} {l : pj_Loc} {x : Nat} : pj_step 88 (15, some (.ref x) :: l, st, M) = some (16, some (.ref x) :: l, .ref x :: st, M) := st_aload_n q88_15 rfl
theorem x88_15 {st : List Value} {M : pj_Mem} {l : pj_Loc} {x : Nat} {o9 : Option Value × pj_Mem} : pj_Ends 88 (15, some (.ref x) :: l, st, M) o9 = pj_Ends 88 (16, some (.ref x) :: l, .ref x :: st, M) o9 := pj_xs (s88_15)
theorem q88_16 : pj_row 88 16 = some (.getfield 28, 3, 6, 7, 0) := by decide +kernel
theorem s88_16 {L : pj_Loc} {st : List Value} {N S : Nat} {H : pj_Heap} {o : Nat} : pj_step 88 (16, L, .ref o :: st, (N, S, H)) = pj_pv 19 L st (N, S, H) (pj_fld (H o) 6 7) := st_getfield q88_16
theorem x88_16 {L : pj_Loc} {st : List Value} {N S : Nat} {H : pj_Heap} {o : Nat} {o9 : Option Value × pj_Mem} : pj_Ends 88 (16, L, .ref o :: st, (N, S, H)) o9 = pj_then 88 o9 (pj_pv 19 L st (N, S, H) (pj_fld (H o) 6 7)) := pj_xt q88_16 rfl (pj_cl_nc rfl) (s88_16)
theorem q88_19 : pj_row 88 19 = some (.iload_n 1, 1, 0, 0, 0) := by decide +kernel
theorem s88_19 {st : List Value} {M : pj_Mem} {l : pj_Loc} {a0 : Option Value} {x : Int32} : pj_step 88 (19, a0 :: some (.int x) :: l, st, M) = some (20, a0 :: some (.int x) :: l, .int x :: st, M) := st_iload_n q88_19 rfl
theorem x88_19 {st : List Value} {M : pj_Mem} {l : pj_Loc} {a0 : Option Value} {x : Int32} {o9 : Option Value × pj_Mem} : pj_Ends 88 (19, a0 :: some (.int x) :: l, st, M) o9 = pj_Ends 88 (20, a0 :: some (.int x) :: l, .int x :: st, M) o9 := pj_xs (s88_19)
theorem q88_20 : pj_row 88 20 = some (.iaload, 1, 0, 0, 0) := by decide +kernel
theorem s88_20 {L : pj_Loc} {st : List Value} {N S : Nat} {H : pj_Heap} {o : Nat} {i : Int32} : pj_step 88 (20, L, .int i :: .ref o :: st, (N, S, H)) = pj_pi 21 L st (N, S, H) (pj_arl (H o) 0 i) := st_iaload q88_20
theorem x88_20 {L : pj_Loc} {st : List Value} {N S : Nat} {H : pj_Heap} {o : Nat} {i : Int32} {o9 : Option Value × pj_Mem} : pj_Ends 88 (20, L, .int i :: .ref o :: st, (N, S, H)) o9 = pj_then 88 o9 (pj_pi 21 L st (N, S, H) (pj_arl (H o) 0 i)) := pj_xt q88_20 rfl (pj_cl_nc rfl) (s88_20)
theorem q88_21 : pj_row 88 21 = some (.if_icmp .lt 23, 3, 44, 0, 0) := by decide +kernel
theorem s88_21 {L : pj_Loc} {st : List Value} {M : pj_Mem} {x y : Int32} : pj_step 88 (21, L, .int y :: .int x :: st, M) = some (if x < y then 44 else 24, L, st, M) := st_icmp_lt q88_21
theorem x88_21 {L : pj_Loc} {st : List Value} {M : pj_Mem} {x y : Int32} {o9 : Option Value × pj_Mem} : pj_Ends 88 (21, L, .int y :: .int x :: st, M) o9 = pj_Ends 88 (if x < y then 44 else 24, L, st, M) o9 := pj_xs (s88_21)
theorem q88_24 : pj_row 88 24 = some (.aload_n 0, 1, 0, 0, 0) := by decide +kernel
theorem s88_24 {st : List Value} {M : pj_Mem} {l : pj_Loc} {x : Nat} : pj_step 88 (24, some (.ref x) :: l, st, M) = some (25, some (.ref x) :: l, .ref x :: st, M) := st_aload_n q88_24 rfl
theorem x88_24 {st : List Value} {M : pj_Mem} {l : pj_Loc} {x : Nat} {o9 : Option Value × pj_Mem} : pj_Ends 88 (24, some (.ref x) :: l, st, M) o9 = pj_Ends 88 (25, some (.ref x) :: l, .ref x :: st, M) o9 := pj_xs (s88_24)
theorem q88_25 : pj_row 88 25 = some (.getfield 28, 3, 6, 7, 0) := by decide +kernel
theorem s88_25 {L : pj_Loc} {st : List Value} {N S : Nat} {H : pj_Heap} {o : Nat} : pj_step 88 (25, L, .ref o :: st, (N, S, H)) = pj_pv 28 L st (N, S, H) (pj_fld (H o) 6 7) := st_getfield q88_25
theorem x88_25 {L : pj_Loc} {st : List Value} {N S : Nat} {H : pj_Heap} {o : Nat} {o9 : Option Value × pj_Mem} : pj_Ends 88 (25, L, .ref o :: st, (N, S, H)) o9 = pj_then 88 o9 (pj_pv 28 L st (N, S, H) (pj_fld (H o) 6 7)) := pj_xt q88_25 rfl (pj_cl_nc rfl) (s88_25)
theorem q88_28 : pj_row 88 28 = some (.iload_n 3, 1, 0, 0, 0) := by decide +kernel
theorem s88_28 {st : List Value} {M : pj_Mem} {l : pj_Loc} {a0 a1 a2 : Option Value} {x : Int32} : pj_step 88 (28, a0 :: a1 :: a2 :: some (.int x) :: l, st, M) = some (29, a0 :: a1 :: a2 :: some (.int x) :: l, .int x :: st, M) := st_iload_n q88_28 rfl
theorem x88_28 {st : List Value} {M : pj_Mem} {l : pj_Loc} {a0 a1 a2 : Option Value} {x : Int32} {o9 : Option Value × pj_Mem} : pj_Ends 88 (28, a0 :: a1 :: a2 :: some (.int x) :: l, st, M) o9 = pj_Ends 88 (29, a0 :: a1 :: a2 :: some (.int x) :: l, .int x :: st, M) o9 := pj_xs (s88_28)
theorem q88_29 : pj_row 88 29 = some (.iaload, 1, 0, 0, 0) := by decide +kernel
theorem s88_29 {L : pj_Loc} {st : List Value} {N S : Nat} {H : pj_Heap} {o : Nat} {i : Int32} : pj_step 88 (29, L, .int i :: .ref o :: st, (N, S, H)) = pj_pi 30 L st (N, S, H) (pj_arl (H o) 0 i) := st_iaload q88_29
theorem x88_29 {L : pj_Loc} {st : List Value} {N S : Nat} {H : pj_Heap} {o : Nat} {i : Int32} {o9 : Option Value × pj_Mem} : pj_Ends 88 (29, L, .int i :: .ref o :: st, (N, S, H)) o9 = pj_then 88 o9 (pj_pi 30 L st (N, S, H) (pj_arl (H o) 0 i)) := pj_xt q88_29 rfl (pj_cl_nc rfl) (s88_29)
theorem q88_30 : pj_row 88 30 = some (.aload_n 0, 1, 0, 0, 0) := by decide +kernel
theorem s88_30 {st : List Value} {M : pj_Mem} {l : pj_Loc} {x : Nat} : pj_step 88 (30, some (.ref x) :: l, st, M) = some (31, some (.ref x) :: l, .ref x :: st, M) := st_aload_n q88_30 rfl
theorem x88_30 {st : List Value} {M : pj_Mem} {l : pj_Loc} {x : Nat} {o9 : Option Value × pj_Mem} : pj_Ends 88 (30, some (.ref x) :: l, st, M) o9 = pj_Ends 88 (31, some (.ref x) :: l, .ref x :: st, M) o9 := pj_xs (s88_30)
theorem q88_31 : pj_row 88 31 = some (.getfield 28, 3, 6, 7, 0) := by decide +kernel
theorem s88_31 {L : pj_Loc} {st : List Value} {N S : Nat} {H : pj_Heap} {o : Nat} : pj_step 88 (31, L, .ref o :: st, (N, S, H)) = pj_pv 34 L st (N, S, H) (pj_fld (H o) 6 7) := st_getfield q88_31
theorem x88_31 {L : pj_Loc} {st : List Value} {N S : Nat} {H : pj_Heap} {o : Nat} {o9 : Option Value × pj_Mem} : pj_Ends 88 (31, L, .ref o :: st, (N, S, H)) o9 = pj_then 88 o9 (pj_pv 34 L st (N, S, H) (pj_fld (H o) 6 7)) := pj_xt q88_31 rfl (pj_cl_nc rfl) (s88_31)
theorem q88_34 : pj_row 88 34 = some (.iload_n 1, 1, 0, 0, 0) := by decide +kernel
theorem s88_34 {st : List Value} {M : pj_Mem} {l : pj_Loc} {a0 : Option Value} {x : Int32} : pj_step 88 (34, a0 :: some (.int x) :: l, st, M) = some (35, a0 :: some (.int x) :: l, .int x :: st, M) := st_iload_n q88_34 rfl
theorem x88_34 {st : List Value} {M : pj_Mem} {l : pj_Loc} {a0 : Option Value} {x : Int32} {o9 : Option Value × pj_Mem} : pj_Ends 88 (34, a0 :: some (.int x) :: l, st, M) o9 = pj_Ends 88 (35, a0 :: some (.int x) :: l, .int x :: st, M) o9 := pj_xs (s88_34)
theorem q88_35 : pj_row 88 35 = some (.iaload, 1, 0, 0, 0) := by decide +kernel
theorem s88_35 {L : pj_Loc} {st : List Value} {N S : Nat} {H : pj_Heap} {o : Nat} {i : Int32} : pj_step 88 (35, L, .int i :: .ref o :: st, (N, S, H)) = pj_pi 36 L st (N, S, H) (pj_arl (H o) 0 i) := st_iaload q88_35
theorem x88_35 {L : pj_Loc} {st : List Value} {N S : Nat} {H : pj_Heap} {o : Nat} {i : Int32} {o9 : Option Value × pj_Mem} : pj_Ends 88 (35, L, .int i :: .ref o :: st, (N, S, H)) o9 = pj_then 88 o9 (pj_pi 36 L st (N, S, H) (pj_arl (H o) 0 i)) := pj_xt q88_35 rfl (pj_cl_nc rfl) (s88_35)
theorem q88_36 : pj_row 88 36 = some (.if_icmp .ne 12, 3, 48, 0, 0) := by decide +kernel
theorem s88_36 {L : pj_Loc} {st : List Value} {M : pj_Mem} {x y : Int32} : pj_step 88 (36, L, .int y :: .int x :: st, M) = some (if ¬ x = y then 48 else 39, L, st, M) := st_icmp_ne q88_36
theorem x88_36 {L : pj_Loc} {st : List Value} {M : pj_Mem} {x y : Int32} {o9 : Option Value × pj_Mem} : pj_Ends 88 (36, L, .int y :: .int x :: st, M) o9 = pj_Ends 88 (if ¬ x = y then 48 else 39, L, st, M) o9 := pj_xs (s88_36)
theorem q88_39 : pj_row 88 39 = some (.iload_n 3, 1, 0, 0, 0) := by decide +kernel
theorem s88_39 {st : List Value} {M : pj_Mem} {l : pj_Loc} {a0 a1 a2 : Option Value} {x : Int32} : pj_step 88 (39, a0 :: a1 :: a2 :: some (.int x) :: l, st, M) = some (40, a0 :: a1 :: a2 :: some (.int x) :: l, .int x :: st, M) := st_iload_n q88_39 rfl
theorem x88_39 {st : List Value} {M : pj_Mem} {l : pj_Loc} {a0 a1 a2 : Option Value} {x : Int32} {o9 : Option Value × pj_Mem} : pj_Ends 88 (39, a0 :: a1 :: a2 :: some (.int x) :: l, st, M) o9 = pj_Ends 88 (40, a0 :: a1 :: a2 :: some (.int x) :: l, .int x :: st, M) o9 := pj_xs (s88_39)
theorem q88_40 : pj_row 88 40 = some (.iload_n 1, 1, 0, 0, 0) := by decide +kernel
theorem s88_40 {st : List Value} {M : pj_Mem} {l : pj_Loc} {a0 : Option Value} {x : Int32} : pj_step 88 (40, a0 :: some (.int x) :: l, st, M) = some (41, a0 :: some (.int x) :: l, .int x :: st, M) := st_iload_n q88_40 rfl
theorem x88_40 {st : List Value} {M : pj_Mem} {l : pj_Loc} {a0 : Option Value} {x : Int32} {o9 : Option Value × pj_Mem} : pj_Ends 88 (40, a0 :: some (.int x) :: l, st, M) o9 = pj_Ends 88 (41, a0 :: some (.int x) :: l, .int x :: st, M) o9 := pj_xs (s88_40)
theorem q88_41 : pj_row 88 41 = some (.if_icmp .ge 7, 3, 48, 0, 0) := by decide +kernel
theorem s88_41 {L : pj_Loc} {st : List Value} {M : pj_Mem} {x y : Int32} : pj_step 88 (41, L, .int y :: .int x :: st, M) = some (if y ≤ x then 48 else 44, L, st, M) := st_icmp_ge q88_41
theorem x88_41 {L : pj_Loc} {st : List Value} {M : pj_Mem} {x y : Int32} {o9 : Option Value × pj_Mem} : pj_Ends 88 (41, L, .int y :: .int x :: st, M) o9 = pj_Ends 88 (if y ≤ x then 48 else 44, L, st, M) o9 := pj_xs (s88_41)
theorem q88_44 : pj_row 88 44 = some (.iconst 1, 1, 0, 0, 0) := by decide +kernel
theorem s88_44 {L : pj_Loc} {st : List Value} {M : pj_Mem}  : pj_step 88 (44, L, st, M) = some (45, L, .int 1 :: st, M) := st_iconst q88_44 (by decide +kernel)
theorem x88_44 {L : pj_Loc} {st : List Value} {M : pj_Mem}  {o9 : Option Value × pj_Mem} : pj_Ends 88 (44, L, st, M) o9 = pj_Ends 88 (45, L, .int 1 :: st, M) o9 := pj_xs (s88_44)
theorem q88_45 : pj_row 88 45 = some (.goto 4, 3, 49, 0, 0) := by decide +kernel
theorem s88_45 {L : pj_Loc} {st : List Value} {M : pj_Mem}  : pj_step 88 (45, L, st, M) = some (49, L, st, M) := st_goto q88_45
theorem x88_45 {L : pj_Loc} {st : List Value} {M : pj_Mem}  {o9 : Option Value × pj_Mem} : pj_Ends 88 (45, L, st, M) o9 = pj_Ends 88 (49, L, st, M) o9 := pj_xs (s88_45)
theorem q88_48 : pj_row 88 48 = some (.iconst 0, 1, 0, 0, 0) := by decide +kernel
theorem s88_48 {L : pj_Loc} {st : List Value} {M : pj_Mem}  : pj_step 88 (48, L, st, M) = some (49, L, .int 0 :: st, M) := st_iconst q88_48 (by decide +kernel)
theorem x88_48 {L : pj_Loc} {st : List Value} {M : pj_Mem}  {o9 : Option Value × pj_Mem} : pj_Ends 88 (48, L, st, M) o9 = pj_Ends 88 (49, L, .int 0 :: st, M) o9 := pj_xs (s88_48)
theorem q88_49 : pj_row 88 49 = some (.istore 4, 2, 0, 0, 0) := by decide +kernel
theorem s88_49 {st : List Value} {M : pj_Mem} {l : pj_Loc} {a0 a1 a2 a3 a4 : Option Value} {x : Int32} (h : pj_long a3 = false) : pj_step 88 (49, a0 :: a1 :: a2 :: a3 :: a4 :: l, .int x :: st, M) = some (51, a0 :: a1 :: a2 :: a3 :: some (.int x) :: l, st, M) := st_istore q88_49 (pj_st_4 h)
theorem x88_49 {st : List Value} {M : pj_Mem} {l : pj_Loc} {a0 a1 a2 a3 a4 : Option Value} {x : Int32} (h : pj_long a3 = false) {o9 : Option Value × pj_Mem} : pj_Ends 88 (49, a0 :: a1 :: a2 :: a3 :: a4 :: l, .int x :: st, M) o9 = pj_Ends 88 (51, a0 :: a1 :: a2 :: a3 :: some (.int x) :: l, st, M) o9 := pj_xs (s88_49 h)
theorem q88_51 : pj_row 88 51 = some (.iload_n 2, 1, 0, 0, 0) := by decide +kernel
theorem s88_51 {st : List Value} {M : pj_Mem} {l : pj_Loc} {a0 a1 : Option Value} {x : Int32} : pj_step 88 (51, a0 :: a1 :: some (.int x) :: l, st, M) = some (52, a0 :: a1 :: some (.int x) :: l, .int x :: st, M) := st_iload_n q88_51 rfl
theorem x88_51 {st : List Value} {M : pj_Mem} {l : pj_Loc} {a0 a1 : Option Value} {x : Int32} {o9 : Option Value × pj_Mem} : pj_Ends 88 (51, a0 :: a1 :: some (.int x) :: l, st, M) o9 = pj_Ends 88 (52, a0 :: a1 :: some (.int x) :: l, .int x :: st, M) o9 := pj_xs (s88_51)
theorem q88_52 : pj_row 88 52 = some (.aload_n 0, 1, 0, 0, 0) := by decide +kernel
theorem s88_52 {st : List Value} {M : pj_Mem} {l : pj_Loc} {x : Nat} : pj_step 88 (52, some (.ref x) :: l, st, M) = some (53, some (.ref x) :: l, .ref x :: st, M) := st_aload_n q88_52 rfl
theorem x88_52 {st : List Value} {M : pj_Mem} {l : pj_Loc} {x : Nat} {o9 : Option Value × pj_Mem} : pj_Ends 88 (52, some (.ref x) :: l, st, M) o9 = pj_Ends 88 (53, some (.ref x) :: l, .ref x :: st, M) o9 := pj_xs (s88_52)
theorem q88_53 : pj_row 88 53 = some (.getfield 7, 3, 6, 0, 0) := by decide +kernel
theorem s88_53 {L : pj_Loc} {st : List Value} {N S : Nat} {H : pj_Heap} {o : Nat} : pj_step 88 (53, L, .ref o :: st, (N, S, H)) = pj_pv 56 L st (N, S, H) (pj_fld (H o) 6 0) := st_getfield q88_53
theorem x88_53 {L : pj_Loc} {st : List Value} {N S : Nat} {H : pj_Heap} {o : Nat} {o9 : Option Value × pj_Mem} : pj_Ends 88 (53, L, .ref o :: st, (N, S, H)) o9 = pj_then 88 o9 (pj_pv 56 L st (N, S, H) (pj_fld (H o) 6 0)) := pj_xt q88_53 rfl (pj_cl_nc rfl) (s88_53)
theorem q88_56 : pj_row 88 56 = some (.bipush 14, 2, 0, 0, 0) := by decide +kernel
theorem s88_56 {L : pj_Loc} {st : List Value} {M : pj_Mem}  : pj_step 88 (56, L, st, M) = some (58, L, .int 14 :: st, M) := st_bipush q88_56 (by decide +kernel)
theorem x88_56 {L : pj_Loc} {st : List Value} {M : pj_Mem}  {o9 : Option Value × pj_Mem} : pj_Ends 88 (56, L, st, M) o9 = pj_Ends 88 (58, L, .int 14 :: st, M) o9 := pj_xs (s88_56)
theorem q88_58 : pj_row 88 58 = some (.iload_n 3, 1, 0, 0, 0) := by decide +kernel
theorem s88_58 {st : List Value} {M : pj_Mem} {l : pj_Loc} {a0 a1 a2 : Option Value} {x : Int32} : pj_step 88 (58, a0 :: a1 :: a2 :: some (.int x) :: l, st, M) = some (59, a0 :: a1 :: a2 :: some (.int x) :: l, .int x :: st, M) := st_iload_n q88_58 rfl
theorem x88_58 {st : List Value} {M : pj_Mem} {l : pj_Loc} {a0 a1 a2 : Option Value} {x : Int32} {o9 : Option Value × pj_Mem} : pj_Ends 88 (58, a0 :: a1 :: a2 :: some (.int x) :: l, st, M) o9 = pj_Ends 88 (59, a0 :: a1 :: a2 :: some (.int x) :: l, .int x :: st, M) o9 := pj_xs (s88_58)
theorem q88_59 : pj_row 88 59 = some (.iadd, 1, 0, 0, 0) := by decide +kernel
theorem s88_59 {L : pj_Loc} {st : List Value} {M : pj_Mem} {x y : Int32} : pj_step 88 (59, L, .int y :: .int x :: st, M) = some (60, L, .int (x + y) :: st, M) := st_iadd q88_59
theorem x88_59 {L : pj_Loc} {st : List Value} {M : pj_Mem} {x y : Int32} {o9 : Option Value × pj_Mem} : pj_Ends 88 (59, L, .int y :: .int x :: st, M) o9 = pj_Ends 88 (60, L, .int (x + y) :: st, M) o9 := pj_xs (s88_59)
theorem q88_60 : pj_row 88 60 = some (.iaload, 1, 0, 0, 0) := by decide +kernel
theorem s88_60 {L : pj_Loc} {st : List Value} {N S : Nat} {H : pj_Heap} {o : Nat} {i : Int32} : pj_step 88 (60, L, .int i :: .ref o :: st, (N, S, H)) = pj_pi 61 L st (N, S, H) (pj_arl (H o) 0 i) := st_iaload q88_60
theorem x88_60 {L : pj_Loc} {st : List Value} {N S : Nat} {H : pj_Heap} {o : Nat} {i : Int32} {o9 : Option Value × pj_Mem} : pj_Ends 88 (60, L, .int i :: .ref o :: st, (N, S, H)) o9 = pj_then 88 o9 (pj_pi 61 L st (N, S, H) (pj_arl (H o) 0 i)) := pj_xt q88_60 rfl (pj_cl_nc rfl) (s88_60)
theorem q88_61 : pj_row 88 61 = some (.iconst 1, 1, 0, 0, 0) := by decide +kernel
theorem s88_61 {L : pj_Loc} {st : List Value} {M : pj_Mem}  : pj_step 88 (61, L, st, M) = some (62, L, .int 1 :: st, M) := st_iconst q88_61 (by decide +kernel)
theorem x88_61 {L : pj_Loc} {st : List Value} {M : pj_Mem}  {o9 : Option Value × pj_Mem} : pj_Ends 88 (61, L, st, M) o9 = pj_Ends 88 (62, L, .int 1 :: st, M) o9 := pj_xs (s88_61)
theorem q88_62 : pj_row 88 62 = some (.if_icmp .ne 12, 3, 74, 0, 0) := by decide +kernel
theorem s88_62 {L : pj_Loc} {st : List Value} {M : pj_Mem} {x y : Int32} : pj_step 88 (62, L, .int y :: .int x :: st, M) = some (if ¬ x = y then 74 else 65, L, st, M) := st_icmp_ne q88_62
theorem x88_62 {L : pj_Loc} {st : List Value} {M : pj_Mem} {x y : Int32} {o9 : Option Value × pj_Mem} : pj_Ends 88 (62, L, .int y :: .int x :: st, M) o9 = pj_Ends 88 (if ¬ x = y then 74 else 65, L, st, M) o9 := pj_xs (s88_62)
theorem q88_65 : pj_row 88 65 = some (.iload 4, 2, 0, 0, 0) := by decide +kernel
theorem s88_65 {st : List Value} {M : pj_Mem} {l : pj_Loc} {a0 a1 a2 a3 : Option Value} {x : Int32} : pj_step 88 (65, a0 :: a1 :: a2 :: a3 :: some (.int x) :: l, st, M) = some (67, a0 :: a1 :: a2 :: a3 :: some (.int x) :: l, .int x :: st, M) := st_iload q88_65 rfl
theorem x88_65 {st : List Value} {M : pj_Mem} {l : pj_Loc} {a0 a1 a2 a3 : Option Value} {x : Int32} {o9 : Option Value × pj_Mem} : pj_Ends 88 (65, a0 :: a1 :: a2 :: a3 :: some (.int x) :: l, st, M) o9 = pj_Ends 88 (67, a0 :: a1 :: a2 :: a3 :: some (.int x) :: l, .int x :: st, M) o9 := pj_xs (s88_65)
theorem q88_67 : pj_row 88 67 = some (.ifCond .eq 7, 3, 74, 0, 0) := by decide +kernel
theorem s88_67 {L : pj_Loc} {st : List Value} {M : pj_Mem} {x : Int32} : pj_step 88 (67, L, .int x :: st, M) = some (if x = 0 then 74 else 70, L, st, M) := st_if_eq q88_67
theorem x88_67 {L : pj_Loc} {st : List Value} {M : pj_Mem} {x : Int32} {o9 : Option Value × pj_Mem} : pj_Ends 88 (67, L, .int x :: st, M) o9 = pj_Ends 88 (if x = 0 then 74 else 70, L, st, M) o9 := pj_xs (s88_67)
theorem q88_70 : pj_row 88 70 = some (.iconst 1, 1, 0, 0, 0) := by decide +kernel
theorem s88_70 {L : pj_Loc} {st : List Value} {M : pj_Mem}  : pj_step 88 (70, L, st, M) = some (71, L, .int 1 :: st, M) := st_iconst q88_70 (by decide +kernel)
theorem x88_70 {L : pj_Loc} {st : List Value} {M : pj_Mem}  {o9 : Option Value × pj_Mem} : pj_Ends 88 (70, L, st, M) o9 = pj_Ends 88 (71, L, .int 1 :: st, M) o9 := pj_xs (s88_70)
theorem q88_71 : pj_row 88 71 = some (.goto 4, 3, 75, 0, 0) := by decide +kernel
theorem s88_71 {L : pj_Loc} {st : List Value} {M : pj_Mem}  : pj_step 88 (71, L, st, M) = some (75, L, st, M) := st_goto q88_71
theorem x88_71 {L : pj_Loc} {st : List Value} {M : pj_Mem}  {o9 : Option Value × pj_Mem} : pj_Ends 88 (71, L, st, M) o9 = pj_Ends 88 (75, L, st, M) o9 := pj_xs (s88_71)
theorem q88_74 : pj_row 88 74 = some (.iconst 0, 1, 0, 0, 0) := by decide +kernel
theorem s88_74 {L : pj_Loc} {st : List Value} {M : pj_Mem}  : pj_step 88 (74, L, st, M) = some (75, L, .int 0 :: st, M) := st_iconst q88_74 (by decide +kernel)
theorem x88_74 {L : pj_Loc} {st : List Value} {M : pj_Mem}  {o9 : Option Value × pj_Mem} : pj_Ends 88 (74, L, st, M) o9 = pj_Ends 88 (75, L, .int 0 :: st, M) o9 := pj_xs (s88_74)
theorem q88_75 : pj_row 88 75 = some (.iadd, 1, 0, 0, 0) := by decide +kernel
theorem s88_75 {L : pj_Loc} {st : List Value} {M : pj_Mem} {x y : Int32} : pj_step 88 (75, L, .int y :: .int x :: st, M) = some (76, L, .int (x + y) :: st, M) := st_iadd q88_75
theorem x88_75 {L : pj_Loc} {st : List Value} {M : pj_Mem} {x y : Int32} {o9 : Option Value × pj_Mem} : pj_Ends 88 (75, L, .int y :: .int x :: st, M) o9 = pj_Ends 88 (76, L, .int (x + y) :: st, M) o9 := pj_xs (s88_75)
theorem q88_76 : pj_row 88 76 = some (.istore_n 2, 1, 0, 0, 0) := by decide +kernel
theorem s88_76 {st : List Value} {M : pj_Mem} {l : pj_Loc} {a0 a1 a2 : Option Value} {x : Int32} (h : pj_long a1 = false) : pj_step 88 (76, a0 :: a1 :: a2 :: l, .int x :: st, M) = some (77, a0 :: a1 :: some (.int x) :: l, st, M) := st_istore_n q88_76 (pj_st_2 h)
theorem x88_76 {st : List Value} {M : pj_Mem} {l : pj_Loc} {a0 a1 a2 : Option Value} {x : Int32} (h : pj_long a1 = false) {o9 : Option Value × pj_Mem} : pj_Ends 88 (76, a0 :: a1 :: a2 :: l, .int x :: st, M) o9 = pj_Ends 88 (77, a0 :: a1 :: some (.int x) :: l, st, M) o9 := pj_xs (s88_76 h)
theorem q88_77 : pj_row 88 77 = some (.iinc 3 1, 3, 0, 0, 0) := by decide +kernel
theorem s88_77 {st : List Value} {M : pj_Mem} {l : pj_Loc} {a0 a1 a2 : Option Value} {x : Int32} (h : pj_long a2 = false) : pj_step 88 (77, a0 :: a1 :: a2 :: some (.int x) :: l, st, M) = some (80, a0 :: a1 :: a2 :: some (.int (x + 1)) :: l, st, M) := st_iinc q88_77 rfl (congrArg (fun y => x + y) (show Int32.ofInt 1 = 1 by decide +kernel)) (pj_st_3 h)
theorem x88_77 {st : List Value} {M : pj_Mem} {l : pj_Loc} {a0 a1 a2 : Option Value} {x : Int32} (h : pj_long a2 = false) {o9 : Option Value × pj_Mem} : pj_Ends 88 (77, a0 :: a1 :: a2 :: some (.int x) :: l, st, M) o9 = pj_Ends 88 (80, a0 :: a1 :: a2 :: some (.int (x + 1)) :: l, st, M) o9 := pj_xs (s88_77 h)
theorem q88_80 : pj_row 88 80 = some (.goto (-76), 3, 4, 0, 0) := by decide +kernel
theorem s88_80 {L : pj_Loc} {st : List Value} {M : pj_Mem}  : pj_step 88 (80, L, st, M) = some (4, L, st, M) := st_goto q88_80
theorem x88_80 {L : pj_Loc} {st : List Value} {M : pj_Mem}  {o9 : Option Value × pj_Mem} : pj_Ends 88 (80, L, st, M) o9 = pj_Ends 88 (4, L, st, M) o9 := pj_xs (s88_80)
theorem q88_83 : pj_row 88 83 = some (.iload_n 2, 1, 0, 0, 0) := by decide +kernel
theorem s88_83 {st : List Value} {M : pj_Mem} {l : pj_Loc} {a0 a1 : Option Value} {x : Int32} : pj_step 88 (83, a0 :: a1 :: some (.int x) :: l, st, M) = some (84, a0 :: a1 :: some (.int x) :: l, .int x :: st, M) := st_iload_n q88_83 rfl
theorem x88_83 {st : List Value} {M : pj_Mem} {l : pj_Loc} {a0 a1 : Option Value} {x : Int32} {o9 : Option Value × pj_Mem} : pj_Ends 88 (83, a0 :: a1 :: some (.int x) :: l, st, M) o9 = pj_Ends 88 (84, a0 :: a1 :: some (.int x) :: l, .int x :: st, M) o9 := pj_xs (s88_83)
theorem q88_84 : pj_row 88 84 = some (.ireturn, 1, 0, 0, 0) := by decide +kernel
theorem t88_84 {L : pj_Loc} {M : pj_Mem} {v : Int32} : pj_Ends 88 (84, L, [.int v], M) (some (.int v), M) := pj_Ends.ret q88_84 (pj_rtn_i rt88)
theorem rt89 : pj_rt 89 = none := rfl
theorem q89_0 : pj_row 89 0 = some (.aload_n 0, 1, 0, 0, 0) := by decide +kernel
theorem s89_0 {st : List Value} {M : pj_Mem} {l : pj_Loc} {x : Nat} : pj_step 89 (0, some (.ref x) :: l, st, M) = some (1, some (.ref x) :: l, .ref x :: st, M) := st_aload_n q89_0 rfl
theorem x89_0 {st : List Value} {M : pj_Mem} {l : pj_Loc} {x : Nat} {o9 : Option Value × pj_Mem} : pj_Ends 89 (0, some (.ref x) :: l, st, M) o9 = pj_Ends 89 (1, some (.ref x) :: l, .ref x :: st, M) o9 := pj_xs (s89_0)
theorem q89_1 : pj_row 89 1 = some (.invokevirtual 48, 3, 86, 1, 0) := by decide +kernel
theorem e89_1 {L : pj_Loc} {st : List Value} {N S : Nat} {H : pj_Heap} {o : Option Value × pj_Mem} {M' : pj_Mem} {x0 : Nat} {r : Int32} (h4 : pj_le4 st = true) (hu : pj_isU 6 (H x0) = true) (h1 : pj_Ends 86 (0, [some (.ref x0)], [], (N, S, H)) (some (.int r), M')) (h2 : pj_Ends 89 (4, L, .int r :: st, M') o) : pj_Ends 89 (1, L, .ref x0 :: st, (N, S, H)) o := ec_v1 q89_1 (Or.inl rfl) h4 hu rfl h1 h2
theorem q89_4 : pj_row 89 4 = some (.bipush 7, 2, 0, 0, 0) := by decide +kernel
theorem s89_4 {L : pj_Loc} {st : List Value} {M : pj_Mem}  : pj_step 89 (4, L, st, M) = some (6, L, .int 7 :: st, M) := st_bipush q89_4 (by decide +kernel)
theorem x89_4 {L : pj_Loc} {st : List Value} {M : pj_Mem}  {o9 : Option Value × pj_Mem} : pj_Ends 89 (4, L, st, M) o9 = pj_Ends 89 (6, L, .int 7 :: st, M) o9 := pj_xs (s89_4)
theorem q89_6 : pj_row 89 6 = some (.if_icmp .ne 7, 3, 13, 0, 0) := by decide +kernel
theorem s89_6 {L : pj_Loc} {st : List Value} {M : pj_Mem} {x y : Int32} : pj_step 89 (6, L, .int y :: .int x :: st, M) = some (if ¬ x = y then 13 else 9, L, st, M) := st_icmp_ne q89_6
theorem x89_6 {L : pj_Loc} {st : List Value} {M : pj_Mem} {x y : Int32} {o9 : Option Value × pj_Mem} : pj_Ends 89 (6, L, .int y :: .int x :: st, M) o9 = pj_Ends 89 (if ¬ x = y then 13 else 9, L, st, M) o9 := pj_xs (s89_6)
theorem q89_9 : pj_row 89 9 = some (.iconst 1, 1, 0, 0, 0) := by decide +kernel
theorem s89_9 {L : pj_Loc} {st : List Value} {M : pj_Mem}  : pj_step 89 (9, L, st, M) = some (10, L, .int 1 :: st, M) := st_iconst q89_9 (by decide +kernel)
theorem x89_9 {L : pj_Loc} {st : List Value} {M : pj_Mem}  {o9 : Option Value × pj_Mem} : pj_Ends 89 (9, L, st, M) o9 = pj_Ends 89 (10, L, .int 1 :: st, M) o9 := pj_xs (s89_9)
theorem q89_10 : pj_row 89 10 = some (.goto 4, 3, 14, 0, 0) := by decide +kernel
theorem s89_10 {L : pj_Loc} {st : List Value} {M : pj_Mem}  : pj_step 89 (10, L, st, M) = some (14, L, st, M) := st_goto q89_10
theorem x89_10 {L : pj_Loc} {st : List Value} {M : pj_Mem}  {o9 : Option Value × pj_Mem} : pj_Ends 89 (10, L, st, M) o9 = pj_Ends 89 (14, L, st, M) o9 := pj_xs (s89_10)
theorem q89_13 : pj_row 89 13 = some (.iconst 0, 1, 0, 0, 0) := by decide +kernel
theorem s89_13 {L : pj_Loc} {st : List Value} {M : pj_Mem}  : pj_step 89 (13, L, st, M) = some (14, L, .int 0 :: st, M) := st_iconst q89_13 (by decide +kernel)
theorem x89_13 {L : pj_Loc} {st : List Value} {M : pj_Mem}  {o9 : Option Value × pj_Mem} : pj_Ends 89 (13, L, st, M) o9 = pj_Ends 89 (14, L, .int 0 :: st, M) o9 := pj_xs (s89_13)
theorem q89_14 : pj_row 89 14 = some (.istore_n 1, 1, 0, 0, 0) := by decide +kernel
theorem s89_14 {st : List Value} {M : pj_Mem} {l : pj_Loc} {a0 a1 : Option Value} {x : Int32} (h : pj_long a0 = false) : pj_step 89 (14, a0 :: a1 :: l, .int x :: st, M) = some (15, a0 :: some (.int x) :: l, st, M) := st_istore_n q89_14 (pj_st_1 h)
theorem x89_14 {st : List Value} {M : pj_Mem} {l : pj_Loc} {a0 a1 : Option Value} {x : Int32} (h : pj_long a0 = false) {o9 : Option Value × pj_Mem} : pj_Ends 89 (14, a0 :: a1 :: l, .int x :: st, M) o9 = pj_Ends 89 (15, a0 :: some (.int x) :: l, st, M) o9 := pj_xs (s89_14 h)
theorem q89_15 : pj_row 89 15 = some (.iconst 0, 1, 0, 0, 0) := by decide +kernel
theorem s89_15 {L : pj_Loc} {st : List Value} {M : pj_Mem}  : pj_step 89 (15, L, st, M) = some (16, L, .int 0 :: st, M) := st_iconst q89_15 (by decide +kernel)
theorem x89_15 {L : pj_Loc} {st : List Value} {M : pj_Mem}  {o9 : Option Value × pj_Mem} : pj_Ends 89 (15, L, st, M) o9 = pj_Ends 89 (16, L, .int 0 :: st, M) o9 := pj_xs (s89_15)
theorem q89_16 : pj_row 89 16 = some (.istore_n 2, 1, 0, 0, 0) := by decide +kernel
theorem s89_16 {st : List Value} {M : pj_Mem} {l : pj_Loc} {a0 a1 a2 : Option Value} {x : Int32} (h : pj_long a1 = false) : pj_step 89 (16, a0 :: a1 :: a2 :: l, .int x :: st, M) = some (17, a0 :: a1 :: some (.int x) :: l, st, M) := st_istore_n q89_16 (pj_st_2 h)
theorem x89_16 {st : List Value} {M : pj_Mem} {l : pj_Loc} {a0 a1 a2 : Option Value} {x : Int32} (h : pj_long a1 = false) {o9 : Option Value × pj_Mem} : pj_Ends 89 (16, a0 :: a1 :: a2 :: l, .int x :: st, M) o9 = pj_Ends 89 (17, a0 :: a1 :: some (.int x) :: l, st, M) o9 := pj_xs (s89_16 h)
theorem q89_17 : pj_row 89 17 = some (.iload_n 2, 1, 0, 0, 0) := by decide +kernel
theorem s89_17 {st : List Value} {M : pj_Mem} {l : pj_Loc} {a0 a1 : Option Value} {x : Int32} : pj_step 89 (17, a0 :: a1 :: some (.int x) :: l, st, M) = some (18, a0 :: a1 :: some (.int x) :: l, .int x :: st, M) := st_iload_n q89_17 rfl
theorem x89_17 {st : List Value} {M : pj_Mem} {l : pj_Loc} {a0 a1 : Option Value} {x : Int32} {o9 : Option Value × pj_Mem} : pj_Ends 89 (17, a0 :: a1 :: some (.int x) :: l, st, M) o9 = pj_Ends 89 (18, a0 :: a1 :: some (.int x) :: l, .int x :: st, M) o9 := pj_xs (s89_17)
theorem q89_18 : pj_row 89 18 = some (.iconst 3, 1, 0, 0, 0) := by decide +kernel
theorem s89_18 {L : pj_Loc} {st : List Value} {M : pj_Mem}  : pj_step 89 (18, L, st, M) = some (19, L, .int 3 :: st, M) := st_iconst q89_18 (by decide +kernel)
theorem x89_18 {L : pj_Loc} {st : List Value} {M : pj_Mem}  {o9 : Option Value × pj_Mem} : pj_Ends 89 (18, L, st, M) o9 = pj_Ends 89 (19, L, .int 3 :: st, M) o9 := pj_xs (s89_18)
theorem q89_19 : pj_row 89 19 = some (.if_icmp .ge 58, 3, 77, 0, 0) := by decide +kernel
theorem s89_19 {L : pj_Loc} {st : List Value} {M : pj_Mem} {x y : Int32} : pj_step 89 (19, L, .int y :: .int x :: st, M) = some (if y ≤ x then 77 else 22, L, st, M) := st_icmp_ge q89_19
theorem x89_19 {L : pj_Loc} {st : List Value} {M : pj_Mem} {x y : Int32} {o9 : Option Value × pj_Mem} : pj_Ends 89 (19, L, .int y :: .int x :: st, M) o9 = pj_Ends 89 (if y ≤ x then 77 else 22, L, st, M) o9 := pj_xs (s89_19)
theorem q89_22 : pj_row 89 22 = some (.aload_n 0, 1, 0, 0, 0) := by decide +kernel
theorem s89_22 {st : List Value} {M : pj_Mem} {l : pj_Loc} {x : Nat} : pj_step 89 (22, some (.ref x) :: l, st, M) = some (23, some (.ref x) :: l, .ref x :: st, M) := st_aload_n q89_22 rfl
theorem x89_22 {st : List Value} {M : pj_Mem} {l : pj_Loc} {x : Nat} {o9 : Option Value × pj_Mem} : pj_Ends 89 (22, some (.ref x) :: l, st, M) o9 = pj_Ends 89 (23, some (.ref x) :: l, .ref x :: st, M) o9 := pj_xs (s89_22)
theorem q89_23 : pj_row 89 23 = some (.getfield 7, 3, 6, 0, 0) := by decide +kernel
theorem s89_23 {L : pj_Loc} {st : List Value} {N S : Nat} {H : pj_Heap} {o : Nat} : pj_step 89 (23, L, .ref o :: st, (N, S, H)) = pj_pv 26 L st (N, S, H) (pj_fld (H o) 6 0) := st_getfield q89_23
theorem x89_23 {L : pj_Loc} {st : List Value} {N S : Nat} {H : pj_Heap} {o : Nat} {o9 : Option Value × pj_Mem} : pj_Ends 89 (23, L, .ref o :: st, (N, S, H)) o9 = pj_then 89 o9 (pj_pv 26 L st (N, S, H) (pj_fld (H o) 6 0)) := pj_xt q89_23 rfl (pj_cl_nc rfl) (s89_23)
theorem q89_26 : pj_row 89 26 = some (.bipush 14, 2, 0, 0, 0) := by decide +kernel
theorem s89_26 {L : pj_Loc} {st : List Value} {M : pj_Mem}  : pj_step 89 (26, L, st, M) = some (28, L, .int 14 :: st, M) := st_bipush q89_26 (by decide +kernel)
theorem x89_26 {L : pj_Loc} {st : List Value} {M : pj_Mem}  {o9 : Option Value × pj_Mem} : pj_Ends 89 (26, L, st, M) o9 = pj_Ends 89 (28, L, .int 14 :: st, M) o9 := pj_xs (s89_26)
theorem q89_28 : pj_row 89 28 = some (.iload_n 2, 1, 0, 0, 0) := by decide +kernel
theorem s89_28 {st : List Value} {M : pj_Mem} {l : pj_Loc} {a0 a1 : Option Value} {x : Int32} : pj_step 89 (28, a0 :: a1 :: some (.int x) :: l, st, M) = some (29, a0 :: a1 :: some (.int x) :: l, .int x :: st, M) := st_iload_n q89_28 rfl
theorem x89_28 {st : List Value} {M : pj_Mem} {l : pj_Loc} {a0 a1 : Option Value} {x : Int32} {o9 : Option Value × pj_Mem} : pj_Ends 89 (28, a0 :: a1 :: some (.int x) :: l, st, M) o9 = pj_Ends 89 (29, a0 :: a1 :: some (.int x) :: l, .int x :: st, M) o9 := pj_xs (s89_28)
theorem q89_29 : pj_row 89 29 = some (.iadd, 1, 0, 0, 0) := by decide +kernel
theorem s89_29 {L : pj_Loc} {st : List Value} {M : pj_Mem} {x y : Int32} : pj_step 89 (29, L, .int y :: .int x :: st, M) = some (30, L, .int (x + y) :: st, M) := st_iadd q89_29
theorem x89_29 {L : pj_Loc} {st : List Value} {M : pj_Mem} {x y : Int32} {o9 : Option Value × pj_Mem} : pj_Ends 89 (29, L, .int y :: .int x :: st, M) o9 = pj_Ends 89 (30, L, .int (x + y) :: st, M) o9 := pj_xs (s89_29)
theorem q89_30 : pj_row 89 30 = some (.iload_n 1, 1, 0, 0, 0) := by decide +kernel
theorem s89_30 {st : List Value} {M : pj_Mem} {l : pj_Loc} {a0 : Option Value} {x : Int32} : pj_step 89 (30, a0 :: some (.int x) :: l, st, M) = some (31, a0 :: some (.int x) :: l, .int x :: st, M) := st_iload_n q89_30 rfl
theorem x89_30 {st : List Value} {M : pj_Mem} {l : pj_Loc} {a0 : Option Value} {x : Int32} {o9 : Option Value × pj_Mem} : pj_Ends 89 (30, a0 :: some (.int x) :: l, st, M) o9 = pj_Ends 89 (31, a0 :: some (.int x) :: l, .int x :: st, M) o9 := pj_xs (s89_30)
theorem q89_31 : pj_row 89 31 = some (.ifCond .eq 30, 3, 61, 0, 0) := by decide +kernel
theorem s89_31 {L : pj_Loc} {st : List Value} {M : pj_Mem} {x : Int32} : pj_step 89 (31, L, .int x :: st, M) = some (if x = 0 then 61 else 34, L, st, M) := st_if_eq q89_31
theorem x89_31 {L : pj_Loc} {st : List Value} {M : pj_Mem} {x : Int32} {o9 : Option Value × pj_Mem} : pj_Ends 89 (31, L, .int x :: st, M) o9 = pj_Ends 89 (if x = 0 then 61 else 34, L, st, M) o9 := pj_xs (s89_31)
theorem q89_34 : pj_row 89 34 = some (.aload_n 0, 1, 0, 0, 0) := by decide +kernel
theorem s89_34 {st : List Value} {M : pj_Mem} {l : pj_Loc} {x : Nat} : pj_step 89 (34, some (.ref x) :: l, st, M) = some (35, some (.ref x) :: l, .ref x :: st, M) := st_aload_n q89_34 rfl
theorem x89_34 {st : List Value} {M : pj_Mem} {l : pj_Loc} {x : Nat} {o9 : Option Value × pj_Mem} : pj_Ends 89 (34, some (.ref x) :: l, st, M) o9 = pj_Ends 89 (35, some (.ref x) :: l, .ref x :: st, M) o9 := pj_xs (s89_34)
theorem q89_35 : pj_row 89 35 = some (.getfield 28, 3, 6, 7, 0) := by decide +kernel
theorem s89_35 {L : pj_Loc} {st : List Value} {N S : Nat} {H : pj_Heap} {o : Nat} : pj_step 89 (35, L, .ref o :: st, (N, S, H)) = pj_pv 38 L st (N, S, H) (pj_fld (H o) 6 7) := st_getfield q89_35
theorem x89_35 {L : pj_Loc} {st : List Value} {N S : Nat} {H : pj_Heap} {o : Nat} {o9 : Option Value × pj_Mem} : pj_Ends 89 (35, L, .ref o :: st, (N, S, H)) o9 = pj_then 89 o9 (pj_pv 38 L st (N, S, H) (pj_fld (H o) 6 7)) := pj_xt q89_35 rfl (pj_cl_nc rfl) (s89_35)
theorem q89_38 : pj_row 89 38 = some (.iload_n 2, 1, 0, 0, 0) := by decide +kernel
theorem s89_38 {st : List Value} {M : pj_Mem} {l : pj_Loc} {a0 a1 : Option Value} {x : Int32} : pj_step 89 (38, a0 :: a1 :: some (.int x) :: l, st, M) = some (39, a0 :: a1 :: some (.int x) :: l, .int x :: st, M) := st_iload_n q89_38 rfl
theorem x89_38 {st : List Value} {M : pj_Mem} {l : pj_Loc} {a0 a1 : Option Value} {x : Int32} {o9 : Option Value × pj_Mem} : pj_Ends 89 (38, a0 :: a1 :: some (.int x) :: l, st, M) o9 = pj_Ends 89 (39, a0 :: a1 :: some (.int x) :: l, .int x :: st, M) o9 := pj_xs (s89_38)
theorem q89_39 : pj_row 89 39 = some (.iaload, 1, 0, 0, 0) := by decide +kernel
theorem s89_39 {L : pj_Loc} {st : List Value} {N S : Nat} {H : pj_Heap} {o : Nat} {i : Int32} : pj_step 89 (39, L, .int i :: .ref o :: st, (N, S, H)) = pj_pi 40 L st (N, S, H) (pj_arl (H o) 0 i) := st_iaload q89_39
theorem x89_39 {L : pj_Loc} {st : List Value} {N S : Nat} {H : pj_Heap} {o : Nat} {i : Int32} {o9 : Option Value × pj_Mem} : pj_Ends 89 (39, L, .int i :: .ref o :: st, (N, S, H)) o9 = pj_then 89 o9 (pj_pi 40 L st (N, S, H) (pj_arl (H o) 0 i)) := pj_xt q89_39 rfl (pj_cl_nc rfl) (s89_39)
theorem q89_40 : pj_row 89 40 = some (.aload_n 0, 1, 0, 0, 0) := by decide +kernel
theorem s89_40 {st : List Value} {M : pj_Mem} {l : pj_Loc} {x : Nat} : pj_step 89 (40, some (.ref x) :: l, st, M) = some (41, some (.ref x) :: l, .ref x :: st, M) := st_aload_n q89_40 rfl
theorem x89_40 {st : List Value} {M : pj_Mem} {l : pj_Loc} {x : Nat} {o9 : Option Value × pj_Mem} : pj_Ends 89 (40, some (.ref x) :: l, st, M) o9 = pj_Ends 89 (41, some (.ref x) :: l, .ref x :: st, M) o9 := pj_xs (s89_40)
theorem q89_41 : pj_row 89 41 = some (.getfield 56, 3, 6, 8, 0) := by decide +kernel
theorem s89_41 {L : pj_Loc} {st : List Value} {N S : Nat} {H : pj_Heap} {o : Nat} : pj_step 89 (41, L, .ref o :: st, (N, S, H)) = pj_pv 44 L st (N, S, H) (pj_fld (H o) 6 8) := st_getfield q89_41
theorem x89_41 {L : pj_Loc} {st : List Value} {N S : Nat} {H : pj_Heap} {o : Nat} {o9 : Option Value × pj_Mem} : pj_Ends 89 (41, L, .ref o :: st, (N, S, H)) o9 = pj_then 89 o9 (pj_pv 44 L st (N, S, H) (pj_fld (H o) 6 8)) := pj_xt q89_41 rfl (pj_cl_nc rfl) (s89_41)
theorem q89_44 : pj_row 89 44 = some (.isub, 1, 0, 0, 0) := by decide +kernel
theorem s89_44 {L : pj_Loc} {st : List Value} {M : pj_Mem} {x y : Int32} : pj_step 89 (44, L, .int y :: .int x :: st, M) = some (45, L, .int (x - y) :: st, M) := st_isub q89_44
theorem x89_44 {L : pj_Loc} {st : List Value} {M : pj_Mem} {x y : Int32} {o9 : Option Value × pj_Mem} : pj_Ends 89 (44, L, .int y :: .int x :: st, M) o9 = pj_Ends 89 (45, L, .int (x - y) :: st, M) o9 := pj_xs (s89_44)
theorem q89_45 : pj_row 89 45 = some (.invokestatic 62, 3, 90, 1, 0) := by decide +kernel
theorem e89_45 {L : pj_Loc} {st : List Value} {N S : Nat} {H : pj_Heap} {o : Option Value × pj_Mem} {M' : pj_Mem} {x0 : Int32} {r : Int32} (h4 : pj_le4 st = true) (h1 : pj_Ends 90 (0, [some (.int x0)], [], (N, S, H)) (some (.int r), M')) (h2 : pj_Ends 89 (48, L, .int r :: st, M') o) : pj_Ends 89 (45, L, .int x0 :: st, (N, S, H)) o := ec_s1 q89_45 (Or.inl rfl) h4 rfl h1 h2
theorem q89_48 : pj_row 89 48 = some (.aload_n 0, 1, 0, 0, 0) := by decide +kernel
theorem s89_48 {st : List Value} {M : pj_Mem} {l : pj_Loc} {x : Nat} : pj_step 89 (48, some (.ref x) :: l, st, M) = some (49, some (.ref x) :: l, .ref x :: st, M) := st_aload_n q89_48 rfl
theorem x89_48 {st : List Value} {M : pj_Mem} {l : pj_Loc} {x : Nat} {o9 : Option Value × pj_Mem} : pj_Ends 89 (48, some (.ref x) :: l, st, M) o9 = pj_Ends 89 (49, some (.ref x) :: l, .ref x :: st, M) o9 := pj_xs (s89_48)
theorem q89_49 : pj_row 89 49 = some (.getfield 7, 3, 6, 0, 0) := by decide +kernel
theorem s89_49 {L : pj_Loc} {st : List Value} {N S : Nat} {H : pj_Heap} {o : Nat} : pj_step 89 (49, L, .ref o :: st, (N, S, H)) = pj_pv 52 L st (N, S, H) (pj_fld (H o) 6 0) := st_getfield q89_49
theorem x89_49 {L : pj_Loc} {st : List Value} {N S : Nat} {H : pj_Heap} {o : Nat} {o9 : Option Value × pj_Mem} : pj_Ends 89 (49, L, .ref o :: st, (N, S, H)) o9 = pj_then 89 o9 (pj_pv 52 L st (N, S, H) (pj_fld (H o) 6 0)) := pj_xt q89_49 rfl (pj_cl_nc rfl) (s89_49)
theorem q89_52 : pj_row 89 52 = some (.iconst 4, 1, 0, 0, 0) := by decide +kernel
theorem s89_52 {L : pj_Loc} {st : List Value} {M : pj_Mem}  : pj_step 89 (52, L, st, M) = some (53, L, .int 4 :: st, M) := st_iconst q89_52 (by decide +kernel)
theorem x89_52 {L : pj_Loc} {st : List Value} {M : pj_Mem}  {o9 : Option Value × pj_Mem} : pj_Ends 89 (52, L, st, M) o9 = pj_Ends 89 (53, L, .int 4 :: st, M) o9 := pj_xs (s89_52)
theorem q89_53 : pj_row 89 53 = some (.iaload, 1, 0, 0, 0) := by decide +kernel
theorem s89_53 {L : pj_Loc} {st : List Value} {N S : Nat} {H : pj_Heap} {o : Nat} {i : Int32} : pj_step 89 (53, L, .int i :: .ref o :: st, (N, S, H)) = pj_pi 54 L st (N, S, H) (pj_arl (H o) 0 i) := st_iaload q89_53
theorem x89_53 {L : pj_Loc} {st : List Value} {N S : Nat} {H : pj_Heap} {o : Nat} {i : Int32} {o9 : Option Value × pj_Mem} : pj_Ends 89 (53, L, .int i :: .ref o :: st, (N, S, H)) o9 = pj_then 89 o9 (pj_pi 54 L st (N, S, H) (pj_arl (H o) 0 i)) := pj_xt q89_53 rfl (pj_cl_nc rfl) (s89_53)
theorem q89_54 : pj_row 89 54 = some (.if_icmp .le 7, 3, 61, 0, 0) := by decide +kernel
theorem s89_54 {L : pj_Loc} {st : List Value} {M : pj_Mem} {x y : Int32} : pj_step 89 (54, L, .int y :: .int x :: st, M) = some (if x ≤ y then 61 else 57, L, st, M) := st_icmp_le q89_54
theorem x89_54 {L : pj_Loc} {st : List Value} {M : pj_Mem} {x y : Int32} {o9 : Option Value × pj_Mem} : pj_Ends 89 (54, L, .int y :: .int x :: st, M) o9 = pj_Ends 89 (if x ≤ y then 61 else 57, L, st, M) o9 := pj_xs (s89_54)
theorem q89_57 : pj_row 89 57 = some (.iconst 0, 1, 0, 0, 0) := by decide +kernel
theorem s89_57 {L : pj_Loc} {st : List Value} {M : pj_Mem}  : pj_step 89 (57, L, st, M) = some (58, L, .int 0 :: st, M) := st_iconst q89_57 (by decide +kernel)
theorem x89_57 {L : pj_Loc} {st : List Value} {M : pj_Mem}  {o9 : Option Value × pj_Mem} : pj_Ends 89 (57, L, st, M) o9 = pj_Ends 89 (58, L, .int 0 :: st, M) o9 := pj_xs (s89_57)
theorem q89_58 : pj_row 89 58 = some (.goto 12, 3, 70, 0, 0) := by decide +kernel
theorem s89_58 {L : pj_Loc} {st : List Value} {M : pj_Mem}  : pj_step 89 (58, L, st, M) = some (70, L, st, M) := st_goto q89_58
theorem x89_58 {L : pj_Loc} {st : List Value} {M : pj_Mem}  {o9 : Option Value × pj_Mem} : pj_Ends 89 (58, L, st, M) o9 = pj_Ends 89 (70, L, st, M) o9 := pj_xs (s89_58)
theorem q89_61 : pj_row 89 61 = some (.aload_n 0, 1, 0, 0, 0) := by decide +kernel
theorem s89_61 {st : List Value} {M : pj_Mem} {l : pj_Loc} {x : Nat} : pj_step 89 (61, some (.ref x) :: l, st, M) = some (62, some (.ref x) :: l, .ref x :: st, M) := st_aload_n q89_61 rfl
theorem x89_61 {st : List Value} {M : pj_Mem} {l : pj_Loc} {x : Nat} {o9 : Option Value × pj_Mem} : pj_Ends 89 (61, some (.ref x) :: l, st, M) o9 = pj_Ends 89 (62, some (.ref x) :: l, .ref x :: st, M) o9 := pj_xs (s89_61)
theorem q89_62 : pj_row 89 62 = some (.getfield 7, 3, 6, 0, 0) := by decide +kernel
theorem s89_62 {L : pj_Loc} {st : List Value} {N S : Nat} {H : pj_Heap} {o : Nat} : pj_step 89 (62, L, .ref o :: st, (N, S, H)) = pj_pv 65 L st (N, S, H) (pj_fld (H o) 6 0) := st_getfield q89_62
theorem x89_62 {L : pj_Loc} {st : List Value} {N S : Nat} {H : pj_Heap} {o : Nat} {o9 : Option Value × pj_Mem} : pj_Ends 89 (62, L, .ref o :: st, (N, S, H)) o9 = pj_then 89 o9 (pj_pv 65 L st (N, S, H) (pj_fld (H o) 6 0)) := pj_xt q89_62 rfl (pj_cl_nc rfl) (s89_62)
theorem q89_65 : pj_row 89 65 = some (.bipush 14, 2, 0, 0, 0) := by decide +kernel
theorem s89_65 {L : pj_Loc} {st : List Value} {M : pj_Mem}  : pj_step 89 (65, L, st, M) = some (67, L, .int 14 :: st, M) := st_bipush q89_65 (by decide +kernel)
theorem x89_65 {L : pj_Loc} {st : List Value} {M : pj_Mem}  {o9 : Option Value × pj_Mem} : pj_Ends 89 (65, L, st, M) o9 = pj_Ends 89 (67, L, .int 14 :: st, M) o9 := pj_xs (s89_65)
theorem q89_67 : pj_row 89 67 = some (.iload_n 2, 1, 0, 0, 0) := by decide +kernel
theorem s89_67 {st : List Value} {M : pj_Mem} {l : pj_Loc} {a0 a1 : Option Value} {x : Int32} : pj_step 89 (67, a0 :: a1 :: some (.int x) :: l, st, M) = some (68, a0 :: a1 :: some (.int x) :: l, .int x :: st, M) := st_iload_n q89_67 rfl
theorem x89_67 {st : List Value} {M : pj_Mem} {l : pj_Loc} {a0 a1 : Option Value} {x : Int32} {o9 : Option Value × pj_Mem} : pj_Ends 89 (67, a0 :: a1 :: some (.int x) :: l, st, M) o9 = pj_Ends 89 (68, a0 :: a1 :: some (.int x) :: l, .int x :: st, M) o9 := pj_xs (s89_67)
theorem q89_68 : pj_row 89 68 = some (.iadd, 1, 0, 0, 0) := by decide +kernel
theorem s89_68 {L : pj_Loc} {st : List Value} {M : pj_Mem} {x y : Int32} : pj_step 89 (68, L, .int y :: .int x :: st, M) = some (69, L, .int (x + y) :: st, M) := st_iadd q89_68
theorem x89_68 {L : pj_Loc} {st : List Value} {M : pj_Mem} {x y : Int32} {o9 : Option Value × pj_Mem} : pj_Ends 89 (68, L, .int y :: .int x :: st, M) o9 = pj_Ends 89 (69, L, .int (x + y) :: st, M) o9 := pj_xs (s89_68)
theorem q89_69 : pj_row 89 69 = some (.iaload, 1, 0, 0, 0) := by decide +kernel
theorem s89_69 {L : pj_Loc} {st : List Value} {N S : Nat} {H : pj_Heap} {o : Nat} {i : Int32} : pj_step 89 (69, L, .int i :: .ref o :: st, (N, S, H)) = pj_pi 70 L st (N, S, H) (pj_arl (H o) 0 i) := st_iaload q89_69
theorem x89_69 {L : pj_Loc} {st : List Value} {N S : Nat} {H : pj_Heap} {o : Nat} {i : Int32} {o9 : Option Value × pj_Mem} : pj_Ends 89 (69, L, .int i :: .ref o :: st, (N, S, H)) o9 = pj_then 89 o9 (pj_pi 70 L st (N, S, H) (pj_arl (H o) 0 i)) := pj_xt q89_69 rfl (pj_cl_nc rfl) (s89_69)
theorem q89_70 : pj_row 89 70 = some (.iastore, 1, 0, 0, 0) := by decide +kernel
theorem s89_70 {L : pj_Loc} {st : List Value} {N S : Nat} {H : pj_Heap} {o : Nat} {i x : Int32} : pj_step 89 (70, L, .int x :: .int i :: .ref o :: st, (N, S, H)) = pj_set 71 L st (N, S, H) o (pj_ars (H o) 0 i x) := st_iastore q89_70
theorem x89_70 {L : pj_Loc} {st : List Value} {N S : Nat} {H : pj_Heap} {o : Nat} {i x : Int32} {o9 : Option Value × pj_Mem} : pj_Ends 89 (70, L, .int x :: .int i :: .ref o :: st, (N, S, H)) o9 = pj_then 89 o9 (pj_set 71 L st (N, S, H) o (pj_ars (H o) 0 i x)) := pj_xt q89_70 rfl (pj_cl_nc rfl) (s89_70)
theorem q89_71 : pj_row 89 71 = some (.iinc 2 1, 3, 0, 0, 0) := by decide +kernel
theorem s89_71 {st : List Value} {M : pj_Mem} {l : pj_Loc} {a0 a1 : Option Value} {x : Int32} (h : pj_long a1 = false) : pj_step 89 (71, a0 :: a1 :: some (.int x) :: l, st, M) = some (74, a0 :: a1 :: some (.int (x + 1)) :: l, st, M) := st_iinc q89_71 rfl (congrArg (fun y => x + y) (show Int32.ofInt 1 = 1 by decide +kernel)) (pj_st_2 h)
theorem x89_71 {st : List Value} {M : pj_Mem} {l : pj_Loc} {a0 a1 : Option Value} {x : Int32} (h : pj_long a1 = false) {o9 : Option Value × pj_Mem} : pj_Ends 89 (71, a0 :: a1 :: some (.int x) :: l, st, M) o9 = pj_Ends 89 (74, a0 :: a1 :: some (.int (x + 1)) :: l, st, M) o9 := pj_xs (s89_71 h)
theorem q89_74 : pj_row 89 74 = some (.goto (-57), 3, 17, 0, 0) := by decide +kernel
theorem s89_74 {L : pj_Loc} {st : List Value} {M : pj_Mem}  : pj_step 89 (74, L, st, M) = some (17, L, st, M) := st_goto q89_74
theorem x89_74 {L : pj_Loc} {st : List Value} {M : pj_Mem}  {o9 : Option Value × pj_Mem} : pj_Ends 89 (74, L, st, M) o9 = pj_Ends 89 (17, L, st, M) o9 := pj_xs (s89_74)
theorem q89_77 : pj_row 89 77 = some (.return_, 1, 0, 0, 0) := by decide +kernel
theorem t89_77 {L : pj_Loc} {M : pj_Mem} : pj_Ends 89 (77, L, [], M) (none, M) := pj_Ends.ret q89_77 (pj_rtn_v rt89)
theorem rt90 : pj_rt 90 = some .int := rfl
theorem q90_0 : pj_row 90 0 = some (.iload_n 0, 1, 0, 0, 0) := by decide +kernel
theorem s90_0 {st : List Value} {M : pj_Mem} {l : pj_Loc} {x : Int32} : pj_step 90 (0, some (.int x) :: l, st, M) = some (1, some (.int x) :: l, .int x :: st, M) := st_iload_n q90_0 rfl
theorem x90_0 {st : List Value} {M : pj_Mem} {l : pj_Loc} {x : Int32} {o9 : Option Value × pj_Mem} : pj_Ends 90 (0, some (.int x) :: l, st, M) o9 = pj_Ends 90 (1, some (.int x) :: l, .int x :: st, M) o9 := pj_xs (s90_0)
theorem q90_1 : pj_row 90 1 = some (.ifCond .ge 8, 3, 9, 0, 0) := by decide +kernel
theorem s90_1 {L : pj_Loc} {st : List Value} {M : pj_Mem} {x : Int32} : pj_step 90 (1, L, .int x :: st, M) = some (if 0 ≤ x then 9 else 4, L, st, M) := st_if_ge q90_1
theorem x90_1 {L : pj_Loc} {st : List Value} {M : pj_Mem} {x : Int32} {o9 : Option Value × pj_Mem} : pj_Ends 90 (1, L, .int x :: st, M) o9 = pj_Ends 90 (if 0 ≤ x then 9 else 4, L, st, M) o9 := pj_xs (s90_1)
theorem q90_4 : pj_row 90 4 = some (.iload_n 0, 1, 0, 0, 0) := by decide +kernel
theorem s90_4 {st : List Value} {M : pj_Mem} {l : pj_Loc} {x : Int32} : pj_step 90 (4, some (.int x) :: l, st, M) = some (5, some (.int x) :: l, .int x :: st, M) := st_iload_n q90_4 rfl
theorem x90_4 {st : List Value} {M : pj_Mem} {l : pj_Loc} {x : Int32} {o9 : Option Value × pj_Mem} : pj_Ends 90 (4, some (.int x) :: l, st, M) o9 = pj_Ends 90 (5, some (.int x) :: l, .int x :: st, M) o9 := pj_xs (s90_4)
theorem q90_5 : pj_row 90 5 = some (.ineg, 1, 0, 0, 0) := by decide +kernel
theorem s90_5 {L : pj_Loc} {st : List Value} {M : pj_Mem} {x : Int32} : pj_step 90 (5, L, .int x :: st, M) = some (6, L, .int (-x) :: st, M) := st_ineg q90_5
theorem x90_5 {L : pj_Loc} {st : List Value} {M : pj_Mem} {x : Int32} {o9 : Option Value × pj_Mem} : pj_Ends 90 (5, L, .int x :: st, M) o9 = pj_Ends 90 (6, L, .int (-x) :: st, M) o9 := pj_xs (s90_5)
theorem q90_6 : pj_row 90 6 = some (.goto 4, 3, 10, 0, 0) := by decide +kernel
theorem s90_6 {L : pj_Loc} {st : List Value} {M : pj_Mem}  : pj_step 90 (6, L, st, M) = some (10, L, st, M) := st_goto q90_6
theorem x90_6 {L : pj_Loc} {st : List Value} {M : pj_Mem}  {o9 : Option Value × pj_Mem} : pj_Ends 90 (6, L, st, M) o9 = pj_Ends 90 (10, L, st, M) o9 := pj_xs (s90_6)
theorem q90_9 : pj_row 90 9 = some (.iload_n 0, 1, 0, 0, 0) := by decide +kernel
theorem s90_9 {st : List Value} {M : pj_Mem} {l : pj_Loc} {x : Int32} : pj_step 90 (9, some (.int x) :: l, st, M) = some (10, some (.int x) :: l, .int x :: st, M) := st_iload_n q90_9 rfl
theorem x90_9 {st : List Value} {M : pj_Mem} {l : pj_Loc} {x : Int32} {o9 : Option Value × pj_Mem} : pj_Ends 90 (9, some (.int x) :: l, st, M) o9 = pj_Ends 90 (10, some (.int x) :: l, .int x :: st, M) o9 := pj_xs (s90_9)
theorem q90_10 : pj_row 90 10 = some (.ireturn, 1, 0, 0, 0) := by decide +kernel
theorem t90_10 {L : pj_Loc} {M : pj_Mem} {v : Int32} : pj_Ends 90 (10, L, [.int v], M) (some (.int v), M) := pj_Ends.ret q90_10 (pj_rtn_i rt90)
theorem rt91 : pj_rt 91 = none := rfl
theorem q91_0 : pj_row 91 0 = some (.iconst 0, 1, 0, 0, 0) := by decide +kernel
theorem s91_0 {L : pj_Loc} {st : List Value} {M : pj_Mem}  : pj_step 91 (0, L, st, M) = some (1, L, .int 0 :: st, M) := st_iconst q91_0 (by decide +kernel)
theorem x91_0 {L : pj_Loc} {st : List Value} {M : pj_Mem}  {o9 : Option Value × pj_Mem} : pj_Ends 91 (0, L, st, M) o9 = pj_Ends 91 (1, L, .int 0 :: st, M) o9 := pj_xs (s91_0)
theorem q91_1 : pj_row 91 1 = some (.istore_n 2, 1, 0, 0, 0) := by decide +kernel
theorem s91_1 {st : List Value} {M : pj_Mem} {l : pj_Loc} {a0 a1 a2 : Option Value} {x : Int32} (h : pj_long a1 = false) : pj_step 91 (1, a0 :: a1 :: a2 :: l, .int x :: st, M) = some (2, a0 :: a1 :: some (.int x) :: l, st, M) := st_istore_n q91_1 (pj_st_2 h)
theorem x91_1 {st : List Value} {M : pj_Mem} {l : pj_Loc} {a0 a1 a2 : Option Value} {x : Int32} (h : pj_long a1 = false) {o9 : Option Value × pj_Mem} : pj_Ends 91 (1, a0 :: a1 :: a2 :: l, .int x :: st, M) o9 = pj_Ends 91 (2, a0 :: a1 :: some (.int x) :: l, st, M) o9 := pj_xs (s91_1 h)
theorem q91_2 : pj_row 91 2 = some (.iload_n 2, 1, 0, 0, 0) := by decide +kernel
theorem s91_2 {st : List Value} {M : pj_Mem} {l : pj_Loc} {a0 a1 : Option Value} {x : Int32} : pj_step 91 (2, a0 :: a1 :: some (.int x) :: l, st, M) = some (3, a0 :: a1 :: some (.int x) :: l, .int x :: st, M) := st_iload_n q91_2 rfl
theorem x91_2 {st : List Value} {M : pj_Mem} {l : pj_Loc} {a0 a1 : Option Value} {x : Int32} {o9 : Option Value × pj_Mem} : pj_Ends 91 (2, a0 :: a1 :: some (.int x) :: l, st, M) o9 = pj_Ends 91 (3, a0 :: a1 :: some (.int x) :: l, .int x :: st, M) o9 := pj_xs (s91_2)
theorem q91_3 : pj_row 91 3 = some (.iconst 3, 1, 0, 0, 0) := by decide +kernel
theorem s91_3 {L : pj_Loc} {st : List Value} {M : pj_Mem}  : pj_step 91 (3, L, st, M) = some (4, L, .int 3 :: st, M) := st_iconst q91_3 (by decide +kernel)
theorem x91_3 {L : pj_Loc} {st : List Value} {M : pj_Mem}  {o9 : Option Value × pj_Mem} : pj_Ends 91 (3, L, st, M) o9 = pj_Ends 91 (4, L, .int 3 :: st, M) o9 := pj_xs (s91_3)
theorem q91_4 : pj_row 91 4 = some (.if_icmp .ge 83, 3, 87, 0, 0) := by decide +kernel
theorem s91_4 {L : pj_Loc} {st : List Value} {M : pj_Mem} {x y : Int32} : pj_step 91 (4, L, .int y :: .int x :: st, M) = some (if y ≤ x then 87 else 7, L, st, M) := st_icmp_ge q91_4
theorem x91_4 {L : pj_Loc} {st : List Value} {M : pj_Mem} {x y : Int32} {o9 : Option Value × pj_Mem} : pj_Ends 91 (4, L, .int y :: .int x :: st, M) o9 = pj_Ends 91 (if y ≤ x then 87 else 7, L, st, M) o9 := pj_xs (s91_4)
theorem q91_7 : pj_row 91 7 = some (.iload_n 1, 1, 0, 0, 0) := by decide +kernel
theorem s91_7 {st : List Value} {M : pj_Mem} {l : pj_Loc} {a0 : Option Value} {x : Int32} : pj_step 91 (7, a0 :: some (.int x) :: l, st, M) = some (8, a0 :: some (.int x) :: l, .int x :: st, M) := st_iload_n q91_7 rfl
theorem x91_7 {st : List Value} {M : pj_Mem} {l : pj_Loc} {a0 : Option Value} {x : Int32} {o9 : Option Value × pj_Mem} : pj_Ends 91 (7, a0 :: some (.int x) :: l, st, M) o9 = pj_Ends 91 (8, a0 :: some (.int x) :: l, .int x :: st, M) o9 := pj_xs (s91_7)
theorem q91_8 : pj_row 91 8 = some (.ifCond .ne 73, 3, 81, 0, 0) := by decide +kernel
theorem s91_8 {L : pj_Loc} {st : List Value} {M : pj_Mem} {x : Int32} : pj_step 91 (8, L, .int x :: st, M) = some (if ¬ x = 0 then 81 else 11, L, st, M) := st_if_ne q91_8
theorem x91_8 {L : pj_Loc} {st : List Value} {M : pj_Mem} {x : Int32} {o9 : Option Value × pj_Mem} : pj_Ends 91 (8, L, .int x :: st, M) o9 = pj_Ends 91 (if ¬ x = 0 then 81 else 11, L, st, M) o9 := pj_xs (s91_8)
theorem q91_11 : pj_row 91 11 = some (.aload_n 0, 1, 0, 0, 0) := by decide +kernel
theorem s91_11 {st : List Value} {M : pj_Mem} {l : pj_Loc} {x : Nat} : pj_step 91 (11, some (.ref x) :: l, st, M) = some (12, some (.ref x) :: l, .ref x :: st, M) := st_aload_n q91_11 rfl
theorem x91_11 {st : List Value} {M : pj_Mem} {l : pj_Loc} {x : Nat} {o9 : Option Value × pj_Mem} : pj_Ends 91 (11, some (.ref x) :: l, st, M) o9 = pj_Ends 91 (12, some (.ref x) :: l, .ref x :: st, M) o9 := pj_xs (s91_11)
theorem q91_12 : pj_row 91 12 = some (.getfield 56, 3, 6, 8, 0) := by decide +kernel
theorem s91_12 {L : pj_Loc} {st : List Value} {N S : Nat} {H : pj_Heap} {o : Nat} : pj_step 91 (12, L, .ref o :: st, (N, S, H)) = pj_pv 15 L st (N, S, H) (pj_fld (H o) 6 8) := st_getfield q91_12
theorem x91_12 {L : pj_Loc} {st : List Value} {N S : Nat} {H : pj_Heap} {o : Nat} {o9 : Option Value × pj_Mem} : pj_Ends 91 (12, L, .ref o :: st, (N, S, H)) o9 = pj_then 91 o9 (pj_pv 15 L st (N, S, H) (pj_fld (H o) 6 8)) := pj_xt q91_12 rfl (pj_cl_nc rfl) (s91_12)
theorem q91_15 : pj_row 91 15 = some (.invokestatic 62, 3, 90, 1, 0) := by decide +kernel
theorem e91_15 {L : pj_Loc} {st : List Value} {N S : Nat} {H : pj_Heap} {o : Option Value × pj_Mem} {M' : pj_Mem} {x0 : Int32} {r : Int32} (h4 : pj_le4 st = true) (h1 : pj_Ends 90 (0, [some (.int x0)], [], (N, S, H)) (some (.int r), M')) (h2 : pj_Ends 91 (18, L, .int r :: st, M') o) : pj_Ends 91 (15, L, .int x0 :: st, (N, S, H)) o := ec_s1 q91_15 (Or.inl rfl) h4 rfl h1 h2
theorem q91_18 : pj_row 91 18 = some (.iconst 3, 1, 0, 0, 0) := by decide +kernel
theorem s91_18 {L : pj_Loc} {st : List Value} {M : pj_Mem}  : pj_step 91 (18, L, st, M) = some (19, L, .int 3 :: st, M) := st_iconst q91_18 (by decide +kernel)
theorem x91_18 {L : pj_Loc} {st : List Value} {M : pj_Mem}  {o9 : Option Value × pj_Mem} : pj_Ends 91 (18, L, st, M) o9 = pj_Ends 91 (19, L, .int 3 :: st, M) o9 := pj_xs (s91_18)
theorem q91_19 : pj_row 91 19 = some (.if_icmp .gt 62, 3, 81, 0, 0) := by decide +kernel
theorem s91_19 {L : pj_Loc} {st : List Value} {M : pj_Mem} {x y : Int32} : pj_step 91 (19, L, .int y :: .int x :: st, M) = some (if y < x then 81 else 22, L, st, M) := st_icmp_gt q91_19
theorem x91_19 {L : pj_Loc} {st : List Value} {M : pj_Mem} {x y : Int32} {o9 : Option Value × pj_Mem} : pj_Ends 91 (19, L, .int y :: .int x :: st, M) o9 = pj_Ends 91 (if y < x then 81 else 22, L, st, M) o9 := pj_xs (s91_19)
theorem q91_22 : pj_row 91 22 = some (.aload_n 0, 1, 0, 0, 0) := by decide +kernel
theorem s91_22 {st : List Value} {M : pj_Mem} {l : pj_Loc} {x : Nat} : pj_step 91 (22, some (.ref x) :: l, st, M) = some (23, some (.ref x) :: l, .ref x :: st, M) := st_aload_n q91_22 rfl
theorem x91_22 {st : List Value} {M : pj_Mem} {l : pj_Loc} {x : Nat} {o9 : Option Value × pj_Mem} : pj_Ends 91 (22, some (.ref x) :: l, st, M) o9 = pj_Ends 91 (23, some (.ref x) :: l, .ref x :: st, M) o9 := pj_xs (s91_22)
theorem q91_23 : pj_row 91 23 = some (.getfield 7, 3, 6, 0, 0) := by decide +kernel
theorem s91_23 {L : pj_Loc} {st : List Value} {N S : Nat} {H : pj_Heap} {o : Nat} : pj_step 91 (23, L, .ref o :: st, (N, S, H)) = pj_pv 26 L st (N, S, H) (pj_fld (H o) 6 0) := st_getfield q91_23
theorem x91_23 {L : pj_Loc} {st : List Value} {N S : Nat} {H : pj_Heap} {o : Nat} {o9 : Option Value × pj_Mem} : pj_Ends 91 (23, L, .ref o :: st, (N, S, H)) o9 = pj_then 91 o9 (pj_pv 26 L st (N, S, H) (pj_fld (H o) 6 0)) := pj_xt q91_23 rfl (pj_cl_nc rfl) (s91_23)
theorem q91_26 : pj_row 91 26 = some (.bipush 14, 2, 0, 0, 0) := by decide +kernel
theorem s91_26 {L : pj_Loc} {st : List Value} {M : pj_Mem}  : pj_step 91 (26, L, st, M) = some (28, L, .int 14 :: st, M) := st_bipush q91_26 (by decide +kernel)
theorem x91_26 {L : pj_Loc} {st : List Value} {M : pj_Mem}  {o9 : Option Value × pj_Mem} : pj_Ends 91 (26, L, st, M) o9 = pj_Ends 91 (28, L, .int 14 :: st, M) o9 := pj_xs (s91_26)
theorem q91_28 : pj_row 91 28 = some (.iload_n 2, 1, 0, 0, 0) := by decide +kernel
theorem s91_28 {st : List Value} {M : pj_Mem} {l : pj_Loc} {a0 a1 : Option Value} {x : Int32} : pj_step 91 (28, a0 :: a1 :: some (.int x) :: l, st, M) = some (29, a0 :: a1 :: some (.int x) :: l, .int x :: st, M) := st_iload_n q91_28 rfl
theorem x91_28 {st : List Value} {M : pj_Mem} {l : pj_Loc} {a0 a1 : Option Value} {x : Int32} {o9 : Option Value × pj_Mem} : pj_Ends 91 (28, a0 :: a1 :: some (.int x) :: l, st, M) o9 = pj_Ends 91 (29, a0 :: a1 :: some (.int x) :: l, .int x :: st, M) o9 := pj_xs (s91_28)
theorem q91_29 : pj_row 91 29 = some (.iadd, 1, 0, 0, 0) := by decide +kernel
theorem s91_29 {L : pj_Loc} {st : List Value} {M : pj_Mem} {x y : Int32} : pj_step 91 (29, L, .int y :: .int x :: st, M) = some (30, L, .int (x + y) :: st, M) := st_iadd q91_29
theorem x91_29 {L : pj_Loc} {st : List Value} {M : pj_Mem} {x y : Int32} {o9 : Option Value × pj_Mem} : pj_Ends 91 (29, L, .int y :: .int x :: st, M) o9 = pj_Ends 91 (30, L, .int (x + y) :: st, M) o9 := pj_xs (s91_29)
theorem q91_30 : pj_row 91 30 = some (.iaload, 1, 0, 0, 0) := by decide +kernel
theorem s91_30 {L : pj_Loc} {st : List Value} {N S : Nat} {H : pj_Heap} {o : Nat} {i : Int32} : pj_step 91 (30, L, .int i :: .ref o :: st, (N, S, H)) = pj_pi 31 L st (N, S, H) (pj_arl (H o) 0 i) := st_iaload q91_30
theorem x91_30 {L : pj_Loc} {st : List Value} {N S : Nat} {H : pj_Heap} {o : Nat} {i : Int32} {o9 : Option Value × pj_Mem} : pj_Ends 91 (30, L, .int i :: .ref o :: st, (N, S, H)) o9 = pj_then 91 o9 (pj_pi 31 L st (N, S, H) (pj_arl (H o) 0 i)) := pj_xt q91_30 rfl (pj_cl_nc rfl) (s91_30)
theorem q91_31 : pj_row 91 31 = some (.iconst 1, 1, 0, 0, 0) := by decide +kernel
theorem s91_31 {L : pj_Loc} {st : List Value} {M : pj_Mem}  : pj_step 91 (31, L, st, M) = some (32, L, .int 1 :: st, M) := st_iconst q91_31 (by decide +kernel)
theorem x91_31 {L : pj_Loc} {st : List Value} {M : pj_Mem}  {o9 : Option Value × pj_Mem} : pj_Ends 91 (31, L, st, M) o9 = pj_Ends 91 (32, L, .int 1 :: st, M) o9 := pj_xs (s91_31)
theorem q91_32 : pj_row 91 32 = some (.if_icmp .ne 49, 3, 81, 0, 0) := by decide +kernel
theorem s91_32 {L : pj_Loc} {st : List Value} {M : pj_Mem} {x y : Int32} : pj_step 91 (32, L, .int y :: .int x :: st, M) = some (if ¬ x = y then 81 else 35, L, st, M) := st_icmp_ne q91_32
theorem x91_32 {L : pj_Loc} {st : List Value} {M : pj_Mem} {x y : Int32} {o9 : Option Value × pj_Mem} : pj_Ends 91 (32, L, .int y :: .int x :: st, M) o9 = pj_Ends 91 (if ¬ x = y then 81 else 35, L, st, M) o9 := pj_xs (s91_32)
theorem q91_35 : pj_row 91 35 = some (.aload_n 0, 1, 0, 0, 0) := by decide +kernel
theorem s91_35 {st : List Value} {M : pj_Mem} {l : pj_Loc} {x : Nat} : pj_step 91 (35, some (.ref x) :: l, st, M) = some (36, some (.ref x) :: l, .ref x :: st, M) := st_aload_n q91_35 rfl
theorem x91_35 {st : List Value} {M : pj_Mem} {l : pj_Loc} {x : Nat} {o9 : Option Value × pj_Mem} : pj_Ends 91 (35, some (.ref x) :: l, st, M) o9 = pj_Ends 91 (36, some (.ref x) :: l, .ref x :: st, M) o9 := pj_xs (s91_35)
theorem q91_36 : pj_row 91 36 = some (.getfield 25, 3, 6, 6, 0) := by decide +kernel
theorem s91_36 {L : pj_Loc} {st : List Value} {N S : Nat} {H : pj_Heap} {o : Nat} : pj_step 91 (36, L, .ref o :: st, (N, S, H)) = pj_pv 39 L st (N, S, H) (pj_fld (H o) 6 6) := st_getfield q91_36
theorem x91_36 {L : pj_Loc} {st : List Value} {N S : Nat} {H : pj_Heap} {o : Nat} {o9 : Option Value × pj_Mem} : pj_Ends 91 (36, L, .ref o :: st, (N, S, H)) o9 = pj_then 91 o9 (pj_pv 39 L st (N, S, H) (pj_fld (H o) 6 6)) := pj_xt q91_36 rfl (pj_cl_nc rfl) (s91_36)
theorem q91_39 : pj_row 91 39 = some (.iload_n 2, 1, 0, 0, 0) := by decide +kernel
theorem s91_39 {st : List Value} {M : pj_Mem} {l : pj_Loc} {a0 a1 : Option Value} {x : Int32} : pj_step 91 (39, a0 :: a1 :: some (.int x) :: l, st, M) = some (40, a0 :: a1 :: some (.int x) :: l, .int x :: st, M) := st_iload_n q91_39 rfl
theorem x91_39 {st : List Value} {M : pj_Mem} {l : pj_Loc} {a0 a1 : Option Value} {x : Int32} {o9 : Option Value × pj_Mem} : pj_Ends 91 (39, a0 :: a1 :: some (.int x) :: l, st, M) o9 = pj_Ends 91 (40, a0 :: a1 :: some (.int x) :: l, .int x :: st, M) o9 := pj_xs (s91_39)
theorem q91_40 : pj_row 91 40 = some (.iaload, 1, 0, 0, 0) := by decide +kernel
theorem s91_40 {L : pj_Loc} {st : List Value} {N S : Nat} {H : pj_Heap} {o : Nat} {i : Int32} : pj_step 91 (40, L, .int i :: .ref o :: st, (N, S, H)) = pj_pi 41 L st (N, S, H) (pj_arl (H o) 0 i) := st_iaload q91_40
theorem x91_40 {L : pj_Loc} {st : List Value} {N S : Nat} {H : pj_Heap} {o : Nat} {i : Int32} {o9 : Option Value × pj_Mem} : pj_Ends 91 (40, L, .int i :: .ref o :: st, (N, S, H)) o9 = pj_then 91 o9 (pj_pi 41 L st (N, S, H) (pj_arl (H o) 0 i)) := pj_xt q91_40 rfl (pj_cl_nc rfl) (s91_40)
theorem q91_41 : pj_row 91 41 = some (.aload_n 0, 1, 0, 0, 0) := by decide +kernel
theorem s91_41 {st : List Value} {M : pj_Mem} {l : pj_Loc} {x : Nat} : pj_step 91 (41, some (.ref x) :: l, st, M) = some (42, some (.ref x) :: l, .ref x :: st, M) := st_aload_n q91_41 rfl
theorem x91_41 {st : List Value} {M : pj_Mem} {l : pj_Loc} {x : Nat} {o9 : Option Value × pj_Mem} : pj_Ends 91 (41, some (.ref x) :: l, st, M) o9 = pj_Ends 91 (42, some (.ref x) :: l, .ref x :: st, M) o9 := pj_xs (s91_41)
theorem q91_42 : pj_row 91 42 = some (.getfield 7, 3, 6, 0, 0) := by decide +kernel
theorem s91_42 {L : pj_Loc} {st : List Value} {N S : Nat} {H : pj_Heap} {o : Nat} : pj_step 91 (42, L, .ref o :: st, (N, S, H)) = pj_pv 45 L st (N, S, H) (pj_fld (H o) 6 0) := st_getfield q91_42
theorem x91_42 {L : pj_Loc} {st : List Value} {N S : Nat} {H : pj_Heap} {o : Nat} {o9 : Option Value × pj_Mem} : pj_Ends 91 (42, L, .ref o :: st, (N, S, H)) o9 = pj_then 91 o9 (pj_pv 45 L st (N, S, H) (pj_fld (H o) 6 0)) := pj_xt q91_42 rfl (pj_cl_nc rfl) (s91_42)
theorem q91_45 : pj_row 91 45 = some (.bipush 8, 2, 0, 0, 0) := by decide +kernel
theorem s91_45 {L : pj_Loc} {st : List Value} {M : pj_Mem}  : pj_step 91 (45, L, st, M) = some (47, L, .int 8 :: st, M) := st_bipush q91_45 (by decide +kernel)
theorem x91_45 {L : pj_Loc} {st : List Value} {M : pj_Mem}  {o9 : Option Value × pj_Mem} : pj_Ends 91 (45, L, st, M) o9 = pj_Ends 91 (47, L, .int 8 :: st, M) o9 := pj_xs (s91_45)
theorem q91_47 : pj_row 91 47 = some (.iload_n 2, 1, 0, 0, 0) := by decide +kernel
theorem s91_47 {st : List Value} {M : pj_Mem} {l : pj_Loc} {a0 a1 : Option Value} {x : Int32} : pj_step 91 (47, a0 :: a1 :: some (.int x) :: l, st, M) = some (48, a0 :: a1 :: some (.int x) :: l, .int x :: st, M) := st_iload_n q91_47 rfl
theorem x91_47 {st : List Value} {M : pj_Mem} {l : pj_Loc} {a0 a1 : Option Value} {x : Int32} {o9 : Option Value × pj_Mem} : pj_Ends 91 (47, a0 :: a1 :: some (.int x) :: l, st, M) o9 = pj_Ends 91 (48, a0 :: a1 :: some (.int x) :: l, .int x :: st, M) o9 := pj_xs (s91_47)
theorem q91_48 : pj_row 91 48 = some (.iadd, 1, 0, 0, 0) := by decide +kernel
theorem s91_48 {L : pj_Loc} {st : List Value} {M : pj_Mem} {x y : Int32} : pj_step 91 (48, L, .int y :: .int x :: st, M) = some (49, L, .int (x + y) :: st, M) := st_iadd q91_48
theorem x91_48 {L : pj_Loc} {st : List Value} {M : pj_Mem} {x y : Int32} {o9 : Option Value × pj_Mem} : pj_Ends 91 (48, L, .int y :: .int x :: st, M) o9 = pj_Ends 91 (49, L, .int (x + y) :: st, M) o9 := pj_xs (s91_48)
theorem q91_49 : pj_row 91 49 = some (.iaload, 1, 0, 0, 0) := by decide +kernel
theorem s91_49 {L : pj_Loc} {st : List Value} {N S : Nat} {H : pj_Heap} {o : Nat} {i : Int32} : pj_step 91 (49, L, .int i :: .ref o :: st, (N, S, H)) = pj_pi 50 L st (N, S, H) (pj_arl (H o) 0 i) := st_iaload q91_49
theorem x91_49 {L : pj_Loc} {st : List Value} {N S : Nat} {H : pj_Heap} {o : Nat} {i : Int32} {o9 : Option Value × pj_Mem} : pj_Ends 91 (49, L, .int i :: .ref o :: st, (N, S, H)) o9 = pj_then 91 o9 (pj_pi 50 L st (N, S, H) (pj_arl (H o) 0 i)) := pj_xt q91_49 rfl (pj_cl_nc rfl) (s91_49)
theorem q91_50 : pj_row 91 50 = some (.isub, 1, 0, 0, 0) := by decide +kernel
theorem s91_50 {L : pj_Loc} {st : List Value} {M : pj_Mem} {x y : Int32} : pj_step 91 (50, L, .int y :: .int x :: st, M) = some (51, L, .int (x - y) :: st, M) := st_isub q91_50
theorem x91_50 {L : pj_Loc} {st : List Value} {M : pj_Mem} {x y : Int32} {o9 : Option Value × pj_Mem} : pj_Ends 91 (50, L, .int y :: .int x :: st, M) o9 = pj_Ends 91 (51, L, .int (x - y) :: st, M) o9 := pj_xs (s91_50)
theorem q91_51 : pj_row 91 51 = some (.istore_n 3, 1, 0, 0, 0) := by decide +kernel
theorem s91_51 {st : List Value} {M : pj_Mem} {l : pj_Loc} {a0 a1 a2 a3 : Option Value} {x : Int32} (h : pj_long a2 = false) : pj_step 91 (51, a0 :: a1 :: a2 :: a3 :: l, .int x :: st, M) = some (52, a0 :: a1 :: a2 :: some (.int x) :: l, st, M) := st_istore_n q91_51 (pj_st_3 h)
theorem x91_51 {st : List Value} {M : pj_Mem} {l : pj_Loc} {a0 a1 a2 a3 : Option Value} {x : Int32} (h : pj_long a2 = false) {o9 : Option Value × pj_Mem} : pj_Ends 91 (51, a0 :: a1 :: a2 :: a3 :: l, .int x :: st, M) o9 = pj_Ends 91 (52, a0 :: a1 :: a2 :: some (.int x) :: l, st, M) o9 := pj_xs (s91_51 h)
theorem q91_52 : pj_row 91 52 = some (.aload_n 0, 1, 0, 0, 0) := by decide +kernel
theorem s91_52 {st : List Value} {M : pj_Mem} {l : pj_Loc} {x : Nat} : pj_step 91 (52, some (.ref x) :: l, st, M) = some (53, some (.ref x) :: l, .ref x :: st, M) := st_aload_n q91_52 rfl
theorem x91_52 {st : List Value} {M : pj_Mem} {l : pj_Loc} {x : Nat} {o9 : Option Value × pj_Mem} : pj_Ends 91 (52, some (.ref x) :: l, st, M) o9 = pj_Ends 91 (53, some (.ref x) :: l, .ref x :: st, M) o9 := pj_xs (s91_52)
theorem q91_53 : pj_row 91 53 = some (.getfield 7, 3, 6, 0, 0) := by decide +kernel
theorem s91_53 {L : pj_Loc} {st : List Value} {N S : Nat} {H : pj_Heap} {o : Nat} : pj_step 91 (53, L, .ref o :: st, (N, S, H)) = pj_pv 56 L st (N, S, H) (pj_fld (H o) 6 0) := st_getfield q91_53
theorem x91_53 {L : pj_Loc} {st : List Value} {N S : Nat} {H : pj_Heap} {o : Nat} {o9 : Option Value × pj_Mem} : pj_Ends 91 (53, L, .ref o :: st, (N, S, H)) o9 = pj_then 91 o9 (pj_pv 56 L st (N, S, H) (pj_fld (H o) 6 0)) := pj_xt q91_53 rfl (pj_cl_nc rfl) (s91_53)
theorem q91_56 : pj_row 91 56 = some (.bipush 8, 2, 0, 0, 0) := by decide +kernel
theorem s91_56 {L : pj_Loc} {st : List Value} {M : pj_Mem}  : pj_step 91 (56, L, st, M) = some (58, L, .int 8 :: st, M) := st_bipush q91_56 (by decide +kernel)
theorem x91_56 {L : pj_Loc} {st : List Value} {M : pj_Mem}  {o9 : Option Value × pj_Mem} : pj_Ends 91 (56, L, st, M) o9 = pj_Ends 91 (58, L, .int 8 :: st, M) o9 := pj_xs (s91_56)
theorem q91_58 : pj_row 91 58 = some (.iload_n 2, 1, 0, 0, 0) := by decide +kernel
theorem s91_58 {st : List Value} {M : pj_Mem} {l : pj_Loc} {a0 a1 : Option Value} {x : Int32} : pj_step 91 (58, a0 :: a1 :: some (.int x) :: l, st, M) = some (59, a0 :: a1 :: some (.int x) :: l, .int x :: st, M) := st_iload_n q91_58 rfl
theorem x91_58 {st : List Value} {M : pj_Mem} {l : pj_Loc} {a0 a1 : Option Value} {x : Int32} {o9 : Option Value × pj_Mem} : pj_Ends 91 (58, a0 :: a1 :: some (.int x) :: l, st, M) o9 = pj_Ends 91 (59, a0 :: a1 :: some (.int x) :: l, .int x :: st, M) o9 := pj_xs (s91_58)
theorem q91_59 : pj_row 91 59 = some (.iadd, 1, 0, 0, 0) := by decide +kernel
theorem s91_59 {L : pj_Loc} {st : List Value} {M : pj_Mem} {x y : Int32} : pj_step 91 (59, L, .int y :: .int x :: st, M) = some (60, L, .int (x + y) :: st, M) := st_iadd q91_59
theorem x91_59 {L : pj_Loc} {st : List Value} {M : pj_Mem} {x y : Int32} {o9 : Option Value × pj_Mem} : pj_Ends 91 (59, L, .int y :: .int x :: st, M) o9 = pj_Ends 91 (60, L, .int (x + y) :: st, M) o9 := pj_xs (s91_59)
theorem q91_60 : pj_row 91 60 = some (.dup2, 1, 0, 0, 0) := by decide +kernel
theorem s91_60 {L : pj_Loc} {st : List Value} {M : pj_Mem} {x : Int32} {o : Nat} : pj_step 91 (60, L, .int x :: .ref o :: st, M) = some (61, L, .int x :: .ref o :: .int x :: .ref o :: st, M) := st_dup2 q91_60
theorem x91_60 {L : pj_Loc} {st : List Value} {M : pj_Mem} {x : Int32} {o : Nat} {o9 : Option Value × pj_Mem} : pj_Ends 91 (60, L, .int x :: .ref o :: st, M) o9 = pj_Ends 91 (61, L, .int x :: .ref o :: .int x :: .ref o :: st, M) o9 := pj_xs (s91_60)
theorem q91_61 : pj_row 91 61 = some (.iaload, 1, 0, 0, 0) := by decide +kernel
theorem s91_61 {L : pj_Loc} {st : List Value} {N S : Nat} {H : pj_Heap} {o : Nat} {i : Int32} : pj_step 91 (61, L, .int i :: .ref o :: st, (N, S, H)) = pj_pi 62 L st (N, S, H) (pj_arl (H o) 0 i) := st_iaload q91_61
theorem x91_61 {L : pj_Loc} {st : List Value} {N S : Nat} {H : pj_Heap} {o : Nat} {i : Int32} {o9 : Option Value × pj_Mem} : pj_Ends 91 (61, L, .int i :: .ref o :: st, (N, S, H)) o9 = pj_then 91 o9 (pj_pi 62 L st (N, S, H) (pj_arl (H o) 0 i)) := pj_xt q91_61 rfl (pj_cl_nc rfl) (s91_61)
theorem q91_62 : pj_row 91 62 = some (.iload_n 3, 1, 0, 0, 0) := by decide +kernel
theorem s91_62 {st : List Value} {M : pj_Mem} {l : pj_Loc} {a0 a1 a2 : Option Value} {x : Int32} : pj_step 91 (62, a0 :: a1 :: a2 :: some (.int x) :: l, st, M) = some (63, a0 :: a1 :: a2 :: some (.int x) :: l, .int x :: st, M) := st_iload_n q91_62 rfl
theorem x91_62 {st : List Value} {M : pj_Mem} {l : pj_Loc} {a0 a1 a2 : Option Value} {x : Int32} {o9 : Option Value × pj_Mem} : pj_Ends 91 (62, a0 :: a1 :: a2 :: some (.int x) :: l, st, M) o9 = pj_Ends 91 (63, a0 :: a1 :: a2 :: some (.int x) :: l, .int x :: st, M) o9 := pj_xs (s91_62)
theorem q91_63 : pj_row 91 63 = some (.ifCond .le 7, 3, 70, 0, 0) := by decide +kernel
theorem s91_63 {L : pj_Loc} {st : List Value} {M : pj_Mem} {x : Int32} : pj_step 91 (63, L, .int x :: st, M) = some (if x ≤ 0 then 70 else 66, L, st, M) := st_if_le q91_63
theorem x91_63 {L : pj_Loc} {st : List Value} {M : pj_Mem} {x : Int32} {o9 : Option Value × pj_Mem} : pj_Ends 91 (63, L, .int x :: st, M) o9 = pj_Ends 91 (if x ≤ 0 then 70 else 66, L, st, M) o9 := pj_xs (s91_63)
theorem q91_66 : pj_row 91 66 = some (.iconst 1, 1, 0, 0, 0) := by decide +kernel
theorem s91_66 {L : pj_Loc} {st : List Value} {M : pj_Mem}  : pj_step 91 (66, L, st, M) = some (67, L, .int 1 :: st, M) := st_iconst q91_66 (by decide +kernel)
theorem x91_66 {L : pj_Loc} {st : List Value} {M : pj_Mem}  {o9 : Option Value × pj_Mem} : pj_Ends 91 (66, L, st, M) o9 = pj_Ends 91 (67, L, .int 1 :: st, M) o9 := pj_xs (s91_66)
theorem q91_67 : pj_row 91 67 = some (.goto 12, 3, 79, 0, 0) := by decide +kernel
theorem s91_67 {L : pj_Loc} {st : List Value} {M : pj_Mem}  : pj_step 91 (67, L, st, M) = some (79, L, st, M) := st_goto q91_67
theorem x91_67 {L : pj_Loc} {st : List Value} {M : pj_Mem}  {o9 : Option Value × pj_Mem} : pj_Ends 91 (67, L, st, M) o9 = pj_Ends 91 (79, L, st, M) o9 := pj_xs (s91_67)
theorem q91_70 : pj_row 91 70 = some (.iload_n 3, 1, 0, 0, 0) := by decide +kernel
theorem s91_70 {st : List Value} {M : pj_Mem} {l : pj_Loc} {a0 a1 a2 : Option Value} {x : Int32} : pj_step 91 (70, a0 :: a1 :: a2 :: some (.int x) :: l, st, M) = some (71, a0 :: a1 :: a2 :: some (.int x) :: l, .int x :: st, M) := st_iload_n q91_70 rfl
theorem x91_70 {st : List Value} {M : pj_Mem} {l : pj_Loc} {a0 a1 a2 : Option Value} {x : Int32} {o9 : Option Value × pj_Mem} : pj_Ends 91 (70, a0 :: a1 :: a2 :: some (.int x) :: l, st, M) o9 = pj_Ends 91 (71, a0 :: a1 :: a2 :: some (.int x) :: l, .int x :: st, M) o9 := pj_xs (s91_70)
theorem q91_71 : pj_row 91 71 = some (.ifCond .ge 7, 3, 78, 0, 0) := by decide +kernel
theorem s91_71 {L : pj_Loc} {st : List Value} {M : pj_Mem} {x : Int32} : pj_step 91 (71, L, .int x :: st, M) = some (if 0 ≤ x then 78 else 74, L, st, M) := st_if_ge q91_71
theorem x91_71 {L : pj_Loc} {st : List Value} {M : pj_Mem} {x : Int32} {o9 : Option Value × pj_Mem} : pj_Ends 91 (71, L, .int x :: st, M) o9 = pj_Ends 91 (if 0 ≤ x then 78 else 74, L, st, M) o9 := pj_xs (s91_71)
theorem q91_74 : pj_row 91 74 = some (.iconst (-1), 1, 0, 0, 0) := by decide +kernel
theorem s91_74 {L : pj_Loc} {st : List Value} {M : pj_Mem}  : pj_step 91 (74, L, st, M) = some (75, L, .int (-1) :: st, M) := st_iconst q91_74 (by decide +kernel)
theorem x91_74 {L : pj_Loc} {st : List Value} {M : pj_Mem}  {o9 : Option Value × pj_Mem} : pj_Ends 91 (74, L, st, M) o9 = pj_Ends 91 (75, L, .int (-1) :: st, M) o9 := pj_xs (s91_74)
theorem q91_75 : pj_row 91 75 = some (.goto 4, 3, 79, 0, 0) := by decide +kernel
theorem s91_75 {L : pj_Loc} {st : List Value} {M : pj_Mem}  : pj_step 91 (75, L, st, M) = some (79, L, st, M) := st_goto q91_75
theorem x91_75 {L : pj_Loc} {st : List Value} {M : pj_Mem}  {o9 : Option Value × pj_Mem} : pj_Ends 91 (75, L, st, M) o9 = pj_Ends 91 (79, L, st, M) o9 := pj_xs (s91_75)
theorem q91_78 : pj_row 91 78 = some (.iconst 0, 1, 0, 0, 0) := by decide +kernel
theorem s91_78 {L : pj_Loc} {st : List Value} {M : pj_Mem}  : pj_step 91 (78, L, st, M) = some (79, L, .int 0 :: st, M) := st_iconst q91_78 (by decide +kernel)
theorem x91_78 {L : pj_Loc} {st : List Value} {M : pj_Mem}  {o9 : Option Value × pj_Mem} : pj_Ends 91 (78, L, st, M) o9 = pj_Ends 91 (79, L, .int 0 :: st, M) o9 := pj_xs (s91_78)
theorem q91_79 : pj_row 91 79 = some (.iadd, 1, 0, 0, 0) := by decide +kernel
theorem s91_79 {L : pj_Loc} {st : List Value} {M : pj_Mem} {x y : Int32} : pj_step 91 (79, L, .int y :: .int x :: st, M) = some (80, L, .int (x + y) :: st, M) := st_iadd q91_79
theorem x91_79 {L : pj_Loc} {st : List Value} {M : pj_Mem} {x y : Int32} {o9 : Option Value × pj_Mem} : pj_Ends 91 (79, L, .int y :: .int x :: st, M) o9 = pj_Ends 91 (80, L, .int (x + y) :: st, M) o9 := pj_xs (s91_79)
theorem q91_80 : pj_row 91 80 = some (.iastore, 1, 0, 0, 0) := by decide +kernel
theorem s91_80 {L : pj_Loc} {st : List Value} {N S : Nat} {H : pj_Heap} {o : Nat} {i x : Int32} : pj_step 91 (80, L, .int x :: .int i :: .ref o :: st, (N, S, H)) = pj_set 81 L st (N, S, H) o (pj_ars (H o) 0 i x) := st_iastore q91_80
theorem x91_80 {L : pj_Loc} {st : List Value} {N S : Nat} {H : pj_Heap} {o : Nat} {i x : Int32} {o9 : Option Value × pj_Mem} : pj_Ends 91 (80, L, .int x :: .int i :: .ref o :: st, (N, S, H)) o9 = pj_then 91 o9 (pj_set 81 L st (N, S, H) o (pj_ars (H o) 0 i x)) := pj_xt q91_80 rfl (pj_cl_nc rfl) (s91_80)
theorem q91_81 : pj_row 91 81 = some (.iinc 2 1, 3, 0, 0, 0) := by decide +kernel
theorem s91_81 {st : List Value} {M : pj_Mem} {l : pj_Loc} {a0 a1 : Option Value} {x : Int32} (h : pj_long a1 = false) : pj_step 91 (81, a0 :: a1 :: some (.int x) :: l, st, M) = some (84, a0 :: a1 :: some (.int (x + 1)) :: l, st, M) := st_iinc q91_81 rfl (congrArg (fun y => x + y) (show Int32.ofInt 1 = 1 by decide +kernel)) (pj_st_2 h)
theorem x91_81 {st : List Value} {M : pj_Mem} {l : pj_Loc} {a0 a1 : Option Value} {x : Int32} (h : pj_long a1 = false) {o9 : Option Value × pj_Mem} : pj_Ends 91 (81, a0 :: a1 :: some (.int x) :: l, st, M) o9 = pj_Ends 91 (84, a0 :: a1 :: some (.int (x + 1)) :: l, st, M) o9 := pj_xs (s91_81 h)
theorem q91_84 : pj_row 91 84 = some (.goto (-82), 3, 2, 0, 0) := by decide +kernel
theorem s91_84 {L : pj_Loc} {st : List Value} {M : pj_Mem}  : pj_step 91 (84, L, st, M) = some (2, L, st, M) := st_goto q91_84
theorem x91_84 {L : pj_Loc} {st : List Value} {M : pj_Mem}  {o9 : Option Value × pj_Mem} : pj_Ends 91 (84, L, st, M) o9 = pj_Ends 91 (2, L, st, M) o9 := pj_xs (s91_84)
theorem q91_87 : pj_row 91 87 = some (.return_, 1, 0, 0, 0) := by decide +kernel
theorem t91_87 {L : pj_Loc} {M : pj_Mem} : pj_Ends 91 (87, L, [], M) (none, M) := pj_Ends.ret q91_87 (pj_rtn_v rt91)
theorem rt92 : pj_rt 92 = none := rfl
theorem q92_0 : pj_row 92 0 = some (.iconst 0, 1, 0, 0, 0) := by decide +kernel
theorem s92_0 {L : pj_Loc} {st : List Value} {M : pj_Mem}  : pj_step 92 (0, L, st, M) = some (1, L, .int 0 :: st, M) := st_iconst q92_0 (by decide +kernel)
theorem x92_0 {L : pj_Loc} {st : List Value} {M : pj_Mem}  {o9 : Option Value × pj_Mem} : pj_Ends 92 (0, L, st, M) o9 = pj_Ends 92 (1, L, .int 0 :: st, M) o9 := pj_xs (s92_0)
theorem q92_1 : pj_row 92 1 = some (.istore_n 1, 1, 0, 0, 0) := by decide +kernel
theorem s92_1 {st : List Value} {M : pj_Mem} {l : pj_Loc} {a0 a1 : Option Value} {x : Int32} (h : pj_long a0 = false) : pj_step 92 (1, a0 :: a1 :: l, .int x :: st, M) = some (2, a0 :: some (.int x) :: l, st, M) := st_istore_n q92_1 (pj_st_1 h)
theorem x92_1 {st : List Value} {M : pj_Mem} {l : pj_Loc} {a0 a1 : Option Value} {x : Int32} (h : pj_long a0 = false) {o9 : Option Value × pj_Mem} : pj_Ends 92 (1, a0 :: a1 :: l, .int x :: st, M) o9 = pj_Ends 92 (2, a0 :: some (.int x) :: l, st, M) o9 := pj_xs (s92_1 h)
theorem q92_2 : pj_row 92 2 = some (.iload_n 1, 1, 0, 0, 0) := by decide +kernel
theorem s92_2 {st : List Value} {M : pj_Mem} {l : pj_Loc} {a0 : Option Value} {x : Int32} : pj_step 92 (2, a0 :: some (.int x) :: l, st, M) = some (3, a0 :: some (.int x) :: l, .int x :: st, M) := st_iload_n q92_2 rfl
theorem x92_2 {st : List Value} {M : pj_Mem} {l : pj_Loc} {a0 : Option Value} {x : Int32} {o9 : Option Value × pj_Mem} : pj_Ends 92 (2, a0 :: some (.int x) :: l, st, M) o9 = pj_Ends 92 (3, a0 :: some (.int x) :: l, .int x :: st, M) o9 := pj_xs (s92_2)
theorem q92_3 : pj_row 92 3 = some (.iconst 3, 1, 0, 0, 0) := by decide +kernel
theorem s92_3 {L : pj_Loc} {st : List Value} {M : pj_Mem}  : pj_step 92 (3, L, st, M) = some (4, L, .int 3 :: st, M) := st_iconst q92_3 (by decide +kernel)
theorem x92_3 {L : pj_Loc} {st : List Value} {M : pj_Mem}  {o9 : Option Value × pj_Mem} : pj_Ends 92 (3, L, st, M) o9 = pj_Ends 92 (4, L, .int 3 :: st, M) o9 := pj_xs (s92_3)
theorem q92_4 : pj_row 92 4 = some (.if_icmp .ge 57, 3, 61, 0, 0) := by decide +kernel
theorem s92_4 {L : pj_Loc} {st : List Value} {M : pj_Mem} {x y : Int32} : pj_step 92 (4, L, .int y :: .int x :: st, M) = some (if y ≤ x then 61 else 7, L, st, M) := st_icmp_ge q92_4
theorem x92_4 {L : pj_Loc} {st : List Value} {M : pj_Mem} {x y : Int32} {o9 : Option Value × pj_Mem} : pj_Ends 92 (4, L, .int y :: .int x :: st, M) o9 = pj_Ends 92 (if y ≤ x then 61 else 7, L, st, M) o9 := pj_xs (s92_4)
theorem q92_7 : pj_row 92 7 = some (.aload_n 0, 1, 0, 0, 0) := by decide +kernel
theorem s92_7 {st : List Value} {M : pj_Mem} {l : pj_Loc} {x : Nat} : pj_step 92 (7, some (.ref x) :: l, st, M) = some (8, some (.ref x) :: l, .ref x :: st, M) := st_aload_n q92_7 rfl
theorem x92_7 {st : List Value} {M : pj_Mem} {l : pj_Loc} {x : Nat} {o9 : Option Value × pj_Mem} : pj_Ends 92 (7, some (.ref x) :: l, st, M) o9 = pj_Ends 92 (8, some (.ref x) :: l, .ref x :: st, M) o9 := pj_xs (s92_7)
theorem q92_8 : pj_row 92 8 = some (.getfield 7, 3, 6, 0, 0) := by decide +kernel
theorem s92_8 {L : pj_Loc} {st : List Value} {N S : Nat} {H : pj_Heap} {o : Nat} : pj_step 92 (8, L, .ref o :: st, (N, S, H)) = pj_pv 11 L st (N, S, H) (pj_fld (H o) 6 0) := st_getfield q92_8
theorem x92_8 {L : pj_Loc} {st : List Value} {N S : Nat} {H : pj_Heap} {o : Nat} {o9 : Option Value × pj_Mem} : pj_Ends 92 (8, L, .ref o :: st, (N, S, H)) o9 = pj_then 92 o9 (pj_pv 11 L st (N, S, H) (pj_fld (H o) 6 0)) := pj_xt q92_8 rfl (pj_cl_nc rfl) (s92_8)
theorem q92_11 : pj_row 92 11 = some (.bipush 11, 2, 0, 0, 0) := by decide +kernel
theorem s92_11 {L : pj_Loc} {st : List Value} {M : pj_Mem}  : pj_step 92 (11, L, st, M) = some (13, L, .int 11 :: st, M) := st_bipush q92_11 (by decide +kernel)
theorem x92_11 {L : pj_Loc} {st : List Value} {M : pj_Mem}  {o9 : Option Value × pj_Mem} : pj_Ends 92 (11, L, st, M) o9 = pj_Ends 92 (13, L, .int 11 :: st, M) o9 := pj_xs (s92_11)
theorem q92_13 : pj_row 92 13 = some (.iload_n 1, 1, 0, 0, 0) := by decide +kernel
theorem s92_13 {st : List Value} {M : pj_Mem} {l : pj_Loc} {a0 : Option Value} {x : Int32} : pj_step 92 (13, a0 :: some (.int x) :: l, st, M) = some (14, a0 :: some (.int x) :: l, .int x :: st, M) := st_iload_n q92_13 rfl
theorem x92_13 {st : List Value} {M : pj_Mem} {l : pj_Loc} {a0 : Option Value} {x : Int32} {o9 : Option Value × pj_Mem} : pj_Ends 92 (13, a0 :: some (.int x) :: l, st, M) o9 = pj_Ends 92 (14, a0 :: some (.int x) :: l, .int x :: st, M) o9 := pj_xs (s92_13)
theorem q92_14 : pj_row 92 14 = some (.iadd, 1, 0, 0, 0) := by decide +kernel
theorem s92_14 {L : pj_Loc} {st : List Value} {M : pj_Mem} {x y : Int32} : pj_step 92 (14, L, .int y :: .int x :: st, M) = some (15, L, .int (x + y) :: st, M) := st_iadd q92_14
theorem x92_14 {L : pj_Loc} {st : List Value} {M : pj_Mem} {x y : Int32} {o9 : Option Value × pj_Mem} : pj_Ends 92 (14, L, .int y :: .int x :: st, M) o9 = pj_Ends 92 (15, L, .int (x + y) :: st, M) o9 := pj_xs (s92_14)
theorem q92_15 : pj_row 92 15 = some (.aload_n 0, 1, 0, 0, 0) := by decide +kernel
theorem s92_15 {st : List Value} {M : pj_Mem} {l : pj_Loc} {x : Nat} : pj_step 92 (15, some (.ref x) :: l, st, M) = some (16, some (.ref x) :: l, .ref x :: st, M) := st_aload_n q92_15 rfl
theorem x92_15 {st : List Value} {M : pj_Mem} {l : pj_Loc} {x : Nat} {o9 : Option Value × pj_Mem} : pj_Ends 92 (15, some (.ref x) :: l, st, M) o9 = pj_Ends 92 (16, some (.ref x) :: l, .ref x :: st, M) o9 := pj_xs (s92_15)
theorem q92_16 : pj_row 92 16 = some (.getfield 7, 3, 6, 0, 0) := by decide +kernel
theorem s92_16 {L : pj_Loc} {st : List Value} {N S : Nat} {H : pj_Heap} {o : Nat} : pj_step 92 (16, L, .ref o :: st, (N, S, H)) = pj_pv 19 L st (N, S, H) (pj_fld (H o) 6 0) := st_getfield q92_16
theorem x92_16 {L : pj_Loc} {st : List Value} {N S : Nat} {H : pj_Heap} {o : Nat} {o9 : Option Value × pj_Mem} : pj_Ends 92 (16, L, .ref o :: st, (N, S, H)) o9 = pj_then 92 o9 (pj_pv 19 L st (N, S, H) (pj_fld (H o) 6 0)) := pj_xt q92_16 rfl (pj_cl_nc rfl) (s92_16)
theorem q92_19 : pj_row 92 19 = some (.bipush 11, 2, 0, 0, 0) := by decide +kernel
theorem s92_19 {L : pj_Loc} {st : List Value} {M : pj_Mem}  : pj_step 92 (19, L, st, M) = some (21, L, .int 11 :: st, M) := st_bipush q92_19 (by decide +kernel)
theorem x92_19 {L : pj_Loc} {st : List Value} {M : pj_Mem}  {o9 : Option Value × pj_Mem} : pj_Ends 92 (19, L, st, M) o9 = pj_Ends 92 (21, L, .int 11 :: st, M) o9 := pj_xs (s92_19)
theorem q92_21 : pj_row 92 21 = some (.iload_n 1, 1, 0, 0, 0) := by decide +kernel
theorem s92_21 {st : List Value} {M : pj_Mem} {l : pj_Loc} {a0 : Option Value} {x : Int32} : pj_step 92 (21, a0 :: some (.int x) :: l, st, M) = some (22, a0 :: some (.int x) :: l, .int x :: st, M) := st_iload_n q92_21 rfl
theorem x92_21 {st : List Value} {M : pj_Mem} {l : pj_Loc} {a0 : Option Value} {x : Int32} {o9 : Option Value × pj_Mem} : pj_Ends 92 (21, a0 :: some (.int x) :: l, st, M) o9 = pj_Ends 92 (22, a0 :: some (.int x) :: l, .int x :: st, M) o9 := pj_xs (s92_21)
theorem q92_22 : pj_row 92 22 = some (.iadd, 1, 0, 0, 0) := by decide +kernel
theorem s92_22 {L : pj_Loc} {st : List Value} {M : pj_Mem} {x y : Int32} : pj_step 92 (22, L, .int y :: .int x :: st, M) = some (23, L, .int (x + y) :: st, M) := st_iadd q92_22
theorem x92_22 {L : pj_Loc} {st : List Value} {M : pj_Mem} {x y : Int32} {o9 : Option Value × pj_Mem} : pj_Ends 92 (22, L, .int y :: .int x :: st, M) o9 = pj_Ends 92 (23, L, .int (x + y) :: st, M) o9 := pj_xs (s92_22)
theorem q92_23 : pj_row 92 23 = some (.iaload, 1, 0, 0, 0) := by decide +kernel
theorem s92_23 {L : pj_Loc} {st : List Value} {N S : Nat} {H : pj_Heap} {o : Nat} {i : Int32} : pj_step 92 (23, L, .int i :: .ref o :: st, (N, S, H)) = pj_pi 24 L st (N, S, H) (pj_arl (H o) 0 i) := st_iaload q92_23
theorem x92_23 {L : pj_Loc} {st : List Value} {N S : Nat} {H : pj_Heap} {o : Nat} {i : Int32} {o9 : Option Value × pj_Mem} : pj_Ends 92 (23, L, .int i :: .ref o :: st, (N, S, H)) o9 = pj_then 92 o9 (pj_pi 24 L st (N, S, H) (pj_arl (H o) 0 i)) := pj_xt q92_23 rfl (pj_cl_nc rfl) (s92_23)
theorem q92_24 : pj_row 92 24 = some (.bipush 7, 2, 0, 0, 0) := by decide +kernel
theorem s92_24 {L : pj_Loc} {st : List Value} {M : pj_Mem}  : pj_step 92 (24, L, st, M) = some (26, L, .int 7 :: st, M) := st_bipush q92_24 (by decide +kernel)
theorem x92_24 {L : pj_Loc} {st : List Value} {M : pj_Mem}  {o9 : Option Value × pj_Mem} : pj_Ends 92 (24, L, st, M) o9 = pj_Ends 92 (26, L, .int 7 :: st, M) o9 := pj_xs (s92_24)
theorem q92_26 : pj_row 92 26 = some (.imul, 1, 0, 0, 0) := by decide +kernel
theorem s92_26 {L : pj_Loc} {st : List Value} {M : pj_Mem} {x y : Int32} : pj_step 92 (26, L, .int y :: .int x :: st, M) = some (27, L, .int (x * y) :: st, M) := st_imul q92_26
theorem x92_26 {L : pj_Loc} {st : List Value} {M : pj_Mem} {x y : Int32} {o9 : Option Value × pj_Mem} : pj_Ends 92 (26, L, .int y :: .int x :: st, M) o9 = pj_Ends 92 (27, L, .int (x * y) :: st, M) o9 := pj_xs (s92_26)
theorem q92_27 : pj_row 92 27 = some (.bipush 8, 2, 0, 0, 0) := by decide +kernel
theorem s92_27 {L : pj_Loc} {st : List Value} {M : pj_Mem}  : pj_step 92 (27, L, st, M) = some (29, L, .int 8 :: st, M) := st_bipush q92_27 (by decide +kernel)
theorem x92_27 {L : pj_Loc} {st : List Value} {M : pj_Mem}  {o9 : Option Value × pj_Mem} : pj_Ends 92 (27, L, st, M) o9 = pj_Ends 92 (29, L, .int 8 :: st, M) o9 := pj_xs (s92_27)
theorem q92_29 : pj_row 92 29 = some (.idiv, 1, 0, 0, 0) := by decide +kernel
theorem s92_29 {L : pj_Loc} {st : List Value} {M : pj_Mem} {x y : Int32} (hy : ¬ y = 0) : pj_step 92 (29, L, .int y :: .int x :: st, M) = some (30, L, .int (x / y) :: st, M) := st_idiv q92_29 hy
theorem x92_29 {L : pj_Loc} {st : List Value} {M : pj_Mem} {x y : Int32} (hy : ¬ y = 0) {o9 : Option Value × pj_Mem} : pj_Ends 92 (29, L, .int y :: .int x :: st, M) o9 = pj_Ends 92 (30, L, .int (x / y) :: st, M) o9 := pj_xs (s92_29 hy)
theorem q92_30 : pj_row 92 30 = some (.aload_n 0, 1, 0, 0, 0) := by decide +kernel
theorem s92_30 {st : List Value} {M : pj_Mem} {l : pj_Loc} {x : Nat} : pj_step 92 (30, some (.ref x) :: l, st, M) = some (31, some (.ref x) :: l, .ref x :: st, M) := st_aload_n q92_30 rfl
theorem x92_30 {st : List Value} {M : pj_Mem} {l : pj_Loc} {x : Nat} {o9 : Option Value × pj_Mem} : pj_Ends 92 (30, some (.ref x) :: l, st, M) o9 = pj_Ends 92 (31, some (.ref x) :: l, .ref x :: st, M) o9 := pj_xs (s92_30)
theorem q92_31 : pj_row 92 31 = some (.getfield 28, 3, 6, 7, 0) := by decide +kernel
theorem s92_31 {L : pj_Loc} {st : List Value} {N S : Nat} {H : pj_Heap} {o : Nat} : pj_step 92 (31, L, .ref o :: st, (N, S, H)) = pj_pv 34 L st (N, S, H) (pj_fld (H o) 6 7) := st_getfield q92_31
theorem x92_31 {L : pj_Loc} {st : List Value} {N S : Nat} {H : pj_Heap} {o : Nat} {o9 : Option Value × pj_Mem} : pj_Ends 92 (31, L, .ref o :: st, (N, S, H)) o9 = pj_then 92 o9 (pj_pv 34 L st (N, S, H) (pj_fld (H o) 6 7)) := pj_xt q92_31 rfl (pj_cl_nc rfl) (s92_31)
theorem q92_34 : pj_row 92 34 = some (.iload_n 1, 1, 0, 0, 0) := by decide +kernel
theorem s92_34 {st : List Value} {M : pj_Mem} {l : pj_Loc} {a0 : Option Value} {x : Int32} : pj_step 92 (34, a0 :: some (.int x) :: l, st, M) = some (35, a0 :: some (.int x) :: l, .int x :: st, M) := st_iload_n q92_34 rfl
theorem x92_34 {st : List Value} {M : pj_Mem} {l : pj_Loc} {a0 : Option Value} {x : Int32} {o9 : Option Value × pj_Mem} : pj_Ends 92 (34, a0 :: some (.int x) :: l, st, M) o9 = pj_Ends 92 (35, a0 :: some (.int x) :: l, .int x :: st, M) o9 := pj_xs (s92_34)
theorem q92_35 : pj_row 92 35 = some (.iaload, 1, 0, 0, 0) := by decide +kernel
theorem s92_35 {L : pj_Loc} {st : List Value} {N S : Nat} {H : pj_Heap} {o : Nat} {i : Int32} : pj_step 92 (35, L, .int i :: .ref o :: st, (N, S, H)) = pj_pi 36 L st (N, S, H) (pj_arl (H o) 0 i) := st_iaload q92_35
theorem x92_35 {L : pj_Loc} {st : List Value} {N S : Nat} {H : pj_Heap} {o : Nat} {i : Int32} {o9 : Option Value × pj_Mem} : pj_Ends 92 (35, L, .int i :: .ref o :: st, (N, S, H)) o9 = pj_then 92 o9 (pj_pi 36 L st (N, S, H) (pj_arl (H o) 0 i)) := pj_xt q92_35 rfl (pj_cl_nc rfl) (s92_35)
theorem q92_36 : pj_row 92 36 = some (.invokestatic 62, 3, 90, 1, 0) := by decide +kernel
theorem e92_36 {L : pj_Loc} {st : List Value} {N S : Nat} {H : pj_Heap} {o : Option Value × pj_Mem} {M' : pj_Mem} {x0 : Int32} {r : Int32} (h4 : pj_le4 st = true) (h1 : pj_Ends 90 (0, [some (.int x0)], [], (N, S, H)) (some (.int r), M')) (h2 : pj_Ends 92 (39, L, .int r :: st, M') o) : pj_Ends 92 (36, L, .int x0 :: st, (N, S, H)) o := ec_s1 q92_36 (Or.inl rfl) h4 rfl h1 h2
theorem q92_39 : pj_row 92 39 = some (.iconst 4, 1, 0, 0, 0) := by decide +kernel
theorem s92_39 {L : pj_Loc} {st : List Value} {M : pj_Mem}  : pj_step 92 (39, L, st, M) = some (40, L, .int 4 :: st, M) := st_iconst q92_39 (by decide +kernel)
theorem x92_39 {L : pj_Loc} {st : List Value} {M : pj_Mem}  {o9 : Option Value × pj_Mem} : pj_Ends 92 (39, L, st, M) o9 = pj_Ends 92 (40, L, .int 4 :: st, M) o9 := pj_xs (s92_39)
theorem q92_40 : pj_row 92 40 = some (.if_icmp .le 12, 3, 52, 0, 0) := by decide +kernel
theorem s92_40 {L : pj_Loc} {st : List Value} {M : pj_Mem} {x y : Int32} : pj_step 92 (40, L, .int y :: .int x :: st, M) = some (if x ≤ y then 52 else 43, L, st, M) := st_icmp_le q92_40
theorem x92_40 {L : pj_Loc} {st : List Value} {M : pj_Mem} {x y : Int32} {o9 : Option Value × pj_Mem} : pj_Ends 92 (40, L, .int y :: .int x :: st, M) o9 = pj_Ends 92 (if x ≤ y then 52 else 43, L, st, M) o9 := pj_xs (s92_40)
theorem q92_43 : pj_row 92 43 = some (.aload_n 0, 1, 0, 0, 0) := by decide +kernel
theorem s92_43 {st : List Value} {M : pj_Mem} {l : pj_Loc} {x : Nat} : pj_step 92 (43, some (.ref x) :: l, st, M) = some (44, some (.ref x) :: l, .ref x :: st, M) := st_aload_n q92_43 rfl
theorem x92_43 {st : List Value} {M : pj_Mem} {l : pj_Loc} {x : Nat} {o9 : Option Value × pj_Mem} : pj_Ends 92 (43, some (.ref x) :: l, st, M) o9 = pj_Ends 92 (44, some (.ref x) :: l, .ref x :: st, M) o9 := pj_xs (s92_43)
theorem q92_44 : pj_row 92 44 = some (.getfield 28, 3, 6, 7, 0) := by decide +kernel
theorem s92_44 {L : pj_Loc} {st : List Value} {N S : Nat} {H : pj_Heap} {o : Nat} : pj_step 92 (44, L, .ref o :: st, (N, S, H)) = pj_pv 47 L st (N, S, H) (pj_fld (H o) 6 7) := st_getfield q92_44
theorem x92_44 {L : pj_Loc} {st : List Value} {N S : Nat} {H : pj_Heap} {o : Nat} {o9 : Option Value × pj_Mem} : pj_Ends 92 (44, L, .ref o :: st, (N, S, H)) o9 = pj_then 92 o9 (pj_pv 47 L st (N, S, H) (pj_fld (H o) 6 7)) := pj_xt q92_44 rfl (pj_cl_nc rfl) (s92_44)
theorem q92_47 : pj_row 92 47 = some (.iload_n 1, 1, 0, 0, 0) := by decide +kernel
theorem s92_47 {st : List Value} {M : pj_Mem} {l : pj_Loc} {a0 : Option Value} {x : Int32} : pj_step 92 (47, a0 :: some (.int x) :: l, st, M) = some (48, a0 :: some (.int x) :: l, .int x :: st, M) := st_iload_n q92_47 rfl
theorem x92_47 {st : List Value} {M : pj_Mem} {l : pj_Loc} {a0 : Option Value} {x : Int32} {o9 : Option Value × pj_Mem} : pj_Ends 92 (47, a0 :: some (.int x) :: l, st, M) o9 = pj_Ends 92 (48, a0 :: some (.int x) :: l, .int x :: st, M) o9 := pj_xs (s92_47)
theorem q92_48 : pj_row 92 48 = some (.iaload, 1, 0, 0, 0) := by decide +kernel
theorem s92_48 {L : pj_Loc} {st : List Value} {N S : Nat} {H : pj_Heap} {o : Nat} {i : Int32} : pj_step 92 (48, L, .int i :: .ref o :: st, (N, S, H)) = pj_pi 49 L st (N, S, H) (pj_arl (H o) 0 i) := st_iaload q92_48
theorem x92_48 {L : pj_Loc} {st : List Value} {N S : Nat} {H : pj_Heap} {o : Nat} {i : Int32} {o9 : Option Value × pj_Mem} : pj_Ends 92 (48, L, .int i :: .ref o :: st, (N, S, H)) o9 = pj_then 92 o9 (pj_pi 49 L st (N, S, H) (pj_arl (H o) 0 i)) := pj_xt q92_48 rfl (pj_cl_nc rfl) (s92_48)
theorem q92_49 : pj_row 92 49 = some (.goto 4, 3, 53, 0, 0) := by decide +kernel
theorem s92_49 {L : pj_Loc} {st : List Value} {M : pj_Mem}  : pj_step 92 (49, L, st, M) = some (53, L, st, M) := st_goto q92_49
theorem x92_49 {L : pj_Loc} {st : List Value} {M : pj_Mem}  {o9 : Option Value × pj_Mem} : pj_Ends 92 (49, L, st, M) o9 = pj_Ends 92 (53, L, st, M) o9 := pj_xs (s92_49)
theorem q92_52 : pj_row 92 52 = some (.iconst 0, 1, 0, 0, 0) := by decide +kernel
theorem s92_52 {L : pj_Loc} {st : List Value} {M : pj_Mem}  : pj_step 92 (52, L, st, M) = some (53, L, .int 0 :: st, M) := st_iconst q92_52 (by decide +kernel)
theorem x92_52 {L : pj_Loc} {st : List Value} {M : pj_Mem}  {o9 : Option Value × pj_Mem} : pj_Ends 92 (52, L, st, M) o9 = pj_Ends 92 (53, L, .int 0 :: st, M) o9 := pj_xs (s92_52)
theorem q92_53 : pj_row 92 53 = some (.iadd, 1, 0, 0, 0) := by decide +kernel
theorem s92_53 {L : pj_Loc} {st : List Value} {M : pj_Mem} {x y : Int32} : pj_step 92 (53, L, .int y :: .int x :: st, M) = some (54, L, .int (x + y) :: st, M) := st_iadd q92_53
theorem x92_53 {L : pj_Loc} {st : List Value} {M : pj_Mem} {x y : Int32} {o9 : Option Value × pj_Mem} : pj_Ends 92 (53, L, .int y :: .int x :: st, M) o9 = pj_Ends 92 (54, L, .int (x + y) :: st, M) o9 := pj_xs (s92_53)
theorem q92_54 : pj_row 92 54 = some (.iastore, 1, 0, 0, 0) := by decide +kernel
theorem s92_54 {L : pj_Loc} {st : List Value} {N S : Nat} {H : pj_Heap} {o : Nat} {i x : Int32} : pj_step 92 (54, L, .int x :: .int i :: .ref o :: st, (N, S, H)) = pj_set 55 L st (N, S, H) o (pj_ars (H o) 0 i x) := st_iastore q92_54
theorem x92_54 {L : pj_Loc} {st : List Value} {N S : Nat} {H : pj_Heap} {o : Nat} {i x : Int32} {o9 : Option Value × pj_Mem} : pj_Ends 92 (54, L, .int x :: .int i :: .ref o :: st, (N, S, H)) o9 = pj_then 92 o9 (pj_set 55 L st (N, S, H) o (pj_ars (H o) 0 i x)) := pj_xt q92_54 rfl (pj_cl_nc rfl) (s92_54)
theorem q92_55 : pj_row 92 55 = some (.iinc 1 1, 3, 0, 0, 0) := by decide +kernel
theorem s92_55 {st : List Value} {M : pj_Mem} {l : pj_Loc} {a0 : Option Value} {x : Int32} (h : pj_long a0 = false) : pj_step 92 (55, a0 :: some (.int x) :: l, st, M) = some (58, a0 :: some (.int (x + 1)) :: l, st, M) := st_iinc q92_55 rfl (congrArg (fun y => x + y) (show Int32.ofInt 1 = 1 by decide +kernel)) (pj_st_1 h)
theorem x92_55 {st : List Value} {M : pj_Mem} {l : pj_Loc} {a0 : Option Value} {x : Int32} (h : pj_long a0 = false) {o9 : Option Value × pj_Mem} : pj_Ends 92 (55, a0 :: some (.int x) :: l, st, M) o9 = pj_Ends 92 (58, a0 :: some (.int (x + 1)) :: l, st, M) o9 := pj_xs (s92_55 h)
theorem q92_58 : pj_row 92 58 = some (.goto (-56), 3, 2, 0, 0) := by decide +kernel
theorem s92_58 {L : pj_Loc} {st : List Value} {M : pj_Mem}  : pj_step 92 (58, L, st, M) = some (2, L, st, M) := st_goto q92_58
theorem x92_58 {L : pj_Loc} {st : List Value} {M : pj_Mem}  {o9 : Option Value × pj_Mem} : pj_Ends 92 (58, L, st, M) o9 = pj_Ends 92 (2, L, st, M) o9 := pj_xs (s92_58)
theorem q92_61 : pj_row 92 61 = some (.return_, 1, 0, 0, 0) := by decide +kernel
theorem t92_61 {L : pj_Loc} {M : pj_Mem} : pj_Ends 92 (61, L, [], M) (none, M) := pj_Ends.ret q92_61 (pj_rtn_v rt92)
theorem rt93 : pj_rt 93 = some .int := rfl
theorem q93_0 : pj_row 93 0 = some (.iconst 0, 1, 0, 0, 0) := by decide +kernel
theorem s93_0 {L : pj_Loc} {st : List Value} {M : pj_Mem}  : pj_step 93 (0, L, st, M) = some (1, L, .int 0 :: st, M) := st_iconst q93_0 (by decide +kernel)
theorem x93_0 {L : pj_Loc} {st : List Value} {M : pj_Mem}  {o9 : Option Value × pj_Mem} : pj_Ends 93 (0, L, st, M) o9 = pj_Ends 93 (1, L, .int 0 :: st, M) o9 := pj_xs (s93_0)
theorem q93_1 : pj_row 93 1 = some (.istore_n 2, 1, 0, 0, 0) := by decide +kernel
theorem s93_1 {st : List Value} {M : pj_Mem} {l : pj_Loc} {a0 a1 a2 : Option Value} {x : Int32} (h : pj_long a1 = false) : pj_step 93 (1, a0 :: a1 :: a2 :: l, .int x :: st, M) = some (2, a0 :: a1 :: some (.int x) :: l, st, M) := st_istore_n q93_1 (pj_st_2 h)
theorem x93_1 {st : List Value} {M : pj_Mem} {l : pj_Loc} {a0 a1 a2 : Option Value} {x : Int32} (h : pj_long a1 = false) {o9 : Option Value × pj_Mem} : pj_Ends 93 (1, a0 :: a1 :: a2 :: l, .int x :: st, M) o9 = pj_Ends 93 (2, a0 :: a1 :: some (.int x) :: l, st, M) o9 := pj_xs (s93_1 h)
theorem q93_2 : pj_row 93 2 = some (.iconst 0, 1, 0, 0, 0) := by decide +kernel
theorem s93_2 {L : pj_Loc} {st : List Value} {M : pj_Mem}  : pj_step 93 (2, L, st, M) = some (3, L, .int 0 :: st, M) := st_iconst q93_2 (by decide +kernel)
theorem x93_2 {L : pj_Loc} {st : List Value} {M : pj_Mem}  {o9 : Option Value × pj_Mem} : pj_Ends 93 (2, L, st, M) o9 = pj_Ends 93 (3, L, .int 0 :: st, M) o9 := pj_xs (s93_2)
theorem q93_3 : pj_row 93 3 = some (.istore_n 3, 1, 0, 0, 0) := by decide +kernel
theorem s93_3 {st : List Value} {M : pj_Mem} {l : pj_Loc} {a0 a1 a2 a3 : Option Value} {x : Int32} (h : pj_long a2 = false) : pj_step 93 (3, a0 :: a1 :: a2 :: a3 :: l, .int x :: st, M) = some (4, a0 :: a1 :: a2 :: some (.int x) :: l, st, M) := st_istore_n q93_3 (pj_st_3 h)
theorem x93_3 {st : List Value} {M : pj_Mem} {l : pj_Loc} {a0 a1 a2 a3 : Option Value} {x : Int32} (h : pj_long a2 = false) {o9 : Option Value × pj_Mem} : pj_Ends 93 (3, a0 :: a1 :: a2 :: a3 :: l, .int x :: st, M) o9 = pj_Ends 93 (4, a0 :: a1 :: a2 :: some (.int x) :: l, st, M) o9 := pj_xs (s93_3 h)
theorem q93_4 : pj_row 93 4 = some (.iload_n 3, 1, 0, 0, 0) := by decide +kernel
theorem s93_4 {st : List Value} {M : pj_Mem} {l : pj_Loc} {a0 a1 a2 : Option Value} {x : Int32} : pj_step 93 (4, a0 :: a1 :: a2 :: some (.int x) :: l, st, M) = some (5, a0 :: a1 :: a2 :: some (.int x) :: l, .int x :: st, M) := st_iload_n q93_4 rfl
theorem x93_4 {st : List Value} {M : pj_Mem} {l : pj_Loc} {a0 a1 a2 : Option Value} {x : Int32} {o9 : Option Value × pj_Mem} : pj_Ends 93 (4, a0 :: a1 :: a2 :: some (.int x) :: l, st, M) o9 = pj_Ends 93 (5, a0 :: a1 :: a2 :: some (.int x) :: l, .int x :: st, M) o9 := pj_xs (s93_4)
theorem q93_5 : pj_row 93 5 = some (.iconst 3, 1, 0, 0, 0) := by decide +kernel
theorem s93_5 {L : pj_Loc} {st : List Value} {M : pj_Mem}  : pj_step 93 (5, L, st, M) = some (6, L, .int 3 :: st, M) := st_iconst q93_5 (by decide +kernel)
theorem x93_5 {L : pj_Loc} {st : List Value} {M : pj_Mem}  {o9 : Option Value × pj_Mem} : pj_Ends 93 (5, L, st, M) o9 = pj_Ends 93 (6, L, .int 3 :: st, M) o9 := pj_xs (s93_5)
theorem q93_6 : pj_row 93 6 = some (.if_icmp .ge 45, 3, 51, 0, 0) := by decide +kernel
theorem s93_6 {L : pj_Loc} {st : List Value} {M : pj_Mem} {x y : Int32} : pj_step 93 (6, L, .int y :: .int x :: st, M) = some (if y ≤ x then 51 else 9, L, st, M) := st_icmp_ge q93_6
theorem x93_6 {L : pj_Loc} {st : List Value} {M : pj_Mem} {x y : Int32} {o9 : Option Value × pj_Mem} : pj_Ends 93 (6, L, .int y :: .int x :: st, M) o9 = pj_Ends 93 (if y ≤ x then 51 else 9, L, st, M) o9 := pj_xs (s93_6)
theorem q93_9 : pj_row 93 9 = some (.iload_n 2, 1, 0, 0, 0) := by decide +kernel
theorem s93_9 {st : List Value} {M : pj_Mem} {l : pj_Loc} {a0 a1 : Option Value} {x : Int32} : pj_step 93 (9, a0 :: a1 :: some (.int x) :: l, st, M) = some (10, a0 :: a1 :: some (.int x) :: l, .int x :: st, M) := st_iload_n q93_9 rfl
theorem x93_9 {st : List Value} {M : pj_Mem} {l : pj_Loc} {a0 a1 : Option Value} {x : Int32} {o9 : Option Value × pj_Mem} : pj_Ends 93 (9, a0 :: a1 :: some (.int x) :: l, st, M) o9 = pj_Ends 93 (10, a0 :: a1 :: some (.int x) :: l, .int x :: st, M) o9 := pj_xs (s93_9)
theorem q93_10 : pj_row 93 10 = some (.aload_n 0, 1, 0, 0, 0) := by decide +kernel
theorem s93_10 {st : List Value} {M : pj_Mem} {l : pj_Loc} {x : Nat} : pj_step 93 (10, some (.ref x) :: l, st, M) = some (11, some (.ref x) :: l, .ref x :: st, M) := st_aload_n q93_10 rfl
theorem x93_10 {st : List Value} {M : pj_Mem} {l : pj_Loc} {x : Nat} {o9 : Option Value × pj_Mem} : pj_Ends 93 (10, some (.ref x) :: l, st, M) o9 = pj_Ends 93 (11, some (.ref x) :: l, .ref x :: st, M) o9 := pj_xs (s93_10)
theorem q93_11 : pj_row 93 11 = some (.getfield 7, 3, 6, 0, 0) := by decide +kernel
theorem s93_11 {L : pj_Loc} {st : List Value} {N S : Nat} {H : pj_Heap} {o : Nat} : pj_step 93 (11, L, .ref o :: st, (N, S, H)) = pj_pv 14 L st (N, S, H) (pj_fld (H o) 6 0) := st_getfield q93_11
theorem x93_11 {L : pj_Loc} {st : List Value} {N S : Nat} {H : pj_Heap} {o : Nat} {o9 : Option Value × pj_Mem} : pj_Ends 93 (11, L, .ref o :: st, (N, S, H)) o9 = pj_then 93 o9 (pj_pv 14 L st (N, S, H) (pj_fld (H o) 6 0)) := pj_xt q93_11 rfl (pj_cl_nc rfl) (s93_11)
theorem q93_14 : pj_row 93 14 = some (.bipush 14, 2, 0, 0, 0) := by decide +kernel
theorem s93_14 {L : pj_Loc} {st : List Value} {M : pj_Mem}  : pj_step 93 (14, L, st, M) = some (16, L, .int 14 :: st, M) := st_bipush q93_14 (by decide +kernel)
theorem x93_14 {L : pj_Loc} {st : List Value} {M : pj_Mem}  {o9 : Option Value × pj_Mem} : pj_Ends 93 (14, L, st, M) o9 = pj_Ends 93 (16, L, .int 14 :: st, M) o9 := pj_xs (s93_14)
theorem q93_16 : pj_row 93 16 = some (.iload_n 3, 1, 0, 0, 0) := by decide +kernel
theorem s93_16 {st : List Value} {M : pj_Mem} {l : pj_Loc} {a0 a1 a2 : Option Value} {x : Int32} : pj_step 93 (16, a0 :: a1 :: a2 :: some (.int x) :: l, st, M) = some (17, a0 :: a1 :: a2 :: some (.int x) :: l, .int x :: st, M) := st_iload_n q93_16 rfl
theorem x93_16 {st : List Value} {M : pj_Mem} {l : pj_Loc} {a0 a1 a2 : Option Value} {x : Int32} {o9 : Option Value × pj_Mem} : pj_Ends 93 (16, a0 :: a1 :: a2 :: some (.int x) :: l, st, M) o9 = pj_Ends 93 (17, a0 :: a1 :: a2 :: some (.int x) :: l, .int x :: st, M) o9 := pj_xs (s93_16)
theorem q93_17 : pj_row 93 17 = some (.iadd, 1, 0, 0, 0) := by decide +kernel
theorem s93_17 {L : pj_Loc} {st : List Value} {M : pj_Mem} {x y : Int32} : pj_step 93 (17, L, .int y :: .int x :: st, M) = some (18, L, .int (x + y) :: st, M) := st_iadd q93_17
theorem x93_17 {L : pj_Loc} {st : List Value} {M : pj_Mem} {x y : Int32} {o9 : Option Value × pj_Mem} : pj_Ends 93 (17, L, .int y :: .int x :: st, M) o9 = pj_Ends 93 (18, L, .int (x + y) :: st, M) o9 := pj_xs (s93_17)
theorem q93_18 : pj_row 93 18 = some (.iaload, 1, 0, 0, 0) := by decide +kernel
theorem s93_18 {L : pj_Loc} {st : List Value} {N S : Nat} {H : pj_Heap} {o : Nat} {i : Int32} : pj_step 93 (18, L, .int i :: .ref o :: st, (N, S, H)) = pj_pi 19 L st (N, S, H) (pj_arl (H o) 0 i) := st_iaload q93_18
theorem x93_18 {L : pj_Loc} {st : List Value} {N S : Nat} {H : pj_Heap} {o : Nat} {i : Int32} {o9 : Option Value × pj_Mem} : pj_Ends 93 (18, L, .int i :: .ref o :: st, (N, S, H)) o9 = pj_then 93 o9 (pj_pi 19 L st (N, S, H) (pj_arl (H o) 0 i)) := pj_xt q93_18 rfl (pj_cl_nc rfl) (s93_18)
theorem q93_19 : pj_row 93 19 = some (.iconst 1, 1, 0, 0, 0) := by decide +kernel
theorem s93_19 {L : pj_Loc} {st : List Value} {M : pj_Mem}  : pj_step 93 (19, L, st, M) = some (20, L, .int 1 :: st, M) := st_iconst q93_19 (by decide +kernel)
theorem x93_19 {L : pj_Loc} {st : List Value} {M : pj_Mem}  {o9 : Option Value × pj_Mem} : pj_Ends 93 (19, L, st, M) o9 = pj_Ends 93 (20, L, .int 1 :: st, M) o9 := pj_xs (s93_19)
theorem q93_20 : pj_row 93 20 = some (.if_icmp .ne 22, 3, 42, 0, 0) := by decide +kernel
theorem s93_20 {L : pj_Loc} {st : List Value} {M : pj_Mem} {x y : Int32} : pj_step 93 (20, L, .int y :: .int x :: st, M) = some (if ¬ x = y then 42 else 23, L, st, M) := st_icmp_ne q93_20
theorem x93_20 {L : pj_Loc} {st : List Value} {M : pj_Mem} {x y : Int32} {o9 : Option Value × pj_Mem} : pj_Ends 93 (20, L, .int y :: .int x :: st, M) o9 = pj_Ends 93 (if ¬ x = y then 42 else 23, L, st, M) o9 := pj_xs (s93_20)
theorem q93_23 : pj_row 93 23 = some (.aload_n 0, 1, 0, 0, 0) := by decide +kernel
theorem s93_23 {st : List Value} {M : pj_Mem} {l : pj_Loc} {x : Nat} : pj_step 93 (23, some (.ref x) :: l, st, M) = some (24, some (.ref x) :: l, .ref x :: st, M) := st_aload_n q93_23 rfl
theorem x93_23 {st : List Value} {M : pj_Mem} {l : pj_Loc} {x : Nat} {o9 : Option Value × pj_Mem} : pj_Ends 93 (23, some (.ref x) :: l, st, M) o9 = pj_Ends 93 (24, some (.ref x) :: l, .ref x :: st, M) o9 := pj_xs (s93_23)
theorem q93_24 : pj_row 93 24 = some (.getfield 7, 3, 6, 0, 0) := by decide +kernel
theorem s93_24 {L : pj_Loc} {st : List Value} {N S : Nat} {H : pj_Heap} {o : Nat} : pj_step 93 (24, L, .ref o :: st, (N, S, H)) = pj_pv 27 L st (N, S, H) (pj_fld (H o) 6 0) := st_getfield q93_24
theorem x93_24 {L : pj_Loc} {st : List Value} {N S : Nat} {H : pj_Heap} {o : Nat} {o9 : Option Value × pj_Mem} : pj_Ends 93 (24, L, .ref o :: st, (N, S, H)) o9 = pj_then 93 o9 (pj_pv 27 L st (N, S, H) (pj_fld (H o) 6 0)) := pj_xt q93_24 rfl (pj_cl_nc rfl) (s93_24)
theorem q93_27 : pj_row 93 27 = some (.bipush 11, 2, 0, 0, 0) := by decide +kernel
theorem s93_27 {L : pj_Loc} {st : List Value} {M : pj_Mem}  : pj_step 93 (27, L, st, M) = some (29, L, .int 11 :: st, M) := st_bipush q93_27 (by decide +kernel)
theorem x93_27 {L : pj_Loc} {st : List Value} {M : pj_Mem}  {o9 : Option Value × pj_Mem} : pj_Ends 93 (27, L, st, M) o9 = pj_Ends 93 (29, L, .int 11 :: st, M) o9 := pj_xs (s93_27)
theorem q93_29 : pj_row 93 29 = some (.iload_n 3, 1, 0, 0, 0) := by decide +kernel
theorem s93_29 {st : List Value} {M : pj_Mem} {l : pj_Loc} {a0 a1 a2 : Option Value} {x : Int32} : pj_step 93 (29, a0 :: a1 :: a2 :: some (.int x) :: l, st, M) = some (30, a0 :: a1 :: a2 :: some (.int x) :: l, .int x :: st, M) := st_iload_n q93_29 rfl
theorem x93_29 {st : List Value} {M : pj_Mem} {l : pj_Loc} {a0 a1 a2 : Option Value} {x : Int32} {o9 : Option Value × pj_Mem} : pj_Ends 93 (29, a0 :: a1 :: a2 :: some (.int x) :: l, st, M) o9 = pj_Ends 93 (30, a0 :: a1 :: a2 :: some (.int x) :: l, .int x :: st, M) o9 := pj_xs (s93_29)
theorem q93_30 : pj_row 93 30 = some (.iadd, 1, 0, 0, 0) := by decide +kernel
theorem s93_30 {L : pj_Loc} {st : List Value} {M : pj_Mem} {x y : Int32} : pj_step 93 (30, L, .int y :: .int x :: st, M) = some (31, L, .int (x + y) :: st, M) := st_iadd q93_30
theorem x93_30 {L : pj_Loc} {st : List Value} {M : pj_Mem} {x y : Int32} {o9 : Option Value × pj_Mem} : pj_Ends 93 (30, L, .int y :: .int x :: st, M) o9 = pj_Ends 93 (31, L, .int (x + y) :: st, M) o9 := pj_xs (s93_30)
theorem q93_31 : pj_row 93 31 = some (.iaload, 1, 0, 0, 0) := by decide +kernel
theorem s93_31 {L : pj_Loc} {st : List Value} {N S : Nat} {H : pj_Heap} {o : Nat} {i : Int32} : pj_step 93 (31, L, .int i :: .ref o :: st, (N, S, H)) = pj_pi 32 L st (N, S, H) (pj_arl (H o) 0 i) := st_iaload q93_31
theorem x93_31 {L : pj_Loc} {st : List Value} {N S : Nat} {H : pj_Heap} {o : Nat} {i : Int32} {o9 : Option Value × pj_Mem} : pj_Ends 93 (31, L, .int i :: .ref o :: st, (N, S, H)) o9 = pj_then 93 o9 (pj_pi 32 L st (N, S, H) (pj_arl (H o) 0 i)) := pj_xt q93_31 rfl (pj_cl_nc rfl) (s93_31)
theorem q93_32 : pj_row 93 32 = some (.iload_n 1, 1, 0, 0, 0) := by decide +kernel
theorem s93_32 {st : List Value} {M : pj_Mem} {l : pj_Loc} {a0 : Option Value} {x : Int32} : pj_step 93 (32, a0 :: some (.int x) :: l, st, M) = some (33, a0 :: some (.int x) :: l, .int x :: st, M) := st_iload_n q93_32 rfl
theorem x93_32 {st : List Value} {M : pj_Mem} {l : pj_Loc} {a0 : Option Value} {x : Int32} {o9 : Option Value × pj_Mem} : pj_Ends 93 (32, a0 :: some (.int x) :: l, st, M) o9 = pj_Ends 93 (33, a0 :: some (.int x) :: l, .int x :: st, M) o9 := pj_xs (s93_32)
theorem q93_33 : pj_row 93 33 = some (.if_icmp .lt 9, 3, 42, 0, 0) := by decide +kernel
theorem s93_33 {L : pj_Loc} {st : List Value} {M : pj_Mem} {x y : Int32} : pj_step 93 (33, L, .int y :: .int x :: st, M) = some (if x < y then 42 else 36, L, st, M) := st_icmp_lt q93_33
theorem x93_33 {L : pj_Loc} {st : List Value} {M : pj_Mem} {x y : Int32} {o9 : Option Value × pj_Mem} : pj_Ends 93 (33, L, .int y :: .int x :: st, M) o9 = pj_Ends 93 (if x < y then 42 else 36, L, st, M) o9 := pj_xs (s93_33)
theorem q93_36 : pj_row 93 36 = some (.iconst 1, 1, 0, 0, 0) := by decide +kernel
theorem s93_36 {L : pj_Loc} {st : List Value} {M : pj_Mem}  : pj_step 93 (36, L, st, M) = some (37, L, .int 1 :: st, M) := st_iconst q93_36 (by decide +kernel)
theorem x93_36 {L : pj_Loc} {st : List Value} {M : pj_Mem}  {o9 : Option Value × pj_Mem} : pj_Ends 93 (36, L, st, M) o9 = pj_Ends 93 (37, L, .int 1 :: st, M) o9 := pj_xs (s93_36)
theorem q93_37 : pj_row 93 37 = some (.iload_n 3, 1, 0, 0, 0) := by decide +kernel
theorem s93_37 {st : List Value} {M : pj_Mem} {l : pj_Loc} {a0 a1 a2 : Option Value} {x : Int32} : pj_step 93 (37, a0 :: a1 :: a2 :: some (.int x) :: l, st, M) = some (38, a0 :: a1 :: a2 :: some (.int x) :: l, .int x :: st, M) := st_iload_n q93_37 rfl
theorem x93_37 {st : List Value} {M : pj_Mem} {l : pj_Loc} {a0 a1 a2 : Option Value} {x : Int32} {o9 : Option Value × pj_Mem} : pj_Ends 93 (37, a0 :: a1 :: a2 :: some (.int x) :: l, st, M) o9 = pj_Ends 93 (38, a0 :: a1 :: a2 :: some (.int x) :: l, .int x :: st, M) o9 := pj_xs (s93_37)
theorem q93_38 : pj_row 93 38 = some (.ishl, 1, 0, 0, 0) := by decide +kernel
theorem s93_38 {L : pj_Loc} {st : List Value} {M : pj_Mem} {x y : Int32} : pj_step 93 (38, L, .int y :: .int x :: st, M) = some (39, L, .int (x <<< (y &&& 31)) :: st, M) := st_ishl q93_38
theorem x93_38 {L : pj_Loc} {st : List Value} {M : pj_Mem} {x y : Int32} {o9 : Option Value × pj_Mem} : pj_Ends 93 (38, L, .int y :: .int x :: st, M) o9 = pj_Ends 93 (39, L, .int (x <<< (y &&& 31)) :: st, M) o9 := pj_xs (s93_38)
theorem q93_39 : pj_row 93 39 = some (.goto 4, 3, 43, 0, 0) := by decide +kernel
theorem s93_39 {L : pj_Loc} {st : List Value} {M : pj_Mem}  : pj_step 93 (39, L, st, M) = some (43, L, st, M) := st_goto q93_39
theorem x93_39 {L : pj_Loc} {st : List Value} {M : pj_Mem}  {o9 : Option Value × pj_Mem} : pj_Ends 93 (39, L, st, M) o9 = pj_Ends 93 (43, L, st, M) o9 := pj_xs (s93_39)
theorem q93_42 : pj_row 93 42 = some (.iconst 0, 1, 0, 0, 0) := by decide +kernel
theorem s93_42 {L : pj_Loc} {st : List Value} {M : pj_Mem}  : pj_step 93 (42, L, st, M) = some (43, L, .int 0 :: st, M) := st_iconst q93_42 (by decide +kernel)
theorem x93_42 {L : pj_Loc} {st : List Value} {M : pj_Mem}  {o9 : Option Value × pj_Mem} : pj_Ends 93 (42, L, st, M) o9 = pj_Ends 93 (43, L, .int 0 :: st, M) o9 := pj_xs (s93_42)
theorem q93_43 : pj_row 93 43 = some (.ior, 1, 0, 0, 0) := by decide +kernel
theorem s93_43 {L : pj_Loc} {st : List Value} {M : pj_Mem} {x y : Int32} : pj_step 93 (43, L, .int y :: .int x :: st, M) = some (44, L, .int (x ||| y) :: st, M) := st_ior q93_43
theorem x93_43 {L : pj_Loc} {st : List Value} {M : pj_Mem} {x y : Int32} {o9 : Option Value × pj_Mem} : pj_Ends 93 (43, L, .int y :: .int x :: st, M) o9 = pj_Ends 93 (44, L, .int (x ||| y) :: st, M) o9 := pj_xs (s93_43)
theorem q93_44 : pj_row 93 44 = some (.istore_n 2, 1, 0, 0, 0) := by decide +kernel
theorem s93_44 {st : List Value} {M : pj_Mem} {l : pj_Loc} {a0 a1 a2 : Option Value} {x : Int32} (h : pj_long a1 = false) : pj_step 93 (44, a0 :: a1 :: a2 :: l, .int x :: st, M) = some (45, a0 :: a1 :: some (.int x) :: l, st, M) := st_istore_n q93_44 (pj_st_2 h)
theorem x93_44 {st : List Value} {M : pj_Mem} {l : pj_Loc} {a0 a1 a2 : Option Value} {x : Int32} (h : pj_long a1 = false) {o9 : Option Value × pj_Mem} : pj_Ends 93 (44, a0 :: a1 :: a2 :: l, .int x :: st, M) o9 = pj_Ends 93 (45, a0 :: a1 :: some (.int x) :: l, st, M) o9 := pj_xs (s93_44 h)
theorem q93_45 : pj_row 93 45 = some (.iinc 3 1, 3, 0, 0, 0) := by decide +kernel
theorem s93_45 {st : List Value} {M : pj_Mem} {l : pj_Loc} {a0 a1 a2 : Option Value} {x : Int32} (h : pj_long a2 = false) : pj_step 93 (45, a0 :: a1 :: a2 :: some (.int x) :: l, st, M) = some (48, a0 :: a1 :: a2 :: some (.int (x + 1)) :: l, st, M) := st_iinc q93_45 rfl (congrArg (fun y => x + y) (show Int32.ofInt 1 = 1 by decide +kernel)) (pj_st_3 h)
theorem x93_45 {st : List Value} {M : pj_Mem} {l : pj_Loc} {a0 a1 a2 : Option Value} {x : Int32} (h : pj_long a2 = false) {o9 : Option Value × pj_Mem} : pj_Ends 93 (45, a0 :: a1 :: a2 :: some (.int x) :: l, st, M) o9 = pj_Ends 93 (48, a0 :: a1 :: a2 :: some (.int (x + 1)) :: l, st, M) o9 := pj_xs (s93_45 h)
theorem q93_48 : pj_row 93 48 = some (.goto (-44), 3, 4, 0, 0) := by decide +kernel
theorem s93_48 {L : pj_Loc} {st : List Value} {M : pj_Mem}  : pj_step 93 (48, L, st, M) = some (4, L, st, M) := st_goto q93_48
theorem x93_48 {L : pj_Loc} {st : List Value} {M : pj_Mem}  {o9 : Option Value × pj_Mem} : pj_Ends 93 (48, L, st, M) o9 = pj_Ends 93 (4, L, st, M) o9 := pj_xs (s93_48)
theorem q93_51 : pj_row 93 51 = some (.iload_n 2, 1, 0, 0, 0) := by decide +kernel
theorem s93_51 {st : List Value} {M : pj_Mem} {l : pj_Loc} {a0 a1 : Option Value} {x : Int32} : pj_step 93 (51, a0 :: a1 :: some (.int x) :: l, st, M) = some (52, a0 :: a1 :: some (.int x) :: l, .int x :: st, M) := st_iload_n q93_51 rfl
theorem x93_51 {st : List Value} {M : pj_Mem} {l : pj_Loc} {a0 a1 : Option Value} {x : Int32} {o9 : Option Value × pj_Mem} : pj_Ends 93 (51, a0 :: a1 :: some (.int x) :: l, st, M) o9 = pj_Ends 93 (52, a0 :: a1 :: some (.int x) :: l, .int x :: st, M) o9 := pj_xs (s93_51)
theorem q93_52 : pj_row 93 52 = some (.ireturn, 1, 0, 0, 0) := by decide +kernel
theorem t93_52 {L : pj_Loc} {M : pj_Mem} {v : Int32} : pj_Ends 93 (52, L, [.int v], M) (some (.int v), M) := pj_Ends.ret q93_52 (pj_rtn_i rt93)
theorem rt94 : pj_rt 94 = none := rfl
theorem q94_0 : pj_row 94 0 = some (.aload_n 0, 1, 0, 0, 0) := by decide +kernel
theorem s94_0 {st : List Value} {M : pj_Mem} {l : pj_Loc} {x : Nat} : pj_step 94 (0, some (.ref x) :: l, st, M) = some (1, some (.ref x) :: l, .ref x :: st, M) := st_aload_n q94_0 rfl
theorem x94_0 {st : List Value} {M : pj_Mem} {l : pj_Loc} {x : Nat} {o9 : Option Value × pj_Mem} : pj_Ends 94 (0, some (.ref x) :: l, st, M) o9 = pj_Ends 94 (1, some (.ref x) :: l, .ref x :: st, M) o9 := pj_xs (s94_0)
theorem q94_1 : pj_row 94 1 = some (.iconst 0, 1, 0, 0, 0) := by decide +kernel
theorem s94_1 {L : pj_Loc} {st : List Value} {M : pj_Mem}  : pj_step 94 (1, L, st, M) = some (2, L, .int 0 :: st, M) := st_iconst q94_1 (by decide +kernel)
theorem x94_1 {L : pj_Loc} {st : List Value} {M : pj_Mem}  {o9 : Option Value × pj_Mem} : pj_Ends 94 (1, L, st, M) o9 = pj_Ends 94 (2, L, .int 0 :: st, M) o9 := pj_xs (s94_1)
theorem q94_2 : pj_row 94 2 = some (.putfield 75, 3, 6, 11, 0) := by decide +kernel
theorem s94_2 {L : pj_Loc} {st : List Value} {N S : Nat} {H : pj_Heap} {o : Nat} {v : Value} : pj_step 94 (2, L, v :: .ref o :: st, (N, S, H)) = pj_set 5 L st (N, S, H) o (pj_fset (H o) 6 11 v) := st_putfield q94_2
theorem x94_2 {L : pj_Loc} {st : List Value} {N S : Nat} {H : pj_Heap} {o : Nat} {v : Value} {o9 : Option Value × pj_Mem} : pj_Ends 94 (2, L, v :: .ref o :: st, (N, S, H)) o9 = pj_then 94 o9 (pj_set 5 L st (N, S, H) o (pj_fset (H o) 6 11 v)) := pj_xt q94_2 rfl (pj_cl_nc rfl) (s94_2)
theorem q94_5 : pj_row 94 5 = some (.iconst 0, 1, 0, 0, 0) := by decide +kernel
theorem s94_5 {L : pj_Loc} {st : List Value} {M : pj_Mem}  : pj_step 94 (5, L, st, M) = some (6, L, .int 0 :: st, M) := st_iconst q94_5 (by decide +kernel)
theorem x94_5 {L : pj_Loc} {st : List Value} {M : pj_Mem}  {o9 : Option Value × pj_Mem} : pj_Ends 94 (5, L, st, M) o9 = pj_Ends 94 (6, L, .int 0 :: st, M) o9 := pj_xs (s94_5)
theorem q94_6 : pj_row 94 6 = some (.istore_n 1, 1, 0, 0, 0) := by decide +kernel
theorem s94_6 {st : List Value} {M : pj_Mem} {l : pj_Loc} {a0 a1 : Option Value} {x : Int32} (h : pj_long a0 = false) : pj_step 94 (6, a0 :: a1 :: l, .int x :: st, M) = some (7, a0 :: some (.int x) :: l, st, M) := st_istore_n q94_6 (pj_st_1 h)
theorem x94_6 {st : List Value} {M : pj_Mem} {l : pj_Loc} {a0 a1 : Option Value} {x : Int32} (h : pj_long a0 = false) {o9 : Option Value × pj_Mem} : pj_Ends 94 (6, a0 :: a1 :: l, .int x :: st, M) o9 = pj_Ends 94 (7, a0 :: some (.int x) :: l, st, M) o9 := pj_xs (s94_6 h)
theorem q94_7 : pj_row 94 7 = some (.iload_n 1, 1, 0, 0, 0) := by decide +kernel
theorem s94_7 {st : List Value} {M : pj_Mem} {l : pj_Loc} {a0 : Option Value} {x : Int32} : pj_step 94 (7, a0 :: some (.int x) :: l, st, M) = some (8, a0 :: some (.int x) :: l, .int x :: st, M) := st_iload_n q94_7 rfl
theorem x94_7 {st : List Value} {M : pj_Mem} {l : pj_Loc} {a0 : Option Value} {x : Int32} {o9 : Option Value × pj_Mem} : pj_Ends 94 (7, a0 :: some (.int x) :: l, st, M) o9 = pj_Ends 94 (8, a0 :: some (.int x) :: l, .int x :: st, M) o9 := pj_xs (s94_7)
theorem q94_8 : pj_row 94 8 = some (.iconst 3, 1, 0, 0, 0) := by decide +kernel
theorem s94_8 {L : pj_Loc} {st : List Value} {M : pj_Mem}  : pj_step 94 (8, L, st, M) = some (9, L, .int 3 :: st, M) := st_iconst q94_8 (by decide +kernel)
theorem x94_8 {L : pj_Loc} {st : List Value} {M : pj_Mem}  {o9 : Option Value × pj_Mem} : pj_Ends 94 (8, L, st, M) o9 = pj_Ends 94 (9, L, .int 3 :: st, M) o9 := pj_xs (s94_8)
theorem q94_9 : pj_row 94 9 = some (.if_icmp .ge 45, 3, 54, 0, 0) := by decide +kernel
theorem s94_9 {L : pj_Loc} {st : List Value} {M : pj_Mem} {x y : Int32} : pj_step 94 (9, L, .int y :: .int x :: st, M) = some (if y ≤ x then 54 else 12, L, st, M) := st_icmp_ge q94_9
theorem x94_9 {L : pj_Loc} {st : List Value} {M : pj_Mem} {x y : Int32} {o9 : Option Value × pj_Mem} : pj_Ends 94 (9, L, .int y :: .int x :: st, M) o9 = pj_Ends 94 (if y ≤ x then 54 else 12, L, st, M) o9 := pj_xs (s94_9)
theorem q94_12 : pj_row 94 12 = some (.aload_n 0, 1, 0, 0, 0) := by decide +kernel
theorem s94_12 {st : List Value} {M : pj_Mem} {l : pj_Loc} {x : Nat} : pj_step 94 (12, some (.ref x) :: l, st, M) = some (13, some (.ref x) :: l, .ref x :: st, M) := st_aload_n q94_12 rfl
theorem x94_12 {st : List Value} {M : pj_Mem} {l : pj_Loc} {x : Nat} {o9 : Option Value × pj_Mem} : pj_Ends 94 (12, some (.ref x) :: l, st, M) o9 = pj_Ends 94 (13, some (.ref x) :: l, .ref x :: st, M) o9 := pj_xs (s94_12)
theorem q94_13 : pj_row 94 13 = some (.iload_n 1, 1, 0, 0, 0) := by decide +kernel
theorem s94_13 {st : List Value} {M : pj_Mem} {l : pj_Loc} {a0 : Option Value} {x : Int32} : pj_step 94 (13, a0 :: some (.int x) :: l, st, M) = some (14, a0 :: some (.int x) :: l, .int x :: st, M) := st_iload_n q94_13 rfl
theorem x94_13 {st : List Value} {M : pj_Mem} {l : pj_Loc} {a0 : Option Value} {x : Int32} {o9 : Option Value × pj_Mem} : pj_Ends 94 (13, a0 :: some (.int x) :: l, st, M) o9 = pj_Ends 94 (14, a0 :: some (.int x) :: l, .int x :: st, M) o9 := pj_xs (s94_13)
theorem q94_14 : pj_row 94 14 = some (.invokevirtual 78, 3, 95, 2, 0) := by decide +kernel
theorem e94_14 {L : pj_Loc} {st : List Value} {N S : Nat} {H : pj_Heap} {o : Option Value × pj_Mem} {M' : pj_Mem} {x0 : Nat} {x1 : Int32} {r : Int32} (h4 : pj_le4 st = true) (hu : pj_isU 6 (H x0) = true) (h1 : pj_Ends 95 (0, [some (.ref x0), some (.int x1)], [], (N, S, H)) (some (.int r), M')) (h2 : pj_Ends 94 (17, L, .int r :: st, M') o) : pj_Ends 94 (14, L, .int x1 :: .ref x0 :: st, (N, S, H)) o := ec_v2 q94_14 (Or.inl rfl) h4 hu rfl h1 h2
theorem q94_17 : pj_row 94 17 = some (.ifCond .eq 31, 3, 48, 0, 0) := by decide +kernel
theorem s94_17 {L : pj_Loc} {st : List Value} {M : pj_Mem} {x : Int32} : pj_step 94 (17, L, .int x :: st, M) = some (if x = 0 then 48 else 20, L, st, M) := st_if_eq q94_17
theorem x94_17 {L : pj_Loc} {st : List Value} {M : pj_Mem} {x : Int32} {o9 : Option Value × pj_Mem} : pj_Ends 94 (17, L, .int x :: st, M) o9 = pj_Ends 94 (if x = 0 then 48 else 20, L, st, M) o9 := pj_xs (s94_17)
theorem q94_20 : pj_row 94 20 = some (.aload_n 0, 1, 0, 0, 0) := by decide +kernel
theorem s94_20 {st : List Value} {M : pj_Mem} {l : pj_Loc} {x : Nat} : pj_step 94 (20, some (.ref x) :: l, st, M) = some (21, some (.ref x) :: l, .ref x :: st, M) := st_aload_n q94_20 rfl
theorem x94_20 {st : List Value} {M : pj_Mem} {l : pj_Loc} {x : Nat} {o9 : Option Value × pj_Mem} : pj_Ends 94 (20, some (.ref x) :: l, st, M) o9 = pj_Ends 94 (21, some (.ref x) :: l, .ref x :: st, M) o9 := pj_xs (s94_20)
theorem q94_21 : pj_row 94 21 = some (.getfield 7, 3, 6, 0, 0) := by decide +kernel
theorem s94_21 {L : pj_Loc} {st : List Value} {N S : Nat} {H : pj_Heap} {o : Nat} : pj_step 94 (21, L, .ref o :: st, (N, S, H)) = pj_pv 24 L st (N, S, H) (pj_fld (H o) 6 0) := st_getfield q94_21
theorem x94_21 {L : pj_Loc} {st : List Value} {N S : Nat} {H : pj_Heap} {o : Nat} {o9 : Option Value × pj_Mem} : pj_Ends 94 (21, L, .ref o :: st, (N, S, H)) o9 = pj_then 94 o9 (pj_pv 24 L st (N, S, H) (pj_fld (H o) 6 0)) := pj_xt q94_21 rfl (pj_cl_nc rfl) (s94_21)
theorem q94_24 : pj_row 94 24 = some (.bipush 23, 2, 0, 0, 0) := by decide +kernel
theorem s94_24 {L : pj_Loc} {st : List Value} {M : pj_Mem}  : pj_step 94 (24, L, st, M) = some (26, L, .int 23 :: st, M) := st_bipush q94_24 (by decide +kernel)
theorem x94_24 {L : pj_Loc} {st : List Value} {M : pj_Mem}  {o9 : Option Value × pj_Mem} : pj_Ends 94 (24, L, st, M) o9 = pj_Ends 94 (26, L, .int 23 :: st, M) o9 := pj_xs (s94_24)
theorem q94_26 : pj_row 94 26 = some (.iload_n 1, 1, 0, 0, 0) := by decide +kernel
theorem s94_26 {st : List Value} {M : pj_Mem} {l : pj_Loc} {a0 : Option Value} {x : Int32} : pj_step 94 (26, a0 :: some (.int x) :: l, st, M) = some (27, a0 :: some (.int x) :: l, .int x :: st, M) := st_iload_n q94_26 rfl
theorem x94_26 {st : List Value} {M : pj_Mem} {l : pj_Loc} {a0 : Option Value} {x : Int32} {o9 : Option Value × pj_Mem} : pj_Ends 94 (26, a0 :: some (.int x) :: l, st, M) o9 = pj_Ends 94 (27, a0 :: some (.int x) :: l, .int x :: st, M) o9 := pj_xs (s94_26)
theorem q94_27 : pj_row 94 27 = some (.iadd, 1, 0, 0, 0) := by decide +kernel
theorem s94_27 {L : pj_Loc} {st : List Value} {M : pj_Mem} {x y : Int32} : pj_step 94 (27, L, .int y :: .int x :: st, M) = some (28, L, .int (x + y) :: st, M) := st_iadd q94_27
theorem x94_27 {L : pj_Loc} {st : List Value} {M : pj_Mem} {x y : Int32} {o9 : Option Value × pj_Mem} : pj_Ends 94 (27, L, .int y :: .int x :: st, M) o9 = pj_Ends 94 (28, L, .int (x + y) :: st, M) o9 := pj_xs (s94_27)
theorem q94_28 : pj_row 94 28 = some (.aload_n 0, 1, 0, 0, 0) := by decide +kernel
theorem s94_28 {st : List Value} {M : pj_Mem} {l : pj_Loc} {x : Nat} : pj_step 94 (28, some (.ref x) :: l, st, M) = some (29, some (.ref x) :: l, .ref x :: st, M) := st_aload_n q94_28 rfl
theorem x94_28 {st : List Value} {M : pj_Mem} {l : pj_Loc} {x : Nat} {o9 : Option Value × pj_Mem} : pj_Ends 94 (28, some (.ref x) :: l, st, M) o9 = pj_Ends 94 (29, some (.ref x) :: l, .ref x :: st, M) o9 := pj_xs (s94_28)
theorem q94_29 : pj_row 94 29 = some (.getfield 7, 3, 6, 0, 0) := by decide +kernel
theorem s94_29 {L : pj_Loc} {st : List Value} {N S : Nat} {H : pj_Heap} {o : Nat} : pj_step 94 (29, L, .ref o :: st, (N, S, H)) = pj_pv 32 L st (N, S, H) (pj_fld (H o) 6 0) := st_getfield q94_29
theorem x94_29 {L : pj_Loc} {st : List Value} {N S : Nat} {H : pj_Heap} {o : Nat} {o9 : Option Value × pj_Mem} : pj_Ends 94 (29, L, .ref o :: st, (N, S, H)) o9 = pj_then 94 o9 (pj_pv 32 L st (N, S, H) (pj_fld (H o) 6 0)) := pj_xt q94_29 rfl (pj_cl_nc rfl) (s94_29)
theorem q94_32 : pj_row 94 32 = some (.bipush 6, 2, 0, 0, 0) := by decide +kernel
theorem s94_32 {L : pj_Loc} {st : List Value} {M : pj_Mem}  : pj_step 94 (32, L, st, M) = some (34, L, .int 6 :: st, M) := st_bipush q94_32 (by decide +kernel)
theorem x94_32 {L : pj_Loc} {st : List Value} {M : pj_Mem}  {o9 : Option Value × pj_Mem} : pj_Ends 94 (32, L, st, M) o9 = pj_Ends 94 (34, L, .int 6 :: st, M) o9 := pj_xs (s94_32)
theorem q94_34 : pj_row 94 34 = some (.iaload, 1, 0, 0, 0) := by decide +kernel
theorem s94_34 {L : pj_Loc} {st : List Value} {N S : Nat} {H : pj_Heap} {o : Nat} {i : Int32} : pj_step 94 (34, L, .int i :: .ref o :: st, (N, S, H)) = pj_pi 35 L st (N, S, H) (pj_arl (H o) 0 i) := st_iaload q94_34
theorem x94_34 {L : pj_Loc} {st : List Value} {N S : Nat} {H : pj_Heap} {o : Nat} {i : Int32} {o9 : Option Value × pj_Mem} : pj_Ends 94 (34, L, .int i :: .ref o :: st, (N, S, H)) o9 = pj_then 94 o9 (pj_pi 35 L st (N, S, H) (pj_arl (H o) 0 i)) := pj_xt q94_34 rfl (pj_cl_nc rfl) (s94_34)
theorem q94_35 : pj_row 94 35 = some (.iastore, 1, 0, 0, 0) := by decide +kernel
theorem s94_35 {L : pj_Loc} {st : List Value} {N S : Nat} {H : pj_Heap} {o : Nat} {i x : Int32} : pj_step 94 (35, L, .int x :: .int i :: .ref o :: st, (N, S, H)) = pj_set 36 L st (N, S, H) o (pj_ars (H o) 0 i x) := st_iastore q94_35
theorem x94_35 {L : pj_Loc} {st : List Value} {N S : Nat} {H : pj_Heap} {o : Nat} {i x : Int32} {o9 : Option Value × pj_Mem} : pj_Ends 94 (35, L, .int x :: .int i :: .ref o :: st, (N, S, H)) o9 = pj_then 94 o9 (pj_set 36 L st (N, S, H) o (pj_ars (H o) 0 i x)) := pj_xt q94_35 rfl (pj_cl_nc rfl) (s94_35)
theorem q94_36 : pj_row 94 36 = some (.aload_n 0, 1, 0, 0, 0) := by decide +kernel
theorem s94_36 {st : List Value} {M : pj_Mem} {l : pj_Loc} {x : Nat} : pj_step 94 (36, some (.ref x) :: l, st, M) = some (37, some (.ref x) :: l, .ref x :: st, M) := st_aload_n q94_36 rfl
theorem x94_36 {st : List Value} {M : pj_Mem} {l : pj_Loc} {x : Nat} {o9 : Option Value × pj_Mem} : pj_Ends 94 (36, some (.ref x) :: l, st, M) o9 = pj_Ends 94 (37, some (.ref x) :: l, .ref x :: st, M) o9 := pj_xs (s94_36)
theorem q94_37 : pj_row 94 37 = some (.dup, 1, 0, 0, 0) := by decide +kernel
theorem s94_37 {L : pj_Loc} {st : List Value} {M : pj_Mem} {x : Nat} : pj_step 94 (37, L, .ref x :: st, M) = some (38, L, .ref x :: .ref x :: st, M) := st_dup_ref q94_37
theorem x94_37 {L : pj_Loc} {st : List Value} {M : pj_Mem} {x : Nat} {o9 : Option Value × pj_Mem} : pj_Ends 94 (37, L, .ref x :: st, M) o9 = pj_Ends 94 (38, L, .ref x :: .ref x :: st, M) o9 := pj_xs (s94_37)
theorem s94_37i {L : pj_Loc} {st : List Value} {M : pj_Mem} {x : Int32} : pj_step 94 (37, L, .int x :: st, M) = some (38, L, .int x :: .int x :: st, M) := st_dup_int q94_37
theorem x94_37i {L : pj_Loc} {st : List Value} {M : pj_Mem} {x : Int32} {o9 : Option Value × pj_Mem} : pj_Ends 94 (37, L, .int x :: st, M) o9 = pj_Ends 94 (38, L, .int x :: .int x :: st, M) o9 := pj_xs (s94_37i)
theorem q94_38 : pj_row 94 38 = some (.getfield 75, 3, 6, 11, 0) := by decide +kernel
theorem s94_38 {L : pj_Loc} {st : List Value} {N S : Nat} {H : pj_Heap} {o : Nat} : pj_step 94 (38, L, .ref o :: st, (N, S, H)) = pj_pv 41 L st (N, S, H) (pj_fld (H o) 6 11) := st_getfield q94_38
theorem x94_38 {L : pj_Loc} {st : List Value} {N S : Nat} {H : pj_Heap} {o : Nat} {o9 : Option Value × pj_Mem} : pj_Ends 94 (38, L, .ref o :: st, (N, S, H)) o9 = pj_then 94 o9 (pj_pv 41 L st (N, S, H) (pj_fld (H o) 6 11)) := pj_xt q94_38 rfl (pj_cl_nc rfl) (s94_38)
theorem q94_41 : pj_row 94 41 = some (.iconst 1, 1, 0, 0, 0) := by decide +kernel
theorem s94_41 {L : pj_Loc} {st : List Value} {M : pj_Mem}  : pj_step 94 (41, L, st, M) = some (42, L, .int 1 :: st, M) := st_iconst q94_41 (by decide +kernel)
theorem x94_41 {L : pj_Loc} {st : List Value} {M : pj_Mem}  {o9 : Option Value × pj_Mem} : pj_Ends 94 (41, L, st, M) o9 = pj_Ends 94 (42, L, .int 1 :: st, M) o9 := pj_xs (s94_41)
theorem q94_42 : pj_row 94 42 = some (.iload_n 1, 1, 0, 0, 0) := by decide +kernel
theorem s94_42 {st : List Value} {M : pj_Mem} {l : pj_Loc} {a0 : Option Value} {x : Int32} : pj_step 94 (42, a0 :: some (.int x) :: l, st, M) = some (43, a0 :: some (.int x) :: l, .int x :: st, M) := st_iload_n q94_42 rfl
theorem x94_42 {st : List Value} {M : pj_Mem} {l : pj_Loc} {a0 : Option Value} {x : Int32} {o9 : Option Value × pj_Mem} : pj_Ends 94 (42, a0 :: some (.int x) :: l, st, M) o9 = pj_Ends 94 (43, a0 :: some (.int x) :: l, .int x :: st, M) o9 := pj_xs (s94_42)
theorem q94_43 : pj_row 94 43 = some (.ishl, 1, 0, 0, 0) := by decide +kernel
theorem s94_43 {L : pj_Loc} {st : List Value} {M : pj_Mem} {x y : Int32} : pj_step 94 (43, L, .int y :: .int x :: st, M) = some (44, L, .int (x <<< (y &&& 31)) :: st, M) := st_ishl q94_43
theorem x94_43 {L : pj_Loc} {st : List Value} {M : pj_Mem} {x y : Int32} {o9 : Option Value × pj_Mem} : pj_Ends 94 (43, L, .int y :: .int x :: st, M) o9 = pj_Ends 94 (44, L, .int (x <<< (y &&& 31)) :: st, M) o9 := pj_xs (s94_43)
theorem q94_44 : pj_row 94 44 = some (.ior, 1, 0, 0, 0) := by decide +kernel
theorem s94_44 {L : pj_Loc} {st : List Value} {M : pj_Mem} {x y : Int32} : pj_step 94 (44, L, .int y :: .int x :: st, M) = some (45, L, .int (x ||| y) :: st, M) := st_ior q94_44
theorem x94_44 {L : pj_Loc} {st : List Value} {M : pj_Mem} {x y : Int32} {o9 : Option Value × pj_Mem} : pj_Ends 94 (44, L, .int y :: .int x :: st, M) o9 = pj_Ends 94 (45, L, .int (x ||| y) :: st, M) o9 := pj_xs (s94_44)
theorem q94_45 : pj_row 94 45 = some (.putfield 75, 3, 6, 11, 0) := by decide +kernel
theorem s94_45 {L : pj_Loc} {st : List Value} {N S : Nat} {H : pj_Heap} {o : Nat} {v : Value} : pj_step 94 (45, L, v :: .ref o :: st, (N, S, H)) = pj_set 48 L st (N, S, H) o (pj_fset (H o) 6 11 v) := st_putfield q94_45
theorem x94_45 {L : pj_Loc} {st : List Value} {N S : Nat} {H : pj_Heap} {o : Nat} {v : Value} {o9 : Option Value × pj_Mem} : pj_Ends 94 (45, L, v :: .ref o :: st, (N, S, H)) o9 = pj_then 94 o9 (pj_set 48 L st (N, S, H) o (pj_fset (H o) 6 11 v)) := pj_xt q94_45 rfl (pj_cl_nc rfl) (s94_45)
theorem q94_48 : pj_row 94 48 = some (.iinc 1 1, 3, 0, 0, 0) := by decide +kernel
theorem s94_48 {st : List Value} {M : pj_Mem} {l : pj_Loc} {a0 : Option Value} {x : Int32} (h : pj_long a0 = false) : pj_step 94 (48, a0 :: some (.int x) :: l, st, M) = some (51, a0 :: some (.int (x + 1)) :: l, st, M) := st_iinc q94_48 rfl (congrArg (fun y => x + y) (show Int32.ofInt 1 = 1 by decide +kernel)) (pj_st_1 h)
theorem x94_48 {st : List Value} {M : pj_Mem} {l : pj_Loc} {a0 : Option Value} {x : Int32} (h : pj_long a0 = false) {o9 : Option Value × pj_Mem} : pj_Ends 94 (48, a0 :: some (.int x) :: l, st, M) o9 = pj_Ends 94 (51, a0 :: some (.int (x + 1)) :: l, st, M) o9 := pj_xs (s94_48 h)
theorem q94_51 : pj_row 94 51 = some (.goto (-44), 3, 7, 0, 0) := by decide +kernel
theorem s94_51 {L : pj_Loc} {st : List Value} {M : pj_Mem}  : pj_step 94 (51, L, st, M) = some (7, L, st, M) := st_goto q94_51
theorem x94_51 {L : pj_Loc} {st : List Value} {M : pj_Mem}  {o9 : Option Value × pj_Mem} : pj_Ends 94 (51, L, st, M) o9 = pj_Ends 94 (7, L, st, M) o9 := pj_xs (s94_51)
theorem q94_54 : pj_row 94 54 = some (.return_, 1, 0, 0, 0) := by decide +kernel
theorem t94_54 {L : pj_Loc} {M : pj_Mem} : pj_Ends 94 (54, L, [], M) (none, M) := pj_Ends.ret q94_54 (pj_rtn_v rt94)
theorem rt95 : pj_rt 95 = some .boolean := rfl
theorem q95_0 : pj_row 95 0 = some (.aload_n 0, 1, 0, 0, 0) := by decide +kernel
theorem s95_0 {st : List Value} {M : pj_Mem} {l : pj_Loc} {x : Nat} : pj_step 95 (0, some (.ref x) :: l, st, M) = some (1, some (.ref x) :: l, .ref x :: st, M) := st_aload_n q95_0 rfl
theorem x95_0 {st : List Value} {M : pj_Mem} {l : pj_Loc} {x : Nat} {o9 : Option Value × pj_Mem} : pj_Ends 95 (0, some (.ref x) :: l, st, M) o9 = pj_Ends 95 (1, some (.ref x) :: l, .ref x :: st, M) o9 := pj_xs (s95_0)
theorem q95_1 : pj_row 95 1 = some (.getfield 7, 3, 6, 0, 0) := by decide +kernel
theorem s95_1 {L : pj_Loc} {st : List Value} {N S : Nat} {H : pj_Heap} {o : Nat} : pj_step 95 (1, L, .ref o :: st, (N, S, H)) = pj_pv 4 L st (N, S, H) (pj_fld (H o) 6 0) := st_getfield q95_1
theorem x95_1 {L : pj_Loc} {st : List Value} {N S : Nat} {H : pj_Heap} {o : Nat} {o9 : Option Value × pj_Mem} : pj_Ends 95 (1, L, .ref o :: st, (N, S, H)) o9 = pj_then 95 o9 (pj_pv 4 L st (N, S, H) (pj_fld (H o) 6 0)) := pj_xt q95_1 rfl (pj_cl_nc rfl) (s95_1)
theorem q95_4 : pj_row 95 4 = some (.bipush 23, 2, 0, 0, 0) := by decide +kernel
theorem s95_4 {L : pj_Loc} {st : List Value} {M : pj_Mem}  : pj_step 95 (4, L, st, M) = some (6, L, .int 23 :: st, M) := st_bipush q95_4 (by decide +kernel)
theorem x95_4 {L : pj_Loc} {st : List Value} {M : pj_Mem}  {o9 : Option Value × pj_Mem} : pj_Ends 95 (4, L, st, M) o9 = pj_Ends 95 (6, L, .int 23 :: st, M) o9 := pj_xs (s95_4)
theorem q95_6 : pj_row 95 6 = some (.iload_n 1, 1, 0, 0, 0) := by decide +kernel
theorem s95_6 {st : List Value} {M : pj_Mem} {l : pj_Loc} {a0 : Option Value} {x : Int32} : pj_step 95 (6, a0 :: some (.int x) :: l, st, M) = some (7, a0 :: some (.int x) :: l, .int x :: st, M) := st_iload_n q95_6 rfl
theorem x95_6 {st : List Value} {M : pj_Mem} {l : pj_Loc} {a0 : Option Value} {x : Int32} {o9 : Option Value × pj_Mem} : pj_Ends 95 (6, a0 :: some (.int x) :: l, st, M) o9 = pj_Ends 95 (7, a0 :: some (.int x) :: l, .int x :: st, M) o9 := pj_xs (s95_6)
theorem q95_7 : pj_row 95 7 = some (.iadd, 1, 0, 0, 0) := by decide +kernel
theorem s95_7 {L : pj_Loc} {st : List Value} {M : pj_Mem} {x y : Int32} : pj_step 95 (7, L, .int y :: .int x :: st, M) = some (8, L, .int (x + y) :: st, M) := st_iadd q95_7
theorem x95_7 {L : pj_Loc} {st : List Value} {M : pj_Mem} {x y : Int32} {o9 : Option Value × pj_Mem} : pj_Ends 95 (7, L, .int y :: .int x :: st, M) o9 = pj_Ends 95 (8, L, .int (x + y) :: st, M) o9 := pj_xs (s95_7)
theorem q95_8 : pj_row 95 8 = some (.iaload, 1, 0, 0, 0) := by decide +kernel
theorem s95_8 {L : pj_Loc} {st : List Value} {N S : Nat} {H : pj_Heap} {o : Nat} {i : Int32} : pj_step 95 (8, L, .int i :: .ref o :: st, (N, S, H)) = pj_pi 9 L st (N, S, H) (pj_arl (H o) 0 i) := st_iaload q95_8
theorem x95_8 {L : pj_Loc} {st : List Value} {N S : Nat} {H : pj_Heap} {o : Nat} {i : Int32} {o9 : Option Value × pj_Mem} : pj_Ends 95 (8, L, .int i :: .ref o :: st, (N, S, H)) o9 = pj_then 95 o9 (pj_pi 9 L st (N, S, H) (pj_arl (H o) 0 i)) := pj_xt q95_8 rfl (pj_cl_nc rfl) (s95_8)
theorem q95_9 : pj_row 95 9 = some (.bipush (-6), 2, 0, 0, 0) := by decide +kernel
theorem s95_9 {L : pj_Loc} {st : List Value} {M : pj_Mem}  : pj_step 95 (9, L, st, M) = some (11, L, .int (-6) :: st, M) := st_bipush q95_9 (by decide +kernel)
theorem x95_9 {L : pj_Loc} {st : List Value} {M : pj_Mem}  {o9 : Option Value × pj_Mem} : pj_Ends 95 (9, L, st, M) o9 = pj_Ends 95 (11, L, .int (-6) :: st, M) o9 := pj_xs (s95_9)
theorem q95_11 : pj_row 95 11 = some (.if_icmp .ne 26, 3, 37, 0, 0) := by decide +kernel
theorem s95_11 {L : pj_Loc} {st : List Value} {M : pj_Mem} {x y : Int32} : pj_step 95 (11, L, .int y :: .int x :: st, M) = some (if ¬ x = y then 37 else 14, L, st, M) := st_icmp_ne q95_11
theorem x95_11 {L : pj_Loc} {st : List Value} {M : pj_Mem} {x y : Int32} {o9 : Option Value × pj_Mem} : pj_Ends 95 (11, L, .int y :: .int x :: st, M) o9 = pj_Ends 95 (if ¬ x = y then 37 else 14, L, st, M) o9 := pj_xs (s95_11)
theorem q95_14 : pj_row 95 14 = some (.aload_n 0, 1, 0, 0, 0) := by decide +kernel
theorem s95_14 {st : List Value} {M : pj_Mem} {l : pj_Loc} {x : Nat} : pj_step 95 (14, some (.ref x) :: l, st, M) = some (15, some (.ref x) :: l, .ref x :: st, M) := st_aload_n q95_14 rfl
theorem x95_14 {st : List Value} {M : pj_Mem} {l : pj_Loc} {x : Nat} {o9 : Option Value × pj_Mem} : pj_Ends 95 (14, some (.ref x) :: l, st, M) o9 = pj_Ends 95 (15, some (.ref x) :: l, .ref x :: st, M) o9 := pj_xs (s95_14)
theorem q95_15 : pj_row 95 15 = some (.getfield 7, 3, 6, 0, 0) := by decide +kernel
theorem s95_15 {L : pj_Loc} {st : List Value} {N S : Nat} {H : pj_Heap} {o : Nat} : pj_step 95 (15, L, .ref o :: st, (N, S, H)) = pj_pv 18 L st (N, S, H) (pj_fld (H o) 6 0) := st_getfield q95_15
theorem x95_15 {L : pj_Loc} {st : List Value} {N S : Nat} {H : pj_Heap} {o : Nat} {o9 : Option Value × pj_Mem} : pj_Ends 95 (15, L, .ref o :: st, (N, S, H)) o9 = pj_then 95 o9 (pj_pv 18 L st (N, S, H) (pj_fld (H o) 6 0)) := pj_xt q95_15 rfl (pj_cl_nc rfl) (s95_15)
theorem q95_18 : pj_row 95 18 = some (.bipush 26, 2, 0, 0, 0) := by decide +kernel
theorem s95_18 {L : pj_Loc} {st : List Value} {M : pj_Mem}  : pj_step 95 (18, L, st, M) = some (20, L, .int 26 :: st, M) := st_bipush q95_18 (by decide +kernel)
theorem x95_18 {L : pj_Loc} {st : List Value} {M : pj_Mem}  {o9 : Option Value × pj_Mem} : pj_Ends 95 (18, L, st, M) o9 = pj_Ends 95 (20, L, .int 26 :: st, M) o9 := pj_xs (s95_18)
theorem q95_20 : pj_row 95 20 = some (.iload_n 1, 1, 0, 0, 0) := by decide +kernel
theorem s95_20 {st : List Value} {M : pj_Mem} {l : pj_Loc} {a0 : Option Value} {x : Int32} : pj_step 95 (20, a0 :: some (.int x) :: l, st, M) = some (21, a0 :: some (.int x) :: l, .int x :: st, M) := st_iload_n q95_20 rfl
theorem x95_20 {st : List Value} {M : pj_Mem} {l : pj_Loc} {a0 : Option Value} {x : Int32} {o9 : Option Value × pj_Mem} : pj_Ends 95 (20, a0 :: some (.int x) :: l, st, M) o9 = pj_Ends 95 (21, a0 :: some (.int x) :: l, .int x :: st, M) o9 := pj_xs (s95_20)
theorem q95_21 : pj_row 95 21 = some (.iadd, 1, 0, 0, 0) := by decide +kernel
theorem s95_21 {L : pj_Loc} {st : List Value} {M : pj_Mem} {x y : Int32} : pj_step 95 (21, L, .int y :: .int x :: st, M) = some (22, L, .int (x + y) :: st, M) := st_iadd q95_21
theorem x95_21 {L : pj_Loc} {st : List Value} {M : pj_Mem} {x y : Int32} {o9 : Option Value × pj_Mem} : pj_Ends 95 (21, L, .int y :: .int x :: st, M) o9 = pj_Ends 95 (22, L, .int (x + y) :: st, M) o9 := pj_xs (s95_21)
theorem q95_22 : pj_row 95 22 = some (.iaload, 1, 0, 0, 0) := by decide +kernel
theorem s95_22 {L : pj_Loc} {st : List Value} {N S : Nat} {H : pj_Heap} {o : Nat} {i : Int32} : pj_step 95 (22, L, .int i :: .ref o :: st, (N, S, H)) = pj_pi 23 L st (N, S, H) (pj_arl (H o) 0 i) := st_iaload q95_22
theorem x95_22 {L : pj_Loc} {st : List Value} {N S : Nat} {H : pj_Heap} {o : Nat} {i : Int32} {o9 : Option Value × pj_Mem} : pj_Ends 95 (22, L, .int i :: .ref o :: st, (N, S, H)) o9 = pj_then 95 o9 (pj_pi 23 L st (N, S, H) (pj_arl (H o) 0 i)) := pj_xt q95_22 rfl (pj_cl_nc rfl) (s95_22)
theorem q95_23 : pj_row 95 23 = some (.iconst 1, 1, 0, 0, 0) := by decide +kernel
theorem s95_23 {L : pj_Loc} {st : List Value} {M : pj_Mem}  : pj_step 95 (23, L, st, M) = some (24, L, .int 1 :: st, M) := st_iconst q95_23 (by decide +kernel)
theorem x95_23 {L : pj_Loc} {st : List Value} {M : pj_Mem}  {o9 : Option Value × pj_Mem} : pj_Ends 95 (23, L, st, M) o9 = pj_Ends 95 (24, L, .int 1 :: st, M) o9 := pj_xs (s95_23)
theorem q95_24 : pj_row 95 24 = some (.if_icmp .eq 13, 3, 37, 0, 0) := by decide +kernel
theorem s95_24 {L : pj_Loc} {st : List Value} {M : pj_Mem} {x y : Int32} : pj_step 95 (24, L, .int y :: .int x :: st, M) = some (if x = y then 37 else 27, L, st, M) := st_icmp_eq q95_24
theorem x95_24 {L : pj_Loc} {st : List Value} {M : pj_Mem} {x y : Int32} {o9 : Option Value × pj_Mem} : pj_Ends 95 (24, L, .int y :: .int x :: st, M) o9 = pj_Ends 95 (if x = y then 37 else 27, L, st, M) o9 := pj_xs (s95_24)
theorem q95_27 : pj_row 95 27 = some (.aload_n 0, 1, 0, 0, 0) := by decide +kernel
theorem s95_27 {st : List Value} {M : pj_Mem} {l : pj_Loc} {x : Nat} : pj_step 95 (27, some (.ref x) :: l, st, M) = some (28, some (.ref x) :: l, .ref x :: st, M) := st_aload_n q95_27 rfl
theorem x95_27 {st : List Value} {M : pj_Mem} {l : pj_Loc} {x : Nat} {o9 : Option Value × pj_Mem} : pj_Ends 95 (27, some (.ref x) :: l, st, M) o9 = pj_Ends 95 (28, some (.ref x) :: l, .ref x :: st, M) o9 := pj_xs (s95_27)
theorem q95_28 : pj_row 95 28 = some (.getfield 7, 3, 6, 0, 0) := by decide +kernel
theorem s95_28 {L : pj_Loc} {st : List Value} {N S : Nat} {H : pj_Heap} {o : Nat} : pj_step 95 (28, L, .ref o :: st, (N, S, H)) = pj_pv 31 L st (N, S, H) (pj_fld (H o) 6 0) := st_getfield q95_28
theorem x95_28 {L : pj_Loc} {st : List Value} {N S : Nat} {H : pj_Heap} {o : Nat} {o9 : Option Value × pj_Mem} : pj_Ends 95 (28, L, .ref o :: st, (N, S, H)) o9 = pj_then 95 o9 (pj_pv 31 L st (N, S, H) (pj_fld (H o) 6 0)) := pj_xt q95_28 rfl (pj_cl_nc rfl) (s95_28)
theorem q95_31 : pj_row 95 31 = some (.bipush 7, 2, 0, 0, 0) := by decide +kernel
theorem s95_31 {L : pj_Loc} {st : List Value} {M : pj_Mem}  : pj_step 95 (31, L, st, M) = some (33, L, .int 7 :: st, M) := st_bipush q95_31 (by decide +kernel)
theorem x95_31 {L : pj_Loc} {st : List Value} {M : pj_Mem}  {o9 : Option Value × pj_Mem} : pj_Ends 95 (31, L, st, M) o9 = pj_Ends 95 (33, L, .int 7 :: st, M) o9 := pj_xs (s95_31)
theorem q95_33 : pj_row 95 33 = some (.iaload, 1, 0, 0, 0) := by decide +kernel
theorem s95_33 {L : pj_Loc} {st : List Value} {N S : Nat} {H : pj_Heap} {o : Nat} {i : Int32} : pj_step 95 (33, L, .int i :: .ref o :: st, (N, S, H)) = pj_pi 34 L st (N, S, H) (pj_arl (H o) 0 i) := st_iaload q95_33
theorem x95_33 {L : pj_Loc} {st : List Value} {N S : Nat} {H : pj_Heap} {o : Nat} {i : Int32} {o9 : Option Value × pj_Mem} : pj_Ends 95 (33, L, .int i :: .ref o :: st, (N, S, H)) o9 = pj_then 95 o9 (pj_pi 34 L st (N, S, H) (pj_arl (H o) 0 i)) := pj_xt q95_33 rfl (pj_cl_nc rfl) (s95_33)
theorem q95_34 : pj_row 95 34 = some (.ifCond .ne 5, 3, 39, 0, 0) := by decide +kernel
theorem s95_34 {L : pj_Loc} {st : List Value} {M : pj_Mem} {x : Int32} : pj_step 95 (34, L, .int x :: st, M) = some (if ¬ x = 0 then 39 else 37, L, st, M) := st_if_ne q95_34
theorem x95_34 {L : pj_Loc} {st : List Value} {M : pj_Mem} {x : Int32} {o9 : Option Value × pj_Mem} : pj_Ends 95 (34, L, .int x :: st, M) o9 = pj_Ends 95 (if ¬ x = 0 then 39 else 37, L, st, M) o9 := pj_xs (s95_34)
theorem q95_37 : pj_row 95 37 = some (.iconst 0, 1, 0, 0, 0) := by decide +kernel
theorem s95_37 {L : pj_Loc} {st : List Value} {M : pj_Mem}  : pj_step 95 (37, L, st, M) = some (38, L, .int 0 :: st, M) := st_iconst q95_37 (by decide +kernel)
theorem x95_37 {L : pj_Loc} {st : List Value} {M : pj_Mem}  {o9 : Option Value × pj_Mem} : pj_Ends 95 (37, L, st, M) o9 = pj_Ends 95 (38, L, .int 0 :: st, M) o9 := pj_xs (s95_37)
theorem q95_38 : pj_row 95 38 = some (.ireturn, 1, 0, 0, 0) := by decide +kernel
theorem t95_38 {L : pj_Loc} {M : pj_Mem} {v : Int32} (hv : v = 0 ∨ v = 1) : pj_Ends 95 (38, L, [.int v], M) (some (.int v), M) := pj_Ends.ret q95_38 (pj_rtn_z rt95 hv)
theorem q95_39 : pj_row 95 39 = some (.iload_n 1, 1, 0, 0, 0) := by decide +kernel
theorem s95_39 {st : List Value} {M : pj_Mem} {l : pj_Loc} {a0 : Option Value} {x : Int32} : pj_step 95 (39, a0 :: some (.int x) :: l, st, M) = some (40, a0 :: some (.int x) :: l, .int x :: st, M) := st_iload_n q95_39 rfl
theorem x95_39 {st : List Value} {M : pj_Mem} {l : pj_Loc} {a0 : Option Value} {x : Int32} {o9 : Option Value × pj_Mem} : pj_Ends 95 (39, a0 :: some (.int x) :: l, st, M) o9 = pj_Ends 95 (40, a0 :: some (.int x) :: l, .int x :: st, M) o9 := pj_xs (s95_39)
theorem q95_40 : pj_row 95 40 = some (.iconst 2, 1, 0, 0, 0) := by decide +kernel
theorem s95_40 {L : pj_Loc} {st : List Value} {M : pj_Mem}  : pj_step 95 (40, L, st, M) = some (41, L, .int 2 :: st, M) := st_iconst q95_40 (by decide +kernel)
theorem x95_40 {L : pj_Loc} {st : List Value} {M : pj_Mem}  {o9 : Option Value × pj_Mem} : pj_Ends 95 (40, L, st, M) o9 = pj_Ends 95 (41, L, .int 2 :: st, M) o9 := pj_xs (s95_40)
theorem q95_41 : pj_row 95 41 = some (.if_icmp .ne 30, 3, 71, 0, 0) := by decide +kernel
theorem s95_41 {L : pj_Loc} {st : List Value} {M : pj_Mem} {x y : Int32} : pj_step 95 (41, L, .int y :: .int x :: st, M) = some (if ¬ x = y then 71 else 44, L, st, M) := st_icmp_ne q95_41
theorem x95_41 {L : pj_Loc} {st : List Value} {M : pj_Mem} {x y : Int32} {o9 : Option Value × pj_Mem} : pj_Ends 95 (41, L, .int y :: .int x :: st, M) o9 = pj_Ends 95 (if ¬ x = y then 71 else 44, L, st, M) o9 := pj_xs (s95_41)
theorem q95_44 : pj_row 95 44 = some (.aload_n 0, 1, 0, 0, 0) := by decide +kernel
theorem s95_44 {st : List Value} {M : pj_Mem} {l : pj_Loc} {x : Nat} : pj_step 95 (44, some (.ref x) :: l, st, M) = some (45, some (.ref x) :: l, .ref x :: st, M) := st_aload_n q95_44 rfl
theorem x95_44 {st : List Value} {M : pj_Mem} {l : pj_Loc} {x : Nat} {o9 : Option Value × pj_Mem} : pj_Ends 95 (44, some (.ref x) :: l, st, M) o9 = pj_Ends 95 (45, some (.ref x) :: l, .ref x :: st, M) o9 := pj_xs (s95_44)
theorem q95_45 : pj_row 95 45 = some (.getfield 65, 3, 6, 10, 0) := by decide +kernel
theorem s95_45 {L : pj_Loc} {st : List Value} {N S : Nat} {H : pj_Heap} {o : Nat} : pj_step 95 (45, L, .ref o :: st, (N, S, H)) = pj_pv 48 L st (N, S, H) (pj_fld (H o) 6 10) := st_getfield q95_45
theorem x95_45 {L : pj_Loc} {st : List Value} {N S : Nat} {H : pj_Heap} {o : Nat} {o9 : Option Value × pj_Mem} : pj_Ends 95 (45, L, .ref o :: st, (N, S, H)) o9 = pj_then 95 o9 (pj_pv 48 L st (N, S, H) (pj_fld (H o) 6 10)) := pj_xt q95_45 rfl (pj_cl_nc rfl) (s95_45)
theorem q95_48 : pj_row 95 48 = some (.invokestatic 52, 3, 87, 1, 0) := by decide +kernel
theorem e95_48 {L : pj_Loc} {st : List Value} {N S : Nat} {H : pj_Heap} {o : Option Value × pj_Mem} {M' : pj_Mem} {x0 : Int32} {r : Int32} (h4 : pj_le4 st = true) (h1 : pj_Ends 87 (0, [some (.int x0)], [], (N, S, H)) (some (.int r), M')) (h2 : pj_Ends 95 (51, L, .int r :: st, M') o) : pj_Ends 95 (48, L, .int x0 :: st, (N, S, H)) o := ec_s1 q95_48 (Or.inl rfl) h4 rfl h1 h2
theorem q95_51 : pj_row 95 51 = some (.iconst 2, 1, 0, 0, 0) := by decide +kernel
theorem s95_51 {L : pj_Loc} {st : List Value} {M : pj_Mem}  : pj_step 95 (51, L, st, M) = some (52, L, .int 2 :: st, M) := st_iconst q95_51 (by decide +kernel)
theorem x95_51 {L : pj_Loc} {st : List Value} {M : pj_Mem}  {o9 : Option Value × pj_Mem} : pj_Ends 95 (51, L, st, M) o9 = pj_Ends 95 (52, L, .int 2 :: st, M) o9 := pj_xs (s95_51)
theorem q95_52 : pj_row 95 52 = some (.if_icmp .lt 15, 3, 67, 0, 0) := by decide +kernel
theorem s95_52 {L : pj_Loc} {st : List Value} {M : pj_Mem} {x y : Int32} : pj_step 95 (52, L, .int y :: .int x :: st, M) = some (if x < y then 67 else 55, L, st, M) := st_icmp_lt q95_52
theorem x95_52 {L : pj_Loc} {st : List Value} {M : pj_Mem} {x y : Int32} {o9 : Option Value × pj_Mem} : pj_Ends 95 (52, L, .int y :: .int x :: st, M) o9 = pj_Ends 95 (if x < y then 67 else 55, L, st, M) o9 := pj_xs (s95_52)
theorem q95_55 : pj_row 95 55 = some (.aload_n 0, 1, 0, 0, 0) := by decide +kernel
theorem s95_55 {st : List Value} {M : pj_Mem} {l : pj_Loc} {x : Nat} : pj_step 95 (55, some (.ref x) :: l, st, M) = some (56, some (.ref x) :: l, .ref x :: st, M) := st_aload_n q95_55 rfl
theorem x95_55 {st : List Value} {M : pj_Mem} {l : pj_Loc} {x : Nat} {o9 : Option Value × pj_Mem} : pj_Ends 95 (55, some (.ref x) :: l, st, M) o9 = pj_Ends 95 (56, some (.ref x) :: l, .ref x :: st, M) o9 := pj_xs (s95_55)
theorem q95_56 : pj_row 95 56 = some (.iconst 1, 1, 0, 0, 0) := by decide +kernel
theorem s95_56 {L : pj_Loc} {st : List Value} {M : pj_Mem}  : pj_step 95 (56, L, st, M) = some (57, L, .int 1 :: st, M) := st_iconst q95_56 (by decide +kernel)
theorem x95_56 {L : pj_Loc} {st : List Value} {M : pj_Mem}  {o9 : Option Value × pj_Mem} : pj_Ends 95 (56, L, st, M) o9 = pj_Ends 95 (57, L, .int 1 :: st, M) o9 := pj_xs (s95_56)
theorem q95_57 : pj_row 95 57 = some (.invokevirtual 68, 3, 96, 2, 0) := by decide +kernel
theorem e95_57 {L : pj_Loc} {st : List Value} {N S : Nat} {H : pj_Heap} {o : Option Value × pj_Mem} {M' : pj_Mem} {x0 : Nat} {x1 : Int32} {r : Int32} (h4 : pj_le4 st = true) (hu : pj_isU 6 (H x0) = true) (h1 : pj_Ends 96 (0, [some (.ref x0), some (.int x1)], [], (N, S, H)) (some (.int r), M')) (h2 : pj_Ends 95 (60, L, .int r :: st, M') o) : pj_Ends 95 (57, L, .int x1 :: .ref x0 :: st, (N, S, H)) o := ec_v2 q95_57 (Or.inl rfl) h4 hu rfl h1 h2
theorem q95_60 : pj_row 95 60 = some (.ifCond .eq 7, 3, 67, 0, 0) := by decide +kernel
theorem s95_60 {L : pj_Loc} {st : List Value} {M : pj_Mem} {x : Int32} : pj_step 95 (60, L, .int x :: st, M) = some (if x = 0 then 67 else 63, L, st, M) := st_if_eq q95_60
theorem x95_60 {L : pj_Loc} {st : List Value} {M : pj_Mem} {x : Int32} {o9 : Option Value × pj_Mem} : pj_Ends 95 (60, L, .int x :: st, M) o9 = pj_Ends 95 (if x = 0 then 67 else 63, L, st, M) o9 := pj_xs (s95_60)
theorem q95_63 : pj_row 95 63 = some (.iconst 1, 1, 0, 0, 0) := by decide +kernel
theorem s95_63 {L : pj_Loc} {st : List Value} {M : pj_Mem}  : pj_step 95 (63, L, st, M) = some (64, L, .int 1 :: st, M) := st_iconst q95_63 (by decide +kernel)
theorem x95_63 {L : pj_Loc} {st : List Value} {M : pj_Mem}  {o9 : Option Value × pj_Mem} : pj_Ends 95 (63, L, st, M) o9 = pj_Ends 95 (64, L, .int 1 :: st, M) o9 := pj_xs (s95_63)
theorem q95_64 : pj_row 95 64 = some (.goto 46, 3, 110, 0, 0) := by decide +kernel
theorem s95_64 {L : pj_Loc} {st : List Value} {M : pj_Mem}  : pj_step 95 (64, L, st, M) = some (110, L, st, M) := st_goto q95_64
theorem x95_64 {L : pj_Loc} {st : List Value} {M : pj_Mem}  {o9 : Option Value × pj_Mem} : pj_Ends 95 (64, L, st, M) o9 = pj_Ends 95 (110, L, st, M) o9 := pj_xs (s95_64)
theorem q95_67 : pj_row 95 67 = some (.iconst 0, 1, 0, 0, 0) := by decide +kernel
theorem s95_67 {L : pj_Loc} {st : List Value} {M : pj_Mem}  : pj_step 95 (67, L, st, M) = some (68, L, .int 0 :: st, M) := st_iconst q95_67 (by decide +kernel)
theorem x95_67 {L : pj_Loc} {st : List Value} {M : pj_Mem}  {o9 : Option Value × pj_Mem} : pj_Ends 95 (67, L, st, M) o9 = pj_Ends 95 (68, L, .int 0 :: st, M) o9 := pj_xs (s95_67)
theorem q95_68 : pj_row 95 68 = some (.goto 42, 3, 110, 0, 0) := by decide +kernel
theorem s95_68 {L : pj_Loc} {st : List Value} {M : pj_Mem}  : pj_step 95 (68, L, st, M) = some (110, L, st, M) := st_goto q95_68
theorem x95_68 {L : pj_Loc} {st : List Value} {M : pj_Mem}  {o9 : Option Value × pj_Mem} : pj_Ends 95 (68, L, st, M) o9 = pj_Ends 95 (110, L, st, M) o9 := pj_xs (s95_68)
theorem q95_71 : pj_row 95 71 = some (.aload_n 0, 1, 0, 0, 0) := by decide +kernel
theorem s95_71 {st : List Value} {M : pj_Mem} {l : pj_Loc} {x : Nat} : pj_step 95 (71, some (.ref x) :: l, st, M) = some (72, some (.ref x) :: l, .ref x :: st, M) := st_aload_n q95_71 rfl
theorem x95_71 {st : List Value} {M : pj_Mem} {l : pj_Loc} {x : Nat} {o9 : Option Value × pj_Mem} : pj_Ends 95 (71, some (.ref x) :: l, st, M) o9 = pj_Ends 95 (72, some (.ref x) :: l, .ref x :: st, M) o9 := pj_xs (s95_71)
theorem q95_72 : pj_row 95 72 = some (.getfield 72, 3, 6, 9, 0) := by decide +kernel
theorem s95_72 {L : pj_Loc} {st : List Value} {N S : Nat} {H : pj_Heap} {o : Nat} : pj_step 95 (72, L, .ref o :: st, (N, S, H)) = pj_pv 75 L st (N, S, H) (pj_fld (H o) 6 9) := st_getfield q95_72
theorem x95_72 {L : pj_Loc} {st : List Value} {N S : Nat} {H : pj_Heap} {o : Nat} {o9 : Option Value × pj_Mem} : pj_Ends 95 (72, L, .ref o :: st, (N, S, H)) o9 = pj_then 95 o9 (pj_pv 75 L st (N, S, H) (pj_fld (H o) 6 9)) := pj_xt q95_72 rfl (pj_cl_nc rfl) (s95_72)
theorem q95_75 : pj_row 95 75 = some (.invokestatic 52, 3, 87, 1, 0) := by decide +kernel
theorem e95_75 {L : pj_Loc} {st : List Value} {N S : Nat} {H : pj_Heap} {o : Option Value × pj_Mem} {M' : pj_Mem} {x0 : Int32} {r : Int32} (h4 : pj_le4 st = true) (h1 : pj_Ends 87 (0, [some (.int x0)], [], (N, S, H)) (some (.int r), M')) (h2 : pj_Ends 95 (78, L, .int r :: st, M') o) : pj_Ends 95 (75, L, .int x0 :: st, (N, S, H)) o := ec_s1 q95_75 (Or.inl rfl) h4 rfl h1 h2
theorem q95_78 : pj_row 95 78 = some (.iconst 2, 1, 0, 0, 0) := by decide +kernel
theorem s95_78 {L : pj_Loc} {st : List Value} {M : pj_Mem}  : pj_step 95 (78, L, st, M) = some (79, L, .int 2 :: st, M) := st_iconst q95_78 (by decide +kernel)
theorem x95_78 {L : pj_Loc} {st : List Value} {M : pj_Mem}  {o9 : Option Value × pj_Mem} : pj_Ends 95 (78, L, st, M) o9 = pj_Ends 95 (79, L, .int 2 :: st, M) o9 := pj_xs (s95_78)
theorem q95_79 : pj_row 95 79 = some (.if_icmp .lt 30, 3, 109, 0, 0) := by decide +kernel
theorem s95_79 {L : pj_Loc} {st : List Value} {M : pj_Mem} {x y : Int32} : pj_step 95 (79, L, .int y :: .int x :: st, M) = some (if x < y then 109 else 82, L, st, M) := st_icmp_lt q95_79
theorem x95_79 {L : pj_Loc} {st : List Value} {M : pj_Mem} {x y : Int32} {o9 : Option Value × pj_Mem} : pj_Ends 95 (79, L, .int y :: .int x :: st, M) o9 = pj_Ends 95 (if x < y then 109 else 82, L, st, M) o9 := pj_xs (s95_79)
theorem q95_82 : pj_row 95 82 = some (.iload_n 1, 1, 0, 0, 0) := by decide +kernel
theorem s95_82 {st : List Value} {M : pj_Mem} {l : pj_Loc} {a0 : Option Value} {x : Int32} : pj_step 95 (82, a0 :: some (.int x) :: l, st, M) = some (83, a0 :: some (.int x) :: l, .int x :: st, M) := st_iload_n q95_82 rfl
theorem x95_82 {st : List Value} {M : pj_Mem} {l : pj_Loc} {a0 : Option Value} {x : Int32} {o9 : Option Value × pj_Mem} : pj_Ends 95 (82, a0 :: some (.int x) :: l, st, M) o9 = pj_Ends 95 (83, a0 :: some (.int x) :: l, .int x :: st, M) o9 := pj_xs (s95_82)
theorem q95_83 : pj_row 95 83 = some (.ifCond .eq 22, 3, 105, 0, 0) := by decide +kernel
theorem s95_83 {L : pj_Loc} {st : List Value} {M : pj_Mem} {x : Int32} : pj_step 95 (83, L, .int x :: st, M) = some (if x = 0 then 105 else 86, L, st, M) := st_if_eq q95_83
theorem x95_83 {L : pj_Loc} {st : List Value} {M : pj_Mem} {x : Int32} {o9 : Option Value × pj_Mem} : pj_Ends 95 (83, L, .int x :: st, M) o9 = pj_Ends 95 (if x = 0 then 105 else 86, L, st, M) o9 := pj_xs (s95_83)
theorem q95_86 : pj_row 95 86 = some (.aload_n 0, 1, 0, 0, 0) := by decide +kernel
theorem s95_86 {st : List Value} {M : pj_Mem} {l : pj_Loc} {x : Nat} : pj_step 95 (86, some (.ref x) :: l, st, M) = some (87, some (.ref x) :: l, .ref x :: st, M) := st_aload_n q95_86 rfl
theorem x95_86 {st : List Value} {M : pj_Mem} {l : pj_Loc} {x : Nat} {o9 : Option Value × pj_Mem} : pj_Ends 95 (86, some (.ref x) :: l, st, M) o9 = pj_Ends 95 (87, some (.ref x) :: l, .ref x :: st, M) o9 := pj_xs (s95_86)
theorem q95_87 : pj_row 95 87 = some (.iconst 0, 1, 0, 0, 0) := by decide +kernel
theorem s95_87 {L : pj_Loc} {st : List Value} {M : pj_Mem}  : pj_step 95 (87, L, st, M) = some (88, L, .int 0 :: st, M) := st_iconst q95_87 (by decide +kernel)
theorem x95_87 {L : pj_Loc} {st : List Value} {M : pj_Mem}  {o9 : Option Value × pj_Mem} : pj_Ends 95 (87, L, st, M) o9 = pj_Ends 95 (88, L, .int 0 :: st, M) o9 := pj_xs (s95_87)
theorem q95_88 : pj_row 95 88 = some (.invokevirtual 68, 3, 96, 2, 0) := by decide +kernel
theorem e95_88 {L : pj_Loc} {st : List Value} {N S : Nat} {H : pj_Heap} {o : Option Value × pj_Mem} {M' : pj_Mem} {x0 : Nat} {x1 : Int32} {r : Int32} (h4 : pj_le4 st = true) (hu : pj_isU 6 (H x0) = true) (h1 : pj_Ends 96 (0, [some (.ref x0), some (.int x1)], [], (N, S, H)) (some (.int r), M')) (h2 : pj_Ends 95 (91, L, .int r :: st, M') o) : pj_Ends 95 (88, L, .int x1 :: .ref x0 :: st, (N, S, H)) o := ec_v2 q95_88 (Or.inl rfl) h4 hu rfl h1 h2
theorem q95_91 : pj_row 95 91 = some (.ifCond .ne 14, 3, 105, 0, 0) := by decide +kernel
theorem s95_91 {L : pj_Loc} {st : List Value} {M : pj_Mem} {x : Int32} : pj_step 95 (91, L, .int x :: st, M) = some (if ¬ x = 0 then 105 else 94, L, st, M) := st_if_ne q95_91
theorem x95_91 {L : pj_Loc} {st : List Value} {M : pj_Mem} {x : Int32} {o9 : Option Value × pj_Mem} : pj_Ends 95 (91, L, .int x :: st, M) o9 = pj_Ends 95 (if ¬ x = 0 then 105 else 94, L, st, M) o9 := pj_xs (s95_91)
theorem q95_94 : pj_row 95 94 = some (.aload_n 0, 1, 0, 0, 0) := by decide +kernel
theorem s95_94 {st : List Value} {M : pj_Mem} {l : pj_Loc} {x : Nat} : pj_step 95 (94, some (.ref x) :: l, st, M) = some (95, some (.ref x) :: l, .ref x :: st, M) := st_aload_n q95_94 rfl
theorem x95_94 {st : List Value} {M : pj_Mem} {l : pj_Loc} {x : Nat} {o9 : Option Value × pj_Mem} : pj_Ends 95 (94, some (.ref x) :: l, st, M) o9 = pj_Ends 95 (95, some (.ref x) :: l, .ref x :: st, M) o9 := pj_xs (s95_94)
theorem q95_95 : pj_row 95 95 = some (.getfield 7, 3, 6, 0, 0) := by decide +kernel
theorem s95_95 {L : pj_Loc} {st : List Value} {N S : Nat} {H : pj_Heap} {o : Nat} : pj_step 95 (95, L, .ref o :: st, (N, S, H)) = pj_pv 98 L st (N, S, H) (pj_fld (H o) 6 0) := st_getfield q95_95
theorem x95_95 {L : pj_Loc} {st : List Value} {N S : Nat} {H : pj_Heap} {o : Nat} {o9 : Option Value × pj_Mem} : pj_Ends 95 (95, L, .ref o :: st, (N, S, H)) o9 = pj_then 95 o9 (pj_pv 98 L st (N, S, H) (pj_fld (H o) 6 0)) := pj_xt q95_95 rfl (pj_cl_nc rfl) (s95_95)
theorem q95_98 : pj_row 95 98 = some (.bipush 26, 2, 0, 0, 0) := by decide +kernel
theorem s95_98 {L : pj_Loc} {st : List Value} {M : pj_Mem}  : pj_step 95 (98, L, st, M) = some (100, L, .int 26 :: st, M) := st_bipush q95_98 (by decide +kernel)
theorem x95_98 {L : pj_Loc} {st : List Value} {M : pj_Mem}  {o9 : Option Value × pj_Mem} : pj_Ends 95 (98, L, st, M) o9 = pj_Ends 95 (100, L, .int 26 :: st, M) o9 := pj_xs (s95_98)
theorem q95_100 : pj_row 95 100 = some (.iaload, 1, 0, 0, 0) := by decide +kernel
theorem s95_100 {L : pj_Loc} {st : List Value} {N S : Nat} {H : pj_Heap} {o : Nat} {i : Int32} : pj_step 95 (100, L, .int i :: .ref o :: st, (N, S, H)) = pj_pi 101 L st (N, S, H) (pj_arl (H o) 0 i) := st_iaload q95_100
theorem x95_100 {L : pj_Loc} {st : List Value} {N S : Nat} {H : pj_Heap} {o : Nat} {i : Int32} {o9 : Option Value × pj_Mem} : pj_Ends 95 (100, L, .int i :: .ref o :: st, (N, S, H)) o9 = pj_then 95 o9 (pj_pi 101 L st (N, S, H) (pj_arl (H o) 0 i)) := pj_xt q95_100 rfl (pj_cl_nc rfl) (s95_100)
theorem q95_101 : pj_row 95 101 = some (.iconst 1, 1, 0, 0, 0) := by decide +kernel
theorem s95_101 {L : pj_Loc} {st : List Value} {M : pj_Mem}  : pj_step 95 (101, L, st, M) = some (102, L, .int 1 :: st, M) := st_iconst q95_101 (by decide +kernel)
theorem x95_101 {L : pj_Loc} {st : List Value} {M : pj_Mem}  {o9 : Option Value × pj_Mem} : pj_Ends 95 (101, L, st, M) o9 = pj_Ends 95 (102, L, .int 1 :: st, M) o9 := pj_xs (s95_101)
theorem q95_102 : pj_row 95 102 = some (.if_icmp .ne 7, 3, 109, 0, 0) := by decide +kernel
theorem s95_102 {L : pj_Loc} {st : List Value} {M : pj_Mem} {x y : Int32} : pj_step 95 (102, L, .int y :: .int x :: st, M) = some (if ¬ x = y then 109 else 105, L, st, M) := st_icmp_ne q95_102
theorem x95_102 {L : pj_Loc} {st : List Value} {M : pj_Mem} {x y : Int32} {o9 : Option Value × pj_Mem} : pj_Ends 95 (102, L, .int y :: .int x :: st, M) o9 = pj_Ends 95 (if ¬ x = y then 109 else 105, L, st, M) o9 := pj_xs (s95_102)
theorem q95_105 : pj_row 95 105 = some (.iconst 1, 1, 0, 0, 0) := by decide +kernel
theorem s95_105 {L : pj_Loc} {st : List Value} {M : pj_Mem}  : pj_step 95 (105, L, st, M) = some (106, L, .int 1 :: st, M) := st_iconst q95_105 (by decide +kernel)
theorem x95_105 {L : pj_Loc} {st : List Value} {M : pj_Mem}  {o9 : Option Value × pj_Mem} : pj_Ends 95 (105, L, st, M) o9 = pj_Ends 95 (106, L, .int 1 :: st, M) o9 := pj_xs (s95_105)
theorem q95_106 : pj_row 95 106 = some (.goto 4, 3, 110, 0, 0) := by decide +kernel
theorem s95_106 {L : pj_Loc} {st : List Value} {M : pj_Mem}  : pj_step 95 (106, L, st, M) = some (110, L, st, M) := st_goto q95_106
theorem x95_106 {L : pj_Loc} {st : List Value} {M : pj_Mem}  {o9 : Option Value × pj_Mem} : pj_Ends 95 (106, L, st, M) o9 = pj_Ends 95 (110, L, st, M) o9 := pj_xs (s95_106)
theorem q95_109 : pj_row 95 109 = some (.iconst 0, 1, 0, 0, 0) := by decide +kernel
theorem s95_109 {L : pj_Loc} {st : List Value} {M : pj_Mem}  : pj_step 95 (109, L, st, M) = some (110, L, .int 0 :: st, M) := st_iconst q95_109 (by decide +kernel)
theorem x95_109 {L : pj_Loc} {st : List Value} {M : pj_Mem}  {o9 : Option Value × pj_Mem} : pj_Ends 95 (109, L, st, M) o9 = pj_Ends 95 (110, L, .int 0 :: st, M) o9 := pj_xs (s95_109)
theorem q95_110 : pj_row 95 110 = some (.ireturn, 1, 0, 0, 0) := by decide +kernel
theorem t95_110 {L : pj_Loc} {M : pj_Mem} {v : Int32} (hv : v = 0 ∨ v = 1) : pj_Ends 95 (110, L, [.int v], M) (some (.int v), M) := pj_Ends.ret q95_110 (pj_rtn_z rt95 hv)
theorem rt96 : pj_rt 96 = some .boolean := rfl
theorem q96_0 : pj_row 96 0 = some (.aload_n 0, 1, 0, 0, 0) := by decide +kernel
theorem s96_0 {st : List Value} {M : pj_Mem} {l : pj_Loc} {x : Nat} : pj_step 96 (0, some (.ref x) :: l, st, M) = some (1, some (.ref x) :: l, .ref x :: st, M) := st_aload_n q96_0 rfl
theorem x96_0 {st : List Value} {M : pj_Mem} {l : pj_Loc} {x : Nat} {o9 : Option Value × pj_Mem} : pj_Ends 96 (0, some (.ref x) :: l, st, M) o9 = pj_Ends 96 (1, some (.ref x) :: l, .ref x :: st, M) o9 := pj_xs (s96_0)
theorem q96_1 : pj_row 96 1 = some (.getfield 7, 3, 6, 0, 0) := by decide +kernel
theorem s96_1 {L : pj_Loc} {st : List Value} {N S : Nat} {H : pj_Heap} {o : Nat} : pj_step 96 (1, L, .ref o :: st, (N, S, H)) = pj_pv 4 L st (N, S, H) (pj_fld (H o) 6 0) := st_getfield q96_1
theorem x96_1 {L : pj_Loc} {st : List Value} {N S : Nat} {H : pj_Heap} {o : Nat} {o9 : Option Value × pj_Mem} : pj_Ends 96 (1, L, .ref o :: st, (N, S, H)) o9 = pj_then 96 o9 (pj_pv 4 L st (N, S, H) (pj_fld (H o) 6 0)) := pj_xt q96_1 rfl (pj_cl_nc rfl) (s96_1)
theorem q96_4 : pj_row 96 4 = some (.bipush 23, 2, 0, 0, 0) := by decide +kernel
theorem s96_4 {L : pj_Loc} {st : List Value} {M : pj_Mem}  : pj_step 96 (4, L, st, M) = some (6, L, .int 23 :: st, M) := st_bipush q96_4 (by decide +kernel)
theorem x96_4 {L : pj_Loc} {st : List Value} {M : pj_Mem}  {o9 : Option Value × pj_Mem} : pj_Ends 96 (4, L, st, M) o9 = pj_Ends 96 (6, L, .int 23 :: st, M) o9 := pj_xs (s96_4)
theorem q96_6 : pj_row 96 6 = some (.iload_n 1, 1, 0, 0, 0) := by decide +kernel
theorem s96_6 {st : List Value} {M : pj_Mem} {l : pj_Loc} {a0 : Option Value} {x : Int32} : pj_step 96 (6, a0 :: some (.int x) :: l, st, M) = some (7, a0 :: some (.int x) :: l, .int x :: st, M) := st_iload_n q96_6 rfl
theorem x96_6 {st : List Value} {M : pj_Mem} {l : pj_Loc} {a0 : Option Value} {x : Int32} {o9 : Option Value × pj_Mem} : pj_Ends 96 (6, a0 :: some (.int x) :: l, st, M) o9 = pj_Ends 96 (7, a0 :: some (.int x) :: l, .int x :: st, M) o9 := pj_xs (s96_6)
theorem q96_7 : pj_row 96 7 = some (.iadd, 1, 0, 0, 0) := by decide +kernel
theorem s96_7 {L : pj_Loc} {st : List Value} {M : pj_Mem} {x y : Int32} : pj_step 96 (7, L, .int y :: .int x :: st, M) = some (8, L, .int (x + y) :: st, M) := st_iadd q96_7
theorem x96_7 {L : pj_Loc} {st : List Value} {M : pj_Mem} {x y : Int32} {o9 : Option Value × pj_Mem} : pj_Ends 96 (7, L, .int y :: .int x :: st, M) o9 = pj_Ends 96 (8, L, .int (x + y) :: st, M) o9 := pj_xs (s96_7)
theorem q96_8 : pj_row 96 8 = some (.iaload, 1, 0, 0, 0) := by decide +kernel
theorem s96_8 {L : pj_Loc} {st : List Value} {N S : Nat} {H : pj_Heap} {o : Nat} {i : Int32} : pj_step 96 (8, L, .int i :: .ref o :: st, (N, S, H)) = pj_pi 9 L st (N, S, H) (pj_arl (H o) 0 i) := st_iaload q96_8
theorem x96_8 {L : pj_Loc} {st : List Value} {N S : Nat} {H : pj_Heap} {o : Nat} {i : Int32} {o9 : Option Value × pj_Mem} : pj_Ends 96 (8, L, .int i :: .ref o :: st, (N, S, H)) o9 = pj_then 96 o9 (pj_pi 9 L st (N, S, H) (pj_arl (H o) 0 i)) := pj_xt q96_8 rfl (pj_cl_nc rfl) (s96_8)
theorem q96_9 : pj_row 96 9 = some (.bipush (-6), 2, 0, 0, 0) := by decide +kernel
theorem s96_9 {L : pj_Loc} {st : List Value} {M : pj_Mem}  : pj_step 96 (9, L, st, M) = some (11, L, .int (-6) :: st, M) := st_bipush q96_9 (by decide +kernel)
theorem x96_9 {L : pj_Loc} {st : List Value} {M : pj_Mem}  {o9 : Option Value × pj_Mem} : pj_Ends 96 (9, L, st, M) o9 = pj_Ends 96 (11, L, .int (-6) :: st, M) o9 := pj_xs (s96_9)
theorem q96_11 : pj_row 96 11 = some (.if_icmp .eq 33, 3, 44, 0, 0) := by decide +kernel
theorem s96_11 {L : pj_Loc} {st : List Value} {M : pj_Mem} {x y : Int32} : pj_step 96 (11, L, .int y :: .int x :: st, M) = some (if x = y then 44 else 14, L, st, M) := st_icmp_eq q96_11
theorem x96_11 {L : pj_Loc} {st : List Value} {M : pj_Mem} {x y : Int32} {o9 : Option Value × pj_Mem} : pj_Ends 96 (11, L, .int y :: .int x :: st, M) o9 = pj_Ends 96 (if x = y then 44 else 14, L, st, M) o9 := pj_xs (s96_11)
theorem q96_14 : pj_row 96 14 = some (.aload_n 0, 1, 0, 0, 0) := by decide +kernel
theorem s96_14 {st : List Value} {M : pj_Mem} {l : pj_Loc} {x : Nat} : pj_step 96 (14, some (.ref x) :: l, st, M) = some (15, some (.ref x) :: l, .ref x :: st, M) := st_aload_n q96_14 rfl
theorem x96_14 {st : List Value} {M : pj_Mem} {l : pj_Loc} {x : Nat} {o9 : Option Value × pj_Mem} : pj_Ends 96 (14, some (.ref x) :: l, st, M) o9 = pj_Ends 96 (15, some (.ref x) :: l, .ref x :: st, M) o9 := pj_xs (s96_14)
theorem q96_15 : pj_row 96 15 = some (.getfield 7, 3, 6, 0, 0) := by decide +kernel
theorem s96_15 {L : pj_Loc} {st : List Value} {N S : Nat} {H : pj_Heap} {o : Nat} : pj_step 96 (15, L, .ref o :: st, (N, S, H)) = pj_pv 18 L st (N, S, H) (pj_fld (H o) 6 0) := st_getfield q96_15
theorem x96_15 {L : pj_Loc} {st : List Value} {N S : Nat} {H : pj_Heap} {o : Nat} {o9 : Option Value × pj_Mem} : pj_Ends 96 (15, L, .ref o :: st, (N, S, H)) o9 = pj_then 96 o9 (pj_pv 18 L st (N, S, H) (pj_fld (H o) 6 0)) := pj_xt q96_15 rfl (pj_cl_nc rfl) (s96_15)
theorem q96_18 : pj_row 96 18 = some (.bipush 6, 2, 0, 0, 0) := by decide +kernel
theorem s96_18 {L : pj_Loc} {st : List Value} {M : pj_Mem}  : pj_step 96 (18, L, st, M) = some (20, L, .int 6 :: st, M) := st_bipush q96_18 (by decide +kernel)
theorem x96_18 {L : pj_Loc} {st : List Value} {M : pj_Mem}  {o9 : Option Value × pj_Mem} : pj_Ends 96 (18, L, st, M) o9 = pj_Ends 96 (20, L, .int 6 :: st, M) o9 := pj_xs (s96_18)
theorem q96_20 : pj_row 96 20 = some (.iaload, 1, 0, 0, 0) := by decide +kernel
theorem s96_20 {L : pj_Loc} {st : List Value} {N S : Nat} {H : pj_Heap} {o : Nat} {i : Int32} : pj_step 96 (20, L, .int i :: .ref o :: st, (N, S, H)) = pj_pi 21 L st (N, S, H) (pj_arl (H o) 0 i) := st_iaload q96_20
theorem x96_20 {L : pj_Loc} {st : List Value} {N S : Nat} {H : pj_Heap} {o : Nat} {i : Int32} {o9 : Option Value × pj_Mem} : pj_Ends 96 (20, L, .int i :: .ref o :: st, (N, S, H)) o9 = pj_then 96 o9 (pj_pi 21 L st (N, S, H) (pj_arl (H o) 0 i)) := pj_xt q96_20 rfl (pj_cl_nc rfl) (s96_20)
theorem q96_21 : pj_row 96 21 = some (.aload_n 0, 1, 0, 0, 0) := by decide +kernel
theorem s96_21 {st : List Value} {M : pj_Mem} {l : pj_Loc} {x : Nat} : pj_step 96 (21, some (.ref x) :: l, st, M) = some (22, some (.ref x) :: l, .ref x :: st, M) := st_aload_n q96_21 rfl
theorem x96_21 {st : List Value} {M : pj_Mem} {l : pj_Loc} {x : Nat} {o9 : Option Value × pj_Mem} : pj_Ends 96 (21, some (.ref x) :: l, st, M) o9 = pj_Ends 96 (22, some (.ref x) :: l, .ref x :: st, M) o9 := pj_xs (s96_21)
theorem q96_22 : pj_row 96 22 = some (.getfield 7, 3, 6, 0, 0) := by decide +kernel
theorem s96_22 {L : pj_Loc} {st : List Value} {N S : Nat} {H : pj_Heap} {o : Nat} : pj_step 96 (22, L, .ref o :: st, (N, S, H)) = pj_pv 25 L st (N, S, H) (pj_fld (H o) 6 0) := st_getfield q96_22
theorem x96_22 {L : pj_Loc} {st : List Value} {N S : Nat} {H : pj_Heap} {o : Nat} {o9 : Option Value × pj_Mem} : pj_Ends 96 (22, L, .ref o :: st, (N, S, H)) o9 = pj_then 96 o9 (pj_pv 25 L st (N, S, H) (pj_fld (H o) 6 0)) := pj_xt q96_22 rfl (pj_cl_nc rfl) (s96_22)
theorem q96_25 : pj_row 96 25 = some (.bipush 23, 2, 0, 0, 0) := by decide +kernel
theorem s96_25 {L : pj_Loc} {st : List Value} {M : pj_Mem}  : pj_step 96 (25, L, st, M) = some (27, L, .int 23 :: st, M) := st_bipush q96_25 (by decide +kernel)
theorem x96_25 {L : pj_Loc} {st : List Value} {M : pj_Mem}  {o9 : Option Value × pj_Mem} : pj_Ends 96 (25, L, st, M) o9 = pj_Ends 96 (27, L, .int 23 :: st, M) o9 := pj_xs (s96_25)
theorem q96_27 : pj_row 96 27 = some (.iload_n 1, 1, 0, 0, 0) := by decide +kernel
theorem s96_27 {st : List Value} {M : pj_Mem} {l : pj_Loc} {a0 : Option Value} {x : Int32} : pj_step 96 (27, a0 :: some (.int x) :: l, st, M) = some (28, a0 :: some (.int x) :: l, .int x :: st, M) := st_iload_n q96_27 rfl
theorem x96_27 {st : List Value} {M : pj_Mem} {l : pj_Loc} {a0 : Option Value} {x : Int32} {o9 : Option Value × pj_Mem} : pj_Ends 96 (27, a0 :: some (.int x) :: l, st, M) o9 = pj_Ends 96 (28, a0 :: some (.int x) :: l, .int x :: st, M) o9 := pj_xs (s96_27)
theorem q96_28 : pj_row 96 28 = some (.iadd, 1, 0, 0, 0) := by decide +kernel
theorem s96_28 {L : pj_Loc} {st : List Value} {M : pj_Mem} {x y : Int32} : pj_step 96 (28, L, .int y :: .int x :: st, M) = some (29, L, .int (x + y) :: st, M) := st_iadd q96_28
theorem x96_28 {L : pj_Loc} {st : List Value} {M : pj_Mem} {x y : Int32} {o9 : Option Value × pj_Mem} : pj_Ends 96 (28, L, .int y :: .int x :: st, M) o9 = pj_Ends 96 (29, L, .int (x + y) :: st, M) o9 := pj_xs (s96_28)
theorem q96_29 : pj_row 96 29 = some (.iaload, 1, 0, 0, 0) := by decide +kernel
theorem s96_29 {L : pj_Loc} {st : List Value} {N S : Nat} {H : pj_Heap} {o : Nat} {i : Int32} : pj_step 96 (29, L, .int i :: .ref o :: st, (N, S, H)) = pj_pi 30 L st (N, S, H) (pj_arl (H o) 0 i) := st_iaload q96_29
theorem x96_29 {L : pj_Loc} {st : List Value} {N S : Nat} {H : pj_Heap} {o : Nat} {i : Int32} {o9 : Option Value × pj_Mem} : pj_Ends 96 (29, L, .int i :: .ref o :: st, (N, S, H)) o9 = pj_then 96 o9 (pj_pi 30 L st (N, S, H) (pj_arl (H o) 0 i)) := pj_xt q96_29 rfl (pj_cl_nc rfl) (s96_29)
theorem q96_30 : pj_row 96 30 = some (.isub, 1, 0, 0, 0) := by decide +kernel
theorem s96_30 {L : pj_Loc} {st : List Value} {M : pj_Mem} {x y : Int32} : pj_step 96 (30, L, .int y :: .int x :: st, M) = some (31, L, .int (x - y) :: st, M) := st_isub q96_30
theorem x96_30 {L : pj_Loc} {st : List Value} {M : pj_Mem} {x y : Int32} {o9 : Option Value × pj_Mem} : pj_Ends 96 (30, L, .int y :: .int x :: st, M) o9 = pj_Ends 96 (31, L, .int (x - y) :: st, M) o9 := pj_xs (s96_30)
theorem q96_31 : pj_row 96 31 = some (.aload_n 0, 1, 0, 0, 0) := by decide +kernel
theorem s96_31 {st : List Value} {M : pj_Mem} {l : pj_Loc} {x : Nat} : pj_step 96 (31, some (.ref x) :: l, st, M) = some (32, some (.ref x) :: l, .ref x :: st, M) := st_aload_n q96_31 rfl
theorem x96_31 {st : List Value} {M : pj_Mem} {l : pj_Loc} {x : Nat} {o9 : Option Value × pj_Mem} : pj_Ends 96 (31, some (.ref x) :: l, st, M) o9 = pj_Ends 96 (32, some (.ref x) :: l, .ref x :: st, M) o9 := pj_xs (s96_31)
theorem q96_32 : pj_row 96 32 = some (.getfield 7, 3, 6, 0, 0) := by decide +kernel
theorem s96_32 {L : pj_Loc} {st : List Value} {N S : Nat} {H : pj_Heap} {o : Nat} : pj_step 96 (32, L, .ref o :: st, (N, S, H)) = pj_pv 35 L st (N, S, H) (pj_fld (H o) 6 0) := st_getfield q96_32
theorem x96_32 {L : pj_Loc} {st : List Value} {N S : Nat} {H : pj_Heap} {o : Nat} {o9 : Option Value × pj_Mem} : pj_Ends 96 (32, L, .ref o :: st, (N, S, H)) o9 = pj_then 96 o9 (pj_pv 35 L st (N, S, H) (pj_fld (H o) 6 0)) := pj_xt q96_32 rfl (pj_cl_nc rfl) (s96_32)
theorem q96_35 : pj_row 96 35 = some (.iconst 5, 1, 0, 0, 0) := by decide +kernel
theorem s96_35 {L : pj_Loc} {st : List Value} {M : pj_Mem}  : pj_step 96 (35, L, st, M) = some (36, L, .int 5 :: st, M) := st_iconst q96_35 (by decide +kernel)
theorem x96_35 {L : pj_Loc} {st : List Value} {M : pj_Mem}  {o9 : Option Value × pj_Mem} : pj_Ends 96 (35, L, st, M) o9 = pj_Ends 96 (36, L, .int 5 :: st, M) o9 := pj_xs (s96_35)
theorem q96_36 : pj_row 96 36 = some (.iaload, 1, 0, 0, 0) := by decide +kernel
theorem s96_36 {L : pj_Loc} {st : List Value} {N S : Nat} {H : pj_Heap} {o : Nat} {i : Int32} : pj_step 96 (36, L, .int i :: .ref o :: st, (N, S, H)) = pj_pi 37 L st (N, S, H) (pj_arl (H o) 0 i) := st_iaload q96_36
theorem x96_36 {L : pj_Loc} {st : List Value} {N S : Nat} {H : pj_Heap} {o : Nat} {i : Int32} {o9 : Option Value × pj_Mem} : pj_Ends 96 (36, L, .int i :: .ref o :: st, (N, S, H)) o9 = pj_then 96 o9 (pj_pi 37 L st (N, S, H) (pj_arl (H o) 0 i)) := pj_xt q96_36 rfl (pj_cl_nc rfl) (s96_36)
theorem q96_37 : pj_row 96 37 = some (.if_icmp .lt 7, 3, 44, 0, 0) := by decide +kernel
theorem s96_37 {L : pj_Loc} {st : List Value} {M : pj_Mem} {x y : Int32} : pj_step 96 (37, L, .int y :: .int x :: st, M) = some (if x < y then 44 else 40, L, st, M) := st_icmp_lt q96_37
theorem x96_37 {L : pj_Loc} {st : List Value} {M : pj_Mem} {x y : Int32} {o9 : Option Value × pj_Mem} : pj_Ends 96 (37, L, .int y :: .int x :: st, M) o9 = pj_Ends 96 (if x < y then 44 else 40, L, st, M) o9 := pj_xs (s96_37)
theorem q96_40 : pj_row 96 40 = some (.iconst 1, 1, 0, 0, 0) := by decide +kernel
theorem s96_40 {L : pj_Loc} {st : List Value} {M : pj_Mem}  : pj_step 96 (40, L, st, M) = some (41, L, .int 1 :: st, M) := st_iconst q96_40 (by decide +kernel)
theorem x96_40 {L : pj_Loc} {st : List Value} {M : pj_Mem}  {o9 : Option Value × pj_Mem} : pj_Ends 96 (40, L, st, M) o9 = pj_Ends 96 (41, L, .int 1 :: st, M) o9 := pj_xs (s96_40)
theorem q96_41 : pj_row 96 41 = some (.goto 4, 3, 45, 0, 0) := by decide +kernel
theorem s96_41 {L : pj_Loc} {st : List Value} {M : pj_Mem}  : pj_step 96 (41, L, st, M) = some (45, L, st, M) := st_goto q96_41
theorem x96_41 {L : pj_Loc} {st : List Value} {M : pj_Mem}  {o9 : Option Value × pj_Mem} : pj_Ends 96 (41, L, st, M) o9 = pj_Ends 96 (45, L, st, M) o9 := pj_xs (s96_41)
theorem q96_44 : pj_row 96 44 = some (.iconst 0, 1, 0, 0, 0) := by decide +kernel
theorem s96_44 {L : pj_Loc} {st : List Value} {M : pj_Mem}  : pj_step 96 (44, L, st, M) = some (45, L, .int 0 :: st, M) := st_iconst q96_44 (by decide +kernel)
theorem x96_44 {L : pj_Loc} {st : List Value} {M : pj_Mem}  {o9 : Option Value × pj_Mem} : pj_Ends 96 (44, L, st, M) o9 = pj_Ends 96 (45, L, .int 0 :: st, M) o9 := pj_xs (s96_44)
theorem q96_45 : pj_row 96 45 = some (.ireturn, 1, 0, 0, 0) := by decide +kernel
theorem t96_45 {L : pj_Loc} {M : pj_Mem} {v : Int32} (hv : v = 0 ∨ v = 1) : pj_Ends 96 (45, L, [.int v], M) (some (.int v), M) := pj_Ends.ret q96_45 (pj_rtn_z rt96 hv)
theorem rt97 : pj_rt 97 = some .boolean := rfl
theorem q97_0 : pj_row 97 0 = some (.aload_n 0, 1, 0, 0, 0) := by decide +kernel
theorem s97_0 {st : List Value} {M : pj_Mem} {l : pj_Loc} {x : Nat} : pj_step 97 (0, some (.ref x) :: l, st, M) = some (1, some (.ref x) :: l, .ref x :: st, M) := st_aload_n q97_0 rfl
theorem x97_0 {st : List Value} {M : pj_Mem} {l : pj_Loc} {x : Nat} {o9 : Option Value × pj_Mem} : pj_Ends 97 (0, some (.ref x) :: l, st, M) o9 = pj_Ends 97 (1, some (.ref x) :: l, .ref x :: st, M) o9 := pj_xs (s97_0)
theorem q97_1 : pj_row 97 1 = some (.getfield 7, 3, 6, 0, 0) := by decide +kernel
theorem s97_1 {L : pj_Loc} {st : List Value} {N S : Nat} {H : pj_Heap} {o : Nat} : pj_step 97 (1, L, .ref o :: st, (N, S, H)) = pj_pv 4 L st (N, S, H) (pj_fld (H o) 6 0) := st_getfield q97_1
theorem x97_1 {L : pj_Loc} {st : List Value} {N S : Nat} {H : pj_Heap} {o : Nat} {o9 : Option Value × pj_Mem} : pj_Ends 97 (1, L, .ref o :: st, (N, S, H)) o9 = pj_then 97 o9 (pj_pv 4 L st (N, S, H) (pj_fld (H o) 6 0)) := pj_xt q97_1 rfl (pj_cl_nc rfl) (s97_1)
theorem q97_4 : pj_row 97 4 = some (.bipush 29, 2, 0, 0, 0) := by decide +kernel
theorem s97_4 {L : pj_Loc} {st : List Value} {M : pj_Mem}  : pj_step 97 (4, L, st, M) = some (6, L, .int 29 :: st, M) := st_bipush q97_4 (by decide +kernel)
theorem x97_4 {L : pj_Loc} {st : List Value} {M : pj_Mem}  {o9 : Option Value × pj_Mem} : pj_Ends 97 (4, L, st, M) o9 = pj_Ends 97 (6, L, .int 29 :: st, M) o9 := pj_xs (s97_4)
theorem q97_6 : pj_row 97 6 = some (.iaload, 1, 0, 0, 0) := by decide +kernel
theorem s97_6 {L : pj_Loc} {st : List Value} {N S : Nat} {H : pj_Heap} {o : Nat} {i : Int32} : pj_step 97 (6, L, .int i :: .ref o :: st, (N, S, H)) = pj_pi 7 L st (N, S, H) (pj_arl (H o) 0 i) := st_iaload q97_6
theorem x97_6 {L : pj_Loc} {st : List Value} {N S : Nat} {H : pj_Heap} {o : Nat} {i : Int32} {o9 : Option Value × pj_Mem} : pj_Ends 97 (6, L, .int i :: .ref o :: st, (N, S, H)) o9 = pj_then 97 o9 (pj_pi 7 L st (N, S, H) (pj_arl (H o) 0 i)) := pj_xt q97_6 rfl (pj_cl_nc rfl) (s97_6)
theorem q97_7 : pj_row 97 7 = some (.bipush (-6), 2, 0, 0, 0) := by decide +kernel
theorem s97_7 {L : pj_Loc} {st : List Value} {M : pj_Mem}  : pj_step 97 (7, L, st, M) = some (9, L, .int (-6) :: st, M) := st_bipush q97_7 (by decide +kernel)
theorem x97_7 {L : pj_Loc} {st : List Value} {M : pj_Mem}  {o9 : Option Value × pj_Mem} : pj_Ends 97 (7, L, st, M) o9 = pj_Ends 97 (9, L, .int (-6) :: st, M) o9 := pj_xs (s97_7)
theorem q97_9 : pj_row 97 9 = some (.if_icmp .eq 23, 3, 32, 0, 0) := by decide +kernel
theorem s97_9 {L : pj_Loc} {st : List Value} {M : pj_Mem} {x y : Int32} : pj_step 97 (9, L, .int y :: .int x :: st, M) = some (if x = y then 32 else 12, L, st, M) := st_icmp_eq q97_9
theorem x97_9 {L : pj_Loc} {st : List Value} {M : pj_Mem} {x y : Int32} {o9 : Option Value × pj_Mem} : pj_Ends 97 (9, L, .int y :: .int x :: st, M) o9 = pj_Ends 97 (if x = y then 32 else 12, L, st, M) o9 := pj_xs (s97_9)
theorem q97_12 : pj_row 97 12 = some (.aload_n 0, 1, 0, 0, 0) := by decide +kernel
theorem s97_12 {st : List Value} {M : pj_Mem} {l : pj_Loc} {x : Nat} : pj_step 97 (12, some (.ref x) :: l, st, M) = some (13, some (.ref x) :: l, .ref x :: st, M) := st_aload_n q97_12 rfl
theorem x97_12 {st : List Value} {M : pj_Mem} {l : pj_Loc} {x : Nat} {o9 : Option Value × pj_Mem} : pj_Ends 97 (12, some (.ref x) :: l, st, M) o9 = pj_Ends 97 (13, some (.ref x) :: l, .ref x :: st, M) o9 := pj_xs (s97_12)
theorem q97_13 : pj_row 97 13 = some (.getfield 7, 3, 6, 0, 0) := by decide +kernel
theorem s97_13 {L : pj_Loc} {st : List Value} {N S : Nat} {H : pj_Heap} {o : Nat} : pj_step 97 (13, L, .ref o :: st, (N, S, H)) = pj_pv 16 L st (N, S, H) (pj_fld (H o) 6 0) := st_getfield q97_13
theorem x97_13 {L : pj_Loc} {st : List Value} {N S : Nat} {H : pj_Heap} {o : Nat} {o9 : Option Value × pj_Mem} : pj_Ends 97 (13, L, .ref o :: st, (N, S, H)) o9 = pj_then 97 o9 (pj_pv 16 L st (N, S, H) (pj_fld (H o) 6 0)) := pj_xt q97_13 rfl (pj_cl_nc rfl) (s97_13)
theorem q97_16 : pj_row 97 16 = some (.bipush 6, 2, 0, 0, 0) := by decide +kernel
theorem s97_16 {L : pj_Loc} {st : List Value} {M : pj_Mem}  : pj_step 97 (16, L, st, M) = some (18, L, .int 6 :: st, M) := st_bipush q97_16 (by decide +kernel)
theorem x97_16 {L : pj_Loc} {st : List Value} {M : pj_Mem}  {o9 : Option Value × pj_Mem} : pj_Ends 97 (16, L, st, M) o9 = pj_Ends 97 (18, L, .int 6 :: st, M) o9 := pj_xs (s97_16)
theorem q97_18 : pj_row 97 18 = some (.iaload, 1, 0, 0, 0) := by decide +kernel
theorem s97_18 {L : pj_Loc} {st : List Value} {N S : Nat} {H : pj_Heap} {o : Nat} {i : Int32} : pj_step 97 (18, L, .int i :: .ref o :: st, (N, S, H)) = pj_pi 19 L st (N, S, H) (pj_arl (H o) 0 i) := st_iaload q97_18
theorem x97_18 {L : pj_Loc} {st : List Value} {N S : Nat} {H : pj_Heap} {o : Nat} {i : Int32} {o9 : Option Value × pj_Mem} : pj_Ends 97 (18, L, .int i :: .ref o :: st, (N, S, H)) o9 = pj_then 97 o9 (pj_pi 19 L st (N, S, H) (pj_arl (H o) 0 i)) := pj_xt q97_18 rfl (pj_cl_nc rfl) (s97_18)
theorem q97_19 : pj_row 97 19 = some (.aload_n 0, 1, 0, 0, 0) := by decide +kernel
theorem s97_19 {st : List Value} {M : pj_Mem} {l : pj_Loc} {x : Nat} : pj_step 97 (19, some (.ref x) :: l, st, M) = some (20, some (.ref x) :: l, .ref x :: st, M) := st_aload_n q97_19 rfl
theorem x97_19 {st : List Value} {M : pj_Mem} {l : pj_Loc} {x : Nat} {o9 : Option Value × pj_Mem} : pj_Ends 97 (19, some (.ref x) :: l, st, M) o9 = pj_Ends 97 (20, some (.ref x) :: l, .ref x :: st, M) o9 := pj_xs (s97_19)
theorem q97_20 : pj_row 97 20 = some (.getfield 7, 3, 6, 0, 0) := by decide +kernel
theorem s97_20 {L : pj_Loc} {st : List Value} {N S : Nat} {H : pj_Heap} {o : Nat} : pj_step 97 (20, L, .ref o :: st, (N, S, H)) = pj_pv 23 L st (N, S, H) (pj_fld (H o) 6 0) := st_getfield q97_20
theorem x97_20 {L : pj_Loc} {st : List Value} {N S : Nat} {H : pj_Heap} {o : Nat} {o9 : Option Value × pj_Mem} : pj_Ends 97 (20, L, .ref o :: st, (N, S, H)) o9 = pj_then 97 o9 (pj_pv 23 L st (N, S, H) (pj_fld (H o) 6 0)) := pj_xt q97_20 rfl (pj_cl_nc rfl) (s97_20)
theorem q97_23 : pj_row 97 23 = some (.bipush 29, 2, 0, 0, 0) := by decide +kernel
theorem s97_23 {L : pj_Loc} {st : List Value} {M : pj_Mem}  : pj_step 97 (23, L, st, M) = some (25, L, .int 29 :: st, M) := st_bipush q97_23 (by decide +kernel)
theorem x97_23 {L : pj_Loc} {st : List Value} {M : pj_Mem}  {o9 : Option Value × pj_Mem} : pj_Ends 97 (23, L, st, M) o9 = pj_Ends 97 (25, L, .int 29 :: st, M) o9 := pj_xs (s97_23)
theorem q97_25 : pj_row 97 25 = some (.iaload, 1, 0, 0, 0) := by decide +kernel
theorem s97_25 {L : pj_Loc} {st : List Value} {N S : Nat} {H : pj_Heap} {o : Nat} {i : Int32} : pj_step 97 (25, L, .int i :: .ref o :: st, (N, S, H)) = pj_pi 26 L st (N, S, H) (pj_arl (H o) 0 i) := st_iaload q97_25
theorem x97_25 {L : pj_Loc} {st : List Value} {N S : Nat} {H : pj_Heap} {o : Nat} {i : Int32} {o9 : Option Value × pj_Mem} : pj_Ends 97 (25, L, .int i :: .ref o :: st, (N, S, H)) o9 = pj_then 97 o9 (pj_pi 26 L st (N, S, H) (pj_arl (H o) 0 i)) := pj_xt q97_25 rfl (pj_cl_nc rfl) (s97_25)
theorem q97_26 : pj_row 97 26 = some (.bipush 6, 2, 0, 0, 0) := by decide +kernel
theorem s97_26 {L : pj_Loc} {st : List Value} {M : pj_Mem}  : pj_step 97 (26, L, st, M) = some (28, L, .int 6 :: st, M) := st_bipush q97_26 (by decide +kernel)
theorem x97_26 {L : pj_Loc} {st : List Value} {M : pj_Mem}  {o9 : Option Value × pj_Mem} : pj_Ends 97 (26, L, st, M) o9 = pj_Ends 97 (28, L, .int 6 :: st, M) o9 := pj_xs (s97_26)
theorem q97_28 : pj_row 97 28 = some (.iadd, 1, 0, 0, 0) := by decide +kernel
theorem s97_28 {L : pj_Loc} {st : List Value} {M : pj_Mem} {x y : Int32} : pj_step 97 (28, L, .int y :: .int x :: st, M) = some (29, L, .int (x + y) :: st, M) := st_iadd q97_28
theorem x97_28 {L : pj_Loc} {st : List Value} {M : pj_Mem} {x y : Int32} {o9 : Option Value × pj_Mem} : pj_Ends 97 (28, L, .int y :: .int x :: st, M) o9 = pj_Ends 97 (29, L, .int (x + y) :: st, M) o9 := pj_xs (s97_28)
theorem q97_29 : pj_row 97 29 = some (.if_icmp .gt 7, 3, 36, 0, 0) := by decide +kernel
theorem s97_29 {L : pj_Loc} {st : List Value} {M : pj_Mem} {x y : Int32} : pj_step 97 (29, L, .int y :: .int x :: st, M) = some (if y < x then 36 else 32, L, st, M) := st_icmp_gt q97_29
theorem x97_29 {L : pj_Loc} {st : List Value} {M : pj_Mem} {x y : Int32} {o9 : Option Value × pj_Mem} : pj_Ends 97 (29, L, .int y :: .int x :: st, M) o9 = pj_Ends 97 (if y < x then 36 else 32, L, st, M) o9 := pj_xs (s97_29)
theorem q97_32 : pj_row 97 32 = some (.iconst 1, 1, 0, 0, 0) := by decide +kernel
theorem s97_32 {L : pj_Loc} {st : List Value} {M : pj_Mem}  : pj_step 97 (32, L, st, M) = some (33, L, .int 1 :: st, M) := st_iconst q97_32 (by decide +kernel)
theorem x97_32 {L : pj_Loc} {st : List Value} {M : pj_Mem}  {o9 : Option Value × pj_Mem} : pj_Ends 97 (32, L, st, M) o9 = pj_Ends 97 (33, L, .int 1 :: st, M) o9 := pj_xs (s97_32)
theorem q97_33 : pj_row 97 33 = some (.goto 4, 3, 37, 0, 0) := by decide +kernel
theorem s97_33 {L : pj_Loc} {st : List Value} {M : pj_Mem}  : pj_step 97 (33, L, st, M) = some (37, L, st, M) := st_goto q97_33
theorem x97_33 {L : pj_Loc} {st : List Value} {M : pj_Mem}  {o9 : Option Value × pj_Mem} : pj_Ends 97 (33, L, st, M) o9 = pj_Ends 97 (37, L, st, M) o9 := pj_xs (s97_33)
theorem q97_36 : pj_row 97 36 = some (.iconst 0, 1, 0, 0, 0) := by decide +kernel
theorem s97_36 {L : pj_Loc} {st : List Value} {M : pj_Mem}  : pj_step 97 (36, L, st, M) = some (37, L, .int 0 :: st, M) := st_iconst q97_36 (by decide +kernel)
theorem x97_36 {L : pj_Loc} {st : List Value} {M : pj_Mem}  {o9 : Option Value × pj_Mem} : pj_Ends 97 (36, L, st, M) o9 = pj_Ends 97 (37, L, .int 0 :: st, M) o9 := pj_xs (s97_36)
theorem q97_37 : pj_row 97 37 = some (.ireturn, 1, 0, 0, 0) := by decide +kernel
theorem t97_37 {L : pj_Loc} {M : pj_Mem} {v : Int32} (hv : v = 0 ∨ v = 1) : pj_Ends 97 (37, L, [.int v], M) (some (.int v), M) := pj_Ends.ret q97_37 (pj_rtn_z rt97 hv)
theorem rt98 : pj_rt 98 = none := rfl
theorem q98_0 : pj_row 98 0 = some (.aload_n 0, 1, 0, 0, 0) := by decide +kernel
theorem s98_0 {st : List Value} {M : pj_Mem} {l : pj_Loc} {x : Nat} : pj_step 98 (0, some (.ref x) :: l, st, M) = some (1, some (.ref x) :: l, .ref x :: st, M) := st_aload_n q98_0 rfl
theorem x98_0 {st : List Value} {M : pj_Mem} {l : pj_Loc} {x : Nat} {o9 : Option Value × pj_Mem} : pj_Ends 98 (0, some (.ref x) :: l, st, M) o9 = pj_Ends 98 (1, some (.ref x) :: l, .ref x :: st, M) o9 := pj_xs (s98_0)
theorem q98_1 : pj_row 98 1 = some (.getfield 7, 3, 6, 0, 0) := by decide +kernel
theorem s98_1 {L : pj_Loc} {st : List Value} {N S : Nat} {H : pj_Heap} {o : Nat} : pj_step 98 (1, L, .ref o :: st, (N, S, H)) = pj_pv 4 L st (N, S, H) (pj_fld (H o) 6 0) := st_getfield q98_1
theorem x98_1 {L : pj_Loc} {st : List Value} {N S : Nat} {H : pj_Heap} {o : Nat} {o9 : Option Value × pj_Mem} : pj_Ends 98 (1, L, .ref o :: st, (N, S, H)) o9 = pj_then 98 o9 (pj_pv 4 L st (N, S, H) (pj_fld (H o) 6 0)) := pj_xt q98_1 rfl (pj_cl_nc rfl) (s98_1)
theorem q98_4 : pj_row 98 4 = some (.bipush 30, 2, 0, 0, 0) := by decide +kernel
theorem s98_4 {L : pj_Loc} {st : List Value} {M : pj_Mem}  : pj_step 98 (4, L, st, M) = some (6, L, .int 30 :: st, M) := st_bipush q98_4 (by decide +kernel)
theorem x98_4 {L : pj_Loc} {st : List Value} {M : pj_Mem}  {o9 : Option Value × pj_Mem} : pj_Ends 98 (4, L, st, M) o9 = pj_Ends 98 (6, L, .int 30 :: st, M) o9 := pj_xs (s98_4)
theorem q98_6 : pj_row 98 6 = some (.iaload, 1, 0, 0, 0) := by decide +kernel
theorem s98_6 {L : pj_Loc} {st : List Value} {N S : Nat} {H : pj_Heap} {o : Nat} {i : Int32} : pj_step 98 (6, L, .int i :: .ref o :: st, (N, S, H)) = pj_pi 7 L st (N, S, H) (pj_arl (H o) 0 i) := st_iaload q98_6
theorem x98_6 {L : pj_Loc} {st : List Value} {N S : Nat} {H : pj_Heap} {o : Nat} {i : Int32} {o9 : Option Value × pj_Mem} : pj_Ends 98 (6, L, .int i :: .ref o :: st, (N, S, H)) o9 = pj_then 98 o9 (pj_pi 7 L st (N, S, H) (pj_arl (H o) 0 i)) := pj_xt q98_6 rfl (pj_cl_nc rfl) (s98_6)
theorem q98_7 : pj_row 98 7 = some (.bipush 12, 2, 0, 0, 0) := by decide +kernel
theorem s98_7 {L : pj_Loc} {st : List Value} {M : pj_Mem}  : pj_step 98 (7, L, st, M) = some (9, L, .int 12 :: st, M) := st_bipush q98_7 (by decide +kernel)
theorem x98_7 {L : pj_Loc} {st : List Value} {M : pj_Mem}  {o9 : Option Value × pj_Mem} : pj_Ends 98 (7, L, st, M) o9 = pj_Ends 98 (9, L, .int 12 :: st, M) o9 := pj_xs (s98_7)
theorem q98_9 : pj_row 98 9 = some (.if_icmp .ne 49, 3, 58, 0, 0) := by decide +kernel
theorem s98_9 {L : pj_Loc} {st : List Value} {M : pj_Mem} {x y : Int32} : pj_step 98 (9, L, .int y :: .int x :: st, M) = some (if ¬ x = y then 58 else 12, L, st, M) := st_icmp_ne q98_9
theorem x98_9 {L : pj_Loc} {st : List Value} {M : pj_Mem} {x y : Int32} {o9 : Option Value × pj_Mem} : pj_Ends 98 (9, L, .int y :: .int x :: st, M) o9 = pj_Ends 98 (if ¬ x = y then 58 else 12, L, st, M) o9 := pj_xs (s98_9)
theorem q98_12 : pj_row 98 12 = some (.iconst 0, 1, 0, 0, 0) := by decide +kernel
theorem s98_12 {L : pj_Loc} {st : List Value} {M : pj_Mem}  : pj_step 98 (12, L, st, M) = some (13, L, .int 0 :: st, M) := st_iconst q98_12 (by decide +kernel)
theorem x98_12 {L : pj_Loc} {st : List Value} {M : pj_Mem}  {o9 : Option Value × pj_Mem} : pj_Ends 98 (12, L, st, M) o9 = pj_Ends 98 (13, L, .int 0 :: st, M) o9 := pj_xs (s98_12)
theorem q98_13 : pj_row 98 13 = some (.istore_n 2, 1, 0, 0, 0) := by decide +kernel
theorem s98_13 {st : List Value} {M : pj_Mem} {l : pj_Loc} {a0 a1 a2 : Option Value} {x : Int32} (h : pj_long a1 = false) : pj_step 98 (13, a0 :: a1 :: a2 :: l, .int x :: st, M) = some (14, a0 :: a1 :: some (.int x) :: l, st, M) := st_istore_n q98_13 (pj_st_2 h)
theorem x98_13 {st : List Value} {M : pj_Mem} {l : pj_Loc} {a0 a1 a2 : Option Value} {x : Int32} (h : pj_long a1 = false) {o9 : Option Value × pj_Mem} : pj_Ends 98 (13, a0 :: a1 :: a2 :: l, .int x :: st, M) o9 = pj_Ends 98 (14, a0 :: a1 :: some (.int x) :: l, st, M) o9 := pj_xs (s98_13 h)
theorem q98_14 : pj_row 98 14 = some (.iload_n 2, 1, 0, 0, 0) := by decide +kernel
theorem s98_14 {st : List Value} {M : pj_Mem} {l : pj_Loc} {a0 a1 : Option Value} {x : Int32} : pj_step 98 (14, a0 :: a1 :: some (.int x) :: l, st, M) = some (15, a0 :: a1 :: some (.int x) :: l, .int x :: st, M) := st_iload_n q98_14 rfl
theorem x98_14 {st : List Value} {M : pj_Mem} {l : pj_Loc} {a0 a1 : Option Value} {x : Int32} {o9 : Option Value × pj_Mem} : pj_Ends 98 (14, a0 :: a1 :: some (.int x) :: l, st, M) o9 = pj_Ends 98 (15, a0 :: a1 :: some (.int x) :: l, .int x :: st, M) o9 := pj_xs (s98_14)
theorem q98_15 : pj_row 98 15 = some (.bipush 110, 2, 0, 0, 0) := by decide +kernel
theorem s98_15 {L : pj_Loc} {st : List Value} {M : pj_Mem}  : pj_step 98 (15, L, st, M) = some (17, L, .int 110 :: st, M) := st_bipush q98_15 (by decide +kernel)
theorem x98_15 {L : pj_Loc} {st : List Value} {M : pj_Mem}  {o9 : Option Value × pj_Mem} : pj_Ends 98 (15, L, st, M) o9 = pj_Ends 98 (17, L, .int 110 :: st, M) o9 := pj_xs (s98_15)
theorem q98_17 : pj_row 98 17 = some (.if_icmp .ge 30, 3, 47, 0, 0) := by decide +kernel
theorem s98_17 {L : pj_Loc} {st : List Value} {M : pj_Mem} {x y : Int32} : pj_step 98 (17, L, .int y :: .int x :: st, M) = some (if y ≤ x then 47 else 20, L, st, M) := st_icmp_ge q98_17
theorem x98_17 {L : pj_Loc} {st : List Value} {M : pj_Mem} {x y : Int32} {o9 : Option Value × pj_Mem} : pj_Ends 98 (17, L, .int y :: .int x :: st, M) o9 = pj_Ends 98 (if y ≤ x then 47 else 20, L, st, M) o9 := pj_xs (s98_17)
theorem q98_20 : pj_row 98 20 = some (.aload_n 0, 1, 0, 0, 0) := by decide +kernel
theorem s98_20 {st : List Value} {M : pj_Mem} {l : pj_Loc} {x : Nat} : pj_step 98 (20, some (.ref x) :: l, st, M) = some (21, some (.ref x) :: l, .ref x :: st, M) := st_aload_n q98_20 rfl
theorem x98_20 {st : List Value} {M : pj_Mem} {l : pj_Loc} {x : Nat} {o9 : Option Value × pj_Mem} : pj_Ends 98 (20, some (.ref x) :: l, st, M) o9 = pj_Ends 98 (21, some (.ref x) :: l, .ref x :: st, M) o9 := pj_xs (s98_20)
theorem q98_21 : pj_row 98 21 = some (.getfield 7, 3, 6, 0, 0) := by decide +kernel
theorem s98_21 {L : pj_Loc} {st : List Value} {N S : Nat} {H : pj_Heap} {o : Nat} : pj_step 98 (21, L, .ref o :: st, (N, S, H)) = pj_pv 24 L st (N, S, H) (pj_fld (H o) 6 0) := st_getfield q98_21
theorem x98_21 {L : pj_Loc} {st : List Value} {N S : Nat} {H : pj_Heap} {o : Nat} {o9 : Option Value × pj_Mem} : pj_Ends 98 (21, L, .ref o :: st, (N, S, H)) o9 = pj_then 98 o9 (pj_pv 24 L st (N, S, H) (pj_fld (H o) 6 0)) := pj_xt q98_21 rfl (pj_cl_nc rfl) (s98_21)
theorem q98_24 : pj_row 98 24 = some (.bipush 31, 2, 0, 0, 0) := by decide +kernel
theorem s98_24 {L : pj_Loc} {st : List Value} {M : pj_Mem}  : pj_step 98 (24, L, st, M) = some (26, L, .int 31 :: st, M) := st_bipush q98_24 (by decide +kernel)
theorem x98_24 {L : pj_Loc} {st : List Value} {M : pj_Mem}  {o9 : Option Value × pj_Mem} : pj_Ends 98 (24, L, st, M) o9 = pj_Ends 98 (26, L, .int 31 :: st, M) o9 := pj_xs (s98_24)
theorem q98_26 : pj_row 98 26 = some (.iload_n 2, 1, 0, 0, 0) := by decide +kernel
theorem s98_26 {st : List Value} {M : pj_Mem} {l : pj_Loc} {a0 a1 : Option Value} {x : Int32} : pj_step 98 (26, a0 :: a1 :: some (.int x) :: l, st, M) = some (27, a0 :: a1 :: some (.int x) :: l, .int x :: st, M) := st_iload_n q98_26 rfl
theorem x98_26 {st : List Value} {M : pj_Mem} {l : pj_Loc} {a0 a1 : Option Value} {x : Int32} {o9 : Option Value × pj_Mem} : pj_Ends 98 (26, a0 :: a1 :: some (.int x) :: l, st, M) o9 = pj_Ends 98 (27, a0 :: a1 :: some (.int x) :: l, .int x :: st, M) o9 := pj_xs (s98_26)
theorem q98_27 : pj_row 98 27 = some (.iadd, 1, 0, 0, 0) := by decide +kernel
theorem s98_27 {L : pj_Loc} {st : List Value} {M : pj_Mem} {x y : Int32} : pj_step 98 (27, L, .int y :: .int x :: st, M) = some (28, L, .int (x + y) :: st, M) := st_iadd q98_27
theorem x98_27 {L : pj_Loc} {st : List Value} {M : pj_Mem} {x y : Int32} {o9 : Option Value × pj_Mem} : pj_Ends 98 (27, L, .int y :: .int x :: st, M) o9 = pj_Ends 98 (28, L, .int (x + y) :: st, M) o9 := pj_xs (s98_27)
theorem q98_28 : pj_row 98 28 = some (.aload_n 0, 1, 0, 0, 0) := by decide +kernel
theorem s98_28 {st : List Value} {M : pj_Mem} {l : pj_Loc} {x : Nat} : pj_step 98 (28, some (.ref x) :: l, st, M) = some (29, some (.ref x) :: l, .ref x :: st, M) := st_aload_n q98_28 rfl
theorem x98_28 {st : List Value} {M : pj_Mem} {l : pj_Loc} {x : Nat} {o9 : Option Value × pj_Mem} : pj_Ends 98 (28, some (.ref x) :: l, st, M) o9 = pj_Ends 98 (29, some (.ref x) :: l, .ref x :: st, M) o9 := pj_xs (s98_28)
theorem q98_29 : pj_row 98 29 = some (.getfield 7, 3, 6, 0, 0) := by decide +kernel
theorem s98_29 {L : pj_Loc} {st : List Value} {N S : Nat} {H : pj_Heap} {o : Nat} : pj_step 98 (29, L, .ref o :: st, (N, S, H)) = pj_pv 32 L st (N, S, H) (pj_fld (H o) 6 0) := st_getfield q98_29
theorem x98_29 {L : pj_Loc} {st : List Value} {N S : Nat} {H : pj_Heap} {o : Nat} {o9 : Option Value × pj_Mem} : pj_Ends 98 (29, L, .ref o :: st, (N, S, H)) o9 = pj_then 98 o9 (pj_pv 32 L st (N, S, H) (pj_fld (H o) 6 0)) := pj_xt q98_29 rfl (pj_cl_nc rfl) (s98_29)
theorem q98_32 : pj_row 98 32 = some (.bipush 31, 2, 0, 0, 0) := by decide +kernel
theorem s98_32 {L : pj_Loc} {st : List Value} {M : pj_Mem}  : pj_step 98 (32, L, st, M) = some (34, L, .int 31 :: st, M) := st_bipush q98_32 (by decide +kernel)
theorem x98_32 {L : pj_Loc} {st : List Value} {M : pj_Mem}  {o9 : Option Value × pj_Mem} : pj_Ends 98 (32, L, st, M) o9 = pj_Ends 98 (34, L, .int 31 :: st, M) o9 := pj_xs (s98_32)
theorem q98_34 : pj_row 98 34 = some (.iload_n 2, 1, 0, 0, 0) := by decide +kernel
theorem s98_34 {st : List Value} {M : pj_Mem} {l : pj_Loc} {a0 a1 : Option Value} {x : Int32} : pj_step 98 (34, a0 :: a1 :: some (.int x) :: l, st, M) = some (35, a0 :: a1 :: some (.int x) :: l, .int x :: st, M) := st_iload_n q98_34 rfl
theorem x98_34 {st : List Value} {M : pj_Mem} {l : pj_Loc} {a0 a1 : Option Value} {x : Int32} {o9 : Option Value × pj_Mem} : pj_Ends 98 (34, a0 :: a1 :: some (.int x) :: l, st, M) o9 = pj_Ends 98 (35, a0 :: a1 :: some (.int x) :: l, .int x :: st, M) o9 := pj_xs (s98_34)
theorem q98_35 : pj_row 98 35 = some (.iadd, 1, 0, 0, 0) := by decide +kernel
theorem s98_35 {L : pj_Loc} {st : List Value} {M : pj_Mem} {x y : Int32} : pj_step 98 (35, L, .int y :: .int x :: st, M) = some (36, L, .int (x + y) :: st, M) := st_iadd q98_35
theorem x98_35 {L : pj_Loc} {st : List Value} {M : pj_Mem} {x y : Int32} {o9 : Option Value × pj_Mem} : pj_Ends 98 (35, L, .int y :: .int x :: st, M) o9 = pj_Ends 98 (36, L, .int (x + y) :: st, M) o9 := pj_xs (s98_35)
theorem q98_36 : pj_row 98 36 = some (.bipush 10, 2, 0, 0, 0) := by decide +kernel
theorem s98_36 {L : pj_Loc} {st : List Value} {M : pj_Mem}  : pj_step 98 (36, L, st, M) = some (38, L, .int 10 :: st, M) := st_bipush q98_36 (by decide +kernel)
theorem x98_36 {L : pj_Loc} {st : List Value} {M : pj_Mem}  {o9 : Option Value × pj_Mem} : pj_Ends 98 (36, L, st, M) o9 = pj_Ends 98 (38, L, .int 10 :: st, M) o9 := pj_xs (s98_36)
theorem q98_38 : pj_row 98 38 = some (.iadd, 1, 0, 0, 0) := by decide +kernel
theorem s98_38 {L : pj_Loc} {st : List Value} {M : pj_Mem} {x y : Int32} : pj_step 98 (38, L, .int y :: .int x :: st, M) = some (39, L, .int (x + y) :: st, M) := st_iadd q98_38
theorem x98_38 {L : pj_Loc} {st : List Value} {M : pj_Mem} {x y : Int32} {o9 : Option Value × pj_Mem} : pj_Ends 98 (38, L, .int y :: .int x :: st, M) o9 = pj_Ends 98 (39, L, .int (x + y) :: st, M) o9 := pj_xs (s98_38)
theorem q98_39 : pj_row 98 39 = some (.iaload, 1, 0, 0, 0) := by decide +kernel
theorem s98_39 {L : pj_Loc} {st : List Value} {N S : Nat} {H : pj_Heap} {o : Nat} {i : Int32} : pj_step 98 (39, L, .int i :: .ref o :: st, (N, S, H)) = pj_pi 40 L st (N, S, H) (pj_arl (H o) 0 i) := st_iaload q98_39
theorem x98_39 {L : pj_Loc} {st : List Value} {N S : Nat} {H : pj_Heap} {o : Nat} {i : Int32} {o9 : Option Value × pj_Mem} : pj_Ends 98 (39, L, .int i :: .ref o :: st, (N, S, H)) o9 = pj_then 98 o9 (pj_pi 40 L st (N, S, H) (pj_arl (H o) 0 i)) := pj_xt q98_39 rfl (pj_cl_nc rfl) (s98_39)
theorem q98_40 : pj_row 98 40 = some (.iastore, 1, 0, 0, 0) := by decide +kernel
theorem s98_40 {L : pj_Loc} {st : List Value} {N S : Nat} {H : pj_Heap} {o : Nat} {i x : Int32} : pj_step 98 (40, L, .int x :: .int i :: .ref o :: st, (N, S, H)) = pj_set 41 L st (N, S, H) o (pj_ars (H o) 0 i x) := st_iastore q98_40
theorem x98_40 {L : pj_Loc} {st : List Value} {N S : Nat} {H : pj_Heap} {o : Nat} {i x : Int32} {o9 : Option Value × pj_Mem} : pj_Ends 98 (40, L, .int x :: .int i :: .ref o :: st, (N, S, H)) o9 = pj_then 98 o9 (pj_set 41 L st (N, S, H) o (pj_ars (H o) 0 i x)) := pj_xt q98_40 rfl (pj_cl_nc rfl) (s98_40)
theorem q98_41 : pj_row 98 41 = some (.iinc 2 1, 3, 0, 0, 0) := by decide +kernel
theorem s98_41 {st : List Value} {M : pj_Mem} {l : pj_Loc} {a0 a1 : Option Value} {x : Int32} (h : pj_long a1 = false) : pj_step 98 (41, a0 :: a1 :: some (.int x) :: l, st, M) = some (44, a0 :: a1 :: some (.int (x + 1)) :: l, st, M) := st_iinc q98_41 rfl (congrArg (fun y => x + y) (show Int32.ofInt 1 = 1 by decide +kernel)) (pj_st_2 h)
theorem x98_41 {st : List Value} {M : pj_Mem} {l : pj_Loc} {a0 a1 : Option Value} {x : Int32} (h : pj_long a1 = false) {o9 : Option Value × pj_Mem} : pj_Ends 98 (41, a0 :: a1 :: some (.int x) :: l, st, M) o9 = pj_Ends 98 (44, a0 :: a1 :: some (.int (x + 1)) :: l, st, M) o9 := pj_xs (s98_41 h)
theorem q98_44 : pj_row 98 44 = some (.goto (-30), 3, 14, 0, 0) := by decide +kernel
theorem s98_44 {L : pj_Loc} {st : List Value} {M : pj_Mem}  : pj_step 98 (44, L, st, M) = some (14, L, st, M) := st_goto q98_44
theorem x98_44 {L : pj_Loc} {st : List Value} {M : pj_Mem}  {o9 : Option Value × pj_Mem} : pj_Ends 98 (44, L, st, M) o9 = pj_Ends 98 (14, L, st, M) o9 := pj_xs (s98_44)
theorem q98_47 : pj_row 98 47 = some (.aload_n 0, 1, 0, 0, 0) := by decide +kernel
theorem s98_47 {st : List Value} {M : pj_Mem} {l : pj_Loc} {x : Nat} : pj_step 98 (47, some (.ref x) :: l, st, M) = some (48, some (.ref x) :: l, .ref x :: st, M) := st_aload_n q98_47 rfl
theorem x98_47 {st : List Value} {M : pj_Mem} {l : pj_Loc} {x : Nat} {o9 : Option Value × pj_Mem} : pj_Ends 98 (47, some (.ref x) :: l, st, M) o9 = pj_Ends 98 (48, some (.ref x) :: l, .ref x :: st, M) o9 := pj_xs (s98_47)
theorem q98_48 : pj_row 98 48 = some (.getfield 7, 3, 6, 0, 0) := by decide +kernel
theorem s98_48 {L : pj_Loc} {st : List Value} {N S : Nat} {H : pj_Heap} {o : Nat} : pj_step 98 (48, L, .ref o :: st, (N, S, H)) = pj_pv 51 L st (N, S, H) (pj_fld (H o) 6 0) := st_getfield q98_48
theorem x98_48 {L : pj_Loc} {st : List Value} {N S : Nat} {H : pj_Heap} {o : Nat} {o9 : Option Value × pj_Mem} : pj_Ends 98 (48, L, .ref o :: st, (N, S, H)) o9 = pj_then 98 o9 (pj_pv 51 L st (N, S, H) (pj_fld (H o) 6 0)) := pj_xt q98_48 rfl (pj_cl_nc rfl) (s98_48)
theorem q98_51 : pj_row 98 51 = some (.bipush 30, 2, 0, 0, 0) := by decide +kernel
theorem s98_51 {L : pj_Loc} {st : List Value} {M : pj_Mem}  : pj_step 98 (51, L, st, M) = some (53, L, .int 30 :: st, M) := st_bipush q98_51 (by decide +kernel)
theorem x98_51 {L : pj_Loc} {st : List Value} {M : pj_Mem}  {o9 : Option Value × pj_Mem} : pj_Ends 98 (51, L, st, M) o9 = pj_Ends 98 (53, L, .int 30 :: st, M) o9 := pj_xs (s98_51)
theorem q98_53 : pj_row 98 53 = some (.dup2, 1, 0, 0, 0) := by decide +kernel
theorem s98_53 {L : pj_Loc} {st : List Value} {M : pj_Mem} {x : Int32} {o : Nat} : pj_step 98 (53, L, .int x :: .ref o :: st, M) = some (54, L, .int x :: .ref o :: .int x :: .ref o :: st, M) := st_dup2 q98_53
theorem x98_53 {L : pj_Loc} {st : List Value} {M : pj_Mem} {x : Int32} {o : Nat} {o9 : Option Value × pj_Mem} : pj_Ends 98 (53, L, .int x :: .ref o :: st, M) o9 = pj_Ends 98 (54, L, .int x :: .ref o :: .int x :: .ref o :: st, M) o9 := pj_xs (s98_53)
theorem q98_54 : pj_row 98 54 = some (.iaload, 1, 0, 0, 0) := by decide +kernel
theorem s98_54 {L : pj_Loc} {st : List Value} {N S : Nat} {H : pj_Heap} {o : Nat} {i : Int32} : pj_step 98 (54, L, .int i :: .ref o :: st, (N, S, H)) = pj_pi 55 L st (N, S, H) (pj_arl (H o) 0 i) := st_iaload q98_54
theorem x98_54 {L : pj_Loc} {st : List Value} {N S : Nat} {H : pj_Heap} {o : Nat} {i : Int32} {o9 : Option Value × pj_Mem} : pj_Ends 98 (54, L, .int i :: .ref o :: st, (N, S, H)) o9 = pj_then 98 o9 (pj_pi 55 L st (N, S, H) (pj_arl (H o) 0 i)) := pj_xt q98_54 rfl (pj_cl_nc rfl) (s98_54)
theorem q98_55 : pj_row 98 55 = some (.iconst 1, 1, 0, 0, 0) := by decide +kernel
theorem s98_55 {L : pj_Loc} {st : List Value} {M : pj_Mem}  : pj_step 98 (55, L, st, M) = some (56, L, .int 1 :: st, M) := st_iconst q98_55 (by decide +kernel)
theorem x98_55 {L : pj_Loc} {st : List Value} {M : pj_Mem}  {o9 : Option Value × pj_Mem} : pj_Ends 98 (55, L, st, M) o9 = pj_Ends 98 (56, L, .int 1 :: st, M) o9 := pj_xs (s98_55)
theorem q98_56 : pj_row 98 56 = some (.isub, 1, 0, 0, 0) := by decide +kernel
theorem s98_56 {L : pj_Loc} {st : List Value} {M : pj_Mem} {x y : Int32} : pj_step 98 (56, L, .int y :: .int x :: st, M) = some (57, L, .int (x - y) :: st, M) := st_isub q98_56
theorem x98_56 {L : pj_Loc} {st : List Value} {M : pj_Mem} {x y : Int32} {o9 : Option Value × pj_Mem} : pj_Ends 98 (56, L, .int y :: .int x :: st, M) o9 = pj_Ends 98 (57, L, .int (x - y) :: st, M) o9 := pj_xs (s98_56)
theorem q98_57 : pj_row 98 57 = some (.iastore, 1, 0, 0, 0) := by decide +kernel
theorem s98_57 {L : pj_Loc} {st : List Value} {N S : Nat} {H : pj_Heap} {o : Nat} {i x : Int32} : pj_step 98 (57, L, .int x :: .int i :: .ref o :: st, (N, S, H)) = pj_set 58 L st (N, S, H) o (pj_ars (H o) 0 i x) := st_iastore q98_57
theorem x98_57 {L : pj_Loc} {st : List Value} {N S : Nat} {H : pj_Heap} {o : Nat} {i x : Int32} {o9 : Option Value × pj_Mem} : pj_Ends 98 (57, L, .int x :: .int i :: .ref o :: st, (N, S, H)) o9 = pj_then 98 o9 (pj_set 58 L st (N, S, H) o (pj_ars (H o) 0 i x)) := pj_xt q98_57 rfl (pj_cl_nc rfl) (s98_57)
theorem q98_58 : pj_row 98 58 = some (.bipush 31, 2, 0, 0, 0) := by decide +kernel
theorem s98_58 {L : pj_Loc} {st : List Value} {M : pj_Mem}  : pj_step 98 (58, L, st, M) = some (60, L, .int 31 :: st, M) := st_bipush q98_58 (by decide +kernel)
theorem x98_58 {L : pj_Loc} {st : List Value} {M : pj_Mem}  {o9 : Option Value × pj_Mem} : pj_Ends 98 (58, L, st, M) o9 = pj_Ends 98 (60, L, .int 31 :: st, M) o9 := pj_xs (s98_58)
theorem q98_60 : pj_row 98 60 = some (.bipush 10, 2, 0, 0, 0) := by decide +kernel
theorem s98_60 {L : pj_Loc} {st : List Value} {M : pj_Mem}  : pj_step 98 (60, L, st, M) = some (62, L, .int 10 :: st, M) := st_bipush q98_60 (by decide +kernel)
theorem x98_60 {L : pj_Loc} {st : List Value} {M : pj_Mem}  {o9 : Option Value × pj_Mem} : pj_Ends 98 (60, L, st, M) o9 = pj_Ends 98 (62, L, .int 10 :: st, M) o9 := pj_xs (s98_60)
theorem q98_62 : pj_row 98 62 = some (.aload_n 0, 1, 0, 0, 0) := by decide +kernel
theorem s98_62 {st : List Value} {M : pj_Mem} {l : pj_Loc} {x : Nat} : pj_step 98 (62, some (.ref x) :: l, st, M) = some (63, some (.ref x) :: l, .ref x :: st, M) := st_aload_n q98_62 rfl
theorem x98_62 {st : List Value} {M : pj_Mem} {l : pj_Loc} {x : Nat} {o9 : Option Value × pj_Mem} : pj_Ends 98 (62, some (.ref x) :: l, st, M) o9 = pj_Ends 98 (63, some (.ref x) :: l, .ref x :: st, M) o9 := pj_xs (s98_62)
theorem q98_63 : pj_row 98 63 = some (.getfield 7, 3, 6, 0, 0) := by decide +kernel
theorem s98_63 {L : pj_Loc} {st : List Value} {N S : Nat} {H : pj_Heap} {o : Nat} : pj_step 98 (63, L, .ref o :: st, (N, S, H)) = pj_pv 66 L st (N, S, H) (pj_fld (H o) 6 0) := st_getfield q98_63
theorem x98_63 {L : pj_Loc} {st : List Value} {N S : Nat} {H : pj_Heap} {o : Nat} {o9 : Option Value × pj_Mem} : pj_Ends 98 (63, L, .ref o :: st, (N, S, H)) o9 = pj_then 98 o9 (pj_pv 66 L st (N, S, H) (pj_fld (H o) 6 0)) := pj_xt q98_63 rfl (pj_cl_nc rfl) (s98_63)
theorem q98_66 : pj_row 98 66 = some (.bipush 30, 2, 0, 0, 0) := by decide +kernel
theorem s98_66 {L : pj_Loc} {st : List Value} {M : pj_Mem}  : pj_step 98 (66, L, st, M) = some (68, L, .int 30 :: st, M) := st_bipush q98_66 (by decide +kernel)
theorem x98_66 {L : pj_Loc} {st : List Value} {M : pj_Mem}  {o9 : Option Value × pj_Mem} : pj_Ends 98 (66, L, st, M) o9 = pj_Ends 98 (68, L, .int 30 :: st, M) o9 := pj_xs (s98_66)
theorem q98_68 : pj_row 98 68 = some (.iaload, 1, 0, 0, 0) := by decide +kernel
theorem s98_68 {L : pj_Loc} {st : List Value} {N S : Nat} {H : pj_Heap} {o : Nat} {i : Int32} : pj_step 98 (68, L, .int i :: .ref o :: st, (N, S, H)) = pj_pi 69 L st (N, S, H) (pj_arl (H o) 0 i) := st_iaload q98_68
theorem x98_68 {L : pj_Loc} {st : List Value} {N S : Nat} {H : pj_Heap} {o : Nat} {i : Int32} {o9 : Option Value × pj_Mem} : pj_Ends 98 (68, L, .int i :: .ref o :: st, (N, S, H)) o9 = pj_then 98 o9 (pj_pi 69 L st (N, S, H) (pj_arl (H o) 0 i)) := pj_xt q98_68 rfl (pj_cl_nc rfl) (s98_68)
theorem q98_69 : pj_row 98 69 = some (.imul, 1, 0, 0, 0) := by decide +kernel
theorem s98_69 {L : pj_Loc} {st : List Value} {M : pj_Mem} {x y : Int32} : pj_step 98 (69, L, .int y :: .int x :: st, M) = some (70, L, .int (x * y) :: st, M) := st_imul q98_69
theorem x98_69 {L : pj_Loc} {st : List Value} {M : pj_Mem} {x y : Int32} {o9 : Option Value × pj_Mem} : pj_Ends 98 (69, L, .int y :: .int x :: st, M) o9 = pj_Ends 98 (70, L, .int (x * y) :: st, M) o9 := pj_xs (s98_69)
theorem q98_70 : pj_row 98 70 = some (.iadd, 1, 0, 0, 0) := by decide +kernel
theorem s98_70 {L : pj_Loc} {st : List Value} {M : pj_Mem} {x y : Int32} : pj_step 98 (70, L, .int y :: .int x :: st, M) = some (71, L, .int (x + y) :: st, M) := st_iadd q98_70
theorem x98_70 {L : pj_Loc} {st : List Value} {M : pj_Mem} {x y : Int32} {o9 : Option Value × pj_Mem} : pj_Ends 98 (70, L, .int y :: .int x :: st, M) o9 = pj_Ends 98 (71, L, .int (x + y) :: st, M) o9 := pj_xs (s98_70)
theorem q98_71 : pj_row 98 71 = some (.istore_n 2, 1, 0, 0, 0) := by decide +kernel
theorem s98_71 {st : List Value} {M : pj_Mem} {l : pj_Loc} {a0 a1 a2 : Option Value} {x : Int32} (h : pj_long a1 = false) : pj_step 98 (71, a0 :: a1 :: a2 :: l, .int x :: st, M) = some (72, a0 :: a1 :: some (.int x) :: l, st, M) := st_istore_n q98_71 (pj_st_2 h)
theorem x98_71 {st : List Value} {M : pj_Mem} {l : pj_Loc} {a0 a1 a2 : Option Value} {x : Int32} (h : pj_long a1 = false) {o9 : Option Value × pj_Mem} : pj_Ends 98 (71, a0 :: a1 :: a2 :: l, .int x :: st, M) o9 = pj_Ends 98 (72, a0 :: a1 :: some (.int x) :: l, st, M) o9 := pj_xs (s98_71 h)
theorem q98_72 : pj_row 98 72 = some (.aload_n 0, 1, 0, 0, 0) := by decide +kernel
theorem s98_72 {st : List Value} {M : pj_Mem} {l : pj_Loc} {x : Nat} : pj_step 98 (72, some (.ref x) :: l, st, M) = some (73, some (.ref x) :: l, .ref x :: st, M) := st_aload_n q98_72 rfl
theorem x98_72 {st : List Value} {M : pj_Mem} {l : pj_Loc} {x : Nat} {o9 : Option Value × pj_Mem} : pj_Ends 98 (72, some (.ref x) :: l, st, M) o9 = pj_Ends 98 (73, some (.ref x) :: l, .ref x :: st, M) o9 := pj_xs (s98_72)
theorem q98_73 : pj_row 98 73 = some (.getfield 7, 3, 6, 0, 0) := by decide +kernel
theorem s98_73 {L : pj_Loc} {st : List Value} {N S : Nat} {H : pj_Heap} {o : Nat} : pj_step 98 (73, L, .ref o :: st, (N, S, H)) = pj_pv 76 L st (N, S, H) (pj_fld (H o) 6 0) := st_getfield q98_73
theorem x98_73 {L : pj_Loc} {st : List Value} {N S : Nat} {H : pj_Heap} {o : Nat} {o9 : Option Value × pj_Mem} : pj_Ends 98 (73, L, .ref o :: st, (N, S, H)) o9 = pj_then 98 o9 (pj_pv 76 L st (N, S, H) (pj_fld (H o) 6 0)) := pj_xt q98_73 rfl (pj_cl_nc rfl) (s98_73)
theorem q98_76 : pj_row 98 76 = some (.iload_n 2, 1, 0, 0, 0) := by decide +kernel
theorem s98_76 {st : List Value} {M : pj_Mem} {l : pj_Loc} {a0 a1 : Option Value} {x : Int32} : pj_step 98 (76, a0 :: a1 :: some (.int x) :: l, st, M) = some (77, a0 :: a1 :: some (.int x) :: l, .int x :: st, M) := st_iload_n q98_76 rfl
theorem x98_76 {st : List Value} {M : pj_Mem} {l : pj_Loc} {a0 a1 : Option Value} {x : Int32} {o9 : Option Value × pj_Mem} : pj_Ends 98 (76, a0 :: a1 :: some (.int x) :: l, st, M) o9 = pj_Ends 98 (77, a0 :: a1 :: some (.int x) :: l, .int x :: st, M) o9 := pj_xs (s98_76)
theorem q98_77 : pj_row 98 77 = some (.aload_n 0, 1, 0, 0, 0) := by decide +kernel
theorem s98_77 {st : List Value} {M : pj_Mem} {l : pj_Loc} {x : Nat} : pj_step 98 (77, some (.ref x) :: l, st, M) = some (78, some (.ref x) :: l, .ref x :: st, M) := st_aload_n q98_77 rfl
theorem x98_77 {st : List Value} {M : pj_Mem} {l : pj_Loc} {x : Nat} {o9 : Option Value × pj_Mem} : pj_Ends 98 (77, some (.ref x) :: l, st, M) o9 = pj_Ends 98 (78, some (.ref x) :: l, .ref x :: st, M) o9 := pj_xs (s98_77)
theorem q98_78 : pj_row 98 78 = some (.getfield 7, 3, 6, 0, 0) := by decide +kernel
theorem s98_78 {L : pj_Loc} {st : List Value} {N S : Nat} {H : pj_Heap} {o : Nat} : pj_step 98 (78, L, .ref o :: st, (N, S, H)) = pj_pv 81 L st (N, S, H) (pj_fld (H o) 6 0) := st_getfield q98_78
theorem x98_78 {L : pj_Loc} {st : List Value} {N S : Nat} {H : pj_Heap} {o : Nat} {o9 : Option Value × pj_Mem} : pj_Ends 98 (78, L, .ref o :: st, (N, S, H)) o9 = pj_then 98 o9 (pj_pv 81 L st (N, S, H) (pj_fld (H o) 6 0)) := pj_xt q98_78 rfl (pj_cl_nc rfl) (s98_78)
theorem q98_81 : pj_row 98 81 = some (.bipush 6, 2, 0, 0, 0) := by decide +kernel
theorem s98_81 {L : pj_Loc} {st : List Value} {M : pj_Mem}  : pj_step 98 (81, L, st, M) = some (83, L, .int 6 :: st, M) := st_bipush q98_81 (by decide +kernel)
theorem x98_81 {L : pj_Loc} {st : List Value} {M : pj_Mem}  {o9 : Option Value × pj_Mem} : pj_Ends 98 (81, L, st, M) o9 = pj_Ends 98 (83, L, .int 6 :: st, M) o9 := pj_xs (s98_81)
theorem q98_83 : pj_row 98 83 = some (.iaload, 1, 0, 0, 0) := by decide +kernel
theorem s98_83 {L : pj_Loc} {st : List Value} {N S : Nat} {H : pj_Heap} {o : Nat} {i : Int32} : pj_step 98 (83, L, .int i :: .ref o :: st, (N, S, H)) = pj_pi 84 L st (N, S, H) (pj_arl (H o) 0 i) := st_iaload q98_83
theorem x98_83 {L : pj_Loc} {st : List Value} {N S : Nat} {H : pj_Heap} {o : Nat} {i : Int32} {o9 : Option Value × pj_Mem} : pj_Ends 98 (83, L, .int i :: .ref o :: st, (N, S, H)) o9 = pj_then 98 o9 (pj_pi 84 L st (N, S, H) (pj_arl (H o) 0 i)) := pj_xt q98_83 rfl (pj_cl_nc rfl) (s98_83)
theorem q98_84 : pj_row 98 84 = some (.iastore, 1, 0, 0, 0) := by decide +kernel
theorem s98_84 {L : pj_Loc} {st : List Value} {N S : Nat} {H : pj_Heap} {o : Nat} {i x : Int32} : pj_step 98 (84, L, .int x :: .int i :: .ref o :: st, (N, S, H)) = pj_set 85 L st (N, S, H) o (pj_ars (H o) 0 i x) := st_iastore q98_84
theorem x98_84 {L : pj_Loc} {st : List Value} {N S : Nat} {H : pj_Heap} {o : Nat} {i x : Int32} {o9 : Option Value × pj_Mem} : pj_Ends 98 (84, L, .int x :: .int i :: .ref o :: st, (N, S, H)) o9 = pj_then 98 o9 (pj_set 85 L st (N, S, H) o (pj_ars (H o) 0 i x)) := pj_xt q98_84 rfl (pj_cl_nc rfl) (s98_84)
theorem q98_85 : pj_row 98 85 = some (.iconst 0, 1, 0, 0, 0) := by decide +kernel
theorem s98_85 {L : pj_Loc} {st : List Value} {M : pj_Mem}  : pj_step 98 (85, L, st, M) = some (86, L, .int 0 :: st, M) := st_iconst q98_85 (by decide +kernel)
theorem x98_85 {L : pj_Loc} {st : List Value} {M : pj_Mem}  {o9 : Option Value × pj_Mem} : pj_Ends 98 (85, L, st, M) o9 = pj_Ends 98 (86, L, .int 0 :: st, M) o9 := pj_xs (s98_85)
theorem q98_86 : pj_row 98 86 = some (.istore_n 3, 1, 0, 0, 0) := by decide +kernel
theorem s98_86 {st : List Value} {M : pj_Mem} {l : pj_Loc} {a0 a1 a2 a3 : Option Value} {x : Int32} (h : pj_long a2 = false) : pj_step 98 (86, a0 :: a1 :: a2 :: a3 :: l, .int x :: st, M) = some (87, a0 :: a1 :: a2 :: some (.int x) :: l, st, M) := st_istore_n q98_86 (pj_st_3 h)
theorem x98_86 {st : List Value} {M : pj_Mem} {l : pj_Loc} {a0 a1 a2 a3 : Option Value} {x : Int32} (h : pj_long a2 = false) {o9 : Option Value × pj_Mem} : pj_Ends 98 (86, a0 :: a1 :: a2 :: a3 :: l, .int x :: st, M) o9 = pj_Ends 98 (87, a0 :: a1 :: a2 :: some (.int x) :: l, st, M) o9 := pj_xs (s98_86 h)
theorem q98_87 : pj_row 98 87 = some (.iload_n 3, 1, 0, 0, 0) := by decide +kernel
theorem s98_87 {st : List Value} {M : pj_Mem} {l : pj_Loc} {a0 a1 a2 : Option Value} {x : Int32} : pj_step 98 (87, a0 :: a1 :: a2 :: some (.int x) :: l, st, M) = some (88, a0 :: a1 :: a2 :: some (.int x) :: l, .int x :: st, M) := st_iload_n q98_87 rfl
theorem x98_87 {st : List Value} {M : pj_Mem} {l : pj_Loc} {a0 a1 a2 : Option Value} {x : Int32} {o9 : Option Value × pj_Mem} : pj_Ends 98 (87, a0 :: a1 :: a2 :: some (.int x) :: l, st, M) o9 = pj_Ends 98 (88, a0 :: a1 :: a2 :: some (.int x) :: l, .int x :: st, M) o9 := pj_xs (s98_87)
theorem q98_88 : pj_row 98 88 = some (.iconst 3, 1, 0, 0, 0) := by decide +kernel
theorem s98_88 {L : pj_Loc} {st : List Value} {M : pj_Mem}  : pj_step 98 (88, L, st, M) = some (89, L, .int 3 :: st, M) := st_iconst q98_88 (by decide +kernel)
theorem x98_88 {L : pj_Loc} {st : List Value} {M : pj_Mem}  {o9 : Option Value × pj_Mem} : pj_Ends 98 (88, L, st, M) o9 = pj_Ends 98 (89, L, .int 3 :: st, M) o9 := pj_xs (s98_88)
theorem q98_89 : pj_row 98 89 = some (.if_icmp .ge 28, 3, 117, 0, 0) := by decide +kernel
theorem s98_89 {L : pj_Loc} {st : List Value} {M : pj_Mem} {x y : Int32} : pj_step 98 (89, L, .int y :: .int x :: st, M) = some (if y ≤ x then 117 else 92, L, st, M) := st_icmp_ge q98_89
theorem x98_89 {L : pj_Loc} {st : List Value} {M : pj_Mem} {x y : Int32} {o9 : Option Value × pj_Mem} : pj_Ends 98 (89, L, .int y :: .int x :: st, M) o9 = pj_Ends 98 (if y ≤ x then 117 else 92, L, st, M) o9 := pj_xs (s98_89)
theorem q98_92 : pj_row 98 92 = some (.aload_n 0, 1, 0, 0, 0) := by decide +kernel
theorem s98_92 {st : List Value} {M : pj_Mem} {l : pj_Loc} {x : Nat} : pj_step 98 (92, some (.ref x) :: l, st, M) = some (93, some (.ref x) :: l, .ref x :: st, M) := st_aload_n q98_92 rfl
theorem x98_92 {st : List Value} {M : pj_Mem} {l : pj_Loc} {x : Nat} {o9 : Option Value × pj_Mem} : pj_Ends 98 (92, some (.ref x) :: l, st, M) o9 = pj_Ends 98 (93, some (.ref x) :: l, .ref x :: st, M) o9 := pj_xs (s98_92)
theorem q98_93 : pj_row 98 93 = some (.getfield 7, 3, 6, 0, 0) := by decide +kernel
theorem s98_93 {L : pj_Loc} {st : List Value} {N S : Nat} {H : pj_Heap} {o : Nat} : pj_step 98 (93, L, .ref o :: st, (N, S, H)) = pj_pv 96 L st (N, S, H) (pj_fld (H o) 6 0) := st_getfield q98_93
theorem x98_93 {L : pj_Loc} {st : List Value} {N S : Nat} {H : pj_Heap} {o : Nat} {o9 : Option Value × pj_Mem} : pj_Ends 98 (93, L, .ref o :: st, (N, S, H)) o9 = pj_then 98 o9 (pj_pv 96 L st (N, S, H) (pj_fld (H o) 6 0)) := pj_xt q98_93 rfl (pj_cl_nc rfl) (s98_93)
theorem q98_96 : pj_row 98 96 = some (.iload_n 2, 1, 0, 0, 0) := by decide +kernel
theorem s98_96 {st : List Value} {M : pj_Mem} {l : pj_Loc} {a0 a1 : Option Value} {x : Int32} : pj_step 98 (96, a0 :: a1 :: some (.int x) :: l, st, M) = some (97, a0 :: a1 :: some (.int x) :: l, .int x :: st, M) := st_iload_n q98_96 rfl
theorem x98_96 {st : List Value} {M : pj_Mem} {l : pj_Loc} {a0 a1 : Option Value} {x : Int32} {o9 : Option Value × pj_Mem} : pj_Ends 98 (96, a0 :: a1 :: some (.int x) :: l, st, M) o9 = pj_Ends 98 (97, a0 :: a1 :: some (.int x) :: l, .int x :: st, M) o9 := pj_xs (s98_96)
theorem q98_97 : pj_row 98 97 = some (.iconst 1, 1, 0, 0, 0) := by decide +kernel
theorem s98_97 {L : pj_Loc} {st : List Value} {M : pj_Mem}  : pj_step 98 (97, L, st, M) = some (98, L, .int 1 :: st, M) := st_iconst q98_97 (by decide +kernel)
theorem x98_97 {L : pj_Loc} {st : List Value} {M : pj_Mem}  {o9 : Option Value × pj_Mem} : pj_Ends 98 (97, L, st, M) o9 = pj_Ends 98 (98, L, .int 1 :: st, M) o9 := pj_xs (s98_97)
theorem q98_98 : pj_row 98 98 = some (.iadd, 1, 0, 0, 0) := by decide +kernel
theorem s98_98 {L : pj_Loc} {st : List Value} {M : pj_Mem} {x y : Int32} : pj_step 98 (98, L, .int y :: .int x :: st, M) = some (99, L, .int (x + y) :: st, M) := st_iadd q98_98
theorem x98_98 {L : pj_Loc} {st : List Value} {M : pj_Mem} {x y : Int32} {o9 : Option Value × pj_Mem} : pj_Ends 98 (98, L, .int y :: .int x :: st, M) o9 = pj_Ends 98 (99, L, .int (x + y) :: st, M) o9 := pj_xs (s98_98)
theorem q98_99 : pj_row 98 99 = some (.iload_n 3, 1, 0, 0, 0) := by decide +kernel
theorem s98_99 {st : List Value} {M : pj_Mem} {l : pj_Loc} {a0 a1 a2 : Option Value} {x : Int32} : pj_step 98 (99, a0 :: a1 :: a2 :: some (.int x) :: l, st, M) = some (100, a0 :: a1 :: a2 :: some (.int x) :: l, .int x :: st, M) := st_iload_n q98_99 rfl
theorem x98_99 {st : List Value} {M : pj_Mem} {l : pj_Loc} {a0 a1 a2 : Option Value} {x : Int32} {o9 : Option Value × pj_Mem} : pj_Ends 98 (99, a0 :: a1 :: a2 :: some (.int x) :: l, st, M) o9 = pj_Ends 98 (100, a0 :: a1 :: a2 :: some (.int x) :: l, .int x :: st, M) o9 := pj_xs (s98_99)
theorem q98_100 : pj_row 98 100 = some (.iadd, 1, 0, 0, 0) := by decide +kernel
theorem s98_100 {L : pj_Loc} {st : List Value} {M : pj_Mem} {x y : Int32} : pj_step 98 (100, L, .int y :: .int x :: st, M) = some (101, L, .int (x + y) :: st, M) := st_iadd q98_100
theorem x98_100 {L : pj_Loc} {st : List Value} {M : pj_Mem} {x y : Int32} {o9 : Option Value × pj_Mem} : pj_Ends 98 (100, L, .int y :: .int x :: st, M) o9 = pj_Ends 98 (101, L, .int (x + y) :: st, M) o9 := pj_xs (s98_100)
theorem q98_101 : pj_row 98 101 = some (.aload_n 0, 1, 0, 0, 0) := by decide +kernel
theorem s98_101 {st : List Value} {M : pj_Mem} {l : pj_Loc} {x : Nat} : pj_step 98 (101, some (.ref x) :: l, st, M) = some (102, some (.ref x) :: l, .ref x :: st, M) := st_aload_n q98_101 rfl
theorem x98_101 {st : List Value} {M : pj_Mem} {l : pj_Loc} {x : Nat} {o9 : Option Value × pj_Mem} : pj_Ends 98 (101, some (.ref x) :: l, st, M) o9 = pj_Ends 98 (102, some (.ref x) :: l, .ref x :: st, M) o9 := pj_xs (s98_101)
theorem q98_102 : pj_row 98 102 = some (.getfield 25, 3, 6, 6, 0) := by decide +kernel
theorem s98_102 {L : pj_Loc} {st : List Value} {N S : Nat} {H : pj_Heap} {o : Nat} : pj_step 98 (102, L, .ref o :: st, (N, S, H)) = pj_pv 105 L st (N, S, H) (pj_fld (H o) 6 6) := st_getfield q98_102
theorem x98_102 {L : pj_Loc} {st : List Value} {N S : Nat} {H : pj_Heap} {o : Nat} {o9 : Option Value × pj_Mem} : pj_Ends 98 (102, L, .ref o :: st, (N, S, H)) o9 = pj_then 98 o9 (pj_pv 105 L st (N, S, H) (pj_fld (H o) 6 6)) := pj_xt q98_102 rfl (pj_cl_nc rfl) (s98_102)
theorem q98_105 : pj_row 98 105 = some (.iload_n 3, 1, 0, 0, 0) := by decide +kernel
theorem s98_105 {st : List Value} {M : pj_Mem} {l : pj_Loc} {a0 a1 a2 : Option Value} {x : Int32} : pj_step 98 (105, a0 :: a1 :: a2 :: some (.int x) :: l, st, M) = some (106, a0 :: a1 :: a2 :: some (.int x) :: l, .int x :: st, M) := st_iload_n q98_105 rfl
theorem x98_105 {st : List Value} {M : pj_Mem} {l : pj_Loc} {a0 a1 a2 : Option Value} {x : Int32} {o9 : Option Value × pj_Mem} : pj_Ends 98 (105, a0 :: a1 :: a2 :: some (.int x) :: l, st, M) o9 = pj_Ends 98 (106, a0 :: a1 :: a2 :: some (.int x) :: l, .int x :: st, M) o9 := pj_xs (s98_105)
theorem q98_106 : pj_row 98 106 = some (.iaload, 1, 0, 0, 0) := by decide +kernel
theorem s98_106 {L : pj_Loc} {st : List Value} {N S : Nat} {H : pj_Heap} {o : Nat} {i : Int32} : pj_step 98 (106, L, .int i :: .ref o :: st, (N, S, H)) = pj_pi 107 L st (N, S, H) (pj_arl (H o) 0 i) := st_iaload q98_106
theorem x98_106 {L : pj_Loc} {st : List Value} {N S : Nat} {H : pj_Heap} {o : Nat} {i : Int32} {o9 : Option Value × pj_Mem} : pj_Ends 98 (106, L, .int i :: .ref o :: st, (N, S, H)) o9 = pj_then 98 o9 (pj_pi 107 L st (N, S, H) (pj_arl (H o) 0 i)) := pj_xt q98_106 rfl (pj_cl_nc rfl) (s98_106)
theorem q98_107 : pj_row 98 107 = some (.ldc 81, 2, 0, 0, 100000) := by decide +kernel
theorem s98_107 {L : pj_Loc} {st : List Value} {M : pj_Mem}  : pj_step 98 (107, L, st, M) = some (109, L, .int 100000 :: st, M) := st_ldc q98_107 (by decide +kernel)
theorem x98_107 {L : pj_Loc} {st : List Value} {M : pj_Mem}  {o9 : Option Value × pj_Mem} : pj_Ends 98 (107, L, st, M) o9 = pj_Ends 98 (109, L, .int 100000 :: st, M) o9 := pj_xs (s98_107)
theorem q98_109 : pj_row 98 109 = some (.iadd, 1, 0, 0, 0) := by decide +kernel
theorem s98_109 {L : pj_Loc} {st : List Value} {M : pj_Mem} {x y : Int32} : pj_step 98 (109, L, .int y :: .int x :: st, M) = some (110, L, .int (x + y) :: st, M) := st_iadd q98_109
theorem x98_109 {L : pj_Loc} {st : List Value} {M : pj_Mem} {x y : Int32} {o9 : Option Value × pj_Mem} : pj_Ends 98 (109, L, .int y :: .int x :: st, M) o9 = pj_Ends 98 (110, L, .int (x + y) :: st, M) o9 := pj_xs (s98_109)
theorem q98_110 : pj_row 98 110 = some (.iastore, 1, 0, 0, 0) := by decide +kernel
theorem s98_110 {L : pj_Loc} {st : List Value} {N S : Nat} {H : pj_Heap} {o : Nat} {i x : Int32} : pj_step 98 (110, L, .int x :: .int i :: .ref o :: st, (N, S, H)) = pj_set 111 L st (N, S, H) o (pj_ars (H o) 0 i x) := st_iastore q98_110
theorem x98_110 {L : pj_Loc} {st : List Value} {N S : Nat} {H : pj_Heap} {o : Nat} {i x : Int32} {o9 : Option Value × pj_Mem} : pj_Ends 98 (110, L, .int x :: .int i :: .ref o :: st, (N, S, H)) o9 = pj_then 98 o9 (pj_set 111 L st (N, S, H) o (pj_ars (H o) 0 i x)) := pj_xt q98_110 rfl (pj_cl_nc rfl) (s98_110)
theorem q98_111 : pj_row 98 111 = some (.iinc 3 1, 3, 0, 0, 0) := by decide +kernel
theorem s98_111 {st : List Value} {M : pj_Mem} {l : pj_Loc} {a0 a1 a2 : Option Value} {x : Int32} (h : pj_long a2 = false) : pj_step 98 (111, a0 :: a1 :: a2 :: some (.int x) :: l, st, M) = some (114, a0 :: a1 :: a2 :: some (.int (x + 1)) :: l, st, M) := st_iinc q98_111 rfl (congrArg (fun y => x + y) (show Int32.ofInt 1 = 1 by decide +kernel)) (pj_st_3 h)
theorem x98_111 {st : List Value} {M : pj_Mem} {l : pj_Loc} {a0 a1 a2 : Option Value} {x : Int32} (h : pj_long a2 = false) {o9 : Option Value × pj_Mem} : pj_Ends 98 (111, a0 :: a1 :: a2 :: some (.int x) :: l, st, M) o9 = pj_Ends 98 (114, a0 :: a1 :: a2 :: some (.int (x + 1)) :: l, st, M) o9 := pj_xs (s98_111 h)
theorem q98_114 : pj_row 98 114 = some (.goto (-27), 3, 87, 0, 0) := by decide +kernel
theorem s98_114 {L : pj_Loc} {st : List Value} {M : pj_Mem}  : pj_step 98 (114, L, st, M) = some (87, L, st, M) := st_goto q98_114
theorem x98_114 {L : pj_Loc} {st : List Value} {M : pj_Mem}  {o9 : Option Value × pj_Mem} : pj_Ends 98 (114, L, st, M) o9 = pj_Ends 98 (87, L, st, M) o9 := pj_xs (s98_114)
theorem q98_117 : pj_row 98 117 = some (.aload_n 0, 1, 0, 0, 0) := by decide +kernel
theorem s98_117 {st : List Value} {M : pj_Mem} {l : pj_Loc} {x : Nat} : pj_step 98 (117, some (.ref x) :: l, st, M) = some (118, some (.ref x) :: l, .ref x :: st, M) := st_aload_n q98_117 rfl
theorem x98_117 {st : List Value} {M : pj_Mem} {l : pj_Loc} {x : Nat} {o9 : Option Value × pj_Mem} : pj_Ends 98 (117, some (.ref x) :: l, st, M) o9 = pj_Ends 98 (118, some (.ref x) :: l, .ref x :: st, M) o9 := pj_xs (s98_117)
theorem q98_118 : pj_row 98 118 = some (.getfield 7, 3, 6, 0, 0) := by decide +kernel
theorem s98_118 {L : pj_Loc} {st : List Value} {N S : Nat} {H : pj_Heap} {o : Nat} : pj_step 98 (118, L, .ref o :: st, (N, S, H)) = pj_pv 121 L st (N, S, H) (pj_fld (H o) 6 0) := st_getfield q98_118
theorem x98_118 {L : pj_Loc} {st : List Value} {N S : Nat} {H : pj_Heap} {o : Nat} {o9 : Option Value × pj_Mem} : pj_Ends 98 (118, L, .ref o :: st, (N, S, H)) o9 = pj_then 98 o9 (pj_pv 121 L st (N, S, H) (pj_fld (H o) 6 0)) := pj_xt q98_118 rfl (pj_cl_nc rfl) (s98_118)
theorem q98_121 : pj_row 98 121 = some (.iload_n 2, 1, 0, 0, 0) := by decide +kernel
theorem s98_121 {st : List Value} {M : pj_Mem} {l : pj_Loc} {a0 a1 : Option Value} {x : Int32} : pj_step 98 (121, a0 :: a1 :: some (.int x) :: l, st, M) = some (122, a0 :: a1 :: some (.int x) :: l, .int x :: st, M) := st_iload_n q98_121 rfl
theorem x98_121 {st : List Value} {M : pj_Mem} {l : pj_Loc} {a0 a1 : Option Value} {x : Int32} {o9 : Option Value × pj_Mem} : pj_Ends 98 (121, a0 :: a1 :: some (.int x) :: l, st, M) o9 = pj_Ends 98 (122, a0 :: a1 :: some (.int x) :: l, .int x :: st, M) o9 := pj_xs (s98_121)
theorem q98_122 : pj_row 98 122 = some (.iconst 4, 1, 0, 0, 0) := by decide +kernel
theorem s98_122 {L : pj_Loc} {st : List Value} {M : pj_Mem}  : pj_step 98 (122, L, st, M) = some (123, L, .int 4 :: st, M) := st_iconst q98_122 (by decide +kernel)
theorem x98_122 {L : pj_Loc} {st : List Value} {M : pj_Mem}  {o9 : Option Value × pj_Mem} : pj_Ends 98 (122, L, st, M) o9 = pj_Ends 98 (123, L, .int 4 :: st, M) o9 := pj_xs (s98_122)
theorem q98_123 : pj_row 98 123 = some (.iadd, 1, 0, 0, 0) := by decide +kernel
theorem s98_123 {L : pj_Loc} {st : List Value} {M : pj_Mem} {x y : Int32} : pj_step 98 (123, L, .int y :: .int x :: st, M) = some (124, L, .int (x + y) :: st, M) := st_iadd q98_123
theorem x98_123 {L : pj_Loc} {st : List Value} {M : pj_Mem} {x y : Int32} {o9 : Option Value × pj_Mem} : pj_Ends 98 (123, L, .int y :: .int x :: st, M) o9 = pj_Ends 98 (124, L, .int (x + y) :: st, M) o9 := pj_xs (s98_123)
theorem q98_124 : pj_row 98 124 = some (.iload_n 1, 1, 0, 0, 0) := by decide +kernel
theorem s98_124 {st : List Value} {M : pj_Mem} {l : pj_Loc} {a0 : Option Value} {x : Int32} : pj_step 98 (124, a0 :: some (.int x) :: l, st, M) = some (125, a0 :: some (.int x) :: l, .int x :: st, M) := st_iload_n q98_124 rfl
theorem x98_124 {st : List Value} {M : pj_Mem} {l : pj_Loc} {a0 : Option Value} {x : Int32} {o9 : Option Value × pj_Mem} : pj_Ends 98 (124, a0 :: some (.int x) :: l, st, M) o9 = pj_Ends 98 (125, a0 :: some (.int x) :: l, .int x :: st, M) o9 := pj_xs (s98_124)
theorem q98_125 : pj_row 98 125 = some (.ifCond .eq 7, 3, 132, 0, 0) := by decide +kernel
theorem s98_125 {L : pj_Loc} {st : List Value} {M : pj_Mem} {x : Int32} : pj_step 98 (125, L, .int x :: st, M) = some (if x = 0 then 132 else 128, L, st, M) := st_if_eq q98_125
theorem x98_125 {L : pj_Loc} {st : List Value} {M : pj_Mem} {x : Int32} {o9 : Option Value × pj_Mem} : pj_Ends 98 (125, L, .int x :: st, M) o9 = pj_Ends 98 (if x = 0 then 132 else 128, L, st, M) o9 := pj_xs (s98_125)
theorem q98_128 : pj_row 98 128 = some (.iconst 1, 1, 0, 0, 0) := by decide +kernel
theorem s98_128 {L : pj_Loc} {st : List Value} {M : pj_Mem}  : pj_step 98 (128, L, st, M) = some (129, L, .int 1 :: st, M) := st_iconst q98_128 (by decide +kernel)
theorem x98_128 {L : pj_Loc} {st : List Value} {M : pj_Mem}  {o9 : Option Value × pj_Mem} : pj_Ends 98 (128, L, st, M) o9 = pj_Ends 98 (129, L, .int 1 :: st, M) o9 := pj_xs (s98_128)
theorem q98_129 : pj_row 98 129 = some (.goto 4, 3, 133, 0, 0) := by decide +kernel
theorem s98_129 {L : pj_Loc} {st : List Value} {M : pj_Mem}  : pj_step 98 (129, L, st, M) = some (133, L, st, M) := st_goto q98_129
theorem x98_129 {L : pj_Loc} {st : List Value} {M : pj_Mem}  {o9 : Option Value × pj_Mem} : pj_Ends 98 (129, L, st, M) o9 = pj_Ends 98 (133, L, st, M) o9 := pj_xs (s98_129)
theorem q98_132 : pj_row 98 132 = some (.iconst 0, 1, 0, 0, 0) := by decide +kernel
theorem s98_132 {L : pj_Loc} {st : List Value} {M : pj_Mem}  : pj_step 98 (132, L, st, M) = some (133, L, .int 0 :: st, M) := st_iconst q98_132 (by decide +kernel)
theorem x98_132 {L : pj_Loc} {st : List Value} {M : pj_Mem}  {o9 : Option Value × pj_Mem} : pj_Ends 98 (132, L, st, M) o9 = pj_Ends 98 (133, L, .int 0 :: st, M) o9 := pj_xs (s98_132)
theorem q98_133 : pj_row 98 133 = some (.iastore, 1, 0, 0, 0) := by decide +kernel
theorem s98_133 {L : pj_Loc} {st : List Value} {N S : Nat} {H : pj_Heap} {o : Nat} {i x : Int32} : pj_step 98 (133, L, .int x :: .int i :: .ref o :: st, (N, S, H)) = pj_set 134 L st (N, S, H) o (pj_ars (H o) 0 i x) := st_iastore q98_133
theorem x98_133 {L : pj_Loc} {st : List Value} {N S : Nat} {H : pj_Heap} {o : Nat} {i x : Int32} {o9 : Option Value × pj_Mem} : pj_Ends 98 (133, L, .int x :: .int i :: .ref o :: st, (N, S, H)) o9 = pj_then 98 o9 (pj_set 134 L st (N, S, H) o (pj_ars (H o) 0 i x)) := pj_xt q98_133 rfl (pj_cl_nc rfl) (s98_133)
theorem q98_134 : pj_row 98 134 = some (.aload_n 0, 1, 0, 0, 0) := by decide +kernel
theorem s98_134 {st : List Value} {M : pj_Mem} {l : pj_Loc} {x : Nat} : pj_step 98 (134, some (.ref x) :: l, st, M) = some (135, some (.ref x) :: l, .ref x :: st, M) := st_aload_n q98_134 rfl
theorem x98_134 {st : List Value} {M : pj_Mem} {l : pj_Loc} {x : Nat} {o9 : Option Value × pj_Mem} : pj_Ends 98 (134, some (.ref x) :: l, st, M) o9 = pj_Ends 98 (135, some (.ref x) :: l, .ref x :: st, M) o9 := pj_xs (s98_134)
theorem q98_135 : pj_row 98 135 = some (.getfield 7, 3, 6, 0, 0) := by decide +kernel
theorem s98_135 {L : pj_Loc} {st : List Value} {N S : Nat} {H : pj_Heap} {o : Nat} : pj_step 98 (135, L, .ref o :: st, (N, S, H)) = pj_pv 138 L st (N, S, H) (pj_fld (H o) 6 0) := st_getfield q98_135
theorem x98_135 {L : pj_Loc} {st : List Value} {N S : Nat} {H : pj_Heap} {o : Nat} {o9 : Option Value × pj_Mem} : pj_Ends 98 (135, L, .ref o :: st, (N, S, H)) o9 = pj_then 98 o9 (pj_pv 138 L st (N, S, H) (pj_fld (H o) 6 0)) := pj_xt q98_135 rfl (pj_cl_nc rfl) (s98_135)
theorem q98_138 : pj_row 98 138 = some (.iload_n 2, 1, 0, 0, 0) := by decide +kernel
theorem s98_138 {st : List Value} {M : pj_Mem} {l : pj_Loc} {a0 a1 : Option Value} {x : Int32} : pj_step 98 (138, a0 :: a1 :: some (.int x) :: l, st, M) = some (139, a0 :: a1 :: some (.int x) :: l, .int x :: st, M) := st_iload_n q98_138 rfl
theorem x98_138 {st : List Value} {M : pj_Mem} {l : pj_Loc} {a0 a1 : Option Value} {x : Int32} {o9 : Option Value × pj_Mem} : pj_Ends 98 (138, a0 :: a1 :: some (.int x) :: l, st, M) o9 = pj_Ends 98 (139, a0 :: a1 :: some (.int x) :: l, .int x :: st, M) o9 := pj_xs (s98_138)
theorem q98_139 : pj_row 98 139 = some (.iconst 5, 1, 0, 0, 0) := by decide +kernel
theorem s98_139 {L : pj_Loc} {st : List Value} {M : pj_Mem}  : pj_step 98 (139, L, st, M) = some (140, L, .int 5 :: st, M) := st_iconst q98_139 (by decide +kernel)
theorem x98_139 {L : pj_Loc} {st : List Value} {M : pj_Mem}  {o9 : Option Value × pj_Mem} : pj_Ends 98 (139, L, st, M) o9 = pj_Ends 98 (140, L, .int 5 :: st, M) o9 := pj_xs (s98_139)
theorem q98_140 : pj_row 98 140 = some (.iadd, 1, 0, 0, 0) := by decide +kernel
theorem s98_140 {L : pj_Loc} {st : List Value} {M : pj_Mem} {x y : Int32} : pj_step 98 (140, L, .int y :: .int x :: st, M) = some (141, L, .int (x + y) :: st, M) := st_iadd q98_140
theorem x98_140 {L : pj_Loc} {st : List Value} {M : pj_Mem} {x y : Int32} {o9 : Option Value × pj_Mem} : pj_Ends 98 (140, L, .int y :: .int x :: st, M) o9 = pj_Ends 98 (141, L, .int (x + y) :: st, M) o9 := pj_xs (s98_140)
theorem q98_141 : pj_row 98 141 = some (.aload_n 0, 1, 0, 0, 0) := by decide +kernel
theorem s98_141 {st : List Value} {M : pj_Mem} {l : pj_Loc} {x : Nat} : pj_step 98 (141, some (.ref x) :: l, st, M) = some (142, some (.ref x) :: l, .ref x :: st, M) := st_aload_n q98_141 rfl
theorem x98_141 {st : List Value} {M : pj_Mem} {l : pj_Loc} {x : Nat} {o9 : Option Value × pj_Mem} : pj_Ends 98 (141, some (.ref x) :: l, st, M) o9 = pj_Ends 98 (142, some (.ref x) :: l, .ref x :: st, M) o9 := pj_xs (s98_141)
theorem q98_142 : pj_row 98 142 = some (.getfield 56, 3, 6, 8, 0) := by decide +kernel
theorem s98_142 {L : pj_Loc} {st : List Value} {N S : Nat} {H : pj_Heap} {o : Nat} : pj_step 98 (142, L, .ref o :: st, (N, S, H)) = pj_pv 145 L st (N, S, H) (pj_fld (H o) 6 8) := st_getfield q98_142
theorem x98_142 {L : pj_Loc} {st : List Value} {N S : Nat} {H : pj_Heap} {o : Nat} {o9 : Option Value × pj_Mem} : pj_Ends 98 (142, L, .ref o :: st, (N, S, H)) o9 = pj_then 98 o9 (pj_pv 145 L st (N, S, H) (pj_fld (H o) 6 8)) := pj_xt q98_142 rfl (pj_cl_nc rfl) (s98_142)
theorem q98_145 : pj_row 98 145 = some (.ldc 81, 2, 0, 0, 100000) := by decide +kernel
theorem s98_145 {L : pj_Loc} {st : List Value} {M : pj_Mem}  : pj_step 98 (145, L, st, M) = some (147, L, .int 100000 :: st, M) := st_ldc q98_145 (by decide +kernel)
theorem x98_145 {L : pj_Loc} {st : List Value} {M : pj_Mem}  {o9 : Option Value × pj_Mem} : pj_Ends 98 (145, L, st, M) o9 = pj_Ends 98 (147, L, .int 100000 :: st, M) o9 := pj_xs (s98_145)
theorem q98_147 : pj_row 98 147 = some (.iadd, 1, 0, 0, 0) := by decide +kernel
theorem s98_147 {L : pj_Loc} {st : List Value} {M : pj_Mem} {x y : Int32} : pj_step 98 (147, L, .int y :: .int x :: st, M) = some (148, L, .int (x + y) :: st, M) := st_iadd q98_147
theorem x98_147 {L : pj_Loc} {st : List Value} {M : pj_Mem} {x y : Int32} {o9 : Option Value × pj_Mem} : pj_Ends 98 (147, L, .int y :: .int x :: st, M) o9 = pj_Ends 98 (148, L, .int (x + y) :: st, M) o9 := pj_xs (s98_147)
theorem q98_148 : pj_row 98 148 = some (.iastore, 1, 0, 0, 0) := by decide +kernel
theorem s98_148 {L : pj_Loc} {st : List Value} {N S : Nat} {H : pj_Heap} {o : Nat} {i x : Int32} : pj_step 98 (148, L, .int x :: .int i :: .ref o :: st, (N, S, H)) = pj_set 149 L st (N, S, H) o (pj_ars (H o) 0 i x) := st_iastore q98_148
theorem x98_148 {L : pj_Loc} {st : List Value} {N S : Nat} {H : pj_Heap} {o : Nat} {i x : Int32} {o9 : Option Value × pj_Mem} : pj_Ends 98 (148, L, .int x :: .int i :: .ref o :: st, (N, S, H)) o9 = pj_then 98 o9 (pj_set 149 L st (N, S, H) o (pj_ars (H o) 0 i x)) := pj_xt q98_148 rfl (pj_cl_nc rfl) (s98_148)
theorem q98_149 : pj_row 98 149 = some (.aload_n 0, 1, 0, 0, 0) := by decide +kernel
theorem s98_149 {st : List Value} {M : pj_Mem} {l : pj_Loc} {x : Nat} : pj_step 98 (149, some (.ref x) :: l, st, M) = some (150, some (.ref x) :: l, .ref x :: st, M) := st_aload_n q98_149 rfl
theorem x98_149 {st : List Value} {M : pj_Mem} {l : pj_Loc} {x : Nat} {o9 : Option Value × pj_Mem} : pj_Ends 98 (149, some (.ref x) :: l, st, M) o9 = pj_Ends 98 (150, some (.ref x) :: l, .ref x :: st, M) o9 := pj_xs (s98_149)
theorem q98_150 : pj_row 98 150 = some (.getfield 7, 3, 6, 0, 0) := by decide +kernel
theorem s98_150 {L : pj_Loc} {st : List Value} {N S : Nat} {H : pj_Heap} {o : Nat} : pj_step 98 (150, L, .ref o :: st, (N, S, H)) = pj_pv 153 L st (N, S, H) (pj_fld (H o) 6 0) := st_getfield q98_150
theorem x98_150 {L : pj_Loc} {st : List Value} {N S : Nat} {H : pj_Heap} {o : Nat} {o9 : Option Value × pj_Mem} : pj_Ends 98 (150, L, .ref o :: st, (N, S, H)) o9 = pj_then 98 o9 (pj_pv 153 L st (N, S, H) (pj_fld (H o) 6 0)) := pj_xt q98_150 rfl (pj_cl_nc rfl) (s98_150)
theorem q98_153 : pj_row 98 153 = some (.iload_n 2, 1, 0, 0, 0) := by decide +kernel
theorem s98_153 {st : List Value} {M : pj_Mem} {l : pj_Loc} {a0 a1 : Option Value} {x : Int32} : pj_step 98 (153, a0 :: a1 :: some (.int x) :: l, st, M) = some (154, a0 :: a1 :: some (.int x) :: l, .int x :: st, M) := st_iload_n q98_153 rfl
theorem x98_153 {st : List Value} {M : pj_Mem} {l : pj_Loc} {a0 a1 : Option Value} {x : Int32} {o9 : Option Value × pj_Mem} : pj_Ends 98 (153, a0 :: a1 :: some (.int x) :: l, st, M) o9 = pj_Ends 98 (154, a0 :: a1 :: some (.int x) :: l, .int x :: st, M) o9 := pj_xs (s98_153)
theorem q98_154 : pj_row 98 154 = some (.bipush 6, 2, 0, 0, 0) := by decide +kernel
theorem s98_154 {L : pj_Loc} {st : List Value} {M : pj_Mem}  : pj_step 98 (154, L, st, M) = some (156, L, .int 6 :: st, M) := st_bipush q98_154 (by decide +kernel)
theorem x98_154 {L : pj_Loc} {st : List Value} {M : pj_Mem}  {o9 : Option Value × pj_Mem} : pj_Ends 98 (154, L, st, M) o9 = pj_Ends 98 (156, L, .int 6 :: st, M) o9 := pj_xs (s98_154)
theorem q98_156 : pj_row 98 156 = some (.iadd, 1, 0, 0, 0) := by decide +kernel
theorem s98_156 {L : pj_Loc} {st : List Value} {M : pj_Mem} {x y : Int32} : pj_step 98 (156, L, .int y :: .int x :: st, M) = some (157, L, .int (x + y) :: st, M) := st_iadd q98_156
theorem x98_156 {L : pj_Loc} {st : List Value} {M : pj_Mem} {x y : Int32} {o9 : Option Value × pj_Mem} : pj_Ends 98 (156, L, .int y :: .int x :: st, M) o9 = pj_Ends 98 (157, L, .int (x + y) :: st, M) o9 := pj_xs (s98_156)
theorem q98_157 : pj_row 98 157 = some (.aload_n 0, 1, 0, 0, 0) := by decide +kernel
theorem s98_157 {st : List Value} {M : pj_Mem} {l : pj_Loc} {x : Nat} : pj_step 98 (157, some (.ref x) :: l, st, M) = some (158, some (.ref x) :: l, .ref x :: st, M) := st_aload_n q98_157 rfl
theorem x98_157 {st : List Value} {M : pj_Mem} {l : pj_Loc} {x : Nat} {o9 : Option Value × pj_Mem} : pj_Ends 98 (157, some (.ref x) :: l, st, M) o9 = pj_Ends 98 (158, some (.ref x) :: l, .ref x :: st, M) o9 := pj_xs (s98_157)
theorem q98_158 : pj_row 98 158 = some (.getfield 72, 3, 6, 9, 0) := by decide +kernel
theorem s98_158 {L : pj_Loc} {st : List Value} {N S : Nat} {H : pj_Heap} {o : Nat} : pj_step 98 (158, L, .ref o :: st, (N, S, H)) = pj_pv 161 L st (N, S, H) (pj_fld (H o) 6 9) := st_getfield q98_158
theorem x98_158 {L : pj_Loc} {st : List Value} {N S : Nat} {H : pj_Heap} {o : Nat} {o9 : Option Value × pj_Mem} : pj_Ends 98 (158, L, .ref o :: st, (N, S, H)) o9 = pj_then 98 o9 (pj_pv 161 L st (N, S, H) (pj_fld (H o) 6 9)) := pj_xt q98_158 rfl (pj_cl_nc rfl) (s98_158)
theorem q98_161 : pj_row 98 161 = some (.iastore, 1, 0, 0, 0) := by decide +kernel
theorem s98_161 {L : pj_Loc} {st : List Value} {N S : Nat} {H : pj_Heap} {o : Nat} {i x : Int32} : pj_step 98 (161, L, .int x :: .int i :: .ref o :: st, (N, S, H)) = pj_set 162 L st (N, S, H) o (pj_ars (H o) 0 i x) := st_iastore q98_161
theorem x98_161 {L : pj_Loc} {st : List Value} {N S : Nat} {H : pj_Heap} {o : Nat} {i x : Int32} {o9 : Option Value × pj_Mem} : pj_Ends 98 (161, L, .int x :: .int i :: .ref o :: st, (N, S, H)) o9 = pj_then 98 o9 (pj_set 162 L st (N, S, H) o (pj_ars (H o) 0 i x)) := pj_xt q98_161 rfl (pj_cl_nc rfl) (s98_161)
theorem q98_162 : pj_row 98 162 = some (.aload_n 0, 1, 0, 0, 0) := by decide +kernel
theorem s98_162 {st : List Value} {M : pj_Mem} {l : pj_Loc} {x : Nat} : pj_step 98 (162, some (.ref x) :: l, st, M) = some (163, some (.ref x) :: l, .ref x :: st, M) := st_aload_n q98_162 rfl
theorem x98_162 {st : List Value} {M : pj_Mem} {l : pj_Loc} {x : Nat} {o9 : Option Value × pj_Mem} : pj_Ends 98 (162, some (.ref x) :: l, st, M) o9 = pj_Ends 98 (163, some (.ref x) :: l, .ref x :: st, M) o9 := pj_xs (s98_162)
theorem q98_163 : pj_row 98 163 = some (.getfield 7, 3, 6, 0, 0) := by decide +kernel
theorem s98_163 {L : pj_Loc} {st : List Value} {N S : Nat} {H : pj_Heap} {o : Nat} : pj_step 98 (163, L, .ref o :: st, (N, S, H)) = pj_pv 166 L st (N, S, H) (pj_fld (H o) 6 0) := st_getfield q98_163
theorem x98_163 {L : pj_Loc} {st : List Value} {N S : Nat} {H : pj_Heap} {o : Nat} {o9 : Option Value × pj_Mem} : pj_Ends 98 (163, L, .ref o :: st, (N, S, H)) o9 = pj_then 98 o9 (pj_pv 166 L st (N, S, H) (pj_fld (H o) 6 0)) := pj_xt q98_163 rfl (pj_cl_nc rfl) (s98_163)
theorem q98_166 : pj_row 98 166 = some (.iload_n 2, 1, 0, 0, 0) := by decide +kernel
theorem s98_166 {st : List Value} {M : pj_Mem} {l : pj_Loc} {a0 a1 : Option Value} {x : Int32} : pj_step 98 (166, a0 :: a1 :: some (.int x) :: l, st, M) = some (167, a0 :: a1 :: some (.int x) :: l, .int x :: st, M) := st_iload_n q98_166 rfl
theorem x98_166 {st : List Value} {M : pj_Mem} {l : pj_Loc} {a0 a1 : Option Value} {x : Int32} {o9 : Option Value × pj_Mem} : pj_Ends 98 (166, a0 :: a1 :: some (.int x) :: l, st, M) o9 = pj_Ends 98 (167, a0 :: a1 :: some (.int x) :: l, .int x :: st, M) o9 := pj_xs (s98_166)
theorem q98_167 : pj_row 98 167 = some (.bipush 7, 2, 0, 0, 0) := by decide +kernel
theorem s98_167 {L : pj_Loc} {st : List Value} {M : pj_Mem}  : pj_step 98 (167, L, st, M) = some (169, L, .int 7 :: st, M) := st_bipush q98_167 (by decide +kernel)
theorem x98_167 {L : pj_Loc} {st : List Value} {M : pj_Mem}  {o9 : Option Value × pj_Mem} : pj_Ends 98 (167, L, st, M) o9 = pj_Ends 98 (169, L, .int 7 :: st, M) o9 := pj_xs (s98_167)
theorem q98_169 : pj_row 98 169 = some (.iadd, 1, 0, 0, 0) := by decide +kernel
theorem s98_169 {L : pj_Loc} {st : List Value} {M : pj_Mem} {x y : Int32} : pj_step 98 (169, L, .int y :: .int x :: st, M) = some (170, L, .int (x + y) :: st, M) := st_iadd q98_169
theorem x98_169 {L : pj_Loc} {st : List Value} {M : pj_Mem} {x y : Int32} {o9 : Option Value × pj_Mem} : pj_Ends 98 (169, L, .int y :: .int x :: st, M) o9 = pj_Ends 98 (170, L, .int (x + y) :: st, M) o9 := pj_xs (s98_169)
theorem q98_170 : pj_row 98 170 = some (.aload_n 0, 1, 0, 0, 0) := by decide +kernel
theorem s98_170 {st : List Value} {M : pj_Mem} {l : pj_Loc} {x : Nat} : pj_step 98 (170, some (.ref x) :: l, st, M) = some (171, some (.ref x) :: l, .ref x :: st, M) := st_aload_n q98_170 rfl
theorem x98_170 {st : List Value} {M : pj_Mem} {l : pj_Loc} {x : Nat} {o9 : Option Value × pj_Mem} : pj_Ends 98 (170, some (.ref x) :: l, st, M) o9 = pj_Ends 98 (171, some (.ref x) :: l, .ref x :: st, M) o9 := pj_xs (s98_170)
theorem q98_171 : pj_row 98 171 = some (.getfield 65, 3, 6, 10, 0) := by decide +kernel
theorem s98_171 {L : pj_Loc} {st : List Value} {N S : Nat} {H : pj_Heap} {o : Nat} : pj_step 98 (171, L, .ref o :: st, (N, S, H)) = pj_pv 174 L st (N, S, H) (pj_fld (H o) 6 10) := st_getfield q98_171
theorem x98_171 {L : pj_Loc} {st : List Value} {N S : Nat} {H : pj_Heap} {o : Nat} {o9 : Option Value × pj_Mem} : pj_Ends 98 (171, L, .ref o :: st, (N, S, H)) o9 = pj_then 98 o9 (pj_pv 174 L st (N, S, H) (pj_fld (H o) 6 10)) := pj_xt q98_171 rfl (pj_cl_nc rfl) (s98_171)
theorem q98_174 : pj_row 98 174 = some (.iastore, 1, 0, 0, 0) := by decide +kernel
theorem s98_174 {L : pj_Loc} {st : List Value} {N S : Nat} {H : pj_Heap} {o : Nat} {i x : Int32} : pj_step 98 (174, L, .int x :: .int i :: .ref o :: st, (N, S, H)) = pj_set 175 L st (N, S, H) o (pj_ars (H o) 0 i x) := st_iastore q98_174
theorem x98_174 {L : pj_Loc} {st : List Value} {N S : Nat} {H : pj_Heap} {o : Nat} {i x : Int32} {o9 : Option Value × pj_Mem} : pj_Ends 98 (174, L, .int x :: .int i :: .ref o :: st, (N, S, H)) o9 = pj_then 98 o9 (pj_set 175 L st (N, S, H) o (pj_ars (H o) 0 i x)) := pj_xt q98_174 rfl (pj_cl_nc rfl) (s98_174)
theorem q98_175 : pj_row 98 175 = some (.aload_n 0, 1, 0, 0, 0) := by decide +kernel
theorem s98_175 {st : List Value} {M : pj_Mem} {l : pj_Loc} {x : Nat} : pj_step 98 (175, some (.ref x) :: l, st, M) = some (176, some (.ref x) :: l, .ref x :: st, M) := st_aload_n q98_175 rfl
theorem x98_175 {st : List Value} {M : pj_Mem} {l : pj_Loc} {x : Nat} {o9 : Option Value × pj_Mem} : pj_Ends 98 (175, some (.ref x) :: l, st, M) o9 = pj_Ends 98 (176, some (.ref x) :: l, .ref x :: st, M) o9 := pj_xs (s98_175)
theorem q98_176 : pj_row 98 176 = some (.getfield 7, 3, 6, 0, 0) := by decide +kernel
theorem s98_176 {L : pj_Loc} {st : List Value} {N S : Nat} {H : pj_Heap} {o : Nat} : pj_step 98 (176, L, .ref o :: st, (N, S, H)) = pj_pv 179 L st (N, S, H) (pj_fld (H o) 6 0) := st_getfield q98_176
theorem x98_176 {L : pj_Loc} {st : List Value} {N S : Nat} {H : pj_Heap} {o : Nat} {o9 : Option Value × pj_Mem} : pj_Ends 98 (176, L, .ref o :: st, (N, S, H)) o9 = pj_then 98 o9 (pj_pv 179 L st (N, S, H) (pj_fld (H o) 6 0)) := pj_xt q98_176 rfl (pj_cl_nc rfl) (s98_176)
theorem q98_179 : pj_row 98 179 = some (.iload_n 2, 1, 0, 0, 0) := by decide +kernel
theorem s98_179 {st : List Value} {M : pj_Mem} {l : pj_Loc} {a0 a1 : Option Value} {x : Int32} : pj_step 98 (179, a0 :: a1 :: some (.int x) :: l, st, M) = some (180, a0 :: a1 :: some (.int x) :: l, .int x :: st, M) := st_iload_n q98_179 rfl
theorem x98_179 {st : List Value} {M : pj_Mem} {l : pj_Loc} {a0 a1 : Option Value} {x : Int32} {o9 : Option Value × pj_Mem} : pj_Ends 98 (179, a0 :: a1 :: some (.int x) :: l, st, M) o9 = pj_Ends 98 (180, a0 :: a1 :: some (.int x) :: l, .int x :: st, M) o9 := pj_xs (s98_179)
theorem q98_180 : pj_row 98 180 = some (.bipush 8, 2, 0, 0, 0) := by decide +kernel
theorem s98_180 {L : pj_Loc} {st : List Value} {M : pj_Mem}  : pj_step 98 (180, L, st, M) = some (182, L, .int 8 :: st, M) := st_bipush q98_180 (by decide +kernel)
theorem x98_180 {L : pj_Loc} {st : List Value} {M : pj_Mem}  {o9 : Option Value × pj_Mem} : pj_Ends 98 (180, L, st, M) o9 = pj_Ends 98 (182, L, .int 8 :: st, M) o9 := pj_xs (s98_180)
theorem q98_182 : pj_row 98 182 = some (.iadd, 1, 0, 0, 0) := by decide +kernel
theorem s98_182 {L : pj_Loc} {st : List Value} {M : pj_Mem} {x y : Int32} : pj_step 98 (182, L, .int y :: .int x :: st, M) = some (183, L, .int (x + y) :: st, M) := st_iadd q98_182
theorem x98_182 {L : pj_Loc} {st : List Value} {M : pj_Mem} {x y : Int32} {o9 : Option Value × pj_Mem} : pj_Ends 98 (182, L, .int y :: .int x :: st, M) o9 = pj_Ends 98 (183, L, .int (x + y) :: st, M) o9 := pj_xs (s98_182)
theorem q98_183 : pj_row 98 183 = some (.aload_n 0, 1, 0, 0, 0) := by decide +kernel
theorem s98_183 {st : List Value} {M : pj_Mem} {l : pj_Loc} {x : Nat} : pj_step 98 (183, some (.ref x) :: l, st, M) = some (184, some (.ref x) :: l, .ref x :: st, M) := st_aload_n q98_183 rfl
theorem x98_183 {st : List Value} {M : pj_Mem} {l : pj_Loc} {x : Nat} {o9 : Option Value × pj_Mem} : pj_Ends 98 (183, some (.ref x) :: l, st, M) o9 = pj_Ends 98 (184, some (.ref x) :: l, .ref x :: st, M) o9 := pj_xs (s98_183)
theorem q98_184 : pj_row 98 184 = some (.getfield 7, 3, 6, 0, 0) := by decide +kernel
theorem s98_184 {L : pj_Loc} {st : List Value} {N S : Nat} {H : pj_Heap} {o : Nat} : pj_step 98 (184, L, .ref o :: st, (N, S, H)) = pj_pv 187 L st (N, S, H) (pj_fld (H o) 6 0) := st_getfield q98_184
theorem x98_184 {L : pj_Loc} {st : List Value} {N S : Nat} {H : pj_Heap} {o : Nat} {o9 : Option Value × pj_Mem} : pj_Ends 98 (184, L, .ref o :: st, (N, S, H)) o9 = pj_then 98 o9 (pj_pv 187 L st (N, S, H) (pj_fld (H o) 6 0)) := pj_xt q98_184 rfl (pj_cl_nc rfl) (s98_184)
theorem q98_187 : pj_row 98 187 = some (.bipush 7, 2, 0, 0, 0) := by decide +kernel
theorem s98_187 {L : pj_Loc} {st : List Value} {M : pj_Mem}  : pj_step 98 (187, L, st, M) = some (189, L, .int 7 :: st, M) := st_bipush q98_187 (by decide +kernel)
theorem x98_187 {L : pj_Loc} {st : List Value} {M : pj_Mem}  {o9 : Option Value × pj_Mem} : pj_Ends 98 (187, L, st, M) o9 = pj_Ends 98 (189, L, .int 7 :: st, M) o9 := pj_xs (s98_187)
theorem q98_189 : pj_row 98 189 = some (.iaload, 1, 0, 0, 0) := by decide +kernel
theorem s98_189 {L : pj_Loc} {st : List Value} {N S : Nat} {H : pj_Heap} {o : Nat} {i : Int32} : pj_step 98 (189, L, .int i :: .ref o :: st, (N, S, H)) = pj_pi 190 L st (N, S, H) (pj_arl (H o) 0 i) := st_iaload q98_189
theorem x98_189 {L : pj_Loc} {st : List Value} {N S : Nat} {H : pj_Heap} {o : Nat} {i : Int32} {o9 : Option Value × pj_Mem} : pj_Ends 98 (189, L, .int i :: .ref o :: st, (N, S, H)) o9 = pj_then 98 o9 (pj_pi 190 L st (N, S, H) (pj_arl (H o) 0 i)) := pj_xt q98_189 rfl (pj_cl_nc rfl) (s98_189)
theorem q98_190 : pj_row 98 190 = some (.ifCond .le 7, 3, 197, 0, 0) := by decide +kernel
theorem s98_190 {L : pj_Loc} {st : List Value} {M : pj_Mem} {x : Int32} : pj_step 98 (190, L, .int x :: st, M) = some (if x ≤ 0 then 197 else 193, L, st, M) := st_if_le q98_190
theorem x98_190 {L : pj_Loc} {st : List Value} {M : pj_Mem} {x : Int32} {o9 : Option Value × pj_Mem} : pj_Ends 98 (190, L, .int x :: st, M) o9 = pj_Ends 98 (if x ≤ 0 then 197 else 193, L, st, M) o9 := pj_xs (s98_190)
theorem q98_193 : pj_row 98 193 = some (.iconst 1, 1, 0, 0, 0) := by decide +kernel
theorem s98_193 {L : pj_Loc} {st : List Value} {M : pj_Mem}  : pj_step 98 (193, L, st, M) = some (194, L, .int 1 :: st, M) := st_iconst q98_193 (by decide +kernel)
theorem x98_193 {L : pj_Loc} {st : List Value} {M : pj_Mem}  {o9 : Option Value × pj_Mem} : pj_Ends 98 (193, L, st, M) o9 = pj_Ends 98 (194, L, .int 1 :: st, M) o9 := pj_xs (s98_193)
theorem q98_194 : pj_row 98 194 = some (.goto 4, 3, 198, 0, 0) := by decide +kernel
theorem s98_194 {L : pj_Loc} {st : List Value} {M : pj_Mem}  : pj_step 98 (194, L, st, M) = some (198, L, st, M) := st_goto q98_194
theorem x98_194 {L : pj_Loc} {st : List Value} {M : pj_Mem}  {o9 : Option Value × pj_Mem} : pj_Ends 98 (194, L, st, M) o9 = pj_Ends 98 (198, L, st, M) o9 := pj_xs (s98_194)
theorem q98_197 : pj_row 98 197 = some (.iconst 0, 1, 0, 0, 0) := by decide +kernel
theorem s98_197 {L : pj_Loc} {st : List Value} {M : pj_Mem}  : pj_step 98 (197, L, st, M) = some (198, L, .int 0 :: st, M) := st_iconst q98_197 (by decide +kernel)
theorem x98_197 {L : pj_Loc} {st : List Value} {M : pj_Mem}  {o9 : Option Value × pj_Mem} : pj_Ends 98 (197, L, st, M) o9 = pj_Ends 98 (198, L, .int 0 :: st, M) o9 := pj_xs (s98_197)
theorem q98_198 : pj_row 98 198 = some (.iastore, 1, 0, 0, 0) := by decide +kernel
theorem s98_198 {L : pj_Loc} {st : List Value} {N S : Nat} {H : pj_Heap} {o : Nat} {i x : Int32} : pj_step 98 (198, L, .int x :: .int i :: .ref o :: st, (N, S, H)) = pj_set 199 L st (N, S, H) o (pj_ars (H o) 0 i x) := st_iastore q98_198
theorem x98_198 {L : pj_Loc} {st : List Value} {N S : Nat} {H : pj_Heap} {o : Nat} {i x : Int32} {o9 : Option Value × pj_Mem} : pj_Ends 98 (198, L, .int x :: .int i :: .ref o :: st, (N, S, H)) o9 = pj_then 98 o9 (pj_set 199 L st (N, S, H) o (pj_ars (H o) 0 i x)) := pj_xt q98_198 rfl (pj_cl_nc rfl) (s98_198)
theorem q98_199 : pj_row 98 199 = some (.aload_n 0, 1, 0, 0, 0) := by decide +kernel
theorem s98_199 {st : List Value} {M : pj_Mem} {l : pj_Loc} {x : Nat} : pj_step 98 (199, some (.ref x) :: l, st, M) = some (200, some (.ref x) :: l, .ref x :: st, M) := st_aload_n q98_199 rfl
theorem x98_199 {st : List Value} {M : pj_Mem} {l : pj_Loc} {x : Nat} {o9 : Option Value × pj_Mem} : pj_Ends 98 (199, some (.ref x) :: l, st, M) o9 = pj_Ends 98 (200, some (.ref x) :: l, .ref x :: st, M) o9 := pj_xs (s98_199)
theorem q98_200 : pj_row 98 200 = some (.getfield 7, 3, 6, 0, 0) := by decide +kernel
theorem s98_200 {L : pj_Loc} {st : List Value} {N S : Nat} {H : pj_Heap} {o : Nat} : pj_step 98 (200, L, .ref o :: st, (N, S, H)) = pj_pv 203 L st (N, S, H) (pj_fld (H o) 6 0) := st_getfield q98_200
theorem x98_200 {L : pj_Loc} {st : List Value} {N S : Nat} {H : pj_Heap} {o : Nat} {o9 : Option Value × pj_Mem} : pj_Ends 98 (200, L, .ref o :: st, (N, S, H)) o9 = pj_then 98 o9 (pj_pv 203 L st (N, S, H) (pj_fld (H o) 6 0)) := pj_xt q98_200 rfl (pj_cl_nc rfl) (s98_200)
theorem q98_203 : pj_row 98 203 = some (.iload_n 2, 1, 0, 0, 0) := by decide +kernel
theorem s98_203 {st : List Value} {M : pj_Mem} {l : pj_Loc} {a0 a1 : Option Value} {x : Int32} : pj_step 98 (203, a0 :: a1 :: some (.int x) :: l, st, M) = some (204, a0 :: a1 :: some (.int x) :: l, .int x :: st, M) := st_iload_n q98_203 rfl
theorem x98_203 {st : List Value} {M : pj_Mem} {l : pj_Loc} {a0 a1 : Option Value} {x : Int32} {o9 : Option Value × pj_Mem} : pj_Ends 98 (203, a0 :: a1 :: some (.int x) :: l, st, M) o9 = pj_Ends 98 (204, a0 :: a1 :: some (.int x) :: l, .int x :: st, M) o9 := pj_xs (s98_203)
theorem q98_204 : pj_row 98 204 = some (.bipush 9, 2, 0, 0, 0) := by decide +kernel
theorem s98_204 {L : pj_Loc} {st : List Value} {M : pj_Mem}  : pj_step 98 (204, L, st, M) = some (206, L, .int 9 :: st, M) := st_bipush q98_204 (by decide +kernel)
theorem x98_204 {L : pj_Loc} {st : List Value} {M : pj_Mem}  {o9 : Option Value × pj_Mem} : pj_Ends 98 (204, L, st, M) o9 = pj_Ends 98 (206, L, .int 9 :: st, M) o9 := pj_xs (s98_204)
theorem q98_206 : pj_row 98 206 = some (.iadd, 1, 0, 0, 0) := by decide +kernel
theorem s98_206 {L : pj_Loc} {st : List Value} {M : pj_Mem} {x y : Int32} : pj_step 98 (206, L, .int y :: .int x :: st, M) = some (207, L, .int (x + y) :: st, M) := st_iadd q98_206
theorem x98_206 {L : pj_Loc} {st : List Value} {M : pj_Mem} {x y : Int32} {o9 : Option Value × pj_Mem} : pj_Ends 98 (206, L, .int y :: .int x :: st, M) o9 = pj_Ends 98 (207, L, .int (x + y) :: st, M) o9 := pj_xs (s98_206)
theorem q98_207 : pj_row 98 207 = some (.aload_n 0, 1, 0, 0, 0) := by decide +kernel
theorem s98_207 {st : List Value} {M : pj_Mem} {l : pj_Loc} {x : Nat} : pj_step 98 (207, some (.ref x) :: l, st, M) = some (208, some (.ref x) :: l, .ref x :: st, M) := st_aload_n q98_207 rfl
theorem x98_207 {st : List Value} {M : pj_Mem} {l : pj_Loc} {x : Nat} {o9 : Option Value × pj_Mem} : pj_Ends 98 (207, some (.ref x) :: l, st, M) o9 = pj_Ends 98 (208, some (.ref x) :: l, .ref x :: st, M) o9 := pj_xs (s98_207)
theorem q98_208 : pj_row 98 208 = some (.getfield 75, 3, 6, 11, 0) := by decide +kernel
theorem s98_208 {L : pj_Loc} {st : List Value} {N S : Nat} {H : pj_Heap} {o : Nat} : pj_step 98 (208, L, .ref o :: st, (N, S, H)) = pj_pv 211 L st (N, S, H) (pj_fld (H o) 6 11) := st_getfield q98_208
theorem x98_208 {L : pj_Loc} {st : List Value} {N S : Nat} {H : pj_Heap} {o : Nat} {o9 : Option Value × pj_Mem} : pj_Ends 98 (208, L, .ref o :: st, (N, S, H)) o9 = pj_then 98 o9 (pj_pv 211 L st (N, S, H) (pj_fld (H o) 6 11)) := pj_xt q98_208 rfl (pj_cl_nc rfl) (s98_208)
theorem q98_211 : pj_row 98 211 = some (.iastore, 1, 0, 0, 0) := by decide +kernel
theorem s98_211 {L : pj_Loc} {st : List Value} {N S : Nat} {H : pj_Heap} {o : Nat} {i x : Int32} : pj_step 98 (211, L, .int x :: .int i :: .ref o :: st, (N, S, H)) = pj_set 212 L st (N, S, H) o (pj_ars (H o) 0 i x) := st_iastore q98_211
theorem x98_211 {L : pj_Loc} {st : List Value} {N S : Nat} {H : pj_Heap} {o : Nat} {i x : Int32} {o9 : Option Value × pj_Mem} : pj_Ends 98 (211, L, .int x :: .int i :: .ref o :: st, (N, S, H)) o9 = pj_then 98 o9 (pj_set 212 L st (N, S, H) o (pj_ars (H o) 0 i x)) := pj_xt q98_211 rfl (pj_cl_nc rfl) (s98_211)
theorem q98_212 : pj_row 98 212 = some (.aload_n 0, 1, 0, 0, 0) := by decide +kernel
theorem s98_212 {st : List Value} {M : pj_Mem} {l : pj_Loc} {x : Nat} : pj_step 98 (212, some (.ref x) :: l, st, M) = some (213, some (.ref x) :: l, .ref x :: st, M) := st_aload_n q98_212 rfl
theorem x98_212 {st : List Value} {M : pj_Mem} {l : pj_Loc} {x : Nat} {o9 : Option Value × pj_Mem} : pj_Ends 98 (212, some (.ref x) :: l, st, M) o9 = pj_Ends 98 (213, some (.ref x) :: l, .ref x :: st, M) o9 := pj_xs (s98_212)
theorem q98_213 : pj_row 98 213 = some (.getfield 7, 3, 6, 0, 0) := by decide +kernel
theorem s98_213 {L : pj_Loc} {st : List Value} {N S : Nat} {H : pj_Heap} {o : Nat} : pj_step 98 (213, L, .ref o :: st, (N, S, H)) = pj_pv 216 L st (N, S, H) (pj_fld (H o) 6 0) := st_getfield q98_213
theorem x98_213 {L : pj_Loc} {st : List Value} {N S : Nat} {H : pj_Heap} {o : Nat} {o9 : Option Value × pj_Mem} : pj_Ends 98 (213, L, .ref o :: st, (N, S, H)) o9 = pj_then 98 o9 (pj_pv 216 L st (N, S, H) (pj_fld (H o) 6 0)) := pj_xt q98_213 rfl (pj_cl_nc rfl) (s98_213)
theorem q98_216 : pj_row 98 216 = some (.bipush 30, 2, 0, 0, 0) := by decide +kernel
theorem s98_216 {L : pj_Loc} {st : List Value} {M : pj_Mem}  : pj_step 98 (216, L, st, M) = some (218, L, .int 30 :: st, M) := st_bipush q98_216 (by decide +kernel)
theorem x98_216 {L : pj_Loc} {st : List Value} {M : pj_Mem}  {o9 : Option Value × pj_Mem} : pj_Ends 98 (216, L, st, M) o9 = pj_Ends 98 (218, L, .int 30 :: st, M) o9 := pj_xs (s98_216)
theorem q98_218 : pj_row 98 218 = some (.dup2, 1, 0, 0, 0) := by decide +kernel
theorem s98_218 {L : pj_Loc} {st : List Value} {M : pj_Mem} {x : Int32} {o : Nat} : pj_step 98 (218, L, .int x :: .ref o :: st, M) = some (219, L, .int x :: .ref o :: .int x :: .ref o :: st, M) := st_dup2 q98_218
theorem x98_218 {L : pj_Loc} {st : List Value} {M : pj_Mem} {x : Int32} {o : Nat} {o9 : Option Value × pj_Mem} : pj_Ends 98 (218, L, .int x :: .ref o :: st, M) o9 = pj_Ends 98 (219, L, .int x :: .ref o :: .int x :: .ref o :: st, M) o9 := pj_xs (s98_218)
theorem q98_219 : pj_row 98 219 = some (.iaload, 1, 0, 0, 0) := by decide +kernel
theorem s98_219 {L : pj_Loc} {st : List Value} {N S : Nat} {H : pj_Heap} {o : Nat} {i : Int32} : pj_step 98 (219, L, .int i :: .ref o :: st, (N, S, H)) = pj_pi 220 L st (N, S, H) (pj_arl (H o) 0 i) := st_iaload q98_219
theorem x98_219 {L : pj_Loc} {st : List Value} {N S : Nat} {H : pj_Heap} {o : Nat} {i : Int32} {o9 : Option Value × pj_Mem} : pj_Ends 98 (219, L, .int i :: .ref o :: st, (N, S, H)) o9 = pj_then 98 o9 (pj_pi 220 L st (N, S, H) (pj_arl (H o) 0 i)) := pj_xt q98_219 rfl (pj_cl_nc rfl) (s98_219)
theorem q98_220 : pj_row 98 220 = some (.iconst 1, 1, 0, 0, 0) := by decide +kernel
theorem s98_220 {L : pj_Loc} {st : List Value} {M : pj_Mem}  : pj_step 98 (220, L, st, M) = some (221, L, .int 1 :: st, M) := st_iconst q98_220 (by decide +kernel)
theorem x98_220 {L : pj_Loc} {st : List Value} {M : pj_Mem}  {o9 : Option Value × pj_Mem} : pj_Ends 98 (220, L, st, M) o9 = pj_Ends 98 (221, L, .int 1 :: st, M) o9 := pj_xs (s98_220)
theorem q98_221 : pj_row 98 221 = some (.iadd, 1, 0, 0, 0) := by decide +kernel
theorem s98_221 {L : pj_Loc} {st : List Value} {M : pj_Mem} {x y : Int32} : pj_step 98 (221, L, .int y :: .int x :: st, M) = some (222, L, .int (x + y) :: st, M) := st_iadd q98_221
theorem x98_221 {L : pj_Loc} {st : List Value} {M : pj_Mem} {x y : Int32} {o9 : Option Value × pj_Mem} : pj_Ends 98 (221, L, .int y :: .int x :: st, M) o9 = pj_Ends 98 (222, L, .int (x + y) :: st, M) o9 := pj_xs (s98_221)
theorem q98_222 : pj_row 98 222 = some (.iastore, 1, 0, 0, 0) := by decide +kernel
theorem s98_222 {L : pj_Loc} {st : List Value} {N S : Nat} {H : pj_Heap} {o : Nat} {i x : Int32} : pj_step 98 (222, L, .int x :: .int i :: .ref o :: st, (N, S, H)) = pj_set 223 L st (N, S, H) o (pj_ars (H o) 0 i x) := st_iastore q98_222
theorem x98_222 {L : pj_Loc} {st : List Value} {N S : Nat} {H : pj_Heap} {o : Nat} {i x : Int32} {o9 : Option Value × pj_Mem} : pj_Ends 98 (222, L, .int x :: .int i :: .ref o :: st, (N, S, H)) o9 = pj_then 98 o9 (pj_set 223 L st (N, S, H) o (pj_ars (H o) 0 i x)) := pj_xt q98_222 rfl (pj_cl_nc rfl) (s98_222)
theorem q98_223 : pj_row 98 223 = some (.return_, 1, 0, 0, 0) := by decide +kernel
theorem t98_223 {L : pj_Loc} {M : pj_Mem} : pj_Ends 98 (223, L, [], M) (none, M) := pj_Ends.ret q98_223 (pj_rtn_v rt98)
theorem rt99 : pj_rt 99 = some .int := rfl
theorem q99_0 : pj_row 99 0 = some (.iload_n 1, 1, 0, 0, 0) := by decide +kernel
theorem s99_0 {st : List Value} {M : pj_Mem} {l : pj_Loc} {a0 : Option Value} {x : Int32} : pj_step 99 (0, a0 :: some (.int x) :: l, st, M) = some (1, a0 :: some (.int x) :: l, .int x :: st, M) := st_iload_n q99_0 rfl
theorem x99_0 {st : List Value} {M : pj_Mem} {l : pj_Loc} {a0 : Option Value} {x : Int32} {o9 : Option Value × pj_Mem} : pj_Ends 99 (0, a0 :: some (.int x) :: l, st, M) o9 = pj_Ends 99 (1, a0 :: some (.int x) :: l, .int x :: st, M) o9 := pj_xs (s99_0)
theorem q99_1 : pj_row 99 1 = some (.invokestatic 137, 3, 100, 1, 0) := by decide +kernel
theorem e99_1 {L : pj_Loc} {st : List Value} {N S : Nat} {H : pj_Heap} {o : Option Value × pj_Mem} {M' : pj_Mem} {x0 : Int32} {r : Int32} (h4 : pj_le4 st = true) (h1 : pj_Ends 100 (0, [some (.int x0)], [], (N, S, H)) (some (.int r), M')) (h2 : pj_Ends 99 (4, L, .int r :: st, M') o) : pj_Ends 99 (1, L, .int x0 :: st, (N, S, H)) o := ec_s1 q99_1 (Or.inl rfl) h4 rfl h1 h2
theorem q99_4 : pj_row 99 4 = some (.ifCond .ne 5, 3, 9, 0, 0) := by decide +kernel
theorem s99_4 {L : pj_Loc} {st : List Value} {M : pj_Mem} {x : Int32} : pj_step 99 (4, L, .int x :: st, M) = some (if ¬ x = 0 then 9 else 7, L, st, M) := st_if_ne q99_4
theorem x99_4 {L : pj_Loc} {st : List Value} {M : pj_Mem} {x : Int32} {o9 : Option Value × pj_Mem} : pj_Ends 99 (4, L, .int x :: st, M) o9 = pj_Ends 99 (if ¬ x = 0 then 9 else 7, L, st, M) o9 := pj_xs (s99_4)
theorem q99_7 : pj_row 99 7 = some (.iconst (-1), 1, 0, 0, 0) := by decide +kernel
theorem s99_7 {L : pj_Loc} {st : List Value} {M : pj_Mem}  : pj_step 99 (7, L, st, M) = some (8, L, .int (-1) :: st, M) := st_iconst q99_7 (by decide +kernel)
theorem x99_7 {L : pj_Loc} {st : List Value} {M : pj_Mem}  {o9 : Option Value × pj_Mem} : pj_Ends 99 (7, L, st, M) o9 = pj_Ends 99 (8, L, .int (-1) :: st, M) o9 := pj_xs (s99_7)
theorem q99_8 : pj_row 99 8 = some (.ireturn, 1, 0, 0, 0) := by decide +kernel
theorem t99_8 {L : pj_Loc} {M : pj_Mem} {v : Int32} : pj_Ends 99 (8, L, [.int v], M) (some (.int v), M) := pj_Ends.ret q99_8 (pj_rtn_i rt99)
theorem q99_9 : pj_row 99 9 = some (.iload_n 2, 1, 0, 0, 0) := by decide +kernel
theorem s99_9 {st : List Value} {M : pj_Mem} {l : pj_Loc} {a0 a1 : Option Value} {x : Int32} : pj_step 99 (9, a0 :: a1 :: some (.int x) :: l, st, M) = some (10, a0 :: a1 :: some (.int x) :: l, .int x :: st, M) := st_iload_n q99_9 rfl
theorem x99_9 {st : List Value} {M : pj_Mem} {l : pj_Loc} {a0 a1 : Option Value} {x : Int32} {o9 : Option Value × pj_Mem} : pj_Ends 99 (9, a0 :: a1 :: some (.int x) :: l, st, M) o9 = pj_Ends 99 (10, a0 :: a1 :: some (.int x) :: l, .int x :: st, M) o9 := pj_xs (s99_9)
theorem q99_10 : pj_row 99 10 = some (.ifCond .eq 7, 3, 17, 0, 0) := by decide +kernel
theorem s99_10 {L : pj_Loc} {st : List Value} {M : pj_Mem} {x : Int32} : pj_step 99 (10, L, .int x :: st, M) = some (if x = 0 then 17 else 13, L, st, M) := st_if_eq q99_10
theorem x99_10 {L : pj_Loc} {st : List Value} {M : pj_Mem} {x : Int32} {o9 : Option Value × pj_Mem} : pj_Ends 99 (10, L, .int x :: st, M) o9 = pj_Ends 99 (if x = 0 then 17 else 13, L, st, M) o9 := pj_xs (s99_10)
theorem q99_13 : pj_row 99 13 = some (.iconst 1, 1, 0, 0, 0) := by decide +kernel
theorem s99_13 {L : pj_Loc} {st : List Value} {M : pj_Mem}  : pj_step 99 (13, L, st, M) = some (14, L, .int 1 :: st, M) := st_iconst q99_13 (by decide +kernel)
theorem x99_13 {L : pj_Loc} {st : List Value} {M : pj_Mem}  {o9 : Option Value × pj_Mem} : pj_Ends 99 (13, L, st, M) o9 = pj_Ends 99 (14, L, .int 1 :: st, M) o9 := pj_xs (s99_13)
theorem q99_14 : pj_row 99 14 = some (.goto 4, 3, 18, 0, 0) := by decide +kernel
theorem s99_14 {L : pj_Loc} {st : List Value} {M : pj_Mem}  : pj_step 99 (14, L, st, M) = some (18, L, st, M) := st_goto q99_14
theorem x99_14 {L : pj_Loc} {st : List Value} {M : pj_Mem}  {o9 : Option Value × pj_Mem} : pj_Ends 99 (14, L, st, M) o9 = pj_Ends 99 (18, L, st, M) o9 := pj_xs (s99_14)
theorem q99_17 : pj_row 99 17 = some (.iconst 0, 1, 0, 0, 0) := by decide +kernel
theorem s99_17 {L : pj_Loc} {st : List Value} {M : pj_Mem}  : pj_step 99 (17, L, st, M) = some (18, L, .int 0 :: st, M) := st_iconst q99_17 (by decide +kernel)
theorem x99_17 {L : pj_Loc} {st : List Value} {M : pj_Mem}  {o9 : Option Value × pj_Mem} : pj_Ends 99 (17, L, st, M) o9 = pj_Ends 99 (18, L, .int 0 :: st, M) o9 := pj_xs (s99_17)
theorem q99_18 : pj_row 99 18 = some (.istore_n 3, 1, 0, 0, 0) := by decide +kernel
theorem s99_18 {st : List Value} {M : pj_Mem} {l : pj_Loc} {a0 a1 a2 a3 : Option Value} {x : Int32} (h : pj_long a2 = false) : pj_step 99 (18, a0 :: a1 :: a2 :: a3 :: l, .int x :: st, M) = some (19, a0 :: a1 :: a2 :: some (.int x) :: l, st, M) := st_istore_n q99_18 (pj_st_3 h)
theorem x99_18 {st : List Value} {M : pj_Mem} {l : pj_Loc} {a0 a1 a2 a3 : Option Value} {x : Int32} (h : pj_long a2 = false) {o9 : Option Value × pj_Mem} : pj_Ends 99 (18, a0 :: a1 :: a2 :: a3 :: l, .int x :: st, M) o9 = pj_Ends 99 (19, a0 :: a1 :: a2 :: some (.int x) :: l, st, M) o9 := pj_xs (s99_18 h)
theorem q99_19 : pj_row 99 19 = some (.aload_n 0, 1, 0, 0, 0) := by decide +kernel
theorem s99_19 {st : List Value} {M : pj_Mem} {l : pj_Loc} {x : Nat} : pj_step 99 (19, some (.ref x) :: l, st, M) = some (20, some (.ref x) :: l, .ref x :: st, M) := st_aload_n q99_19 rfl
theorem x99_19 {st : List Value} {M : pj_Mem} {l : pj_Loc} {x : Nat} {o9 : Option Value × pj_Mem} : pj_Ends 99 (19, some (.ref x) :: l, st, M) o9 = pj_Ends 99 (20, some (.ref x) :: l, .ref x :: st, M) o9 := pj_xs (s99_19)
theorem q99_20 : pj_row 99 20 = some (.getfield 7, 3, 6, 0, 0) := by decide +kernel
theorem s99_20 {L : pj_Loc} {st : List Value} {N S : Nat} {H : pj_Heap} {o : Nat} : pj_step 99 (20, L, .ref o :: st, (N, S, H)) = pj_pv 23 L st (N, S, H) (pj_fld (H o) 6 0) := st_getfield q99_20
theorem x99_20 {L : pj_Loc} {st : List Value} {N S : Nat} {H : pj_Heap} {o : Nat} {o9 : Option Value × pj_Mem} : pj_Ends 99 (20, L, .ref o :: st, (N, S, H)) o9 = pj_then 99 o9 (pj_pv 23 L st (N, S, H) (pj_fld (H o) 6 0)) := pj_xt q99_20 rfl (pj_cl_nc rfl) (s99_20)
theorem q99_23 : pj_row 99 23 = some (.bipush 26, 2, 0, 0, 0) := by decide +kernel
theorem s99_23 {L : pj_Loc} {st : List Value} {M : pj_Mem}  : pj_step 99 (23, L, st, M) = some (25, L, .int 26 :: st, M) := st_bipush q99_23 (by decide +kernel)
theorem x99_23 {L : pj_Loc} {st : List Value} {M : pj_Mem}  {o9 : Option Value × pj_Mem} : pj_Ends 99 (23, L, st, M) o9 = pj_Ends 99 (25, L, .int 26 :: st, M) o9 := pj_xs (s99_23)
theorem q99_25 : pj_row 99 25 = some (.iload_n 1, 1, 0, 0, 0) := by decide +kernel
theorem s99_25 {st : List Value} {M : pj_Mem} {l : pj_Loc} {a0 : Option Value} {x : Int32} : pj_step 99 (25, a0 :: some (.int x) :: l, st, M) = some (26, a0 :: some (.int x) :: l, .int x :: st, M) := st_iload_n q99_25 rfl
theorem x99_25 {st : List Value} {M : pj_Mem} {l : pj_Loc} {a0 : Option Value} {x : Int32} {o9 : Option Value × pj_Mem} : pj_Ends 99 (25, a0 :: some (.int x) :: l, st, M) o9 = pj_Ends 99 (26, a0 :: some (.int x) :: l, .int x :: st, M) o9 := pj_xs (s99_25)
theorem q99_26 : pj_row 99 26 = some (.iadd, 1, 0, 0, 0) := by decide +kernel
theorem s99_26 {L : pj_Loc} {st : List Value} {M : pj_Mem} {x y : Int32} : pj_step 99 (26, L, .int y :: .int x :: st, M) = some (27, L, .int (x + y) :: st, M) := st_iadd q99_26
theorem x99_26 {L : pj_Loc} {st : List Value} {M : pj_Mem} {x y : Int32} {o9 : Option Value × pj_Mem} : pj_Ends 99 (26, L, .int y :: .int x :: st, M) o9 = pj_Ends 99 (27, L, .int (x + y) :: st, M) o9 := pj_xs (s99_26)
theorem q99_27 : pj_row 99 27 = some (.iaload, 1, 0, 0, 0) := by decide +kernel
theorem s99_27 {L : pj_Loc} {st : List Value} {N S : Nat} {H : pj_Heap} {o : Nat} {i : Int32} : pj_step 99 (27, L, .int i :: .ref o :: st, (N, S, H)) = pj_pi 28 L st (N, S, H) (pj_arl (H o) 0 i) := st_iaload q99_27
theorem x99_27 {L : pj_Loc} {st : List Value} {N S : Nat} {H : pj_Heap} {o : Nat} {i : Int32} {o9 : Option Value × pj_Mem} : pj_Ends 99 (27, L, .int i :: .ref o :: st, (N, S, H)) o9 = pj_then 99 o9 (pj_pi 28 L st (N, S, H) (pj_arl (H o) 0 i)) := pj_xt q99_27 rfl (pj_cl_nc rfl) (s99_27)
theorem q99_28 : pj_row 99 28 = some (.iload_n 3, 1, 0, 0, 0) := by decide +kernel
theorem s99_28 {st : List Value} {M : pj_Mem} {l : pj_Loc} {a0 a1 a2 : Option Value} {x : Int32} : pj_step 99 (28, a0 :: a1 :: a2 :: some (.int x) :: l, st, M) = some (29, a0 :: a1 :: a2 :: some (.int x) :: l, .int x :: st, M) := st_iload_n q99_28 rfl
theorem x99_28 {st : List Value} {M : pj_Mem} {l : pj_Loc} {a0 a1 a2 : Option Value} {x : Int32} {o9 : Option Value × pj_Mem} : pj_Ends 99 (28, a0 :: a1 :: a2 :: some (.int x) :: l, st, M) o9 = pj_Ends 99 (29, a0 :: a1 :: a2 :: some (.int x) :: l, .int x :: st, M) o9 := pj_xs (s99_28)
theorem q99_29 : pj_row 99 29 = some (.if_icmp .eq 17, 3, 46, 0, 0) := by decide +kernel
theorem s99_29 {L : pj_Loc} {st : List Value} {M : pj_Mem} {x y : Int32} : pj_step 99 (29, L, .int y :: .int x :: st, M) = some (if x = y then 46 else 32, L, st, M) := st_icmp_eq q99_29
theorem x99_29 {L : pj_Loc} {st : List Value} {M : pj_Mem} {x y : Int32} {o9 : Option Value × pj_Mem} : pj_Ends 99 (29, L, .int y :: .int x :: st, M) o9 = pj_Ends 99 (if x = y then 46 else 32, L, st, M) o9 := pj_xs (s99_29)
theorem q99_32 : pj_row 99 32 = some (.aload_n 0, 1, 0, 0, 0) := by decide +kernel
theorem s99_32 {st : List Value} {M : pj_Mem} {l : pj_Loc} {x : Nat} : pj_step 99 (32, some (.ref x) :: l, st, M) = some (33, some (.ref x) :: l, .ref x :: st, M) := st_aload_n q99_32 rfl
theorem x99_32 {st : List Value} {M : pj_Mem} {l : pj_Loc} {x : Nat} {o9 : Option Value × pj_Mem} : pj_Ends 99 (32, some (.ref x) :: l, st, M) o9 = pj_Ends 99 (33, some (.ref x) :: l, .ref x :: st, M) o9 := pj_xs (s99_32)
theorem q99_33 : pj_row 99 33 = some (.getfield 7, 3, 6, 0, 0) := by decide +kernel
theorem s99_33 {L : pj_Loc} {st : List Value} {N S : Nat} {H : pj_Heap} {o : Nat} : pj_step 99 (33, L, .ref o :: st, (N, S, H)) = pj_pv 36 L st (N, S, H) (pj_fld (H o) 6 0) := st_getfield q99_33
theorem x99_33 {L : pj_Loc} {st : List Value} {N S : Nat} {H : pj_Heap} {o : Nat} {o9 : Option Value × pj_Mem} : pj_Ends 99 (33, L, .ref o :: st, (N, S, H)) o9 = pj_then 99 o9 (pj_pv 36 L st (N, S, H) (pj_fld (H o) 6 0)) := pj_xt q99_33 rfl (pj_cl_nc rfl) (s99_33)
theorem q99_36 : pj_row 99 36 = some (.bipush 23, 2, 0, 0, 0) := by decide +kernel
theorem s99_36 {L : pj_Loc} {st : List Value} {M : pj_Mem}  : pj_step 99 (36, L, st, M) = some (38, L, .int 23 :: st, M) := st_bipush q99_36 (by decide +kernel)
theorem x99_36 {L : pj_Loc} {st : List Value} {M : pj_Mem}  {o9 : Option Value × pj_Mem} : pj_Ends 99 (36, L, st, M) o9 = pj_Ends 99 (38, L, .int 23 :: st, M) o9 := pj_xs (s99_36)
theorem q99_38 : pj_row 99 38 = some (.iload_n 1, 1, 0, 0, 0) := by decide +kernel
theorem s99_38 {st : List Value} {M : pj_Mem} {l : pj_Loc} {a0 : Option Value} {x : Int32} : pj_step 99 (38, a0 :: some (.int x) :: l, st, M) = some (39, a0 :: some (.int x) :: l, .int x :: st, M) := st_iload_n q99_38 rfl
theorem x99_38 {st : List Value} {M : pj_Mem} {l : pj_Loc} {a0 : Option Value} {x : Int32} {o9 : Option Value × pj_Mem} : pj_Ends 99 (38, a0 :: some (.int x) :: l, st, M) o9 = pj_Ends 99 (39, a0 :: some (.int x) :: l, .int x :: st, M) o9 := pj_xs (s99_38)
theorem q99_39 : pj_row 99 39 = some (.iadd, 1, 0, 0, 0) := by decide +kernel
theorem s99_39 {L : pj_Loc} {st : List Value} {M : pj_Mem} {x y : Int32} : pj_step 99 (39, L, .int y :: .int x :: st, M) = some (40, L, .int (x + y) :: st, M) := st_iadd q99_39
theorem x99_39 {L : pj_Loc} {st : List Value} {M : pj_Mem} {x y : Int32} {o9 : Option Value × pj_Mem} : pj_Ends 99 (39, L, .int y :: .int x :: st, M) o9 = pj_Ends 99 (40, L, .int (x + y) :: st, M) o9 := pj_xs (s99_39)
theorem q99_40 : pj_row 99 40 = some (.iaload, 1, 0, 0, 0) := by decide +kernel
theorem s99_40 {L : pj_Loc} {st : List Value} {N S : Nat} {H : pj_Heap} {o : Nat} {i : Int32} : pj_step 99 (40, L, .int i :: .ref o :: st, (N, S, H)) = pj_pi 41 L st (N, S, H) (pj_arl (H o) 0 i) := st_iaload q99_40
theorem x99_40 {L : pj_Loc} {st : List Value} {N S : Nat} {H : pj_Heap} {o : Nat} {i : Int32} {o9 : Option Value × pj_Mem} : pj_Ends 99 (40, L, .int i :: .ref o :: st, (N, S, H)) o9 = pj_then 99 o9 (pj_pi 41 L st (N, S, H) (pj_arl (H o) 0 i)) := pj_xt q99_40 rfl (pj_cl_nc rfl) (s99_40)
theorem q99_41 : pj_row 99 41 = some (.bipush (-6), 2, 0, 0, 0) := by decide +kernel
theorem s99_41 {L : pj_Loc} {st : List Value} {M : pj_Mem}  : pj_step 99 (41, L, st, M) = some (43, L, .int (-6) :: st, M) := st_bipush q99_41 (by decide +kernel)
theorem x99_41 {L : pj_Loc} {st : List Value} {M : pj_Mem}  {o9 : Option Value × pj_Mem} : pj_Ends 99 (41, L, st, M) o9 = pj_Ends 99 (43, L, .int (-6) :: st, M) o9 := pj_xs (s99_41)
theorem q99_43 : pj_row 99 43 = some (.if_icmp .eq 6, 3, 49, 0, 0) := by decide +kernel
theorem s99_43 {L : pj_Loc} {st : List Value} {M : pj_Mem} {x y : Int32} : pj_step 99 (43, L, .int y :: .int x :: st, M) = some (if x = y then 49 else 46, L, st, M) := st_icmp_eq q99_43
theorem x99_43 {L : pj_Loc} {st : List Value} {M : pj_Mem} {x y : Int32} {o9 : Option Value × pj_Mem} : pj_Ends 99 (43, L, .int y :: .int x :: st, M) o9 = pj_Ends 99 (if x = y then 49 else 46, L, st, M) o9 := pj_xs (s99_43)
theorem q99_46 : pj_row 99 46 = some (.bipush (-5), 2, 0, 0, 0) := by decide +kernel
theorem s99_46 {L : pj_Loc} {st : List Value} {M : pj_Mem}  : pj_step 99 (46, L, st, M) = some (48, L, .int (-5) :: st, M) := st_bipush q99_46 (by decide +kernel)
theorem x99_46 {L : pj_Loc} {st : List Value} {M : pj_Mem}  {o9 : Option Value × pj_Mem} : pj_Ends 99 (46, L, st, M) o9 = pj_Ends 99 (48, L, .int (-5) :: st, M) o9 := pj_xs (s99_46)
theorem q99_48 : pj_row 99 48 = some (.ireturn, 1, 0, 0, 0) := by decide +kernel
theorem t99_48 {L : pj_Loc} {M : pj_Mem} {v : Int32} : pj_Ends 99 (48, L, [.int v], M) (some (.int v), M) := pj_Ends.ret q99_48 (pj_rtn_i rt99)
theorem q99_49 : pj_row 99 49 = some (.aload_n 0, 1, 0, 0, 0) := by decide +kernel
theorem s99_49 {st : List Value} {M : pj_Mem} {l : pj_Loc} {x : Nat} : pj_step 99 (49, some (.ref x) :: l, st, M) = some (50, some (.ref x) :: l, .ref x :: st, M) := st_aload_n q99_49 rfl
theorem x99_49 {st : List Value} {M : pj_Mem} {l : pj_Loc} {x : Nat} {o9 : Option Value × pj_Mem} : pj_Ends 99 (49, some (.ref x) :: l, st, M) o9 = pj_Ends 99 (50, some (.ref x) :: l, .ref x :: st, M) o9 := pj_xs (s99_49)
theorem q99_50 : pj_row 99 50 = some (.invokevirtual 121, 3, 78, 1, 0) := by decide +kernel
theorem e99_50 {L : pj_Loc} {st : List Value} {N S : Nat} {H : pj_Heap} {o : Option Value × pj_Mem} {M' : pj_Mem} {x0 : Nat} (h4 : pj_le4 st = true) (hu : pj_isU 6 (H x0) = true) (h1 : pj_Ends 78 (0, [some (.ref x0), none], [], (N, S, H)) (none, M')) (h2 : pj_Ends 99 (53, L, st, M') o) : pj_Ends 99 (50, L, .ref x0 :: st, (N, S, H)) o := ec_v1 q99_50 (Or.inl rfl) h4 hu rfl h1 h2
theorem q99_53 : pj_row 99 53 = some (.aload_n 0, 1, 0, 0, 0) := by decide +kernel
theorem s99_53 {st : List Value} {M : pj_Mem} {l : pj_Loc} {x : Nat} : pj_step 99 (53, some (.ref x) :: l, st, M) = some (54, some (.ref x) :: l, .ref x :: st, M) := st_aload_n q99_53 rfl
theorem x99_53 {st : List Value} {M : pj_Mem} {l : pj_Loc} {x : Nat} {o9 : Option Value × pj_Mem} : pj_Ends 99 (53, some (.ref x) :: l, st, M) o9 = pj_Ends 99 (54, some (.ref x) :: l, .ref x :: st, M) o9 := pj_xs (s99_53)
theorem q99_54 : pj_row 99 54 = some (.getfield 7, 3, 6, 0, 0) := by decide +kernel
theorem s99_54 {L : pj_Loc} {st : List Value} {N S : Nat} {H : pj_Heap} {o : Nat} : pj_step 99 (54, L, .ref o :: st, (N, S, H)) = pj_pv 57 L st (N, S, H) (pj_fld (H o) 6 0) := st_getfield q99_54
theorem x99_54 {L : pj_Loc} {st : List Value} {N S : Nat} {H : pj_Heap} {o : Nat} {o9 : Option Value × pj_Mem} : pj_Ends 99 (54, L, .ref o :: st, (N, S, H)) o9 = pj_then 99 o9 (pj_pv 57 L st (N, S, H) (pj_fld (H o) 6 0)) := pj_xt q99_54 rfl (pj_cl_nc rfl) (s99_54)
theorem q99_57 : pj_row 99 57 = some (.bipush 26, 2, 0, 0, 0) := by decide +kernel
theorem s99_57 {L : pj_Loc} {st : List Value} {M : pj_Mem}  : pj_step 99 (57, L, st, M) = some (59, L, .int 26 :: st, M) := st_bipush q99_57 (by decide +kernel)
theorem x99_57 {L : pj_Loc} {st : List Value} {M : pj_Mem}  {o9 : Option Value × pj_Mem} : pj_Ends 99 (57, L, st, M) o9 = pj_Ends 99 (59, L, .int 26 :: st, M) o9 := pj_xs (s99_57)
theorem q99_59 : pj_row 99 59 = some (.iload_n 1, 1, 0, 0, 0) := by decide +kernel
theorem s99_59 {st : List Value} {M : pj_Mem} {l : pj_Loc} {a0 : Option Value} {x : Int32} : pj_step 99 (59, a0 :: some (.int x) :: l, st, M) = some (60, a0 :: some (.int x) :: l, .int x :: st, M) := st_iload_n q99_59 rfl
theorem x99_59 {st : List Value} {M : pj_Mem} {l : pj_Loc} {a0 : Option Value} {x : Int32} {o9 : Option Value × pj_Mem} : pj_Ends 99 (59, a0 :: some (.int x) :: l, st, M) o9 = pj_Ends 99 (60, a0 :: some (.int x) :: l, .int x :: st, M) o9 := pj_xs (s99_59)
theorem q99_60 : pj_row 99 60 = some (.iadd, 1, 0, 0, 0) := by decide +kernel
theorem s99_60 {L : pj_Loc} {st : List Value} {M : pj_Mem} {x y : Int32} : pj_step 99 (60, L, .int y :: .int x :: st, M) = some (61, L, .int (x + y) :: st, M) := st_iadd q99_60
theorem x99_60 {L : pj_Loc} {st : List Value} {M : pj_Mem} {x y : Int32} {o9 : Option Value × pj_Mem} : pj_Ends 99 (60, L, .int y :: .int x :: st, M) o9 = pj_Ends 99 (61, L, .int (x + y) :: st, M) o9 := pj_xs (s99_60)
theorem q99_61 : pj_row 99 61 = some (.iload_n 3, 1, 0, 0, 0) := by decide +kernel
theorem s99_61 {st : List Value} {M : pj_Mem} {l : pj_Loc} {a0 a1 a2 : Option Value} {x : Int32} : pj_step 99 (61, a0 :: a1 :: a2 :: some (.int x) :: l, st, M) = some (62, a0 :: a1 :: a2 :: some (.int x) :: l, .int x :: st, M) := st_iload_n q99_61 rfl
theorem x99_61 {st : List Value} {M : pj_Mem} {l : pj_Loc} {a0 a1 a2 : Option Value} {x : Int32} {o9 : Option Value × pj_Mem} : pj_Ends 99 (61, a0 :: a1 :: a2 :: some (.int x) :: l, st, M) o9 = pj_Ends 99 (62, a0 :: a1 :: a2 :: some (.int x) :: l, .int x :: st, M) o9 := pj_xs (s99_61)
theorem q99_62 : pj_row 99 62 = some (.iastore, 1, 0, 0, 0) := by decide +kernel
theorem s99_62 {L : pj_Loc} {st : List Value} {N S : Nat} {H : pj_Heap} {o : Nat} {i x : Int32} : pj_step 99 (62, L, .int x :: .int i :: .ref o :: st, (N, S, H)) = pj_set 63 L st (N, S, H) o (pj_ars (H o) 0 i x) := st_iastore q99_62
theorem x99_62 {L : pj_Loc} {st : List Value} {N S : Nat} {H : pj_Heap} {o : Nat} {i x : Int32} {o9 : Option Value × pj_Mem} : pj_Ends 99 (62, L, .int x :: .int i :: .ref o :: st, (N, S, H)) o9 = pj_then 99 o9 (pj_set 63 L st (N, S, H) o (pj_ars (H o) 0 i x)) := pj_xt q99_62 rfl (pj_cl_nc rfl) (s99_62)
theorem q99_63 : pj_row 99 63 = some (.aload_n 0, 1, 0, 0, 0) := by decide +kernel
theorem s99_63 {st : List Value} {M : pj_Mem} {l : pj_Loc} {x : Nat} : pj_step 99 (63, some (.ref x) :: l, st, M) = some (64, some (.ref x) :: l, .ref x :: st, M) := st_aload_n q99_63 rfl
theorem x99_63 {st : List Value} {M : pj_Mem} {l : pj_Loc} {x : Nat} {o9 : Option Value × pj_Mem} : pj_Ends 99 (63, some (.ref x) :: l, st, M) o9 = pj_Ends 99 (64, some (.ref x) :: l, .ref x :: st, M) o9 := pj_xs (s99_63)
theorem q99_64 : pj_row 99 64 = some (.aload_n 0, 1, 0, 0, 0) := by decide +kernel
theorem s99_64 {st : List Value} {M : pj_Mem} {l : pj_Loc} {x : Nat} : pj_step 99 (64, some (.ref x) :: l, st, M) = some (65, some (.ref x) :: l, .ref x :: st, M) := st_aload_n q99_64 rfl
theorem x99_64 {st : List Value} {M : pj_Mem} {l : pj_Loc} {x : Nat} {o9 : Option Value × pj_Mem} : pj_Ends 99 (64, some (.ref x) :: l, st, M) o9 = pj_Ends 99 (65, some (.ref x) :: l, .ref x :: st, M) o9 := pj_xs (s99_64)
theorem q99_65 : pj_row 99 65 = some (.invokevirtual 140, 3, 101, 1, 0) := by decide +kernel
theorem e99_65 {L : pj_Loc} {st : List Value} {N S : Nat} {H : pj_Heap} {o : Option Value × pj_Mem} {M' : pj_Mem} {x0 : Nat} {r : Int32} (h4 : pj_le4 st = true) (hu : pj_isU 6 (H x0) = true) (h1 : pj_Ends 101 (0, [some (.ref x0)], [], (N, S, H)) (some (.int r), M')) (h2 : pj_Ends 99 (68, L, .int r :: st, M') o) : pj_Ends 99 (65, L, .ref x0 :: st, (N, S, H)) o := ec_v1 q99_65 (Or.inl rfl) h4 hu rfl h1 h2
theorem q99_68 : pj_row 99 68 = some (.invokevirtual 124, 3, 79, 2, 0) := by decide +kernel
theorem e99_68 {L : pj_Loc} {st : List Value} {N S : Nat} {H : pj_Heap} {o : Option Value × pj_Mem} {M' : pj_Mem} {x0 : Nat} {x1 : Int32} {r : Int32} (h4 : pj_le4 st = true) (hu : pj_isU 6 (H x0) = true) (h1 : pj_Ends 79 (0, [some (.ref x0), some (.int x1), none], [], (N, S, H)) (some (.int r), M')) (h2 : pj_Ends 99 (71, L, .int r :: st, M') o) : pj_Ends 99 (68, L, .int x1 :: .ref x0 :: st, (N, S, H)) o := ec_v2 q99_68 (Or.inl rfl) h4 hu rfl h1 h2
theorem q99_71 : pj_row 99 71 = some (.ireturn, 1, 0, 0, 0) := by decide +kernel
theorem t99_71 {L : pj_Loc} {M : pj_Mem} {v : Int32} : pj_Ends 99 (71, L, [.int v], M) (some (.int v), M) := pj_Ends.ret q99_71 (pj_rtn_i rt99)
