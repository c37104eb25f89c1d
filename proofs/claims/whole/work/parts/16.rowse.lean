/-! THE STEPS OF EACH METHOD, by program (wip/whole/gen/gen12.py) -/
theorem rt124 : pj_rt 124 = some .boolean := rfl
theorem q124_0 : pj_row 124 0 = some (.new 7, 3, 5, 0, 0) := by decide +kernel
theorem s124_0 {L : pj_Loc} {st : List Value} {N S : Nat} {H : pj_Heap}  : pj_step 124 (0, L, st, (N, S, H)) = some (3, L, .ref N :: st, (N + 1, S + 8, pj_up H N (.inl (5, [.null, .null, .null, .null, .null, .int 0, .null, .null])))) := (st_new q124_0).trans rfl
theorem x124_0 {L : pj_Loc} {st : List Value} {N S : Nat} {H : pj_Heap}  {o9 : Option Value × pj_Mem} : pj_Ends 124 (0, L, st, (N, S, H)) o9 = pj_Ends 124 (3, L, .ref N :: st, (N + 1, S + 8, pj_up H N (.inl (5, [.null, .null, .null, .null, .null, .int 0, .null, .null])))) o9 := pj_xs (s124_0)
theorem q124_3 : pj_row 124 3 = some (.dup, 1, 0, 0, 0) := by decide +kernel
theorem s124_3 {L : pj_Loc} {st : List Value} {M : pj_Mem} {x : Nat} : pj_step 124 (3, L, .ref x :: st, M) = some (4, L, .ref x :: .ref x :: st, M) := st_dup_ref q124_3
theorem x124_3 {L : pj_Loc} {st : List Value} {M : pj_Mem} {x : Nat} {o9 : Option Value × pj_Mem} : pj_Ends 124 (3, L, .ref x :: st, M) o9 = pj_Ends 124 (4, L, .ref x :: .ref x :: st, M) o9 := pj_xs (s124_3)
theorem s124_3i {L : pj_Loc} {st : List Value} {M : pj_Mem} {x : Int32} : pj_step 124 (3, L, .int x :: st, M) = some (4, L, .int x :: .int x :: st, M) := st_dup_int q124_3
theorem x124_3i {L : pj_Loc} {st : List Value} {M : pj_Mem} {x : Int32} {o9 : Option Value × pj_Mem} : pj_Ends 124 (3, L, .int x :: st, M) o9 = pj_Ends 124 (4, L, .int x :: .int x :: st, M) o9 := pj_xs (s124_3i)
theorem q124_4 : pj_row 124 4 = some (.invokespecial 9, 3, 0, 1, 0) := by decide +kernel
theorem e124_4 {L : pj_Loc} {st : List Value} {N S : Nat} {H : pj_Heap} {o : Option Value × pj_Mem} {M' : pj_Mem} {x0 : Nat} (h4 : pj_le4 st = true) (h1 : pj_Ends 0 (0, [some (.ref x0)], [], (N, S, H)) (none, M')) (h2 : pj_Ends 124 (7, L, st, M') o) : pj_Ends 124 (4, L, .ref x0 :: st, (N, S, H)) o := ec_i1 q124_4 (Or.inl rfl) h4 rfl h1 h2
theorem q124_7 : pj_row 124 7 = some (.astore_n 1, 1, 0, 0, 0) := by decide +kernel
theorem s124_7 {st : List Value} {M : pj_Mem} {l : pj_Loc} {a0 a1 : Option Value} {x : Nat} (h : pj_long a0 = false) : pj_step 124 (7, a0 :: a1 :: l, .ref x :: st, M) = some (8, a0 :: some (.ref x) :: l, st, M) := st_astore_n q124_7 (pj_st_1 h)
theorem x124_7 {st : List Value} {M : pj_Mem} {l : pj_Loc} {a0 a1 : Option Value} {x : Nat} (h : pj_long a0 = false) {o9 : Option Value × pj_Mem} : pj_Ends 124 (7, a0 :: a1 :: l, .ref x :: st, M) o9 = pj_Ends 124 (8, a0 :: some (.ref x) :: l, st, M) o9 := pj_xs (s124_7 h)
theorem q124_8 : pj_row 124 8 = some (.new 10, 3, 6, 0, 0) := by decide +kernel
theorem s124_8 {L : pj_Loc} {st : List Value} {N S : Nat} {H : pj_Heap}  : pj_step 124 (8, L, st, (N, S, H)) = some (11, L, .ref N :: st, (N + 1, S + 18, pj_up H N (.inl (6, [.null, .null, .null, .int 0, .null, .null, .null, .null, .int 0, .int 0, .int 0, .int 0, .null, .int 0, .int 0, .int 0, .int 0, .int 0])))) := (st_new q124_8).trans rfl
theorem x124_8 {L : pj_Loc} {st : List Value} {N S : Nat} {H : pj_Heap}  {o9 : Option Value × pj_Mem} : pj_Ends 124 (8, L, st, (N, S, H)) o9 = pj_Ends 124 (11, L, .ref N :: st, (N + 1, S + 18, pj_up H N (.inl (6, [.null, .null, .null, .int 0, .null, .null, .null, .null, .int 0, .int 0, .int 0, .int 0, .null, .int 0, .int 0, .int 0, .int 0, .int 0])))) o9 := pj_xs (s124_8)
theorem q124_11 : pj_row 124 11 = some (.dup, 1, 0, 0, 0) := by decide +kernel
theorem s124_11 {L : pj_Loc} {st : List Value} {M : pj_Mem} {x : Nat} : pj_step 124 (11, L, .ref x :: st, M) = some (12, L, .ref x :: .ref x :: st, M) := st_dup_ref q124_11
theorem x124_11 {L : pj_Loc} {st : List Value} {M : pj_Mem} {x : Nat} {o9 : Option Value × pj_Mem} : pj_Ends 124 (11, L, .ref x :: st, M) o9 = pj_Ends 124 (12, L, .ref x :: .ref x :: st, M) o9 := pj_xs (s124_11)
theorem s124_11i {L : pj_Loc} {st : List Value} {M : pj_Mem} {x : Int32} : pj_step 124 (11, L, .int x :: st, M) = some (12, L, .int x :: .int x :: st, M) := st_dup_int q124_11
theorem x124_11i {L : pj_Loc} {st : List Value} {M : pj_Mem} {x : Int32} {o9 : Option Value × pj_Mem} : pj_Ends 124 (11, L, .int x :: st, M) o9 = pj_Ends 124 (12, L, .int x :: .int x :: st, M) o9 := pj_xs (s124_11i)
theorem q124_12 : pj_row 124 12 = some (.invokespecial 12, 3, 74, 1, 0) := by decide +kernel
theorem e124_12 {L : pj_Loc} {st : List Value} {N S : Nat} {H : pj_Heap} {o : Option Value × pj_Mem} {M' : pj_Mem} {x0 : Nat} (h4 : pj_le4 st = true) (h1 : pj_Ends 74 (0, [some (.ref x0), none], [], (N, S, H)) (none, M')) (h2 : pj_Ends 124 (15, L, st, M') o) : pj_Ends 124 (12, L, .ref x0 :: st, (N, S, H)) o := ec_i1 q124_12 (Or.inl rfl) h4 rfl h1 h2
theorem q124_15 : pj_row 124 15 = some (.astore_n 2, 1, 0, 0, 0) := by decide +kernel
theorem s124_15 {st : List Value} {M : pj_Mem} {l : pj_Loc} {a0 a1 a2 : Option Value} {x : Nat} (h : pj_long a1 = false) : pj_step 124 (15, a0 :: a1 :: a2 :: l, .ref x :: st, M) = some (16, a0 :: a1 :: some (.ref x) :: l, st, M) := st_astore_n q124_15 (pj_st_2 h)
theorem x124_15 {st : List Value} {M : pj_Mem} {l : pj_Loc} {a0 a1 a2 : Option Value} {x : Nat} (h : pj_long a1 = false) {o9 : Option Value × pj_Mem} : pj_Ends 124 (15, a0 :: a1 :: a2 :: l, .ref x :: st, M) o9 = pj_Ends 124 (16, a0 :: a1 :: some (.ref x) :: l, st, M) o9 := pj_xs (s124_15 h)
theorem q124_16 : pj_row 124 16 = some (.iconst 0, 1, 0, 0, 0) := by decide +kernel
theorem s124_16 {L : pj_Loc} {st : List Value} {M : pj_Mem}  : pj_step 124 (16, L, st, M) = some (17, L, .int 0 :: st, M) := st_iconst q124_16 (by decide +kernel)
theorem x124_16 {L : pj_Loc} {st : List Value} {M : pj_Mem}  {o9 : Option Value × pj_Mem} : pj_Ends 124 (16, L, st, M) o9 = pj_Ends 124 (17, L, .int 0 :: st, M) o9 := pj_xs (s124_16)
theorem q124_17 : pj_row 124 17 = some (.istore_n 3, 1, 0, 0, 0) := by decide +kernel
theorem s124_17 {st : List Value} {M : pj_Mem} {l : pj_Loc} {a0 a1 a2 a3 : Option Value} {x : Int32} (h : pj_long a2 = false) : pj_step 124 (17, a0 :: a1 :: a2 :: a3 :: l, .int x :: st, M) = some (18, a0 :: a1 :: a2 :: some (.int x) :: l, st, M) := st_istore_n q124_17 (pj_st_3 h)
theorem x124_17 {st : List Value} {M : pj_Mem} {l : pj_Loc} {a0 a1 a2 a3 : Option Value} {x : Int32} (h : pj_long a2 = false) {o9 : Option Value × pj_Mem} : pj_Ends 124 (17, a0 :: a1 :: a2 :: a3 :: l, .int x :: st, M) o9 = pj_Ends 124 (18, a0 :: a1 :: a2 :: some (.int x) :: l, st, M) o9 := pj_xs (s124_17 h)
theorem q124_18 : pj_row 124 18 = some (.iload_n 3, 1, 0, 0, 0) := by decide +kernel
theorem s124_18 {st : List Value} {M : pj_Mem} {l : pj_Loc} {a0 a1 a2 : Option Value} {x : Int32} : pj_step 124 (18, a0 :: a1 :: a2 :: some (.int x) :: l, st, M) = some (19, a0 :: a1 :: a2 :: some (.int x) :: l, .int x :: st, M) := st_iload_n q124_18 rfl
theorem x124_18 {st : List Value} {M : pj_Mem} {l : pj_Loc} {a0 a1 a2 : Option Value} {x : Int32} {o9 : Option Value × pj_Mem} : pj_Ends 124 (18, a0 :: a1 :: a2 :: some (.int x) :: l, st, M) o9 = pj_Ends 124 (19, a0 :: a1 :: a2 :: some (.int x) :: l, .int x :: st, M) o9 := pj_xs (s124_18)
theorem q124_19 : pj_row 124 19 = some (.aload_n 0, 1, 0, 0, 0) := by decide +kernel
theorem s124_19 {st : List Value} {M : pj_Mem} {l : pj_Loc} {x : Nat} : pj_step 124 (19, some (.ref x) :: l, st, M) = some (20, some (.ref x) :: l, .ref x :: st, M) := st_aload_n q124_19 rfl
theorem x124_19 {st : List Value} {M : pj_Mem} {l : pj_Loc} {x : Nat} {o9 : Option Value × pj_Mem} : pj_Ends 124 (19, some (.ref x) :: l, st, M) o9 = pj_Ends 124 (20, some (.ref x) :: l, .ref x :: st, M) o9 := pj_xs (s124_19)
theorem q124_20 : pj_row 124 20 = some (.arraylength, 1, 0, 0, 0) := by decide +kernel
theorem s124_20 {L : pj_Loc} {st : List Value} {N S : Nat} {H : pj_Heap} {o : Nat} : pj_step 124 (20, L, .ref o :: st, (N, S, H)) = pj_pi 21 L st (N, S, H) (pj_len (H o)) := st_arraylength q124_20
theorem x124_20 {L : pj_Loc} {st : List Value} {N S : Nat} {H : pj_Heap} {o : Nat} {o9 : Option Value × pj_Mem} : pj_Ends 124 (20, L, .ref o :: st, (N, S, H)) o9 = pj_then 124 o9 (pj_pi 21 L st (N, S, H) (pj_len (H o))) := pj_xt q124_20 rfl (pj_cl_nc rfl) (s124_20)
theorem q124_21 : pj_row 124 21 = some (.bipush 6, 2, 0, 0, 0) := by decide +kernel
theorem s124_21 {L : pj_Loc} {st : List Value} {M : pj_Mem}  : pj_step 124 (21, L, st, M) = some (23, L, .int 6 :: st, M) := st_bipush q124_21 (by decide +kernel)
theorem x124_21 {L : pj_Loc} {st : List Value} {M : pj_Mem}  {o9 : Option Value × pj_Mem} : pj_Ends 124 (21, L, st, M) o9 = pj_Ends 124 (23, L, .int 6 :: st, M) o9 := pj_xs (s124_21)
theorem q124_23 : pj_row 124 23 = some (.isub, 1, 0, 0, 0) := by decide +kernel
theorem s124_23 {L : pj_Loc} {st : List Value} {M : pj_Mem} {x y : Int32} : pj_step 124 (23, L, .int y :: .int x :: st, M) = some (24, L, .int (x - y) :: st, M) := st_isub q124_23
theorem x124_23 {L : pj_Loc} {st : List Value} {M : pj_Mem} {x y : Int32} {o9 : Option Value × pj_Mem} : pj_Ends 124 (23, L, .int y :: .int x :: st, M) o9 = pj_Ends 124 (24, L, .int (x - y) :: st, M) o9 := pj_xs (s124_23)
theorem q124_24 : pj_row 124 24 = some (.if_icmp .gt 727, 3, 751, 0, 0) := by decide +kernel
theorem s124_24 {L : pj_Loc} {st : List Value} {M : pj_Mem} {x y : Int32} : pj_step 124 (24, L, .int y :: .int x :: st, M) = some (if y < x then 751 else 27, L, st, M) := st_icmp_gt q124_24
theorem x124_24 {L : pj_Loc} {st : List Value} {M : pj_Mem} {x y : Int32} {o9 : Option Value × pj_Mem} : pj_Ends 124 (24, L, .int y :: .int x :: st, M) o9 = pj_Ends 124 (if y < x then 751 else 27, L, st, M) o9 := pj_xs (s124_24)
theorem q124_27 : pj_row 124 27 = some (.aload_n 0, 1, 0, 0, 0) := by decide +kernel
theorem s124_27 {st : List Value} {M : pj_Mem} {l : pj_Loc} {x : Nat} : pj_step 124 (27, some (.ref x) :: l, st, M) = some (28, some (.ref x) :: l, .ref x :: st, M) := st_aload_n q124_27 rfl
theorem x124_27 {st : List Value} {M : pj_Mem} {l : pj_Loc} {x : Nat} {o9 : Option Value × pj_Mem} : pj_Ends 124 (27, some (.ref x) :: l, st, M) o9 = pj_Ends 124 (28, some (.ref x) :: l, .ref x :: st, M) o9 := pj_xs (s124_27)
theorem q124_28 : pj_row 124 28 = some (.iload_n 3, 1, 0, 0, 0) := by decide +kernel
theorem s124_28 {st : List Value} {M : pj_Mem} {l : pj_Loc} {a0 a1 a2 : Option Value} {x : Int32} : pj_step 124 (28, a0 :: a1 :: a2 :: some (.int x) :: l, st, M) = some (29, a0 :: a1 :: a2 :: some (.int x) :: l, .int x :: st, M) := st_iload_n q124_28 rfl
theorem x124_28 {st : List Value} {M : pj_Mem} {l : pj_Loc} {a0 a1 a2 : Option Value} {x : Int32} {o9 : Option Value × pj_Mem} : pj_Ends 124 (28, a0 :: a1 :: a2 :: some (.int x) :: l, st, M) o9 = pj_Ends 124 (29, a0 :: a1 :: a2 :: some (.int x) :: l, .int x :: st, M) o9 := pj_xs (s124_28)
theorem q124_29 : pj_row 124 29 = some (.iaload, 1, 0, 0, 0) := by decide +kernel
theorem s124_29 {L : pj_Loc} {st : List Value} {N S : Nat} {H : pj_Heap} {o : Nat} {i : Int32} : pj_step 124 (29, L, .int i :: .ref o :: st, (N, S, H)) = pj_pi 30 L st (N, S, H) (pj_arl (H o) 0 i) := st_iaload q124_29
theorem x124_29 {L : pj_Loc} {st : List Value} {N S : Nat} {H : pj_Heap} {o : Nat} {i : Int32} {o9 : Option Value × pj_Mem} : pj_Ends 124 (29, L, .int i :: .ref o :: st, (N, S, H)) o9 = pj_then 124 o9 (pj_pi 30 L st (N, S, H) (pj_arl (H o) 0 i)) := pj_xt q124_29 rfl (pj_cl_nc rfl) (s124_29)
theorem q124_30 : pj_row 124 30 = some (.bipush 31, 2, 0, 0, 0) := by decide +kernel
theorem s124_30 {L : pj_Loc} {st : List Value} {M : pj_Mem}  : pj_step 124 (30, L, st, M) = some (32, L, .int 31 :: st, M) := st_bipush q124_30 (by decide +kernel)
theorem x124_30 {L : pj_Loc} {st : List Value} {M : pj_Mem}  {o9 : Option Value × pj_Mem} : pj_Ends 124 (30, L, st, M) o9 = pj_Ends 124 (32, L, .int 31 :: st, M) o9 := pj_xs (s124_30)
theorem q124_32 : pj_row 124 32 = some (.iand, 1, 0, 0, 0) := by decide +kernel
theorem s124_32 {L : pj_Loc} {st : List Value} {M : pj_Mem} {x y : Int32} : pj_step 124 (32, L, .int y :: .int x :: st, M) = some (33, L, .int (x &&& y) :: st, M) := st_iand q124_32
theorem x124_32 {L : pj_Loc} {st : List Value} {M : pj_Mem} {x y : Int32} {o9 : Option Value × pj_Mem} : pj_Ends 124 (32, L, .int y :: .int x :: st, M) o9 = pj_Ends 124 (33, L, .int (x &&& y) :: st, M) o9 := pj_xs (s124_32)
theorem q124_33 : pj_row 124 33 = some (.tableswitch 712 0 18 #[91, 124, 193, 242, 265, 278, 311, 344, 377, 400, 479, 528, 561, 614, 627, 640, 653, 666, 689], 91, 0, 0, 0) := by decide +kernel
theorem s124_33 {L : pj_Loc} {st : List Value} {M : pj_Mem} {x : Int32} : pj_step 124 (33, L, .int x :: st, M) = some (if x = 0 then 124 else if x = 1 then 157 else if x = 2 then 226 else if x = 3 then 275 else if x = 4 then 298 else if x = 5 then 311 else if x = 6 then 344 else if x = 7 then 377 else if x = 8 then 410 else if x = 9 then 433 else if x = 10 then 512 else if x = 11 then 561 else if x = 12 then 594 else if x = 13 then 647 else if x = 14 then 660 else if x = 15 then 673 else if x = 16 then 686 else if x = 17 then 699 else if x = 18 then 722 else 745, L, st, M) := by
  rw [st_tsw q124_33]
  unfold pj_tsw
  by_cases hr : x.toInt < 0 ∨ 18 < x.toInt
  · simp only
    rw [if_pos hr]
    rw [if_neg (show ¬ x = 0 from fun e => by rw [e] at hr; revert hr; decide)]
    rw [if_neg (show ¬ x = 1 from fun e => by rw [e] at hr; revert hr; decide)]
    rw [if_neg (show ¬ x = 2 from fun e => by rw [e] at hr; revert hr; decide)]
    rw [if_neg (show ¬ x = 3 from fun e => by rw [e] at hr; revert hr; decide)]
    rw [if_neg (show ¬ x = 4 from fun e => by rw [e] at hr; revert hr; decide)]
    rw [if_neg (show ¬ x = 5 from fun e => by rw [e] at hr; revert hr; decide)]
    rw [if_neg (show ¬ x = 6 from fun e => by rw [e] at hr; revert hr; decide)]
    rw [if_neg (show ¬ x = 7 from fun e => by rw [e] at hr; revert hr; decide)]
    rw [if_neg (show ¬ x = 8 from fun e => by rw [e] at hr; revert hr; decide)]
    rw [if_neg (show ¬ x = 9 from fun e => by rw [e] at hr; revert hr; decide)]
    rw [if_neg (show ¬ x = 10 from fun e => by rw [e] at hr; revert hr; decide)]
    rw [if_neg (show ¬ x = 11 from fun e => by rw [e] at hr; revert hr; decide)]
    rw [if_neg (show ¬ x = 12 from fun e => by rw [e] at hr; revert hr; decide)]
    rw [if_neg (show ¬ x = 13 from fun e => by rw [e] at hr; revert hr; decide)]
    rw [if_neg (show ¬ x = 14 from fun e => by rw [e] at hr; revert hr; decide)]
    rw [if_neg (show ¬ x = 15 from fun e => by rw [e] at hr; revert hr; decide)]
    rw [if_neg (show ¬ x = 16 from fun e => by rw [e] at hr; revert hr; decide)]
    rw [if_neg (show ¬ x = 17 from fun e => by rw [e] at hr; revert hr; decide)]
    rw [if_neg (show ¬ x = 18 from fun e => by rw [e] at hr; revert hr; decide)]
    rfl
  · have h3 : x.toInt = 0 ∨ x.toInt = 1 ∨ x.toInt = 2 ∨ x.toInt = 3 ∨ x.toInt = 4 ∨ x.toInt = 5 ∨ x.toInt = 6 ∨ x.toInt = 7 ∨ x.toInt = 8 ∨ x.toInt = 9 ∨ x.toInt = 10 ∨ x.toInt = 11 ∨ x.toInt = 12 ∨ x.toInt = 13 ∨ x.toInt = 14 ∨ x.toInt = 15 ∨ x.toInt = 16 ∨ x.toInt = 17 ∨ x.toInt = 18 := by omega
    rcases h3 with h3 | h3 | h3 | h3 | h3 | h3 | h3 | h3 | h3 | h3 | h3 | h3 | h3 | h3 | h3 | h3 | h3 | h3 | h3
    · have e : x = 0 := Int32.toInt_inj.mp (h3.trans (by decide))
      subst e
      rfl
    · have e : x = 1 := Int32.toInt_inj.mp (h3.trans (by decide))
      subst e
      rfl
    · have e : x = 2 := Int32.toInt_inj.mp (h3.trans (by decide))
      subst e
      rfl
    · have e : x = 3 := Int32.toInt_inj.mp (h3.trans (by decide))
      subst e
      rfl
    · have e : x = 4 := Int32.toInt_inj.mp (h3.trans (by decide))
      subst e
      rfl
    · have e : x = 5 := Int32.toInt_inj.mp (h3.trans (by decide))
      subst e
      rfl
    · have e : x = 6 := Int32.toInt_inj.mp (h3.trans (by decide))
      subst e
      rfl
    · have e : x = 7 := Int32.toInt_inj.mp (h3.trans (by decide))
      subst e
      rfl
    · have e : x = 8 := Int32.toInt_inj.mp (h3.trans (by decide))
      subst e
      rfl
    · have e : x = 9 := Int32.toInt_inj.mp (h3.trans (by decide))
      subst e
      rfl
    · have e : x = 10 := Int32.toInt_inj.mp (h3.trans (by decide))
      subst e
      rfl
    · have e : x = 11 := Int32.toInt_inj.mp (h3.trans (by decide))
      subst e
      rfl
    · have e : x = 12 := Int32.toInt_inj.mp (h3.trans (by decide))
      subst e
      rfl
    · have e : x = 13 := Int32.toInt_inj.mp (h3.trans (by decide))
      subst e
      rfl
    · have e : x = 14 := Int32.toInt_inj.mp (h3.trans (by decide))
      subst e
      rfl
    · have e : x = 15 := Int32.toInt_inj.mp (h3.trans (by decide))
      subst e
      rfl
    · have e : x = 16 := Int32.toInt_inj.mp (h3.trans (by decide))
      subst e
      rfl
    · have e : x = 17 := Int32.toInt_inj.mp (h3.trans (by decide))
      subst e
      rfl
    · have e : x = 18 := Int32.toInt_inj.mp (h3.trans (by decide))
      subst e
      rfl
theorem x124_33 {L : pj_Loc} {st : List Value} {M : pj_Mem} {x : Int32} {o9 : Option Value × pj_Mem} : pj_Ends 124 (33, L, .int x :: st, M) o9 = pj_Ends 124 (if x = 0 then 124 else if x = 1 then 157 else if x = 2 then 226 else if x = 3 then 275 else if x = 4 then 298 else if x = 5 then 311 else if x = 6 then 344 else if x = 7 then 377 else if x = 8 then 410 else if x = 9 then 433 else if x = 10 then 512 else if x = 11 then 561 else if x = 12 then 594 else if x = 13 then 647 else if x = 14 then 660 else if x = 15 then 673 else if x = 16 then 686 else if x = 17 then 699 else if x = 18 then 722 else 745, L, st, M) o9 := pj_xs (s124_33)
theorem q124_124 : pj_row 124 124 = some (.aload_n 1, 1, 0, 0, 0) := by decide +kernel
theorem s124_124 {st : List Value} {M : pj_Mem} {l : pj_Loc} {a0 : Option Value} {x : Nat} : pj_step 124 (124, a0 :: some (.ref x) :: l, st, M) = some (125, a0 :: some (.ref x) :: l, .ref x :: st, M) := st_aload_n q124_124 rfl
theorem x124_124 {st : List Value} {M : pj_Mem} {l : pj_Loc} {a0 : Option Value} {x : Nat} {o9 : Option Value × pj_Mem} : pj_Ends 124 (124, a0 :: some (.ref x) :: l, st, M) o9 = pj_Ends 124 (125, a0 :: some (.ref x) :: l, .ref x :: st, M) o9 := pj_xs (s124_124)
theorem q124_125 : pj_row 124 125 = some (.aload_n 0, 1, 0, 0, 0) := by decide +kernel
theorem s124_125 {st : List Value} {M : pj_Mem} {l : pj_Loc} {x : Nat} : pj_step 124 (125, some (.ref x) :: l, st, M) = some (126, some (.ref x) :: l, .ref x :: st, M) := st_aload_n q124_125 rfl
theorem x124_125 {st : List Value} {M : pj_Mem} {l : pj_Loc} {x : Nat} {o9 : Option Value × pj_Mem} : pj_Ends 124 (125, some (.ref x) :: l, st, M) o9 = pj_Ends 124 (126, some (.ref x) :: l, .ref x :: st, M) o9 := pj_xs (s124_125)
theorem q124_126 : pj_row 124 126 = some (.iload_n 3, 1, 0, 0, 0) := by decide +kernel
theorem s124_126 {st : List Value} {M : pj_Mem} {l : pj_Loc} {a0 a1 a2 : Option Value} {x : Int32} : pj_step 124 (126, a0 :: a1 :: a2 :: some (.int x) :: l, st, M) = some (127, a0 :: a1 :: a2 :: some (.int x) :: l, .int x :: st, M) := st_iload_n q124_126 rfl
theorem x124_126 {st : List Value} {M : pj_Mem} {l : pj_Loc} {a0 a1 a2 : Option Value} {x : Int32} {o9 : Option Value × pj_Mem} : pj_Ends 124 (126, a0 :: a1 :: a2 :: some (.int x) :: l, st, M) o9 = pj_Ends 124 (127, a0 :: a1 :: a2 :: some (.int x) :: l, .int x :: st, M) o9 := pj_xs (s124_126)
theorem q124_127 : pj_row 124 127 = some (.iconst 1, 1, 0, 0, 0) := by decide +kernel
theorem s124_127 {L : pj_Loc} {st : List Value} {M : pj_Mem}  : pj_step 124 (127, L, st, M) = some (128, L, .int 1 :: st, M) := st_iconst q124_127 (by decide +kernel)
theorem x124_127 {L : pj_Loc} {st : List Value} {M : pj_Mem}  {o9 : Option Value × pj_Mem} : pj_Ends 124 (127, L, st, M) o9 = pj_Ends 124 (128, L, .int 1 :: st, M) o9 := pj_xs (s124_127)
theorem q124_128 : pj_row 124 128 = some (.iadd, 1, 0, 0, 0) := by decide +kernel
theorem s124_128 {L : pj_Loc} {st : List Value} {M : pj_Mem} {x y : Int32} : pj_step 124 (128, L, .int y :: .int x :: st, M) = some (129, L, .int (x + y) :: st, M) := st_iadd q124_128
theorem x124_128 {L : pj_Loc} {st : List Value} {M : pj_Mem} {x y : Int32} {o9 : Option Value × pj_Mem} : pj_Ends 124 (128, L, .int y :: .int x :: st, M) o9 = pj_Ends 124 (129, L, .int (x + y) :: st, M) o9 := pj_xs (s124_128)
theorem q124_129 : pj_row 124 129 = some (.iaload, 1, 0, 0, 0) := by decide +kernel
theorem s124_129 {L : pj_Loc} {st : List Value} {N S : Nat} {H : pj_Heap} {o : Nat} {i : Int32} : pj_step 124 (129, L, .int i :: .ref o :: st, (N, S, H)) = pj_pi 130 L st (N, S, H) (pj_arl (H o) 0 i) := st_iaload q124_129
theorem x124_129 {L : pj_Loc} {st : List Value} {N S : Nat} {H : pj_Heap} {o : Nat} {i : Int32} {o9 : Option Value × pj_Mem} : pj_Ends 124 (129, L, .int i :: .ref o :: st, (N, S, H)) o9 = pj_then 124 o9 (pj_pi 130 L st (N, S, H) (pj_arl (H o) 0 i)) := pj_xt q124_129 rfl (pj_cl_nc rfl) (s124_129)
theorem q124_130 : pj_row 124 130 = some (.aload_n 0, 1, 0, 0, 0) := by decide +kernel
theorem s124_130 {st : List Value} {M : pj_Mem} {l : pj_Loc} {x : Nat} : pj_step 124 (130, some (.ref x) :: l, st, M) = some (131, some (.ref x) :: l, .ref x :: st, M) := st_aload_n q124_130 rfl
theorem x124_130 {st : List Value} {M : pj_Mem} {l : pj_Loc} {x : Nat} {o9 : Option Value × pj_Mem} : pj_Ends 124 (130, some (.ref x) :: l, st, M) o9 = pj_Ends 124 (131, some (.ref x) :: l, .ref x :: st, M) o9 := pj_xs (s124_130)
theorem q124_131 : pj_row 124 131 = some (.iload_n 3, 1, 0, 0, 0) := by decide +kernel
theorem s124_131 {st : List Value} {M : pj_Mem} {l : pj_Loc} {a0 a1 a2 : Option Value} {x : Int32} : pj_step 124 (131, a0 :: a1 :: a2 :: some (.int x) :: l, st, M) = some (132, a0 :: a1 :: a2 :: some (.int x) :: l, .int x :: st, M) := st_iload_n q124_131 rfl
theorem x124_131 {st : List Value} {M : pj_Mem} {l : pj_Loc} {a0 a1 a2 : Option Value} {x : Int32} {o9 : Option Value × pj_Mem} : pj_Ends 124 (131, a0 :: a1 :: a2 :: some (.int x) :: l, st, M) o9 = pj_Ends 124 (132, a0 :: a1 :: a2 :: some (.int x) :: l, .int x :: st, M) o9 := pj_xs (s124_131)
theorem q124_132 : pj_row 124 132 = some (.iconst 2, 1, 0, 0, 0) := by decide +kernel
theorem s124_132 {L : pj_Loc} {st : List Value} {M : pj_Mem}  : pj_step 124 (132, L, st, M) = some (133, L, .int 2 :: st, M) := st_iconst q124_132 (by decide +kernel)
theorem x124_132 {L : pj_Loc} {st : List Value} {M : pj_Mem}  {o9 : Option Value × pj_Mem} : pj_Ends 124 (132, L, st, M) o9 = pj_Ends 124 (133, L, .int 2 :: st, M) o9 := pj_xs (s124_132)
theorem q124_133 : pj_row 124 133 = some (.iadd, 1, 0, 0, 0) := by decide +kernel
theorem s124_133 {L : pj_Loc} {st : List Value} {M : pj_Mem} {x y : Int32} : pj_step 124 (133, L, .int y :: .int x :: st, M) = some (134, L, .int (x + y) :: st, M) := st_iadd q124_133
theorem x124_133 {L : pj_Loc} {st : List Value} {M : pj_Mem} {x y : Int32} {o9 : Option Value × pj_Mem} : pj_Ends 124 (133, L, .int y :: .int x :: st, M) o9 = pj_Ends 124 (134, L, .int (x + y) :: st, M) o9 := pj_xs (s124_133)
theorem q124_134 : pj_row 124 134 = some (.iaload, 1, 0, 0, 0) := by decide +kernel
theorem s124_134 {L : pj_Loc} {st : List Value} {N S : Nat} {H : pj_Heap} {o : Nat} {i : Int32} : pj_step 124 (134, L, .int i :: .ref o :: st, (N, S, H)) = pj_pi 135 L st (N, S, H) (pj_arl (H o) 0 i) := st_iaload q124_134
theorem x124_134 {L : pj_Loc} {st : List Value} {N S : Nat} {H : pj_Heap} {o : Nat} {i : Int32} {o9 : Option Value × pj_Mem} : pj_Ends 124 (134, L, .int i :: .ref o :: st, (N, S, H)) o9 = pj_then 124 o9 (pj_pi 135 L st (N, S, H) (pj_arl (H o) 0 i)) := pj_xt q124_134 rfl (pj_cl_nc rfl) (s124_134)
theorem q124_135 : pj_row 124 135 = some (.invokevirtual 13, 3, 7, 3, 0) := by decide +kernel
theorem e124_135 {L : pj_Loc} {st : List Value} {N S : Nat} {H : pj_Heap} {o : Option Value × pj_Mem} {M' : pj_Mem} {x0 : Nat} {x1 : Int32} {x2 : Int32} {r : Int32} (h4 : pj_le4 st = true) (hu : pj_isU 5 (H x0) = true) (h1 : pj_Ends 7 (0, [some (.ref x0), some (.int x1), some (.int x2), none], [], (N, S, H)) (some (.int r), M')) (h2 : pj_Ends 124 (138, L, .int r :: st, M') o) : pj_Ends 124 (135, L, .int x2 :: .int x1 :: .ref x0 :: st, (N, S, H)) o := ec_v3 q124_135 (Or.inl rfl) h4 hu rfl h1 h2
theorem q124_138 : pj_row 124 138 = some (.aload_n 2, 1, 0, 0, 0) := by decide +kernel
theorem s124_138 {st : List Value} {M : pj_Mem} {l : pj_Loc} {a0 a1 : Option Value} {x : Nat} : pj_step 124 (138, a0 :: a1 :: some (.ref x) :: l, st, M) = some (139, a0 :: a1 :: some (.ref x) :: l, .ref x :: st, M) := st_aload_n q124_138 rfl
theorem x124_138 {st : List Value} {M : pj_Mem} {l : pj_Loc} {a0 a1 : Option Value} {x : Nat} {o9 : Option Value × pj_Mem} : pj_Ends 124 (138, a0 :: a1 :: some (.ref x) :: l, st, M) o9 = pj_Ends 124 (139, a0 :: a1 :: some (.ref x) :: l, .ref x :: st, M) o9 := pj_xs (s124_138)
theorem q124_139 : pj_row 124 139 = some (.aload_n 0, 1, 0, 0, 0) := by decide +kernel
theorem s124_139 {st : List Value} {M : pj_Mem} {l : pj_Loc} {x : Nat} : pj_step 124 (139, some (.ref x) :: l, st, M) = some (140, some (.ref x) :: l, .ref x :: st, M) := st_aload_n q124_139 rfl
theorem x124_139 {st : List Value} {M : pj_Mem} {l : pj_Loc} {x : Nat} {o9 : Option Value × pj_Mem} : pj_Ends 124 (139, some (.ref x) :: l, st, M) o9 = pj_Ends 124 (140, some (.ref x) :: l, .ref x :: st, M) o9 := pj_xs (s124_139)
theorem q124_140 : pj_row 124 140 = some (.iload_n 3, 1, 0, 0, 0) := by decide +kernel
theorem s124_140 {st : List Value} {M : pj_Mem} {l : pj_Loc} {a0 a1 a2 : Option Value} {x : Int32} : pj_step 124 (140, a0 :: a1 :: a2 :: some (.int x) :: l, st, M) = some (141, a0 :: a1 :: a2 :: some (.int x) :: l, .int x :: st, M) := st_iload_n q124_140 rfl
theorem x124_140 {st : List Value} {M : pj_Mem} {l : pj_Loc} {a0 a1 a2 : Option Value} {x : Int32} {o9 : Option Value × pj_Mem} : pj_Ends 124 (140, a0 :: a1 :: a2 :: some (.int x) :: l, st, M) o9 = pj_Ends 124 (141, a0 :: a1 :: a2 :: some (.int x) :: l, .int x :: st, M) o9 := pj_xs (s124_140)
theorem q124_141 : pj_row 124 141 = some (.iconst 1, 1, 0, 0, 0) := by decide +kernel
theorem s124_141 {L : pj_Loc} {st : List Value} {M : pj_Mem}  : pj_step 124 (141, L, st, M) = some (142, L, .int 1 :: st, M) := st_iconst q124_141 (by decide +kernel)
theorem x124_141 {L : pj_Loc} {st : List Value} {M : pj_Mem}  {o9 : Option Value × pj_Mem} : pj_Ends 124 (141, L, st, M) o9 = pj_Ends 124 (142, L, .int 1 :: st, M) o9 := pj_xs (s124_141)
theorem q124_142 : pj_row 124 142 = some (.iadd, 1, 0, 0, 0) := by decide +kernel
theorem s124_142 {L : pj_Loc} {st : List Value} {M : pj_Mem} {x y : Int32} : pj_step 124 (142, L, .int y :: .int x :: st, M) = some (143, L, .int (x + y) :: st, M) := st_iadd q124_142
theorem x124_142 {L : pj_Loc} {st : List Value} {M : pj_Mem} {x y : Int32} {o9 : Option Value × pj_Mem} : pj_Ends 124 (142, L, .int y :: .int x :: st, M) o9 = pj_Ends 124 (143, L, .int (x + y) :: st, M) o9 := pj_xs (s124_142)
theorem q124_143 : pj_row 124 143 = some (.iaload, 1, 0, 0, 0) := by decide +kernel
theorem s124_143 {L : pj_Loc} {st : List Value} {N S : Nat} {H : pj_Heap} {o : Nat} {i : Int32} : pj_step 124 (143, L, .int i :: .ref o :: st, (N, S, H)) = pj_pi 144 L st (N, S, H) (pj_arl (H o) 0 i) := st_iaload q124_143
theorem x124_143 {L : pj_Loc} {st : List Value} {N S : Nat} {H : pj_Heap} {o : Nat} {i : Int32} {o9 : Option Value × pj_Mem} : pj_Ends 124 (143, L, .int i :: .ref o :: st, (N, S, H)) o9 = pj_then 124 o9 (pj_pi 144 L st (N, S, H) (pj_arl (H o) 0 i)) := pj_xt q124_143 rfl (pj_cl_nc rfl) (s124_143)
theorem q124_144 : pj_row 124 144 = some (.aload_n 0, 1, 0, 0, 0) := by decide +kernel
theorem s124_144 {st : List Value} {M : pj_Mem} {l : pj_Loc} {x : Nat} : pj_step 124 (144, some (.ref x) :: l, st, M) = some (145, some (.ref x) :: l, .ref x :: st, M) := st_aload_n q124_144 rfl
theorem x124_144 {st : List Value} {M : pj_Mem} {l : pj_Loc} {x : Nat} {o9 : Option Value × pj_Mem} : pj_Ends 124 (144, some (.ref x) :: l, st, M) o9 = pj_Ends 124 (145, some (.ref x) :: l, .ref x :: st, M) o9 := pj_xs (s124_144)
theorem q124_145 : pj_row 124 145 = some (.iload_n 3, 1, 0, 0, 0) := by decide +kernel
theorem s124_145 {st : List Value} {M : pj_Mem} {l : pj_Loc} {a0 a1 a2 : Option Value} {x : Int32} : pj_step 124 (145, a0 :: a1 :: a2 :: some (.int x) :: l, st, M) = some (146, a0 :: a1 :: a2 :: some (.int x) :: l, .int x :: st, M) := st_iload_n q124_145 rfl
theorem x124_145 {st : List Value} {M : pj_Mem} {l : pj_Loc} {a0 a1 a2 : Option Value} {x : Int32} {o9 : Option Value × pj_Mem} : pj_Ends 124 (145, a0 :: a1 :: a2 :: some (.int x) :: l, st, M) o9 = pj_Ends 124 (146, a0 :: a1 :: a2 :: some (.int x) :: l, .int x :: st, M) o9 := pj_xs (s124_145)
theorem q124_146 : pj_row 124 146 = some (.iconst 2, 1, 0, 0, 0) := by decide +kernel
theorem s124_146 {L : pj_Loc} {st : List Value} {M : pj_Mem}  : pj_step 124 (146, L, st, M) = some (147, L, .int 2 :: st, M) := st_iconst q124_146 (by decide +kernel)
theorem x124_146 {L : pj_Loc} {st : List Value} {M : pj_Mem}  {o9 : Option Value × pj_Mem} : pj_Ends 124 (146, L, st, M) o9 = pj_Ends 124 (147, L, .int 2 :: st, M) o9 := pj_xs (s124_146)
theorem q124_147 : pj_row 124 147 = some (.iadd, 1, 0, 0, 0) := by decide +kernel
theorem s124_147 {L : pj_Loc} {st : List Value} {M : pj_Mem} {x y : Int32} : pj_step 124 (147, L, .int y :: .int x :: st, M) = some (148, L, .int (x + y) :: st, M) := st_iadd q124_147
theorem x124_147 {L : pj_Loc} {st : List Value} {M : pj_Mem} {x y : Int32} {o9 : Option Value × pj_Mem} : pj_Ends 124 (147, L, .int y :: .int x :: st, M) o9 = pj_Ends 124 (148, L, .int (x + y) :: st, M) o9 := pj_xs (s124_147)
theorem q124_148 : pj_row 124 148 = some (.iaload, 1, 0, 0, 0) := by decide +kernel
theorem s124_148 {L : pj_Loc} {st : List Value} {N S : Nat} {H : pj_Heap} {o : Nat} {i : Int32} : pj_step 124 (148, L, .int i :: .ref o :: st, (N, S, H)) = pj_pi 149 L st (N, S, H) (pj_arl (H o) 0 i) := st_iaload q124_148
theorem x124_148 {L : pj_Loc} {st : List Value} {N S : Nat} {H : pj_Heap} {o : Nat} {i : Int32} {o9 : Option Value × pj_Mem} : pj_Ends 124 (148, L, .int i :: .ref o :: st, (N, S, H)) o9 = pj_then 124 o9 (pj_pi 149 L st (N, S, H) (pj_arl (H o) 0 i)) := pj_xt q124_148 rfl (pj_cl_nc rfl) (s124_148)
theorem q124_149 : pj_row 124 149 = some (.invokevirtual 17, 3, 75, 3, 0) := by decide +kernel
theorem e124_149 {L : pj_Loc} {st : List Value} {N S : Nat} {H : pj_Heap} {o : Option Value × pj_Mem} {M' : pj_Mem} {x0 : Nat} {x1 : Int32} {x2 : Int32} {r : Int32} (h4 : pj_le4 st = true) (hu : pj_isU 6 (H x0) = true) (h1 : pj_Ends 75 (0, [some (.ref x0), some (.int x1), some (.int x2), none], [], (N, S, H)) (some (.int r), M')) (h2 : pj_Ends 124 (152, L, .int r :: st, M') o) : pj_Ends 124 (149, L, .int x2 :: .int x1 :: .ref x0 :: st, (N, S, H)) o := ec_v3 q124_149 (Or.inl rfl) h4 hu rfl h1 h2
theorem q124_152 : pj_row 124 152 = some (.if_icmp .eq 593, 3, 745, 0, 0) := by decide +kernel
theorem s124_152 {L : pj_Loc} {st : List Value} {M : pj_Mem} {x y : Int32} : pj_step 124 (152, L, .int y :: .int x :: st, M) = some (if x = y then 745 else 155, L, st, M) := st_icmp_eq q124_152
theorem x124_152 {L : pj_Loc} {st : List Value} {M : pj_Mem} {x y : Int32} {o9 : Option Value × pj_Mem} : pj_Ends 124 (152, L, .int y :: .int x :: st, M) o9 = pj_Ends 124 (if x = y then 745 else 155, L, st, M) o9 := pj_xs (s124_152)
theorem q124_155 : pj_row 124 155 = some (.iconst 0, 1, 0, 0, 0) := by decide +kernel
theorem s124_155 {L : pj_Loc} {st : List Value} {M : pj_Mem}  : pj_step 124 (155, L, st, M) = some (156, L, .int 0 :: st, M) := st_iconst q124_155 (by decide +kernel)
theorem x124_155 {L : pj_Loc} {st : List Value} {M : pj_Mem}  {o9 : Option Value × pj_Mem} : pj_Ends 124 (155, L, st, M) o9 = pj_Ends 124 (156, L, .int 0 :: st, M) o9 := pj_xs (s124_155)
theorem q124_156 : pj_row 124 156 = some (.ireturn, 1, 0, 0, 0) := by decide +kernel
theorem t124_156 {L : pj_Loc} {M : pj_Mem} {v : Int32} (hv : v = 0 ∨ v = 1) : pj_Ends 124 (156, L, [.int v], M) (some (.int v), M) := pj_Ends.ret q124_156 (pj_rtn_z rt124 hv)
theorem q124_157 : pj_row 124 157 = some (.aload_n 1, 1, 0, 0, 0) := by decide +kernel
theorem s124_157 {st : List Value} {M : pj_Mem} {l : pj_Loc} {a0 : Option Value} {x : Nat} : pj_step 124 (157, a0 :: some (.ref x) :: l, st, M) = some (158, a0 :: some (.ref x) :: l, .ref x :: st, M) := st_aload_n q124_157 rfl
theorem x124_157 {st : List Value} {M : pj_Mem} {l : pj_Loc} {a0 : Option Value} {x : Nat} {o9 : Option Value × pj_Mem} : pj_Ends 124 (157, a0 :: some (.ref x) :: l, st, M) o9 = pj_Ends 124 (158, a0 :: some (.ref x) :: l, .ref x :: st, M) o9 := pj_xs (s124_157)
theorem q124_158 : pj_row 124 158 = some (.aload_n 0, 1, 0, 0, 0) := by decide +kernel
theorem s124_158 {st : List Value} {M : pj_Mem} {l : pj_Loc} {x : Nat} : pj_step 124 (158, some (.ref x) :: l, st, M) = some (159, some (.ref x) :: l, .ref x :: st, M) := st_aload_n q124_158 rfl
theorem x124_158 {st : List Value} {M : pj_Mem} {l : pj_Loc} {x : Nat} {o9 : Option Value × pj_Mem} : pj_Ends 124 (158, some (.ref x) :: l, st, M) o9 = pj_Ends 124 (159, some (.ref x) :: l, .ref x :: st, M) o9 := pj_xs (s124_158)
theorem q124_159 : pj_row 124 159 = some (.iload_n 3, 1, 0, 0, 0) := by decide +kernel
theorem s124_159 {st : List Value} {M : pj_Mem} {l : pj_Loc} {a0 a1 a2 : Option Value} {x : Int32} : pj_step 124 (159, a0 :: a1 :: a2 :: some (.int x) :: l, st, M) = some (160, a0 :: a1 :: a2 :: some (.int x) :: l, .int x :: st, M) := st_iload_n q124_159 rfl
theorem x124_159 {st : List Value} {M : pj_Mem} {l : pj_Loc} {a0 a1 a2 : Option Value} {x : Int32} {o9 : Option Value × pj_Mem} : pj_Ends 124 (159, a0 :: a1 :: a2 :: some (.int x) :: l, st, M) o9 = pj_Ends 124 (160, a0 :: a1 :: a2 :: some (.int x) :: l, .int x :: st, M) o9 := pj_xs (s124_159)
theorem q124_160 : pj_row 124 160 = some (.iconst 1, 1, 0, 0, 0) := by decide +kernel
theorem s124_160 {L : pj_Loc} {st : List Value} {M : pj_Mem}  : pj_step 124 (160, L, st, M) = some (161, L, .int 1 :: st, M) := st_iconst q124_160 (by decide +kernel)
theorem x124_160 {L : pj_Loc} {st : List Value} {M : pj_Mem}  {o9 : Option Value × pj_Mem} : pj_Ends 124 (160, L, st, M) o9 = pj_Ends 124 (161, L, .int 1 :: st, M) o9 := pj_xs (s124_160)
theorem q124_161 : pj_row 124 161 = some (.iadd, 1, 0, 0, 0) := by decide +kernel
theorem s124_161 {L : pj_Loc} {st : List Value} {M : pj_Mem} {x y : Int32} : pj_step 124 (161, L, .int y :: .int x :: st, M) = some (162, L, .int (x + y) :: st, M) := st_iadd q124_161
theorem x124_161 {L : pj_Loc} {st : List Value} {M : pj_Mem} {x y : Int32} {o9 : Option Value × pj_Mem} : pj_Ends 124 (161, L, .int y :: .int x :: st, M) o9 = pj_Ends 124 (162, L, .int (x + y) :: st, M) o9 := pj_xs (s124_161)
theorem q124_162 : pj_row 124 162 = some (.iaload, 1, 0, 0, 0) := by decide +kernel
theorem s124_162 {L : pj_Loc} {st : List Value} {N S : Nat} {H : pj_Heap} {o : Nat} {i : Int32} : pj_step 124 (162, L, .int i :: .ref o :: st, (N, S, H)) = pj_pi 163 L st (N, S, H) (pj_arl (H o) 0 i) := st_iaload q124_162
theorem x124_162 {L : pj_Loc} {st : List Value} {N S : Nat} {H : pj_Heap} {o : Nat} {i : Int32} {o9 : Option Value × pj_Mem} : pj_Ends 124 (162, L, .int i :: .ref o :: st, (N, S, H)) o9 = pj_then 124 o9 (pj_pi 163 L st (N, S, H) (pj_arl (H o) 0 i)) := pj_xt q124_162 rfl (pj_cl_nc rfl) (s124_162)
theorem q124_163 : pj_row 124 163 = some (.aload_n 0, 1, 0, 0, 0) := by decide +kernel
theorem s124_163 {st : List Value} {M : pj_Mem} {l : pj_Loc} {x : Nat} : pj_step 124 (163, some (.ref x) :: l, st, M) = some (164, some (.ref x) :: l, .ref x :: st, M) := st_aload_n q124_163 rfl
theorem x124_163 {st : List Value} {M : pj_Mem} {l : pj_Loc} {x : Nat} {o9 : Option Value × pj_Mem} : pj_Ends 124 (163, some (.ref x) :: l, st, M) o9 = pj_Ends 124 (164, some (.ref x) :: l, .ref x :: st, M) o9 := pj_xs (s124_163)
theorem q124_164 : pj_row 124 164 = some (.iload_n 3, 1, 0, 0, 0) := by decide +kernel
theorem s124_164 {st : List Value} {M : pj_Mem} {l : pj_Loc} {a0 a1 a2 : Option Value} {x : Int32} : pj_step 124 (164, a0 :: a1 :: a2 :: some (.int x) :: l, st, M) = some (165, a0 :: a1 :: a2 :: some (.int x) :: l, .int x :: st, M) := st_iload_n q124_164 rfl
theorem x124_164 {st : List Value} {M : pj_Mem} {l : pj_Loc} {a0 a1 a2 : Option Value} {x : Int32} {o9 : Option Value × pj_Mem} : pj_Ends 124 (164, a0 :: a1 :: a2 :: some (.int x) :: l, st, M) o9 = pj_Ends 124 (165, a0 :: a1 :: a2 :: some (.int x) :: l, .int x :: st, M) o9 := pj_xs (s124_164)
theorem q124_165 : pj_row 124 165 = some (.iconst 2, 1, 0, 0, 0) := by decide +kernel
theorem s124_165 {L : pj_Loc} {st : List Value} {M : pj_Mem}  : pj_step 124 (165, L, st, M) = some (166, L, .int 2 :: st, M) := st_iconst q124_165 (by decide +kernel)
theorem x124_165 {L : pj_Loc} {st : List Value} {M : pj_Mem}  {o9 : Option Value × pj_Mem} : pj_Ends 124 (165, L, st, M) o9 = pj_Ends 124 (166, L, .int 2 :: st, M) o9 := pj_xs (s124_165)
theorem q124_166 : pj_row 124 166 = some (.iadd, 1, 0, 0, 0) := by decide +kernel
theorem s124_166 {L : pj_Loc} {st : List Value} {M : pj_Mem} {x y : Int32} : pj_step 124 (166, L, .int y :: .int x :: st, M) = some (167, L, .int (x + y) :: st, M) := st_iadd q124_166
theorem x124_166 {L : pj_Loc} {st : List Value} {M : pj_Mem} {x y : Int32} {o9 : Option Value × pj_Mem} : pj_Ends 124 (166, L, .int y :: .int x :: st, M) o9 = pj_Ends 124 (167, L, .int (x + y) :: st, M) o9 := pj_xs (s124_166)
theorem q124_167 : pj_row 124 167 = some (.iaload, 1, 0, 0, 0) := by decide +kernel
theorem s124_167 {L : pj_Loc} {st : List Value} {N S : Nat} {H : pj_Heap} {o : Nat} {i : Int32} : pj_step 124 (167, L, .int i :: .ref o :: st, (N, S, H)) = pj_pi 168 L st (N, S, H) (pj_arl (H o) 0 i) := st_iaload q124_167
theorem x124_167 {L : pj_Loc} {st : List Value} {N S : Nat} {H : pj_Heap} {o : Nat} {i : Int32} {o9 : Option Value × pj_Mem} : pj_Ends 124 (167, L, .int i :: .ref o :: st, (N, S, H)) o9 = pj_then 124 o9 (pj_pi 168 L st (N, S, H) (pj_arl (H o) 0 i)) := pj_xt q124_167 rfl (pj_cl_nc rfl) (s124_167)
theorem q124_168 : pj_row 124 168 = some (.aload_n 0, 1, 0, 0, 0) := by decide +kernel
theorem s124_168 {st : List Value} {M : pj_Mem} {l : pj_Loc} {x : Nat} : pj_step 124 (168, some (.ref x) :: l, st, M) = some (169, some (.ref x) :: l, .ref x :: st, M) := st_aload_n q124_168 rfl
theorem x124_168 {st : List Value} {M : pj_Mem} {l : pj_Loc} {x : Nat} {o9 : Option Value × pj_Mem} : pj_Ends 124 (168, some (.ref x) :: l, st, M) o9 = pj_Ends 124 (169, some (.ref x) :: l, .ref x :: st, M) o9 := pj_xs (s124_168)
theorem q124_169 : pj_row 124 169 = some (.iload_n 3, 1, 0, 0, 0) := by decide +kernel
theorem s124_169 {st : List Value} {M : pj_Mem} {l : pj_Loc} {a0 a1 a2 : Option Value} {x : Int32} : pj_step 124 (169, a0 :: a1 :: a2 :: some (.int x) :: l, st, M) = some (170, a0 :: a1 :: a2 :: some (.int x) :: l, .int x :: st, M) := st_iload_n q124_169 rfl
theorem x124_169 {st : List Value} {M : pj_Mem} {l : pj_Loc} {a0 a1 a2 : Option Value} {x : Int32} {o9 : Option Value × pj_Mem} : pj_Ends 124 (169, a0 :: a1 :: a2 :: some (.int x) :: l, st, M) o9 = pj_Ends 124 (170, a0 :: a1 :: a2 :: some (.int x) :: l, .int x :: st, M) o9 := pj_xs (s124_169)
theorem q124_170 : pj_row 124 170 = some (.iconst 3, 1, 0, 0, 0) := by decide +kernel
theorem s124_170 {L : pj_Loc} {st : List Value} {M : pj_Mem}  : pj_step 124 (170, L, st, M) = some (171, L, .int 3 :: st, M) := st_iconst q124_170 (by decide +kernel)
theorem x124_170 {L : pj_Loc} {st : List Value} {M : pj_Mem}  {o9 : Option Value × pj_Mem} : pj_Ends 124 (170, L, st, M) o9 = pj_Ends 124 (171, L, .int 3 :: st, M) o9 := pj_xs (s124_170)
theorem q124_171 : pj_row 124 171 = some (.iadd, 1, 0, 0, 0) := by decide +kernel
theorem s124_171 {L : pj_Loc} {st : List Value} {M : pj_Mem} {x y : Int32} : pj_step 124 (171, L, .int y :: .int x :: st, M) = some (172, L, .int (x + y) :: st, M) := st_iadd q124_171
theorem x124_171 {L : pj_Loc} {st : List Value} {M : pj_Mem} {x y : Int32} {o9 : Option Value × pj_Mem} : pj_Ends 124 (171, L, .int y :: .int x :: st, M) o9 = pj_Ends 124 (172, L, .int (x + y) :: st, M) o9 := pj_xs (s124_171)
theorem q124_172 : pj_row 124 172 = some (.iaload, 1, 0, 0, 0) := by decide +kernel
theorem s124_172 {L : pj_Loc} {st : List Value} {N S : Nat} {H : pj_Heap} {o : Nat} {i : Int32} : pj_step 124 (172, L, .int i :: .ref o :: st, (N, S, H)) = pj_pi 173 L st (N, S, H) (pj_arl (H o) 0 i) := st_iaload q124_172
theorem x124_172 {L : pj_Loc} {st : List Value} {N S : Nat} {H : pj_Heap} {o : Nat} {i : Int32} {o9 : Option Value × pj_Mem} : pj_Ends 124 (172, L, .int i :: .ref o :: st, (N, S, H)) o9 = pj_then 124 o9 (pj_pi 173 L st (N, S, H) (pj_arl (H o) 0 i)) := pj_xt q124_172 rfl (pj_cl_nc rfl) (s124_172)
theorem q124_173 : pj_row 124 173 = some (.aload_n 0, 1, 0, 0, 0) := by decide +kernel
theorem s124_173 {st : List Value} {M : pj_Mem} {l : pj_Loc} {x : Nat} : pj_step 124 (173, some (.ref x) :: l, st, M) = some (174, some (.ref x) :: l, .ref x :: st, M) := st_aload_n q124_173 rfl
theorem x124_173 {st : List Value} {M : pj_Mem} {l : pj_Loc} {x : Nat} {o9 : Option Value × pj_Mem} : pj_Ends 124 (173, some (.ref x) :: l, st, M) o9 = pj_Ends 124 (174, some (.ref x) :: l, .ref x :: st, M) o9 := pj_xs (s124_173)
theorem q124_174 : pj_row 124 174 = some (.iload_n 3, 1, 0, 0, 0) := by decide +kernel
theorem s124_174 {st : List Value} {M : pj_Mem} {l : pj_Loc} {a0 a1 a2 : Option Value} {x : Int32} : pj_step 124 (174, a0 :: a1 :: a2 :: some (.int x) :: l, st, M) = some (175, a0 :: a1 :: a2 :: some (.int x) :: l, .int x :: st, M) := st_iload_n q124_174 rfl
theorem x124_174 {st : List Value} {M : pj_Mem} {l : pj_Loc} {a0 a1 a2 : Option Value} {x : Int32} {o9 : Option Value × pj_Mem} : pj_Ends 124 (174, a0 :: a1 :: a2 :: some (.int x) :: l, st, M) o9 = pj_Ends 124 (175, a0 :: a1 :: a2 :: some (.int x) :: l, .int x :: st, M) o9 := pj_xs (s124_174)
theorem q124_175 : pj_row 124 175 = some (.iconst 4, 1, 0, 0, 0) := by decide +kernel
theorem s124_175 {L : pj_Loc} {st : List Value} {M : pj_Mem}  : pj_step 124 (175, L, st, M) = some (176, L, .int 4 :: st, M) := st_iconst q124_175 (by decide +kernel)
theorem x124_175 {L : pj_Loc} {st : List Value} {M : pj_Mem}  {o9 : Option Value × pj_Mem} : pj_Ends 124 (175, L, st, M) o9 = pj_Ends 124 (176, L, .int 4 :: st, M) o9 := pj_xs (s124_175)
theorem q124_176 : pj_row 124 176 = some (.iadd, 1, 0, 0, 0) := by decide +kernel
theorem s124_176 {L : pj_Loc} {st : List Value} {M : pj_Mem} {x y : Int32} : pj_step 124 (176, L, .int y :: .int x :: st, M) = some (177, L, .int (x + y) :: st, M) := st_iadd q124_176
theorem x124_176 {L : pj_Loc} {st : List Value} {M : pj_Mem} {x y : Int32} {o9 : Option Value × pj_Mem} : pj_Ends 124 (176, L, .int y :: .int x :: st, M) o9 = pj_Ends 124 (177, L, .int (x + y) :: st, M) o9 := pj_xs (s124_176)
theorem q124_177 : pj_row 124 177 = some (.iaload, 1, 0, 0, 0) := by decide +kernel
theorem s124_177 {L : pj_Loc} {st : List Value} {N S : Nat} {H : pj_Heap} {o : Nat} {i : Int32} : pj_step 124 (177, L, .int i :: .ref o :: st, (N, S, H)) = pj_pi 178 L st (N, S, H) (pj_arl (H o) 0 i) := st_iaload q124_177
theorem x124_177 {L : pj_Loc} {st : List Value} {N S : Nat} {H : pj_Heap} {o : Nat} {i : Int32} {o9 : Option Value × pj_Mem} : pj_Ends 124 (177, L, .int i :: .ref o :: st, (N, S, H)) o9 = pj_then 124 o9 (pj_pi 178 L st (N, S, H) (pj_arl (H o) 0 i)) := pj_xt q124_177 rfl (pj_cl_nc rfl) (s124_177)
theorem q124_178 : pj_row 124 178 = some (.ifCond .eq 7, 3, 185, 0, 0) := by decide +kernel
theorem s124_178 {L : pj_Loc} {st : List Value} {M : pj_Mem} {x : Int32} : pj_step 124 (178, L, .int x :: st, M) = some (if x = 0 then 185 else 181, L, st, M) := st_if_eq q124_178
theorem x124_178 {L : pj_Loc} {st : List Value} {M : pj_Mem} {x : Int32} {o9 : Option Value × pj_Mem} : pj_Ends 124 (178, L, .int x :: st, M) o9 = pj_Ends 124 (if x = 0 then 185 else 181, L, st, M) o9 := pj_xs (s124_178)
theorem q124_181 : pj_row 124 181 = some (.iconst 1, 1, 0, 0, 0) := by decide +kernel
theorem s124_181 {L : pj_Loc} {st : List Value} {M : pj_Mem}  : pj_step 124 (181, L, st, M) = some (182, L, .int 1 :: st, M) := st_iconst q124_181 (by decide +kernel)
theorem x124_181 {L : pj_Loc} {st : List Value} {M : pj_Mem}  {o9 : Option Value × pj_Mem} : pj_Ends 124 (181, L, st, M) o9 = pj_Ends 124 (182, L, .int 1 :: st, M) o9 := pj_xs (s124_181)
theorem q124_182 : pj_row 124 182 = some (.goto 4, 3, 186, 0, 0) := by decide +kernel
theorem s124_182 {L : pj_Loc} {st : List Value} {M : pj_Mem}  : pj_step 124 (182, L, st, M) = some (186, L, st, M) := st_goto q124_182
theorem x124_182 {L : pj_Loc} {st : List Value} {M : pj_Mem}  {o9 : Option Value × pj_Mem} : pj_Ends 124 (182, L, st, M) o9 = pj_Ends 124 (186, L, st, M) o9 := pj_xs (s124_182)
theorem q124_185 : pj_row 124 185 = some (.iconst 0, 1, 0, 0, 0) := by decide +kernel
theorem s124_185 {L : pj_Loc} {st : List Value} {M : pj_Mem}  : pj_step 124 (185, L, st, M) = some (186, L, .int 0 :: st, M) := st_iconst q124_185 (by decide +kernel)
theorem x124_185 {L : pj_Loc} {st : List Value} {M : pj_Mem}  {o9 : Option Value × pj_Mem} : pj_Ends 124 (185, L, st, M) o9 = pj_Ends 124 (186, L, .int 0 :: st, M) o9 := pj_xs (s124_185)
theorem q124_186 : pj_row 124 186 = some (.invokevirtual 18, 3, 11, 5, 0) := by decide +kernel
theorem e124_186 {L : pj_Loc} {st : List Value} {N S : Nat} {H : pj_Heap} {o : Option Value × pj_Mem} {M' : pj_Mem} {x0 : Nat} {x1 : Int32} {x2 : Int32} {x3 : Int32} {x4 : Int32} {r : Int32} (h4 : pj_le4 st = true) (hu : pj_isU 5 (H x0) = true) (h1 : pj_Ends 11 (0, [some (.ref x0), some (.int x1), some (.int x2), some (.int x3), some (.int x4)], [], (N, S, H)) (some (.int r), M')) (h2 : pj_Ends 124 (189, L, .int r :: st, M') o) : pj_Ends 124 (186, L, .int x4 :: .int x3 :: .int x2 :: .int x1 :: .ref x0 :: st, (N, S, H)) o := ec_v5 q124_186 (Or.inl rfl) h4 hu rfl h1 h2
theorem q124_189 : pj_row 124 189 = some (.aload_n 2, 1, 0, 0, 0) := by decide +kernel
theorem s124_189 {st : List Value} {M : pj_Mem} {l : pj_Loc} {a0 a1 : Option Value} {x : Nat} : pj_step 124 (189, a0 :: a1 :: some (.ref x) :: l, st, M) = some (190, a0 :: a1 :: some (.ref x) :: l, .ref x :: st, M) := st_aload_n q124_189 rfl
theorem x124_189 {st : List Value} {M : pj_Mem} {l : pj_Loc} {a0 a1 : Option Value} {x : Nat} {o9 : Option Value × pj_Mem} : pj_Ends 124 (189, a0 :: a1 :: some (.ref x) :: l, st, M) o9 = pj_Ends 124 (190, a0 :: a1 :: some (.ref x) :: l, .ref x :: st, M) o9 := pj_xs (s124_189)
theorem q124_190 : pj_row 124 190 = some (.aload_n 0, 1, 0, 0, 0) := by decide +kernel
theorem s124_190 {st : List Value} {M : pj_Mem} {l : pj_Loc} {x : Nat} : pj_step 124 (190, some (.ref x) :: l, st, M) = some (191, some (.ref x) :: l, .ref x :: st, M) := st_aload_n q124_190 rfl
theorem x124_190 {st : List Value} {M : pj_Mem} {l : pj_Loc} {x : Nat} {o9 : Option Value × pj_Mem} : pj_Ends 124 (190, some (.ref x) :: l, st, M) o9 = pj_Ends 124 (191, some (.ref x) :: l, .ref x :: st, M) o9 := pj_xs (s124_190)
theorem q124_191 : pj_row 124 191 = some (.iload_n 3, 1, 0, 0, 0) := by decide +kernel
theorem s124_191 {st : List Value} {M : pj_Mem} {l : pj_Loc} {a0 a1 a2 : Option Value} {x : Int32} : pj_step 124 (191, a0 :: a1 :: a2 :: some (.int x) :: l, st, M) = some (192, a0 :: a1 :: a2 :: some (.int x) :: l, .int x :: st, M) := st_iload_n q124_191 rfl
theorem x124_191 {st : List Value} {M : pj_Mem} {l : pj_Loc} {a0 a1 a2 : Option Value} {x : Int32} {o9 : Option Value × pj_Mem} : pj_Ends 124 (191, a0 :: a1 :: a2 :: some (.int x) :: l, st, M) o9 = pj_Ends 124 (192, a0 :: a1 :: a2 :: some (.int x) :: l, .int x :: st, M) o9 := pj_xs (s124_191)
theorem q124_192 : pj_row 124 192 = some (.iconst 1, 1, 0, 0, 0) := by decide +kernel
theorem s124_192 {L : pj_Loc} {st : List Value} {M : pj_Mem}  : pj_step 124 (192, L, st, M) = some (193, L, .int 1 :: st, M) := st_iconst q124_192 (by decide +kernel)
theorem x124_192 {L : pj_Loc} {st : List Value} {M : pj_Mem}  {o9 : Option Value × pj_Mem} : pj_Ends 124 (192, L, st, M) o9 = pj_Ends 124 (193, L, .int 1 :: st, M) o9 := pj_xs (s124_192)
theorem q124_193 : pj_row 124 193 = some (.iadd, 1, 0, 0, 0) := by decide +kernel
theorem s124_193 {L : pj_Loc} {st : List Value} {M : pj_Mem} {x y : Int32} : pj_step 124 (193, L, .int y :: .int x :: st, M) = some (194, L, .int (x + y) :: st, M) := st_iadd q124_193
theorem x124_193 {L : pj_Loc} {st : List Value} {M : pj_Mem} {x y : Int32} {o9 : Option Value × pj_Mem} : pj_Ends 124 (193, L, .int y :: .int x :: st, M) o9 = pj_Ends 124 (194, L, .int (x + y) :: st, M) o9 := pj_xs (s124_193)
theorem q124_194 : pj_row 124 194 = some (.iaload, 1, 0, 0, 0) := by decide +kernel
theorem s124_194 {L : pj_Loc} {st : List Value} {N S : Nat} {H : pj_Heap} {o : Nat} {i : Int32} : pj_step 124 (194, L, .int i :: .ref o :: st, (N, S, H)) = pj_pi 195 L st (N, S, H) (pj_arl (H o) 0 i) := st_iaload q124_194
theorem x124_194 {L : pj_Loc} {st : List Value} {N S : Nat} {H : pj_Heap} {o : Nat} {i : Int32} {o9 : Option Value × pj_Mem} : pj_Ends 124 (194, L, .int i :: .ref o :: st, (N, S, H)) o9 = pj_then 124 o9 (pj_pi 195 L st (N, S, H) (pj_arl (H o) 0 i)) := pj_xt q124_194 rfl (pj_cl_nc rfl) (s124_194)
theorem q124_195 : pj_row 124 195 = some (.aload_n 0, 1, 0, 0, 0) := by decide +kernel
theorem s124_195 {st : List Value} {M : pj_Mem} {l : pj_Loc} {x : Nat} : pj_step 124 (195, some (.ref x) :: l, st, M) = some (196, some (.ref x) :: l, .ref x :: st, M) := st_aload_n q124_195 rfl
theorem x124_195 {st : List Value} {M : pj_Mem} {l : pj_Loc} {x : Nat} {o9 : Option Value × pj_Mem} : pj_Ends 124 (195, some (.ref x) :: l, st, M) o9 = pj_Ends 124 (196, some (.ref x) :: l, .ref x :: st, M) o9 := pj_xs (s124_195)
theorem q124_196 : pj_row 124 196 = some (.iload_n 3, 1, 0, 0, 0) := by decide +kernel
theorem s124_196 {st : List Value} {M : pj_Mem} {l : pj_Loc} {a0 a1 a2 : Option Value} {x : Int32} : pj_step 124 (196, a0 :: a1 :: a2 :: some (.int x) :: l, st, M) = some (197, a0 :: a1 :: a2 :: some (.int x) :: l, .int x :: st, M) := st_iload_n q124_196 rfl
theorem x124_196 {st : List Value} {M : pj_Mem} {l : pj_Loc} {a0 a1 a2 : Option Value} {x : Int32} {o9 : Option Value × pj_Mem} : pj_Ends 124 (196, a0 :: a1 :: a2 :: some (.int x) :: l, st, M) o9 = pj_Ends 124 (197, a0 :: a1 :: a2 :: some (.int x) :: l, .int x :: st, M) o9 := pj_xs (s124_196)
theorem q124_197 : pj_row 124 197 = some (.iconst 2, 1, 0, 0, 0) := by decide +kernel
theorem s124_197 {L : pj_Loc} {st : List Value} {M : pj_Mem}  : pj_step 124 (197, L, st, M) = some (198, L, .int 2 :: st, M) := st_iconst q124_197 (by decide +kernel)
theorem x124_197 {L : pj_Loc} {st : List Value} {M : pj_Mem}  {o9 : Option Value × pj_Mem} : pj_Ends 124 (197, L, st, M) o9 = pj_Ends 124 (198, L, .int 2 :: st, M) o9 := pj_xs (s124_197)
theorem q124_198 : pj_row 124 198 = some (.iadd, 1, 0, 0, 0) := by decide +kernel
theorem s124_198 {L : pj_Loc} {st : List Value} {M : pj_Mem} {x y : Int32} : pj_step 124 (198, L, .int y :: .int x :: st, M) = some (199, L, .int (x + y) :: st, M) := st_iadd q124_198
theorem x124_198 {L : pj_Loc} {st : List Value} {M : pj_Mem} {x y : Int32} {o9 : Option Value × pj_Mem} : pj_Ends 124 (198, L, .int y :: .int x :: st, M) o9 = pj_Ends 124 (199, L, .int (x + y) :: st, M) o9 := pj_xs (s124_198)
theorem q124_199 : pj_row 124 199 = some (.iaload, 1, 0, 0, 0) := by decide +kernel
theorem s124_199 {L : pj_Loc} {st : List Value} {N S : Nat} {H : pj_Heap} {o : Nat} {i : Int32} : pj_step 124 (199, L, .int i :: .ref o :: st, (N, S, H)) = pj_pi 200 L st (N, S, H) (pj_arl (H o) 0 i) := st_iaload q124_199
theorem x124_199 {L : pj_Loc} {st : List Value} {N S : Nat} {H : pj_Heap} {o : Nat} {i : Int32} {o9 : Option Value × pj_Mem} : pj_Ends 124 (199, L, .int i :: .ref o :: st, (N, S, H)) o9 = pj_then 124 o9 (pj_pi 200 L st (N, S, H) (pj_arl (H o) 0 i)) := pj_xt q124_199 rfl (pj_cl_nc rfl) (s124_199)
theorem q124_200 : pj_row 124 200 = some (.aload_n 0, 1, 0, 0, 0) := by decide +kernel
theorem s124_200 {st : List Value} {M : pj_Mem} {l : pj_Loc} {x : Nat} : pj_step 124 (200, some (.ref x) :: l, st, M) = some (201, some (.ref x) :: l, .ref x :: st, M) := st_aload_n q124_200 rfl
theorem x124_200 {st : List Value} {M : pj_Mem} {l : pj_Loc} {x : Nat} {o9 : Option Value × pj_Mem} : pj_Ends 124 (200, some (.ref x) :: l, st, M) o9 = pj_Ends 124 (201, some (.ref x) :: l, .ref x :: st, M) o9 := pj_xs (s124_200)
theorem q124_201 : pj_row 124 201 = some (.iload_n 3, 1, 0, 0, 0) := by decide +kernel
theorem s124_201 {st : List Value} {M : pj_Mem} {l : pj_Loc} {a0 a1 a2 : Option Value} {x : Int32} : pj_step 124 (201, a0 :: a1 :: a2 :: some (.int x) :: l, st, M) = some (202, a0 :: a1 :: a2 :: some (.int x) :: l, .int x :: st, M) := st_iload_n q124_201 rfl
theorem x124_201 {st : List Value} {M : pj_Mem} {l : pj_Loc} {a0 a1 a2 : Option Value} {x : Int32} {o9 : Option Value × pj_Mem} : pj_Ends 124 (201, a0 :: a1 :: a2 :: some (.int x) :: l, st, M) o9 = pj_Ends 124 (202, a0 :: a1 :: a2 :: some (.int x) :: l, .int x :: st, M) o9 := pj_xs (s124_201)
theorem q124_202 : pj_row 124 202 = some (.iconst 3, 1, 0, 0, 0) := by decide +kernel
theorem s124_202 {L : pj_Loc} {st : List Value} {M : pj_Mem}  : pj_step 124 (202, L, st, M) = some (203, L, .int 3 :: st, M) := st_iconst q124_202 (by decide +kernel)
theorem x124_202 {L : pj_Loc} {st : List Value} {M : pj_Mem}  {o9 : Option Value × pj_Mem} : pj_Ends 124 (202, L, st, M) o9 = pj_Ends 124 (203, L, .int 3 :: st, M) o9 := pj_xs (s124_202)
theorem q124_203 : pj_row 124 203 = some (.iadd, 1, 0, 0, 0) := by decide +kernel
theorem s124_203 {L : pj_Loc} {st : List Value} {M : pj_Mem} {x y : Int32} : pj_step 124 (203, L, .int y :: .int x :: st, M) = some (204, L, .int (x + y) :: st, M) := st_iadd q124_203
theorem x124_203 {L : pj_Loc} {st : List Value} {M : pj_Mem} {x y : Int32} {o9 : Option Value × pj_Mem} : pj_Ends 124 (203, L, .int y :: .int x :: st, M) o9 = pj_Ends 124 (204, L, .int (x + y) :: st, M) o9 := pj_xs (s124_203)
theorem q124_204 : pj_row 124 204 = some (.iaload, 1, 0, 0, 0) := by decide +kernel
theorem s124_204 {L : pj_Loc} {st : List Value} {N S : Nat} {H : pj_Heap} {o : Nat} {i : Int32} : pj_step 124 (204, L, .int i :: .ref o :: st, (N, S, H)) = pj_pi 205 L st (N, S, H) (pj_arl (H o) 0 i) := st_iaload q124_204
theorem x124_204 {L : pj_Loc} {st : List Value} {N S : Nat} {H : pj_Heap} {o : Nat} {i : Int32} {o9 : Option Value × pj_Mem} : pj_Ends 124 (204, L, .int i :: .ref o :: st, (N, S, H)) o9 = pj_then 124 o9 (pj_pi 205 L st (N, S, H) (pj_arl (H o) 0 i)) := pj_xt q124_204 rfl (pj_cl_nc rfl) (s124_204)
theorem q124_205 : pj_row 124 205 = some (.aload_n 0, 1, 0, 0, 0) := by decide +kernel
theorem s124_205 {st : List Value} {M : pj_Mem} {l : pj_Loc} {x : Nat} : pj_step 124 (205, some (.ref x) :: l, st, M) = some (206, some (.ref x) :: l, .ref x :: st, M) := st_aload_n q124_205 rfl
theorem x124_205 {st : List Value} {M : pj_Mem} {l : pj_Loc} {x : Nat} {o9 : Option Value × pj_Mem} : pj_Ends 124 (205, some (.ref x) :: l, st, M) o9 = pj_Ends 124 (206, some (.ref x) :: l, .ref x :: st, M) o9 := pj_xs (s124_205)
theorem q124_206 : pj_row 124 206 = some (.iload_n 3, 1, 0, 0, 0) := by decide +kernel
theorem s124_206 {st : List Value} {M : pj_Mem} {l : pj_Loc} {a0 a1 a2 : Option Value} {x : Int32} : pj_step 124 (206, a0 :: a1 :: a2 :: some (.int x) :: l, st, M) = some (207, a0 :: a1 :: a2 :: some (.int x) :: l, .int x :: st, M) := st_iload_n q124_206 rfl
theorem x124_206 {st : List Value} {M : pj_Mem} {l : pj_Loc} {a0 a1 a2 : Option Value} {x : Int32} {o9 : Option Value × pj_Mem} : pj_Ends 124 (206, a0 :: a1 :: a2 :: some (.int x) :: l, st, M) o9 = pj_Ends 124 (207, a0 :: a1 :: a2 :: some (.int x) :: l, .int x :: st, M) o9 := pj_xs (s124_206)
theorem q124_207 : pj_row 124 207 = some (.iconst 4, 1, 0, 0, 0) := by decide +kernel
theorem s124_207 {L : pj_Loc} {st : List Value} {M : pj_Mem}  : pj_step 124 (207, L, st, M) = some (208, L, .int 4 :: st, M) := st_iconst q124_207 (by decide +kernel)
theorem x124_207 {L : pj_Loc} {st : List Value} {M : pj_Mem}  {o9 : Option Value × pj_Mem} : pj_Ends 124 (207, L, st, M) o9 = pj_Ends 124 (208, L, .int 4 :: st, M) o9 := pj_xs (s124_207)
theorem q124_208 : pj_row 124 208 = some (.iadd, 1, 0, 0, 0) := by decide +kernel
theorem s124_208 {L : pj_Loc} {st : List Value} {M : pj_Mem} {x y : Int32} : pj_step 124 (208, L, .int y :: .int x :: st, M) = some (209, L, .int (x + y) :: st, M) := st_iadd q124_208
theorem x124_208 {L : pj_Loc} {st : List Value} {M : pj_Mem} {x y : Int32} {o9 : Option Value × pj_Mem} : pj_Ends 124 (208, L, .int y :: .int x :: st, M) o9 = pj_Ends 124 (209, L, .int (x + y) :: st, M) o9 := pj_xs (s124_208)
theorem q124_209 : pj_row 124 209 = some (.iaload, 1, 0, 0, 0) := by decide +kernel
theorem s124_209 {L : pj_Loc} {st : List Value} {N S : Nat} {H : pj_Heap} {o : Nat} {i : Int32} : pj_step 124 (209, L, .int i :: .ref o :: st, (N, S, H)) = pj_pi 210 L st (N, S, H) (pj_arl (H o) 0 i) := st_iaload q124_209
theorem x124_209 {L : pj_Loc} {st : List Value} {N S : Nat} {H : pj_Heap} {o : Nat} {i : Int32} {o9 : Option Value × pj_Mem} : pj_Ends 124 (209, L, .int i :: .ref o :: st, (N, S, H)) o9 = pj_then 124 o9 (pj_pi 210 L st (N, S, H) (pj_arl (H o) 0 i)) := pj_xt q124_209 rfl (pj_cl_nc rfl) (s124_209)
theorem q124_210 : pj_row 124 210 = some (.ifCond .eq 7, 3, 217, 0, 0) := by decide +kernel
theorem s124_210 {L : pj_Loc} {st : List Value} {M : pj_Mem} {x : Int32} : pj_step 124 (210, L, .int x :: st, M) = some (if x = 0 then 217 else 213, L, st, M) := st_if_eq q124_210
theorem x124_210 {L : pj_Loc} {st : List Value} {M : pj_Mem} {x : Int32} {o9 : Option Value × pj_Mem} : pj_Ends 124 (210, L, .int x :: st, M) o9 = pj_Ends 124 (if x = 0 then 217 else 213, L, st, M) o9 := pj_xs (s124_210)
theorem q124_213 : pj_row 124 213 = some (.iconst 1, 1, 0, 0, 0) := by decide +kernel
theorem s124_213 {L : pj_Loc} {st : List Value} {M : pj_Mem}  : pj_step 124 (213, L, st, M) = some (214, L, .int 1 :: st, M) := st_iconst q124_213 (by decide +kernel)
theorem x124_213 {L : pj_Loc} {st : List Value} {M : pj_Mem}  {o9 : Option Value × pj_Mem} : pj_Ends 124 (213, L, st, M) o9 = pj_Ends 124 (214, L, .int 1 :: st, M) o9 := pj_xs (s124_213)
theorem q124_214 : pj_row 124 214 = some (.goto 4, 3, 218, 0, 0) := by decide +kernel
theorem s124_214 {L : pj_Loc} {st : List Value} {M : pj_Mem}  : pj_step 124 (214, L, st, M) = some (218, L, st, M) := st_goto q124_214
theorem x124_214 {L : pj_Loc} {st : List Value} {M : pj_Mem}  {o9 : Option Value × pj_Mem} : pj_Ends 124 (214, L, st, M) o9 = pj_Ends 124 (218, L, st, M) o9 := pj_xs (s124_214)
theorem q124_217 : pj_row 124 217 = some (.iconst 0, 1, 0, 0, 0) := by decide +kernel
theorem s124_217 {L : pj_Loc} {st : List Value} {M : pj_Mem}  : pj_step 124 (217, L, st, M) = some (218, L, .int 0 :: st, M) := st_iconst q124_217 (by decide +kernel)
theorem x124_217 {L : pj_Loc} {st : List Value} {M : pj_Mem}  {o9 : Option Value × pj_Mem} : pj_Ends 124 (217, L, st, M) o9 = pj_Ends 124 (218, L, .int 0 :: st, M) o9 := pj_xs (s124_217)
theorem q124_218 : pj_row 124 218 = some (.invokevirtual 22, 3, 80, 5, 0) := by decide +kernel
theorem e124_218 {L : pj_Loc} {st : List Value} {N S : Nat} {H : pj_Heap} {o : Option Value × pj_Mem} {M' : pj_Mem} {x0 : Nat} {x1 : Int32} {x2 : Int32} {x3 : Int32} {x4 : Int32} {r : Int32} (h4 : pj_le4 st = true) (hu : pj_isU 6 (H x0) = true) (h1 : pj_Ends 80 (0, [some (.ref x0), some (.int x1), some (.int x2), some (.int x3), some (.int x4)], [], (N, S, H)) (some (.int r), M')) (h2 : pj_Ends 124 (221, L, .int r :: st, M') o) : pj_Ends 124 (218, L, .int x4 :: .int x3 :: .int x2 :: .int x1 :: .ref x0 :: st, (N, S, H)) o := ec_v5 q124_218 (Or.inl rfl) h4 hu rfl h1 h2
theorem q124_221 : pj_row 124 221 = some (.if_icmp .eq 524, 3, 745, 0, 0) := by decide +kernel
theorem s124_221 {L : pj_Loc} {st : List Value} {M : pj_Mem} {x y : Int32} : pj_step 124 (221, L, .int y :: .int x :: st, M) = some (if x = y then 745 else 224, L, st, M) := st_icmp_eq q124_221
theorem x124_221 {L : pj_Loc} {st : List Value} {M : pj_Mem} {x y : Int32} {o9 : Option Value × pj_Mem} : pj_Ends 124 (221, L, .int y :: .int x :: st, M) o9 = pj_Ends 124 (if x = y then 745 else 224, L, st, M) o9 := pj_xs (s124_221)
theorem q124_224 : pj_row 124 224 = some (.iconst 0, 1, 0, 0, 0) := by decide +kernel
theorem s124_224 {L : pj_Loc} {st : List Value} {M : pj_Mem}  : pj_step 124 (224, L, st, M) = some (225, L, .int 0 :: st, M) := st_iconst q124_224 (by decide +kernel)
theorem x124_224 {L : pj_Loc} {st : List Value} {M : pj_Mem}  {o9 : Option Value × pj_Mem} : pj_Ends 124 (224, L, st, M) o9 = pj_Ends 124 (225, L, .int 0 :: st, M) o9 := pj_xs (s124_224)
theorem q124_225 : pj_row 124 225 = some (.ireturn, 1, 0, 0, 0) := by decide +kernel
theorem t124_225 {L : pj_Loc} {M : pj_Mem} {v : Int32} (hv : v = 0 ∨ v = 1) : pj_Ends 124 (225, L, [.int v], M) (some (.int v), M) := pj_Ends.ret q124_225 (pj_rtn_z rt124 hv)
theorem q124_226 : pj_row 124 226 = some (.aload_n 1, 1, 0, 0, 0) := by decide +kernel
theorem s124_226 {st : List Value} {M : pj_Mem} {l : pj_Loc} {a0 : Option Value} {x : Nat} : pj_step 124 (226, a0 :: some (.ref x) :: l, st, M) = some (227, a0 :: some (.ref x) :: l, .ref x :: st, M) := st_aload_n q124_226 rfl
theorem x124_226 {st : List Value} {M : pj_Mem} {l : pj_Loc} {a0 : Option Value} {x : Nat} {o9 : Option Value × pj_Mem} : pj_Ends 124 (226, a0 :: some (.ref x) :: l, st, M) o9 = pj_Ends 124 (227, a0 :: some (.ref x) :: l, .ref x :: st, M) o9 := pj_xs (s124_226)
theorem q124_227 : pj_row 124 227 = some (.aload_n 0, 1, 0, 0, 0) := by decide +kernel
theorem s124_227 {st : List Value} {M : pj_Mem} {l : pj_Loc} {x : Nat} : pj_step 124 (227, some (.ref x) :: l, st, M) = some (228, some (.ref x) :: l, .ref x :: st, M) := st_aload_n q124_227 rfl
theorem x124_227 {st : List Value} {M : pj_Mem} {l : pj_Loc} {x : Nat} {o9 : Option Value × pj_Mem} : pj_Ends 124 (227, some (.ref x) :: l, st, M) o9 = pj_Ends 124 (228, some (.ref x) :: l, .ref x :: st, M) o9 := pj_xs (s124_227)
theorem q124_228 : pj_row 124 228 = some (.iload_n 3, 1, 0, 0, 0) := by decide +kernel
theorem s124_228 {st : List Value} {M : pj_Mem} {l : pj_Loc} {a0 a1 a2 : Option Value} {x : Int32} : pj_step 124 (228, a0 :: a1 :: a2 :: some (.int x) :: l, st, M) = some (229, a0 :: a1 :: a2 :: some (.int x) :: l, .int x :: st, M) := st_iload_n q124_228 rfl
theorem x124_228 {st : List Value} {M : pj_Mem} {l : pj_Loc} {a0 a1 a2 : Option Value} {x : Int32} {o9 : Option Value × pj_Mem} : pj_Ends 124 (228, a0 :: a1 :: a2 :: some (.int x) :: l, st, M) o9 = pj_Ends 124 (229, a0 :: a1 :: a2 :: some (.int x) :: l, .int x :: st, M) o9 := pj_xs (s124_228)
theorem q124_229 : pj_row 124 229 = some (.iconst 1, 1, 0, 0, 0) := by decide +kernel
theorem s124_229 {L : pj_Loc} {st : List Value} {M : pj_Mem}  : pj_step 124 (229, L, st, M) = some (230, L, .int 1 :: st, M) := st_iconst q124_229 (by decide +kernel)
theorem x124_229 {L : pj_Loc} {st : List Value} {M : pj_Mem}  {o9 : Option Value × pj_Mem} : pj_Ends 124 (229, L, st, M) o9 = pj_Ends 124 (230, L, .int 1 :: st, M) o9 := pj_xs (s124_229)
theorem q124_230 : pj_row 124 230 = some (.iadd, 1, 0, 0, 0) := by decide +kernel
theorem s124_230 {L : pj_Loc} {st : List Value} {M : pj_Mem} {x y : Int32} : pj_step 124 (230, L, .int y :: .int x :: st, M) = some (231, L, .int (x + y) :: st, M) := st_iadd q124_230
theorem x124_230 {L : pj_Loc} {st : List Value} {M : pj_Mem} {x y : Int32} {o9 : Option Value × pj_Mem} : pj_Ends 124 (230, L, .int y :: .int x :: st, M) o9 = pj_Ends 124 (231, L, .int (x + y) :: st, M) o9 := pj_xs (s124_230)
theorem q124_231 : pj_row 124 231 = some (.iaload, 1, 0, 0, 0) := by decide +kernel
theorem s124_231 {L : pj_Loc} {st : List Value} {N S : Nat} {H : pj_Heap} {o : Nat} {i : Int32} : pj_step 124 (231, L, .int i :: .ref o :: st, (N, S, H)) = pj_pi 232 L st (N, S, H) (pj_arl (H o) 0 i) := st_iaload q124_231
theorem x124_231 {L : pj_Loc} {st : List Value} {N S : Nat} {H : pj_Heap} {o : Nat} {i : Int32} {o9 : Option Value × pj_Mem} : pj_Ends 124 (231, L, .int i :: .ref o :: st, (N, S, H)) o9 = pj_then 124 o9 (pj_pi 232 L st (N, S, H) (pj_arl (H o) 0 i)) := pj_xt q124_231 rfl (pj_cl_nc rfl) (s124_231)
theorem q124_232 : pj_row 124 232 = some (.aload_n 0, 1, 0, 0, 0) := by decide +kernel
theorem s124_232 {st : List Value} {M : pj_Mem} {l : pj_Loc} {x : Nat} : pj_step 124 (232, some (.ref x) :: l, st, M) = some (233, some (.ref x) :: l, .ref x :: st, M) := st_aload_n q124_232 rfl
theorem x124_232 {st : List Value} {M : pj_Mem} {l : pj_Loc} {x : Nat} {o9 : Option Value × pj_Mem} : pj_Ends 124 (232, some (.ref x) :: l, st, M) o9 = pj_Ends 124 (233, some (.ref x) :: l, .ref x :: st, M) o9 := pj_xs (s124_232)
theorem q124_233 : pj_row 124 233 = some (.iload_n 3, 1, 0, 0, 0) := by decide +kernel
theorem s124_233 {st : List Value} {M : pj_Mem} {l : pj_Loc} {a0 a1 a2 : Option Value} {x : Int32} : pj_step 124 (233, a0 :: a1 :: a2 :: some (.int x) :: l, st, M) = some (234, a0 :: a1 :: a2 :: some (.int x) :: l, .int x :: st, M) := st_iload_n q124_233 rfl
theorem x124_233 {st : List Value} {M : pj_Mem} {l : pj_Loc} {a0 a1 a2 : Option Value} {x : Int32} {o9 : Option Value × pj_Mem} : pj_Ends 124 (233, a0 :: a1 :: a2 :: some (.int x) :: l, st, M) o9 = pj_Ends 124 (234, a0 :: a1 :: a2 :: some (.int x) :: l, .int x :: st, M) o9 := pj_xs (s124_233)
theorem q124_234 : pj_row 124 234 = some (.iconst 2, 1, 0, 0, 0) := by decide +kernel
theorem s124_234 {L : pj_Loc} {st : List Value} {M : pj_Mem}  : pj_step 124 (234, L, st, M) = some (235, L, .int 2 :: st, M) := st_iconst q124_234 (by decide +kernel)
theorem x124_234 {L : pj_Loc} {st : List Value} {M : pj_Mem}  {o9 : Option Value × pj_Mem} : pj_Ends 124 (234, L, st, M) o9 = pj_Ends 124 (235, L, .int 2 :: st, M) o9 := pj_xs (s124_234)
theorem q124_235 : pj_row 124 235 = some (.iadd, 1, 0, 0, 0) := by decide +kernel
theorem s124_235 {L : pj_Loc} {st : List Value} {M : pj_Mem} {x y : Int32} : pj_step 124 (235, L, .int y :: .int x :: st, M) = some (236, L, .int (x + y) :: st, M) := st_iadd q124_235
theorem x124_235 {L : pj_Loc} {st : List Value} {M : pj_Mem} {x y : Int32} {o9 : Option Value × pj_Mem} : pj_Ends 124 (235, L, .int y :: .int x :: st, M) o9 = pj_Ends 124 (236, L, .int (x + y) :: st, M) o9 := pj_xs (s124_235)
theorem q124_236 : pj_row 124 236 = some (.iaload, 1, 0, 0, 0) := by decide +kernel
theorem s124_236 {L : pj_Loc} {st : List Value} {N S : Nat} {H : pj_Heap} {o : Nat} {i : Int32} : pj_step 124 (236, L, .int i :: .ref o :: st, (N, S, H)) = pj_pi 237 L st (N, S, H) (pj_arl (H o) 0 i) := st_iaload q124_236
theorem x124_236 {L : pj_Loc} {st : List Value} {N S : Nat} {H : pj_Heap} {o : Nat} {i : Int32} {o9 : Option Value × pj_Mem} : pj_Ends 124 (236, L, .int i :: .ref o :: st, (N, S, H)) o9 = pj_then 124 o9 (pj_pi 237 L st (N, S, H) (pj_arl (H o) 0 i)) := pj_xt q124_236 rfl (pj_cl_nc rfl) (s124_236)
theorem q124_237 : pj_row 124 237 = some (.ifCond .eq 7, 3, 244, 0, 0) := by decide +kernel
theorem s124_237 {L : pj_Loc} {st : List Value} {M : pj_Mem} {x : Int32} : pj_step 124 (237, L, .int x :: st, M) = some (if x = 0 then 244 else 240, L, st, M) := st_if_eq q124_237
theorem x124_237 {L : pj_Loc} {st : List Value} {M : pj_Mem} {x : Int32} {o9 : Option Value × pj_Mem} : pj_Ends 124 (237, L, .int x :: st, M) o9 = pj_Ends 124 (if x = 0 then 244 else 240, L, st, M) o9 := pj_xs (s124_237)
theorem q124_240 : pj_row 124 240 = some (.iconst 1, 1, 0, 0, 0) := by decide +kernel
theorem s124_240 {L : pj_Loc} {st : List Value} {M : pj_Mem}  : pj_step 124 (240, L, st, M) = some (241, L, .int 1 :: st, M) := st_iconst q124_240 (by decide +kernel)
theorem x124_240 {L : pj_Loc} {st : List Value} {M : pj_Mem}  {o9 : Option Value × pj_Mem} : pj_Ends 124 (240, L, st, M) o9 = pj_Ends 124 (241, L, .int 1 :: st, M) o9 := pj_xs (s124_240)
theorem q124_241 : pj_row 124 241 = some (.goto 4, 3, 245, 0, 0) := by decide +kernel
theorem s124_241 {L : pj_Loc} {st : List Value} {M : pj_Mem}  : pj_step 124 (241, L, st, M) = some (245, L, st, M) := st_goto q124_241
theorem x124_241 {L : pj_Loc} {st : List Value} {M : pj_Mem}  {o9 : Option Value × pj_Mem} : pj_Ends 124 (241, L, st, M) o9 = pj_Ends 124 (245, L, st, M) o9 := pj_xs (s124_241)
theorem q124_244 : pj_row 124 244 = some (.iconst 0, 1, 0, 0, 0) := by decide +kernel
theorem s124_244 {L : pj_Loc} {st : List Value} {M : pj_Mem}  : pj_step 124 (244, L, st, M) = some (245, L, .int 0 :: st, M) := st_iconst q124_244 (by decide +kernel)
theorem x124_244 {L : pj_Loc} {st : List Value} {M : pj_Mem}  {o9 : Option Value × pj_Mem} : pj_Ends 124 (244, L, st, M) o9 = pj_Ends 124 (245, L, .int 0 :: st, M) o9 := pj_xs (s124_244)
theorem q124_245 : pj_row 124 245 = some (.invokevirtual 23, 3, 38, 3, 0) := by decide +kernel
theorem e124_245 {L : pj_Loc} {st : List Value} {N S : Nat} {H : pj_Heap} {o : Option Value × pj_Mem} {M' : pj_Mem} {x0 : Nat} {x1 : Int32} {x2 : Int32} {r : Int32} (h4 : pj_le4 st = true) (hu : pj_isU 5 (H x0) = true) (h1 : pj_Ends 38 (0, [some (.ref x0), some (.int x1), some (.int x2)], [], (N, S, H)) (some (.int r), M')) (h2 : pj_Ends 124 (248, L, .int r :: st, M') o) : pj_Ends 124 (245, L, .int x2 :: .int x1 :: .ref x0 :: st, (N, S, H)) o := ec_v3 q124_245 (Or.inl rfl) h4 hu rfl h1 h2
theorem q124_248 : pj_row 124 248 = some (.aload_n 2, 1, 0, 0, 0) := by decide +kernel
theorem s124_248 {st : List Value} {M : pj_Mem} {l : pj_Loc} {a0 a1 : Option Value} {x : Nat} : pj_step 124 (248, a0 :: a1 :: some (.ref x) :: l, st, M) = some (249, a0 :: a1 :: some (.ref x) :: l, .ref x :: st, M) := st_aload_n q124_248 rfl
theorem x124_248 {st : List Value} {M : pj_Mem} {l : pj_Loc} {a0 a1 : Option Value} {x : Nat} {o9 : Option Value × pj_Mem} : pj_Ends 124 (248, a0 :: a1 :: some (.ref x) :: l, st, M) o9 = pj_Ends 124 (249, a0 :: a1 :: some (.ref x) :: l, .ref x :: st, M) o9 := pj_xs (s124_248)
theorem q124_249 : pj_row 124 249 = some (.aload_n 0, 1, 0, 0, 0) := by decide +kernel
theorem s124_249 {st : List Value} {M : pj_Mem} {l : pj_Loc} {x : Nat} : pj_step 124 (249, some (.ref x) :: l, st, M) = some (250, some (.ref x) :: l, .ref x :: st, M) := st_aload_n q124_249 rfl
theorem x124_249 {st : List Value} {M : pj_Mem} {l : pj_Loc} {x : Nat} {o9 : Option Value × pj_Mem} : pj_Ends 124 (249, some (.ref x) :: l, st, M) o9 = pj_Ends 124 (250, some (.ref x) :: l, .ref x :: st, M) o9 := pj_xs (s124_249)
theorem q124_250 : pj_row 124 250 = some (.iload_n 3, 1, 0, 0, 0) := by decide +kernel
theorem s124_250 {st : List Value} {M : pj_Mem} {l : pj_Loc} {a0 a1 a2 : Option Value} {x : Int32} : pj_step 124 (250, a0 :: a1 :: a2 :: some (.int x) :: l, st, M) = some (251, a0 :: a1 :: a2 :: some (.int x) :: l, .int x :: st, M) := st_iload_n q124_250 rfl
theorem x124_250 {st : List Value} {M : pj_Mem} {l : pj_Loc} {a0 a1 a2 : Option Value} {x : Int32} {o9 : Option Value × pj_Mem} : pj_Ends 124 (250, a0 :: a1 :: a2 :: some (.int x) :: l, st, M) o9 = pj_Ends 124 (251, a0 :: a1 :: a2 :: some (.int x) :: l, .int x :: st, M) o9 := pj_xs (s124_250)
theorem q124_251 : pj_row 124 251 = some (.iconst 1, 1, 0, 0, 0) := by decide +kernel
theorem s124_251 {L : pj_Loc} {st : List Value} {M : pj_Mem}  : pj_step 124 (251, L, st, M) = some (252, L, .int 1 :: st, M) := st_iconst q124_251 (by decide +kernel)
theorem x124_251 {L : pj_Loc} {st : List Value} {M : pj_Mem}  {o9 : Option Value × pj_Mem} : pj_Ends 124 (251, L, st, M) o9 = pj_Ends 124 (252, L, .int 1 :: st, M) o9 := pj_xs (s124_251)
theorem q124_252 : pj_row 124 252 = some (.iadd, 1, 0, 0, 0) := by decide +kernel
theorem s124_252 {L : pj_Loc} {st : List Value} {M : pj_Mem} {x y : Int32} : pj_step 124 (252, L, .int y :: .int x :: st, M) = some (253, L, .int (x + y) :: st, M) := st_iadd q124_252
theorem x124_252 {L : pj_Loc} {st : List Value} {M : pj_Mem} {x y : Int32} {o9 : Option Value × pj_Mem} : pj_Ends 124 (252, L, .int y :: .int x :: st, M) o9 = pj_Ends 124 (253, L, .int (x + y) :: st, M) o9 := pj_xs (s124_252)
theorem q124_253 : pj_row 124 253 = some (.iaload, 1, 0, 0, 0) := by decide +kernel
theorem s124_253 {L : pj_Loc} {st : List Value} {N S : Nat} {H : pj_Heap} {o : Nat} {i : Int32} : pj_step 124 (253, L, .int i :: .ref o :: st, (N, S, H)) = pj_pi 254 L st (N, S, H) (pj_arl (H o) 0 i) := st_iaload q124_253
theorem x124_253 {L : pj_Loc} {st : List Value} {N S : Nat} {H : pj_Heap} {o : Nat} {i : Int32} {o9 : Option Value × pj_Mem} : pj_Ends 124 (253, L, .int i :: .ref o :: st, (N, S, H)) o9 = pj_then 124 o9 (pj_pi 254 L st (N, S, H) (pj_arl (H o) 0 i)) := pj_xt q124_253 rfl (pj_cl_nc rfl) (s124_253)
theorem q124_254 : pj_row 124 254 = some (.aload_n 0, 1, 0, 0, 0) := by decide +kernel
theorem s124_254 {st : List Value} {M : pj_Mem} {l : pj_Loc} {x : Nat} : pj_step 124 (254, some (.ref x) :: l, st, M) = some (255, some (.ref x) :: l, .ref x :: st, M) := st_aload_n q124_254 rfl
theorem x124_254 {st : List Value} {M : pj_Mem} {l : pj_Loc} {x : Nat} {o9 : Option Value × pj_Mem} : pj_Ends 124 (254, some (.ref x) :: l, st, M) o9 = pj_Ends 124 (255, some (.ref x) :: l, .ref x :: st, M) o9 := pj_xs (s124_254)
theorem q124_255 : pj_row 124 255 = some (.iload_n 3, 1, 0, 0, 0) := by decide +kernel
theorem s124_255 {st : List Value} {M : pj_Mem} {l : pj_Loc} {a0 a1 a2 : Option Value} {x : Int32} : pj_step 124 (255, a0 :: a1 :: a2 :: some (.int x) :: l, st, M) = some (256, a0 :: a1 :: a2 :: some (.int x) :: l, .int x :: st, M) := st_iload_n q124_255 rfl
theorem x124_255 {st : List Value} {M : pj_Mem} {l : pj_Loc} {a0 a1 a2 : Option Value} {x : Int32} {o9 : Option Value × pj_Mem} : pj_Ends 124 (255, a0 :: a1 :: a2 :: some (.int x) :: l, st, M) o9 = pj_Ends 124 (256, a0 :: a1 :: a2 :: some (.int x) :: l, .int x :: st, M) o9 := pj_xs (s124_255)
theorem q124_256 : pj_row 124 256 = some (.iconst 2, 1, 0, 0, 0) := by decide +kernel
theorem s124_256 {L : pj_Loc} {st : List Value} {M : pj_Mem}  : pj_step 124 (256, L, st, M) = some (257, L, .int 2 :: st, M) := st_iconst q124_256 (by decide +kernel)
theorem x124_256 {L : pj_Loc} {st : List Value} {M : pj_Mem}  {o9 : Option Value × pj_Mem} : pj_Ends 124 (256, L, st, M) o9 = pj_Ends 124 (257, L, .int 2 :: st, M) o9 := pj_xs (s124_256)
theorem q124_257 : pj_row 124 257 = some (.iadd, 1, 0, 0, 0) := by decide +kernel
theorem s124_257 {L : pj_Loc} {st : List Value} {M : pj_Mem} {x y : Int32} : pj_step 124 (257, L, .int y :: .int x :: st, M) = some (258, L, .int (x + y) :: st, M) := st_iadd q124_257
theorem x124_257 {L : pj_Loc} {st : List Value} {M : pj_Mem} {x y : Int32} {o9 : Option Value × pj_Mem} : pj_Ends 124 (257, L, .int y :: .int x :: st, M) o9 = pj_Ends 124 (258, L, .int (x + y) :: st, M) o9 := pj_xs (s124_257)
theorem q124_258 : pj_row 124 258 = some (.iaload, 1, 0, 0, 0) := by decide +kernel
theorem s124_258 {L : pj_Loc} {st : List Value} {N S : Nat} {H : pj_Heap} {o : Nat} {i : Int32} : pj_step 124 (258, L, .int i :: .ref o :: st, (N, S, H)) = pj_pi 259 L st (N, S, H) (pj_arl (H o) 0 i) := st_iaload q124_258
theorem x124_258 {L : pj_Loc} {st : List Value} {N S : Nat} {H : pj_Heap} {o : Nat} {i : Int32} {o9 : Option Value × pj_Mem} : pj_Ends 124 (258, L, .int i :: .ref o :: st, (N, S, H)) o9 = pj_then 124 o9 (pj_pi 259 L st (N, S, H) (pj_arl (H o) 0 i)) := pj_xt q124_258 rfl (pj_cl_nc rfl) (s124_258)
theorem q124_259 : pj_row 124 259 = some (.ifCond .eq 7, 3, 266, 0, 0) := by decide +kernel
theorem s124_259 {L : pj_Loc} {st : List Value} {M : pj_Mem} {x : Int32} : pj_step 124 (259, L, .int x :: st, M) = some (if x = 0 then 266 else 262, L, st, M) := st_if_eq q124_259
theorem x124_259 {L : pj_Loc} {st : List Value} {M : pj_Mem} {x : Int32} {o9 : Option Value × pj_Mem} : pj_Ends 124 (259, L, .int x :: st, M) o9 = pj_Ends 124 (if x = 0 then 266 else 262, L, st, M) o9 := pj_xs (s124_259)
theorem q124_262 : pj_row 124 262 = some (.iconst 1, 1, 0, 0, 0) := by decide +kernel
theorem s124_262 {L : pj_Loc} {st : List Value} {M : pj_Mem}  : pj_step 124 (262, L, st, M) = some (263, L, .int 1 :: st, M) := st_iconst q124_262 (by decide +kernel)
theorem x124_262 {L : pj_Loc} {st : List Value} {M : pj_Mem}  {o9 : Option Value × pj_Mem} : pj_Ends 124 (262, L, st, M) o9 = pj_Ends 124 (263, L, .int 1 :: st, M) o9 := pj_xs (s124_262)
theorem q124_263 : pj_row 124 263 = some (.goto 4, 3, 267, 0, 0) := by decide +kernel
theorem s124_263 {L : pj_Loc} {st : List Value} {M : pj_Mem}  : pj_step 124 (263, L, st, M) = some (267, L, st, M) := st_goto q124_263
theorem x124_263 {L : pj_Loc} {st : List Value} {M : pj_Mem}  {o9 : Option Value × pj_Mem} : pj_Ends 124 (263, L, st, M) o9 = pj_Ends 124 (267, L, st, M) o9 := pj_xs (s124_263)
theorem q124_266 : pj_row 124 266 = some (.iconst 0, 1, 0, 0, 0) := by decide +kernel
theorem s124_266 {L : pj_Loc} {st : List Value} {M : pj_Mem}  : pj_step 124 (266, L, st, M) = some (267, L, .int 0 :: st, M) := st_iconst q124_266 (by decide +kernel)
theorem x124_266 {L : pj_Loc} {st : List Value} {M : pj_Mem}  {o9 : Option Value × pj_Mem} : pj_Ends 124 (266, L, st, M) o9 = pj_Ends 124 (267, L, .int 0 :: st, M) o9 := pj_xs (s124_266)
theorem q124_267 : pj_row 124 267 = some (.invokevirtual 27, 3, 99, 3, 0) := by decide +kernel
theorem e124_267 {L : pj_Loc} {st : List Value} {N S : Nat} {H : pj_Heap} {o : Option Value × pj_Mem} {M' : pj_Mem} {x0 : Nat} {x1 : Int32} {x2 : Int32} {r : Int32} (h4 : pj_le4 st = true) (hu : pj_isU 6 (H x0) = true) (h1 : pj_Ends 99 (0, [some (.ref x0), some (.int x1), some (.int x2), none], [], (N, S, H)) (some (.int r), M')) (h2 : pj_Ends 124 (270, L, .int r :: st, M') o) : pj_Ends 124 (267, L, .int x2 :: .int x1 :: .ref x0 :: st, (N, S, H)) o := ec_v3 q124_267 (Or.inl rfl) h4 hu rfl h1 h2
theorem q124_270 : pj_row 124 270 = some (.if_icmp .eq 475, 3, 745, 0, 0) := by decide +kernel
theorem s124_270 {L : pj_Loc} {st : List Value} {M : pj_Mem} {x y : Int32} : pj_step 124 (270, L, .int y :: .int x :: st, M) = some (if x = y then 745 else 273, L, st, M) := st_icmp_eq q124_270
theorem x124_270 {L : pj_Loc} {st : List Value} {M : pj_Mem} {x y : Int32} {o9 : Option Value × pj_Mem} : pj_Ends 124 (270, L, .int y :: .int x :: st, M) o9 = pj_Ends 124 (if x = y then 745 else 273, L, st, M) o9 := pj_xs (s124_270)
theorem q124_273 : pj_row 124 273 = some (.iconst 0, 1, 0, 0, 0) := by decide +kernel
theorem s124_273 {L : pj_Loc} {st : List Value} {M : pj_Mem}  : pj_step 124 (273, L, st, M) = some (274, L, .int 0 :: st, M) := st_iconst q124_273 (by decide +kernel)
theorem x124_273 {L : pj_Loc} {st : List Value} {M : pj_Mem}  {o9 : Option Value × pj_Mem} : pj_Ends 124 (273, L, st, M) o9 = pj_Ends 124 (274, L, .int 0 :: st, M) o9 := pj_xs (s124_273)
theorem q124_274 : pj_row 124 274 = some (.ireturn, 1, 0, 0, 0) := by decide +kernel
theorem t124_274 {L : pj_Loc} {M : pj_Mem} {v : Int32} (hv : v = 0 ∨ v = 1) : pj_Ends 124 (274, L, [.int v], M) (some (.int v), M) := pj_Ends.ret q124_274 (pj_rtn_z rt124 hv)
theorem q124_275 : pj_row 124 275 = some (.aload_n 1, 1, 0, 0, 0) := by decide +kernel
theorem s124_275 {st : List Value} {M : pj_Mem} {l : pj_Loc} {a0 : Option Value} {x : Nat} : pj_step 124 (275, a0 :: some (.ref x) :: l, st, M) = some (276, a0 :: some (.ref x) :: l, .ref x :: st, M) := st_aload_n q124_275 rfl
theorem x124_275 {st : List Value} {M : pj_Mem} {l : pj_Loc} {a0 : Option Value} {x : Nat} {o9 : Option Value × pj_Mem} : pj_Ends 124 (275, a0 :: some (.ref x) :: l, st, M) o9 = pj_Ends 124 (276, a0 :: some (.ref x) :: l, .ref x :: st, M) o9 := pj_xs (s124_275)
theorem q124_276 : pj_row 124 276 = some (.aload_n 0, 1, 0, 0, 0) := by decide +kernel
theorem s124_276 {st : List Value} {M : pj_Mem} {l : pj_Loc} {x : Nat} : pj_step 124 (276, some (.ref x) :: l, st, M) = some (277, some (.ref x) :: l, .ref x :: st, M) := st_aload_n q124_276 rfl
theorem x124_276 {st : List Value} {M : pj_Mem} {l : pj_Loc} {x : Nat} {o9 : Option Value × pj_Mem} : pj_Ends 124 (276, some (.ref x) :: l, st, M) o9 = pj_Ends 124 (277, some (.ref x) :: l, .ref x :: st, M) o9 := pj_xs (s124_276)
theorem q124_277 : pj_row 124 277 = some (.iload_n 3, 1, 0, 0, 0) := by decide +kernel
theorem s124_277 {st : List Value} {M : pj_Mem} {l : pj_Loc} {a0 a1 a2 : Option Value} {x : Int32} : pj_step 124 (277, a0 :: a1 :: a2 :: some (.int x) :: l, st, M) = some (278, a0 :: a1 :: a2 :: some (.int x) :: l, .int x :: st, M) := st_iload_n q124_277 rfl
theorem x124_277 {st : List Value} {M : pj_Mem} {l : pj_Loc} {a0 a1 a2 : Option Value} {x : Int32} {o9 : Option Value × pj_Mem} : pj_Ends 124 (277, a0 :: a1 :: a2 :: some (.int x) :: l, st, M) o9 = pj_Ends 124 (278, a0 :: a1 :: a2 :: some (.int x) :: l, .int x :: st, M) o9 := pj_xs (s124_277)
theorem q124_278 : pj_row 124 278 = some (.iconst 1, 1, 0, 0, 0) := by decide +kernel
theorem s124_278 {L : pj_Loc} {st : List Value} {M : pj_Mem}  : pj_step 124 (278, L, st, M) = some (279, L, .int 1 :: st, M) := st_iconst q124_278 (by decide +kernel)
theorem x124_278 {L : pj_Loc} {st : List Value} {M : pj_Mem}  {o9 : Option Value × pj_Mem} : pj_Ends 124 (278, L, st, M) o9 = pj_Ends 124 (279, L, .int 1 :: st, M) o9 := pj_xs (s124_278)
theorem q124_279 : pj_row 124 279 = some (.iadd, 1, 0, 0, 0) := by decide +kernel
theorem s124_279 {L : pj_Loc} {st : List Value} {M : pj_Mem} {x y : Int32} : pj_step 124 (279, L, .int y :: .int x :: st, M) = some (280, L, .int (x + y) :: st, M) := st_iadd q124_279
theorem x124_279 {L : pj_Loc} {st : List Value} {M : pj_Mem} {x y : Int32} {o9 : Option Value × pj_Mem} : pj_Ends 124 (279, L, .int y :: .int x :: st, M) o9 = pj_Ends 124 (280, L, .int (x + y) :: st, M) o9 := pj_xs (s124_279)
theorem q124_280 : pj_row 124 280 = some (.iaload, 1, 0, 0, 0) := by decide +kernel
theorem s124_280 {L : pj_Loc} {st : List Value} {N S : Nat} {H : pj_Heap} {o : Nat} {i : Int32} : pj_step 124 (280, L, .int i :: .ref o :: st, (N, S, H)) = pj_pi 281 L st (N, S, H) (pj_arl (H o) 0 i) := st_iaload q124_280
theorem x124_280 {L : pj_Loc} {st : List Value} {N S : Nat} {H : pj_Heap} {o : Nat} {i : Int32} {o9 : Option Value × pj_Mem} : pj_Ends 124 (280, L, .int i :: .ref o :: st, (N, S, H)) o9 = pj_then 124 o9 (pj_pi 281 L st (N, S, H) (pj_arl (H o) 0 i)) := pj_xt q124_280 rfl (pj_cl_nc rfl) (s124_280)
theorem q124_281 : pj_row 124 281 = some (.invokevirtual 28, 3, 39, 2, 0) := by decide +kernel
theorem e124_281 {L : pj_Loc} {st : List Value} {N S : Nat} {H : pj_Heap} {o : Option Value × pj_Mem} {M' : pj_Mem} {x0 : Nat} {x1 : Int32} {r : Int32} (h4 : pj_le4 st = true) (hu : pj_isU 5 (H x0) = true) (h1 : pj_Ends 39 (0, [some (.ref x0), some (.int x1), none], [], (N, S, H)) (some (.int r), M')) (h2 : pj_Ends 124 (284, L, .int r :: st, M') o) : pj_Ends 124 (281, L, .int x1 :: .ref x0 :: st, (N, S, H)) o := ec_v2 q124_281 (Or.inl rfl) h4 hu rfl h1 h2
theorem q124_284 : pj_row 124 284 = some (.aload_n 2, 1, 0, 0, 0) := by decide +kernel
theorem s124_284 {st : List Value} {M : pj_Mem} {l : pj_Loc} {a0 a1 : Option Value} {x : Nat} : pj_step 124 (284, a0 :: a1 :: some (.ref x) :: l, st, M) = some (285, a0 :: a1 :: some (.ref x) :: l, .ref x :: st, M) := st_aload_n q124_284 rfl
theorem x124_284 {st : List Value} {M : pj_Mem} {l : pj_Loc} {a0 a1 : Option Value} {x : Nat} {o9 : Option Value × pj_Mem} : pj_Ends 124 (284, a0 :: a1 :: some (.ref x) :: l, st, M) o9 = pj_Ends 124 (285, a0 :: a1 :: some (.ref x) :: l, .ref x :: st, M) o9 := pj_xs (s124_284)
theorem q124_285 : pj_row 124 285 = some (.aload_n 0, 1, 0, 0, 0) := by decide +kernel
theorem s124_285 {st : List Value} {M : pj_Mem} {l : pj_Loc} {x : Nat} : pj_step 124 (285, some (.ref x) :: l, st, M) = some (286, some (.ref x) :: l, .ref x :: st, M) := st_aload_n q124_285 rfl
theorem x124_285 {st : List Value} {M : pj_Mem} {l : pj_Loc} {x : Nat} {o9 : Option Value × pj_Mem} : pj_Ends 124 (285, some (.ref x) :: l, st, M) o9 = pj_Ends 124 (286, some (.ref x) :: l, .ref x :: st, M) o9 := pj_xs (s124_285)
theorem q124_286 : pj_row 124 286 = some (.iload_n 3, 1, 0, 0, 0) := by decide +kernel
theorem s124_286 {st : List Value} {M : pj_Mem} {l : pj_Loc} {a0 a1 a2 : Option Value} {x : Int32} : pj_step 124 (286, a0 :: a1 :: a2 :: some (.int x) :: l, st, M) = some (287, a0 :: a1 :: a2 :: some (.int x) :: l, .int x :: st, M) := st_iload_n q124_286 rfl
theorem x124_286 {st : List Value} {M : pj_Mem} {l : pj_Loc} {a0 a1 a2 : Option Value} {x : Int32} {o9 : Option Value × pj_Mem} : pj_Ends 124 (286, a0 :: a1 :: a2 :: some (.int x) :: l, st, M) o9 = pj_Ends 124 (287, a0 :: a1 :: a2 :: some (.int x) :: l, .int x :: st, M) o9 := pj_xs (s124_286)
theorem q124_287 : pj_row 124 287 = some (.iconst 1, 1, 0, 0, 0) := by decide +kernel
theorem s124_287 {L : pj_Loc} {st : List Value} {M : pj_Mem}  : pj_step 124 (287, L, st, M) = some (288, L, .int 1 :: st, M) := st_iconst q124_287 (by decide +kernel)
theorem x124_287 {L : pj_Loc} {st : List Value} {M : pj_Mem}  {o9 : Option Value × pj_Mem} : pj_Ends 124 (287, L, st, M) o9 = pj_Ends 124 (288, L, .int 1 :: st, M) o9 := pj_xs (s124_287)
theorem q124_288 : pj_row 124 288 = some (.iadd, 1, 0, 0, 0) := by decide +kernel
theorem s124_288 {L : pj_Loc} {st : List Value} {M : pj_Mem} {x y : Int32} : pj_step 124 (288, L, .int y :: .int x :: st, M) = some (289, L, .int (x + y) :: st, M) := st_iadd q124_288
theorem x124_288 {L : pj_Loc} {st : List Value} {M : pj_Mem} {x y : Int32} {o9 : Option Value × pj_Mem} : pj_Ends 124 (288, L, .int y :: .int x :: st, M) o9 = pj_Ends 124 (289, L, .int (x + y) :: st, M) o9 := pj_xs (s124_288)
theorem q124_289 : pj_row 124 289 = some (.iaload, 1, 0, 0, 0) := by decide +kernel
theorem s124_289 {L : pj_Loc} {st : List Value} {N S : Nat} {H : pj_Heap} {o : Nat} {i : Int32} : pj_step 124 (289, L, .int i :: .ref o :: st, (N, S, H)) = pj_pi 290 L st (N, S, H) (pj_arl (H o) 0 i) := st_iaload q124_289
theorem x124_289 {L : pj_Loc} {st : List Value} {N S : Nat} {H : pj_Heap} {o : Nat} {i : Int32} {o9 : Option Value × pj_Mem} : pj_Ends 124 (289, L, .int i :: .ref o :: st, (N, S, H)) o9 = pj_then 124 o9 (pj_pi 290 L st (N, S, H) (pj_arl (H o) 0 i)) := pj_xt q124_289 rfl (pj_cl_nc rfl) (s124_289)
theorem q124_290 : pj_row 124 290 = some (.invokevirtual 32, 3, 102, 2, 0) := by decide +kernel
theorem e124_290 {L : pj_Loc} {st : List Value} {N S : Nat} {H : pj_Heap} {o : Option Value × pj_Mem} {M' : pj_Mem} {x0 : Nat} {x1 : Int32} {r : Int32} (h4 : pj_le4 st = true) (hu : pj_isU 6 (H x0) = true) (h1 : pj_Ends 102 (0, [some (.ref x0), some (.int x1), none], [], (N, S, H)) (some (.int r), M')) (h2 : pj_Ends 124 (293, L, .int r :: st, M') o) : pj_Ends 124 (290, L, .int x1 :: .ref x0 :: st, (N, S, H)) o := ec_v2 q124_290 (Or.inl rfl) h4 hu rfl h1 h2
theorem q124_293 : pj_row 124 293 = some (.if_icmp .eq 452, 3, 745, 0, 0) := by decide +kernel
theorem s124_293 {L : pj_Loc} {st : List Value} {M : pj_Mem} {x y : Int32} : pj_step 124 (293, L, .int y :: .int x :: st, M) = some (if x = y then 745 else 296, L, st, M) := st_icmp_eq q124_293
theorem x124_293 {L : pj_Loc} {st : List Value} {M : pj_Mem} {x y : Int32} {o9 : Option Value × pj_Mem} : pj_Ends 124 (293, L, .int y :: .int x :: st, M) o9 = pj_Ends 124 (if x = y then 745 else 296, L, st, M) o9 := pj_xs (s124_293)
theorem q124_296 : pj_row 124 296 = some (.iconst 0, 1, 0, 0, 0) := by decide +kernel
theorem s124_296 {L : pj_Loc} {st : List Value} {M : pj_Mem}  : pj_step 124 (296, L, st, M) = some (297, L, .int 0 :: st, M) := st_iconst q124_296 (by decide +kernel)
theorem x124_296 {L : pj_Loc} {st : List Value} {M : pj_Mem}  {o9 : Option Value × pj_Mem} : pj_Ends 124 (296, L, st, M) o9 = pj_Ends 124 (297, L, .int 0 :: st, M) o9 := pj_xs (s124_296)
theorem q124_297 : pj_row 124 297 = some (.ireturn, 1, 0, 0, 0) := by decide +kernel
theorem t124_297 {L : pj_Loc} {M : pj_Mem} {v : Int32} (hv : v = 0 ∨ v = 1) : pj_Ends 124 (297, L, [.int v], M) (some (.int v), M) := pj_Ends.ret q124_297 (pj_rtn_z rt124 hv)
theorem q124_298 : pj_row 124 298 = some (.aload_n 1, 1, 0, 0, 0) := by decide +kernel
theorem s124_298 {st : List Value} {M : pj_Mem} {l : pj_Loc} {a0 : Option Value} {x : Nat} : pj_step 124 (298, a0 :: some (.ref x) :: l, st, M) = some (299, a0 :: some (.ref x) :: l, .ref x :: st, M) := st_aload_n q124_298 rfl
theorem x124_298 {st : List Value} {M : pj_Mem} {l : pj_Loc} {a0 : Option Value} {x : Nat} {o9 : Option Value × pj_Mem} : pj_Ends 124 (298, a0 :: some (.ref x) :: l, st, M) o9 = pj_Ends 124 (299, a0 :: some (.ref x) :: l, .ref x :: st, M) o9 := pj_xs (s124_298)
theorem q124_299 : pj_row 124 299 = some (.invokevirtual 33, 3, 41, 1, 0) := by decide +kernel
theorem e124_299 {L : pj_Loc} {st : List Value} {N S : Nat} {H : pj_Heap} {o : Option Value × pj_Mem} {M' : pj_Mem} {x0 : Nat} {r : Int32} (h4 : pj_le4 st = true) (hu : pj_isU 5 (H x0) = true) (h1 : pj_Ends 41 (0, [some (.ref x0), none], [], (N, S, H)) (some (.int r), M')) (h2 : pj_Ends 124 (302, L, .int r :: st, M') o) : pj_Ends 124 (299, L, .ref x0 :: st, (N, S, H)) o := ec_v1 q124_299 (Or.inl rfl) h4 hu rfl h1 h2
theorem q124_302 : pj_row 124 302 = some (.aload_n 2, 1, 0, 0, 0) := by decide +kernel
theorem s124_302 {st : List Value} {M : pj_Mem} {l : pj_Loc} {a0 a1 : Option Value} {x : Nat} : pj_step 124 (302, a0 :: a1 :: some (.ref x) :: l, st, M) = some (303, a0 :: a1 :: some (.ref x) :: l, .ref x :: st, M) := st_aload_n q124_302 rfl
theorem x124_302 {st : List Value} {M : pj_Mem} {l : pj_Loc} {a0 a1 : Option Value} {x : Nat} {o9 : Option Value × pj_Mem} : pj_Ends 124 (302, a0 :: a1 :: some (.ref x) :: l, st, M) o9 = pj_Ends 124 (303, a0 :: a1 :: some (.ref x) :: l, .ref x :: st, M) o9 := pj_xs (s124_302)
theorem q124_303 : pj_row 124 303 = some (.invokevirtual 37, 3, 104, 1, 0) := by decide +kernel
theorem e124_303 {L : pj_Loc} {st : List Value} {N S : Nat} {H : pj_Heap} {o : Option Value × pj_Mem} {M' : pj_Mem} {x0 : Nat} {r : Int32} (h4 : pj_le4 st = true) (hu : pj_isU 6 (H x0) = true) (h1 : pj_Ends 104 (0, [some (.ref x0), none, none], [], (N, S, H)) (some (.int r), M')) (h2 : pj_Ends 124 (306, L, .int r :: st, M') o) : pj_Ends 124 (303, L, .ref x0 :: st, (N, S, H)) o := ec_v1 q124_303 (Or.inl rfl) h4 hu rfl h1 h2
theorem q124_306 : pj_row 124 306 = some (.if_icmp .eq 439, 3, 745, 0, 0) := by decide +kernel
theorem s124_306 {L : pj_Loc} {st : List Value} {M : pj_Mem} {x y : Int32} : pj_step 124 (306, L, .int y :: .int x :: st, M) = some (if x = y then 745 else 309, L, st, M) := st_icmp_eq q124_306
theorem x124_306 {L : pj_Loc} {st : List Value} {M : pj_Mem} {x y : Int32} {o9 : Option Value × pj_Mem} : pj_Ends 124 (306, L, .int y :: .int x :: st, M) o9 = pj_Ends 124 (if x = y then 745 else 309, L, st, M) o9 := pj_xs (s124_306)
theorem q124_309 : pj_row 124 309 = some (.iconst 0, 1, 0, 0, 0) := by decide +kernel
theorem s124_309 {L : pj_Loc} {st : List Value} {M : pj_Mem}  : pj_step 124 (309, L, st, M) = some (310, L, .int 0 :: st, M) := st_iconst q124_309 (by decide +kernel)
theorem x124_309 {L : pj_Loc} {st : List Value} {M : pj_Mem}  {o9 : Option Value × pj_Mem} : pj_Ends 124 (309, L, st, M) o9 = pj_Ends 124 (310, L, .int 0 :: st, M) o9 := pj_xs (s124_309)
theorem q124_310 : pj_row 124 310 = some (.ireturn, 1, 0, 0, 0) := by decide +kernel
theorem t124_310 {L : pj_Loc} {M : pj_Mem} {v : Int32} (hv : v = 0 ∨ v = 1) : pj_Ends 124 (310, L, [.int v], M) (some (.int v), M) := pj_Ends.ret q124_310 (pj_rtn_z rt124 hv)
theorem q124_311 : pj_row 124 311 = some (.aload_n 1, 1, 0, 0, 0) := by decide +kernel
theorem s124_311 {st : List Value} {M : pj_Mem} {l : pj_Loc} {a0 : Option Value} {x : Nat} : pj_step 124 (311, a0 :: some (.ref x) :: l, st, M) = some (312, a0 :: some (.ref x) :: l, .ref x :: st, M) := st_aload_n q124_311 rfl
theorem x124_311 {st : List Value} {M : pj_Mem} {l : pj_Loc} {a0 : Option Value} {x : Nat} {o9 : Option Value × pj_Mem} : pj_Ends 124 (311, a0 :: some (.ref x) :: l, st, M) o9 = pj_Ends 124 (312, a0 :: some (.ref x) :: l, .ref x :: st, M) o9 := pj_xs (s124_311)
theorem q124_312 : pj_row 124 312 = some (.aload_n 0, 1, 0, 0, 0) := by decide +kernel
theorem s124_312 {st : List Value} {M : pj_Mem} {l : pj_Loc} {x : Nat} : pj_step 124 (312, some (.ref x) :: l, st, M) = some (313, some (.ref x) :: l, .ref x :: st, M) := st_aload_n q124_312 rfl
theorem x124_312 {st : List Value} {M : pj_Mem} {l : pj_Loc} {x : Nat} {o9 : Option Value × pj_Mem} : pj_Ends 124 (312, some (.ref x) :: l, st, M) o9 = pj_Ends 124 (313, some (.ref x) :: l, .ref x :: st, M) o9 := pj_xs (s124_312)
theorem q124_313 : pj_row 124 313 = some (.iload_n 3, 1, 0, 0, 0) := by decide +kernel
theorem s124_313 {st : List Value} {M : pj_Mem} {l : pj_Loc} {a0 a1 a2 : Option Value} {x : Int32} : pj_step 124 (313, a0 :: a1 :: a2 :: some (.int x) :: l, st, M) = some (314, a0 :: a1 :: a2 :: some (.int x) :: l, .int x :: st, M) := st_iload_n q124_313 rfl
theorem x124_313 {st : List Value} {M : pj_Mem} {l : pj_Loc} {a0 a1 a2 : Option Value} {x : Int32} {o9 : Option Value × pj_Mem} : pj_Ends 124 (313, a0 :: a1 :: a2 :: some (.int x) :: l, st, M) o9 = pj_Ends 124 (314, a0 :: a1 :: a2 :: some (.int x) :: l, .int x :: st, M) o9 := pj_xs (s124_313)
theorem q124_314 : pj_row 124 314 = some (.iconst 1, 1, 0, 0, 0) := by decide +kernel
theorem s124_314 {L : pj_Loc} {st : List Value} {M : pj_Mem}  : pj_step 124 (314, L, st, M) = some (315, L, .int 1 :: st, M) := st_iconst q124_314 (by decide +kernel)
theorem x124_314 {L : pj_Loc} {st : List Value} {M : pj_Mem}  {o9 : Option Value × pj_Mem} : pj_Ends 124 (314, L, st, M) o9 = pj_Ends 124 (315, L, .int 1 :: st, M) o9 := pj_xs (s124_314)
theorem q124_315 : pj_row 124 315 = some (.iadd, 1, 0, 0, 0) := by decide +kernel
theorem s124_315 {L : pj_Loc} {st : List Value} {M : pj_Mem} {x y : Int32} : pj_step 124 (315, L, .int y :: .int x :: st, M) = some (316, L, .int (x + y) :: st, M) := st_iadd q124_315
theorem x124_315 {L : pj_Loc} {st : List Value} {M : pj_Mem} {x y : Int32} {o9 : Option Value × pj_Mem} : pj_Ends 124 (315, L, .int y :: .int x :: st, M) o9 = pj_Ends 124 (316, L, .int (x + y) :: st, M) o9 := pj_xs (s124_315)
theorem q124_316 : pj_row 124 316 = some (.iaload, 1, 0, 0, 0) := by decide +kernel
theorem s124_316 {L : pj_Loc} {st : List Value} {N S : Nat} {H : pj_Heap} {o : Nat} {i : Int32} : pj_step 124 (316, L, .int i :: .ref o :: st, (N, S, H)) = pj_pi 317 L st (N, S, H) (pj_arl (H o) 0 i) := st_iaload q124_316
theorem x124_316 {L : pj_Loc} {st : List Value} {N S : Nat} {H : pj_Heap} {o : Nat} {i : Int32} {o9 : Option Value × pj_Mem} : pj_Ends 124 (316, L, .int i :: .ref o :: st, (N, S, H)) o9 = pj_then 124 o9 (pj_pi 317 L st (N, S, H) (pj_arl (H o) 0 i)) := pj_xt q124_316 rfl (pj_cl_nc rfl) (s124_316)
theorem q124_317 : pj_row 124 317 = some (.aload_n 0, 1, 0, 0, 0) := by decide +kernel
theorem s124_317 {st : List Value} {M : pj_Mem} {l : pj_Loc} {x : Nat} : pj_step 124 (317, some (.ref x) :: l, st, M) = some (318, some (.ref x) :: l, .ref x :: st, M) := st_aload_n q124_317 rfl
theorem x124_317 {st : List Value} {M : pj_Mem} {l : pj_Loc} {x : Nat} {o9 : Option Value × pj_Mem} : pj_Ends 124 (317, some (.ref x) :: l, st, M) o9 = pj_Ends 124 (318, some (.ref x) :: l, .ref x :: st, M) o9 := pj_xs (s124_317)
theorem q124_318 : pj_row 124 318 = some (.iload_n 3, 1, 0, 0, 0) := by decide +kernel
theorem s124_318 {st : List Value} {M : pj_Mem} {l : pj_Loc} {a0 a1 a2 : Option Value} {x : Int32} : pj_step 124 (318, a0 :: a1 :: a2 :: some (.int x) :: l, st, M) = some (319, a0 :: a1 :: a2 :: some (.int x) :: l, .int x :: st, M) := st_iload_n q124_318 rfl
theorem x124_318 {st : List Value} {M : pj_Mem} {l : pj_Loc} {a0 a1 a2 : Option Value} {x : Int32} {o9 : Option Value × pj_Mem} : pj_Ends 124 (318, a0 :: a1 :: a2 :: some (.int x) :: l, st, M) o9 = pj_Ends 124 (319, a0 :: a1 :: a2 :: some (.int x) :: l, .int x :: st, M) o9 := pj_xs (s124_318)
theorem q124_319 : pj_row 124 319 = some (.iconst 2, 1, 0, 0, 0) := by decide +kernel
theorem s124_319 {L : pj_Loc} {st : List Value} {M : pj_Mem}  : pj_step 124 (319, L, st, M) = some (320, L, .int 2 :: st, M) := st_iconst q124_319 (by decide +kernel)
theorem x124_319 {L : pj_Loc} {st : List Value} {M : pj_Mem}  {o9 : Option Value × pj_Mem} : pj_Ends 124 (319, L, st, M) o9 = pj_Ends 124 (320, L, .int 2 :: st, M) o9 := pj_xs (s124_319)
theorem q124_320 : pj_row 124 320 = some (.iadd, 1, 0, 0, 0) := by decide +kernel
theorem s124_320 {L : pj_Loc} {st : List Value} {M : pj_Mem} {x y : Int32} : pj_step 124 (320, L, .int y :: .int x :: st, M) = some (321, L, .int (x + y) :: st, M) := st_iadd q124_320
theorem x124_320 {L : pj_Loc} {st : List Value} {M : pj_Mem} {x y : Int32} {o9 : Option Value × pj_Mem} : pj_Ends 124 (320, L, .int y :: .int x :: st, M) o9 = pj_Ends 124 (321, L, .int (x + y) :: st, M) o9 := pj_xs (s124_320)
theorem q124_321 : pj_row 124 321 = some (.iaload, 1, 0, 0, 0) := by decide +kernel
theorem s124_321 {L : pj_Loc} {st : List Value} {N S : Nat} {H : pj_Heap} {o : Nat} {i : Int32} : pj_step 124 (321, L, .int i :: .ref o :: st, (N, S, H)) = pj_pi 322 L st (N, S, H) (pj_arl (H o) 0 i) := st_iaload q124_321
theorem x124_321 {L : pj_Loc} {st : List Value} {N S : Nat} {H : pj_Heap} {o : Nat} {i : Int32} {o9 : Option Value × pj_Mem} : pj_Ends 124 (321, L, .int i :: .ref o :: st, (N, S, H)) o9 = pj_then 124 o9 (pj_pi 322 L st (N, S, H) (pj_arl (H o) 0 i)) := pj_xt q124_321 rfl (pj_cl_nc rfl) (s124_321)
theorem q124_322 : pj_row 124 322 = some (.invokevirtual 38, 3, 44, 3, 0) := by decide +kernel
theorem e124_322 {L : pj_Loc} {st : List Value} {N S : Nat} {H : pj_Heap} {o : Option Value × pj_Mem} {M' : pj_Mem} {x0 : Nat} {x1 : Int32} {x2 : Int32} {r : Int32} (h4 : pj_le4 st = true) (hu : pj_isU 5 (H x0) = true) (h1 : pj_Ends 44 (0, [some (.ref x0), some (.int x1), some (.int x2)], [], (N, S, H)) (some (.int r), M')) (h2 : pj_Ends 124 (325, L, .int r :: st, M') o) : pj_Ends 124 (322, L, .int x2 :: .int x1 :: .ref x0 :: st, (N, S, H)) o := ec_v3 q124_322 (Or.inl rfl) h4 hu rfl h1 h2
theorem q124_325 : pj_row 124 325 = some (.aload_n 2, 1, 0, 0, 0) := by decide +kernel
theorem s124_325 {st : List Value} {M : pj_Mem} {l : pj_Loc} {a0 a1 : Option Value} {x : Nat} : pj_step 124 (325, a0 :: a1 :: some (.ref x) :: l, st, M) = some (326, a0 :: a1 :: some (.ref x) :: l, .ref x :: st, M) := st_aload_n q124_325 rfl
theorem x124_325 {st : List Value} {M : pj_Mem} {l : pj_Loc} {a0 a1 : Option Value} {x : Nat} {o9 : Option Value × pj_Mem} : pj_Ends 124 (325, a0 :: a1 :: some (.ref x) :: l, st, M) o9 = pj_Ends 124 (326, a0 :: a1 :: some (.ref x) :: l, .ref x :: st, M) o9 := pj_xs (s124_325)
theorem q124_326 : pj_row 124 326 = some (.aload_n 0, 1, 0, 0, 0) := by decide +kernel
theorem s124_326 {st : List Value} {M : pj_Mem} {l : pj_Loc} {x : Nat} : pj_step 124 (326, some (.ref x) :: l, st, M) = some (327, some (.ref x) :: l, .ref x :: st, M) := st_aload_n q124_326 rfl
theorem x124_326 {st : List Value} {M : pj_Mem} {l : pj_Loc} {x : Nat} {o9 : Option Value × pj_Mem} : pj_Ends 124 (326, some (.ref x) :: l, st, M) o9 = pj_Ends 124 (327, some (.ref x) :: l, .ref x :: st, M) o9 := pj_xs (s124_326)
theorem q124_327 : pj_row 124 327 = some (.iload_n 3, 1, 0, 0, 0) := by decide +kernel
theorem s124_327 {st : List Value} {M : pj_Mem} {l : pj_Loc} {a0 a1 a2 : Option Value} {x : Int32} : pj_step 124 (327, a0 :: a1 :: a2 :: some (.int x) :: l, st, M) = some (328, a0 :: a1 :: a2 :: some (.int x) :: l, .int x :: st, M) := st_iload_n q124_327 rfl
theorem x124_327 {st : List Value} {M : pj_Mem} {l : pj_Loc} {a0 a1 a2 : Option Value} {x : Int32} {o9 : Option Value × pj_Mem} : pj_Ends 124 (327, a0 :: a1 :: a2 :: some (.int x) :: l, st, M) o9 = pj_Ends 124 (328, a0 :: a1 :: a2 :: some (.int x) :: l, .int x :: st, M) o9 := pj_xs (s124_327)
theorem q124_328 : pj_row 124 328 = some (.iconst 1, 1, 0, 0, 0) := by decide +kernel
theorem s124_328 {L : pj_Loc} {st : List Value} {M : pj_Mem}  : pj_step 124 (328, L, st, M) = some (329, L, .int 1 :: st, M) := st_iconst q124_328 (by decide +kernel)
theorem x124_328 {L : pj_Loc} {st : List Value} {M : pj_Mem}  {o9 : Option Value × pj_Mem} : pj_Ends 124 (328, L, st, M) o9 = pj_Ends 124 (329, L, .int 1 :: st, M) o9 := pj_xs (s124_328)
theorem q124_329 : pj_row 124 329 = some (.iadd, 1, 0, 0, 0) := by decide +kernel
theorem s124_329 {L : pj_Loc} {st : List Value} {M : pj_Mem} {x y : Int32} : pj_step 124 (329, L, .int y :: .int x :: st, M) = some (330, L, .int (x + y) :: st, M) := st_iadd q124_329
theorem x124_329 {L : pj_Loc} {st : List Value} {M : pj_Mem} {x y : Int32} {o9 : Option Value × pj_Mem} : pj_Ends 124 (329, L, .int y :: .int x :: st, M) o9 = pj_Ends 124 (330, L, .int (x + y) :: st, M) o9 := pj_xs (s124_329)
theorem q124_330 : pj_row 124 330 = some (.iaload, 1, 0, 0, 0) := by decide +kernel
theorem s124_330 {L : pj_Loc} {st : List Value} {N S : Nat} {H : pj_Heap} {o : Nat} {i : Int32} : pj_step 124 (330, L, .int i :: .ref o :: st, (N, S, H)) = pj_pi 331 L st (N, S, H) (pj_arl (H o) 0 i) := st_iaload q124_330
theorem x124_330 {L : pj_Loc} {st : List Value} {N S : Nat} {H : pj_Heap} {o : Nat} {i : Int32} {o9 : Option Value × pj_Mem} : pj_Ends 124 (330, L, .int i :: .ref o :: st, (N, S, H)) o9 = pj_then 124 o9 (pj_pi 331 L st (N, S, H) (pj_arl (H o) 0 i)) := pj_xt q124_330 rfl (pj_cl_nc rfl) (s124_330)
theorem q124_331 : pj_row 124 331 = some (.aload_n 0, 1, 0, 0, 0) := by decide +kernel
theorem s124_331 {st : List Value} {M : pj_Mem} {l : pj_Loc} {x : Nat} : pj_step 124 (331, some (.ref x) :: l, st, M) = some (332, some (.ref x) :: l, .ref x :: st, M) := st_aload_n q124_331 rfl
theorem x124_331 {st : List Value} {M : pj_Mem} {l : pj_Loc} {x : Nat} {o9 : Option Value × pj_Mem} : pj_Ends 124 (331, some (.ref x) :: l, st, M) o9 = pj_Ends 124 (332, some (.ref x) :: l, .ref x :: st, M) o9 := pj_xs (s124_331)
theorem q124_332 : pj_row 124 332 = some (.iload_n 3, 1, 0, 0, 0) := by decide +kernel
theorem s124_332 {st : List Value} {M : pj_Mem} {l : pj_Loc} {a0 a1 a2 : Option Value} {x : Int32} : pj_step 124 (332, a0 :: a1 :: a2 :: some (.int x) :: l, st, M) = some (333, a0 :: a1 :: a2 :: some (.int x) :: l, .int x :: st, M) := st_iload_n q124_332 rfl
theorem x124_332 {st : List Value} {M : pj_Mem} {l : pj_Loc} {a0 a1 a2 : Option Value} {x : Int32} {o9 : Option Value × pj_Mem} : pj_Ends 124 (332, a0 :: a1 :: a2 :: some (.int x) :: l, st, M) o9 = pj_Ends 124 (333, a0 :: a1 :: a2 :: some (.int x) :: l, .int x :: st, M) o9 := pj_xs (s124_332)
theorem q124_333 : pj_row 124 333 = some (.iconst 2, 1, 0, 0, 0) := by decide +kernel
theorem s124_333 {L : pj_Loc} {st : List Value} {M : pj_Mem}  : pj_step 124 (333, L, st, M) = some (334, L, .int 2 :: st, M) := st_iconst q124_333 (by decide +kernel)
theorem x124_333 {L : pj_Loc} {st : List Value} {M : pj_Mem}  {o9 : Option Value × pj_Mem} : pj_Ends 124 (333, L, st, M) o9 = pj_Ends 124 (334, L, .int 2 :: st, M) o9 := pj_xs (s124_333)
theorem q124_334 : pj_row 124 334 = some (.iadd, 1, 0, 0, 0) := by decide +kernel
theorem s124_334 {L : pj_Loc} {st : List Value} {M : pj_Mem} {x y : Int32} : pj_step 124 (334, L, .int y :: .int x :: st, M) = some (335, L, .int (x + y) :: st, M) := st_iadd q124_334
theorem x124_334 {L : pj_Loc} {st : List Value} {M : pj_Mem} {x y : Int32} {o9 : Option Value × pj_Mem} : pj_Ends 124 (334, L, .int y :: .int x :: st, M) o9 = pj_Ends 124 (335, L, .int (x + y) :: st, M) o9 := pj_xs (s124_334)
theorem q124_335 : pj_row 124 335 = some (.iaload, 1, 0, 0, 0) := by decide +kernel
theorem s124_335 {L : pj_Loc} {st : List Value} {N S : Nat} {H : pj_Heap} {o : Nat} {i : Int32} : pj_step 124 (335, L, .int i :: .ref o :: st, (N, S, H)) = pj_pi 336 L st (N, S, H) (pj_arl (H o) 0 i) := st_iaload q124_335
theorem x124_335 {L : pj_Loc} {st : List Value} {N S : Nat} {H : pj_Heap} {o : Nat} {i : Int32} {o9 : Option Value × pj_Mem} : pj_Ends 124 (335, L, .int i :: .ref o :: st, (N, S, H)) o9 = pj_then 124 o9 (pj_pi 336 L st (N, S, H) (pj_arl (H o) 0 i)) := pj_xt q124_335 rfl (pj_cl_nc rfl) (s124_335)
theorem q124_336 : pj_row 124 336 = some (.invokevirtual 41, 3, 105, 3, 0) := by decide +kernel
theorem e124_336 {L : pj_Loc} {st : List Value} {N S : Nat} {H : pj_Heap} {o : Option Value × pj_Mem} {M' : pj_Mem} {x0 : Nat} {x1 : Int32} {x2 : Int32} {r : Int32} (h4 : pj_le4 st = true) (hu : pj_isU 6 (H x0) = true) (h1 : pj_Ends 105 (0, [some (.ref x0), some (.int x1), some (.int x2)], [], (N, S, H)) (some (.int r), M')) (h2 : pj_Ends 124 (339, L, .int r :: st, M') o) : pj_Ends 124 (336, L, .int x2 :: .int x1 :: .ref x0 :: st, (N, S, H)) o := ec_v3 q124_336 (Or.inl rfl) h4 hu rfl h1 h2
theorem q124_339 : pj_row 124 339 = some (.if_icmp .eq 406, 3, 745, 0, 0) := by decide +kernel
theorem s124_339 {L : pj_Loc} {st : List Value} {M : pj_Mem} {x y : Int32} : pj_step 124 (339, L, .int y :: .int x :: st, M) = some (if x = y then 745 else 342, L, st, M) := st_icmp_eq q124_339
theorem x124_339 {L : pj_Loc} {st : List Value} {M : pj_Mem} {x y : Int32} {o9 : Option Value × pj_Mem} : pj_Ends 124 (339, L, .int y :: .int x :: st, M) o9 = pj_Ends 124 (if x = y then 745 else 342, L, st, M) o9 := pj_xs (s124_339)
theorem q124_342 : pj_row 124 342 = some (.iconst 0, 1, 0, 0, 0) := by decide +kernel
theorem s124_342 {L : pj_Loc} {st : List Value} {M : pj_Mem}  : pj_step 124 (342, L, st, M) = some (343, L, .int 0 :: st, M) := st_iconst q124_342 (by decide +kernel)
theorem x124_342 {L : pj_Loc} {st : List Value} {M : pj_Mem}  {o9 : Option Value × pj_Mem} : pj_Ends 124 (342, L, st, M) o9 = pj_Ends 124 (343, L, .int 0 :: st, M) o9 := pj_xs (s124_342)
theorem q124_343 : pj_row 124 343 = some (.ireturn, 1, 0, 0, 0) := by decide +kernel
theorem t124_343 {L : pj_Loc} {M : pj_Mem} {v : Int32} (hv : v = 0 ∨ v = 1) : pj_Ends 124 (343, L, [.int v], M) (some (.int v), M) := pj_Ends.ret q124_343 (pj_rtn_z rt124 hv)
theorem q124_344 : pj_row 124 344 = some (.aload_n 1, 1, 0, 0, 0) := by decide +kernel
theorem s124_344 {st : List Value} {M : pj_Mem} {l : pj_Loc} {a0 : Option Value} {x : Nat} : pj_step 124 (344, a0 :: some (.ref x) :: l, st, M) = some (345, a0 :: some (.ref x) :: l, .ref x :: st, M) := st_aload_n q124_344 rfl
theorem x124_344 {st : List Value} {M : pj_Mem} {l : pj_Loc} {a0 : Option Value} {x : Nat} {o9 : Option Value × pj_Mem} : pj_Ends 124 (344, a0 :: some (.ref x) :: l, st, M) o9 = pj_Ends 124 (345, a0 :: some (.ref x) :: l, .ref x :: st, M) o9 := pj_xs (s124_344)
theorem q124_345 : pj_row 124 345 = some (.aload_n 0, 1, 0, 0, 0) := by decide +kernel
theorem s124_345 {st : List Value} {M : pj_Mem} {l : pj_Loc} {x : Nat} : pj_step 124 (345, some (.ref x) :: l, st, M) = some (346, some (.ref x) :: l, .ref x :: st, M) := st_aload_n q124_345 rfl
theorem x124_345 {st : List Value} {M : pj_Mem} {l : pj_Loc} {x : Nat} {o9 : Option Value × pj_Mem} : pj_Ends 124 (345, some (.ref x) :: l, st, M) o9 = pj_Ends 124 (346, some (.ref x) :: l, .ref x :: st, M) o9 := pj_xs (s124_345)
theorem q124_346 : pj_row 124 346 = some (.iload_n 3, 1, 0, 0, 0) := by decide +kernel
theorem s124_346 {st : List Value} {M : pj_Mem} {l : pj_Loc} {a0 a1 a2 : Option Value} {x : Int32} : pj_step 124 (346, a0 :: a1 :: a2 :: some (.int x) :: l, st, M) = some (347, a0 :: a1 :: a2 :: some (.int x) :: l, .int x :: st, M) := st_iload_n q124_346 rfl
theorem x124_346 {st : List Value} {M : pj_Mem} {l : pj_Loc} {a0 a1 a2 : Option Value} {x : Int32} {o9 : Option Value × pj_Mem} : pj_Ends 124 (346, a0 :: a1 :: a2 :: some (.int x) :: l, st, M) o9 = pj_Ends 124 (347, a0 :: a1 :: a2 :: some (.int x) :: l, .int x :: st, M) o9 := pj_xs (s124_346)
theorem q124_347 : pj_row 124 347 = some (.iconst 1, 1, 0, 0, 0) := by decide +kernel
theorem s124_347 {L : pj_Loc} {st : List Value} {M : pj_Mem}  : pj_step 124 (347, L, st, M) = some (348, L, .int 1 :: st, M) := st_iconst q124_347 (by decide +kernel)
theorem x124_347 {L : pj_Loc} {st : List Value} {M : pj_Mem}  {o9 : Option Value × pj_Mem} : pj_Ends 124 (347, L, st, M) o9 = pj_Ends 124 (348, L, .int 1 :: st, M) o9 := pj_xs (s124_347)
theorem q124_348 : pj_row 124 348 = some (.iadd, 1, 0, 0, 0) := by decide +kernel
theorem s124_348 {L : pj_Loc} {st : List Value} {M : pj_Mem} {x y : Int32} : pj_step 124 (348, L, .int y :: .int x :: st, M) = some (349, L, .int (x + y) :: st, M) := st_iadd q124_348
theorem x124_348 {L : pj_Loc} {st : List Value} {M : pj_Mem} {x y : Int32} {o9 : Option Value × pj_Mem} : pj_Ends 124 (348, L, .int y :: .int x :: st, M) o9 = pj_Ends 124 (349, L, .int (x + y) :: st, M) o9 := pj_xs (s124_348)
theorem q124_349 : pj_row 124 349 = some (.iaload, 1, 0, 0, 0) := by decide +kernel
theorem s124_349 {L : pj_Loc} {st : List Value} {N S : Nat} {H : pj_Heap} {o : Nat} {i : Int32} : pj_step 124 (349, L, .int i :: .ref o :: st, (N, S, H)) = pj_pi 350 L st (N, S, H) (pj_arl (H o) 0 i) := st_iaload q124_349
theorem x124_349 {L : pj_Loc} {st : List Value} {N S : Nat} {H : pj_Heap} {o : Nat} {i : Int32} {o9 : Option Value × pj_Mem} : pj_Ends 124 (349, L, .int i :: .ref o :: st, (N, S, H)) o9 = pj_then 124 o9 (pj_pi 350 L st (N, S, H) (pj_arl (H o) 0 i)) := pj_xt q124_349 rfl (pj_cl_nc rfl) (s124_349)
theorem q124_350 : pj_row 124 350 = some (.aload_n 0, 1, 0, 0, 0) := by decide +kernel
theorem s124_350 {st : List Value} {M : pj_Mem} {l : pj_Loc} {x : Nat} : pj_step 124 (350, some (.ref x) :: l, st, M) = some (351, some (.ref x) :: l, .ref x :: st, M) := st_aload_n q124_350 rfl
theorem x124_350 {st : List Value} {M : pj_Mem} {l : pj_Loc} {x : Nat} {o9 : Option Value × pj_Mem} : pj_Ends 124 (350, some (.ref x) :: l, st, M) o9 = pj_Ends 124 (351, some (.ref x) :: l, .ref x :: st, M) o9 := pj_xs (s124_350)
theorem q124_351 : pj_row 124 351 = some (.iload_n 3, 1, 0, 0, 0) := by decide +kernel
theorem s124_351 {st : List Value} {M : pj_Mem} {l : pj_Loc} {a0 a1 a2 : Option Value} {x : Int32} : pj_step 124 (351, a0 :: a1 :: a2 :: some (.int x) :: l, st, M) = some (352, a0 :: a1 :: a2 :: some (.int x) :: l, .int x :: st, M) := st_iload_n q124_351 rfl
theorem x124_351 {st : List Value} {M : pj_Mem} {l : pj_Loc} {a0 a1 a2 : Option Value} {x : Int32} {o9 : Option Value × pj_Mem} : pj_Ends 124 (351, a0 :: a1 :: a2 :: some (.int x) :: l, st, M) o9 = pj_Ends 124 (352, a0 :: a1 :: a2 :: some (.int x) :: l, .int x :: st, M) o9 := pj_xs (s124_351)
theorem q124_352 : pj_row 124 352 = some (.iconst 2, 1, 0, 0, 0) := by decide +kernel
theorem s124_352 {L : pj_Loc} {st : List Value} {M : pj_Mem}  : pj_step 124 (352, L, st, M) = some (353, L, .int 2 :: st, M) := st_iconst q124_352 (by decide +kernel)
theorem x124_352 {L : pj_Loc} {st : List Value} {M : pj_Mem}  {o9 : Option Value × pj_Mem} : pj_Ends 124 (352, L, st, M) o9 = pj_Ends 124 (353, L, .int 2 :: st, M) o9 := pj_xs (s124_352)
theorem q124_353 : pj_row 124 353 = some (.iadd, 1, 0, 0, 0) := by decide +kernel
theorem s124_353 {L : pj_Loc} {st : List Value} {M : pj_Mem} {x y : Int32} : pj_step 124 (353, L, .int y :: .int x :: st, M) = some (354, L, .int (x + y) :: st, M) := st_iadd q124_353
theorem x124_353 {L : pj_Loc} {st : List Value} {M : pj_Mem} {x y : Int32} {o9 : Option Value × pj_Mem} : pj_Ends 124 (353, L, .int y :: .int x :: st, M) o9 = pj_Ends 124 (354, L, .int (x + y) :: st, M) o9 := pj_xs (s124_353)
theorem q124_354 : pj_row 124 354 = some (.iaload, 1, 0, 0, 0) := by decide +kernel
theorem s124_354 {L : pj_Loc} {st : List Value} {N S : Nat} {H : pj_Heap} {o : Nat} {i : Int32} : pj_step 124 (354, L, .int i :: .ref o :: st, (N, S, H)) = pj_pi 355 L st (N, S, H) (pj_arl (H o) 0 i) := st_iaload q124_354
theorem x124_354 {L : pj_Loc} {st : List Value} {N S : Nat} {H : pj_Heap} {o : Nat} {i : Int32} {o9 : Option Value × pj_Mem} : pj_Ends 124 (354, L, .int i :: .ref o :: st, (N, S, H)) o9 = pj_then 124 o9 (pj_pi 355 L st (N, S, H) (pj_arl (H o) 0 i)) := pj_xt q124_354 rfl (pj_cl_nc rfl) (s124_354)
theorem q124_355 : pj_row 124 355 = some (.invokevirtual 42, 3, 45, 3, 0) := by decide +kernel
theorem e124_355 {L : pj_Loc} {st : List Value} {N S : Nat} {H : pj_Heap} {o : Option Value × pj_Mem} {M' : pj_Mem} {x0 : Nat} {x1 : Int32} {x2 : Int32} {r : Int32} (h4 : pj_le4 st = true) (hu : pj_isU 5 (H x0) = true) (h1 : pj_Ends 45 (0, [some (.ref x0), some (.int x1), some (.int x2)], [], (N, S, H)) (some (.int r), M')) (h2 : pj_Ends 124 (358, L, .int r :: st, M') o) : pj_Ends 124 (355, L, .int x2 :: .int x1 :: .ref x0 :: st, (N, S, H)) o := ec_v3 q124_355 (Or.inl rfl) h4 hu rfl h1 h2
theorem q124_358 : pj_row 124 358 = some (.aload_n 2, 1, 0, 0, 0) := by decide +kernel
theorem s124_358 {st : List Value} {M : pj_Mem} {l : pj_Loc} {a0 a1 : Option Value} {x : Nat} : pj_step 124 (358, a0 :: a1 :: some (.ref x) :: l, st, M) = some (359, a0 :: a1 :: some (.ref x) :: l, .ref x :: st, M) := st_aload_n q124_358 rfl
theorem x124_358 {st : List Value} {M : pj_Mem} {l : pj_Loc} {a0 a1 : Option Value} {x : Nat} {o9 : Option Value × pj_Mem} : pj_Ends 124 (358, a0 :: a1 :: some (.ref x) :: l, st, M) o9 = pj_Ends 124 (359, a0 :: a1 :: some (.ref x) :: l, .ref x :: st, M) o9 := pj_xs (s124_358)
theorem q124_359 : pj_row 124 359 = some (.aload_n 0, 1, 0, 0, 0) := by decide +kernel
theorem s124_359 {st : List Value} {M : pj_Mem} {l : pj_Loc} {x : Nat} : pj_step 124 (359, some (.ref x) :: l, st, M) = some (360, some (.ref x) :: l, .ref x :: st, M) := st_aload_n q124_359 rfl
theorem x124_359 {st : List Value} {M : pj_Mem} {l : pj_Loc} {x : Nat} {o9 : Option Value × pj_Mem} : pj_Ends 124 (359, some (.ref x) :: l, st, M) o9 = pj_Ends 124 (360, some (.ref x) :: l, .ref x :: st, M) o9 := pj_xs (s124_359)
theorem q124_360 : pj_row 124 360 = some (.iload_n 3, 1, 0, 0, 0) := by decide +kernel
theorem s124_360 {st : List Value} {M : pj_Mem} {l : pj_Loc} {a0 a1 a2 : Option Value} {x : Int32} : pj_step 124 (360, a0 :: a1 :: a2 :: some (.int x) :: l, st, M) = some (361, a0 :: a1 :: a2 :: some (.int x) :: l, .int x :: st, M) := st_iload_n q124_360 rfl
theorem x124_360 {st : List Value} {M : pj_Mem} {l : pj_Loc} {a0 a1 a2 : Option Value} {x : Int32} {o9 : Option Value × pj_Mem} : pj_Ends 124 (360, a0 :: a1 :: a2 :: some (.int x) :: l, st, M) o9 = pj_Ends 124 (361, a0 :: a1 :: a2 :: some (.int x) :: l, .int x :: st, M) o9 := pj_xs (s124_360)
theorem q124_361 : pj_row 124 361 = some (.iconst 1, 1, 0, 0, 0) := by decide +kernel
theorem s124_361 {L : pj_Loc} {st : List Value} {M : pj_Mem}  : pj_step 124 (361, L, st, M) = some (362, L, .int 1 :: st, M) := st_iconst q124_361 (by decide +kernel)
theorem x124_361 {L : pj_Loc} {st : List Value} {M : pj_Mem}  {o9 : Option Value × pj_Mem} : pj_Ends 124 (361, L, st, M) o9 = pj_Ends 124 (362, L, .int 1 :: st, M) o9 := pj_xs (s124_361)
theorem q124_362 : pj_row 124 362 = some (.iadd, 1, 0, 0, 0) := by decide +kernel
theorem s124_362 {L : pj_Loc} {st : List Value} {M : pj_Mem} {x y : Int32} : pj_step 124 (362, L, .int y :: .int x :: st, M) = some (363, L, .int (x + y) :: st, M) := st_iadd q124_362
theorem x124_362 {L : pj_Loc} {st : List Value} {M : pj_Mem} {x y : Int32} {o9 : Option Value × pj_Mem} : pj_Ends 124 (362, L, .int y :: .int x :: st, M) o9 = pj_Ends 124 (363, L, .int (x + y) :: st, M) o9 := pj_xs (s124_362)
theorem q124_363 : pj_row 124 363 = some (.iaload, 1, 0, 0, 0) := by decide +kernel
theorem s124_363 {L : pj_Loc} {st : List Value} {N S : Nat} {H : pj_Heap} {o : Nat} {i : Int32} : pj_step 124 (363, L, .int i :: .ref o :: st, (N, S, H)) = pj_pi 364 L st (N, S, H) (pj_arl (H o) 0 i) := st_iaload q124_363
theorem x124_363 {L : pj_Loc} {st : List Value} {N S : Nat} {H : pj_Heap} {o : Nat} {i : Int32} {o9 : Option Value × pj_Mem} : pj_Ends 124 (363, L, .int i :: .ref o :: st, (N, S, H)) o9 = pj_then 124 o9 (pj_pi 364 L st (N, S, H) (pj_arl (H o) 0 i)) := pj_xt q124_363 rfl (pj_cl_nc rfl) (s124_363)
theorem q124_364 : pj_row 124 364 = some (.aload_n 0, 1, 0, 0, 0) := by decide +kernel
theorem s124_364 {st : List Value} {M : pj_Mem} {l : pj_Loc} {x : Nat} : pj_step 124 (364, some (.ref x) :: l, st, M) = some (365, some (.ref x) :: l, .ref x :: st, M) := st_aload_n q124_364 rfl
theorem x124_364 {st : List Value} {M : pj_Mem} {l : pj_Loc} {x : Nat} {o9 : Option Value × pj_Mem} : pj_Ends 124 (364, some (.ref x) :: l, st, M) o9 = pj_Ends 124 (365, some (.ref x) :: l, .ref x :: st, M) o9 := pj_xs (s124_364)
theorem q124_365 : pj_row 124 365 = some (.iload_n 3, 1, 0, 0, 0) := by decide +kernel
theorem s124_365 {st : List Value} {M : pj_Mem} {l : pj_Loc} {a0 a1 a2 : Option Value} {x : Int32} : pj_step 124 (365, a0 :: a1 :: a2 :: some (.int x) :: l, st, M) = some (366, a0 :: a1 :: a2 :: some (.int x) :: l, .int x :: st, M) := st_iload_n q124_365 rfl
theorem x124_365 {st : List Value} {M : pj_Mem} {l : pj_Loc} {a0 a1 a2 : Option Value} {x : Int32} {o9 : Option Value × pj_Mem} : pj_Ends 124 (365, a0 :: a1 :: a2 :: some (.int x) :: l, st, M) o9 = pj_Ends 124 (366, a0 :: a1 :: a2 :: some (.int x) :: l, .int x :: st, M) o9 := pj_xs (s124_365)
theorem q124_366 : pj_row 124 366 = some (.iconst 2, 1, 0, 0, 0) := by decide +kernel
theorem s124_366 {L : pj_Loc} {st : List Value} {M : pj_Mem}  : pj_step 124 (366, L, st, M) = some (367, L, .int 2 :: st, M) := st_iconst q124_366 (by decide +kernel)
theorem x124_366 {L : pj_Loc} {st : List Value} {M : pj_Mem}  {o9 : Option Value × pj_Mem} : pj_Ends 124 (366, L, st, M) o9 = pj_Ends 124 (367, L, .int 2 :: st, M) o9 := pj_xs (s124_366)
theorem q124_367 : pj_row 124 367 = some (.iadd, 1, 0, 0, 0) := by decide +kernel
theorem s124_367 {L : pj_Loc} {st : List Value} {M : pj_Mem} {x y : Int32} : pj_step 124 (367, L, .int y :: .int x :: st, M) = some (368, L, .int (x + y) :: st, M) := st_iadd q124_367
theorem x124_367 {L : pj_Loc} {st : List Value} {M : pj_Mem} {x y : Int32} {o9 : Option Value × pj_Mem} : pj_Ends 124 (367, L, .int y :: .int x :: st, M) o9 = pj_Ends 124 (368, L, .int (x + y) :: st, M) o9 := pj_xs (s124_367)
theorem q124_368 : pj_row 124 368 = some (.iaload, 1, 0, 0, 0) := by decide +kernel
theorem s124_368 {L : pj_Loc} {st : List Value} {N S : Nat} {H : pj_Heap} {o : Nat} {i : Int32} : pj_step 124 (368, L, .int i :: .ref o :: st, (N, S, H)) = pj_pi 369 L st (N, S, H) (pj_arl (H o) 0 i) := st_iaload q124_368
theorem x124_368 {L : pj_Loc} {st : List Value} {N S : Nat} {H : pj_Heap} {o : Nat} {i : Int32} {o9 : Option Value × pj_Mem} : pj_Ends 124 (368, L, .int i :: .ref o :: st, (N, S, H)) o9 = pj_then 124 o9 (pj_pi 369 L st (N, S, H) (pj_arl (H o) 0 i)) := pj_xt q124_368 rfl (pj_cl_nc rfl) (s124_368)
theorem q124_369 : pj_row 124 369 = some (.invokevirtual 45, 3, 106, 3, 0) := by decide +kernel
theorem e124_369 {L : pj_Loc} {st : List Value} {N S : Nat} {H : pj_Heap} {o : Option Value × pj_Mem} {M' : pj_Mem} {x0 : Nat} {x1 : Int32} {x2 : Int32} {r : Int32} (h4 : pj_le4 st = true) (hu : pj_isU 6 (H x0) = true) (h1 : pj_Ends 106 (0, [some (.ref x0), some (.int x1), some (.int x2)], [], (N, S, H)) (some (.int r), M')) (h2 : pj_Ends 124 (372, L, .int r :: st, M') o) : pj_Ends 124 (369, L, .int x2 :: .int x1 :: .ref x0 :: st, (N, S, H)) o := ec_v3 q124_369 (Or.inl rfl) h4 hu rfl h1 h2
theorem q124_372 : pj_row 124 372 = some (.if_icmp .eq 373, 3, 745, 0, 0) := by decide +kernel
theorem s124_372 {L : pj_Loc} {st : List Value} {M : pj_Mem} {x y : Int32} : pj_step 124 (372, L, .int y :: .int x :: st, M) = some (if x = y then 745 else 375, L, st, M) := st_icmp_eq q124_372
theorem x124_372 {L : pj_Loc} {st : List Value} {M : pj_Mem} {x y : Int32} {o9 : Option Value × pj_Mem} : pj_Ends 124 (372, L, .int y :: .int x :: st, M) o9 = pj_Ends 124 (if x = y then 745 else 375, L, st, M) o9 := pj_xs (s124_372)
theorem q124_375 : pj_row 124 375 = some (.iconst 0, 1, 0, 0, 0) := by decide +kernel
theorem s124_375 {L : pj_Loc} {st : List Value} {M : pj_Mem}  : pj_step 124 (375, L, st, M) = some (376, L, .int 0 :: st, M) := st_iconst q124_375 (by decide +kernel)
theorem x124_375 {L : pj_Loc} {st : List Value} {M : pj_Mem}  {o9 : Option Value × pj_Mem} : pj_Ends 124 (375, L, st, M) o9 = pj_Ends 124 (376, L, .int 0 :: st, M) o9 := pj_xs (s124_375)
theorem q124_376 : pj_row 124 376 = some (.ireturn, 1, 0, 0, 0) := by decide +kernel
theorem t124_376 {L : pj_Loc} {M : pj_Mem} {v : Int32} (hv : v = 0 ∨ v = 1) : pj_Ends 124 (376, L, [.int v], M) (some (.int v), M) := pj_Ends.ret q124_376 (pj_rtn_z rt124 hv)
theorem q124_377 : pj_row 124 377 = some (.aload_n 1, 1, 0, 0, 0) := by decide +kernel
theorem s124_377 {st : List Value} {M : pj_Mem} {l : pj_Loc} {a0 : Option Value} {x : Nat} : pj_step 124 (377, a0 :: some (.ref x) :: l, st, M) = some (378, a0 :: some (.ref x) :: l, .ref x :: st, M) := st_aload_n q124_377 rfl
theorem x124_377 {st : List Value} {M : pj_Mem} {l : pj_Loc} {a0 : Option Value} {x : Nat} {o9 : Option Value × pj_Mem} : pj_Ends 124 (377, a0 :: some (.ref x) :: l, st, M) o9 = pj_Ends 124 (378, a0 :: some (.ref x) :: l, .ref x :: st, M) o9 := pj_xs (s124_377)
theorem q124_378 : pj_row 124 378 = some (.aload_n 0, 1, 0, 0, 0) := by decide +kernel
theorem s124_378 {st : List Value} {M : pj_Mem} {l : pj_Loc} {x : Nat} : pj_step 124 (378, some (.ref x) :: l, st, M) = some (379, some (.ref x) :: l, .ref x :: st, M) := st_aload_n q124_378 rfl
theorem x124_378 {st : List Value} {M : pj_Mem} {l : pj_Loc} {x : Nat} {o9 : Option Value × pj_Mem} : pj_Ends 124 (378, some (.ref x) :: l, st, M) o9 = pj_Ends 124 (379, some (.ref x) :: l, .ref x :: st, M) o9 := pj_xs (s124_378)
theorem q124_379 : pj_row 124 379 = some (.iload_n 3, 1, 0, 0, 0) := by decide +kernel
theorem s124_379 {st : List Value} {M : pj_Mem} {l : pj_Loc} {a0 a1 a2 : Option Value} {x : Int32} : pj_step 124 (379, a0 :: a1 :: a2 :: some (.int x) :: l, st, M) = some (380, a0 :: a1 :: a2 :: some (.int x) :: l, .int x :: st, M) := st_iload_n q124_379 rfl
theorem x124_379 {st : List Value} {M : pj_Mem} {l : pj_Loc} {a0 a1 a2 : Option Value} {x : Int32} {o9 : Option Value × pj_Mem} : pj_Ends 124 (379, a0 :: a1 :: a2 :: some (.int x) :: l, st, M) o9 = pj_Ends 124 (380, a0 :: a1 :: a2 :: some (.int x) :: l, .int x :: st, M) o9 := pj_xs (s124_379)
theorem q124_380 : pj_row 124 380 = some (.iconst 1, 1, 0, 0, 0) := by decide +kernel
theorem s124_380 {L : pj_Loc} {st : List Value} {M : pj_Mem}  : pj_step 124 (380, L, st, M) = some (381, L, .int 1 :: st, M) := st_iconst q124_380 (by decide +kernel)
theorem x124_380 {L : pj_Loc} {st : List Value} {M : pj_Mem}  {o9 : Option Value × pj_Mem} : pj_Ends 124 (380, L, st, M) o9 = pj_Ends 124 (381, L, .int 1 :: st, M) o9 := pj_xs (s124_380)
theorem q124_381 : pj_row 124 381 = some (.iadd, 1, 0, 0, 0) := by decide +kernel
theorem s124_381 {L : pj_Loc} {st : List Value} {M : pj_Mem} {x y : Int32} : pj_step 124 (381, L, .int y :: .int x :: st, M) = some (382, L, .int (x + y) :: st, M) := st_iadd q124_381
theorem x124_381 {L : pj_Loc} {st : List Value} {M : pj_Mem} {x y : Int32} {o9 : Option Value × pj_Mem} : pj_Ends 124 (381, L, .int y :: .int x :: st, M) o9 = pj_Ends 124 (382, L, .int (x + y) :: st, M) o9 := pj_xs (s124_381)
theorem q124_382 : pj_row 124 382 = some (.iaload, 1, 0, 0, 0) := by decide +kernel
theorem s124_382 {L : pj_Loc} {st : List Value} {N S : Nat} {H : pj_Heap} {o : Nat} {i : Int32} : pj_step 124 (382, L, .int i :: .ref o :: st, (N, S, H)) = pj_pi 383 L st (N, S, H) (pj_arl (H o) 0 i) := st_iaload q124_382
theorem x124_382 {L : pj_Loc} {st : List Value} {N S : Nat} {H : pj_Heap} {o : Nat} {i : Int32} {o9 : Option Value × pj_Mem} : pj_Ends 124 (382, L, .int i :: .ref o :: st, (N, S, H)) o9 = pj_then 124 o9 (pj_pi 383 L st (N, S, H) (pj_arl (H o) 0 i)) := pj_xt q124_382 rfl (pj_cl_nc rfl) (s124_382)
theorem q124_383 : pj_row 124 383 = some (.aload_n 0, 1, 0, 0, 0) := by decide +kernel
theorem s124_383 {st : List Value} {M : pj_Mem} {l : pj_Loc} {x : Nat} : pj_step 124 (383, some (.ref x) :: l, st, M) = some (384, some (.ref x) :: l, .ref x :: st, M) := st_aload_n q124_383 rfl
theorem x124_383 {st : List Value} {M : pj_Mem} {l : pj_Loc} {x : Nat} {o9 : Option Value × pj_Mem} : pj_Ends 124 (383, some (.ref x) :: l, st, M) o9 = pj_Ends 124 (384, some (.ref x) :: l, .ref x :: st, M) o9 := pj_xs (s124_383)
theorem q124_384 : pj_row 124 384 = some (.iload_n 3, 1, 0, 0, 0) := by decide +kernel
theorem s124_384 {st : List Value} {M : pj_Mem} {l : pj_Loc} {a0 a1 a2 : Option Value} {x : Int32} : pj_step 124 (384, a0 :: a1 :: a2 :: some (.int x) :: l, st, M) = some (385, a0 :: a1 :: a2 :: some (.int x) :: l, .int x :: st, M) := st_iload_n q124_384 rfl
theorem x124_384 {st : List Value} {M : pj_Mem} {l : pj_Loc} {a0 a1 a2 : Option Value} {x : Int32} {o9 : Option Value × pj_Mem} : pj_Ends 124 (384, a0 :: a1 :: a2 :: some (.int x) :: l, st, M) o9 = pj_Ends 124 (385, a0 :: a1 :: a2 :: some (.int x) :: l, .int x :: st, M) o9 := pj_xs (s124_384)
theorem q124_385 : pj_row 124 385 = some (.iconst 2, 1, 0, 0, 0) := by decide +kernel
theorem s124_385 {L : pj_Loc} {st : List Value} {M : pj_Mem}  : pj_step 124 (385, L, st, M) = some (386, L, .int 2 :: st, M) := st_iconst q124_385 (by decide +kernel)
theorem x124_385 {L : pj_Loc} {st : List Value} {M : pj_Mem}  {o9 : Option Value × pj_Mem} : pj_Ends 124 (385, L, st, M) o9 = pj_Ends 124 (386, L, .int 2 :: st, M) o9 := pj_xs (s124_385)
theorem q124_386 : pj_row 124 386 = some (.iadd, 1, 0, 0, 0) := by decide +kernel
theorem s124_386 {L : pj_Loc} {st : List Value} {M : pj_Mem} {x y : Int32} : pj_step 124 (386, L, .int y :: .int x :: st, M) = some (387, L, .int (x + y) :: st, M) := st_iadd q124_386
theorem x124_386 {L : pj_Loc} {st : List Value} {M : pj_Mem} {x y : Int32} {o9 : Option Value × pj_Mem} : pj_Ends 124 (386, L, .int y :: .int x :: st, M) o9 = pj_Ends 124 (387, L, .int (x + y) :: st, M) o9 := pj_xs (s124_386)
theorem q124_387 : pj_row 124 387 = some (.iaload, 1, 0, 0, 0) := by decide +kernel
theorem s124_387 {L : pj_Loc} {st : List Value} {N S : Nat} {H : pj_Heap} {o : Nat} {i : Int32} : pj_step 124 (387, L, .int i :: .ref o :: st, (N, S, H)) = pj_pi 388 L st (N, S, H) (pj_arl (H o) 0 i) := st_iaload q124_387
theorem x124_387 {L : pj_Loc} {st : List Value} {N S : Nat} {H : pj_Heap} {o : Nat} {i : Int32} {o9 : Option Value × pj_Mem} : pj_Ends 124 (387, L, .int i :: .ref o :: st, (N, S, H)) o9 = pj_then 124 o9 (pj_pi 388 L st (N, S, H) (pj_arl (H o) 0 i)) := pj_xt q124_387 rfl (pj_cl_nc rfl) (s124_387)
theorem q124_388 : pj_row 124 388 = some (.invokevirtual 46, 3, 46, 3, 0) := by decide +kernel
theorem e124_388 {L : pj_Loc} {st : List Value} {N S : Nat} {H : pj_Heap} {o : Option Value × pj_Mem} {M' : pj_Mem} {x0 : Nat} {x1 : Int32} {x2 : Int32} {r : Int32} (h4 : pj_le4 st = true) (hu : pj_isU 5 (H x0) = true) (h1 : pj_Ends 46 (0, [some (.ref x0), some (.int x1), some (.int x2)], [], (N, S, H)) (some (.int r), M')) (h2 : pj_Ends 124 (391, L, .int r :: st, M') o) : pj_Ends 124 (388, L, .int x2 :: .int x1 :: .ref x0 :: st, (N, S, H)) o := ec_v3 q124_388 (Or.inl rfl) h4 hu rfl h1 h2
theorem q124_391 : pj_row 124 391 = some (.aload_n 2, 1, 0, 0, 0) := by decide +kernel
theorem s124_391 {st : List Value} {M : pj_Mem} {l : pj_Loc} {a0 a1 : Option Value} {x : Nat} : pj_step 124 (391, a0 :: a1 :: some (.ref x) :: l, st, M) = some (392, a0 :: a1 :: some (.ref x) :: l, .ref x :: st, M) := st_aload_n q124_391 rfl
theorem x124_391 {st : List Value} {M : pj_Mem} {l : pj_Loc} {a0 a1 : Option Value} {x : Nat} {o9 : Option Value × pj_Mem} : pj_Ends 124 (391, a0 :: a1 :: some (.ref x) :: l, st, M) o9 = pj_Ends 124 (392, a0 :: a1 :: some (.ref x) :: l, .ref x :: st, M) o9 := pj_xs (s124_391)
theorem q124_392 : pj_row 124 392 = some (.aload_n 0, 1, 0, 0, 0) := by decide +kernel
theorem s124_392 {st : List Value} {M : pj_Mem} {l : pj_Loc} {x : Nat} : pj_step 124 (392, some (.ref x) :: l, st, M) = some (393, some (.ref x) :: l, .ref x :: st, M) := st_aload_n q124_392 rfl
theorem x124_392 {st : List Value} {M : pj_Mem} {l : pj_Loc} {x : Nat} {o9 : Option Value × pj_Mem} : pj_Ends 124 (392, some (.ref x) :: l, st, M) o9 = pj_Ends 124 (393, some (.ref x) :: l, .ref x :: st, M) o9 := pj_xs (s124_392)
theorem q124_393 : pj_row 124 393 = some (.iload_n 3, 1, 0, 0, 0) := by decide +kernel
theorem s124_393 {st : List Value} {M : pj_Mem} {l : pj_Loc} {a0 a1 a2 : Option Value} {x : Int32} : pj_step 124 (393, a0 :: a1 :: a2 :: some (.int x) :: l, st, M) = some (394, a0 :: a1 :: a2 :: some (.int x) :: l, .int x :: st, M) := st_iload_n q124_393 rfl
theorem x124_393 {st : List Value} {M : pj_Mem} {l : pj_Loc} {a0 a1 a2 : Option Value} {x : Int32} {o9 : Option Value × pj_Mem} : pj_Ends 124 (393, a0 :: a1 :: a2 :: some (.int x) :: l, st, M) o9 = pj_Ends 124 (394, a0 :: a1 :: a2 :: some (.int x) :: l, .int x :: st, M) o9 := pj_xs (s124_393)
theorem q124_394 : pj_row 124 394 = some (.iconst 1, 1, 0, 0, 0) := by decide +kernel
theorem s124_394 {L : pj_Loc} {st : List Value} {M : pj_Mem}  : pj_step 124 (394, L, st, M) = some (395, L, .int 1 :: st, M) := st_iconst q124_394 (by decide +kernel)
theorem x124_394 {L : pj_Loc} {st : List Value} {M : pj_Mem}  {o9 : Option Value × pj_Mem} : pj_Ends 124 (394, L, st, M) o9 = pj_Ends 124 (395, L, .int 1 :: st, M) o9 := pj_xs (s124_394)
theorem q124_395 : pj_row 124 395 = some (.iadd, 1, 0, 0, 0) := by decide +kernel
theorem s124_395 {L : pj_Loc} {st : List Value} {M : pj_Mem} {x y : Int32} : pj_step 124 (395, L, .int y :: .int x :: st, M) = some (396, L, .int (x + y) :: st, M) := st_iadd q124_395
theorem x124_395 {L : pj_Loc} {st : List Value} {M : pj_Mem} {x y : Int32} {o9 : Option Value × pj_Mem} : pj_Ends 124 (395, L, .int y :: .int x :: st, M) o9 = pj_Ends 124 (396, L, .int (x + y) :: st, M) o9 := pj_xs (s124_395)
theorem q124_396 : pj_row 124 396 = some (.iaload, 1, 0, 0, 0) := by decide +kernel
theorem s124_396 {L : pj_Loc} {st : List Value} {N S : Nat} {H : pj_Heap} {o : Nat} {i : Int32} : pj_step 124 (396, L, .int i :: .ref o :: st, (N, S, H)) = pj_pi 397 L st (N, S, H) (pj_arl (H o) 0 i) := st_iaload q124_396
theorem x124_396 {L : pj_Loc} {st : List Value} {N S : Nat} {H : pj_Heap} {o : Nat} {i : Int32} {o9 : Option Value × pj_Mem} : pj_Ends 124 (396, L, .int i :: .ref o :: st, (N, S, H)) o9 = pj_then 124 o9 (pj_pi 397 L st (N, S, H) (pj_arl (H o) 0 i)) := pj_xt q124_396 rfl (pj_cl_nc rfl) (s124_396)
theorem q124_397 : pj_row 124 397 = some (.aload_n 0, 1, 0, 0, 0) := by decide +kernel
theorem s124_397 {st : List Value} {M : pj_Mem} {l : pj_Loc} {x : Nat} : pj_step 124 (397, some (.ref x) :: l, st, M) = some (398, some (.ref x) :: l, .ref x :: st, M) := st_aload_n q124_397 rfl
theorem x124_397 {st : List Value} {M : pj_Mem} {l : pj_Loc} {x : Nat} {o9 : Option Value × pj_Mem} : pj_Ends 124 (397, some (.ref x) :: l, st, M) o9 = pj_Ends 124 (398, some (.ref x) :: l, .ref x :: st, M) o9 := pj_xs (s124_397)
theorem q124_398 : pj_row 124 398 = some (.iload_n 3, 1, 0, 0, 0) := by decide +kernel
theorem s124_398 {st : List Value} {M : pj_Mem} {l : pj_Loc} {a0 a1 a2 : Option Value} {x : Int32} : pj_step 124 (398, a0 :: a1 :: a2 :: some (.int x) :: l, st, M) = some (399, a0 :: a1 :: a2 :: some (.int x) :: l, .int x :: st, M) := st_iload_n q124_398 rfl
theorem x124_398 {st : List Value} {M : pj_Mem} {l : pj_Loc} {a0 a1 a2 : Option Value} {x : Int32} {o9 : Option Value × pj_Mem} : pj_Ends 124 (398, a0 :: a1 :: a2 :: some (.int x) :: l, st, M) o9 = pj_Ends 124 (399, a0 :: a1 :: a2 :: some (.int x) :: l, .int x :: st, M) o9 := pj_xs (s124_398)
theorem q124_399 : pj_row 124 399 = some (.iconst 2, 1, 0, 0, 0) := by decide +kernel
theorem s124_399 {L : pj_Loc} {st : List Value} {M : pj_Mem}  : pj_step 124 (399, L, st, M) = some (400, L, .int 2 :: st, M) := st_iconst q124_399 (by decide +kernel)
theorem x124_399 {L : pj_Loc} {st : List Value} {M : pj_Mem}  {o9 : Option Value × pj_Mem} : pj_Ends 124 (399, L, st, M) o9 = pj_Ends 124 (400, L, .int 2 :: st, M) o9 := pj_xs (s124_399)
theorem q124_400 : pj_row 124 400 = some (.iadd, 1, 0, 0, 0) := by decide +kernel
theorem s124_400 {L : pj_Loc} {st : List Value} {M : pj_Mem} {x y : Int32} : pj_step 124 (400, L, .int y :: .int x :: st, M) = some (401, L, .int (x + y) :: st, M) := st_iadd q124_400
theorem x124_400 {L : pj_Loc} {st : List Value} {M : pj_Mem} {x y : Int32} {o9 : Option Value × pj_Mem} : pj_Ends 124 (400, L, .int y :: .int x :: st, M) o9 = pj_Ends 124 (401, L, .int (x + y) :: st, M) o9 := pj_xs (s124_400)
theorem q124_401 : pj_row 124 401 = some (.iaload, 1, 0, 0, 0) := by decide +kernel
theorem s124_401 {L : pj_Loc} {st : List Value} {N S : Nat} {H : pj_Heap} {o : Nat} {i : Int32} : pj_step 124 (401, L, .int i :: .ref o :: st, (N, S, H)) = pj_pi 402 L st (N, S, H) (pj_arl (H o) 0 i) := st_iaload q124_401
theorem x124_401 {L : pj_Loc} {st : List Value} {N S : Nat} {H : pj_Heap} {o : Nat} {i : Int32} {o9 : Option Value × pj_Mem} : pj_Ends 124 (401, L, .int i :: .ref o :: st, (N, S, H)) o9 = pj_then 124 o9 (pj_pi 402 L st (N, S, H) (pj_arl (H o) 0 i)) := pj_xt q124_401 rfl (pj_cl_nc rfl) (s124_401)
theorem q124_402 : pj_row 124 402 = some (.invokevirtual 49, 3, 107, 3, 0) := by decide +kernel
theorem e124_402 {L : pj_Loc} {st : List Value} {N S : Nat} {H : pj_Heap} {o : Option Value × pj_Mem} {M' : pj_Mem} {x0 : Nat} {x1 : Int32} {x2 : Int32} {r : Int32} (h4 : pj_le4 st = true) (hu : pj_isU 6 (H x0) = true) (h1 : pj_Ends 107 (0, [some (.ref x0), some (.int x1), some (.int x2)], [], (N, S, H)) (some (.int r), M')) (h2 : pj_Ends 124 (405, L, .int r :: st, M') o) : pj_Ends 124 (402, L, .int x2 :: .int x1 :: .ref x0 :: st, (N, S, H)) o := ec_v3 q124_402 (Or.inl rfl) h4 hu rfl h1 h2
theorem q124_405 : pj_row 124 405 = some (.if_icmp .eq 340, 3, 745, 0, 0) := by decide +kernel
theorem s124_405 {L : pj_Loc} {st : List Value} {M : pj_Mem} {x y : Int32} : pj_step 124 (405, L, .int y :: .int x :: st, M) = some (if x = y then 745 else 408, L, st, M) := st_icmp_eq q124_405
theorem x124_405 {L : pj_Loc} {st : List Value} {M : pj_Mem} {x y : Int32} {o9 : Option Value × pj_Mem} : pj_Ends 124 (405, L, .int y :: .int x :: st, M) o9 = pj_Ends 124 (if x = y then 745 else 408, L, st, M) o9 := pj_xs (s124_405)
theorem q124_408 : pj_row 124 408 = some (.iconst 0, 1, 0, 0, 0) := by decide +kernel
theorem s124_408 {L : pj_Loc} {st : List Value} {M : pj_Mem}  : pj_step 124 (408, L, st, M) = some (409, L, .int 0 :: st, M) := st_iconst q124_408 (by decide +kernel)
theorem x124_408 {L : pj_Loc} {st : List Value} {M : pj_Mem}  {o9 : Option Value × pj_Mem} : pj_Ends 124 (408, L, st, M) o9 = pj_Ends 124 (409, L, .int 0 :: st, M) o9 := pj_xs (s124_408)
theorem q124_409 : pj_row 124 409 = some (.ireturn, 1, 0, 0, 0) := by decide +kernel
theorem t124_409 {L : pj_Loc} {M : pj_Mem} {v : Int32} (hv : v = 0 ∨ v = 1) : pj_Ends 124 (409, L, [.int v], M) (some (.int v), M) := pj_Ends.ret q124_409 (pj_rtn_z rt124 hv)
theorem q124_410 : pj_row 124 410 = some (.aload_n 1, 1, 0, 0, 0) := by decide +kernel
theorem s124_410 {st : List Value} {M : pj_Mem} {l : pj_Loc} {a0 : Option Value} {x : Nat} : pj_step 124 (410, a0 :: some (.ref x) :: l, st, M) = some (411, a0 :: some (.ref x) :: l, .ref x :: st, M) := st_aload_n q124_410 rfl
theorem x124_410 {st : List Value} {M : pj_Mem} {l : pj_Loc} {a0 : Option Value} {x : Nat} {o9 : Option Value × pj_Mem} : pj_Ends 124 (410, a0 :: some (.ref x) :: l, st, M) o9 = pj_Ends 124 (411, a0 :: some (.ref x) :: l, .ref x :: st, M) o9 := pj_xs (s124_410)
theorem q124_411 : pj_row 124 411 = some (.aload_n 0, 1, 0, 0, 0) := by decide +kernel
theorem s124_411 {st : List Value} {M : pj_Mem} {l : pj_Loc} {x : Nat} : pj_step 124 (411, some (.ref x) :: l, st, M) = some (412, some (.ref x) :: l, .ref x :: st, M) := st_aload_n q124_411 rfl
theorem x124_411 {st : List Value} {M : pj_Mem} {l : pj_Loc} {x : Nat} {o9 : Option Value × pj_Mem} : pj_Ends 124 (411, some (.ref x) :: l, st, M) o9 = pj_Ends 124 (412, some (.ref x) :: l, .ref x :: st, M) o9 := pj_xs (s124_411)
theorem q124_412 : pj_row 124 412 = some (.iload_n 3, 1, 0, 0, 0) := by decide +kernel
theorem s124_412 {st : List Value} {M : pj_Mem} {l : pj_Loc} {a0 a1 a2 : Option Value} {x : Int32} : pj_step 124 (412, a0 :: a1 :: a2 :: some (.int x) :: l, st, M) = some (413, a0 :: a1 :: a2 :: some (.int x) :: l, .int x :: st, M) := st_iload_n q124_412 rfl
theorem x124_412 {st : List Value} {M : pj_Mem} {l : pj_Loc} {a0 a1 a2 : Option Value} {x : Int32} {o9 : Option Value × pj_Mem} : pj_Ends 124 (412, a0 :: a1 :: a2 :: some (.int x) :: l, st, M) o9 = pj_Ends 124 (413, a0 :: a1 :: a2 :: some (.int x) :: l, .int x :: st, M) o9 := pj_xs (s124_412)
theorem q124_413 : pj_row 124 413 = some (.iconst 1, 1, 0, 0, 0) := by decide +kernel
theorem s124_413 {L : pj_Loc} {st : List Value} {M : pj_Mem}  : pj_step 124 (413, L, st, M) = some (414, L, .int 1 :: st, M) := st_iconst q124_413 (by decide +kernel)
theorem x124_413 {L : pj_Loc} {st : List Value} {M : pj_Mem}  {o9 : Option Value × pj_Mem} : pj_Ends 124 (413, L, st, M) o9 = pj_Ends 124 (414, L, .int 1 :: st, M) o9 := pj_xs (s124_413)
theorem q124_414 : pj_row 124 414 = some (.iadd, 1, 0, 0, 0) := by decide +kernel
theorem s124_414 {L : pj_Loc} {st : List Value} {M : pj_Mem} {x y : Int32} : pj_step 124 (414, L, .int y :: .int x :: st, M) = some (415, L, .int (x + y) :: st, M) := st_iadd q124_414
theorem x124_414 {L : pj_Loc} {st : List Value} {M : pj_Mem} {x y : Int32} {o9 : Option Value × pj_Mem} : pj_Ends 124 (414, L, .int y :: .int x :: st, M) o9 = pj_Ends 124 (415, L, .int (x + y) :: st, M) o9 := pj_xs (s124_414)
theorem q124_415 : pj_row 124 415 = some (.iaload, 1, 0, 0, 0) := by decide +kernel
theorem s124_415 {L : pj_Loc} {st : List Value} {N S : Nat} {H : pj_Heap} {o : Nat} {i : Int32} : pj_step 124 (415, L, .int i :: .ref o :: st, (N, S, H)) = pj_pi 416 L st (N, S, H) (pj_arl (H o) 0 i) := st_iaload q124_415
theorem x124_415 {L : pj_Loc} {st : List Value} {N S : Nat} {H : pj_Heap} {o : Nat} {i : Int32} {o9 : Option Value × pj_Mem} : pj_Ends 124 (415, L, .int i :: .ref o :: st, (N, S, H)) o9 = pj_then 124 o9 (pj_pi 416 L st (N, S, H) (pj_arl (H o) 0 i)) := pj_xt q124_415 rfl (pj_cl_nc rfl) (s124_415)
theorem q124_416 : pj_row 124 416 = some (.invokevirtual 50, 3, 47, 2, 0) := by decide +kernel
theorem e124_416 {L : pj_Loc} {st : List Value} {N S : Nat} {H : pj_Heap} {o : Option Value × pj_Mem} {M' : pj_Mem} {x0 : Nat} {x1 : Int32} {r : Int32} (h4 : pj_le4 st = true) (hu : pj_isU 5 (H x0) = true) (h1 : pj_Ends 47 (0, [some (.ref x0), some (.int x1)], [], (N, S, H)) (some (.int r), M')) (h2 : pj_Ends 124 (419, L, .int r :: st, M') o) : pj_Ends 124 (416, L, .int x1 :: .ref x0 :: st, (N, S, H)) o := ec_v2 q124_416 (Or.inl rfl) h4 hu rfl h1 h2
theorem q124_419 : pj_row 124 419 = some (.aload_n 2, 1, 0, 0, 0) := by decide +kernel
theorem s124_419 {st : List Value} {M : pj_Mem} {l : pj_Loc} {a0 a1 : Option Value} {x : Nat} : pj_step 124 (419, a0 :: a1 :: some (.ref x) :: l, st, M) = some (420, a0 :: a1 :: some (.ref x) :: l, .ref x :: st, M) := st_aload_n q124_419 rfl
theorem x124_419 {st : List Value} {M : pj_Mem} {l : pj_Loc} {a0 a1 : Option Value} {x : Nat} {o9 : Option Value × pj_Mem} : pj_Ends 124 (419, a0 :: a1 :: some (.ref x) :: l, st, M) o9 = pj_Ends 124 (420, a0 :: a1 :: some (.ref x) :: l, .ref x :: st, M) o9 := pj_xs (s124_419)
theorem q124_420 : pj_row 124 420 = some (.aload_n 0, 1, 0, 0, 0) := by decide +kernel
theorem s124_420 {st : List Value} {M : pj_Mem} {l : pj_Loc} {x : Nat} : pj_step 124 (420, some (.ref x) :: l, st, M) = some (421, some (.ref x) :: l, .ref x :: st, M) := st_aload_n q124_420 rfl
theorem x124_420 {st : List Value} {M : pj_Mem} {l : pj_Loc} {x : Nat} {o9 : Option Value × pj_Mem} : pj_Ends 124 (420, some (.ref x) :: l, st, M) o9 = pj_Ends 124 (421, some (.ref x) :: l, .ref x :: st, M) o9 := pj_xs (s124_420)
theorem q124_421 : pj_row 124 421 = some (.iload_n 3, 1, 0, 0, 0) := by decide +kernel
theorem s124_421 {st : List Value} {M : pj_Mem} {l : pj_Loc} {a0 a1 a2 : Option Value} {x : Int32} : pj_step 124 (421, a0 :: a1 :: a2 :: some (.int x) :: l, st, M) = some (422, a0 :: a1 :: a2 :: some (.int x) :: l, .int x :: st, M) := st_iload_n q124_421 rfl
theorem x124_421 {st : List Value} {M : pj_Mem} {l : pj_Loc} {a0 a1 a2 : Option Value} {x : Int32} {o9 : Option Value × pj_Mem} : pj_Ends 124 (421, a0 :: a1 :: a2 :: some (.int x) :: l, st, M) o9 = pj_Ends 124 (422, a0 :: a1 :: a2 :: some (.int x) :: l, .int x :: st, M) o9 := pj_xs (s124_421)
theorem q124_422 : pj_row 124 422 = some (.iconst 1, 1, 0, 0, 0) := by decide +kernel
theorem s124_422 {L : pj_Loc} {st : List Value} {M : pj_Mem}  : pj_step 124 (422, L, st, M) = some (423, L, .int 1 :: st, M) := st_iconst q124_422 (by decide +kernel)
theorem x124_422 {L : pj_Loc} {st : List Value} {M : pj_Mem}  {o9 : Option Value × pj_Mem} : pj_Ends 124 (422, L, st, M) o9 = pj_Ends 124 (423, L, .int 1 :: st, M) o9 := pj_xs (s124_422)
theorem q124_423 : pj_row 124 423 = some (.iadd, 1, 0, 0, 0) := by decide +kernel
theorem s124_423 {L : pj_Loc} {st : List Value} {M : pj_Mem} {x y : Int32} : pj_step 124 (423, L, .int y :: .int x :: st, M) = some (424, L, .int (x + y) :: st, M) := st_iadd q124_423
theorem x124_423 {L : pj_Loc} {st : List Value} {M : pj_Mem} {x y : Int32} {o9 : Option Value × pj_Mem} : pj_Ends 124 (423, L, .int y :: .int x :: st, M) o9 = pj_Ends 124 (424, L, .int (x + y) :: st, M) o9 := pj_xs (s124_423)
theorem q124_424 : pj_row 124 424 = some (.iaload, 1, 0, 0, 0) := by decide +kernel
theorem s124_424 {L : pj_Loc} {st : List Value} {N S : Nat} {H : pj_Heap} {o : Nat} {i : Int32} : pj_step 124 (424, L, .int i :: .ref o :: st, (N, S, H)) = pj_pi 425 L st (N, S, H) (pj_arl (H o) 0 i) := st_iaload q124_424
theorem x124_424 {L : pj_Loc} {st : List Value} {N S : Nat} {H : pj_Heap} {o : Nat} {i : Int32} {o9 : Option Value × pj_Mem} : pj_Ends 124 (424, L, .int i :: .ref o :: st, (N, S, H)) o9 = pj_then 124 o9 (pj_pi 425 L st (N, S, H) (pj_arl (H o) 0 i)) := pj_xt q124_424 rfl (pj_cl_nc rfl) (s124_424)
theorem q124_425 : pj_row 124 425 = some (.invokevirtual 53, 3, 108, 2, 0) := by decide +kernel
theorem e124_425 {L : pj_Loc} {st : List Value} {N S : Nat} {H : pj_Heap} {o : Option Value × pj_Mem} {M' : pj_Mem} {x0 : Nat} {x1 : Int32} {r : Int32} (h4 : pj_le4 st = true) (hu : pj_isU 6 (H x0) = true) (h1 : pj_Ends 108 (0, [some (.ref x0), some (.int x1)], [], (N, S, H)) (some (.int r), M')) (h2 : pj_Ends 124 (428, L, .int r :: st, M') o) : pj_Ends 124 (425, L, .int x1 :: .ref x0 :: st, (N, S, H)) o := ec_v2 q124_425 (Or.inl rfl) h4 hu rfl h1 h2
theorem q124_428 : pj_row 124 428 = some (.if_icmp .eq 317, 3, 745, 0, 0) := by decide +kernel
theorem s124_428 {L : pj_Loc} {st : List Value} {M : pj_Mem} {x y : Int32} : pj_step 124 (428, L, .int y :: .int x :: st, M) = some (if x = y then 745 else 431, L, st, M) := st_icmp_eq q124_428
theorem x124_428 {L : pj_Loc} {st : List Value} {M : pj_Mem} {x y : Int32} {o9 : Option Value × pj_Mem} : pj_Ends 124 (428, L, .int y :: .int x :: st, M) o9 = pj_Ends 124 (if x = y then 745 else 431, L, st, M) o9 := pj_xs (s124_428)
theorem q124_431 : pj_row 124 431 = some (.iconst 0, 1, 0, 0, 0) := by decide +kernel
theorem s124_431 {L : pj_Loc} {st : List Value} {M : pj_Mem}  : pj_step 124 (431, L, st, M) = some (432, L, .int 0 :: st, M) := st_iconst q124_431 (by decide +kernel)
theorem x124_431 {L : pj_Loc} {st : List Value} {M : pj_Mem}  {o9 : Option Value × pj_Mem} : pj_Ends 124 (431, L, st, M) o9 = pj_Ends 124 (432, L, .int 0 :: st, M) o9 := pj_xs (s124_431)
theorem q124_432 : pj_row 124 432 = some (.ireturn, 1, 0, 0, 0) := by decide +kernel
theorem t124_432 {L : pj_Loc} {M : pj_Mem} {v : Int32} (hv : v = 0 ∨ v = 1) : pj_Ends 124 (432, L, [.int v], M) (some (.int v), M) := pj_Ends.ret q124_432 (pj_rtn_z rt124 hv)
theorem q124_433 : pj_row 124 433 = some (.aload_n 1, 1, 0, 0, 0) := by decide +kernel
theorem s124_433 {st : List Value} {M : pj_Mem} {l : pj_Loc} {a0 : Option Value} {x : Nat} : pj_step 124 (433, a0 :: some (.ref x) :: l, st, M) = some (434, a0 :: some (.ref x) :: l, .ref x :: st, M) := st_aload_n q124_433 rfl
theorem x124_433 {st : List Value} {M : pj_Mem} {l : pj_Loc} {a0 : Option Value} {x : Nat} {o9 : Option Value × pj_Mem} : pj_Ends 124 (433, a0 :: some (.ref x) :: l, st, M) o9 = pj_Ends 124 (434, a0 :: some (.ref x) :: l, .ref x :: st, M) o9 := pj_xs (s124_433)
theorem q124_434 : pj_row 124 434 = some (.aload_n 0, 1, 0, 0, 0) := by decide +kernel
theorem s124_434 {st : List Value} {M : pj_Mem} {l : pj_Loc} {x : Nat} : pj_step 124 (434, some (.ref x) :: l, st, M) = some (435, some (.ref x) :: l, .ref x :: st, M) := st_aload_n q124_434 rfl
theorem x124_434 {st : List Value} {M : pj_Mem} {l : pj_Loc} {x : Nat} {o9 : Option Value × pj_Mem} : pj_Ends 124 (434, some (.ref x) :: l, st, M) o9 = pj_Ends 124 (435, some (.ref x) :: l, .ref x :: st, M) o9 := pj_xs (s124_434)
theorem q124_435 : pj_row 124 435 = some (.iload_n 3, 1, 0, 0, 0) := by decide +kernel
theorem s124_435 {st : List Value} {M : pj_Mem} {l : pj_Loc} {a0 a1 a2 : Option Value} {x : Int32} : pj_step 124 (435, a0 :: a1 :: a2 :: some (.int x) :: l, st, M) = some (436, a0 :: a1 :: a2 :: some (.int x) :: l, .int x :: st, M) := st_iload_n q124_435 rfl
theorem x124_435 {st : List Value} {M : pj_Mem} {l : pj_Loc} {a0 a1 a2 : Option Value} {x : Int32} {o9 : Option Value × pj_Mem} : pj_Ends 124 (435, a0 :: a1 :: a2 :: some (.int x) :: l, st, M) o9 = pj_Ends 124 (436, a0 :: a1 :: a2 :: some (.int x) :: l, .int x :: st, M) o9 := pj_xs (s124_435)
theorem q124_436 : pj_row 124 436 = some (.iconst 1, 1, 0, 0, 0) := by decide +kernel
theorem s124_436 {L : pj_Loc} {st : List Value} {M : pj_Mem}  : pj_step 124 (436, L, st, M) = some (437, L, .int 1 :: st, M) := st_iconst q124_436 (by decide +kernel)
theorem x124_436 {L : pj_Loc} {st : List Value} {M : pj_Mem}  {o9 : Option Value × pj_Mem} : pj_Ends 124 (436, L, st, M) o9 = pj_Ends 124 (437, L, .int 1 :: st, M) o9 := pj_xs (s124_436)
theorem q124_437 : pj_row 124 437 = some (.iadd, 1, 0, 0, 0) := by decide +kernel
theorem s124_437 {L : pj_Loc} {st : List Value} {M : pj_Mem} {x y : Int32} : pj_step 124 (437, L, .int y :: .int x :: st, M) = some (438, L, .int (x + y) :: st, M) := st_iadd q124_437
theorem x124_437 {L : pj_Loc} {st : List Value} {M : pj_Mem} {x y : Int32} {o9 : Option Value × pj_Mem} : pj_Ends 124 (437, L, .int y :: .int x :: st, M) o9 = pj_Ends 124 (438, L, .int (x + y) :: st, M) o9 := pj_xs (s124_437)
theorem q124_438 : pj_row 124 438 = some (.iaload, 1, 0, 0, 0) := by decide +kernel
theorem s124_438 {L : pj_Loc} {st : List Value} {N S : Nat} {H : pj_Heap} {o : Nat} {i : Int32} : pj_step 124 (438, L, .int i :: .ref o :: st, (N, S, H)) = pj_pi 439 L st (N, S, H) (pj_arl (H o) 0 i) := st_iaload q124_438
theorem x124_438 {L : pj_Loc} {st : List Value} {N S : Nat} {H : pj_Heap} {o : Nat} {i : Int32} {o9 : Option Value × pj_Mem} : pj_Ends 124 (438, L, .int i :: .ref o :: st, (N, S, H)) o9 = pj_then 124 o9 (pj_pi 439 L st (N, S, H) (pj_arl (H o) 0 i)) := pj_xt q124_438 rfl (pj_cl_nc rfl) (s124_438)
theorem q124_439 : pj_row 124 439 = some (.aload_n 0, 1, 0, 0, 0) := by decide +kernel
theorem s124_439 {st : List Value} {M : pj_Mem} {l : pj_Loc} {x : Nat} : pj_step 124 (439, some (.ref x) :: l, st, M) = some (440, some (.ref x) :: l, .ref x :: st, M) := st_aload_n q124_439 rfl
theorem x124_439 {st : List Value} {M : pj_Mem} {l : pj_Loc} {x : Nat} {o9 : Option Value × pj_Mem} : pj_Ends 124 (439, some (.ref x) :: l, st, M) o9 = pj_Ends 124 (440, some (.ref x) :: l, .ref x :: st, M) o9 := pj_xs (s124_439)
theorem q124_440 : pj_row 124 440 = some (.iload_n 3, 1, 0, 0, 0) := by decide +kernel
theorem s124_440 {st : List Value} {M : pj_Mem} {l : pj_Loc} {a0 a1 a2 : Option Value} {x : Int32} : pj_step 124 (440, a0 :: a1 :: a2 :: some (.int x) :: l, st, M) = some (441, a0 :: a1 :: a2 :: some (.int x) :: l, .int x :: st, M) := st_iload_n q124_440 rfl
theorem x124_440 {st : List Value} {M : pj_Mem} {l : pj_Loc} {a0 a1 a2 : Option Value} {x : Int32} {o9 : Option Value × pj_Mem} : pj_Ends 124 (440, a0 :: a1 :: a2 :: some (.int x) :: l, st, M) o9 = pj_Ends 124 (441, a0 :: a1 :: a2 :: some (.int x) :: l, .int x :: st, M) o9 := pj_xs (s124_440)
theorem q124_441 : pj_row 124 441 = some (.iconst 2, 1, 0, 0, 0) := by decide +kernel
theorem s124_441 {L : pj_Loc} {st : List Value} {M : pj_Mem}  : pj_step 124 (441, L, st, M) = some (442, L, .int 2 :: st, M) := st_iconst q124_441 (by decide +kernel)
theorem x124_441 {L : pj_Loc} {st : List Value} {M : pj_Mem}  {o9 : Option Value × pj_Mem} : pj_Ends 124 (441, L, st, M) o9 = pj_Ends 124 (442, L, .int 2 :: st, M) o9 := pj_xs (s124_441)
theorem q124_442 : pj_row 124 442 = some (.iadd, 1, 0, 0, 0) := by decide +kernel
theorem s124_442 {L : pj_Loc} {st : List Value} {M : pj_Mem} {x y : Int32} : pj_step 124 (442, L, .int y :: .int x :: st, M) = some (443, L, .int (x + y) :: st, M) := st_iadd q124_442
theorem x124_442 {L : pj_Loc} {st : List Value} {M : pj_Mem} {x y : Int32} {o9 : Option Value × pj_Mem} : pj_Ends 124 (442, L, .int y :: .int x :: st, M) o9 = pj_Ends 124 (443, L, .int (x + y) :: st, M) o9 := pj_xs (s124_442)
theorem q124_443 : pj_row 124 443 = some (.iaload, 1, 0, 0, 0) := by decide +kernel
theorem s124_443 {L : pj_Loc} {st : List Value} {N S : Nat} {H : pj_Heap} {o : Nat} {i : Int32} : pj_step 124 (443, L, .int i :: .ref o :: st, (N, S, H)) = pj_pi 444 L st (N, S, H) (pj_arl (H o) 0 i) := st_iaload q124_443
theorem x124_443 {L : pj_Loc} {st : List Value} {N S : Nat} {H : pj_Heap} {o : Nat} {i : Int32} {o9 : Option Value × pj_Mem} : pj_Ends 124 (443, L, .int i :: .ref o :: st, (N, S, H)) o9 = pj_then 124 o9 (pj_pi 444 L st (N, S, H) (pj_arl (H o) 0 i)) := pj_xt q124_443 rfl (pj_cl_nc rfl) (s124_443)
theorem q124_444 : pj_row 124 444 = some (.aload_n 0, 1, 0, 0, 0) := by decide +kernel
theorem s124_444 {st : List Value} {M : pj_Mem} {l : pj_Loc} {x : Nat} : pj_step 124 (444, some (.ref x) :: l, st, M) = some (445, some (.ref x) :: l, .ref x :: st, M) := st_aload_n q124_444 rfl
theorem x124_444 {st : List Value} {M : pj_Mem} {l : pj_Loc} {x : Nat} {o9 : Option Value × pj_Mem} : pj_Ends 124 (444, some (.ref x) :: l, st, M) o9 = pj_Ends 124 (445, some (.ref x) :: l, .ref x :: st, M) o9 := pj_xs (s124_444)
theorem q124_445 : pj_row 124 445 = some (.iload_n 3, 1, 0, 0, 0) := by decide +kernel
theorem s124_445 {st : List Value} {M : pj_Mem} {l : pj_Loc} {a0 a1 a2 : Option Value} {x : Int32} : pj_step 124 (445, a0 :: a1 :: a2 :: some (.int x) :: l, st, M) = some (446, a0 :: a1 :: a2 :: some (.int x) :: l, .int x :: st, M) := st_iload_n q124_445 rfl
theorem x124_445 {st : List Value} {M : pj_Mem} {l : pj_Loc} {a0 a1 a2 : Option Value} {x : Int32} {o9 : Option Value × pj_Mem} : pj_Ends 124 (445, a0 :: a1 :: a2 :: some (.int x) :: l, st, M) o9 = pj_Ends 124 (446, a0 :: a1 :: a2 :: some (.int x) :: l, .int x :: st, M) o9 := pj_xs (s124_445)
theorem q124_446 : pj_row 124 446 = some (.iconst 3, 1, 0, 0, 0) := by decide +kernel
theorem s124_446 {L : pj_Loc} {st : List Value} {M : pj_Mem}  : pj_step 124 (446, L, st, M) = some (447, L, .int 3 :: st, M) := st_iconst q124_446 (by decide +kernel)
theorem x124_446 {L : pj_Loc} {st : List Value} {M : pj_Mem}  {o9 : Option Value × pj_Mem} : pj_Ends 124 (446, L, st, M) o9 = pj_Ends 124 (447, L, .int 3 :: st, M) o9 := pj_xs (s124_446)
theorem q124_447 : pj_row 124 447 = some (.iadd, 1, 0, 0, 0) := by decide +kernel
theorem s124_447 {L : pj_Loc} {st : List Value} {M : pj_Mem} {x y : Int32} : pj_step 124 (447, L, .int y :: .int x :: st, M) = some (448, L, .int (x + y) :: st, M) := st_iadd q124_447
theorem x124_447 {L : pj_Loc} {st : List Value} {M : pj_Mem} {x y : Int32} {o9 : Option Value × pj_Mem} : pj_Ends 124 (447, L, .int y :: .int x :: st, M) o9 = pj_Ends 124 (448, L, .int (x + y) :: st, M) o9 := pj_xs (s124_447)
theorem q124_448 : pj_row 124 448 = some (.iaload, 1, 0, 0, 0) := by decide +kernel
theorem s124_448 {L : pj_Loc} {st : List Value} {N S : Nat} {H : pj_Heap} {o : Nat} {i : Int32} : pj_step 124 (448, L, .int i :: .ref o :: st, (N, S, H)) = pj_pi 449 L st (N, S, H) (pj_arl (H o) 0 i) := st_iaload q124_448
theorem x124_448 {L : pj_Loc} {st : List Value} {N S : Nat} {H : pj_Heap} {o : Nat} {i : Int32} {o9 : Option Value × pj_Mem} : pj_Ends 124 (448, L, .int i :: .ref o :: st, (N, S, H)) o9 = pj_then 124 o9 (pj_pi 449 L st (N, S, H) (pj_arl (H o) 0 i)) := pj_xt q124_448 rfl (pj_cl_nc rfl) (s124_448)
theorem q124_449 : pj_row 124 449 = some (.aload_n 0, 1, 0, 0, 0) := by decide +kernel
theorem s124_449 {st : List Value} {M : pj_Mem} {l : pj_Loc} {x : Nat} : pj_step 124 (449, some (.ref x) :: l, st, M) = some (450, some (.ref x) :: l, .ref x :: st, M) := st_aload_n q124_449 rfl
theorem x124_449 {st : List Value} {M : pj_Mem} {l : pj_Loc} {x : Nat} {o9 : Option Value × pj_Mem} : pj_Ends 124 (449, some (.ref x) :: l, st, M) o9 = pj_Ends 124 (450, some (.ref x) :: l, .ref x :: st, M) o9 := pj_xs (s124_449)
theorem q124_450 : pj_row 124 450 = some (.iload_n 3, 1, 0, 0, 0) := by decide +kernel
theorem s124_450 {st : List Value} {M : pj_Mem} {l : pj_Loc} {a0 a1 a2 : Option Value} {x : Int32} : pj_step 124 (450, a0 :: a1 :: a2 :: some (.int x) :: l, st, M) = some (451, a0 :: a1 :: a2 :: some (.int x) :: l, .int x :: st, M) := st_iload_n q124_450 rfl
theorem x124_450 {st : List Value} {M : pj_Mem} {l : pj_Loc} {a0 a1 a2 : Option Value} {x : Int32} {o9 : Option Value × pj_Mem} : pj_Ends 124 (450, a0 :: a1 :: a2 :: some (.int x) :: l, st, M) o9 = pj_Ends 124 (451, a0 :: a1 :: a2 :: some (.int x) :: l, .int x :: st, M) o9 := pj_xs (s124_450)
theorem q124_451 : pj_row 124 451 = some (.iconst 4, 1, 0, 0, 0) := by decide +kernel
theorem s124_451 {L : pj_Loc} {st : List Value} {M : pj_Mem}  : pj_step 124 (451, L, st, M) = some (452, L, .int 4 :: st, M) := st_iconst q124_451 (by decide +kernel)
theorem x124_451 {L : pj_Loc} {st : List Value} {M : pj_Mem}  {o9 : Option Value × pj_Mem} : pj_Ends 124 (451, L, st, M) o9 = pj_Ends 124 (452, L, .int 4 :: st, M) o9 := pj_xs (s124_451)
theorem q124_452 : pj_row 124 452 = some (.iadd, 1, 0, 0, 0) := by decide +kernel
theorem s124_452 {L : pj_Loc} {st : List Value} {M : pj_Mem} {x y : Int32} : pj_step 124 (452, L, .int y :: .int x :: st, M) = some (453, L, .int (x + y) :: st, M) := st_iadd q124_452
theorem x124_452 {L : pj_Loc} {st : List Value} {M : pj_Mem} {x y : Int32} {o9 : Option Value × pj_Mem} : pj_Ends 124 (452, L, .int y :: .int x :: st, M) o9 = pj_Ends 124 (453, L, .int (x + y) :: st, M) o9 := pj_xs (s124_452)
theorem q124_453 : pj_row 124 453 = some (.iaload, 1, 0, 0, 0) := by decide +kernel
theorem s124_453 {L : pj_Loc} {st : List Value} {N S : Nat} {H : pj_Heap} {o : Nat} {i : Int32} : pj_step 124 (453, L, .int i :: .ref o :: st, (N, S, H)) = pj_pi 454 L st (N, S, H) (pj_arl (H o) 0 i) := st_iaload q124_453
theorem x124_453 {L : pj_Loc} {st : List Value} {N S : Nat} {H : pj_Heap} {o : Nat} {i : Int32} {o9 : Option Value × pj_Mem} : pj_Ends 124 (453, L, .int i :: .ref o :: st, (N, S, H)) o9 = pj_then 124 o9 (pj_pi 454 L st (N, S, H) (pj_arl (H o) 0 i)) := pj_xt q124_453 rfl (pj_cl_nc rfl) (s124_453)
theorem q124_454 : pj_row 124 454 = some (.ifCond .eq 7, 3, 461, 0, 0) := by decide +kernel
theorem s124_454 {L : pj_Loc} {st : List Value} {M : pj_Mem} {x : Int32} : pj_step 124 (454, L, .int x :: st, M) = some (if x = 0 then 461 else 457, L, st, M) := st_if_eq q124_454
theorem x124_454 {L : pj_Loc} {st : List Value} {M : pj_Mem} {x : Int32} {o9 : Option Value × pj_Mem} : pj_Ends 124 (454, L, .int x :: st, M) o9 = pj_Ends 124 (if x = 0 then 461 else 457, L, st, M) o9 := pj_xs (s124_454)
theorem q124_457 : pj_row 124 457 = some (.iconst 1, 1, 0, 0, 0) := by decide +kernel
theorem s124_457 {L : pj_Loc} {st : List Value} {M : pj_Mem}  : pj_step 124 (457, L, st, M) = some (458, L, .int 1 :: st, M) := st_iconst q124_457 (by decide +kernel)
theorem x124_457 {L : pj_Loc} {st : List Value} {M : pj_Mem}  {o9 : Option Value × pj_Mem} : pj_Ends 124 (457, L, st, M) o9 = pj_Ends 124 (458, L, .int 1 :: st, M) o9 := pj_xs (s124_457)
theorem q124_458 : pj_row 124 458 = some (.goto 4, 3, 462, 0, 0) := by decide +kernel
theorem s124_458 {L : pj_Loc} {st : List Value} {M : pj_Mem}  : pj_step 124 (458, L, st, M) = some (462, L, st, M) := st_goto q124_458
theorem x124_458 {L : pj_Loc} {st : List Value} {M : pj_Mem}  {o9 : Option Value × pj_Mem} : pj_Ends 124 (458, L, st, M) o9 = pj_Ends 124 (462, L, st, M) o9 := pj_xs (s124_458)
theorem q124_461 : pj_row 124 461 = some (.iconst 0, 1, 0, 0, 0) := by decide +kernel
theorem s124_461 {L : pj_Loc} {st : List Value} {M : pj_Mem}  : pj_step 124 (461, L, st, M) = some (462, L, .int 0 :: st, M) := st_iconst q124_461 (by decide +kernel)
theorem x124_461 {L : pj_Loc} {st : List Value} {M : pj_Mem}  {o9 : Option Value × pj_Mem} : pj_Ends 124 (461, L, st, M) o9 = pj_Ends 124 (462, L, .int 0 :: st, M) o9 := pj_xs (s124_461)
theorem q124_462 : pj_row 124 462 = some (.aload_n 0, 1, 0, 0, 0) := by decide +kernel
theorem s124_462 {st : List Value} {M : pj_Mem} {l : pj_Loc} {x : Nat} : pj_step 124 (462, some (.ref x) :: l, st, M) = some (463, some (.ref x) :: l, .ref x :: st, M) := st_aload_n q124_462 rfl
theorem x124_462 {st : List Value} {M : pj_Mem} {l : pj_Loc} {x : Nat} {o9 : Option Value × pj_Mem} : pj_Ends 124 (462, some (.ref x) :: l, st, M) o9 = pj_Ends 124 (463, some (.ref x) :: l, .ref x :: st, M) o9 := pj_xs (s124_462)
theorem q124_463 : pj_row 124 463 = some (.iload_n 3, 1, 0, 0, 0) := by decide +kernel
theorem s124_463 {st : List Value} {M : pj_Mem} {l : pj_Loc} {a0 a1 a2 : Option Value} {x : Int32} : pj_step 124 (463, a0 :: a1 :: a2 :: some (.int x) :: l, st, M) = some (464, a0 :: a1 :: a2 :: some (.int x) :: l, .int x :: st, M) := st_iload_n q124_463 rfl
theorem x124_463 {st : List Value} {M : pj_Mem} {l : pj_Loc} {a0 a1 a2 : Option Value} {x : Int32} {o9 : Option Value × pj_Mem} : pj_Ends 124 (463, a0 :: a1 :: a2 :: some (.int x) :: l, st, M) o9 = pj_Ends 124 (464, a0 :: a1 :: a2 :: some (.int x) :: l, .int x :: st, M) o9 := pj_xs (s124_463)
theorem q124_464 : pj_row 124 464 = some (.iconst 5, 1, 0, 0, 0) := by decide +kernel
theorem s124_464 {L : pj_Loc} {st : List Value} {M : pj_Mem}  : pj_step 124 (464, L, st, M) = some (465, L, .int 5 :: st, M) := st_iconst q124_464 (by decide +kernel)
theorem x124_464 {L : pj_Loc} {st : List Value} {M : pj_Mem}  {o9 : Option Value × pj_Mem} : pj_Ends 124 (464, L, st, M) o9 = pj_Ends 124 (465, L, .int 5 :: st, M) o9 := pj_xs (s124_464)
theorem q124_465 : pj_row 124 465 = some (.iadd, 1, 0, 0, 0) := by decide +kernel
theorem s124_465 {L : pj_Loc} {st : List Value} {M : pj_Mem} {x y : Int32} : pj_step 124 (465, L, .int y :: .int x :: st, M) = some (466, L, .int (x + y) :: st, M) := st_iadd q124_465
theorem x124_465 {L : pj_Loc} {st : List Value} {M : pj_Mem} {x y : Int32} {o9 : Option Value × pj_Mem} : pj_Ends 124 (465, L, .int y :: .int x :: st, M) o9 = pj_Ends 124 (466, L, .int (x + y) :: st, M) o9 := pj_xs (s124_465)
theorem q124_466 : pj_row 124 466 = some (.iaload, 1, 0, 0, 0) := by decide +kernel
theorem s124_466 {L : pj_Loc} {st : List Value} {N S : Nat} {H : pj_Heap} {o : Nat} {i : Int32} : pj_step 124 (466, L, .int i :: .ref o :: st, (N, S, H)) = pj_pi 467 L st (N, S, H) (pj_arl (H o) 0 i) := st_iaload q124_466
theorem x124_466 {L : pj_Loc} {st : List Value} {N S : Nat} {H : pj_Heap} {o : Nat} {i : Int32} {o9 : Option Value × pj_Mem} : pj_Ends 124 (466, L, .int i :: .ref o :: st, (N, S, H)) o9 = pj_then 124 o9 (pj_pi 467 L st (N, S, H) (pj_arl (H o) 0 i)) := pj_xt q124_466 rfl (pj_cl_nc rfl) (s124_466)
theorem q124_467 : pj_row 124 467 = some (.invokevirtual 54, 3, 48, 6, 0) := by decide +kernel
theorem e124_467 {L : pj_Loc} {st : List Value} {N S : Nat} {H : pj_Heap} {o : Option Value × pj_Mem} {M' : pj_Mem} {x0 : Nat} {x1 : Int32} {x2 : Int32} {x3 : Int32} {x4 : Int32} {x5 : Int32} {r : Int32} (h4 : pj_le4 st = true) (hu : pj_isU 5 (H x0) = true) (h1 : pj_Ends 48 (0, [some (.ref x0), some (.int x1), some (.int x2), some (.int x3), some (.int x4), some (.int x5)], [], (N, S, H)) (some (.int r), M')) (h2 : pj_Ends 124 (470, L, .int r :: st, M') o) : pj_Ends 124 (467, L, .int x5 :: .int x4 :: .int x3 :: .int x2 :: .int x1 :: .ref x0 :: st, (N, S, H)) o := ec_v6 q124_467 (Or.inl rfl) h4 hu rfl h1 h2
theorem q124_470 : pj_row 124 470 = some (.aload_n 2, 1, 0, 0, 0) := by decide +kernel
theorem s124_470 {st : List Value} {M : pj_Mem} {l : pj_Loc} {a0 a1 : Option Value} {x : Nat} : pj_step 124 (470, a0 :: a1 :: some (.ref x) :: l, st, M) = some (471, a0 :: a1 :: some (.ref x) :: l, .ref x :: st, M) := st_aload_n q124_470 rfl
theorem x124_470 {st : List Value} {M : pj_Mem} {l : pj_Loc} {a0 a1 : Option Value} {x : Nat} {o9 : Option Value × pj_Mem} : pj_Ends 124 (470, a0 :: a1 :: some (.ref x) :: l, st, M) o9 = pj_Ends 124 (471, a0 :: a1 :: some (.ref x) :: l, .ref x :: st, M) o9 := pj_xs (s124_470)
theorem q124_471 : pj_row 124 471 = some (.aload_n 0, 1, 0, 0, 0) := by decide +kernel
theorem s124_471 {st : List Value} {M : pj_Mem} {l : pj_Loc} {x : Nat} : pj_step 124 (471, some (.ref x) :: l, st, M) = some (472, some (.ref x) :: l, .ref x :: st, M) := st_aload_n q124_471 rfl
theorem x124_471 {st : List Value} {M : pj_Mem} {l : pj_Loc} {x : Nat} {o9 : Option Value × pj_Mem} : pj_Ends 124 (471, some (.ref x) :: l, st, M) o9 = pj_Ends 124 (472, some (.ref x) :: l, .ref x :: st, M) o9 := pj_xs (s124_471)
theorem q124_472 : pj_row 124 472 = some (.iload_n 3, 1, 0, 0, 0) := by decide +kernel
theorem s124_472 {st : List Value} {M : pj_Mem} {l : pj_Loc} {a0 a1 a2 : Option Value} {x : Int32} : pj_step 124 (472, a0 :: a1 :: a2 :: some (.int x) :: l, st, M) = some (473, a0 :: a1 :: a2 :: some (.int x) :: l, .int x :: st, M) := st_iload_n q124_472 rfl
theorem x124_472 {st : List Value} {M : pj_Mem} {l : pj_Loc} {a0 a1 a2 : Option Value} {x : Int32} {o9 : Option Value × pj_Mem} : pj_Ends 124 (472, a0 :: a1 :: a2 :: some (.int x) :: l, st, M) o9 = pj_Ends 124 (473, a0 :: a1 :: a2 :: some (.int x) :: l, .int x :: st, M) o9 := pj_xs (s124_472)
theorem q124_473 : pj_row 124 473 = some (.iconst 1, 1, 0, 0, 0) := by decide +kernel
theorem s124_473 {L : pj_Loc} {st : List Value} {M : pj_Mem}  : pj_step 124 (473, L, st, M) = some (474, L, .int 1 :: st, M) := st_iconst q124_473 (by decide +kernel)
theorem x124_473 {L : pj_Loc} {st : List Value} {M : pj_Mem}  {o9 : Option Value × pj_Mem} : pj_Ends 124 (473, L, st, M) o9 = pj_Ends 124 (474, L, .int 1 :: st, M) o9 := pj_xs (s124_473)
theorem q124_474 : pj_row 124 474 = some (.iadd, 1, 0, 0, 0) := by decide +kernel
theorem s124_474 {L : pj_Loc} {st : List Value} {M : pj_Mem} {x y : Int32} : pj_step 124 (474, L, .int y :: .int x :: st, M) = some (475, L, .int (x + y) :: st, M) := st_iadd q124_474
theorem x124_474 {L : pj_Loc} {st : List Value} {M : pj_Mem} {x y : Int32} {o9 : Option Value × pj_Mem} : pj_Ends 124 (474, L, .int y :: .int x :: st, M) o9 = pj_Ends 124 (475, L, .int (x + y) :: st, M) o9 := pj_xs (s124_474)
theorem q124_475 : pj_row 124 475 = some (.iaload, 1, 0, 0, 0) := by decide +kernel
theorem s124_475 {L : pj_Loc} {st : List Value} {N S : Nat} {H : pj_Heap} {o : Nat} {i : Int32} : pj_step 124 (475, L, .int i :: .ref o :: st, (N, S, H)) = pj_pi 476 L st (N, S, H) (pj_arl (H o) 0 i) := st_iaload q124_475
theorem x124_475 {L : pj_Loc} {st : List Value} {N S : Nat} {H : pj_Heap} {o : Nat} {i : Int32} {o9 : Option Value × pj_Mem} : pj_Ends 124 (475, L, .int i :: .ref o :: st, (N, S, H)) o9 = pj_then 124 o9 (pj_pi 476 L st (N, S, H) (pj_arl (H o) 0 i)) := pj_xt q124_475 rfl (pj_cl_nc rfl) (s124_475)
theorem q124_476 : pj_row 124 476 = some (.aload_n 0, 1, 0, 0, 0) := by decide +kernel
theorem s124_476 {st : List Value} {M : pj_Mem} {l : pj_Loc} {x : Nat} : pj_step 124 (476, some (.ref x) :: l, st, M) = some (477, some (.ref x) :: l, .ref x :: st, M) := st_aload_n q124_476 rfl
theorem x124_476 {st : List Value} {M : pj_Mem} {l : pj_Loc} {x : Nat} {o9 : Option Value × pj_Mem} : pj_Ends 124 (476, some (.ref x) :: l, st, M) o9 = pj_Ends 124 (477, some (.ref x) :: l, .ref x :: st, M) o9 := pj_xs (s124_476)
theorem q124_477 : pj_row 124 477 = some (.iload_n 3, 1, 0, 0, 0) := by decide +kernel
theorem s124_477 {st : List Value} {M : pj_Mem} {l : pj_Loc} {a0 a1 a2 : Option Value} {x : Int32} : pj_step 124 (477, a0 :: a1 :: a2 :: some (.int x) :: l, st, M) = some (478, a0 :: a1 :: a2 :: some (.int x) :: l, .int x :: st, M) := st_iload_n q124_477 rfl
theorem x124_477 {st : List Value} {M : pj_Mem} {l : pj_Loc} {a0 a1 a2 : Option Value} {x : Int32} {o9 : Option Value × pj_Mem} : pj_Ends 124 (477, a0 :: a1 :: a2 :: some (.int x) :: l, st, M) o9 = pj_Ends 124 (478, a0 :: a1 :: a2 :: some (.int x) :: l, .int x :: st, M) o9 := pj_xs (s124_477)
theorem q124_478 : pj_row 124 478 = some (.iconst 2, 1, 0, 0, 0) := by decide +kernel
theorem s124_478 {L : pj_Loc} {st : List Value} {M : pj_Mem}  : pj_step 124 (478, L, st, M) = some (479, L, .int 2 :: st, M) := st_iconst q124_478 (by decide +kernel)
theorem x124_478 {L : pj_Loc} {st : List Value} {M : pj_Mem}  {o9 : Option Value × pj_Mem} : pj_Ends 124 (478, L, st, M) o9 = pj_Ends 124 (479, L, .int 2 :: st, M) o9 := pj_xs (s124_478)
theorem q124_479 : pj_row 124 479 = some (.iadd, 1, 0, 0, 0) := by decide +kernel
theorem s124_479 {L : pj_Loc} {st : List Value} {M : pj_Mem} {x y : Int32} : pj_step 124 (479, L, .int y :: .int x :: st, M) = some (480, L, .int (x + y) :: st, M) := st_iadd q124_479
theorem x124_479 {L : pj_Loc} {st : List Value} {M : pj_Mem} {x y : Int32} {o9 : Option Value × pj_Mem} : pj_Ends 124 (479, L, .int y :: .int x :: st, M) o9 = pj_Ends 124 (480, L, .int (x + y) :: st, M) o9 := pj_xs (s124_479)
theorem q124_480 : pj_row 124 480 = some (.iaload, 1, 0, 0, 0) := by decide +kernel
theorem s124_480 {L : pj_Loc} {st : List Value} {N S : Nat} {H : pj_Heap} {o : Nat} {i : Int32} : pj_step 124 (480, L, .int i :: .ref o :: st, (N, S, H)) = pj_pi 481 L st (N, S, H) (pj_arl (H o) 0 i) := st_iaload q124_480
theorem x124_480 {L : pj_Loc} {st : List Value} {N S : Nat} {H : pj_Heap} {o : Nat} {i : Int32} {o9 : Option Value × pj_Mem} : pj_Ends 124 (480, L, .int i :: .ref o :: st, (N, S, H)) o9 = pj_then 124 o9 (pj_pi 481 L st (N, S, H) (pj_arl (H o) 0 i)) := pj_xt q124_480 rfl (pj_cl_nc rfl) (s124_480)
theorem q124_481 : pj_row 124 481 = some (.aload_n 0, 1, 0, 0, 0) := by decide +kernel
theorem s124_481 {st : List Value} {M : pj_Mem} {l : pj_Loc} {x : Nat} : pj_step 124 (481, some (.ref x) :: l, st, M) = some (482, some (.ref x) :: l, .ref x :: st, M) := st_aload_n q124_481 rfl
theorem x124_481 {st : List Value} {M : pj_Mem} {l : pj_Loc} {x : Nat} {o9 : Option Value × pj_Mem} : pj_Ends 124 (481, some (.ref x) :: l, st, M) o9 = pj_Ends 124 (482, some (.ref x) :: l, .ref x :: st, M) o9 := pj_xs (s124_481)
theorem q124_482 : pj_row 124 482 = some (.iload_n 3, 1, 0, 0, 0) := by decide +kernel
theorem s124_482 {st : List Value} {M : pj_Mem} {l : pj_Loc} {a0 a1 a2 : Option Value} {x : Int32} : pj_step 124 (482, a0 :: a1 :: a2 :: some (.int x) :: l, st, M) = some (483, a0 :: a1 :: a2 :: some (.int x) :: l, .int x :: st, M) := st_iload_n q124_482 rfl
theorem x124_482 {st : List Value} {M : pj_Mem} {l : pj_Loc} {a0 a1 a2 : Option Value} {x : Int32} {o9 : Option Value × pj_Mem} : pj_Ends 124 (482, a0 :: a1 :: a2 :: some (.int x) :: l, st, M) o9 = pj_Ends 124 (483, a0 :: a1 :: a2 :: some (.int x) :: l, .int x :: st, M) o9 := pj_xs (s124_482)
theorem q124_483 : pj_row 124 483 = some (.iconst 3, 1, 0, 0, 0) := by decide +kernel
theorem s124_483 {L : pj_Loc} {st : List Value} {M : pj_Mem}  : pj_step 124 (483, L, st, M) = some (484, L, .int 3 :: st, M) := st_iconst q124_483 (by decide +kernel)
theorem x124_483 {L : pj_Loc} {st : List Value} {M : pj_Mem}  {o9 : Option Value × pj_Mem} : pj_Ends 124 (483, L, st, M) o9 = pj_Ends 124 (484, L, .int 3 :: st, M) o9 := pj_xs (s124_483)
theorem q124_484 : pj_row 124 484 = some (.iadd, 1, 0, 0, 0) := by decide +kernel
theorem s124_484 {L : pj_Loc} {st : List Value} {M : pj_Mem} {x y : Int32} : pj_step 124 (484, L, .int y :: .int x :: st, M) = some (485, L, .int (x + y) :: st, M) := st_iadd q124_484
theorem x124_484 {L : pj_Loc} {st : List Value} {M : pj_Mem} {x y : Int32} {o9 : Option Value × pj_Mem} : pj_Ends 124 (484, L, .int y :: .int x :: st, M) o9 = pj_Ends 124 (485, L, .int (x + y) :: st, M) o9 := pj_xs (s124_484)
theorem q124_485 : pj_row 124 485 = some (.iaload, 1, 0, 0, 0) := by decide +kernel
theorem s124_485 {L : pj_Loc} {st : List Value} {N S : Nat} {H : pj_Heap} {o : Nat} {i : Int32} : pj_step 124 (485, L, .int i :: .ref o :: st, (N, S, H)) = pj_pi 486 L st (N, S, H) (pj_arl (H o) 0 i) := st_iaload q124_485
theorem x124_485 {L : pj_Loc} {st : List Value} {N S : Nat} {H : pj_Heap} {o : Nat} {i : Int32} {o9 : Option Value × pj_Mem} : pj_Ends 124 (485, L, .int i :: .ref o :: st, (N, S, H)) o9 = pj_then 124 o9 (pj_pi 486 L st (N, S, H) (pj_arl (H o) 0 i)) := pj_xt q124_485 rfl (pj_cl_nc rfl) (s124_485)
theorem q124_486 : pj_row 124 486 = some (.aload_n 0, 1, 0, 0, 0) := by decide +kernel
theorem s124_486 {st : List Value} {M : pj_Mem} {l : pj_Loc} {x : Nat} : pj_step 124 (486, some (.ref x) :: l, st, M) = some (487, some (.ref x) :: l, .ref x :: st, M) := st_aload_n q124_486 rfl
theorem x124_486 {st : List Value} {M : pj_Mem} {l : pj_Loc} {x : Nat} {o9 : Option Value × pj_Mem} : pj_Ends 124 (486, some (.ref x) :: l, st, M) o9 = pj_Ends 124 (487, some (.ref x) :: l, .ref x :: st, M) o9 := pj_xs (s124_486)
theorem q124_487 : pj_row 124 487 = some (.iload_n 3, 1, 0, 0, 0) := by decide +kernel
theorem s124_487 {st : List Value} {M : pj_Mem} {l : pj_Loc} {a0 a1 a2 : Option Value} {x : Int32} : pj_step 124 (487, a0 :: a1 :: a2 :: some (.int x) :: l, st, M) = some (488, a0 :: a1 :: a2 :: some (.int x) :: l, .int x :: st, M) := st_iload_n q124_487 rfl
theorem x124_487 {st : List Value} {M : pj_Mem} {l : pj_Loc} {a0 a1 a2 : Option Value} {x : Int32} {o9 : Option Value × pj_Mem} : pj_Ends 124 (487, a0 :: a1 :: a2 :: some (.int x) :: l, st, M) o9 = pj_Ends 124 (488, a0 :: a1 :: a2 :: some (.int x) :: l, .int x :: st, M) o9 := pj_xs (s124_487)
theorem q124_488 : pj_row 124 488 = some (.iconst 4, 1, 0, 0, 0) := by decide +kernel
theorem s124_488 {L : pj_Loc} {st : List Value} {M : pj_Mem}  : pj_step 124 (488, L, st, M) = some (489, L, .int 4 :: st, M) := st_iconst q124_488 (by decide +kernel)
theorem x124_488 {L : pj_Loc} {st : List Value} {M : pj_Mem}  {o9 : Option Value × pj_Mem} : pj_Ends 124 (488, L, st, M) o9 = pj_Ends 124 (489, L, .int 4 :: st, M) o9 := pj_xs (s124_488)
theorem q124_489 : pj_row 124 489 = some (.iadd, 1, 0, 0, 0) := by decide +kernel
theorem s124_489 {L : pj_Loc} {st : List Value} {M : pj_Mem} {x y : Int32} : pj_step 124 (489, L, .int y :: .int x :: st, M) = some (490, L, .int (x + y) :: st, M) := st_iadd q124_489
theorem x124_489 {L : pj_Loc} {st : List Value} {M : pj_Mem} {x y : Int32} {o9 : Option Value × pj_Mem} : pj_Ends 124 (489, L, .int y :: .int x :: st, M) o9 = pj_Ends 124 (490, L, .int (x + y) :: st, M) o9 := pj_xs (s124_489)
theorem q124_490 : pj_row 124 490 = some (.iaload, 1, 0, 0, 0) := by decide +kernel
theorem s124_490 {L : pj_Loc} {st : List Value} {N S : Nat} {H : pj_Heap} {o : Nat} {i : Int32} : pj_step 124 (490, L, .int i :: .ref o :: st, (N, S, H)) = pj_pi 491 L st (N, S, H) (pj_arl (H o) 0 i) := st_iaload q124_490
theorem x124_490 {L : pj_Loc} {st : List Value} {N S : Nat} {H : pj_Heap} {o : Nat} {i : Int32} {o9 : Option Value × pj_Mem} : pj_Ends 124 (490, L, .int i :: .ref o :: st, (N, S, H)) o9 = pj_then 124 o9 (pj_pi 491 L st (N, S, H) (pj_arl (H o) 0 i)) := pj_xt q124_490 rfl (pj_cl_nc rfl) (s124_490)
theorem q124_491 : pj_row 124 491 = some (.ifCond .eq 7, 3, 498, 0, 0) := by decide +kernel
theorem s124_491 {L : pj_Loc} {st : List Value} {M : pj_Mem} {x : Int32} : pj_step 124 (491, L, .int x :: st, M) = some (if x = 0 then 498 else 494, L, st, M) := st_if_eq q124_491
theorem x124_491 {L : pj_Loc} {st : List Value} {M : pj_Mem} {x : Int32} {o9 : Option Value × pj_Mem} : pj_Ends 124 (491, L, .int x :: st, M) o9 = pj_Ends 124 (if x = 0 then 498 else 494, L, st, M) o9 := pj_xs (s124_491)
theorem q124_494 : pj_row 124 494 = some (.iconst 1, 1, 0, 0, 0) := by decide +kernel
theorem s124_494 {L : pj_Loc} {st : List Value} {M : pj_Mem}  : pj_step 124 (494, L, st, M) = some (495, L, .int 1 :: st, M) := st_iconst q124_494 (by decide +kernel)
theorem x124_494 {L : pj_Loc} {st : List Value} {M : pj_Mem}  {o9 : Option Value × pj_Mem} : pj_Ends 124 (494, L, st, M) o9 = pj_Ends 124 (495, L, .int 1 :: st, M) o9 := pj_xs (s124_494)
theorem q124_495 : pj_row 124 495 = some (.goto 4, 3, 499, 0, 0) := by decide +kernel
theorem s124_495 {L : pj_Loc} {st : List Value} {M : pj_Mem}  : pj_step 124 (495, L, st, M) = some (499, L, st, M) := st_goto q124_495
theorem x124_495 {L : pj_Loc} {st : List Value} {M : pj_Mem}  {o9 : Option Value × pj_Mem} : pj_Ends 124 (495, L, st, M) o9 = pj_Ends 124 (499, L, st, M) o9 := pj_xs (s124_495)
theorem q124_498 : pj_row 124 498 = some (.iconst 0, 1, 0, 0, 0) := by decide +kernel
theorem s124_498 {L : pj_Loc} {st : List Value} {M : pj_Mem}  : pj_step 124 (498, L, st, M) = some (499, L, .int 0 :: st, M) := st_iconst q124_498 (by decide +kernel)
theorem x124_498 {L : pj_Loc} {st : List Value} {M : pj_Mem}  {o9 : Option Value × pj_Mem} : pj_Ends 124 (498, L, st, M) o9 = pj_Ends 124 (499, L, .int 0 :: st, M) o9 := pj_xs (s124_498)
theorem q124_499 : pj_row 124 499 = some (.aload_n 0, 1, 0, 0, 0) := by decide +kernel
theorem s124_499 {st : List Value} {M : pj_Mem} {l : pj_Loc} {x : Nat} : pj_step 124 (499, some (.ref x) :: l, st, M) = some (500, some (.ref x) :: l, .ref x :: st, M) := st_aload_n q124_499 rfl
theorem x124_499 {st : List Value} {M : pj_Mem} {l : pj_Loc} {x : Nat} {o9 : Option Value × pj_Mem} : pj_Ends 124 (499, some (.ref x) :: l, st, M) o9 = pj_Ends 124 (500, some (.ref x) :: l, .ref x :: st, M) o9 := pj_xs (s124_499)
theorem q124_500 : pj_row 124 500 = some (.iload_n 3, 1, 0, 0, 0) := by decide +kernel
theorem s124_500 {st : List Value} {M : pj_Mem} {l : pj_Loc} {a0 a1 a2 : Option Value} {x : Int32} : pj_step 124 (500, a0 :: a1 :: a2 :: some (.int x) :: l, st, M) = some (501, a0 :: a1 :: a2 :: some (.int x) :: l, .int x :: st, M) := st_iload_n q124_500 rfl
theorem x124_500 {st : List Value} {M : pj_Mem} {l : pj_Loc} {a0 a1 a2 : Option Value} {x : Int32} {o9 : Option Value × pj_Mem} : pj_Ends 124 (500, a0 :: a1 :: a2 :: some (.int x) :: l, st, M) o9 = pj_Ends 124 (501, a0 :: a1 :: a2 :: some (.int x) :: l, .int x :: st, M) o9 := pj_xs (s124_500)
theorem q124_501 : pj_row 124 501 = some (.iconst 5, 1, 0, 0, 0) := by decide +kernel
theorem s124_501 {L : pj_Loc} {st : List Value} {M : pj_Mem}  : pj_step 124 (501, L, st, M) = some (502, L, .int 5 :: st, M) := st_iconst q124_501 (by decide +kernel)
theorem x124_501 {L : pj_Loc} {st : List Value} {M : pj_Mem}  {o9 : Option Value × pj_Mem} : pj_Ends 124 (501, L, st, M) o9 = pj_Ends 124 (502, L, .int 5 :: st, M) o9 := pj_xs (s124_501)
theorem q124_502 : pj_row 124 502 = some (.iadd, 1, 0, 0, 0) := by decide +kernel
theorem s124_502 {L : pj_Loc} {st : List Value} {M : pj_Mem} {x y : Int32} : pj_step 124 (502, L, .int y :: .int x :: st, M) = some (503, L, .int (x + y) :: st, M) := st_iadd q124_502
theorem x124_502 {L : pj_Loc} {st : List Value} {M : pj_Mem} {x y : Int32} {o9 : Option Value × pj_Mem} : pj_Ends 124 (502, L, .int y :: .int x :: st, M) o9 = pj_Ends 124 (503, L, .int (x + y) :: st, M) o9 := pj_xs (s124_502)
theorem q124_503 : pj_row 124 503 = some (.iaload, 1, 0, 0, 0) := by decide +kernel
theorem s124_503 {L : pj_Loc} {st : List Value} {N S : Nat} {H : pj_Heap} {o : Nat} {i : Int32} : pj_step 124 (503, L, .int i :: .ref o :: st, (N, S, H)) = pj_pi 504 L st (N, S, H) (pj_arl (H o) 0 i) := st_iaload q124_503
theorem x124_503 {L : pj_Loc} {st : List Value} {N S : Nat} {H : pj_Heap} {o : Nat} {i : Int32} {o9 : Option Value × pj_Mem} : pj_Ends 124 (503, L, .int i :: .ref o :: st, (N, S, H)) o9 = pj_then 124 o9 (pj_pi 504 L st (N, S, H) (pj_arl (H o) 0 i)) := pj_xt q124_503 rfl (pj_cl_nc rfl) (s124_503)
theorem q124_504 : pj_row 124 504 = some (.invokevirtual 58, 3, 109, 6, 0) := by decide +kernel
theorem e124_504 {L : pj_Loc} {st : List Value} {N S : Nat} {H : pj_Heap} {o : Option Value × pj_Mem} {M' : pj_Mem} {x0 : Nat} {x1 : Int32} {x2 : Int32} {x3 : Int32} {x4 : Int32} {x5 : Int32} {r : Int32} (h4 : pj_le4 st = true) (hu : pj_isU 6 (H x0) = true) (h1 : pj_Ends 109 (0, [some (.ref x0), some (.int x1), some (.int x2), some (.int x3), some (.int x4), some (.int x5), none, none], [], (N, S, H)) (some (.int r), M')) (h2 : pj_Ends 124 (507, L, .int r :: st, M') o) : pj_Ends 124 (504, L, .int x5 :: .int x4 :: .int x3 :: .int x2 :: .int x1 :: .ref x0 :: st, (N, S, H)) o := ec_v6 q124_504 (Or.inl rfl) h4 hu rfl h1 h2
theorem q124_507 : pj_row 124 507 = some (.if_icmp .eq 238, 3, 745, 0, 0) := by decide +kernel
theorem s124_507 {L : pj_Loc} {st : List Value} {M : pj_Mem} {x y : Int32} : pj_step 124 (507, L, .int y :: .int x :: st, M) = some (if x = y then 745 else 510, L, st, M) := st_icmp_eq q124_507
theorem x124_507 {L : pj_Loc} {st : List Value} {M : pj_Mem} {x y : Int32} {o9 : Option Value × pj_Mem} : pj_Ends 124 (507, L, .int y :: .int x :: st, M) o9 = pj_Ends 124 (if x = y then 745 else 510, L, st, M) o9 := pj_xs (s124_507)
theorem q124_510 : pj_row 124 510 = some (.iconst 0, 1, 0, 0, 0) := by decide +kernel
theorem s124_510 {L : pj_Loc} {st : List Value} {M : pj_Mem}  : pj_step 124 (510, L, st, M) = some (511, L, .int 0 :: st, M) := st_iconst q124_510 (by decide +kernel)
theorem x124_510 {L : pj_Loc} {st : List Value} {M : pj_Mem}  {o9 : Option Value × pj_Mem} : pj_Ends 124 (510, L, st, M) o9 = pj_Ends 124 (511, L, .int 0 :: st, M) o9 := pj_xs (s124_510)
theorem q124_511 : pj_row 124 511 = some (.ireturn, 1, 0, 0, 0) := by decide +kernel
theorem t124_511 {L : pj_Loc} {M : pj_Mem} {v : Int32} (hv : v = 0 ∨ v = 1) : pj_Ends 124 (511, L, [.int v], M) (some (.int v), M) := pj_Ends.ret q124_511 (pj_rtn_z rt124 hv)
theorem q124_512 : pj_row 124 512 = some (.aload_n 1, 1, 0, 0, 0) := by decide +kernel
theorem s124_512 {st : List Value} {M : pj_Mem} {l : pj_Loc} {a0 : Option Value} {x : Nat} : pj_step 124 (512, a0 :: some (.ref x) :: l, st, M) = some (513, a0 :: some (.ref x) :: l, .ref x :: st, M) := st_aload_n q124_512 rfl
theorem x124_512 {st : List Value} {M : pj_Mem} {l : pj_Loc} {a0 : Option Value} {x : Nat} {o9 : Option Value × pj_Mem} : pj_Ends 124 (512, a0 :: some (.ref x) :: l, st, M) o9 = pj_Ends 124 (513, a0 :: some (.ref x) :: l, .ref x :: st, M) o9 := pj_xs (s124_512)
theorem q124_513 : pj_row 124 513 = some (.aload_n 0, 1, 0, 0, 0) := by decide +kernel
theorem s124_513 {st : List Value} {M : pj_Mem} {l : pj_Loc} {x : Nat} : pj_step 124 (513, some (.ref x) :: l, st, M) = some (514, some (.ref x) :: l, .ref x :: st, M) := st_aload_n q124_513 rfl
theorem x124_513 {st : List Value} {M : pj_Mem} {l : pj_Loc} {x : Nat} {o9 : Option Value × pj_Mem} : pj_Ends 124 (513, some (.ref x) :: l, st, M) o9 = pj_Ends 124 (514, some (.ref x) :: l, .ref x :: st, M) o9 := pj_xs (s124_513)
theorem q124_514 : pj_row 124 514 = some (.iload_n 3, 1, 0, 0, 0) := by decide +kernel
theorem s124_514 {st : List Value} {M : pj_Mem} {l : pj_Loc} {a0 a1 a2 : Option Value} {x : Int32} : pj_step 124 (514, a0 :: a1 :: a2 :: some (.int x) :: l, st, M) = some (515, a0 :: a1 :: a2 :: some (.int x) :: l, .int x :: st, M) := st_iload_n q124_514 rfl
theorem x124_514 {st : List Value} {M : pj_Mem} {l : pj_Loc} {a0 a1 a2 : Option Value} {x : Int32} {o9 : Option Value × pj_Mem} : pj_Ends 124 (514, a0 :: a1 :: a2 :: some (.int x) :: l, st, M) o9 = pj_Ends 124 (515, a0 :: a1 :: a2 :: some (.int x) :: l, .int x :: st, M) o9 := pj_xs (s124_514)
theorem q124_515 : pj_row 124 515 = some (.iconst 1, 1, 0, 0, 0) := by decide +kernel
theorem s124_515 {L : pj_Loc} {st : List Value} {M : pj_Mem}  : pj_step 124 (515, L, st, M) = some (516, L, .int 1 :: st, M) := st_iconst q124_515 (by decide +kernel)
theorem x124_515 {L : pj_Loc} {st : List Value} {M : pj_Mem}  {o9 : Option Value × pj_Mem} : pj_Ends 124 (515, L, st, M) o9 = pj_Ends 124 (516, L, .int 1 :: st, M) o9 := pj_xs (s124_515)
theorem q124_516 : pj_row 124 516 = some (.iadd, 1, 0, 0, 0) := by decide +kernel
theorem s124_516 {L : pj_Loc} {st : List Value} {M : pj_Mem} {x y : Int32} : pj_step 124 (516, L, .int y :: .int x :: st, M) = some (517, L, .int (x + y) :: st, M) := st_iadd q124_516
theorem x124_516 {L : pj_Loc} {st : List Value} {M : pj_Mem} {x y : Int32} {o9 : Option Value × pj_Mem} : pj_Ends 124 (516, L, .int y :: .int x :: st, M) o9 = pj_Ends 124 (517, L, .int (x + y) :: st, M) o9 := pj_xs (s124_516)
theorem q124_517 : pj_row 124 517 = some (.iaload, 1, 0, 0, 0) := by decide +kernel
theorem s124_517 {L : pj_Loc} {st : List Value} {N S : Nat} {H : pj_Heap} {o : Nat} {i : Int32} : pj_step 124 (517, L, .int i :: .ref o :: st, (N, S, H)) = pj_pi 518 L st (N, S, H) (pj_arl (H o) 0 i) := st_iaload q124_517
theorem x124_517 {L : pj_Loc} {st : List Value} {N S : Nat} {H : pj_Heap} {o : Nat} {i : Int32} {o9 : Option Value × pj_Mem} : pj_Ends 124 (517, L, .int i :: .ref o :: st, (N, S, H)) o9 = pj_then 124 o9 (pj_pi 518 L st (N, S, H) (pj_arl (H o) 0 i)) := pj_xt q124_517 rfl (pj_cl_nc rfl) (s124_517)
theorem q124_518 : pj_row 124 518 = some (.aload_n 0, 1, 0, 0, 0) := by decide +kernel
theorem s124_518 {st : List Value} {M : pj_Mem} {l : pj_Loc} {x : Nat} : pj_step 124 (518, some (.ref x) :: l, st, M) = some (519, some (.ref x) :: l, .ref x :: st, M) := st_aload_n q124_518 rfl
theorem x124_518 {st : List Value} {M : pj_Mem} {l : pj_Loc} {x : Nat} {o9 : Option Value × pj_Mem} : pj_Ends 124 (518, some (.ref x) :: l, st, M) o9 = pj_Ends 124 (519, some (.ref x) :: l, .ref x :: st, M) o9 := pj_xs (s124_518)
theorem q124_519 : pj_row 124 519 = some (.iload_n 3, 1, 0, 0, 0) := by decide +kernel
theorem s124_519 {st : List Value} {M : pj_Mem} {l : pj_Loc} {a0 a1 a2 : Option Value} {x : Int32} : pj_step 124 (519, a0 :: a1 :: a2 :: some (.int x) :: l, st, M) = some (520, a0 :: a1 :: a2 :: some (.int x) :: l, .int x :: st, M) := st_iload_n q124_519 rfl
theorem x124_519 {st : List Value} {M : pj_Mem} {l : pj_Loc} {a0 a1 a2 : Option Value} {x : Int32} {o9 : Option Value × pj_Mem} : pj_Ends 124 (519, a0 :: a1 :: a2 :: some (.int x) :: l, st, M) o9 = pj_Ends 124 (520, a0 :: a1 :: a2 :: some (.int x) :: l, .int x :: st, M) o9 := pj_xs (s124_519)
theorem q124_520 : pj_row 124 520 = some (.iconst 2, 1, 0, 0, 0) := by decide +kernel
theorem s124_520 {L : pj_Loc} {st : List Value} {M : pj_Mem}  : pj_step 124 (520, L, st, M) = some (521, L, .int 2 :: st, M) := st_iconst q124_520 (by decide +kernel)
theorem x124_520 {L : pj_Loc} {st : List Value} {M : pj_Mem}  {o9 : Option Value × pj_Mem} : pj_Ends 124 (520, L, st, M) o9 = pj_Ends 124 (521, L, .int 2 :: st, M) o9 := pj_xs (s124_520)
theorem q124_521 : pj_row 124 521 = some (.iadd, 1, 0, 0, 0) := by decide +kernel
theorem s124_521 {L : pj_Loc} {st : List Value} {M : pj_Mem} {x y : Int32} : pj_step 124 (521, L, .int y :: .int x :: st, M) = some (522, L, .int (x + y) :: st, M) := st_iadd q124_521
theorem x124_521 {L : pj_Loc} {st : List Value} {M : pj_Mem} {x y : Int32} {o9 : Option Value × pj_Mem} : pj_Ends 124 (521, L, .int y :: .int x :: st, M) o9 = pj_Ends 124 (522, L, .int (x + y) :: st, M) o9 := pj_xs (s124_521)
theorem q124_522 : pj_row 124 522 = some (.iaload, 1, 0, 0, 0) := by decide +kernel
theorem s124_522 {L : pj_Loc} {st : List Value} {N S : Nat} {H : pj_Heap} {o : Nat} {i : Int32} : pj_step 124 (522, L, .int i :: .ref o :: st, (N, S, H)) = pj_pi 523 L st (N, S, H) (pj_arl (H o) 0 i) := st_iaload q124_522
theorem x124_522 {L : pj_Loc} {st : List Value} {N S : Nat} {H : pj_Heap} {o : Nat} {i : Int32} {o9 : Option Value × pj_Mem} : pj_Ends 124 (522, L, .int i :: .ref o :: st, (N, S, H)) o9 = pj_then 124 o9 (pj_pi 523 L st (N, S, H) (pj_arl (H o) 0 i)) := pj_xt q124_522 rfl (pj_cl_nc rfl) (s124_522)
theorem q124_523 : pj_row 124 523 = some (.ifCond .eq 7, 3, 530, 0, 0) := by decide +kernel
theorem s124_523 {L : pj_Loc} {st : List Value} {M : pj_Mem} {x : Int32} : pj_step 124 (523, L, .int x :: st, M) = some (if x = 0 then 530 else 526, L, st, M) := st_if_eq q124_523
theorem x124_523 {L : pj_Loc} {st : List Value} {M : pj_Mem} {x : Int32} {o9 : Option Value × pj_Mem} : pj_Ends 124 (523, L, .int x :: st, M) o9 = pj_Ends 124 (if x = 0 then 530 else 526, L, st, M) o9 := pj_xs (s124_523)
theorem q124_526 : pj_row 124 526 = some (.iconst 1, 1, 0, 0, 0) := by decide +kernel
theorem s124_526 {L : pj_Loc} {st : List Value} {M : pj_Mem}  : pj_step 124 (526, L, st, M) = some (527, L, .int 1 :: st, M) := st_iconst q124_526 (by decide +kernel)
theorem x124_526 {L : pj_Loc} {st : List Value} {M : pj_Mem}  {o9 : Option Value × pj_Mem} : pj_Ends 124 (526, L, st, M) o9 = pj_Ends 124 (527, L, .int 1 :: st, M) o9 := pj_xs (s124_526)
theorem q124_527 : pj_row 124 527 = some (.goto 4, 3, 531, 0, 0) := by decide +kernel
theorem s124_527 {L : pj_Loc} {st : List Value} {M : pj_Mem}  : pj_step 124 (527, L, st, M) = some (531, L, st, M) := st_goto q124_527
theorem x124_527 {L : pj_Loc} {st : List Value} {M : pj_Mem}  {o9 : Option Value × pj_Mem} : pj_Ends 124 (527, L, st, M) o9 = pj_Ends 124 (531, L, st, M) o9 := pj_xs (s124_527)
theorem q124_530 : pj_row 124 530 = some (.iconst 0, 1, 0, 0, 0) := by decide +kernel
theorem s124_530 {L : pj_Loc} {st : List Value} {M : pj_Mem}  : pj_step 124 (530, L, st, M) = some (531, L, .int 0 :: st, M) := st_iconst q124_530 (by decide +kernel)
theorem x124_530 {L : pj_Loc} {st : List Value} {M : pj_Mem}  {o9 : Option Value × pj_Mem} : pj_Ends 124 (530, L, st, M) o9 = pj_Ends 124 (531, L, .int 0 :: st, M) o9 := pj_xs (s124_530)
theorem q124_531 : pj_row 124 531 = some (.invokevirtual 59, 3, 49, 3, 0) := by decide +kernel
theorem e124_531 {L : pj_Loc} {st : List Value} {N S : Nat} {H : pj_Heap} {o : Option Value × pj_Mem} {M' : pj_Mem} {x0 : Nat} {x1 : Int32} {x2 : Int32} {r : Int32} (h4 : pj_le4 st = true) (hu : pj_isU 5 (H x0) = true) (h1 : pj_Ends 49 (0, [some (.ref x0), some (.int x1), some (.int x2), none], [], (N, S, H)) (some (.int r), M')) (h2 : pj_Ends 124 (534, L, .int r :: st, M') o) : pj_Ends 124 (531, L, .int x2 :: .int x1 :: .ref x0 :: st, (N, S, H)) o := ec_v3 q124_531 (Or.inl rfl) h4 hu rfl h1 h2
theorem q124_534 : pj_row 124 534 = some (.aload_n 2, 1, 0, 0, 0) := by decide +kernel
theorem s124_534 {st : List Value} {M : pj_Mem} {l : pj_Loc} {a0 a1 : Option Value} {x : Nat} : pj_step 124 (534, a0 :: a1 :: some (.ref x) :: l, st, M) = some (535, a0 :: a1 :: some (.ref x) :: l, .ref x :: st, M) := st_aload_n q124_534 rfl
theorem x124_534 {st : List Value} {M : pj_Mem} {l : pj_Loc} {a0 a1 : Option Value} {x : Nat} {o9 : Option Value × pj_Mem} : pj_Ends 124 (534, a0 :: a1 :: some (.ref x) :: l, st, M) o9 = pj_Ends 124 (535, a0 :: a1 :: some (.ref x) :: l, .ref x :: st, M) o9 := pj_xs (s124_534)
theorem q124_535 : pj_row 124 535 = some (.aload_n 0, 1, 0, 0, 0) := by decide +kernel
theorem s124_535 {st : List Value} {M : pj_Mem} {l : pj_Loc} {x : Nat} : pj_step 124 (535, some (.ref x) :: l, st, M) = some (536, some (.ref x) :: l, .ref x :: st, M) := st_aload_n q124_535 rfl
theorem x124_535 {st : List Value} {M : pj_Mem} {l : pj_Loc} {x : Nat} {o9 : Option Value × pj_Mem} : pj_Ends 124 (535, some (.ref x) :: l, st, M) o9 = pj_Ends 124 (536, some (.ref x) :: l, .ref x :: st, M) o9 := pj_xs (s124_535)
theorem q124_536 : pj_row 124 536 = some (.iload_n 3, 1, 0, 0, 0) := by decide +kernel
theorem s124_536 {st : List Value} {M : pj_Mem} {l : pj_Loc} {a0 a1 a2 : Option Value} {x : Int32} : pj_step 124 (536, a0 :: a1 :: a2 :: some (.int x) :: l, st, M) = some (537, a0 :: a1 :: a2 :: some (.int x) :: l, .int x :: st, M) := st_iload_n q124_536 rfl
theorem x124_536 {st : List Value} {M : pj_Mem} {l : pj_Loc} {a0 a1 a2 : Option Value} {x : Int32} {o9 : Option Value × pj_Mem} : pj_Ends 124 (536, a0 :: a1 :: a2 :: some (.int x) :: l, st, M) o9 = pj_Ends 124 (537, a0 :: a1 :: a2 :: some (.int x) :: l, .int x :: st, M) o9 := pj_xs (s124_536)
theorem q124_537 : pj_row 124 537 = some (.iconst 1, 1, 0, 0, 0) := by decide +kernel
theorem s124_537 {L : pj_Loc} {st : List Value} {M : pj_Mem}  : pj_step 124 (537, L, st, M) = some (538, L, .int 1 :: st, M) := st_iconst q124_537 (by decide +kernel)
theorem x124_537 {L : pj_Loc} {st : List Value} {M : pj_Mem}  {o9 : Option Value × pj_Mem} : pj_Ends 124 (537, L, st, M) o9 = pj_Ends 124 (538, L, .int 1 :: st, M) o9 := pj_xs (s124_537)
theorem q124_538 : pj_row 124 538 = some (.iadd, 1, 0, 0, 0) := by decide +kernel
theorem s124_538 {L : pj_Loc} {st : List Value} {M : pj_Mem} {x y : Int32} : pj_step 124 (538, L, .int y :: .int x :: st, M) = some (539, L, .int (x + y) :: st, M) := st_iadd q124_538
theorem x124_538 {L : pj_Loc} {st : List Value} {M : pj_Mem} {x y : Int32} {o9 : Option Value × pj_Mem} : pj_Ends 124 (538, L, .int y :: .int x :: st, M) o9 = pj_Ends 124 (539, L, .int (x + y) :: st, M) o9 := pj_xs (s124_538)
theorem q124_539 : pj_row 124 539 = some (.iaload, 1, 0, 0, 0) := by decide +kernel
theorem s124_539 {L : pj_Loc} {st : List Value} {N S : Nat} {H : pj_Heap} {o : Nat} {i : Int32} : pj_step 124 (539, L, .int i :: .ref o :: st, (N, S, H)) = pj_pi 540 L st (N, S, H) (pj_arl (H o) 0 i) := st_iaload q124_539
theorem x124_539 {L : pj_Loc} {st : List Value} {N S : Nat} {H : pj_Heap} {o : Nat} {i : Int32} {o9 : Option Value × pj_Mem} : pj_Ends 124 (539, L, .int i :: .ref o :: st, (N, S, H)) o9 = pj_then 124 o9 (pj_pi 540 L st (N, S, H) (pj_arl (H o) 0 i)) := pj_xt q124_539 rfl (pj_cl_nc rfl) (s124_539)
theorem q124_540 : pj_row 124 540 = some (.aload_n 0, 1, 0, 0, 0) := by decide +kernel
theorem s124_540 {st : List Value} {M : pj_Mem} {l : pj_Loc} {x : Nat} : pj_step 124 (540, some (.ref x) :: l, st, M) = some (541, some (.ref x) :: l, .ref x :: st, M) := st_aload_n q124_540 rfl
theorem x124_540 {st : List Value} {M : pj_Mem} {l : pj_Loc} {x : Nat} {o9 : Option Value × pj_Mem} : pj_Ends 124 (540, some (.ref x) :: l, st, M) o9 = pj_Ends 124 (541, some (.ref x) :: l, .ref x :: st, M) o9 := pj_xs (s124_540)
theorem q124_541 : pj_row 124 541 = some (.iload_n 3, 1, 0, 0, 0) := by decide +kernel
theorem s124_541 {st : List Value} {M : pj_Mem} {l : pj_Loc} {a0 a1 a2 : Option Value} {x : Int32} : pj_step 124 (541, a0 :: a1 :: a2 :: some (.int x) :: l, st, M) = some (542, a0 :: a1 :: a2 :: some (.int x) :: l, .int x :: st, M) := st_iload_n q124_541 rfl
theorem x124_541 {st : List Value} {M : pj_Mem} {l : pj_Loc} {a0 a1 a2 : Option Value} {x : Int32} {o9 : Option Value × pj_Mem} : pj_Ends 124 (541, a0 :: a1 :: a2 :: some (.int x) :: l, st, M) o9 = pj_Ends 124 (542, a0 :: a1 :: a2 :: some (.int x) :: l, .int x :: st, M) o9 := pj_xs (s124_541)
theorem q124_542 : pj_row 124 542 = some (.iconst 2, 1, 0, 0, 0) := by decide +kernel
theorem s124_542 {L : pj_Loc} {st : List Value} {M : pj_Mem}  : pj_step 124 (542, L, st, M) = some (543, L, .int 2 :: st, M) := st_iconst q124_542 (by decide +kernel)
theorem x124_542 {L : pj_Loc} {st : List Value} {M : pj_Mem}  {o9 : Option Value × pj_Mem} : pj_Ends 124 (542, L, st, M) o9 = pj_Ends 124 (543, L, .int 2 :: st, M) o9 := pj_xs (s124_542)
theorem q124_543 : pj_row 124 543 = some (.iadd, 1, 0, 0, 0) := by decide +kernel
theorem s124_543 {L : pj_Loc} {st : List Value} {M : pj_Mem} {x y : Int32} : pj_step 124 (543, L, .int y :: .int x :: st, M) = some (544, L, .int (x + y) :: st, M) := st_iadd q124_543
theorem x124_543 {L : pj_Loc} {st : List Value} {M : pj_Mem} {x y : Int32} {o9 : Option Value × pj_Mem} : pj_Ends 124 (543, L, .int y :: .int x :: st, M) o9 = pj_Ends 124 (544, L, .int (x + y) :: st, M) o9 := pj_xs (s124_543)
theorem q124_544 : pj_row 124 544 = some (.iaload, 1, 0, 0, 0) := by decide +kernel
theorem s124_544 {L : pj_Loc} {st : List Value} {N S : Nat} {H : pj_Heap} {o : Nat} {i : Int32} : pj_step 124 (544, L, .int i :: .ref o :: st, (N, S, H)) = pj_pi 545 L st (N, S, H) (pj_arl (H o) 0 i) := st_iaload q124_544
theorem x124_544 {L : pj_Loc} {st : List Value} {N S : Nat} {H : pj_Heap} {o : Nat} {i : Int32} {o9 : Option Value × pj_Mem} : pj_Ends 124 (544, L, .int i :: .ref o :: st, (N, S, H)) o9 = pj_then 124 o9 (pj_pi 545 L st (N, S, H) (pj_arl (H o) 0 i)) := pj_xt q124_544 rfl (pj_cl_nc rfl) (s124_544)
theorem q124_545 : pj_row 124 545 = some (.ifCond .eq 7, 3, 552, 0, 0) := by decide +kernel
theorem s124_545 {L : pj_Loc} {st : List Value} {M : pj_Mem} {x : Int32} : pj_step 124 (545, L, .int x :: st, M) = some (if x = 0 then 552 else 548, L, st, M) := st_if_eq q124_545
theorem x124_545 {L : pj_Loc} {st : List Value} {M : pj_Mem} {x : Int32} {o9 : Option Value × pj_Mem} : pj_Ends 124 (545, L, .int x :: st, M) o9 = pj_Ends 124 (if x = 0 then 552 else 548, L, st, M) o9 := pj_xs (s124_545)
theorem q124_548 : pj_row 124 548 = some (.iconst 1, 1, 0, 0, 0) := by decide +kernel
theorem s124_548 {L : pj_Loc} {st : List Value} {M : pj_Mem}  : pj_step 124 (548, L, st, M) = some (549, L, .int 1 :: st, M) := st_iconst q124_548 (by decide +kernel)
theorem x124_548 {L : pj_Loc} {st : List Value} {M : pj_Mem}  {o9 : Option Value × pj_Mem} : pj_Ends 124 (548, L, st, M) o9 = pj_Ends 124 (549, L, .int 1 :: st, M) o9 := pj_xs (s124_548)
theorem q124_549 : pj_row 124 549 = some (.goto 4, 3, 553, 0, 0) := by decide +kernel
theorem s124_549 {L : pj_Loc} {st : List Value} {M : pj_Mem}  : pj_step 124 (549, L, st, M) = some (553, L, st, M) := st_goto q124_549
theorem x124_549 {L : pj_Loc} {st : List Value} {M : pj_Mem}  {o9 : Option Value × pj_Mem} : pj_Ends 124 (549, L, st, M) o9 = pj_Ends 124 (553, L, st, M) o9 := pj_xs (s124_549)
theorem q124_552 : pj_row 124 552 = some (.iconst 0, 1, 0, 0, 0) := by decide +kernel
theorem s124_552 {L : pj_Loc} {st : List Value} {M : pj_Mem}  : pj_step 124 (552, L, st, M) = some (553, L, .int 0 :: st, M) := st_iconst q124_552 (by decide +kernel)
theorem x124_552 {L : pj_Loc} {st : List Value} {M : pj_Mem}  {o9 : Option Value × pj_Mem} : pj_Ends 124 (552, L, st, M) o9 = pj_Ends 124 (553, L, .int 0 :: st, M) o9 := pj_xs (s124_552)
theorem q124_553 : pj_row 124 553 = some (.invokevirtual 62, 3, 111, 3, 0) := by decide +kernel
theorem e124_553 {L : pj_Loc} {st : List Value} {N S : Nat} {H : pj_Heap} {o : Option Value × pj_Mem} {M' : pj_Mem} {x0 : Nat} {x1 : Int32} {x2 : Int32} {r : Int32} (h4 : pj_le4 st = true) (hu : pj_isU 6 (H x0) = true) (h1 : pj_Ends 111 (0, [some (.ref x0), some (.int x1), some (.int x2), none], [], (N, S, H)) (some (.int r), M')) (h2 : pj_Ends 124 (556, L, .int r :: st, M') o) : pj_Ends 124 (553, L, .int x2 :: .int x1 :: .ref x0 :: st, (N, S, H)) o := ec_v3 q124_553 (Or.inl rfl) h4 hu rfl h1 h2
theorem q124_556 : pj_row 124 556 = some (.if_icmp .eq 189, 3, 745, 0, 0) := by decide +kernel
theorem s124_556 {L : pj_Loc} {st : List Value} {M : pj_Mem} {x y : Int32} : pj_step 124 (556, L, .int y :: .int x :: st, M) = some (if x = y then 745 else 559, L, st, M) := st_icmp_eq q124_556
theorem x124_556 {L : pj_Loc} {st : List Value} {M : pj_Mem} {x y : Int32} {o9 : Option Value × pj_Mem} : pj_Ends 124 (556, L, .int y :: .int x :: st, M) o9 = pj_Ends 124 (if x = y then 745 else 559, L, st, M) o9 := pj_xs (s124_556)
theorem q124_559 : pj_row 124 559 = some (.iconst 0, 1, 0, 0, 0) := by decide +kernel
theorem s124_559 {L : pj_Loc} {st : List Value} {M : pj_Mem}  : pj_step 124 (559, L, st, M) = some (560, L, .int 0 :: st, M) := st_iconst q124_559 (by decide +kernel)
theorem x124_559 {L : pj_Loc} {st : List Value} {M : pj_Mem}  {o9 : Option Value × pj_Mem} : pj_Ends 124 (559, L, st, M) o9 = pj_Ends 124 (560, L, .int 0 :: st, M) o9 := pj_xs (s124_559)
theorem q124_560 : pj_row 124 560 = some (.ireturn, 1, 0, 0, 0) := by decide +kernel
theorem t124_560 {L : pj_Loc} {M : pj_Mem} {v : Int32} (hv : v = 0 ∨ v = 1) : pj_Ends 124 (560, L, [.int v], M) (some (.int v), M) := pj_Ends.ret q124_560 (pj_rtn_z rt124 hv)
theorem q124_561 : pj_row 124 561 = some (.aload_n 1, 1, 0, 0, 0) := by decide +kernel
theorem s124_561 {st : List Value} {M : pj_Mem} {l : pj_Loc} {a0 : Option Value} {x : Nat} : pj_step 124 (561, a0 :: some (.ref x) :: l, st, M) = some (562, a0 :: some (.ref x) :: l, .ref x :: st, M) := st_aload_n q124_561 rfl
theorem x124_561 {st : List Value} {M : pj_Mem} {l : pj_Loc} {a0 : Option Value} {x : Nat} {o9 : Option Value × pj_Mem} : pj_Ends 124 (561, a0 :: some (.ref x) :: l, st, M) o9 = pj_Ends 124 (562, a0 :: some (.ref x) :: l, .ref x :: st, M) o9 := pj_xs (s124_561)
theorem q124_562 : pj_row 124 562 = some (.aload_n 0, 1, 0, 0, 0) := by decide +kernel
theorem s124_562 {st : List Value} {M : pj_Mem} {l : pj_Loc} {x : Nat} : pj_step 124 (562, some (.ref x) :: l, st, M) = some (563, some (.ref x) :: l, .ref x :: st, M) := st_aload_n q124_562 rfl
theorem x124_562 {st : List Value} {M : pj_Mem} {l : pj_Loc} {x : Nat} {o9 : Option Value × pj_Mem} : pj_Ends 124 (562, some (.ref x) :: l, st, M) o9 = pj_Ends 124 (563, some (.ref x) :: l, .ref x :: st, M) o9 := pj_xs (s124_562)
theorem q124_563 : pj_row 124 563 = some (.iload_n 3, 1, 0, 0, 0) := by decide +kernel
theorem s124_563 {st : List Value} {M : pj_Mem} {l : pj_Loc} {a0 a1 a2 : Option Value} {x : Int32} : pj_step 124 (563, a0 :: a1 :: a2 :: some (.int x) :: l, st, M) = some (564, a0 :: a1 :: a2 :: some (.int x) :: l, .int x :: st, M) := st_iload_n q124_563 rfl
theorem x124_563 {st : List Value} {M : pj_Mem} {l : pj_Loc} {a0 a1 a2 : Option Value} {x : Int32} {o9 : Option Value × pj_Mem} : pj_Ends 124 (563, a0 :: a1 :: a2 :: some (.int x) :: l, st, M) o9 = pj_Ends 124 (564, a0 :: a1 :: a2 :: some (.int x) :: l, .int x :: st, M) o9 := pj_xs (s124_563)
theorem q124_564 : pj_row 124 564 = some (.iconst 1, 1, 0, 0, 0) := by decide +kernel
theorem s124_564 {L : pj_Loc} {st : List Value} {M : pj_Mem}  : pj_step 124 (564, L, st, M) = some (565, L, .int 1 :: st, M) := st_iconst q124_564 (by decide +kernel)
theorem x124_564 {L : pj_Loc} {st : List Value} {M : pj_Mem}  {o9 : Option Value × pj_Mem} : pj_Ends 124 (564, L, st, M) o9 = pj_Ends 124 (565, L, .int 1 :: st, M) o9 := pj_xs (s124_564)
theorem q124_565 : pj_row 124 565 = some (.iadd, 1, 0, 0, 0) := by decide +kernel
theorem s124_565 {L : pj_Loc} {st : List Value} {M : pj_Mem} {x y : Int32} : pj_step 124 (565, L, .int y :: .int x :: st, M) = some (566, L, .int (x + y) :: st, M) := st_iadd q124_565
theorem x124_565 {L : pj_Loc} {st : List Value} {M : pj_Mem} {x y : Int32} {o9 : Option Value × pj_Mem} : pj_Ends 124 (565, L, .int y :: .int x :: st, M) o9 = pj_Ends 124 (566, L, .int (x + y) :: st, M) o9 := pj_xs (s124_565)
theorem q124_566 : pj_row 124 566 = some (.iaload, 1, 0, 0, 0) := by decide +kernel
theorem s124_566 {L : pj_Loc} {st : List Value} {N S : Nat} {H : pj_Heap} {o : Nat} {i : Int32} : pj_step 124 (566, L, .int i :: .ref o :: st, (N, S, H)) = pj_pi 567 L st (N, S, H) (pj_arl (H o) 0 i) := st_iaload q124_566
theorem x124_566 {L : pj_Loc} {st : List Value} {N S : Nat} {H : pj_Heap} {o : Nat} {i : Int32} {o9 : Option Value × pj_Mem} : pj_Ends 124 (566, L, .int i :: .ref o :: st, (N, S, H)) o9 = pj_then 124 o9 (pj_pi 567 L st (N, S, H) (pj_arl (H o) 0 i)) := pj_xt q124_566 rfl (pj_cl_nc rfl) (s124_566)
theorem q124_567 : pj_row 124 567 = some (.aload_n 0, 1, 0, 0, 0) := by decide +kernel
theorem s124_567 {st : List Value} {M : pj_Mem} {l : pj_Loc} {x : Nat} : pj_step 124 (567, some (.ref x) :: l, st, M) = some (568, some (.ref x) :: l, .ref x :: st, M) := st_aload_n q124_567 rfl
theorem x124_567 {st : List Value} {M : pj_Mem} {l : pj_Loc} {x : Nat} {o9 : Option Value × pj_Mem} : pj_Ends 124 (567, some (.ref x) :: l, st, M) o9 = pj_Ends 124 (568, some (.ref x) :: l, .ref x :: st, M) o9 := pj_xs (s124_567)
theorem q124_568 : pj_row 124 568 = some (.iload_n 3, 1, 0, 0, 0) := by decide +kernel
theorem s124_568 {st : List Value} {M : pj_Mem} {l : pj_Loc} {a0 a1 a2 : Option Value} {x : Int32} : pj_step 124 (568, a0 :: a1 :: a2 :: some (.int x) :: l, st, M) = some (569, a0 :: a1 :: a2 :: some (.int x) :: l, .int x :: st, M) := st_iload_n q124_568 rfl
theorem x124_568 {st : List Value} {M : pj_Mem} {l : pj_Loc} {a0 a1 a2 : Option Value} {x : Int32} {o9 : Option Value × pj_Mem} : pj_Ends 124 (568, a0 :: a1 :: a2 :: some (.int x) :: l, st, M) o9 = pj_Ends 124 (569, a0 :: a1 :: a2 :: some (.int x) :: l, .int x :: st, M) o9 := pj_xs (s124_568)
theorem q124_569 : pj_row 124 569 = some (.iconst 2, 1, 0, 0, 0) := by decide +kernel
theorem s124_569 {L : pj_Loc} {st : List Value} {M : pj_Mem}  : pj_step 124 (569, L, st, M) = some (570, L, .int 2 :: st, M) := st_iconst q124_569 (by decide +kernel)
theorem x124_569 {L : pj_Loc} {st : List Value} {M : pj_Mem}  {o9 : Option Value × pj_Mem} : pj_Ends 124 (569, L, st, M) o9 = pj_Ends 124 (570, L, .int 2 :: st, M) o9 := pj_xs (s124_569)
theorem q124_570 : pj_row 124 570 = some (.iadd, 1, 0, 0, 0) := by decide +kernel
theorem s124_570 {L : pj_Loc} {st : List Value} {M : pj_Mem} {x y : Int32} : pj_step 124 (570, L, .int y :: .int x :: st, M) = some (571, L, .int (x + y) :: st, M) := st_iadd q124_570
theorem x124_570 {L : pj_Loc} {st : List Value} {M : pj_Mem} {x y : Int32} {o9 : Option Value × pj_Mem} : pj_Ends 124 (570, L, .int y :: .int x :: st, M) o9 = pj_Ends 124 (571, L, .int (x + y) :: st, M) o9 := pj_xs (s124_570)
theorem q124_571 : pj_row 124 571 = some (.iaload, 1, 0, 0, 0) := by decide +kernel
theorem s124_571 {L : pj_Loc} {st : List Value} {N S : Nat} {H : pj_Heap} {o : Nat} {i : Int32} : pj_step 124 (571, L, .int i :: .ref o :: st, (N, S, H)) = pj_pi 572 L st (N, S, H) (pj_arl (H o) 0 i) := st_iaload q124_571
theorem x124_571 {L : pj_Loc} {st : List Value} {N S : Nat} {H : pj_Heap} {o : Nat} {i : Int32} {o9 : Option Value × pj_Mem} : pj_Ends 124 (571, L, .int i :: .ref o :: st, (N, S, H)) o9 = pj_then 124 o9 (pj_pi 572 L st (N, S, H) (pj_arl (H o) 0 i)) := pj_xt q124_571 rfl (pj_cl_nc rfl) (s124_571)
theorem q124_572 : pj_row 124 572 = some (.invokevirtual 63, 3, 50, 3, 0) := by decide +kernel
theorem e124_572 {L : pj_Loc} {st : List Value} {N S : Nat} {H : pj_Heap} {o : Option Value × pj_Mem} {M' : pj_Mem} {x0 : Nat} {x1 : Int32} {x2 : Int32} {r : Int32} (h4 : pj_le4 st = true) (hu : pj_isU 5 (H x0) = true) (h1 : pj_Ends 50 (0, [some (.ref x0), some (.int x1), some (.int x2), none], [], (N, S, H)) (some (.int r), M')) (h2 : pj_Ends 124 (575, L, .int r :: st, M') o) : pj_Ends 124 (572, L, .int x2 :: .int x1 :: .ref x0 :: st, (N, S, H)) o := ec_v3 q124_572 (Or.inl rfl) h4 hu rfl h1 h2
theorem q124_575 : pj_row 124 575 = some (.aload_n 2, 1, 0, 0, 0) := by decide +kernel
theorem s124_575 {st : List Value} {M : pj_Mem} {l : pj_Loc} {a0 a1 : Option Value} {x : Nat} : pj_step 124 (575, a0 :: a1 :: some (.ref x) :: l, st, M) = some (576, a0 :: a1 :: some (.ref x) :: l, .ref x :: st, M) := st_aload_n q124_575 rfl
theorem x124_575 {st : List Value} {M : pj_Mem} {l : pj_Loc} {a0 a1 : Option Value} {x : Nat} {o9 : Option Value × pj_Mem} : pj_Ends 124 (575, a0 :: a1 :: some (.ref x) :: l, st, M) o9 = pj_Ends 124 (576, a0 :: a1 :: some (.ref x) :: l, .ref x :: st, M) o9 := pj_xs (s124_575)
theorem q124_576 : pj_row 124 576 = some (.aload_n 0, 1, 0, 0, 0) := by decide +kernel
theorem s124_576 {st : List Value} {M : pj_Mem} {l : pj_Loc} {x : Nat} : pj_step 124 (576, some (.ref x) :: l, st, M) = some (577, some (.ref x) :: l, .ref x :: st, M) := st_aload_n q124_576 rfl
theorem x124_576 {st : List Value} {M : pj_Mem} {l : pj_Loc} {x : Nat} {o9 : Option Value × pj_Mem} : pj_Ends 124 (576, some (.ref x) :: l, st, M) o9 = pj_Ends 124 (577, some (.ref x) :: l, .ref x :: st, M) o9 := pj_xs (s124_576)
theorem q124_577 : pj_row 124 577 = some (.iload_n 3, 1, 0, 0, 0) := by decide +kernel
theorem s124_577 {st : List Value} {M : pj_Mem} {l : pj_Loc} {a0 a1 a2 : Option Value} {x : Int32} : pj_step 124 (577, a0 :: a1 :: a2 :: some (.int x) :: l, st, M) = some (578, a0 :: a1 :: a2 :: some (.int x) :: l, .int x :: st, M) := st_iload_n q124_577 rfl
theorem x124_577 {st : List Value} {M : pj_Mem} {l : pj_Loc} {a0 a1 a2 : Option Value} {x : Int32} {o9 : Option Value × pj_Mem} : pj_Ends 124 (577, a0 :: a1 :: a2 :: some (.int x) :: l, st, M) o9 = pj_Ends 124 (578, a0 :: a1 :: a2 :: some (.int x) :: l, .int x :: st, M) o9 := pj_xs (s124_577)
theorem q124_578 : pj_row 124 578 = some (.iconst 1, 1, 0, 0, 0) := by decide +kernel
theorem s124_578 {L : pj_Loc} {st : List Value} {M : pj_Mem}  : pj_step 124 (578, L, st, M) = some (579, L, .int 1 :: st, M) := st_iconst q124_578 (by decide +kernel)
theorem x124_578 {L : pj_Loc} {st : List Value} {M : pj_Mem}  {o9 : Option Value × pj_Mem} : pj_Ends 124 (578, L, st, M) o9 = pj_Ends 124 (579, L, .int 1 :: st, M) o9 := pj_xs (s124_578)
theorem q124_579 : pj_row 124 579 = some (.iadd, 1, 0, 0, 0) := by decide +kernel
theorem s124_579 {L : pj_Loc} {st : List Value} {M : pj_Mem} {x y : Int32} : pj_step 124 (579, L, .int y :: .int x :: st, M) = some (580, L, .int (x + y) :: st, M) := st_iadd q124_579
theorem x124_579 {L : pj_Loc} {st : List Value} {M : pj_Mem} {x y : Int32} {o9 : Option Value × pj_Mem} : pj_Ends 124 (579, L, .int y :: .int x :: st, M) o9 = pj_Ends 124 (580, L, .int (x + y) :: st, M) o9 := pj_xs (s124_579)
theorem q124_580 : pj_row 124 580 = some (.iaload, 1, 0, 0, 0) := by decide +kernel
theorem s124_580 {L : pj_Loc} {st : List Value} {N S : Nat} {H : pj_Heap} {o : Nat} {i : Int32} : pj_step 124 (580, L, .int i :: .ref o :: st, (N, S, H)) = pj_pi 581 L st (N, S, H) (pj_arl (H o) 0 i) := st_iaload q124_580
theorem x124_580 {L : pj_Loc} {st : List Value} {N S : Nat} {H : pj_Heap} {o : Nat} {i : Int32} {o9 : Option Value × pj_Mem} : pj_Ends 124 (580, L, .int i :: .ref o :: st, (N, S, H)) o9 = pj_then 124 o9 (pj_pi 581 L st (N, S, H) (pj_arl (H o) 0 i)) := pj_xt q124_580 rfl (pj_cl_nc rfl) (s124_580)
theorem q124_581 : pj_row 124 581 = some (.aload_n 0, 1, 0, 0, 0) := by decide +kernel
theorem s124_581 {st : List Value} {M : pj_Mem} {l : pj_Loc} {x : Nat} : pj_step 124 (581, some (.ref x) :: l, st, M) = some (582, some (.ref x) :: l, .ref x :: st, M) := st_aload_n q124_581 rfl
theorem x124_581 {st : List Value} {M : pj_Mem} {l : pj_Loc} {x : Nat} {o9 : Option Value × pj_Mem} : pj_Ends 124 (581, some (.ref x) :: l, st, M) o9 = pj_Ends 124 (582, some (.ref x) :: l, .ref x :: st, M) o9 := pj_xs (s124_581)
theorem q124_582 : pj_row 124 582 = some (.iload_n 3, 1, 0, 0, 0) := by decide +kernel
theorem s124_582 {st : List Value} {M : pj_Mem} {l : pj_Loc} {a0 a1 a2 : Option Value} {x : Int32} : pj_step 124 (582, a0 :: a1 :: a2 :: some (.int x) :: l, st, M) = some (583, a0 :: a1 :: a2 :: some (.int x) :: l, .int x :: st, M) := st_iload_n q124_582 rfl
theorem x124_582 {st : List Value} {M : pj_Mem} {l : pj_Loc} {a0 a1 a2 : Option Value} {x : Int32} {o9 : Option Value × pj_Mem} : pj_Ends 124 (582, a0 :: a1 :: a2 :: some (.int x) :: l, st, M) o9 = pj_Ends 124 (583, a0 :: a1 :: a2 :: some (.int x) :: l, .int x :: st, M) o9 := pj_xs (s124_582)
theorem q124_583 : pj_row 124 583 = some (.iconst 2, 1, 0, 0, 0) := by decide +kernel
theorem s124_583 {L : pj_Loc} {st : List Value} {M : pj_Mem}  : pj_step 124 (583, L, st, M) = some (584, L, .int 2 :: st, M) := st_iconst q124_583 (by decide +kernel)
theorem x124_583 {L : pj_Loc} {st : List Value} {M : pj_Mem}  {o9 : Option Value × pj_Mem} : pj_Ends 124 (583, L, st, M) o9 = pj_Ends 124 (584, L, .int 2 :: st, M) o9 := pj_xs (s124_583)
theorem q124_584 : pj_row 124 584 = some (.iadd, 1, 0, 0, 0) := by decide +kernel
theorem s124_584 {L : pj_Loc} {st : List Value} {M : pj_Mem} {x y : Int32} : pj_step 124 (584, L, .int y :: .int x :: st, M) = some (585, L, .int (x + y) :: st, M) := st_iadd q124_584
theorem x124_584 {L : pj_Loc} {st : List Value} {M : pj_Mem} {x y : Int32} {o9 : Option Value × pj_Mem} : pj_Ends 124 (584, L, .int y :: .int x :: st, M) o9 = pj_Ends 124 (585, L, .int (x + y) :: st, M) o9 := pj_xs (s124_584)
theorem q124_585 : pj_row 124 585 = some (.iaload, 1, 0, 0, 0) := by decide +kernel
theorem s124_585 {L : pj_Loc} {st : List Value} {N S : Nat} {H : pj_Heap} {o : Nat} {i : Int32} : pj_step 124 (585, L, .int i :: .ref o :: st, (N, S, H)) = pj_pi 586 L st (N, S, H) (pj_arl (H o) 0 i) := st_iaload q124_585
theorem x124_585 {L : pj_Loc} {st : List Value} {N S : Nat} {H : pj_Heap} {o : Nat} {i : Int32} {o9 : Option Value × pj_Mem} : pj_Ends 124 (585, L, .int i :: .ref o :: st, (N, S, H)) o9 = pj_then 124 o9 (pj_pi 586 L st (N, S, H) (pj_arl (H o) 0 i)) := pj_xt q124_585 rfl (pj_cl_nc rfl) (s124_585)
theorem q124_586 : pj_row 124 586 = some (.invokevirtual 66, 3, 112, 3, 0) := by decide +kernel
theorem e124_586 {L : pj_Loc} {st : List Value} {N S : Nat} {H : pj_Heap} {o : Option Value × pj_Mem} {M' : pj_Mem} {x0 : Nat} {x1 : Int32} {x2 : Int32} {r : Int32} (h4 : pj_le4 st = true) (hu : pj_isU 6 (H x0) = true) (h1 : pj_Ends 112 (0, [some (.ref x0), some (.int x1), some (.int x2), none, none], [], (N, S, H)) (some (.int r), M')) (h2 : pj_Ends 124 (589, L, .int r :: st, M') o) : pj_Ends 124 (586, L, .int x2 :: .int x1 :: .ref x0 :: st, (N, S, H)) o := ec_v3 q124_586 (Or.inl rfl) h4 hu rfl h1 h2
theorem q124_589 : pj_row 124 589 = some (.if_icmp .eq 156, 3, 745, 0, 0) := by decide +kernel
theorem s124_589 {L : pj_Loc} {st : List Value} {M : pj_Mem} {x y : Int32} : pj_step 124 (589, L, .int y :: .int x :: st, M) = some (if x = y then 745 else 592, L, st, M) := st_icmp_eq q124_589
theorem x124_589 {L : pj_Loc} {st : List Value} {M : pj_Mem} {x y : Int32} {o9 : Option Value × pj_Mem} : pj_Ends 124 (589, L, .int y :: .int x :: st, M) o9 = pj_Ends 124 (if x = y then 745 else 592, L, st, M) o9 := pj_xs (s124_589)
theorem q124_592 : pj_row 124 592 = some (.iconst 0, 1, 0, 0, 0) := by decide +kernel
theorem s124_592 {L : pj_Loc} {st : List Value} {M : pj_Mem}  : pj_step 124 (592, L, st, M) = some (593, L, .int 0 :: st, M) := st_iconst q124_592 (by decide +kernel)
theorem x124_592 {L : pj_Loc} {st : List Value} {M : pj_Mem}  {o9 : Option Value × pj_Mem} : pj_Ends 124 (592, L, st, M) o9 = pj_Ends 124 (593, L, .int 0 :: st, M) o9 := pj_xs (s124_592)
theorem q124_593 : pj_row 124 593 = some (.ireturn, 1, 0, 0, 0) := by decide +kernel
theorem t124_593 {L : pj_Loc} {M : pj_Mem} {v : Int32} (hv : v = 0 ∨ v = 1) : pj_Ends 124 (593, L, [.int v], M) (some (.int v), M) := pj_Ends.ret q124_593 (pj_rtn_z rt124 hv)
theorem q124_594 : pj_row 124 594 = some (.aload_n 1, 1, 0, 0, 0) := by decide +kernel
theorem s124_594 {st : List Value} {M : pj_Mem} {l : pj_Loc} {a0 : Option Value} {x : Nat} : pj_step 124 (594, a0 :: some (.ref x) :: l, st, M) = some (595, a0 :: some (.ref x) :: l, .ref x :: st, M) := st_aload_n q124_594 rfl
theorem x124_594 {st : List Value} {M : pj_Mem} {l : pj_Loc} {a0 : Option Value} {x : Nat} {o9 : Option Value × pj_Mem} : pj_Ends 124 (594, a0 :: some (.ref x) :: l, st, M) o9 = pj_Ends 124 (595, a0 :: some (.ref x) :: l, .ref x :: st, M) o9 := pj_xs (s124_594)
theorem q124_595 : pj_row 124 595 = some (.aload_n 0, 1, 0, 0, 0) := by decide +kernel
theorem s124_595 {st : List Value} {M : pj_Mem} {l : pj_Loc} {x : Nat} : pj_step 124 (595, some (.ref x) :: l, st, M) = some (596, some (.ref x) :: l, .ref x :: st, M) := st_aload_n q124_595 rfl
theorem x124_595 {st : List Value} {M : pj_Mem} {l : pj_Loc} {x : Nat} {o9 : Option Value × pj_Mem} : pj_Ends 124 (595, some (.ref x) :: l, st, M) o9 = pj_Ends 124 (596, some (.ref x) :: l, .ref x :: st, M) o9 := pj_xs (s124_595)
theorem q124_596 : pj_row 124 596 = some (.iload_n 3, 1, 0, 0, 0) := by decide +kernel
theorem s124_596 {st : List Value} {M : pj_Mem} {l : pj_Loc} {a0 a1 a2 : Option Value} {x : Int32} : pj_step 124 (596, a0 :: a1 :: a2 :: some (.int x) :: l, st, M) = some (597, a0 :: a1 :: a2 :: some (.int x) :: l, .int x :: st, M) := st_iload_n q124_596 rfl
theorem x124_596 {st : List Value} {M : pj_Mem} {l : pj_Loc} {a0 a1 a2 : Option Value} {x : Int32} {o9 : Option Value × pj_Mem} : pj_Ends 124 (596, a0 :: a1 :: a2 :: some (.int x) :: l, st, M) o9 = pj_Ends 124 (597, a0 :: a1 :: a2 :: some (.int x) :: l, .int x :: st, M) o9 := pj_xs (s124_596)
theorem q124_597 : pj_row 124 597 = some (.iconst 1, 1, 0, 0, 0) := by decide +kernel
theorem s124_597 {L : pj_Loc} {st : List Value} {M : pj_Mem}  : pj_step 124 (597, L, st, M) = some (598, L, .int 1 :: st, M) := st_iconst q124_597 (by decide +kernel)
theorem x124_597 {L : pj_Loc} {st : List Value} {M : pj_Mem}  {o9 : Option Value × pj_Mem} : pj_Ends 124 (597, L, st, M) o9 = pj_Ends 124 (598, L, .int 1 :: st, M) o9 := pj_xs (s124_597)
theorem q124_598 : pj_row 124 598 = some (.iadd, 1, 0, 0, 0) := by decide +kernel
theorem s124_598 {L : pj_Loc} {st : List Value} {M : pj_Mem} {x y : Int32} : pj_step 124 (598, L, .int y :: .int x :: st, M) = some (599, L, .int (x + y) :: st, M) := st_iadd q124_598
theorem x124_598 {L : pj_Loc} {st : List Value} {M : pj_Mem} {x y : Int32} {o9 : Option Value × pj_Mem} : pj_Ends 124 (598, L, .int y :: .int x :: st, M) o9 = pj_Ends 124 (599, L, .int (x + y) :: st, M) o9 := pj_xs (s124_598)
theorem q124_599 : pj_row 124 599 = some (.iaload, 1, 0, 0, 0) := by decide +kernel
theorem s124_599 {L : pj_Loc} {st : List Value} {N S : Nat} {H : pj_Heap} {o : Nat} {i : Int32} : pj_step 124 (599, L, .int i :: .ref o :: st, (N, S, H)) = pj_pi 600 L st (N, S, H) (pj_arl (H o) 0 i) := st_iaload q124_599
theorem x124_599 {L : pj_Loc} {st : List Value} {N S : Nat} {H : pj_Heap} {o : Nat} {i : Int32} {o9 : Option Value × pj_Mem} : pj_Ends 124 (599, L, .int i :: .ref o :: st, (N, S, H)) o9 = pj_then 124 o9 (pj_pi 600 L st (N, S, H) (pj_arl (H o) 0 i)) := pj_xt q124_599 rfl (pj_cl_nc rfl) (s124_599)
theorem q124_600 : pj_row 124 600 = some (.i2l, 1, 0, 0, 0) := by decide +kernel
theorem s124_600 {L : pj_Loc} {st : List Value} {M : pj_Mem} {x : Int32} : pj_step 124 (600, L, .int x :: st, M) = some (601, L, .long x.toInt64 :: st, M) := st_i2l q124_600
theorem x124_600 {L : pj_Loc} {st : List Value} {M : pj_Mem} {x : Int32} {o9 : Option Value × pj_Mem} : pj_Ends 124 (600, L, .int x :: st, M) o9 = pj_Ends 124 (601, L, .long x.toInt64 :: st, M) o9 := pj_xs (s124_600)
theorem q124_601 : pj_row 124 601 = some (.bipush 32, 2, 0, 0, 0) := by decide +kernel
theorem s124_601 {L : pj_Loc} {st : List Value} {M : pj_Mem}  : pj_step 124 (601, L, st, M) = some (603, L, .int 32 :: st, M) := st_bipush q124_601 (by decide +kernel)
theorem x124_601 {L : pj_Loc} {st : List Value} {M : pj_Mem}  {o9 : Option Value × pj_Mem} : pj_Ends 124 (601, L, st, M) o9 = pj_Ends 124 (603, L, .int 32 :: st, M) o9 := pj_xs (s124_601)
theorem q124_603 : pj_row 124 603 = some (.lshl, 1, 0, 0, 0) := by decide +kernel
theorem s124_603 {L : pj_Loc} {st : List Value} {M : pj_Mem} {x : Int64} {y : Int32} : pj_step 124 (603, L, .int y :: .long x :: st, M) = some (604, L, .long (x <<< (y.toInt64 &&& 63)) :: st, M) := st_lshl q124_603
theorem x124_603 {L : pj_Loc} {st : List Value} {M : pj_Mem} {x : Int64} {y : Int32} {o9 : Option Value × pj_Mem} : pj_Ends 124 (603, L, .int y :: .long x :: st, M) o9 = pj_Ends 124 (604, L, .long (x <<< (y.toInt64 &&& 63)) :: st, M) o9 := pj_xs (s124_603)
theorem q124_604 : pj_row 124 604 = some (.aload_n 0, 1, 0, 0, 0) := by decide +kernel
theorem s124_604 {st : List Value} {M : pj_Mem} {l : pj_Loc} {x : Nat} : pj_step 124 (604, some (.ref x) :: l, st, M) = some (605, some (.ref x) :: l, .ref x :: st, M) := st_aload_n q124_604 rfl
theorem x124_604 {st : List Value} {M : pj_Mem} {l : pj_Loc} {x : Nat} {o9 : Option Value × pj_Mem} : pj_Ends 124 (604, some (.ref x) :: l, st, M) o9 = pj_Ends 124 (605, some (.ref x) :: l, .ref x :: st, M) o9 := pj_xs (s124_604)
theorem q124_605 : pj_row 124 605 = some (.iload_n 3, 1, 0, 0, 0) := by decide +kernel
theorem s124_605 {st : List Value} {M : pj_Mem} {l : pj_Loc} {a0 a1 a2 : Option Value} {x : Int32} : pj_step 124 (605, a0 :: a1 :: a2 :: some (.int x) :: l, st, M) = some (606, a0 :: a1 :: a2 :: some (.int x) :: l, .int x :: st, M) := st_iload_n q124_605 rfl
theorem x124_605 {st : List Value} {M : pj_Mem} {l : pj_Loc} {a0 a1 a2 : Option Value} {x : Int32} {o9 : Option Value × pj_Mem} : pj_Ends 124 (605, a0 :: a1 :: a2 :: some (.int x) :: l, st, M) o9 = pj_Ends 124 (606, a0 :: a1 :: a2 :: some (.int x) :: l, .int x :: st, M) o9 := pj_xs (s124_605)
theorem q124_606 : pj_row 124 606 = some (.iconst 2, 1, 0, 0, 0) := by decide +kernel
theorem s124_606 {L : pj_Loc} {st : List Value} {M : pj_Mem}  : pj_step 124 (606, L, st, M) = some (607, L, .int 2 :: st, M) := st_iconst q124_606 (by decide +kernel)
theorem x124_606 {L : pj_Loc} {st : List Value} {M : pj_Mem}  {o9 : Option Value × pj_Mem} : pj_Ends 124 (606, L, st, M) o9 = pj_Ends 124 (607, L, .int 2 :: st, M) o9 := pj_xs (s124_606)
theorem q124_607 : pj_row 124 607 = some (.iadd, 1, 0, 0, 0) := by decide +kernel
theorem s124_607 {L : pj_Loc} {st : List Value} {M : pj_Mem} {x y : Int32} : pj_step 124 (607, L, .int y :: .int x :: st, M) = some (608, L, .int (x + y) :: st, M) := st_iadd q124_607
theorem x124_607 {L : pj_Loc} {st : List Value} {M : pj_Mem} {x y : Int32} {o9 : Option Value × pj_Mem} : pj_Ends 124 (607, L, .int y :: .int x :: st, M) o9 = pj_Ends 124 (608, L, .int (x + y) :: st, M) o9 := pj_xs (s124_607)
theorem q124_608 : pj_row 124 608 = some (.iaload, 1, 0, 0, 0) := by decide +kernel
theorem s124_608 {L : pj_Loc} {st : List Value} {N S : Nat} {H : pj_Heap} {o : Nat} {i : Int32} : pj_step 124 (608, L, .int i :: .ref o :: st, (N, S, H)) = pj_pi 609 L st (N, S, H) (pj_arl (H o) 0 i) := st_iaload q124_608
theorem x124_608 {L : pj_Loc} {st : List Value} {N S : Nat} {H : pj_Heap} {o : Nat} {i : Int32} {o9 : Option Value × pj_Mem} : pj_Ends 124 (608, L, .int i :: .ref o :: st, (N, S, H)) o9 = pj_then 124 o9 (pj_pi 609 L st (N, S, H) (pj_arl (H o) 0 i)) := pj_xt q124_608 rfl (pj_cl_nc rfl) (s124_608)
theorem q124_609 : pj_row 124 609 = some (.i2l, 1, 0, 0, 0) := by decide +kernel
theorem s124_609 {L : pj_Loc} {st : List Value} {M : pj_Mem} {x : Int32} : pj_step 124 (609, L, .int x :: st, M) = some (610, L, .long x.toInt64 :: st, M) := st_i2l q124_609
theorem x124_609 {L : pj_Loc} {st : List Value} {M : pj_Mem} {x : Int32} {o9 : Option Value × pj_Mem} : pj_Ends 124 (609, L, .int x :: st, M) o9 = pj_Ends 124 (610, L, .long x.toInt64 :: st, M) o9 := pj_xs (s124_609)
theorem q124_610 : pj_row 124 610 = some (.ldc2_w 67, 3, 0, 0, 4294967295) := by decide +kernel
theorem s124_610 {L : pj_Loc} {st : List Value} {M : pj_Mem}  : pj_step 124 (610, L, st, M) = some (613, L, .long 4294967295 :: st, M) := st_ldc2_w q124_610 (by decide +kernel)
theorem x124_610 {L : pj_Loc} {st : List Value} {M : pj_Mem}  {o9 : Option Value × pj_Mem} : pj_Ends 124 (610, L, st, M) o9 = pj_Ends 124 (613, L, .long 4294967295 :: st, M) o9 := pj_xs (s124_610)
theorem q124_613 : pj_row 124 613 = some (.land, 1, 0, 0, 0) := by decide +kernel
theorem s124_613 {L : pj_Loc} {st : List Value} {M : pj_Mem} {x y : Int64} : pj_step 124 (613, L, .long y :: .long x :: st, M) = some (614, L, .long (x &&& y) :: st, M) := st_land q124_613
theorem x124_613 {L : pj_Loc} {st : List Value} {M : pj_Mem} {x y : Int64} {o9 : Option Value × pj_Mem} : pj_Ends 124 (613, L, .long y :: .long x :: st, M) o9 = pj_Ends 124 (614, L, .long (x &&& y) :: st, M) o9 := pj_xs (s124_613)
theorem q124_614 : pj_row 124 614 = some (.lor, 1, 0, 0, 0) := by decide +kernel
theorem s124_614 {L : pj_Loc} {st : List Value} {M : pj_Mem} {x y : Int64} : pj_step 124 (614, L, .long y :: .long x :: st, M) = some (615, L, .long (x ||| y) :: st, M) := st_lor q124_614
theorem x124_614 {L : pj_Loc} {st : List Value} {M : pj_Mem} {x y : Int64} {o9 : Option Value × pj_Mem} : pj_Ends 124 (614, L, .long y :: .long x :: st, M) o9 = pj_Ends 124 (615, L, .long (x ||| y) :: st, M) o9 := pj_xs (s124_614)
theorem q124_615 : pj_row 124 615 = some (.invokevirtual 69, 3, 51, 2, 0) := by decide +kernel
theorem e124_615 {L : pj_Loc} {st : List Value} {N S : Nat} {H : pj_Heap} {o : Option Value × pj_Mem} {M' : pj_Mem} {x0 : Nat} {x1 : Int64} {r : Int32} (h4 : pj_le4 st = true) (hu : pj_isU 5 (H x0) = true) (h1 : pj_Ends 51 (0, [some (.ref x0), some (.long x1), none, none, none], [], (N, S, H)) (some (.int r), M')) (h2 : pj_Ends 124 (618, L, .int r :: st, M') o) : pj_Ends 124 (615, L, .long x1 :: .ref x0 :: st, (N, S, H)) o := ec_v2 q124_615 (Or.inl rfl) h4 hu rfl h1 h2
theorem q124_618 : pj_row 124 618 = some (.aload_n 2, 1, 0, 0, 0) := by decide +kernel
theorem s124_618 {st : List Value} {M : pj_Mem} {l : pj_Loc} {a0 a1 : Option Value} {x : Nat} : pj_step 124 (618, a0 :: a1 :: some (.ref x) :: l, st, M) = some (619, a0 :: a1 :: some (.ref x) :: l, .ref x :: st, M) := st_aload_n q124_618 rfl
theorem x124_618 {st : List Value} {M : pj_Mem} {l : pj_Loc} {a0 a1 : Option Value} {x : Nat} {o9 : Option Value × pj_Mem} : pj_Ends 124 (618, a0 :: a1 :: some (.ref x) :: l, st, M) o9 = pj_Ends 124 (619, a0 :: a1 :: some (.ref x) :: l, .ref x :: st, M) o9 := pj_xs (s124_618)
theorem q124_619 : pj_row 124 619 = some (.aload_n 0, 1, 0, 0, 0) := by decide +kernel
theorem s124_619 {st : List Value} {M : pj_Mem} {l : pj_Loc} {x : Nat} : pj_step 124 (619, some (.ref x) :: l, st, M) = some (620, some (.ref x) :: l, .ref x :: st, M) := st_aload_n q124_619 rfl
theorem x124_619 {st : List Value} {M : pj_Mem} {l : pj_Loc} {x : Nat} {o9 : Option Value × pj_Mem} : pj_Ends 124 (619, some (.ref x) :: l, st, M) o9 = pj_Ends 124 (620, some (.ref x) :: l, .ref x :: st, M) o9 := pj_xs (s124_619)
theorem q124_620 : pj_row 124 620 = some (.iload_n 3, 1, 0, 0, 0) := by decide +kernel
theorem s124_620 {st : List Value} {M : pj_Mem} {l : pj_Loc} {a0 a1 a2 : Option Value} {x : Int32} : pj_step 124 (620, a0 :: a1 :: a2 :: some (.int x) :: l, st, M) = some (621, a0 :: a1 :: a2 :: some (.int x) :: l, .int x :: st, M) := st_iload_n q124_620 rfl
theorem x124_620 {st : List Value} {M : pj_Mem} {l : pj_Loc} {a0 a1 a2 : Option Value} {x : Int32} {o9 : Option Value × pj_Mem} : pj_Ends 124 (620, a0 :: a1 :: a2 :: some (.int x) :: l, st, M) o9 = pj_Ends 124 (621, a0 :: a1 :: a2 :: some (.int x) :: l, .int x :: st, M) o9 := pj_xs (s124_620)
theorem q124_621 : pj_row 124 621 = some (.iconst 1, 1, 0, 0, 0) := by decide +kernel
theorem s124_621 {L : pj_Loc} {st : List Value} {M : pj_Mem}  : pj_step 124 (621, L, st, M) = some (622, L, .int 1 :: st, M) := st_iconst q124_621 (by decide +kernel)
theorem x124_621 {L : pj_Loc} {st : List Value} {M : pj_Mem}  {o9 : Option Value × pj_Mem} : pj_Ends 124 (621, L, st, M) o9 = pj_Ends 124 (622, L, .int 1 :: st, M) o9 := pj_xs (s124_621)
theorem q124_622 : pj_row 124 622 = some (.iadd, 1, 0, 0, 0) := by decide +kernel
theorem s124_622 {L : pj_Loc} {st : List Value} {M : pj_Mem} {x y : Int32} : pj_step 124 (622, L, .int y :: .int x :: st, M) = some (623, L, .int (x + y) :: st, M) := st_iadd q124_622
theorem x124_622 {L : pj_Loc} {st : List Value} {M : pj_Mem} {x y : Int32} {o9 : Option Value × pj_Mem} : pj_Ends 124 (622, L, .int y :: .int x :: st, M) o9 = pj_Ends 124 (623, L, .int (x + y) :: st, M) o9 := pj_xs (s124_622)
theorem q124_623 : pj_row 124 623 = some (.iaload, 1, 0, 0, 0) := by decide +kernel
theorem s124_623 {L : pj_Loc} {st : List Value} {N S : Nat} {H : pj_Heap} {o : Nat} {i : Int32} : pj_step 124 (623, L, .int i :: .ref o :: st, (N, S, H)) = pj_pi 624 L st (N, S, H) (pj_arl (H o) 0 i) := st_iaload q124_623
theorem x124_623 {L : pj_Loc} {st : List Value} {N S : Nat} {H : pj_Heap} {o : Nat} {i : Int32} {o9 : Option Value × pj_Mem} : pj_Ends 124 (623, L, .int i :: .ref o :: st, (N, S, H)) o9 = pj_then 124 o9 (pj_pi 624 L st (N, S, H) (pj_arl (H o) 0 i)) := pj_xt q124_623 rfl (pj_cl_nc rfl) (s124_623)
theorem q124_624 : pj_row 124 624 = some (.i2l, 1, 0, 0, 0) := by decide +kernel
theorem s124_624 {L : pj_Loc} {st : List Value} {M : pj_Mem} {x : Int32} : pj_step 124 (624, L, .int x :: st, M) = some (625, L, .long x.toInt64 :: st, M) := st_i2l q124_624
theorem x124_624 {L : pj_Loc} {st : List Value} {M : pj_Mem} {x : Int32} {o9 : Option Value × pj_Mem} : pj_Ends 124 (624, L, .int x :: st, M) o9 = pj_Ends 124 (625, L, .long x.toInt64 :: st, M) o9 := pj_xs (s124_624)
theorem q124_625 : pj_row 124 625 = some (.bipush 32, 2, 0, 0, 0) := by decide +kernel
theorem s124_625 {L : pj_Loc} {st : List Value} {M : pj_Mem}  : pj_step 124 (625, L, st, M) = some (627, L, .int 32 :: st, M) := st_bipush q124_625 (by decide +kernel)
theorem x124_625 {L : pj_Loc} {st : List Value} {M : pj_Mem}  {o9 : Option Value × pj_Mem} : pj_Ends 124 (625, L, st, M) o9 = pj_Ends 124 (627, L, .int 32 :: st, M) o9 := pj_xs (s124_625)
theorem q124_627 : pj_row 124 627 = some (.lshl, 1, 0, 0, 0) := by decide +kernel
theorem s124_627 {L : pj_Loc} {st : List Value} {M : pj_Mem} {x : Int64} {y : Int32} : pj_step 124 (627, L, .int y :: .long x :: st, M) = some (628, L, .long (x <<< (y.toInt64 &&& 63)) :: st, M) := st_lshl q124_627
theorem x124_627 {L : pj_Loc} {st : List Value} {M : pj_Mem} {x : Int64} {y : Int32} {o9 : Option Value × pj_Mem} : pj_Ends 124 (627, L, .int y :: .long x :: st, M) o9 = pj_Ends 124 (628, L, .long (x <<< (y.toInt64 &&& 63)) :: st, M) o9 := pj_xs (s124_627)
theorem q124_628 : pj_row 124 628 = some (.aload_n 0, 1, 0, 0, 0) := by decide +kernel
theorem s124_628 {st : List Value} {M : pj_Mem} {l : pj_Loc} {x : Nat} : pj_step 124 (628, some (.ref x) :: l, st, M) = some (629, some (.ref x) :: l, .ref x :: st, M) := st_aload_n q124_628 rfl
theorem x124_628 {st : List Value} {M : pj_Mem} {l : pj_Loc} {x : Nat} {o9 : Option Value × pj_Mem} : pj_Ends 124 (628, some (.ref x) :: l, st, M) o9 = pj_Ends 124 (629, some (.ref x) :: l, .ref x :: st, M) o9 := pj_xs (s124_628)
theorem q124_629 : pj_row 124 629 = some (.iload_n 3, 1, 0, 0, 0) := by decide +kernel
theorem s124_629 {st : List Value} {M : pj_Mem} {l : pj_Loc} {a0 a1 a2 : Option Value} {x : Int32} : pj_step 124 (629, a0 :: a1 :: a2 :: some (.int x) :: l, st, M) = some (630, a0 :: a1 :: a2 :: some (.int x) :: l, .int x :: st, M) := st_iload_n q124_629 rfl
theorem x124_629 {st : List Value} {M : pj_Mem} {l : pj_Loc} {a0 a1 a2 : Option Value} {x : Int32} {o9 : Option Value × pj_Mem} : pj_Ends 124 (629, a0 :: a1 :: a2 :: some (.int x) :: l, st, M) o9 = pj_Ends 124 (630, a0 :: a1 :: a2 :: some (.int x) :: l, .int x :: st, M) o9 := pj_xs (s124_629)
theorem q124_630 : pj_row 124 630 = some (.iconst 2, 1, 0, 0, 0) := by decide +kernel
theorem s124_630 {L : pj_Loc} {st : List Value} {M : pj_Mem}  : pj_step 124 (630, L, st, M) = some (631, L, .int 2 :: st, M) := st_iconst q124_630 (by decide +kernel)
theorem x124_630 {L : pj_Loc} {st : List Value} {M : pj_Mem}  {o9 : Option Value × pj_Mem} : pj_Ends 124 (630, L, st, M) o9 = pj_Ends 124 (631, L, .int 2 :: st, M) o9 := pj_xs (s124_630)
theorem q124_631 : pj_row 124 631 = some (.iadd, 1, 0, 0, 0) := by decide +kernel
theorem s124_631 {L : pj_Loc} {st : List Value} {M : pj_Mem} {x y : Int32} : pj_step 124 (631, L, .int y :: .int x :: st, M) = some (632, L, .int (x + y) :: st, M) := st_iadd q124_631
theorem x124_631 {L : pj_Loc} {st : List Value} {M : pj_Mem} {x y : Int32} {o9 : Option Value × pj_Mem} : pj_Ends 124 (631, L, .int y :: .int x :: st, M) o9 = pj_Ends 124 (632, L, .int (x + y) :: st, M) o9 := pj_xs (s124_631)
theorem q124_632 : pj_row 124 632 = some (.iaload, 1, 0, 0, 0) := by decide +kernel
theorem s124_632 {L : pj_Loc} {st : List Value} {N S : Nat} {H : pj_Heap} {o : Nat} {i : Int32} : pj_step 124 (632, L, .int i :: .ref o :: st, (N, S, H)) = pj_pi 633 L st (N, S, H) (pj_arl (H o) 0 i) := st_iaload q124_632
theorem x124_632 {L : pj_Loc} {st : List Value} {N S : Nat} {H : pj_Heap} {o : Nat} {i : Int32} {o9 : Option Value × pj_Mem} : pj_Ends 124 (632, L, .int i :: .ref o :: st, (N, S, H)) o9 = pj_then 124 o9 (pj_pi 633 L st (N, S, H) (pj_arl (H o) 0 i)) := pj_xt q124_632 rfl (pj_cl_nc rfl) (s124_632)
theorem q124_633 : pj_row 124 633 = some (.i2l, 1, 0, 0, 0) := by decide +kernel
theorem s124_633 {L : pj_Loc} {st : List Value} {M : pj_Mem} {x : Int32} : pj_step 124 (633, L, .int x :: st, M) = some (634, L, .long x.toInt64 :: st, M) := st_i2l q124_633
theorem x124_633 {L : pj_Loc} {st : List Value} {M : pj_Mem} {x : Int32} {o9 : Option Value × pj_Mem} : pj_Ends 124 (633, L, .int x :: st, M) o9 = pj_Ends 124 (634, L, .long x.toInt64 :: st, M) o9 := pj_xs (s124_633)
theorem q124_634 : pj_row 124 634 = some (.ldc2_w 67, 3, 0, 0, 4294967295) := by decide +kernel
theorem s124_634 {L : pj_Loc} {st : List Value} {M : pj_Mem}  : pj_step 124 (634, L, st, M) = some (637, L, .long 4294967295 :: st, M) := st_ldc2_w q124_634 (by decide +kernel)
theorem x124_634 {L : pj_Loc} {st : List Value} {M : pj_Mem}  {o9 : Option Value × pj_Mem} : pj_Ends 124 (634, L, st, M) o9 = pj_Ends 124 (637, L, .long 4294967295 :: st, M) o9 := pj_xs (s124_634)
theorem q124_637 : pj_row 124 637 = some (.land, 1, 0, 0, 0) := by decide +kernel
theorem s124_637 {L : pj_Loc} {st : List Value} {M : pj_Mem} {x y : Int64} : pj_step 124 (637, L, .long y :: .long x :: st, M) = some (638, L, .long (x &&& y) :: st, M) := st_land q124_637
theorem x124_637 {L : pj_Loc} {st : List Value} {M : pj_Mem} {x y : Int64} {o9 : Option Value × pj_Mem} : pj_Ends 124 (637, L, .long y :: .long x :: st, M) o9 = pj_Ends 124 (638, L, .long (x &&& y) :: st, M) o9 := pj_xs (s124_637)
theorem q124_638 : pj_row 124 638 = some (.lor, 1, 0, 0, 0) := by decide +kernel
theorem s124_638 {L : pj_Loc} {st : List Value} {M : pj_Mem} {x y : Int64} : pj_step 124 (638, L, .long y :: .long x :: st, M) = some (639, L, .long (x ||| y) :: st, M) := st_lor q124_638
theorem x124_638 {L : pj_Loc} {st : List Value} {M : pj_Mem} {x y : Int64} {o9 : Option Value × pj_Mem} : pj_Ends 124 (638, L, .long y :: .long x :: st, M) o9 = pj_Ends 124 (639, L, .long (x ||| y) :: st, M) o9 := pj_xs (s124_638)
theorem q124_639 : pj_row 124 639 = some (.invokevirtual 73, 3, 113, 2, 0) := by decide +kernel
theorem e124_639 {L : pj_Loc} {st : List Value} {N S : Nat} {H : pj_Heap} {o : Option Value × pj_Mem} {M' : pj_Mem} {x0 : Nat} {x1 : Int64} {r : Int32} (h4 : pj_le4 st = true) (hu : pj_isU 6 (H x0) = true) (h1 : pj_Ends 113 (0, [some (.ref x0), some (.long x1), none, none, none, none, none, none], [], (N, S, H)) (some (.int r), M')) (h2 : pj_Ends 124 (642, L, .int r :: st, M') o) : pj_Ends 124 (639, L, .long x1 :: .ref x0 :: st, (N, S, H)) o := ec_v2 q124_639 (Or.inl rfl) h4 hu rfl h1 h2
theorem q124_642 : pj_row 124 642 = some (.if_icmp .eq 103, 3, 745, 0, 0) := by decide +kernel
theorem s124_642 {L : pj_Loc} {st : List Value} {M : pj_Mem} {x y : Int32} : pj_step 124 (642, L, .int y :: .int x :: st, M) = some (if x = y then 745 else 645, L, st, M) := st_icmp_eq q124_642
theorem x124_642 {L : pj_Loc} {st : List Value} {M : pj_Mem} {x y : Int32} {o9 : Option Value × pj_Mem} : pj_Ends 124 (642, L, .int y :: .int x :: st, M) o9 = pj_Ends 124 (if x = y then 745 else 645, L, st, M) o9 := pj_xs (s124_642)
theorem q124_645 : pj_row 124 645 = some (.iconst 0, 1, 0, 0, 0) := by decide +kernel
theorem s124_645 {L : pj_Loc} {st : List Value} {M : pj_Mem}  : pj_step 124 (645, L, st, M) = some (646, L, .int 0 :: st, M) := st_iconst q124_645 (by decide +kernel)
theorem x124_645 {L : pj_Loc} {st : List Value} {M : pj_Mem}  {o9 : Option Value × pj_Mem} : pj_Ends 124 (645, L, st, M) o9 = pj_Ends 124 (646, L, .int 0 :: st, M) o9 := pj_xs (s124_645)
theorem q124_646 : pj_row 124 646 = some (.ireturn, 1, 0, 0, 0) := by decide +kernel
theorem t124_646 {L : pj_Loc} {M : pj_Mem} {v : Int32} (hv : v = 0 ∨ v = 1) : pj_Ends 124 (646, L, [.int v], M) (some (.int v), M) := pj_Ends.ret q124_646 (pj_rtn_z rt124 hv)
theorem q124_647 : pj_row 124 647 = some (.aload_n 1, 1, 0, 0, 0) := by decide +kernel
theorem s124_647 {st : List Value} {M : pj_Mem} {l : pj_Loc} {a0 : Option Value} {x : Nat} : pj_step 124 (647, a0 :: some (.ref x) :: l, st, M) = some (648, a0 :: some (.ref x) :: l, .ref x :: st, M) := st_aload_n q124_647 rfl
theorem x124_647 {st : List Value} {M : pj_Mem} {l : pj_Loc} {a0 : Option Value} {x : Nat} {o9 : Option Value × pj_Mem} : pj_Ends 124 (647, a0 :: some (.ref x) :: l, st, M) o9 = pj_Ends 124 (648, a0 :: some (.ref x) :: l, .ref x :: st, M) o9 := pj_xs (s124_647)
theorem q124_648 : pj_row 124 648 = some (.invokevirtual 74, 3, 55, 1, 0) := by decide +kernel
theorem e124_648 {L : pj_Loc} {st : List Value} {N S : Nat} {H : pj_Heap} {o : Option Value × pj_Mem} {M' : pj_Mem} {x0 : Nat} {r : Int32} (h4 : pj_le4 st = true) (hu : pj_isU 5 (H x0) = true) (h1 : pj_Ends 55 (0, [some (.ref x0), none], [], (N, S, H)) (some (.int r), M')) (h2 : pj_Ends 124 (651, L, .int r :: st, M') o) : pj_Ends 124 (648, L, .ref x0 :: st, (N, S, H)) o := ec_v1 q124_648 (Or.inl rfl) h4 hu rfl h1 h2
theorem q124_651 : pj_row 124 651 = some (.aload_n 2, 1, 0, 0, 0) := by decide +kernel
theorem s124_651 {st : List Value} {M : pj_Mem} {l : pj_Loc} {a0 a1 : Option Value} {x : Nat} : pj_step 124 (651, a0 :: a1 :: some (.ref x) :: l, st, M) = some (652, a0 :: a1 :: some (.ref x) :: l, .ref x :: st, M) := st_aload_n q124_651 rfl
theorem x124_651 {st : List Value} {M : pj_Mem} {l : pj_Loc} {a0 a1 : Option Value} {x : Nat} {o9 : Option Value × pj_Mem} : pj_Ends 124 (651, a0 :: a1 :: some (.ref x) :: l, st, M) o9 = pj_Ends 124 (652, a0 :: a1 :: some (.ref x) :: l, .ref x :: st, M) o9 := pj_xs (s124_651)
theorem q124_652 : pj_row 124 652 = some (.invokevirtual 77, 3, 114, 1, 0) := by decide +kernel
theorem e124_652 {L : pj_Loc} {st : List Value} {N S : Nat} {H : pj_Heap} {o : Option Value × pj_Mem} {M' : pj_Mem} {x0 : Nat} {r : Int32} (h4 : pj_le4 st = true) (hu : pj_isU 6 (H x0) = true) (h1 : pj_Ends 114 (0, [some (.ref x0), none], [], (N, S, H)) (some (.int r), M')) (h2 : pj_Ends 124 (655, L, .int r :: st, M') o) : pj_Ends 124 (652, L, .ref x0 :: st, (N, S, H)) o := ec_v1 q124_652 (Or.inl rfl) h4 hu rfl h1 h2
theorem q124_655 : pj_row 124 655 = some (.if_icmp .eq 90, 3, 745, 0, 0) := by decide +kernel
theorem s124_655 {L : pj_Loc} {st : List Value} {M : pj_Mem} {x y : Int32} : pj_step 124 (655, L, .int y :: .int x :: st, M) = some (if x = y then 745 else 658, L, st, M) := st_icmp_eq q124_655
theorem x124_655 {L : pj_Loc} {st : List Value} {M : pj_Mem} {x y : Int32} {o9 : Option Value × pj_Mem} : pj_Ends 124 (655, L, .int y :: .int x :: st, M) o9 = pj_Ends 124 (if x = y then 745 else 658, L, st, M) o9 := pj_xs (s124_655)
theorem q124_658 : pj_row 124 658 = some (.iconst 0, 1, 0, 0, 0) := by decide +kernel
theorem s124_658 {L : pj_Loc} {st : List Value} {M : pj_Mem}  : pj_step 124 (658, L, st, M) = some (659, L, .int 0 :: st, M) := st_iconst q124_658 (by decide +kernel)
theorem x124_658 {L : pj_Loc} {st : List Value} {M : pj_Mem}  {o9 : Option Value × pj_Mem} : pj_Ends 124 (658, L, st, M) o9 = pj_Ends 124 (659, L, .int 0 :: st, M) o9 := pj_xs (s124_658)
theorem q124_659 : pj_row 124 659 = some (.ireturn, 1, 0, 0, 0) := by decide +kernel
theorem t124_659 {L : pj_Loc} {M : pj_Mem} {v : Int32} (hv : v = 0 ∨ v = 1) : pj_Ends 124 (659, L, [.int v], M) (some (.int v), M) := pj_Ends.ret q124_659 (pj_rtn_z rt124 hv)
theorem q124_660 : pj_row 124 660 = some (.aload_n 1, 1, 0, 0, 0) := by decide +kernel
theorem s124_660 {st : List Value} {M : pj_Mem} {l : pj_Loc} {a0 : Option Value} {x : Nat} : pj_step 124 (660, a0 :: some (.ref x) :: l, st, M) = some (661, a0 :: some (.ref x) :: l, .ref x :: st, M) := st_aload_n q124_660 rfl
theorem x124_660 {st : List Value} {M : pj_Mem} {l : pj_Loc} {a0 : Option Value} {x : Nat} {o9 : Option Value × pj_Mem} : pj_Ends 124 (660, a0 :: some (.ref x) :: l, st, M) o9 = pj_Ends 124 (661, a0 :: some (.ref x) :: l, .ref x :: st, M) o9 := pj_xs (s124_660)
theorem q124_661 : pj_row 124 661 = some (.invokevirtual 78, 3, 56, 1, 0) := by decide +kernel
theorem e124_661 {L : pj_Loc} {st : List Value} {N S : Nat} {H : pj_Heap} {o : Option Value × pj_Mem} {M' : pj_Mem} {x0 : Nat} {r : Int32} (h4 : pj_le4 st = true) (hu : pj_isU 5 (H x0) = true) (h1 : pj_Ends 56 (0, [some (.ref x0)], [], (N, S, H)) (some (.int r), M')) (h2 : pj_Ends 124 (664, L, .int r :: st, M') o) : pj_Ends 124 (661, L, .ref x0 :: st, (N, S, H)) o := ec_v1 q124_661 (Or.inl rfl) h4 hu rfl h1 h2
theorem q124_664 : pj_row 124 664 = some (.aload_n 2, 1, 0, 0, 0) := by decide +kernel
theorem s124_664 {st : List Value} {M : pj_Mem} {l : pj_Loc} {a0 a1 : Option Value} {x : Nat} : pj_step 124 (664, a0 :: a1 :: some (.ref x) :: l, st, M) = some (665, a0 :: a1 :: some (.ref x) :: l, .ref x :: st, M) := st_aload_n q124_664 rfl
theorem x124_664 {st : List Value} {M : pj_Mem} {l : pj_Loc} {a0 a1 : Option Value} {x : Nat} {o9 : Option Value × pj_Mem} : pj_Ends 124 (664, a0 :: a1 :: some (.ref x) :: l, st, M) o9 = pj_Ends 124 (665, a0 :: a1 :: some (.ref x) :: l, .ref x :: st, M) o9 := pj_xs (s124_664)
theorem q124_665 : pj_row 124 665 = some (.invokevirtual 81, 3, 115, 1, 0) := by decide +kernel
theorem e124_665 {L : pj_Loc} {st : List Value} {N S : Nat} {H : pj_Heap} {o : Option Value × pj_Mem} {M' : pj_Mem} {x0 : Nat} {r : Int32} (h4 : pj_le4 st = true) (hu : pj_isU 6 (H x0) = true) (h1 : pj_Ends 115 (0, [some (.ref x0), none], [], (N, S, H)) (some (.int r), M')) (h2 : pj_Ends 124 (668, L, .int r :: st, M') o) : pj_Ends 124 (665, L, .ref x0 :: st, (N, S, H)) o := ec_v1 q124_665 (Or.inl rfl) h4 hu rfl h1 h2
theorem q124_668 : pj_row 124 668 = some (.if_icmp .eq 77, 3, 745, 0, 0) := by decide +kernel
theorem s124_668 {L : pj_Loc} {st : List Value} {M : pj_Mem} {x y : Int32} : pj_step 124 (668, L, .int y :: .int x :: st, M) = some (if x = y then 745 else 671, L, st, M) := st_icmp_eq q124_668
theorem x124_668 {L : pj_Loc} {st : List Value} {M : pj_Mem} {x y : Int32} {o9 : Option Value × pj_Mem} : pj_Ends 124 (668, L, .int y :: .int x :: st, M) o9 = pj_Ends 124 (if x = y then 745 else 671, L, st, M) o9 := pj_xs (s124_668)
theorem q124_671 : pj_row 124 671 = some (.iconst 0, 1, 0, 0, 0) := by decide +kernel
theorem s124_671 {L : pj_Loc} {st : List Value} {M : pj_Mem}  : pj_step 124 (671, L, st, M) = some (672, L, .int 0 :: st, M) := st_iconst q124_671 (by decide +kernel)
theorem x124_671 {L : pj_Loc} {st : List Value} {M : pj_Mem}  {o9 : Option Value × pj_Mem} : pj_Ends 124 (671, L, st, M) o9 = pj_Ends 124 (672, L, .int 0 :: st, M) o9 := pj_xs (s124_671)
theorem q124_672 : pj_row 124 672 = some (.ireturn, 1, 0, 0, 0) := by decide +kernel
theorem t124_672 {L : pj_Loc} {M : pj_Mem} {v : Int32} (hv : v = 0 ∨ v = 1) : pj_Ends 124 (672, L, [.int v], M) (some (.int v), M) := pj_Ends.ret q124_672 (pj_rtn_z rt124 hv)
theorem q124_673 : pj_row 124 673 = some (.aload_n 1, 1, 0, 0, 0) := by decide +kernel
theorem s124_673 {st : List Value} {M : pj_Mem} {l : pj_Loc} {a0 : Option Value} {x : Nat} : pj_step 124 (673, a0 :: some (.ref x) :: l, st, M) = some (674, a0 :: some (.ref x) :: l, .ref x :: st, M) := st_aload_n q124_673 rfl
theorem x124_673 {st : List Value} {M : pj_Mem} {l : pj_Loc} {a0 : Option Value} {x : Nat} {o9 : Option Value × pj_Mem} : pj_Ends 124 (673, a0 :: some (.ref x) :: l, st, M) o9 = pj_Ends 124 (674, a0 :: some (.ref x) :: l, .ref x :: st, M) o9 := pj_xs (s124_673)
theorem q124_674 : pj_row 124 674 = some (.invokevirtual 82, 3, 68, 1, 0) := by decide +kernel
theorem e124_674 {L : pj_Loc} {st : List Value} {N S : Nat} {H : pj_Heap} {o : Option Value × pj_Mem} {M' : pj_Mem} {x0 : Nat} {r : Int32} (h4 : pj_le4 st = true) (hu : pj_isU 5 (H x0) = true) (h1 : pj_Ends 68 (0, [some (.ref x0), none], [], (N, S, H)) (some (.int r), M')) (h2 : pj_Ends 124 (677, L, .int r :: st, M') o) : pj_Ends 124 (674, L, .ref x0 :: st, (N, S, H)) o := ec_v1 q124_674 (Or.inl rfl) h4 hu rfl h1 h2
theorem q124_677 : pj_row 124 677 = some (.aload_n 2, 1, 0, 0, 0) := by decide +kernel
theorem s124_677 {st : List Value} {M : pj_Mem} {l : pj_Loc} {a0 a1 : Option Value} {x : Nat} : pj_step 124 (677, a0 :: a1 :: some (.ref x) :: l, st, M) = some (678, a0 :: a1 :: some (.ref x) :: l, .ref x :: st, M) := st_aload_n q124_677 rfl
theorem x124_677 {st : List Value} {M : pj_Mem} {l : pj_Loc} {a0 a1 : Option Value} {x : Nat} {o9 : Option Value × pj_Mem} : pj_Ends 124 (677, a0 :: a1 :: some (.ref x) :: l, st, M) o9 = pj_Ends 124 (678, a0 :: a1 :: some (.ref x) :: l, .ref x :: st, M) o9 := pj_xs (s124_677)
theorem q124_678 : pj_row 124 678 = some (.invokevirtual 85, 3, 120, 1, 0) := by decide +kernel
theorem e124_678 {L : pj_Loc} {st : List Value} {N S : Nat} {H : pj_Heap} {o : Option Value × pj_Mem} {M' : pj_Mem} {x0 : Nat} {r : Int32} (h4 : pj_le4 st = true) (hu : pj_isU 6 (H x0) = true) (h1 : pj_Ends 120 (0, [some (.ref x0), none, none], [], (N, S, H)) (some (.int r), M')) (h2 : pj_Ends 124 (681, L, .int r :: st, M') o) : pj_Ends 124 (678, L, .ref x0 :: st, (N, S, H)) o := ec_v1 q124_678 (Or.inl rfl) h4 hu rfl h1 h2
theorem q124_681 : pj_row 124 681 = some (.if_icmp .eq 64, 3, 745, 0, 0) := by decide +kernel
theorem s124_681 {L : pj_Loc} {st : List Value} {M : pj_Mem} {x y : Int32} : pj_step 124 (681, L, .int y :: .int x :: st, M) = some (if x = y then 745 else 684, L, st, M) := st_icmp_eq q124_681
theorem x124_681 {L : pj_Loc} {st : List Value} {M : pj_Mem} {x y : Int32} {o9 : Option Value × pj_Mem} : pj_Ends 124 (681, L, .int y :: .int x :: st, M) o9 = pj_Ends 124 (if x = y then 745 else 684, L, st, M) o9 := pj_xs (s124_681)
theorem q124_684 : pj_row 124 684 = some (.iconst 0, 1, 0, 0, 0) := by decide +kernel
theorem s124_684 {L : pj_Loc} {st : List Value} {M : pj_Mem}  : pj_step 124 (684, L, st, M) = some (685, L, .int 0 :: st, M) := st_iconst q124_684 (by decide +kernel)
theorem x124_684 {L : pj_Loc} {st : List Value} {M : pj_Mem}  {o9 : Option Value × pj_Mem} : pj_Ends 124 (684, L, st, M) o9 = pj_Ends 124 (685, L, .int 0 :: st, M) o9 := pj_xs (s124_684)
theorem q124_685 : pj_row 124 685 = some (.ireturn, 1, 0, 0, 0) := by decide +kernel
theorem t124_685 {L : pj_Loc} {M : pj_Mem} {v : Int32} (hv : v = 0 ∨ v = 1) : pj_Ends 124 (685, L, [.int v], M) (some (.int v), M) := pj_Ends.ret q124_685 (pj_rtn_z rt124 hv)
theorem q124_686 : pj_row 124 686 = some (.aload_n 1, 1, 0, 0, 0) := by decide +kernel
theorem s124_686 {st : List Value} {M : pj_Mem} {l : pj_Loc} {a0 : Option Value} {x : Nat} : pj_step 124 (686, a0 :: some (.ref x) :: l, st, M) = some (687, a0 :: some (.ref x) :: l, .ref x :: st, M) := st_aload_n q124_686 rfl
theorem x124_686 {st : List Value} {M : pj_Mem} {l : pj_Loc} {a0 : Option Value} {x : Nat} {o9 : Option Value × pj_Mem} : pj_Ends 124 (686, a0 :: some (.ref x) :: l, st, M) o9 = pj_Ends 124 (687, a0 :: some (.ref x) :: l, .ref x :: st, M) o9 := pj_xs (s124_686)
theorem q124_687 : pj_row 124 687 = some (.invokevirtual 86, 3, 71, 1, 0) := by decide +kernel
theorem e124_687 {L : pj_Loc} {st : List Value} {N S : Nat} {H : pj_Heap} {o : Option Value × pj_Mem} {M' : pj_Mem} {x0 : Nat} {r : Int32} (h4 : pj_le4 st = true) (hu : pj_isU 5 (H x0) = true) (h1 : pj_Ends 71 (0, [some (.ref x0)], [], (N, S, H)) (some (.int r), M')) (h2 : pj_Ends 124 (690, L, .int r :: st, M') o) : pj_Ends 124 (687, L, .ref x0 :: st, (N, S, H)) o := ec_v1 q124_687 (Or.inl rfl) h4 hu rfl h1 h2
theorem q124_690 : pj_row 124 690 = some (.aload_n 2, 1, 0, 0, 0) := by decide +kernel
theorem s124_690 {st : List Value} {M : pj_Mem} {l : pj_Loc} {a0 a1 : Option Value} {x : Nat} : pj_step 124 (690, a0 :: a1 :: some (.ref x) :: l, st, M) = some (691, a0 :: a1 :: some (.ref x) :: l, .ref x :: st, M) := st_aload_n q124_690 rfl
theorem x124_690 {st : List Value} {M : pj_Mem} {l : pj_Loc} {a0 a1 : Option Value} {x : Nat} {o9 : Option Value × pj_Mem} : pj_Ends 124 (690, a0 :: a1 :: some (.ref x) :: l, st, M) o9 = pj_Ends 124 (691, a0 :: a1 :: some (.ref x) :: l, .ref x :: st, M) o9 := pj_xs (s124_690)
theorem q124_691 : pj_row 124 691 = some (.invokevirtual 89, 3, 121, 1, 0) := by decide +kernel
theorem e124_691 {L : pj_Loc} {st : List Value} {N S : Nat} {H : pj_Heap} {o : Option Value × pj_Mem} {M' : pj_Mem} {x0 : Nat} {r : Int32} (h4 : pj_le4 st = true) (hu : pj_isU 6 (H x0) = true) (h1 : pj_Ends 121 (0, [some (.ref x0), none], [], (N, S, H)) (some (.int r), M')) (h2 : pj_Ends 124 (694, L, .int r :: st, M') o) : pj_Ends 124 (691, L, .ref x0 :: st, (N, S, H)) o := ec_v1 q124_691 (Or.inl rfl) h4 hu rfl h1 h2
theorem q124_694 : pj_row 124 694 = some (.if_icmp .eq 51, 3, 745, 0, 0) := by decide +kernel
theorem s124_694 {L : pj_Loc} {st : List Value} {M : pj_Mem} {x y : Int32} : pj_step 124 (694, L, .int y :: .int x :: st, M) = some (if x = y then 745 else 697, L, st, M) := st_icmp_eq q124_694
theorem x124_694 {L : pj_Loc} {st : List Value} {M : pj_Mem} {x y : Int32} {o9 : Option Value × pj_Mem} : pj_Ends 124 (694, L, .int y :: .int x :: st, M) o9 = pj_Ends 124 (if x = y then 745 else 697, L, st, M) o9 := pj_xs (s124_694)
theorem q124_697 : pj_row 124 697 = some (.iconst 0, 1, 0, 0, 0) := by decide +kernel
theorem s124_697 {L : pj_Loc} {st : List Value} {M : pj_Mem}  : pj_step 124 (697, L, st, M) = some (698, L, .int 0 :: st, M) := st_iconst q124_697 (by decide +kernel)
theorem x124_697 {L : pj_Loc} {st : List Value} {M : pj_Mem}  {o9 : Option Value × pj_Mem} : pj_Ends 124 (697, L, st, M) o9 = pj_Ends 124 (698, L, .int 0 :: st, M) o9 := pj_xs (s124_697)
theorem q124_698 : pj_row 124 698 = some (.ireturn, 1, 0, 0, 0) := by decide +kernel
theorem t124_698 {L : pj_Loc} {M : pj_Mem} {v : Int32} (hv : v = 0 ∨ v = 1) : pj_Ends 124 (698, L, [.int v], M) (some (.int v), M) := pj_Ends.ret q124_698 (pj_rtn_z rt124 hv)
theorem q124_699 : pj_row 124 699 = some (.aload_n 1, 1, 0, 0, 0) := by decide +kernel
theorem s124_699 {st : List Value} {M : pj_Mem} {l : pj_Loc} {a0 : Option Value} {x : Nat} : pj_step 124 (699, a0 :: some (.ref x) :: l, st, M) = some (700, a0 :: some (.ref x) :: l, .ref x :: st, M) := st_aload_n q124_699 rfl
theorem x124_699 {st : List Value} {M : pj_Mem} {l : pj_Loc} {a0 : Option Value} {x : Nat} {o9 : Option Value × pj_Mem} : pj_Ends 124 (699, a0 :: some (.ref x) :: l, st, M) o9 = pj_Ends 124 (700, a0 :: some (.ref x) :: l, .ref x :: st, M) o9 := pj_xs (s124_699)
theorem q124_700 : pj_row 124 700 = some (.aload_n 0, 1, 0, 0, 0) := by decide +kernel
theorem s124_700 {st : List Value} {M : pj_Mem} {l : pj_Loc} {x : Nat} : pj_step 124 (700, some (.ref x) :: l, st, M) = some (701, some (.ref x) :: l, .ref x :: st, M) := st_aload_n q124_700 rfl
theorem x124_700 {st : List Value} {M : pj_Mem} {l : pj_Loc} {x : Nat} {o9 : Option Value × pj_Mem} : pj_Ends 124 (700, some (.ref x) :: l, st, M) o9 = pj_Ends 124 (701, some (.ref x) :: l, .ref x :: st, M) o9 := pj_xs (s124_700)
theorem q124_701 : pj_row 124 701 = some (.iload_n 3, 1, 0, 0, 0) := by decide +kernel
theorem s124_701 {st : List Value} {M : pj_Mem} {l : pj_Loc} {a0 a1 a2 : Option Value} {x : Int32} : pj_step 124 (701, a0 :: a1 :: a2 :: some (.int x) :: l, st, M) = some (702, a0 :: a1 :: a2 :: some (.int x) :: l, .int x :: st, M) := st_iload_n q124_701 rfl
theorem x124_701 {st : List Value} {M : pj_Mem} {l : pj_Loc} {a0 a1 a2 : Option Value} {x : Int32} {o9 : Option Value × pj_Mem} : pj_Ends 124 (701, a0 :: a1 :: a2 :: some (.int x) :: l, st, M) o9 = pj_Ends 124 (702, a0 :: a1 :: a2 :: some (.int x) :: l, .int x :: st, M) o9 := pj_xs (s124_701)
theorem q124_702 : pj_row 124 702 = some (.iconst 1, 1, 0, 0, 0) := by decide +kernel
theorem s124_702 {L : pj_Loc} {st : List Value} {M : pj_Mem}  : pj_step 124 (702, L, st, M) = some (703, L, .int 1 :: st, M) := st_iconst q124_702 (by decide +kernel)
theorem x124_702 {L : pj_Loc} {st : List Value} {M : pj_Mem}  {o9 : Option Value × pj_Mem} : pj_Ends 124 (702, L, st, M) o9 = pj_Ends 124 (703, L, .int 1 :: st, M) o9 := pj_xs (s124_702)
theorem q124_703 : pj_row 124 703 = some (.iadd, 1, 0, 0, 0) := by decide +kernel
theorem s124_703 {L : pj_Loc} {st : List Value} {M : pj_Mem} {x y : Int32} : pj_step 124 (703, L, .int y :: .int x :: st, M) = some (704, L, .int (x + y) :: st, M) := st_iadd q124_703
theorem x124_703 {L : pj_Loc} {st : List Value} {M : pj_Mem} {x y : Int32} {o9 : Option Value × pj_Mem} : pj_Ends 124 (703, L, .int y :: .int x :: st, M) o9 = pj_Ends 124 (704, L, .int (x + y) :: st, M) o9 := pj_xs (s124_703)
theorem q124_704 : pj_row 124 704 = some (.iaload, 1, 0, 0, 0) := by decide +kernel
theorem s124_704 {L : pj_Loc} {st : List Value} {N S : Nat} {H : pj_Heap} {o : Nat} {i : Int32} : pj_step 124 (704, L, .int i :: .ref o :: st, (N, S, H)) = pj_pi 705 L st (N, S, H) (pj_arl (H o) 0 i) := st_iaload q124_704
theorem x124_704 {L : pj_Loc} {st : List Value} {N S : Nat} {H : pj_Heap} {o : Nat} {i : Int32} {o9 : Option Value × pj_Mem} : pj_Ends 124 (704, L, .int i :: .ref o :: st, (N, S, H)) o9 = pj_then 124 o9 (pj_pi 705 L st (N, S, H) (pj_arl (H o) 0 i)) := pj_xt q124_704 rfl (pj_cl_nc rfl) (s124_704)
theorem q124_705 : pj_row 124 705 = some (.invokevirtual 90, 3, 72, 2, 0) := by decide +kernel
theorem e124_705 {L : pj_Loc} {st : List Value} {N S : Nat} {H : pj_Heap} {o : Option Value × pj_Mem} {M' : pj_Mem} {x0 : Nat} {x1 : Int32} {r : Int32} (h4 : pj_le4 st = true) (hu : pj_isU 5 (H x0) = true) (h1 : pj_Ends 72 (0, [some (.ref x0), some (.int x1)], [], (N, S, H)) (some (.int r), M')) (h2 : pj_Ends 124 (708, L, .int r :: st, M') o) : pj_Ends 124 (705, L, .int x1 :: .ref x0 :: st, (N, S, H)) o := ec_v2 q124_705 (Or.inl rfl) h4 hu rfl h1 h2
theorem q124_708 : pj_row 124 708 = some (.aload_n 2, 1, 0, 0, 0) := by decide +kernel
theorem s124_708 {st : List Value} {M : pj_Mem} {l : pj_Loc} {a0 a1 : Option Value} {x : Nat} : pj_step 124 (708, a0 :: a1 :: some (.ref x) :: l, st, M) = some (709, a0 :: a1 :: some (.ref x) :: l, .ref x :: st, M) := st_aload_n q124_708 rfl
theorem x124_708 {st : List Value} {M : pj_Mem} {l : pj_Loc} {a0 a1 : Option Value} {x : Nat} {o9 : Option Value × pj_Mem} : pj_Ends 124 (708, a0 :: a1 :: some (.ref x) :: l, st, M) o9 = pj_Ends 124 (709, a0 :: a1 :: some (.ref x) :: l, .ref x :: st, M) o9 := pj_xs (s124_708)
theorem q124_709 : pj_row 124 709 = some (.aload_n 0, 1, 0, 0, 0) := by decide +kernel
theorem s124_709 {st : List Value} {M : pj_Mem} {l : pj_Loc} {x : Nat} : pj_step 124 (709, some (.ref x) :: l, st, M) = some (710, some (.ref x) :: l, .ref x :: st, M) := st_aload_n q124_709 rfl
theorem x124_709 {st : List Value} {M : pj_Mem} {l : pj_Loc} {x : Nat} {o9 : Option Value × pj_Mem} : pj_Ends 124 (709, some (.ref x) :: l, st, M) o9 = pj_Ends 124 (710, some (.ref x) :: l, .ref x :: st, M) o9 := pj_xs (s124_709)
theorem q124_710 : pj_row 124 710 = some (.iload_n 3, 1, 0, 0, 0) := by decide +kernel
theorem s124_710 {st : List Value} {M : pj_Mem} {l : pj_Loc} {a0 a1 a2 : Option Value} {x : Int32} : pj_step 124 (710, a0 :: a1 :: a2 :: some (.int x) :: l, st, M) = some (711, a0 :: a1 :: a2 :: some (.int x) :: l, .int x :: st, M) := st_iload_n q124_710 rfl
theorem x124_710 {st : List Value} {M : pj_Mem} {l : pj_Loc} {a0 a1 a2 : Option Value} {x : Int32} {o9 : Option Value × pj_Mem} : pj_Ends 124 (710, a0 :: a1 :: a2 :: some (.int x) :: l, st, M) o9 = pj_Ends 124 (711, a0 :: a1 :: a2 :: some (.int x) :: l, .int x :: st, M) o9 := pj_xs (s124_710)
theorem q124_711 : pj_row 124 711 = some (.iconst 1, 1, 0, 0, 0) := by decide +kernel
theorem s124_711 {L : pj_Loc} {st : List Value} {M : pj_Mem}  : pj_step 124 (711, L, st, M) = some (712, L, .int 1 :: st, M) := st_iconst q124_711 (by decide +kernel)
theorem x124_711 {L : pj_Loc} {st : List Value} {M : pj_Mem}  {o9 : Option Value × pj_Mem} : pj_Ends 124 (711, L, st, M) o9 = pj_Ends 124 (712, L, .int 1 :: st, M) o9 := pj_xs (s124_711)
theorem q124_712 : pj_row 124 712 = some (.iadd, 1, 0, 0, 0) := by decide +kernel
theorem s124_712 {L : pj_Loc} {st : List Value} {M : pj_Mem} {x y : Int32} : pj_step 124 (712, L, .int y :: .int x :: st, M) = some (713, L, .int (x + y) :: st, M) := st_iadd q124_712
theorem x124_712 {L : pj_Loc} {st : List Value} {M : pj_Mem} {x y : Int32} {o9 : Option Value × pj_Mem} : pj_Ends 124 (712, L, .int y :: .int x :: st, M) o9 = pj_Ends 124 (713, L, .int (x + y) :: st, M) o9 := pj_xs (s124_712)
theorem q124_713 : pj_row 124 713 = some (.iaload, 1, 0, 0, 0) := by decide +kernel
theorem s124_713 {L : pj_Loc} {st : List Value} {N S : Nat} {H : pj_Heap} {o : Nat} {i : Int32} : pj_step 124 (713, L, .int i :: .ref o :: st, (N, S, H)) = pj_pi 714 L st (N, S, H) (pj_arl (H o) 0 i) := st_iaload q124_713
theorem x124_713 {L : pj_Loc} {st : List Value} {N S : Nat} {H : pj_Heap} {o : Nat} {i : Int32} {o9 : Option Value × pj_Mem} : pj_Ends 124 (713, L, .int i :: .ref o :: st, (N, S, H)) o9 = pj_then 124 o9 (pj_pi 714 L st (N, S, H) (pj_arl (H o) 0 i)) := pj_xt q124_713 rfl (pj_cl_nc rfl) (s124_713)
theorem q124_714 : pj_row 124 714 = some (.invokevirtual 93, 3, 122, 2, 0) := by decide +kernel
theorem e124_714 {L : pj_Loc} {st : List Value} {N S : Nat} {H : pj_Heap} {o : Option Value × pj_Mem} {M' : pj_Mem} {x0 : Nat} {x1 : Int32} {r : Int32} (h4 : pj_le4 st = true) (hu : pj_isU 6 (H x0) = true) (h1 : pj_Ends 122 (0, [some (.ref x0), some (.int x1), none], [], (N, S, H)) (some (.int r), M')) (h2 : pj_Ends 124 (717, L, .int r :: st, M') o) : pj_Ends 124 (714, L, .int x1 :: .ref x0 :: st, (N, S, H)) o := ec_v2 q124_714 (Or.inl rfl) h4 hu rfl h1 h2
theorem q124_717 : pj_row 124 717 = some (.if_icmp .eq 28, 3, 745, 0, 0) := by decide +kernel
theorem s124_717 {L : pj_Loc} {st : List Value} {M : pj_Mem} {x y : Int32} : pj_step 124 (717, L, .int y :: .int x :: st, M) = some (if x = y then 745 else 720, L, st, M) := st_icmp_eq q124_717
theorem x124_717 {L : pj_Loc} {st : List Value} {M : pj_Mem} {x y : Int32} {o9 : Option Value × pj_Mem} : pj_Ends 124 (717, L, .int y :: .int x :: st, M) o9 = pj_Ends 124 (if x = y then 745 else 720, L, st, M) o9 := pj_xs (s124_717)
theorem q124_720 : pj_row 124 720 = some (.iconst 0, 1, 0, 0, 0) := by decide +kernel
theorem s124_720 {L : pj_Loc} {st : List Value} {M : pj_Mem}  : pj_step 124 (720, L, st, M) = some (721, L, .int 0 :: st, M) := st_iconst q124_720 (by decide +kernel)
theorem x124_720 {L : pj_Loc} {st : List Value} {M : pj_Mem}  {o9 : Option Value × pj_Mem} : pj_Ends 124 (720, L, st, M) o9 = pj_Ends 124 (721, L, .int 0 :: st, M) o9 := pj_xs (s124_720)
theorem q124_721 : pj_row 124 721 = some (.ireturn, 1, 0, 0, 0) := by decide +kernel
theorem t124_721 {L : pj_Loc} {M : pj_Mem} {v : Int32} (hv : v = 0 ∨ v = 1) : pj_Ends 124 (721, L, [.int v], M) (some (.int v), M) := pj_Ends.ret q124_721 (pj_rtn_z rt124 hv)
theorem q124_722 : pj_row 124 722 = some (.aload_n 1, 1, 0, 0, 0) := by decide +kernel
theorem s124_722 {st : List Value} {M : pj_Mem} {l : pj_Loc} {a0 : Option Value} {x : Nat} : pj_step 124 (722, a0 :: some (.ref x) :: l, st, M) = some (723, a0 :: some (.ref x) :: l, .ref x :: st, M) := st_aload_n q124_722 rfl
theorem x124_722 {st : List Value} {M : pj_Mem} {l : pj_Loc} {a0 : Option Value} {x : Nat} {o9 : Option Value × pj_Mem} : pj_Ends 124 (722, a0 :: some (.ref x) :: l, st, M) o9 = pj_Ends 124 (723, a0 :: some (.ref x) :: l, .ref x :: st, M) o9 := pj_xs (s124_722)
theorem q124_723 : pj_row 124 723 = some (.aload_n 0, 1, 0, 0, 0) := by decide +kernel
theorem s124_723 {st : List Value} {M : pj_Mem} {l : pj_Loc} {x : Nat} : pj_step 124 (723, some (.ref x) :: l, st, M) = some (724, some (.ref x) :: l, .ref x :: st, M) := st_aload_n q124_723 rfl
theorem x124_723 {st : List Value} {M : pj_Mem} {l : pj_Loc} {x : Nat} {o9 : Option Value × pj_Mem} : pj_Ends 124 (723, some (.ref x) :: l, st, M) o9 = pj_Ends 124 (724, some (.ref x) :: l, .ref x :: st, M) o9 := pj_xs (s124_723)
theorem q124_724 : pj_row 124 724 = some (.iload_n 3, 1, 0, 0, 0) := by decide +kernel
theorem s124_724 {st : List Value} {M : pj_Mem} {l : pj_Loc} {a0 a1 a2 : Option Value} {x : Int32} : pj_step 124 (724, a0 :: a1 :: a2 :: some (.int x) :: l, st, M) = some (725, a0 :: a1 :: a2 :: some (.int x) :: l, .int x :: st, M) := st_iload_n q124_724 rfl
theorem x124_724 {st : List Value} {M : pj_Mem} {l : pj_Loc} {a0 a1 a2 : Option Value} {x : Int32} {o9 : Option Value × pj_Mem} : pj_Ends 124 (724, a0 :: a1 :: a2 :: some (.int x) :: l, st, M) o9 = pj_Ends 124 (725, a0 :: a1 :: a2 :: some (.int x) :: l, .int x :: st, M) o9 := pj_xs (s124_724)
theorem q124_725 : pj_row 124 725 = some (.iconst 1, 1, 0, 0, 0) := by decide +kernel
theorem s124_725 {L : pj_Loc} {st : List Value} {M : pj_Mem}  : pj_step 124 (725, L, st, M) = some (726, L, .int 1 :: st, M) := st_iconst q124_725 (by decide +kernel)
theorem x124_725 {L : pj_Loc} {st : List Value} {M : pj_Mem}  {o9 : Option Value × pj_Mem} : pj_Ends 124 (725, L, st, M) o9 = pj_Ends 124 (726, L, .int 1 :: st, M) o9 := pj_xs (s124_725)
theorem q124_726 : pj_row 124 726 = some (.iadd, 1, 0, 0, 0) := by decide +kernel
theorem s124_726 {L : pj_Loc} {st : List Value} {M : pj_Mem} {x y : Int32} : pj_step 124 (726, L, .int y :: .int x :: st, M) = some (727, L, .int (x + y) :: st, M) := st_iadd q124_726
theorem x124_726 {L : pj_Loc} {st : List Value} {M : pj_Mem} {x y : Int32} {o9 : Option Value × pj_Mem} : pj_Ends 124 (726, L, .int y :: .int x :: st, M) o9 = pj_Ends 124 (727, L, .int (x + y) :: st, M) o9 := pj_xs (s124_726)
theorem q124_727 : pj_row 124 727 = some (.iaload, 1, 0, 0, 0) := by decide +kernel
theorem s124_727 {L : pj_Loc} {st : List Value} {N S : Nat} {H : pj_Heap} {o : Nat} {i : Int32} : pj_step 124 (727, L, .int i :: .ref o :: st, (N, S, H)) = pj_pi 728 L st (N, S, H) (pj_arl (H o) 0 i) := st_iaload q124_727
theorem x124_727 {L : pj_Loc} {st : List Value} {N S : Nat} {H : pj_Heap} {o : Nat} {i : Int32} {o9 : Option Value × pj_Mem} : pj_Ends 124 (727, L, .int i :: .ref o :: st, (N, S, H)) o9 = pj_then 124 o9 (pj_pi 728 L st (N, S, H) (pj_arl (H o) 0 i)) := pj_xt q124_727 rfl (pj_cl_nc rfl) (s124_727)
theorem q124_728 : pj_row 124 728 = some (.invokevirtual 94, 3, 73, 2, 0) := by decide +kernel
theorem e124_728 {L : pj_Loc} {st : List Value} {N S : Nat} {H : pj_Heap} {o : Option Value × pj_Mem} {M' : pj_Mem} {x0 : Nat} {x1 : Int32} {r : Int32} (h4 : pj_le4 st = true) (hu : pj_isU 5 (H x0) = true) (h1 : pj_Ends 73 (0, [some (.ref x0), some (.int x1)], [], (N, S, H)) (some (.int r), M')) (h2 : pj_Ends 124 (731, L, .int r :: st, M') o) : pj_Ends 124 (728, L, .int x1 :: .ref x0 :: st, (N, S, H)) o := ec_v2 q124_728 (Or.inl rfl) h4 hu rfl h1 h2
theorem q124_731 : pj_row 124 731 = some (.aload_n 2, 1, 0, 0, 0) := by decide +kernel
theorem s124_731 {st : List Value} {M : pj_Mem} {l : pj_Loc} {a0 a1 : Option Value} {x : Nat} : pj_step 124 (731, a0 :: a1 :: some (.ref x) :: l, st, M) = some (732, a0 :: a1 :: some (.ref x) :: l, .ref x :: st, M) := st_aload_n q124_731 rfl
theorem x124_731 {st : List Value} {M : pj_Mem} {l : pj_Loc} {a0 a1 : Option Value} {x : Nat} {o9 : Option Value × pj_Mem} : pj_Ends 124 (731, a0 :: a1 :: some (.ref x) :: l, st, M) o9 = pj_Ends 124 (732, a0 :: a1 :: some (.ref x) :: l, .ref x :: st, M) o9 := pj_xs (s124_731)
theorem q124_732 : pj_row 124 732 = some (.aload_n 0, 1, 0, 0, 0) := by decide +kernel
theorem s124_732 {st : List Value} {M : pj_Mem} {l : pj_Loc} {x : Nat} : pj_step 124 (732, some (.ref x) :: l, st, M) = some (733, some (.ref x) :: l, .ref x :: st, M) := st_aload_n q124_732 rfl
theorem x124_732 {st : List Value} {M : pj_Mem} {l : pj_Loc} {x : Nat} {o9 : Option Value × pj_Mem} : pj_Ends 124 (732, some (.ref x) :: l, st, M) o9 = pj_Ends 124 (733, some (.ref x) :: l, .ref x :: st, M) o9 := pj_xs (s124_732)
theorem q124_733 : pj_row 124 733 = some (.iload_n 3, 1, 0, 0, 0) := by decide +kernel
theorem s124_733 {st : List Value} {M : pj_Mem} {l : pj_Loc} {a0 a1 a2 : Option Value} {x : Int32} : pj_step 124 (733, a0 :: a1 :: a2 :: some (.int x) :: l, st, M) = some (734, a0 :: a1 :: a2 :: some (.int x) :: l, .int x :: st, M) := st_iload_n q124_733 rfl
theorem x124_733 {st : List Value} {M : pj_Mem} {l : pj_Loc} {a0 a1 a2 : Option Value} {x : Int32} {o9 : Option Value × pj_Mem} : pj_Ends 124 (733, a0 :: a1 :: a2 :: some (.int x) :: l, st, M) o9 = pj_Ends 124 (734, a0 :: a1 :: a2 :: some (.int x) :: l, .int x :: st, M) o9 := pj_xs (s124_733)
theorem q124_734 : pj_row 124 734 = some (.iconst 1, 1, 0, 0, 0) := by decide +kernel
theorem s124_734 {L : pj_Loc} {st : List Value} {M : pj_Mem}  : pj_step 124 (734, L, st, M) = some (735, L, .int 1 :: st, M) := st_iconst q124_734 (by decide +kernel)
theorem x124_734 {L : pj_Loc} {st : List Value} {M : pj_Mem}  {o9 : Option Value × pj_Mem} : pj_Ends 124 (734, L, st, M) o9 = pj_Ends 124 (735, L, .int 1 :: st, M) o9 := pj_xs (s124_734)
theorem q124_735 : pj_row 124 735 = some (.iadd, 1, 0, 0, 0) := by decide +kernel
theorem s124_735 {L : pj_Loc} {st : List Value} {M : pj_Mem} {x y : Int32} : pj_step 124 (735, L, .int y :: .int x :: st, M) = some (736, L, .int (x + y) :: st, M) := st_iadd q124_735
theorem x124_735 {L : pj_Loc} {st : List Value} {M : pj_Mem} {x y : Int32} {o9 : Option Value × pj_Mem} : pj_Ends 124 (735, L, .int y :: .int x :: st, M) o9 = pj_Ends 124 (736, L, .int (x + y) :: st, M) o9 := pj_xs (s124_735)
theorem q124_736 : pj_row 124 736 = some (.iaload, 1, 0, 0, 0) := by decide +kernel
theorem s124_736 {L : pj_Loc} {st : List Value} {N S : Nat} {H : pj_Heap} {o : Nat} {i : Int32} : pj_step 124 (736, L, .int i :: .ref o :: st, (N, S, H)) = pj_pi 737 L st (N, S, H) (pj_arl (H o) 0 i) := st_iaload q124_736
theorem x124_736 {L : pj_Loc} {st : List Value} {N S : Nat} {H : pj_Heap} {o : Nat} {i : Int32} {o9 : Option Value × pj_Mem} : pj_Ends 124 (736, L, .int i :: .ref o :: st, (N, S, H)) o9 = pj_then 124 o9 (pj_pi 737 L st (N, S, H) (pj_arl (H o) 0 i)) := pj_xt q124_736 rfl (pj_cl_nc rfl) (s124_736)
theorem q124_737 : pj_row 124 737 = some (.invokevirtual 97, 3, 123, 2, 0) := by decide +kernel
theorem e124_737 {L : pj_Loc} {st : List Value} {N S : Nat} {H : pj_Heap} {o : Option Value × pj_Mem} {M' : pj_Mem} {x0 : Nat} {x1 : Int32} {r : Int32} (h4 : pj_le4 st = true) (hu : pj_isU 6 (H x0) = true) (h1 : pj_Ends 123 (0, [some (.ref x0), some (.int x1), none], [], (N, S, H)) (some (.int r), M')) (h2 : pj_Ends 124 (740, L, .int r :: st, M') o) : pj_Ends 124 (737, L, .int x1 :: .ref x0 :: st, (N, S, H)) o := ec_v2 q124_737 (Or.inl rfl) h4 hu rfl h1 h2
theorem q124_740 : pj_row 124 740 = some (.if_icmp .eq 5, 3, 745, 0, 0) := by decide +kernel
theorem s124_740 {L : pj_Loc} {st : List Value} {M : pj_Mem} {x y : Int32} : pj_step 124 (740, L, .int y :: .int x :: st, M) = some (if x = y then 745 else 743, L, st, M) := st_icmp_eq q124_740
theorem x124_740 {L : pj_Loc} {st : List Value} {M : pj_Mem} {x y : Int32} {o9 : Option Value × pj_Mem} : pj_Ends 124 (740, L, .int y :: .int x :: st, M) o9 = pj_Ends 124 (if x = y then 745 else 743, L, st, M) o9 := pj_xs (s124_740)
theorem q124_743 : pj_row 124 743 = some (.iconst 0, 1, 0, 0, 0) := by decide +kernel
theorem s124_743 {L : pj_Loc} {st : List Value} {M : pj_Mem}  : pj_step 124 (743, L, st, M) = some (744, L, .int 0 :: st, M) := st_iconst q124_743 (by decide +kernel)
theorem x124_743 {L : pj_Loc} {st : List Value} {M : pj_Mem}  {o9 : Option Value × pj_Mem} : pj_Ends 124 (743, L, st, M) o9 = pj_Ends 124 (744, L, .int 0 :: st, M) o9 := pj_xs (s124_743)
theorem q124_744 : pj_row 124 744 = some (.ireturn, 1, 0, 0, 0) := by decide +kernel
theorem t124_744 {L : pj_Loc} {M : pj_Mem} {v : Int32} (hv : v = 0 ∨ v = 1) : pj_Ends 124 (744, L, [.int v], M) (some (.int v), M) := pj_Ends.ret q124_744 (pj_rtn_z rt124 hv)
theorem q124_745 : pj_row 124 745 = some (.iinc 3 6, 3, 0, 0, 0) := by decide +kernel
theorem s124_745 {st : List Value} {M : pj_Mem} {l : pj_Loc} {a0 a1 a2 : Option Value} {x : Int32} (h : pj_long a2 = false) : pj_step 124 (745, a0 :: a1 :: a2 :: some (.int x) :: l, st, M) = some (748, a0 :: a1 :: a2 :: some (.int (x + 6)) :: l, st, M) := st_iinc q124_745 rfl (congrArg (fun y => x + y) (show Int32.ofInt 6 = 6 by decide +kernel)) (pj_st_3 h)
theorem x124_745 {st : List Value} {M : pj_Mem} {l : pj_Loc} {a0 a1 a2 : Option Value} {x : Int32} (h : pj_long a2 = false) {o9 : Option Value × pj_Mem} : pj_Ends 124 (745, a0 :: a1 :: a2 :: some (.int x) :: l, st, M) o9 = pj_Ends 124 (748, a0 :: a1 :: a2 :: some (.int (x + 6)) :: l, st, M) o9 := pj_xs (s124_745 h)
theorem q124_748 : pj_row 124 748 = some (.goto (-730), 3, 18, 0, 0) := by decide +kernel
theorem s124_748 {L : pj_Loc} {st : List Value} {M : pj_Mem}  : pj_step 124 (748, L, st, M) = some (18, L, st, M) := st_goto q124_748
theorem x124_748 {L : pj_Loc} {st : List Value} {M : pj_Mem}  {o9 : Option Value × pj_Mem} : pj_Ends 124 (748, L, st, M) o9 = pj_Ends 124 (18, L, st, M) o9 := pj_xs (s124_748)
theorem q124_751 : pj_row 124 751 = some (.iconst 1, 1, 0, 0, 0) := by decide +kernel
theorem s124_751 {L : pj_Loc} {st : List Value} {M : pj_Mem}  : pj_step 124 (751, L, st, M) = some (752, L, .int 1 :: st, M) := st_iconst q124_751 (by decide +kernel)
theorem x124_751 {L : pj_Loc} {st : List Value} {M : pj_Mem}  {o9 : Option Value × pj_Mem} : pj_Ends 124 (751, L, st, M) o9 = pj_Ends 124 (752, L, .int 1 :: st, M) o9 := pj_xs (s124_751)
theorem q124_752 : pj_row 124 752 = some (.ireturn, 1, 0, 0, 0) := by decide +kernel
theorem t124_752 {L : pj_Loc} {M : pj_Mem} {v : Int32} (hv : v = 0 ∨ v = 1) : pj_Ends 124 (752, L, [.int v], M) (some (.int v), M) := pj_Ends.ret q124_752 (pj_rtn_z rt124 hv)
