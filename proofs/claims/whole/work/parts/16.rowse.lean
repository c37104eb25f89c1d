/-! THE STEPS OF EACH METHOD, by program (wip/whole/gen/gen12.py) -/
theorem rt123 : pj_rt 123 = some .boolean := rfl
theorem q123_0 : pj_row 123 0 = some (.new 7, 3, 5, 0, 0) := by decide +kernel
theorem s123_0 {L : pj_Loc} {st : List Value} {N S : Nat} {H : pj_Heap}  : pj_step 123 (0, L, st, (N, S, H)) = some (3, L, .ref N :: st, (N + 1, S + 8, pj_up H N (.inl (5, [.null, .null, .null, .null, .null, .int 0, .null, .null])))) := (st_new q123_0).trans rfl
theorem x123_0 {L : pj_Loc} {st : List Value} {N S : Nat} {H : pj_Heap}  {o9 : Option Value × pj_Mem} : pj_Ends 123 (0, L, st, (N, S, H)) o9 = pj_Ends 123 (3, L, .ref N :: st, (N + 1, S + 8, pj_up H N (.inl (5, [.null, .null, .null, .null, .null, .int 0, .null, .null])))) o9 := pj_xs (s123_0)
theorem q123_3 : pj_row 123 3 = some (.dup, 1, 0, 0, 0) := by decide +kernel
theorem s123_3 {L : pj_Loc} {st : List Value} {M : pj_Mem} {x : Nat} : pj_step 123 (3, L, .ref x :: st, M) = some (4, L, .ref x :: .ref x :: st, M) := st_dup_ref q123_3
theorem x123_3 {L : pj_Loc} {st : List Value} {M : pj_Mem} {x : Nat} {o9 : Option Value × pj_Mem} : pj_Ends 123 (3, L, .ref x :: st, M) o9 = pj_Ends 123 (4, L, .ref x :: .ref x :: st, M) o9 := pj_xs (s123_3)
theorem s123_3i {L : pj_Loc} {st : List Value} {M : pj_Mem} {x : Int32} : pj_step 123 (3, L, .int x :: st, M) = some (4, L, .int x :: .int x :: st, M) := st_dup_int q123_3
theorem x123_3i {L : pj_Loc} {st : List Value} {M : pj_Mem} {x : Int32} {o9 : Option Value × pj_Mem} : pj_Ends 123 (3, L, .int x :: st, M) o9 = pj_Ends 123 (4, L, .int x :: .int x :: st, M) o9 := pj_xs (s123_3i)
theorem q123_4 : pj_row 123 4 = some (.invokespecial 9, 3, 0, 1, 0) := by decide +kernel
theorem e123_4 {L : pj_Loc} {st : List Value} {N S : Nat} {H : pj_Heap} {o : Option Value × pj_Mem} {M' : pj_Mem} {x0 : Nat} (h4 : pj_le4 st = true) (h1 : pj_Ends 0 (0, [some (.ref x0)], [], (N, S, H)) (none, M')) (h2 : pj_Ends 123 (7, L, st, M') o) : pj_Ends 123 (4, L, .ref x0 :: st, (N, S, H)) o := ec_i1 q123_4 (Or.inl rfl) h4 rfl h1 h2
theorem q123_7 : pj_row 123 7 = some (.astore_n 1, 1, 0, 0, 0) := by decide +kernel
theorem s123_7 {st : List Value} {M : pj_Mem} {l : pj_Loc} {a0 a1 : Option Value} {x : Nat} (h : pj_long a0 = false) : pj_step 123 (7, a0 :: a1 :: l, .ref x :: st, M) = some (8, a0 :: some (.ref x) :: l, st, M) := st_astore_n q123_7 (pj_st_1 h)
theorem x123_7 {st : List Value} {M : pj_Mem} {l : pj_Loc} {a0 a1 : Option Value} {x : Nat} (h : pj_long a0 = false) {o9 : Option Value × pj_Mem} : pj_Ends 123 (7, a0 :: a1 :: l, .ref x :: st, M) o9 = pj_Ends 123 (8, a0 :: some (.ref x) :: l, st, M) o9 := pj_xs (s123_7 h)
theorem q123_8 : pj_row 123 8 = some (.new 10, 3, 6, 0, 0) := by decide +kernel
theorem s123_8 {L : pj_Loc} {st : List Value} {N S : Nat} {H : pj_Heap}  : pj_step 123 (8, L, st, (N, S, H)) = some (11, L, .ref N :: st, (N + 1, S + 18, pj_up H N (.inl (6, [.null, .null, .null, .int 0, .null, .null, .null, .null, .int 0, .int 0, .int 0, .int 0, .null, .int 0, .int 0, .int 0, .int 0, .int 0])))) := (st_new q123_8).trans rfl
theorem x123_8 {L : pj_Loc} {st : List Value} {N S : Nat} {H : pj_Heap}  {o9 : Option Value × pj_Mem} : pj_Ends 123 (8, L, st, (N, S, H)) o9 = pj_Ends 123 (11, L, .ref N :: st, (N + 1, S + 18, pj_up H N (.inl (6, [.null, .null, .null, .int 0, .null, .null, .null, .null, .int 0, .int 0, .int 0, .int 0, .null, .int 0, .int 0, .int 0, .int 0, .int 0])))) o9 := pj_xs (s123_8)
theorem q123_11 : pj_row 123 11 = some (.dup, 1, 0, 0, 0) := by decide +kernel
theorem s123_11 {L : pj_Loc} {st : List Value} {M : pj_Mem} {x : Nat} : pj_step 123 (11, L, .ref x :: st, M) = some (12, L, .ref x :: .ref x :: st, M) := st_dup_ref q123_11
theorem x123_11 {L : pj_Loc} {st : List Value} {M : pj_Mem} {x : Nat} {o9 : Option Value × pj_Mem} : pj_Ends 123 (11, L, .ref x :: st, M) o9 = pj_Ends 123 (12, L, .ref x :: .ref x :: st, M) o9 := pj_xs (s123_11)
theorem s123_11i {L : pj_Loc} {st : List Value} {M : pj_Mem} {x : Int32} : pj_step 123 (11, L, .int x :: st, M) = some (12, L, .int x :: .int x :: st, M) := st_dup_int q123_11
theorem x123_11i {L : pj_Loc} {st : List Value} {M : pj_Mem} {x : Int32} {o9 : Option Value × pj_Mem} : pj_Ends 123 (11, L, .int x :: st, M) o9 = pj_Ends 123 (12, L, .int x :: .int x :: st, M) o9 := pj_xs (s123_11i)
theorem q123_12 : pj_row 123 12 = some (.invokespecial 12, 3, 73, 1, 0) := by decide +kernel
theorem e123_12 {L : pj_Loc} {st : List Value} {N S : Nat} {H : pj_Heap} {o : Option Value × pj_Mem} {M' : pj_Mem} {x0 : Nat} (h4 : pj_le4 st = true) (h1 : pj_Ends 73 (0, [some (.ref x0), none], [], (N, S, H)) (none, M')) (h2 : pj_Ends 123 (15, L, st, M') o) : pj_Ends 123 (12, L, .ref x0 :: st, (N, S, H)) o := ec_i1 q123_12 (Or.inl rfl) h4 rfl h1 h2
theorem q123_15 : pj_row 123 15 = some (.astore_n 2, 1, 0, 0, 0) := by decide +kernel
theorem s123_15 {st : List Value} {M : pj_Mem} {l : pj_Loc} {a0 a1 a2 : Option Value} {x : Nat} (h : pj_long a1 = false) : pj_step 123 (15, a0 :: a1 :: a2 :: l, .ref x :: st, M) = some (16, a0 :: a1 :: some (.ref x) :: l, st, M) := st_astore_n q123_15 (pj_st_2 h)
theorem x123_15 {st : List Value} {M : pj_Mem} {l : pj_Loc} {a0 a1 a2 : Option Value} {x : Nat} (h : pj_long a1 = false) {o9 : Option Value × pj_Mem} : pj_Ends 123 (15, a0 :: a1 :: a2 :: l, .ref x :: st, M) o9 = pj_Ends 123 (16, a0 :: a1 :: some (.ref x) :: l, st, M) o9 := pj_xs (s123_15 h)
theorem q123_16 : pj_row 123 16 = some (.iconst 0, 1, 0, 0, 0) := by decide +kernel
theorem s123_16 {L : pj_Loc} {st : List Value} {M : pj_Mem}  : pj_step 123 (16, L, st, M) = some (17, L, .int 0 :: st, M) := st_iconst q123_16 (by decide +kernel)
theorem x123_16 {L : pj_Loc} {st : List Value} {M : pj_Mem}  {o9 : Option Value × pj_Mem} : pj_Ends 123 (16, L, st, M) o9 = pj_Ends 123 (17, L, .int 0 :: st, M) o9 := pj_xs (s123_16)
theorem q123_17 : pj_row 123 17 = some (.istore_n 3, 1, 0, 0, 0) := by decide +kernel
theorem s123_17 {st : List Value} {M : pj_Mem} {l : pj_Loc} {a0 a1 a2 a3 : Option Value} {x : Int32} (h : pj_long a2 = false) : pj_step 123 (17, a0 :: a1 :: a2 :: a3 :: l, .int x :: st, M) = some (18, a0 :: a1 :: a2 :: some (.int x) :: l, st, M) := st_istore_n q123_17 (pj_st_3 h)
theorem x123_17 {st : List Value} {M : pj_Mem} {l : pj_Loc} {a0 a1 a2 a3 : Option Value} {x : Int32} (h : pj_long a2 = false) {o9 : Option Value × pj_Mem} : pj_Ends 123 (17, a0 :: a1 :: a2 :: a3 :: l, .int x :: st, M) o9 = pj_Ends 123 (18, a0 :: a1 :: a2 :: some (.int x) :: l, st, M) o9 := pj_xs (s123_17 h)
theorem q123_18 : pj_row 123 18 = some (.iload_n 3, 1, 0, 0, 0) := by decide +kernel
theorem s123_18 {st : List Value} {M : pj_Mem} {l : pj_Loc} {a0 a1 a2 : Option Value} {x : Int32} : pj_step 123 (18, a0 :: a1 :: a2 :: some (.int x) :: l, st, M) = some (19, a0 :: a1 :: a2 :: some (.int x) :: l, .int x :: st, M) := st_iload_n q123_18 rfl
theorem x123_18 {st : List Value} {M : pj_Mem} {l : pj_Loc} {a0 a1 a2 : Option Value} {x : Int32} {o9 : Option Value × pj_Mem} : pj_Ends 123 (18, a0 :: a1 :: a2 :: some (.int x) :: l, st, M) o9 = pj_Ends 123 (19, a0 :: a1 :: a2 :: some (.int x) :: l, .int x :: st, M) o9 := pj_xs (s123_18)
theorem q123_19 : pj_row 123 19 = some (.aload_n 0, 1, 0, 0, 0) := by decide +kernel
theorem s123_19 {st : List Value} {M : pj_Mem} {l : pj_Loc} {x : Nat} : pj_step 123 (19, some (.ref x) :: l, st, M) = some (20, some (.ref x) :: l, .ref x :: st, M) := st_aload_n q123_19 rfl
theorem x123_19 {st : List Value} {M : pj_Mem} {l : pj_Loc} {x : Nat} {o9 : Option Value × pj_Mem} : pj_Ends 123 (19, some (.ref x) :: l, st, M) o9 = pj_Ends 123 (20, some (.ref x) :: l, .ref x :: st, M) o9 := pj_xs (s123_19)
theorem q123_20 : pj_row 123 20 = some (.arraylength, 1, 0, 0, 0) := by decide +kernel
theorem s123_20 {L : pj_Loc} {st : List Value} {N S : Nat} {H : pj_Heap} {o : Nat} : pj_step 123 (20, L, .ref o :: st, (N, S, H)) = pj_pi 21 L st (N, S, H) (pj_len (H o)) := st_arraylength q123_20
theorem x123_20 {L : pj_Loc} {st : List Value} {N S : Nat} {H : pj_Heap} {o : Nat} {o9 : Option Value × pj_Mem} : pj_Ends 123 (20, L, .ref o :: st, (N, S, H)) o9 = pj_then 123 o9 (pj_pi 21 L st (N, S, H) (pj_len (H o))) := pj_xt q123_20 rfl (pj_cl_nc rfl) (s123_20)
theorem q123_21 : pj_row 123 21 = some (.bipush 6, 2, 0, 0, 0) := by decide +kernel
theorem s123_21 {L : pj_Loc} {st : List Value} {M : pj_Mem}  : pj_step 123 (21, L, st, M) = some (23, L, .int 6 :: st, M) := st_bipush q123_21 (by decide +kernel)
theorem x123_21 {L : pj_Loc} {st : List Value} {M : pj_Mem}  {o9 : Option Value × pj_Mem} : pj_Ends 123 (21, L, st, M) o9 = pj_Ends 123 (23, L, .int 6 :: st, M) o9 := pj_xs (s123_21)
theorem q123_23 : pj_row 123 23 = some (.isub, 1, 0, 0, 0) := by decide +kernel
theorem s123_23 {L : pj_Loc} {st : List Value} {M : pj_Mem} {x y : Int32} : pj_step 123 (23, L, .int y :: .int x :: st, M) = some (24, L, .int (x - y) :: st, M) := st_isub q123_23
theorem x123_23 {L : pj_Loc} {st : List Value} {M : pj_Mem} {x y : Int32} {o9 : Option Value × pj_Mem} : pj_Ends 123 (23, L, .int y :: .int x :: st, M) o9 = pj_Ends 123 (24, L, .int (x - y) :: st, M) o9 := pj_xs (s123_23)
theorem q123_24 : pj_row 123 24 = some (.if_icmp .gt 727, 3, 751, 0, 0) := by decide +kernel
theorem s123_24 {L : pj_Loc} {st : List Value} {M : pj_Mem} {x y : Int32} : pj_step 123 (24, L, .int y :: .int x :: st, M) = some (if y < x then 751 else 27, L, st, M) := st_icmp_gt q123_24
theorem x123_24 {L : pj_Loc} {st : List Value} {M : pj_Mem} {x y : Int32} {o9 : Option Value × pj_Mem} : pj_Ends 123 (24, L, .int y :: .int x :: st, M) o9 = pj_Ends 123 (if y < x then 751 else 27, L, st, M) o9 := pj_xs (s123_24)
theorem q123_27 : pj_row 123 27 = some (.aload_n 0, 1, 0, 0, 0) := by decide +kernel
theorem s123_27 {st : List Value} {M : pj_Mem} {l : pj_Loc} {x : Nat} : pj_step 123 (27, some (.ref x) :: l, st, M) = some (28, some (.ref x) :: l, .ref x :: st, M) := st_aload_n q123_27 rfl
theorem x123_27 {st : List Value} {M : pj_Mem} {l : pj_Loc} {x : Nat} {o9 : Option Value × pj_Mem} : pj_Ends 123 (27, some (.ref x) :: l, st, M) o9 = pj_Ends 123 (28, some (.ref x) :: l, .ref x :: st, M) o9 := pj_xs (s123_27)
theorem q123_28 : pj_row 123 28 = some (.iload_n 3, 1, 0, 0, 0) := by decide +kernel
theorem s123_28 {st : List Value} {M : pj_Mem} {l : pj_Loc} {a0 a1 a2 : Option Value} {x : Int32} : pj_step 123 (28, a0 :: a1 :: a2 :: some (.int x) :: l, st, M) = some (29, a0 :: a1 :: a2 :: some (.int x) :: l, .int x :: st, M) := st_iload_n q123_28 rfl
theorem x123_28 {st : List Value} {M : pj_Mem} {l : pj_Loc} {a0 a1 a2 : Option Value} {x : Int32} {o9 : Option Value × pj_Mem} : pj_Ends 123 (28, a0 :: a1 :: a2 :: some (.int x) :: l, st, M) o9 = pj_Ends 123 (29, a0 :: a1 :: a2 :: some (.int x) :: l, .int x :: st, M) o9 := pj_xs (s123_28)
theorem q123_29 : pj_row 123 29 = some (.iaload, 1, 0, 0, 0) := by decide +kernel
theorem s123_29 {L : pj_Loc} {st : List Value} {N S : Nat} {H : pj_Heap} {o : Nat} {i : Int32} : pj_step 123 (29, L, .int i :: .ref o :: st, (N, S, H)) = pj_pi 30 L st (N, S, H) (pj_arl (H o) 0 i) := st_iaload q123_29
theorem x123_29 {L : pj_Loc} {st : List Value} {N S : Nat} {H : pj_Heap} {o : Nat} {i : Int32} {o9 : Option Value × pj_Mem} : pj_Ends 123 (29, L, .int i :: .ref o :: st, (N, S, H)) o9 = pj_then 123 o9 (pj_pi 30 L st (N, S, H) (pj_arl (H o) 0 i)) := pj_xt q123_29 rfl (pj_cl_nc rfl) (s123_29)
theorem q123_30 : pj_row 123 30 = some (.bipush 31, 2, 0, 0, 0) := by decide +kernel
theorem s123_30 {L : pj_Loc} {st : List Value} {M : pj_Mem}  : pj_step 123 (30, L, st, M) = some (32, L, .int 31 :: st, M) := st_bipush q123_30 (by decide +kernel)
theorem x123_30 {L : pj_Loc} {st : List Value} {M : pj_Mem}  {o9 : Option Value × pj_Mem} : pj_Ends 123 (30, L, st, M) o9 = pj_Ends 123 (32, L, .int 31 :: st, M) o9 := pj_xs (s123_30)
theorem q123_32 : pj_row 123 32 = some (.iand, 1, 0, 0, 0) := by decide +kernel
theorem s123_32 {L : pj_Loc} {st : List Value} {M : pj_Mem} {x y : Int32} : pj_step 123 (32, L, .int y :: .int x :: st, M) = some (33, L, .int (x &&& y) :: st, M) := st_iand q123_32
theorem x123_32 {L : pj_Loc} {st : List Value} {M : pj_Mem} {x y : Int32} {o9 : Option Value × pj_Mem} : pj_Ends 123 (32, L, .int y :: .int x :: st, M) o9 = pj_Ends 123 (33, L, .int (x &&& y) :: st, M) o9 := pj_xs (s123_32)
theorem q123_33 : pj_row 123 33 = some (.tableswitch 712 0 18 #[91, 124, 193, 242, 265, 278, 311, 344, 377, 400, 479, 528, 561, 614, 627, 640, 653, 666, 689], 91, 0, 0, 0) := by decide +kernel
theorem s123_33 {L : pj_Loc} {st : List Value} {M : pj_Mem} {x : Int32} : pj_step 123 (33, L, .int x :: st, M) = some (if x = 0 then 124 else if x = 1 then 157 else if x = 2 then 226 else if x = 3 then 275 else if x = 4 then 298 else if x = 5 then 311 else if x = 6 then 344 else if x = 7 then 377 else if x = 8 then 410 else if x = 9 then 433 else if x = 10 then 512 else if x = 11 then 561 else if x = 12 then 594 else if x = 13 then 647 else if x = 14 then 660 else if x = 15 then 673 else if x = 16 then 686 else if x = 17 then 699 else if x = 18 then 722 else 745, L, st, M) := by
  rw [st_tsw q123_33]
  unfold pj_tsw
  by_cases hr : x.toInt < 0 ∨ 18 < x.toInt
  · simp only
    rw [if_pos hr]
    rw [if_neg (show ¬ x = 0 from fun e => by rw [e] at hr; revert hr; decide)]
    rw [if_neg (show ¬ x = 1 from fun e => by rw [e] at hr; revert hr; decide)]
    rw [if_neg (show ¬ x = 2 from fun e => by rw [e] at hr; revert hr; decide)]
    rw [if_neg (show ¬ x = 3 from fun e => by rw [e] at hr; revert hr; decide)]
    rw [if_neg (show ¬ x = 4 from fun e => by rw [e] at hr; revert hr; decide)]
    rw [if_neg (show ¬ x = 5 from fun e => by rw [e] at hr; revert hr; decide)]
    rw [if_neg (show ¬ x = 6 from fun e => by rw [e] at hr; revert hr; decide)]
    rw [if_neg (show ¬ x = 7 from fun e => by rw [e] at hr; revert hr; decide)]
    rw [if_neg (show ¬ x = 8 from fun e => by rw [e] at hr; revert hr; decide)]
    rw [if_neg (show ¬ x = 9 from fun e => by rw [e] at hr; revert hr; decide)]
    rw [if_neg (show ¬ x = 10 from fun e => by rw [e] at hr; revert hr; decide)]
    rw [if_neg (show ¬ x = 11 from fun e => by rw [e] at hr; revert hr; decide)]
    rw [if_neg (show ¬ x = 12 from fun e => by rw [e] at hr; revert hr; decide)]
    rw [if_neg (show ¬ x = 13 from fun e => by rw [e] at hr; revert hr; decide)]
    rw [if_neg (show ¬ x = 14 from fun e => by rw [e] at hr; revert hr; decide)]
    rw [if_neg (show ¬ x = 15 from fun e => by rw [e] at hr; revert hr; decide)]
    rw [if_neg (show ¬ x = 16 from fun e => by rw [e] at hr; revert hr; decide)]
    rw [if_neg (show ¬ x = 17 from fun e => by rw [e] at hr; revert hr; decide)]
    rw [if_neg (show ¬ x = 18 from fun e => by rw [e] at hr; revert hr; decide)]
    rfl
  · have h3 : x.toInt = 0 ∨ x.toInt = 1 ∨ x.toInt = 2 ∨ x.toInt = 3 ∨ x.toInt = 4 ∨ x.toInt = 5 ∨ x.toInt = 6 ∨ x.toInt = 7 ∨ x.toInt = 8 ∨ x.toInt = 9 ∨ x.toInt = 10 ∨ x.toInt = 11 ∨ x.toInt = 12 ∨ x.toInt = 13 ∨ x.toInt = 14 ∨ x.toInt = 15 ∨ x.toInt = 16 ∨ x.toInt = 17 ∨ x.toInt = 18 := by omega
    rcases h3 with h3 | h3 | h3 | h3 | h3 | h3 | h3 | h3 | h3 | h3 | h3 | h3 | h3 | h3 | h3 | h3 | h3 | h3 | h3
    · have e : x = 0 := Int32.toInt_inj.mp (h3.trans (by decide))
      subst e
      rfl
    · have e : x = 1 := Int32.toInt_inj.mp (h3.trans (by decide))
      subst e
      rfl
    · have e : x = 2 := Int32.toInt_inj.mp (h3.trans (by decide))
      subst e
      rfl
    · have e : x = 3 := Int32.toInt_inj.mp (h3.trans (by decide))
      subst e
      rfl
    · have e : x = 4 := Int32.toInt_inj.mp (h3.trans (by decide))
      subst e
      rfl
    · have e : x = 5 := Int32.toInt_inj.mp (h3.trans (by decide))
      subst e
      rfl
    · have e : x = 6 := Int32.toInt_inj.mp (h3.trans (by decide))
      subst e
      rfl
    · have e : x = 7 := Int32.toInt_inj.mp (h3.trans (by decide))
      subst e
      rfl
    · have e : x = 8 := Int32.toInt_inj.mp (h3.trans (by decide))
      subst e
      rfl
    · have e : x = 9 := Int32.toInt_inj.mp (h3.trans (by decide))
      subst e
      rfl
    · have e : x = 10 := Int32.toInt_inj.mp (h3.trans (by decide))
      subst e
      rfl
    · have e : x = 11 := Int32.toInt_inj.mp (h3.trans (by decide))
      subst e
      rfl
    · have e : x = 12 := Int32.toInt_inj.mp (h3.trans (by decide))
      subst e
      rfl
    · have e : x = 13 := Int32.toInt_inj.mp (h3.trans (by decide))
      subst e
      rfl
    · have e : x = 14 := Int32.toInt_inj.mp (h3.trans (by decide))
      subst e
      rfl
    · have e : x = 15 := Int32.toInt_inj.mp (h3.trans (by decide))
      subst e
      rfl
    · have e : x = 16 := Int32.toInt_inj.mp (h3.trans (by decide))
      subst e
      rfl
    · have e : x = 17 := Int32.toInt_inj.mp (h3.trans (by decide))
      subst e
      rfl
    · have e : x = 18 := Int32.toInt_inj.mp (h3.trans (by decide))
      subst e
      rfl
theorem x123_33 {L : pj_Loc} {st : List Value} {M : pj_Mem} {x : Int32} {o9 : Option Value × pj_Mem} : pj_Ends 123 (33, L, .int x :: st, M) o9 = pj_Ends 123 (if x = 0 then 124 else if x = 1 then 157 else if x = 2 then 226 else if x = 3 then 275 else if x = 4 then 298 else if x = 5 then 311 else if x = 6 then 344 else if x = 7 then 377 else if x = 8 then 410 else if x = 9 then 433 else if x = 10 then 512 else if x = 11 then 561 else if x = 12 then 594 else if x = 13 then 647 else if x = 14 then 660 else if x = 15 then 673 else if x = 16 then 686 else if x = 17 then 699 else if x = 18 then 722 else 745, L, st, M) o9 := pj_xs (s123_33)
theorem q123_124 : pj_row 123 124 = some (.aload_n 1, 1, 0, 0, 0) := by decide +kernel
theorem s123_124 {st : List Value} {M : pj_Mem} {l : pj_Loc} {a0 : Option Value} {x : Nat} : pj_step 123 (124, a0 :: some (.ref x) :: l, st, M) = some (125, a0 :: some (.ref x) :: l, .ref x :: st, M) := st_aload_n q123_124 rfl
theorem x123_124 {st : List Value} {M : pj_Mem} {l : pj_Loc} {a0 : Option Value} {x : Nat} {o9 : Option Value × pj_Mem} : pj_Ends 123 (124, a0 :: some (.ref x) :: l, st, M) o9 = pj_Ends 123 (125, a0 :: some (.ref x) :: l, .ref x :: st, M) o9 := pj_xs (s123_124)
theorem q123_125 : pj_row 123 125 = some (.aload_n 0, 1, 0, 0, 0) := by decide +kernel
theorem s123_125 {st : List Value} {M : pj_Mem} {l : pj_Loc} {x : Nat} : pj_step 123 (125, some (.ref x) :: l, st, M) = some (126, some (.ref x) :: l, .ref x :: st, M) := st_aload_n q123_125 rfl
theorem x123_125 {st : List Value} {M : pj_Mem} {l : pj_Loc} {x : Nat} {o9 : Option Value × pj_Mem} : pj_Ends 123 (125, some (.ref x) :: l, st, M) o9 = pj_Ends 123 (126, some (.ref x) :: l, .ref x :: st, M) o9 := pj_xs (s123_125)
theorem q123_126 : pj_row 123 126 = some (.iload_n 3, 1, 0, 0, 0) := by decide +kernel
theorem s123_126 {st : List Value} {M : pj_Mem} {l : pj_Loc} {a0 a1 a2 : Option Value} {x : Int32} : pj_step 123 (126, a0 :: a1 :: a2 :: some (.int x) :: l, st, M) = some (127, a0 :: a1 :: a2 :: some (.int x) :: l, .int x :: st, M) := st_iload_n q123_126 rfl
theorem x123_126 {st : List Value} {M : pj_Mem} {l : pj_Loc} {a0 a1 a2 : Option Value} {x : Int32} {o9 : Option Value × pj_Mem} : pj_Ends 123 (126, a0 :: a1 :: a2 :: some (.int x) :: l, st, M) o9 = pj_Ends 123 (127, a0 :: a1 :: a2 :: some (.int x) :: l, .int x :: st, M) o9 := pj_xs (s123_126)
theorem q123_127 : pj_row 123 127 = some (.iconst 1, 1, 0, 0, 0) := by decide +kernel
theorem s123_127 {L : pj_Loc} {st : List Value} {M : pj_Mem}  : pj_step 123 (127, L, st, M) = some (128, L, .int 1 :: st, M) := st_iconst q123_127 (by decide +kernel)
theorem x123_127 {L : pj_Loc} {st : List Value} {M : pj_Mem}  {o9 : Option Value × pj_Mem} : pj_Ends 123 (127, L, st, M) o9 = pj_Ends 123 (128, L, .int 1 :: st, M) o9 := pj_xs (s123_127)
theorem q123_128 : pj_row 123 128 = some (.iadd, 1, 0, 0, 0) := by decide +kernel
theorem s123_128 {L : pj_Loc} {st : List Value} {M : pj_Mem} {x y : Int32} : pj_step 123 (128, L, .int y :: .int x :: st, M) = some (129, L, .int (x + y) :: st, M) := st_iadd q123_128
theorem x123_128 {L : pj_Loc} {st : List Value} {M : pj_Mem} {x y : Int32} {o9 : Option Value × pj_Mem} : pj_Ends 123 (128, L, .int y :: .int x :: st, M) o9 = pj_Ends 123 (129, L, .int (x + y) :: st, M) o9 := pj_xs (s123_128)
theorem q123_129 : pj_row 123 129 = some (.iaload, 1, 0, 0, 0) := by decide +kernel
theorem s123_129 {L : pj_Loc} {st : List Value} {N S : Nat} {H : pj_Heap} {o : Nat} {i : Int32} : pj_step 123 (129, L, .int i :: .ref o :: st, (N, S, H)) = pj_pi 130 L st (N, S, H) (pj_arl (H o) 0 i) := st_iaload q123_129
theorem x123_129 {L : pj_Loc} {st : List Value} {N S : Nat} {H : pj_Heap} {o : Nat} {i : Int32} {o9 : Option Value × pj_Mem} : pj_Ends 123 (129, L, .int i :: .ref o :: st, (N, S, H)) o9 = pj_then 123 o9 (pj_pi 130 L st (N, S, H) (pj_arl (H o) 0 i)) := pj_xt q123_129 rfl (pj_cl_nc rfl) (s123_129)
theorem q123_130 : pj_row 123 130 = some (.aload_n 0, 1, 0, 0, 0) := by decide +kernel
theorem s123_130 {st : List Value} {M : pj_Mem} {l : pj_Loc} {x : Nat} : pj_step 123 (130, some (.ref x) :: l, st, M) = some (131, some (.ref x) :: l, .ref x :: st, M) := st_aload_n q123_130 rfl
theorem x123_130 {st : List Value} {M : pj_Mem} {l : pj_Loc} {x : Nat} {o9 : Option Value × pj_Mem} : pj_Ends 123 (130, some (.ref x) :: l, st, M) o9 = pj_Ends 123 (131, some (.ref x) :: l, .ref x :: st, M) o9 := pj_xs (s123_130)
theorem q123_131 : pj_row 123 131 = some (.iload_n 3, 1, 0, 0, 0) := by decide +kernel
theorem s123_131 {st : List Value} {M : pj_Mem} {l : pj_Loc} {a0 a1 a2 : Option Value} {x : Int32} : pj_step 123 (131, a0 :: a1 :: a2 :: some (.int x) :: l, st, M) = some (132, a0 :: a1 :: a2 :: some (.int x) :: l, .int x :: st, M) := st_iload_n q123_131 rfl
theorem x123_131 {st : List Value} {M : pj_Mem} {l : pj_Loc} {a0 a1 a2 : Option Value} {x : Int32} {o9 : Option Value × pj_Mem} : pj_Ends 123 (131, a0 :: a1 :: a2 :: some (.int x) :: l, st, M) o9 = pj_Ends 123 (132, a0 :: a1 :: a2 :: some (.int x) :: l, .int x :: st, M) o9 := pj_xs (s123_131)
theorem q123_132 : pj_row 123 132 = some (.iconst 2, 1, 0, 0, 0) := by decide +kernel
theorem s123_132 {L : pj_Loc} {st : List Value} {M : pj_Mem}  : pj_step 123 (132, L, st, M) = some (133, L, .int 2 :: st, M) := st_iconst q123_132 (by decide +kernel)
theorem x123_132 {L : pj_Loc} {st : List Value} {M : pj_Mem}  {o9 : Option Value × pj_Mem} : pj_Ends 123 (132, L, st, M) o9 = pj_Ends 123 (133, L, .int 2 :: st, M) o9 := pj_xs (s123_132)
theorem q123_133 : pj_row 123 133 = some (.iadd, 1, 0, 0, 0) := by decide +kernel
theorem s123_133 {L : pj_Loc} {st : List Value} {M : pj_Mem} {x y : Int32} : pj_step 123 (133, L, .int y :: .int x :: st, M) = some (134, L, .int (x + y) :: st, M) := st_iadd q123_133
theorem x123_133 {L : pj_Loc} {st : List Value} {M : pj_Mem} {x y : Int32} {o9 : Option Value × pj_Mem} : pj_Ends 123 (133, L, .int y :: .int x :: st, M) o9 = pj_Ends 123 (134, L, .int (x + y) :: st, M) o9 := pj_xs (s123_133)
theorem q123_134 : pj_row 123 134 = some (.iaload, 1, 0, 0, 0) := by decide +kernel
theorem s123_134 {L : pj_Loc} {st : List Value} {N S : Nat} {H : pj_Heap} {o : Nat} {i : Int32} : pj_step 123 (134, L, .int i :: .ref o :: st, (N, S, H)) = pj_pi 135 L st (N, S, H) (pj_arl (H o) 0 i) := st_iaload q123_134
theorem x123_134 {L : pj_Loc} {st : List Value} {N S : Nat} {H : pj_Heap} {o : Nat} {i : Int32} {o9 : Option Value × pj_Mem} : pj_Ends 123 (134, L, .int i :: .ref o :: st, (N, S, H)) o9 = pj_then 123 o9 (pj_pi 135 L st (N, S, H) (pj_arl (H o) 0 i)) := pj_xt q123_134 rfl (pj_cl_nc rfl) (s123_134)
theorem q123_135 : pj_row 123 135 = some (.invokevirtual 13, 3, 7, 3, 0) := by decide +kernel
theorem e123_135 {L : pj_Loc} {st : List Value} {N S : Nat} {H : pj_Heap} {o : Option Value × pj_Mem} {M' : pj_Mem} {x0 : Nat} {x1 : Int32} {x2 : Int32} {r : Int32} (h4 : pj_le4 st = true) (hu : pj_isU 5 (H x0) = true) (h1 : pj_Ends 7 (0, [some (.ref x0), some (.int x1), some (.int x2), none], [], (N, S, H)) (some (.int r), M')) (h2 : pj_Ends 123 (138, L, .int r :: st, M') o) : pj_Ends 123 (135, L, .int x2 :: .int x1 :: .ref x0 :: st, (N, S, H)) o := ec_v3 q123_135 (Or.inl rfl) h4 hu rfl h1 h2
theorem q123_138 : pj_row 123 138 = some (.aload_n 2, 1, 0, 0, 0) := by decide +kernel
theorem s123_138 {st : List Value} {M : pj_Mem} {l : pj_Loc} {a0 a1 : Option Value} {x : Nat} : pj_step 123 (138, a0 :: a1 :: some (.ref x) :: l, st, M) = some (139, a0 :: a1 :: some (.ref x) :: l, .ref x :: st, M) := st_aload_n q123_138 rfl
theorem x123_138 {st : List Value} {M : pj_Mem} {l : pj_Loc} {a0 a1 : Option Value} {x : Nat} {o9 : Option Value × pj_Mem} : pj_Ends 123 (138, a0 :: a1 :: some (.ref x) :: l, st, M) o9 = pj_Ends 123 (139, a0 :: a1 :: some (.ref x) :: l, .ref x :: st, M) o9 := pj_xs (s123_138)
theorem q123_139 : pj_row 123 139 = some (.aload_n 0, 1, 0, 0, 0) := by decide +kernel
theorem s123_139 {st : List Value} {M : pj_Mem} {l : pj_Loc} {x : Nat} : pj_step 123 (139, some (.ref x) :: l, st, M) = some (140, some (.ref x) :: l, .ref x :: st, M) := st_aload_n q123_139 rfl
theorem x123_139 {st : List Value} {M : pj_Mem} {l : pj_Loc} {x : Nat} {o9 : Option Value × pj_Mem} : pj_Ends 123 (139, some (.ref x) :: l, st, M) o9 = pj_Ends 123 (140, some (.ref x) :: l, .ref x :: st, M) o9 := pj_xs (s123_139)
theorem q123_140 : pj_row 123 140 = some (.iload_n 3, 1, 0, 0, 0) := by decide +kernel
theorem s123_140 {st : List Value} {M : pj_Mem} {l : pj_Loc} {a0 a1 a2 : Option Value} {x : Int32} : pj_step 123 (140, a0 :: a1 :: a2 :: some (.int x) :: l, st, M) = some (141, a0 :: a1 :: a2 :: some (.int x) :: l, .int x :: st, M) := st_iload_n q123_140 rfl
theorem x123_140 {st : List Value} {M : pj_Mem} {l : pj_Loc} {a0 a1 a2 : Option Value} {x : Int32} {o9 : Option Value × pj_Mem} : pj_Ends 123 (140, a0 :: a1 :: a2 :: some (.int x) :: l, st, M) o9 = pj_Ends 123 (141, a0 :: a1 :: a2 :: some (.int x) :: l, .int x :: st, M) o9 := pj_xs (s123_140)
theorem q123_141 : pj_row 123 141 = some (.iconst 1, 1, 0, 0, 0) := by decide +kernel
theorem s123_141 {L : pj_Loc} {st : List Value} {M : pj_Mem}  : pj_step 123 (141, L, st, M) = some (142, L, .int 1 :: st, M) := st_iconst q123_141 (by decide +kernel)
theorem x123_141 {L : pj_Loc} {st : List Value} {M : pj_Mem}  {o9 : Option Value × pj_Mem} : pj_Ends 123 (141, L, st, M) o9 = pj_Ends 123 (142, L, .int 1 :: st, M) o9 := pj_xs (s123_141)
theorem q123_142 : pj_row 123 142 = some (.iadd, 1, 0, 0, 0) := by decide +kernel
theorem s123_142 {L : pj_Loc} {st : List Value} {M : pj_Mem} {x y : Int32} : pj_step 123 (142, L, .int y :: .int x :: st, M) = some (143, L, .int (x + y) :: st, M) := st_iadd q123_142
theorem x123_142 {L : pj_Loc} {st : List Value} {M : pj_Mem} {x y : Int32} {o9 : Option Value × pj_Mem} : pj_Ends 123 (142, L, .int y :: .int x :: st, M) o9 = pj_Ends 123 (143, L, .int (x + y) :: st, M) o9 := pj_xs (s123_142)
theorem q123_143 : pj_row 123 143 = some (.iaload, 1, 0, 0, 0) := by decide +kernel
theorem s123_143 {L : pj_Loc} {st : List Value} {N S : Nat} {H : pj_Heap} {o : Nat} {i : Int32} : pj_step 123 (143, L, .int i :: .ref o :: st, (N, S, H)) = pj_pi 144 L st (N, S, H) (pj_arl (H o) 0 i) := st_iaload q123_143
theorem x123_143 {L : pj_Loc} {st : List Value} {N S : Nat} {H : pj_Heap} {o : Nat} {i : Int32} {o9 : Option Value × pj_Mem} : pj_Ends 123 (143, L, .int i :: .ref o :: st, (N, S, H)) o9 = pj_then 123 o9 (pj_pi 144 L st (N, S, H) (pj_arl (H o) 0 i)) := pj_xt q123_143 rfl (pj_cl_nc rfl) (s123_143)
theorem q123_144 : pj_row 123 144 = some (.aload_n 0, 1, 0, 0, 0) := by decide +kernel
theorem s123_144 {st : List Value} {M : pj_Mem} {l : pj_Loc} {x : Nat} : pj_step 123 (144, some (.ref x) :: l, st, M) = some (145, some (.ref x) :: l, .ref x :: st, M) := st_aload_n q123_144 rfl
theorem x123_144 {st : List Value} {M : pj_Mem} {l : pj_Loc} {x : Nat} {o9 : Option Value × pj_Mem} : pj_Ends 123 (144, some (.ref x) :: l, st, M) o9 = pj_Ends 123 (145, some (.ref x) :: l, .ref x :: st, M) o9 := pj_xs (s123_144)
theorem q123_145 : pj_row 123 145 = some (.iload_n 3, 1, 0, 0, 0) := by decide +kernel
theorem s123_145 {st : List Value} {M : pj_Mem} {l : pj_Loc} {a0 a1 a2 : Option Value} {x : Int32} : pj_step 123 (145, a0 :: a1 :: a2 :: some (.int x) :: l, st, M) = some (146, a0 :: a1 :: a2 :: some (.int x) :: l, .int x :: st, M) := st_iload_n q123_145 rfl
theorem x123_145 {st : List Value} {M : pj_Mem} {l : pj_Loc} {a0 a1 a2 : Option Value} {x : Int32} {o9 : Option Value × pj_Mem} : pj_Ends 123 (145, a0 :: a1 :: a2 :: some (.int x) :: l, st, M) o9 = pj_Ends 123 (146, a0 :: a1 :: a2 :: some (.int x) :: l, .int x :: st, M) o9 := pj_xs (s123_145)
theorem q123_146 : pj_row 123 146 = some (.iconst 2, 1, 0, 0, 0) := by decide +kernel
theorem s123_146 {L : pj_Loc} {st : List Value} {M : pj_Mem}  : pj_step 123 (146, L, st, M) = some (147, L, .int 2 :: st, M) := st_iconst q123_146 (by decide +kernel)
theorem x123_146 {L : pj_Loc} {st : List Value} {M : pj_Mem}  {o9 : Option Value × pj_Mem} : pj_Ends 123 (146, L, st, M) o9 = pj_Ends 123 (147, L, .int 2 :: st, M) o9 := pj_xs (s123_146)
theorem q123_147 : pj_row 123 147 = some (.iadd, 1, 0, 0, 0) := by decide +kernel
theorem s123_147 {L : pj_Loc} {st : List Value} {M : pj_Mem} {x y : Int32} : pj_step 123 (147, L, .int y :: .int x :: st, M) = some (148, L, .int (x + y) :: st, M) := st_iadd q123_147
theorem x123_147 {L : pj_Loc} {st : List Value} {M : pj_Mem} {x y : Int32} {o9 : Option Value × pj_Mem} : pj_Ends 123 (147, L, .int y :: .int x :: st, M) o9 = pj_Ends 123 (148, L, .int (x + y) :: st, M) o9 := pj_xs (s123_147)
theorem q123_148 : pj_row 123 148 = some (.iaload, 1, 0, 0, 0) := by decide +kernel
theorem s123_148 {L : pj_Loc} {st : List Value} {N S : Nat} {H : pj_Heap} {o : Nat} {i : Int32} : pj_step 123 (148, L, .int i :: .ref o :: st, (N, S, H)) = pj_pi 149 L st (N, S, H) (pj_arl (H o) 0 i) := st_iaload q123_148
theorem x123_148 {L : pj_Loc} {st : List Value} {N S : Nat} {H : pj_Heap} {o : Nat} {i : Int32} {o9 : Option Value × pj_Mem} : pj_Ends 123 (148, L, .int i :: .ref o :: st, (N, S, H)) o9 = pj_then 123 o9 (pj_pi 149 L st (N, S, H) (pj_arl (H o) 0 i)) := pj_xt q123_148 rfl (pj_cl_nc rfl) (s123_148)
theorem q123_149 : pj_row 123 149 = some (.invokevirtual 17, 3, 74, 3, 0) := by decide +kernel
theorem e123_149 {L : pj_Loc} {st : List Value} {N S : Nat} {H : pj_Heap} {o : Option Value × pj_Mem} {M' : pj_Mem} {x0 : Nat} {x1 : Int32} {x2 : Int32} {r : Int32} (h4 : pj_le4 st = true) (hu : pj_isU 6 (H x0) = true) (h1 : pj_Ends 74 (0, [some (.ref x0), some (.int x1), some (.int x2), none], [], (N, S, H)) (some (.int r), M')) (h2 : pj_Ends 123 (152, L, .int r :: st, M') o) : pj_Ends 123 (149, L, .int x2 :: .int x1 :: .ref x0 :: st, (N, S, H)) o := ec_v3 q123_149 (Or.inl rfl) h4 hu rfl h1 h2
theorem q123_152 : pj_row 123 152 = some (.if_icmp .eq 593, 3, 745, 0, 0) := by decide +kernel
theorem s123_152 {L : pj_Loc} {st : List Value} {M : pj_Mem} {x y : Int32} : pj_step 123 (152, L, .int y :: .int x :: st, M) = some (if x = y then 745 else 155, L, st, M) := st_icmp_eq q123_152
theorem x123_152 {L : pj_Loc} {st : List Value} {M : pj_Mem} {x y : Int32} {o9 : Option Value × pj_Mem} : pj_Ends 123 (152, L, .int y :: .int x :: st, M) o9 = pj_Ends 123 (if x = y then 745 else 155, L, st, M) o9 := pj_xs (s123_152)
theorem q123_155 : pj_row 123 155 = some (.iconst 0, 1, 0, 0, 0) := by decide +kernel
theorem s123_155 {L : pj_Loc} {st : List Value} {M : pj_Mem}  : pj_step 123 (155, L, st, M) = some (156, L, .int 0 :: st, M) := st_iconst q123_155 (by decide +kernel)
theorem x123_155 {L : pj_Loc} {st : List Value} {M : pj_Mem}  {o9 : Option Value × pj_Mem} : pj_Ends 123 (155, L, st, M) o9 = pj_Ends 123 (156, L, .int 0 :: st, M) o9 := pj_xs (s123_155)
theorem q123_156 : pj_row 123 156 = some (.ireturn, 1, 0, 0, 0) := by decide +kernel
theorem t123_156 {L : pj_Loc} {M : pj_Mem} {v : Int32} (hv : v = 0 ∨ v = 1) : pj_Ends 123 (156, L, [.int v], M) (some (.int v), M) := pj_Ends.ret q123_156 (pj_rtn_z rt123 hv)
theorem q123_157 : pj_row 123 157 = some (.aload_n 1, 1, 0, 0, 0) := by decide +kernel
theorem s123_157 {st : List Value} {M : pj_Mem} {l : pj_Loc} {a0 : Option Value} {x : Nat} : pj_step 123 (157, a0 :: some (.ref x) :: l, st, M) = some (158, a0 :: some (.ref x) :: l, .ref x :: st, M) := st_aload_n q123_157 rfl
theorem x123_157 {st : List Value} {M : pj_Mem} {l : pj_Loc} {a0 : Option Value} {x : Nat} {o9 : Option Value × pj_Mem} : pj_Ends 123 (157, a0 :: some (.ref x) :: l, st, M) o9 = pj_Ends 123 (158, a0 :: some (.ref x) :: l, .ref x :: st, M) o9 := pj_xs (s123_157)
theorem q123_158 : pj_row 123 158 = some (.aload_n 0, 1, 0, 0, 0) := by decide +kernel
theorem s123_158 {st : List Value} {M : pj_Mem} {l : pj_Loc} {x : Nat} : pj_step 123 (158, some (.ref x) :: l, st, M) = some (159, some (.ref x) :: l, .ref x :: st, M) := st_aload_n q123_158 rfl
theorem x123_158 {st : List Value} {M : pj_Mem} {l : pj_Loc} {x : Nat} {o9 : Option Value × pj_Mem} : pj_Ends 123 (158, some (.ref x) :: l, st, M) o9 = pj_Ends 123 (159, some (.ref x) :: l, .ref x :: st, M) o9 := pj_xs (s123_158)
theorem q123_159 : pj_row 123 159 = some (.iload_n 3, 1, 0, 0, 0) := by decide +kernel
theorem s123_159 {st : List Value} {M : pj_Mem} {l : pj_Loc} {a0 a1 a2 : Option Value} {x : Int32} : pj_step 123 (159, a0 :: a1 :: a2 :: some (.int x) :: l, st, M) = some (160, a0 :: a1 :: a2 :: some (.int x) :: l, .int x :: st, M) := st_iload_n q123_159 rfl
theorem x123_159 {st : List Value} {M : pj_Mem} {l : pj_Loc} {a0 a1 a2 : Option Value} {x : Int32} {o9 : Option Value × pj_Mem} : pj_Ends 123 (159, a0 :: a1 :: a2 :: some (.int x) :: l, st, M) o9 = pj_Ends 123 (160, a0 :: a1 :: a2 :: some (.int x) :: l, .int x :: st, M) o9 := pj_xs (s123_159)
theorem q123_160 : pj_row 123 160 = some (.iconst 1, 1, 0, 0, 0) := by decide +kernel
theorem s123_160 {L : pj_Loc} {st : List Value} {M : pj_Mem}  : pj_step 123 (160, L, st, M) = some (161, L, .int 1 :: st, M) := st_iconst q123_160 (by decide +kernel)
theorem x123_160 {L : pj_Loc} {st : List Value} {M : pj_Mem}  {o9 : Option Value × pj_Mem} : pj_Ends 123 (160, L, st, M) o9 = pj_Ends 123 (161, L, .int 1 :: st, M) o9 := pj_xs (s123_160)
theorem q123_161 : pj_row 123 161 = some (.iadd, 1, 0, 0, 0) := by decide +kernel
theorem s123_161 {L : pj_Loc} {st : List Value} {M : pj_Mem} {x y : Int32} : pj_step 123 (161, L, .int y :: .int x :: st, M) = some (162, L, .int (x + y) :: st, M) := st_iadd q123_161
theorem x123_161 {L : pj_Loc} {st : List Value} {M : pj_Mem} {x y : Int32} {o9 : Option Value × pj_Mem} : pj_Ends 123 (161, L, .int y :: .int x :: st, M) o9 = pj_Ends 123 (162, L, .int (x + y) :: st, M) o9 := pj_xs (s123_161)
theorem q123_162 : pj_row 123 162 = some (.iaload, 1, 0, 0, 0) := by decide +kernel
theorem s123_162 {L : pj_Loc} {st : List Value} {N S : Nat} {H : pj_Heap} {o : Nat} {i : Int32} : pj_step 123 (162, L, .int i :: .ref o :: st, (N, S, H)) = pj_pi 163 L st (N, S, H) (pj_arl (H o) 0 i) := st_iaload q123_162
theorem x123_162 {L : pj_Loc} {st : List Value} {N S : Nat} {H : pj_Heap} {o : Nat} {i : Int32} {o9 : Option Value × pj_Mem} : pj_Ends 123 (162, L, .int i :: .ref o :: st, (N, S, H)) o9 = pj_then 123 o9 (pj_pi 163 L st (N, S, H) (pj_arl (H o) 0 i)) := pj_xt q123_162 rfl (pj_cl_nc rfl) (s123_162)
theorem q123_163 : pj_row 123 163 = some (.aload_n 0, 1, 0, 0, 0) := by decide +kernel
theorem s123_163 {st : List Value} {M : pj_Mem} {l : pj_Loc} {x : Nat} : pj_step 123 (163, some (.ref x) :: l, st, M) = some (164, some (.ref x) :: l, .ref x :: st, M) := st_aload_n q123_163 rfl
theorem x123_163 {st : List Value} {M : pj_Mem} {l : pj_Loc} {x : Nat} {o9 : Option Value × pj_Mem} : pj_Ends 123 (163, some (.ref x) :: l, st, M) o9 = pj_Ends 123 (164, some (.ref x) :: l, .ref x :: st, M) o9 := pj_xs (s123_163)
theorem q123_164 : pj_row 123 164 = some (.iload_n 3, 1, 0, 0, 0) := by decide +kernel
theorem s123_164 {st : List Value} {M : pj_Mem} {l : pj_Loc} {a0 a1 a2 : Option Value} {x : Int32} : pj_step 123 (164, a0 :: a1 :: a2 :: some (.int x) :: l, st, M) = some (165, a0 :: a1 :: a2 :: some (.int x) :: l, .int x :: st, M) := st_iload_n q123_164 rfl
theorem x123_164 {st : List Value} {M : pj_Mem} {l : pj_Loc} {a0 a1 a2 : Option Value} {x : Int32} {o9 : Option Value × pj_Mem} : pj_Ends 123 (164, a0 :: a1 :: a2 :: some (.int x) :: l, st, M) o9 = pj_Ends 123 (165, a0 :: a1 :: a2 :: some (.int x) :: l, .int x :: st, M) o9 := pj_xs (s123_164)
theorem q123_165 : pj_row 123 165 = some (.iconst 2, 1, 0, 0, 0) := by decide +kernel
theorem s123_165 {L : pj_Loc} {st : List Value} {M : pj_Mem}  : pj_step 123 (165, L, st, M) = some (166, L, .int 2 :: st, M) := st_iconst q123_165 (by decide +kernel)
theorem x123_165 {L : pj_Loc} {st : List Value} {M : pj_Mem}  {o9 : Option Value × pj_Mem} : pj_Ends 123 (165, L, st, M) o9 = pj_Ends 123 (166, L, .int 2 :: st, M) o9 := pj_xs (s123_165)
theorem q123_166 : pj_row 123 166 = some (.iadd, 1, 0, 0, 0) := by decide +kernel
theorem s123_166 {L : pj_Loc} {st : List Value} {M : pj_Mem} {x y : Int32} : pj_step 123 (166, L, .int y :: .int x :: st, M) = some (167, L, .int (x + y) :: st, M) := st_iadd q123_166
theorem x123_166 {L : pj_Loc} {st : List Value} {M : pj_Mem} {x y : Int32} {o9 : Option Value × pj_Mem} : pj_Ends 123 (166, L, .int y :: .int x :: st, M) o9 = pj_Ends 123 (167, L, .int (x + y) :: st, M) o9 := pj_xs (s123_166)
theorem q123_167 : pj_row 123 167 = some (.iaload, 1, 0, 0, 0) := by decide +kernel
theorem s123_167 {L : pj_Loc} {st : List Value} {N S : Nat} {H : pj_Heap} {o : Nat} {i : Int32} : pj_step 123 (167, L, .int i :: .ref o :: st, (N, S, H)) = pj_pi 168 L st (N, S, H) (pj_arl (H o) 0 i) := st_iaload q123_167
theorem x123_167 {L : pj_Loc} {st : List Value} {N S : Nat} {H : pj_Heap} {o : Nat} {i : Int32} {o9 : Option Value × pj_Mem} : pj_Ends 123 (167, L, .int i :: .ref o :: st, (N, S, H)) o9 = pj_then 123 o9 (pj_pi 168 L st (N, S, H) (pj_arl (H o) 0 i)) := pj_xt q123_167 rfl (pj_cl_nc rfl) (s123_167)
theorem q123_168 : pj_row 123 168 = some (.aload_n 0, 1, 0, 0, 0) := by decide +kernel
theorem s123_168 {st : List Value} {M : pj_Mem} {l : pj_Loc} {x : Nat} : pj_step 123 (168, some (.ref x) :: l, st, M) = some (169, some (.ref x) :: l, .ref x :: st, M) := st_aload_n q123_168 rfl
theorem x123_168 {st : List Value} {M : pj_Mem} {l : pj_Loc} {x : Nat} {o9 : Option Value × pj_Mem} : pj_Ends 123 (168, some (.ref x) :: l, st, M) o9 = pj_Ends 123 (169, some (.ref x) :: l, .ref x :: st, M) o9 := pj_xs (s123_168)
theorem q123_169 : pj_row 123 169 = some (.iload_n 3, 1, 0, 0, 0) := by decide +kernel
theorem s123_169 {st : List Value} {M : pj_Mem} {l : pj_Loc} {a0 a1 a2 : Option Value} {x : Int32} : pj_step 123 (169, a0 :: a1 :: a2 :: some (.int x) :: l, st, M) = some (170, a0 :: a1 :: a2 :: some (.int x) :: l, .int x :: st, M) := st_iload_n q123_169 rfl
theorem x123_169 {st : List Value} {M : pj_Mem} {l : pj_Loc} {a0 a1 a2 : Option Value} {x : Int32} {o9 : Option Value × pj_Mem} : pj_Ends 123 (169, a0 :: a1 :: a2 :: some (.int x) :: l, st, M) o9 = pj_Ends 123 (170, a0 :: a1 :: a2 :: some (.int x) :: l, .int x :: st, M) o9 := pj_xs (s123_169)
theorem q123_170 : pj_row 123 170 = some (.iconst 3, 1, 0, 0, 0) := by decide +kernel
theorem s123_170 {L : pj_Loc} {st : List Value} {M : pj_Mem}  : pj_step 123 (170, L, st, M) = some (171, L, .int 3 :: st, M) := st_iconst q123_170 (by decide +kernel)
theorem x123_170 {L : pj_Loc} {st : List Value} {M : pj_Mem}  {o9 : Option Value × pj_Mem} : pj_Ends 123 (170, L, st, M) o9 = pj_Ends 123 (171, L, .int 3 :: st, M) o9 := pj_xs (s123_170)
theorem q123_171 : pj_row 123 171 = some (.iadd, 1, 0, 0, 0) := by decide +kernel
theorem s123_171 {L : pj_Loc} {st : List Value} {M : pj_Mem} {x y : Int32} : pj_step 123 (171, L, .int y :: .int x :: st, M) = some (172, L, .int (x + y) :: st, M) := st_iadd q123_171
theorem x123_171 {L : pj_Loc} {st : List Value} {M : pj_Mem} {x y : Int32} {o9 : Option Value × pj_Mem} : pj_Ends 123 (171, L, .int y :: .int x :: st, M) o9 = pj_Ends 123 (172, L, .int (x + y) :: st, M) o9 := pj_xs (s123_171)
theorem q123_172 : pj_row 123 172 = some (.iaload, 1, 0, 0, 0) := by decide +kernel
theorem s123_172 {L : pj_Loc} {st : List Value} {N S : Nat} {H : pj_Heap} {o : Nat} {i : Int32} : pj_step 123 (172, L, .int i :: .ref o :: st, (N, S, H)) = pj_pi 173 L st (N, S, H) (pj_arl (H o) 0 i) := st_iaload q123_172
theorem x123_172 {L : pj_Loc} {st : List Value} {N S : Nat} {H : pj_Heap} {o : Nat} {i : Int32} {o9 : Option Value × pj_Mem} : pj_Ends 123 (172, L, .int i :: .ref o :: st, (N, S, H)) o9 = pj_then 123 o9 (pj_pi 173 L st (N, S, H) (pj_arl (H o) 0 i)) := pj_xt q123_172 rfl (pj_cl_nc rfl) (s123_172)
theorem q123_173 : pj_row 123 173 = some (.aload_n 0, 1, 0, 0, 0) := by decide +kernel
theorem s123_173 {st : List Value} {M : pj_Mem} {l : pj_Loc} {x : Nat} : pj_step 123 (173, some (.ref x) :: l, st, M) = some (174, some (.ref x) :: l, .ref x :: st, M) := st_aload_n q123_173 rfl
theorem x123_173 {st : List Value} {M : pj_Mem} {l : pj_Loc} {x : Nat} {o9 : Option Value × pj_Mem} : pj_Ends 123 (173, some (.ref x) :: l, st, M) o9 = pj_Ends 123 (174, some (.ref x) :: l, .ref x :: st, M) o9 := pj_xs (s123_173)
theorem q123_174 : pj_row 123 174 = some (.iload_n 3, 1, 0, 0, 0) := by decide +kernel
theorem s123_174 {st : List Value} {M : pj_Mem} {l : pj_Loc} {a0 a1 a2 : Option Value} {x : Int32} : pj_step 123 (174, a0 :: a1 :: a2 :: some (.int x) :: l, st, M) = some (175, a0 :: a1 :: a2 :: some (.int x) :: l, .int x :: st, M) := st_iload_n q123_174 rfl
theorem x123_174 {st : List Value} {M : pj_Mem} {l : pj_Loc} {a0 a1 a2 : Option Value} {x : Int32} {o9 : Option Value × pj_Mem} : pj_Ends 123 (174, a0 :: a1 :: a2 :: some (.int x) :: l, st, M) o9 = pj_Ends 123 (175, a0 :: a1 :: a2 :: some (.int x) :: l, .int x :: st, M) o9 := pj_xs (s123_174)
theorem q123_175 : pj_row 123 175 = some (.iconst 4, 1, 0, 0, 0) := by decide +kernel
theorem s123_175 {L : pj_Loc} {st : List Value} {M : pj_Mem}  : pj_step 123 (175, L, st, M) = some (176, L, .int 4 :: st, M) := st_iconst q123_175 (by decide +kernel)
theorem x123_175 {L : pj_Loc} {st : List Value} {M : pj_Mem}  {o9 : Option Value × pj_Mem} : pj_Ends 123 (175, L, st, M) o9 = pj_Ends 123 (176, L, .int 4 :: st, M) o9 := pj_xs (s123_175)
theorem q123_176 : pj_row 123 176 = some (.iadd, 1, 0, 0, 0) := by decide +kernel
theorem s123_176 {L : pj_Loc} {st : List Value} {M : pj_Mem} {x y : Int32} : pj_step 123 (176, L, .int y :: .int x :: st, M) = some (177, L, .int (x + y) :: st, M) := st_iadd q123_176
theorem x123_176 {L : pj_Loc} {st : List Value} {M : pj_Mem} {x y : Int32} {o9 : Option Value × pj_Mem} : pj_Ends 123 (176, L, .int y :: .int x :: st, M) o9 = pj_Ends 123 (177, L, .int (x + y) :: st, M) o9 := pj_xs (s123_176)
theorem q123_177 : pj_row 123 177 = some (.iaload, 1, 0, 0, 0) := by decide +kernel
theorem s123_177 {L : pj_Loc} {st : List Value} {N S : Nat} {H : pj_Heap} {o : Nat} {i : Int32} : pj_step 123 (177, L, .int i :: .ref o :: st, (N, S, H)) = pj_pi 178 L st (N, S, H) (pj_arl (H o) 0 i) := st_iaload q123_177
theorem x123_177 {L : pj_Loc} {st : List Value} {N S : Nat} {H : pj_Heap} {o : Nat} {i : Int32} {o9 : Option Value × pj_Mem} : pj_Ends 123 (177, L, .int i :: .ref o :: st, (N, S, H)) o9 = pj_then 123 o9 (pj_pi 178 L st (N, S, H) (pj_arl (H o) 0 i)) := pj_xt q123_177 rfl (pj_cl_nc rfl) (s123_177)
theorem q123_178 : pj_row 123 178 = some (.ifCond .eq 7, 3, 185, 0, 0) := by decide +kernel
theorem s123_178 {L : pj_Loc} {st : List Value} {M : pj_Mem} {x : Int32} : pj_step 123 (178, L, .int x :: st, M) = some (if x = 0 then 185 else 181, L, st, M) := st_if_eq q123_178
theorem x123_178 {L : pj_Loc} {st : List Value} {M : pj_Mem} {x : Int32} {o9 : Option Value × pj_Mem} : pj_Ends 123 (178, L, .int x :: st, M) o9 = pj_Ends 123 (if x = 0 then 185 else 181, L, st, M) o9 := pj_xs (s123_178)
theorem q123_181 : pj_row 123 181 = some (.iconst 1, 1, 0, 0, 0) := by decide +kernel
theorem s123_181 {L : pj_Loc} {st : List Value} {M : pj_Mem}  : pj_step 123 (181, L, st, M) = some (182, L, .int 1 :: st, M) := st_iconst q123_181 (by decide +kernel)
theorem x123_181 {L : pj_Loc} {st : List Value} {M : pj_Mem}  {o9 : Option Value × pj_Mem} : pj_Ends 123 (181, L, st, M) o9 = pj_Ends 123 (182, L, .int 1 :: st, M) o9 := pj_xs (s123_181)
theorem q123_182 : pj_row 123 182 = some (.goto 4, 3, 186, 0, 0) := by decide +kernel
theorem s123_182 {L : pj_Loc} {st : List Value} {M : pj_Mem}  : pj_step 123 (182, L, st, M) = some (186, L, st, M) := st_goto q123_182
theorem x123_182 {L : pj_Loc} {st : List Value} {M : pj_Mem}  {o9 : Option Value × pj_Mem} : pj_Ends 123 (182, L, st, M) o9 = pj_Ends 123 (186, L, st, M) o9 := pj_xs (s123_182)
theorem q123_185 : pj_row 123 185 = some (.iconst 0, 1, 0, 0, 0) := by decide +kernel
theorem s123_185 {L : pj_Loc} {st : List Value} {M : pj_Mem}  : pj_step 123 (185, L, st, M) = some (186, L, .int 0 :: st, M) := st_iconst q123_185 (by decide +kernel)
theorem x123_185 {L : pj_Loc} {st : List Value} {M : pj_Mem}  {o9 : Option Value × pj_Mem} : pj_Ends 123 (185, L, st, M) o9 = pj_Ends 123 (186, L, .int 0 :: st, M) o9 := pj_xs (s123_185)
theorem q123_186 : pj_row 123 186 = some (.invokevirtual 18, 3, 11, 5, 0) := by decide +kernel
theorem e123_186 {L : pj_Loc} {st : List Value} {N S : Nat} {H : pj_Heap} {o : Option Value × pj_Mem} {M' : pj_Mem} {x0 : Nat} {x1 : Int32} {x2 : Int32} {x3 : Int32} {x4 : Int32} {r : Int32} (h4 : pj_le4 st = true) (hu : pj_isU 5 (H x0) = true) (h1 : pj_Ends 11 (0, [some (.ref x0), some (.int x1), some (.int x2), some (.int x3), some (.int x4)], [], (N, S, H)) (some (.int r), M')) (h2 : pj_Ends 123 (189, L, .int r :: st, M') o) : pj_Ends 123 (186, L, .int x4 :: .int x3 :: .int x2 :: .int x1 :: .ref x0 :: st, (N, S, H)) o := ec_v5 q123_186 (Or.inl rfl) h4 hu rfl h1 h2
theorem q123_189 : pj_row 123 189 = some (.aload_n 2, 1, 0, 0, 0) := by decide +kernel
theorem s123_189 {st : List Value} {M : pj_Mem} {l : pj_Loc} {a0 a1 : Option Value} {x : Nat} : pj_step 123 (189, a0 :: a1 :: some (.ref x) :: l, st, M) = some (190, a0 :: a1 :: some (.ref x) :: l, .ref x :: st, M) := st_aload_n q123_189 rfl
theorem x123_189 {st : List Value} {M : pj_Mem} {l : pj_Loc} {a0 a1 : Option Value} {x : Nat} {o9 : Option Value × pj_Mem} : pj_Ends 123 (189, a0 :: a1 :: some (.ref x) :: l, st, M) o9 = pj_Ends 123 (190, a0 :: a1 :: some (.ref x) :: l, .ref x :: st, M) o9 := pj_xs (s123_189)
theorem q123_190 : pj_row 123 190 = some (.aload_n 0, 1, 0, 0, 0) := by decide +kernel
theorem s123_190 {st : List Value} {M : pj_Mem} {l : pj_Loc} {x : Nat} : pj_step 123 (190, some (.ref x) :: l, st, M) = some (191, some (.ref x) :: l, .ref x :: st, M) := st_aload_n q123_190 rfl
theorem x123_190 {st : List Value} {M : pj_Mem} {l : pj_Loc} {x : Nat} {o9 : Option Value × pj_Mem} : pj_Ends 123 (190, some (.ref x) :: l, st, M) o9 = pj_Ends 123 (191, some (.ref x) :: l, .ref x :: st, M) o9 := pj_xs (s123_190)
theorem q123_191 : pj_row 123 191 = some (.iload_n 3, 1, 0, 0, 0) := by decide +kernel
theorem s123_191 {st : List Value} {M : pj_Mem} {l : pj_Loc} {a0 a1 a2 : Option Value} {x : Int32} : pj_step 123 (191, a0 :: a1 :: a2 :: some (.int x) :: l, st, M) = some (192, a0 :: a1 :: a2 :: some (.int x) :: l, .int x :: st, M) := st_iload_n q123_191 rfl
theorem x123_191 {st : List Value} {M : pj_Mem} {l : pj_Loc} {a0 a1 a2 : Option Value} {x : Int32} {o9 : Option Value × pj_Mem} : pj_Ends 123 (191, a0 :: a1 :: a2 :: some (.int x) :: l, st, M) o9 = pj_Ends 123 (192, a0 :: a1 :: a2 :: some (.int x) :: l, .int x :: st, M) o9 := pj_xs (s123_191)
theorem q123_192 : pj_row 123 192 = some (.iconst 1, 1, 0, 0, 0) := by decide +kernel
theorem s123_192 {L : pj_Loc} {st : List Value} {M : pj_Mem}  : pj_step 123 (192, L, st, M) = some (193, L, .int 1 :: st, M) := st_iconst q123_192 (by decide +kernel)
theorem x123_192 {L : pj_Loc} {st : List Value} {M : pj_Mem}  {o9 : Option Value × pj_Mem} : pj_Ends 123 (192, L, st, M) o9 = pj_Ends 123 (193, L, .int 1 :: st, M) o9 := pj_xs (s123_192)
theorem q123_193 : pj_row 123 193 = some (.iadd, 1, 0, 0, 0) := by decide +kernel
theorem s123_193 {L : pj_Loc} {st : List Value} {M : pj_Mem} {x y : Int32} : pj_step 123 (193, L, .int y :: .int x :: st, M) = some (194, L, .int (x + y) :: st, M) := st_iadd q123_193
theorem x123_193 {L : pj_Loc} {st : List Value} {M : pj_Mem} {x y : Int32} {o9 : Option Value × pj_Mem} : pj_Ends 123 (193, L, .int y :: .int x :: st, M) o9 = pj_Ends 123 (194, L, .int (x + y) :: st, M) o9 := pj_xs (s123_193)
theorem q123_194 : pj_row 123 194 = some (.iaload, 1, 0, 0, 0) := by decide +kernel
theorem s123_194 {L : pj_Loc} {st : List Value} {N S : Nat} {H : pj_Heap} {o : Nat} {i : Int32} : pj_step 123 (194, L, .int i :: .ref o :: st, (N, S, H)) = pj_pi 195 L st (N, S, H) (pj_arl (H o) 0 i) := st_iaload q123_194
theorem x123_194 {L : pj_Loc} {st : List Value} {N S : Nat} {H : pj_Heap} {o : Nat} {i : Int32} {o9 : Option Value × pj_Mem} : pj_Ends 123 (194, L, .int i :: .ref o :: st, (N, S, H)) o9 = pj_then 123 o9 (pj_pi 195 L st (N, S, H) (pj_arl (H o) 0 i)) := pj_xt q123_194 rfl (pj_cl_nc rfl) (s123_194)
theorem q123_195 : pj_row 123 195 = some (.aload_n 0, 1, 0, 0, 0) := by decide +kernel
theorem s123_195 {st : List Value} {M : pj_Mem} {l : pj_Loc} {x : Nat} : pj_step 123 (195, some (.ref x) :: l, st, M) = some (196, some (.ref x) :: l, .ref x :: st, M) := st_aload_n q123_195 rfl
theorem x123_195 {st : List Value} {M : pj_Mem} {l : pj_Loc} {x : Nat} {o9 : Option Value × pj_Mem} : pj_Ends 123 (195, some (.ref x) :: l, st, M) o9 = pj_Ends 123 (196, some (.ref x) :: l, .ref x :: st, M) o9 := pj_xs (s123_195)
theorem q123_196 : pj_row 123 196 = some (.iload_n 3, 1, 0, 0, 0) := by decide +kernel
theorem s123_196 {st : List Value} {M : pj_Mem} {l : pj_Loc} {a0 a1 a2 : Option Value} {x : Int32} : pj_step 123 (196, a0 :: a1 :: a2 :: some (.int x) :: l, st, M) = some (197, a0 :: a1 :: a2 :: some (.int x) :: l, .int x :: st, M) := st_iload_n q123_196 rfl
theorem x123_196 {st : List Value} {M : pj_Mem} {l : pj_Loc} {a0 a1 a2 : Option Value} {x : Int32} {o9 : Option Value × pj_Mem} : pj_Ends 123 (196, a0 :: a1 :: a2 :: some (.int x) :: l, st, M) o9 = pj_Ends 123 (197, a0 :: a1 :: a2 :: some (.int x) :: l, .int x :: st, M) o9 := pj_xs (s123_196)
theorem q123_197 : pj_row 123 197 = some (.iconst 2, 1, 0, 0, 0) := by decide +kernel
theorem s123_197 {L : pj_Loc} {st : List Value} {M : pj_Mem}  : pj_step 123 (197, L, st, M) = some (198, L, .int 2 :: st, M) := st_iconst q123_197 (by decide +kernel)
theorem x123_197 {L : pj_Loc} {st : List Value} {M : pj_Mem}  {o9 : Option Value × pj_Mem} : pj_Ends 123 (197, L, st, M) o9 = pj_Ends 123 (198, L, .int 2 :: st, M) o9 := pj_xs (s123_197)
theorem q123_198 : pj_row 123 198 = some (.iadd, 1, 0, 0, 0) := by decide +kernel
theorem s123_198 {L : pj_Loc} {st : List Value} {M : pj_Mem} {x y : Int32} : pj_step 123 (198, L, .int y :: .int x :: st, M) = some (199, L, .int (x + y) :: st, M) := st_iadd q123_198
theorem x123_198 {L : pj_Loc} {st : List Value} {M : pj_Mem} {x y : Int32} {o9 : Option Value × pj_Mem} : pj_Ends 123 (198, L, .int y :: .int x :: st, M) o9 = pj_Ends 123 (199, L, .int (x + y) :: st, M) o9 := pj_xs (s123_198)
theorem q123_199 : pj_row 123 199 = some (.iaload, 1, 0, 0, 0) := by decide +kernel
theorem s123_199 {L : pj_Loc} {st : List Value} {N S : Nat} {H : pj_Heap} {o : Nat} {i : Int32} : pj_step 123 (199, L, .int i :: .ref o :: st, (N, S, H)) = pj_pi 200 L st (N, S, H) (pj_arl (H o) 0 i) := st_iaload q123_199
theorem x123_199 {L : pj_Loc} {st : List Value} {N S : Nat} {H : pj_Heap} {o : Nat} {i : Int32} {o9 : Option Value × pj_Mem} : pj_Ends 123 (199, L, .int i :: .ref o :: st, (N, S, H)) o9 = pj_then 123 o9 (pj_pi 200 L st (N, S, H) (pj_arl (H o) 0 i)) := pj_xt q123_199 rfl (pj_cl_nc rfl) (s123_199)
theorem q123_200 : pj_row 123 200 = some (.aload_n 0, 1, 0, 0, 0) := by decide +kernel
theorem s123_200 {st : List Value} {M : pj_Mem} {l : pj_Loc} {x : Nat} : pj_step 123 (200, some (.ref x) :: l, st, M) = some (201, some (.ref x) :: l, .ref x :: st, M) := st_aload_n q123_200 rfl
theorem x123_200 {st : List Value} {M : pj_Mem} {l : pj_Loc} {x : Nat} {o9 : Option Value × pj_Mem} : pj_Ends 123 (200, some (.ref x) :: l, st, M) o9 = pj_Ends 123 (201, some (.ref x) :: l, .ref x :: st, M) o9 := pj_xs (s123_200)
theorem q123_201 : pj_row 123 201 = some (.iload_n 3, 1, 0, 0, 0) := by decide +kernel
theorem s123_201 {st : List Value} {M : pj_Mem} {l : pj_Loc} {a0 a1 a2 : Option Value} {x : Int32} : pj_step 123 (201, a0 :: a1 :: a2 :: some (.int x) :: l, st, M) = some (202, a0 :: a1 :: a2 :: some (.int x) :: l, .int x :: st, M) := st_iload_n q123_201 rfl
theorem x123_201 {st : List Value} {M : pj_Mem} {l : pj_Loc} {a0 a1 a2 : Option Value} {x : Int32} {o9 : Option Value × pj_Mem} : pj_Ends 123 (201, a0 :: a1 :: a2 :: some (.int x) :: l, st, M) o9 = pj_Ends 123 (202, a0 :: a1 :: a2 :: some (.int x) :: l, .int x :: st, M) o9 := pj_xs (s123_201)
theorem q123_202 : pj_row 123 202 = some (.iconst 3, 1, 0, 0, 0) := by decide +kernel
theorem s123_202 {L : pj_Loc} {st : List Value} {M : pj_Mem}  : pj_step 123 (202, L, st, M) = some (203, L, .int 3 :: st, M) := st_iconst q123_202 (by decide +kernel)
theorem x123_202 {L : pj_Loc} {st : List Value} {M : pj_Mem}  {o9 : Option Value × pj_Mem} : pj_Ends 123 (202, L, st, M) o9 = pj_Ends 123 (203, L, .int 3 :: st, M) o9 := pj_xs (s123_202)
theorem q123_203 : pj_row 123 203 = some (.iadd, 1, 0, 0, 0) := by decide +kernel
theorem s123_203 {L : pj_Loc} {st : List Value} {M : pj_Mem} {x y : Int32} : pj_step 123 (203, L, .int y :: .int x :: st, M) = some (204, L, .int (x + y) :: st, M) := st_iadd q123_203
theorem x123_203 {L : pj_Loc} {st : List Value} {M : pj_Mem} {x y : Int32} {o9 : Option Value × pj_Mem} : pj_Ends 123 (203, L, .int y :: .int x :: st, M) o9 = pj_Ends 123 (204, L, .int (x + y) :: st, M) o9 := pj_xs (s123_203)
theorem q123_204 : pj_row 123 204 = some (.iaload, 1, 0, 0, 0) := by decide +kernel
theorem s123_204 {L : pj_Loc} {st : List Value} {N S : Nat} {H : pj_Heap} {o : Nat} {i : Int32} : pj_step 123 (204, L, .int i :: .ref o :: st, (N, S, H)) = pj_pi 205 L st (N, S, H) (pj_arl (H o) 0 i) := st_iaload q123_204
theorem x123_204 {L : pj_Loc} {st : List Value} {N S : Nat} {H : pj_Heap} {o : Nat} {i : Int32} {o9 : Option Value × pj_Mem} : pj_Ends 123 (204, L, .int i :: .ref o :: st, (N, S, H)) o9 = pj_then 123 o9 (pj_pi 205 L st (N, S, H) (pj_arl (H o) 0 i)) := pj_xt q123_204 rfl (pj_cl_nc rfl) (s123_204)
theorem q123_205 : pj_row 123 205 = some (.aload_n 0, 1, 0, 0, 0) := by decide +kernel
theorem s123_205 {st : List Value} {M : pj_Mem} {l : pj_Loc} {x : Nat} : pj_step 123 (205, some (.ref x) :: l, st, M) = some (206, some (.ref x) :: l, .ref x :: st, M) := st_aload_n q123_205 rfl
theorem x123_205 {st : List Value} {M : pj_Mem} {l : pj_Loc} {x : Nat} {o9 : Option Value × pj_Mem} : pj_Ends 123 (205, some (.ref x) :: l, st, M) o9 = pj_Ends 123 (206, some (.ref x) :: l, .ref x :: st, M) o9 := pj_xs (s123_205)
theorem q123_206 : pj_row 123 206 = some (.iload_n 3, 1, 0, 0, 0) := by decide +kernel
theorem s123_206 {st : List Value} {M : pj_Mem} {l : pj_Loc} {a0 a1 a2 : Option Value} {x : Int32} : pj_step 123 (206, a0 :: a1 :: a2 :: some (.int x) :: l, st, M) = some (207, a0 :: a1 :: a2 :: some (.int x) :: l, .int x :: st, M) := st_iload_n q123_206 rfl
theorem x123_206 {st : List Value} {M : pj_Mem} {l : pj_Loc} {a0 a1 a2 : Option Value} {x : Int32} {o9 : Option Value × pj_Mem} : pj_Ends 123 (206, a0 :: a1 :: a2 :: some (.int x) :: l, st, M) o9 = pj_Ends 123 (207, a0 :: a1 :: a2 :: some (.int x) :: l, .int x :: st, M) o9 := pj_xs (s123_206)
theorem q123_207 : pj_row 123 207 = some (.iconst 4, 1, 0, 0, 0) := by decide +kernel
theorem s123_207 {L : pj_Loc} {st : List Value} {M : pj_Mem}  : pj_step 123 (207, L, st, M) = some (208, L, .int 4 :: st, M) := st_iconst q123_207 (by decide +kernel)
theorem x123_207 {L : pj_Loc} {st : List Value} {M : pj_Mem}  {o9 : Option Value × pj_Mem} : pj_Ends 123 (207, L, st, M) o9 = pj_Ends 123 (208, L, .int 4 :: st, M) o9 := pj_xs (s123_207)
theorem q123_208 : pj_row 123 208 = some (.iadd, 1, 0, 0, 0) := by decide +kernel
theorem s123_208 {L : pj_Loc} {st : List Value} {M : pj_Mem} {x y : Int32} : pj_step 123 (208, L, .int y :: .int x :: st, M) = some (209, L, .int (x + y) :: st, M) := st_iadd q123_208
theorem x123_208 {L : pj_Loc} {st : List Value} {M : pj_Mem} {x y : Int32} {o9 : Option Value × pj_Mem} : pj_Ends 123 (208, L, .int y :: .int x :: st, M) o9 = pj_Ends 123 (209, L, .int (x + y) :: st, M) o9 := pj_xs (s123_208)
theorem q123_209 : pj_row 123 209 = some (.iaload, 1, 0, 0, 0) := by decide +kernel
theorem s123_209 {L : pj_Loc} {st : List Value} {N S : Nat} {H : pj_Heap} {o : Nat} {i : Int32} : pj_step 123 (209, L, .int i :: .ref o :: st, (N, S, H)) = pj_pi 210 L st (N, S, H) (pj_arl (H o) 0 i) := st_iaload q123_209
theorem x123_209 {L : pj_Loc} {st : List Value} {N S : Nat} {H : pj_Heap} {o : Nat} {i : Int32} {o9 : Option Value × pj_Mem} : pj_Ends 123 (209, L, .int i :: .ref o :: st, (N, S, H)) o9 = pj_then 123 o9 (pj_pi 210 L st (N, S, H) (pj_arl (H o) 0 i)) := pj_xt q123_209 rfl (pj_cl_nc rfl) (s123_209)
theorem q123_210 : pj_row 123 210 = some (.ifCond .eq 7, 3, 217, 0, 0) := by decide +kernel
theorem s123_210 {L : pj_Loc} {st : List Value} {M : pj_Mem} {x : Int32} : pj_step 123 (210, L, .int x :: st, M) = some (if x = 0 then 217 else 213, L, st, M) := st_if_eq q123_210
theorem x123_210 {L : pj_Loc} {st : List Value} {M : pj_Mem} {x : Int32} {o9 : Option Value × pj_Mem} : pj_Ends 123 (210, L, .int x :: st, M) o9 = pj_Ends 123 (if x = 0 then 217 else 213, L, st, M) o9 := pj_xs (s123_210)
theorem q123_213 : pj_row 123 213 = some (.iconst 1, 1, 0, 0, 0) := by decide +kernel
theorem s123_213 {L : pj_Loc} {st : List Value} {M : pj_Mem}  : pj_step 123 (213, L, st, M) = some (214, L, .int 1 :: st, M) := st_iconst q123_213 (by decide +kernel)
theorem x123_213 {L : pj_Loc} {st : List Value} {M : pj_Mem}  {o9 : Option Value × pj_Mem} : pj_Ends 123 (213, L, st, M) o9 = pj_Ends 123 (214, L, .int 1 :: st, M) o9 := pj_xs (s123_213)
theorem q123_214 : pj_row 123 214 = some (.goto 4, 3, 218, 0, 0) := by decide +kernel
theorem s123_214 {L : pj_Loc} {st : List Value} {M : pj_Mem}  : pj_step 123 (214, L, st, M) = some (218, L, st, M) := st_goto q123_214
theorem x123_214 {L : pj_Loc} {st : List Value} {M : pj_Mem}  {o9 : Option Value × pj_Mem} : pj_Ends 123 (214, L, st, M) o9 = pj_Ends 123 (218, L, st, M) o9 := pj_xs (s123_214)
theorem q123_217 : pj_row 123 217 = some (.iconst 0, 1, 0, 0, 0) := by decide +kernel
theorem s123_217 {L : pj_Loc} {st : List Value} {M : pj_Mem}  : pj_step 123 (217, L, st, M) = some (218, L, .int 0 :: st, M) := st_iconst q123_217 (by decide +kernel)
theorem x123_217 {L : pj_Loc} {st : List Value} {M : pj_Mem}  {o9 : Option Value × pj_Mem} : pj_Ends 123 (217, L, st, M) o9 = pj_Ends 123 (218, L, .int 0 :: st, M) o9 := pj_xs (s123_217)
theorem q123_218 : pj_row 123 218 = some (.invokevirtual 22, 3, 79, 5, 0) := by decide +kernel
theorem e123_218 {L : pj_Loc} {st : List Value} {N S : Nat} {H : pj_Heap} {o : Option Value × pj_Mem} {M' : pj_Mem} {x0 : Nat} {x1 : Int32} {x2 : Int32} {x3 : Int32} {x4 : Int32} {r : Int32} (h4 : pj_le4 st = true) (hu : pj_isU 6 (H x0) = true) (h1 : pj_Ends 79 (0, [some (.ref x0), some (.int x1), some (.int x2), some (.int x3), some (.int x4)], [], (N, S, H)) (some (.int r), M')) (h2 : pj_Ends 123 (221, L, .int r :: st, M') o) : pj_Ends 123 (218, L, .int x4 :: .int x3 :: .int x2 :: .int x1 :: .ref x0 :: st, (N, S, H)) o := ec_v5 q123_218 (Or.inl rfl) h4 hu rfl h1 h2
theorem q123_221 : pj_row 123 221 = some (.if_icmp .eq 524, 3, 745, 0, 0) := by decide +kernel
theorem s123_221 {L : pj_Loc} {st : List Value} {M : pj_Mem} {x y : Int32} : pj_step 123 (221, L, .int y :: .int x :: st, M) = some (if x = y then 745 else 224, L, st, M) := st_icmp_eq q123_221
theorem x123_221 {L : pj_Loc} {st : List Value} {M : pj_Mem} {x y : Int32} {o9 : Option Value × pj_Mem} : pj_Ends 123 (221, L, .int y :: .int x :: st, M) o9 = pj_Ends 123 (if x = y then 745 else 224, L, st, M) o9 := pj_xs (s123_221)
theorem q123_224 : pj_row 123 224 = some (.iconst 0, 1, 0, 0, 0) := by decide +kernel
theorem s123_224 {L : pj_Loc} {st : List Value} {M : pj_Mem}  : pj_step 123 (224, L, st, M) = some (225, L, .int 0 :: st, M) := st_iconst q123_224 (by decide +kernel)
theorem x123_224 {L : pj_Loc} {st : List Value} {M : pj_Mem}  {o9 : Option Value × pj_Mem} : pj_Ends 123 (224, L, st, M) o9 = pj_Ends 123 (225, L, .int 0 :: st, M) o9 := pj_xs (s123_224)
theorem q123_225 : pj_row 123 225 = some (.ireturn, 1, 0, 0, 0) := by decide +kernel
theorem t123_225 {L : pj_Loc} {M : pj_Mem} {v : Int32} (hv : v = 0 ∨ v = 1) : pj_Ends 123 (225, L, [.int v], M) (some (.int v), M) := pj_Ends.ret q123_225 (pj_rtn_z rt123 hv)
theorem q123_226 : pj_row 123 226 = some (.aload_n 1, 1, 0, 0, 0) := by decide +kernel
theorem s123_226 {st : List Value} {M : pj_Mem} {l : pj_Loc} {a0 : Option Value} {x : Nat} : pj_step 123 (226, a0 :: some (.ref x) :: l, st, M) = some (227, a0 :: some (.ref x) :: l, .ref x :: st, M) := st_aload_n q123_226 rfl
theorem x123_226 {st : List Value} {M : pj_Mem} {l : pj_Loc} {a0 : Option Value} {x : Nat} {o9 : Option Value × pj_Mem} : pj_Ends 123 (226, a0 :: some (.ref x) :: l, st, M) o9 = pj_Ends 123 (227, a0 :: some (.ref x) :: l, .ref x :: st, M) o9 := pj_xs (s123_226)
theorem q123_227 : pj_row 123 227 = some (.aload_n 0, 1, 0, 0, 0) := by decide +kernel
theorem s123_227 {st : List Value} {M : pj_Mem} {l : pj_Loc} {x : Nat} : pj_step 123 (227, some (.ref x) :: l, st, M) = some (228, some (.ref x) :: l, .ref x :: st, M) := st_aload_n q123_227 rfl
theorem x123_227 {st : List Value} {M : pj_Mem} {l : pj_Loc} {x : Nat} {o9 : Option Value × pj_Mem} : pj_Ends 123 (227, some (.ref x) :: l, st, M) o9 = pj_Ends 123 (228, some (.ref x) :: l, .ref x :: st, M) o9 := pj_xs (s123_227)
theorem q123_228 : pj_row 123 228 = some (.iload_n 3, 1, 0, 0, 0) := by decide +kernel
theorem s123_228 {st : List Value} {M : pj_Mem} {l : pj_Loc} {a0 a1 a2 : Option Value} {x : Int32} : pj_step 123 (228, a0 :: a1 :: a2 :: some (.int x) :: l, st, M) = some (229, a0 :: a1 :: a2 :: some (.int x) :: l, .int x :: st, M) := st_iload_n q123_228 rfl
theorem x123_228 {st : List Value} {M : pj_Mem} {l : pj_Loc} {a0 a1 a2 : Option Value} {x : Int32} {o9 : Option Value × pj_Mem} : pj_Ends 123 (228, a0 :: a1 :: a2 :: some (.int x) :: l, st, M) o9 = pj_Ends 123 (229, a0 :: a1 :: a2 :: some (.int x) :: l, .int x :: st, M) o9 := pj_xs (s123_228)
theorem q123_229 : pj_row 123 229 = some (.iconst 1, 1, 0, 0, 0) := by decide +kernel
theorem s123_229 {L : pj_Loc} {st : List Value} {M : pj_Mem}  : pj_step 123 (229, L, st, M) = some (230, L, .int 1 :: st, M) := st_iconst q123_229 (by decide +kernel)
theorem x123_229 {L : pj_Loc} {st : List Value} {M : pj_Mem}  {o9 : Option Value × pj_Mem} : pj_Ends 123 (229, L, st, M) o9 = pj_Ends 123 (230, L, .int 1 :: st, M) o9 := pj_xs (s123_229)
theorem q123_230 : pj_row 123 230 = some (.iadd, 1, 0, 0, 0) := by decide +kernel
theorem s123_230 {L : pj_Loc} {st : List Value} {M : pj_Mem} {x y : Int32} : pj_step 123 (230, L, .int y :: .int x :: st, M) = some (231, L, .int (x + y) :: st, M) := st_iadd q123_230
theorem x123_230 {L : pj_Loc} {st : List Value} {M : pj_Mem} {x y : Int32} {o9 : Option Value × pj_Mem} : pj_Ends 123 (230, L, .int y :: .int x :: st, M) o9 = pj_Ends 123 (231, L, .int (x + y) :: st, M) o9 := pj_xs (s123_230)
theorem q123_231 : pj_row 123 231 = some (.iaload, 1, 0, 0, 0) := by decide +kernel
theorem s123_231 {L : pj_Loc} {st : List Value} {N S : Nat} {H : pj_Heap} {o : Nat} {i : Int32} : pj_step 123 (231, L, .int i :: .ref o :: st, (N, S, H)) = pj_pi 232 L st (N, S, H) (pj_arl (H o) 0 i) := st_iaload q123_231
theorem x123_231 {L : pj_Loc} {st : List Value} {N S : Nat} {H : pj_Heap} {o : Nat} {i : Int32} {o9 : Option Value × pj_Mem} : pj_Ends 123 (231, L, .int i :: .ref o :: st, (N, S, H)) o9 = pj_then 123 o9 (pj_pi 232 L st (N, S, H) (pj_arl (H o) 0 i)) := pj_xt q123_231 rfl (pj_cl_nc rfl) (s123_231)
theorem q123_232 : pj_row 123 232 = some (.aload_n 0, 1, 0, 0, 0) := by decide +kernel
theorem s123_232 {st : List Value} {M : pj_Mem} {l : pj_Loc} {x : Nat} : pj_step 123 (232, some (.ref x) :: l, st, M) = some (233, some (.ref x) :: l, .ref x :: st, M) := st_aload_n q123_232 rfl
theorem x123_232 {st : List Value} {M : pj_Mem} {l : pj_Loc} {x : Nat} {o9 : Option Value × pj_Mem} : pj_Ends 123 (232, some (.ref x) :: l, st, M) o9 = pj_Ends 123 (233, some (.ref x) :: l, .ref x :: st, M) o9 := pj_xs (s123_232)
theorem q123_233 : pj_row 123 233 = some (.iload_n 3, 1, 0, 0, 0) := by decide +kernel
theorem s123_233 {st : List Value} {M : pj_Mem} {l : pj_Loc} {a0 a1 a2 : Option Value} {x : Int32} : pj_step 123 (233, a0 :: a1 :: a2 :: some (.int x) :: l, st, M) = some (234, a0 :: a1 :: a2 :: some (.int x) :: l, .int x :: st, M) := st_iload_n q123_233 rfl
theorem x123_233 {st : List Value} {M : pj_Mem} {l : pj_Loc} {a0 a1 a2 : Option Value} {x : Int32} {o9 : Option Value × pj_Mem} : pj_Ends 123 (233, a0 :: a1 :: a2 :: some (.int x) :: l, st, M) o9 = pj_Ends 123 (234, a0 :: a1 :: a2 :: some (.int x) :: l, .int x :: st, M) o9 := pj_xs (s123_233)
theorem q123_234 : pj_row 123 234 = some (.iconst 2, 1, 0, 0, 0) := by decide +kernel
theorem s123_234 {L : pj_Loc} {st : List Value} {M : pj_Mem}  : pj_step 123 (234, L, st, M) = some (235, L, .int 2 :: st, M) := st_iconst q123_234 (by decide +kernel)
theorem x123_234 {L : pj_Loc} {st : List Value} {M : pj_Mem}  {o9 : Option Value × pj_Mem} : pj_Ends 123 (234, L, st, M) o9 = pj_Ends 123 (235, L, .int 2 :: st, M) o9 := pj_xs (s123_234)
theorem q123_235 : pj_row 123 235 = some (.iadd, 1, 0, 0, 0) := by decide +kernel
theorem s123_235 {L : pj_Loc} {st : List Value} {M : pj_Mem} {x y : Int32} : pj_step 123 (235, L, .int y :: .int x :: st, M) = some (236, L, .int (x + y) :: st, M) := st_iadd q123_235
theorem x123_235 {L : pj_Loc} {st : List Value} {M : pj_Mem} {x y : Int32} {o9 : Option Value × pj_Mem} : pj_Ends 123 (235, L, .int y :: .int x :: st, M) o9 = pj_Ends 123 (236, L, .int (x + y) :: st, M) o9 := pj_xs (s123_235)
theorem q123_236 : pj_row 123 236 = some (.iaload, 1, 0, 0, 0) := by decide +kernel
theorem s123_236 {L : pj_Loc} {st : List Value} {N S : Nat} {H : pj_Heap} {o : Nat} {i : Int32} : pj_step 123 (236, L, .int i :: .ref o :: st, (N, S, H)) = pj_pi 237 L st (N, S, H) (pj_arl (H o) 0 i) := st_iaload q123_236
theorem x123_236 {L : pj_Loc} {st : List Value} {N S : Nat} {H : pj_Heap} {o : Nat} {i : Int32} {o9 : Option Value × pj_Mem} : pj_Ends 123 (236, L, .int i :: .ref o :: st, (N, S, H)) o9 = pj_then 123 o9 (pj_pi 237 L st (N, S, H) (pj_arl (H o) 0 i)) := pj_xt q123_236 rfl (pj_cl_nc rfl) (s123_236)
theorem q123_237 : pj_row 123 237 = some (.ifCond .eq 7, 3, 244, 0, 0) := by decide +kernel
theorem s123_237 {L : pj_Loc} {st : List Value} {M : pj_Mem} {x : Int32} : pj_step 123 (237, L, .int x :: st, M) = some (if x = 0 then 244 else 240, L, st, M) := st_if_eq q123_237
theorem x123_237 {L : pj_Loc} {st : List Value} {M : pj_Mem} {x : Int32} {o9 : Option Value × pj_Mem} : pj_Ends 123 (237, L, .int x :: st, M) o9 = pj_Ends 123 (if x = 0 then 244 else 240, L, st, M) o9 := pj_xs (s123_237)
theorem q123_240 : pj_row 123 240 = some (.iconst 1, 1, 0, 0, 0) := by decide +kernel
theorem s123_240 {L : pj_Loc} {st : List Value} {M : pj_Mem}  : pj_step 123 (240, L, st, M) = some (241, L, .int 1 :: st, M) := st_iconst q123_240 (by decide +kernel)
theorem x123_240 {L : pj_Loc} {st : List Value} {M : pj_Mem}  {o9 : Option Value × pj_Mem} : pj_Ends 123 (240, L, st, M) o9 = pj_Ends 123 (241, L, .int 1 :: st, M) o9 := pj_xs (s123_240)
theorem q123_241 : pj_row 123 241 = some (.goto 4, 3, 245, 0, 0) := by decide +kernel
theorem s123_241 {L : pj_Loc} {st : List Value} {M : pj_Mem}  : pj_step 123 (241, L, st, M) = some (245, L, st, M) := st_goto q123_241
theorem x123_241 {L : pj_Loc} {st : List Value} {M : pj_Mem}  {o9 : Option Value × pj_Mem} : pj_Ends 123 (241, L, st, M) o9 = pj_Ends 123 (245, L, st, M) o9 := pj_xs (s123_241)
theorem q123_244 : pj_row 123 244 = some (.iconst 0, 1, 0, 0, 0) := by decide +kernel
theorem s123_244 {L : pj_Loc} {st : List Value} {M : pj_Mem}  : pj_step 123 (244, L, st, M) = some (245, L, .int 0 :: st, M) := st_iconst q123_244 (by decide +kernel)
theorem x123_244 {L : pj_Loc} {st : List Value} {M : pj_Mem}  {o9 : Option Value × pj_Mem} : pj_Ends 123 (244, L, st, M) o9 = pj_Ends 123 (245, L, .int 0 :: st, M) o9 := pj_xs (s123_244)
theorem q123_245 : pj_row 123 245 = some (.invokevirtual 23, 3, 38, 3, 0) := by decide +kernel
theorem e123_245 {L : pj_Loc} {st : List Value} {N S : Nat} {H : pj_Heap} {o : Option Value × pj_Mem} {M' : pj_Mem} {x0 : Nat} {x1 : Int32} {x2 : Int32} {r : Int32} (h4 : pj_le4 st = true) (hu : pj_isU 5 (H x0) = true) (h1 : pj_Ends 38 (0, [some (.ref x0), some (.int x1), some (.int x2)], [], (N, S, H)) (some (.int r), M')) (h2 : pj_Ends 123 (248, L, .int r :: st, M') o) : pj_Ends 123 (245, L, .int x2 :: .int x1 :: .ref x0 :: st, (N, S, H)) o := ec_v3 q123_245 (Or.inl rfl) h4 hu rfl h1 h2
theorem q123_248 : pj_row 123 248 = some (.aload_n 2, 1, 0, 0, 0) := by decide +kernel
theorem s123_248 {st : List Value} {M : pj_Mem} {l : pj_Loc} {a0 a1 : Option Value} {x : Nat} : pj_step 123 (248, a0 :: a1 :: some (.ref x) :: l, st, M) = some (249, a0 :: a1 :: some (.ref x) :: l, .ref x :: st, M) := st_aload_n q123_248 rfl
theorem x123_248 {st : List Value} {M : pj_Mem} {l : pj_Loc} {a0 a1 : Option Value} {x : Nat} {o9 : Option Value × pj_Mem} : pj_Ends 123 (248, a0 :: a1 :: some (.ref x) :: l, st, M) o9 = pj_Ends 123 (249, a0 :: a1 :: some (.ref x) :: l, .ref x :: st, M) o9 := pj_xs (s123_248)
theorem q123_249 : pj_row 123 249 = some (.aload_n 0, 1, 0, 0, 0) := by decide +kernel
theorem s123_249 {st : List Value} {M : pj_Mem} {l : pj_Loc} {x : Nat} : pj_step 123 (249, some (.ref x) :: l, st, M) = some (250, some (.ref x) :: l, .ref x :: st, M) := st_aload_n q123_249 rfl
theorem x123_249 {st : List Value} {M : pj_Mem} {l : pj_Loc} {x : Nat} {o9 : Option Value × pj_Mem} : pj_Ends 123 (249, some (.ref x) :: l, st, M) o9 = pj_Ends 123 (250, some (.ref x) :: l, .ref x :: st, M) o9 := pj_xs (s123_249)
theorem q123_250 : pj_row 123 250 = some (.iload_n 3, 1, 0, 0, 0) := by decide +kernel
theorem s123_250 {st : List Value} {M : pj_Mem} {l : pj_Loc} {a0 a1 a2 : Option Value} {x : Int32} : pj_step 123 (250, a0 :: a1 :: a2 :: some (.int x) :: l, st, M) = some (251, a0 :: a1 :: a2 :: some (.int x) :: l, .int x :: st, M) := st_iload_n q123_250 rfl
theorem x123_250 {st : List Value} {M : pj_Mem} {l : pj_Loc} {a0 a1 a2 : Option Value} {x : Int32} {o9 : Option Value × pj_Mem} : pj_Ends 123 (250, a0 :: a1 :: a2 :: some (.int x) :: l, st, M) o9 = pj_Ends 123 (251, a0 :: a1 :: a2 :: some (.int x) :: l, .int x :: st, M) o9 := pj_xs (s123_250)
theorem q123_251 : pj_row 123 251 = some (.iconst 1, 1, 0, 0, 0) := by decide +kernel
theorem s123_251 {L : pj_Loc} {st : List Value} {M : pj_Mem}  : pj_step 123 (251, L, st, M) = some (252, L, .int 1 :: st, M) := st_iconst q123_251 (by decide +kernel)
theorem x123_251 {L : pj_Loc} {st : List Value} {M : pj_Mem}  {o9 : Option Value × pj_Mem} : pj_Ends 123 (251, L, st, M) o9 = pj_Ends 123 (252, L, .int 1 :: st, M) o9 := pj_xs (s123_251)
theorem q123_252 : pj_row 123 252 = some (.iadd, 1, 0, 0, 0) := by decide +kernel
theorem s123_252 {L : pj_Loc} {st : List Value} {M : pj_Mem} {x y : Int32} : pj_step 123 (252, L, .int y :: .int x :: st, M) = some (253, L, .int (x + y) :: st, M) := st_iadd q123_252
theorem x123_252 {L : pj_Loc} {st : List Value} {M : pj_Mem} {x y : Int32} {o9 : Option Value × pj_Mem} : pj_Ends 123 (252, L, .int y :: .int x :: st, M) o9 = pj_Ends 123 (253, L, .int (x + y) :: st, M) o9 := pj_xs (s123_252)
theorem q123_253 : pj_row 123 253 = some (.iaload, 1, 0, 0, 0) := by decide +kernel
theorem s123_253 {L : pj_Loc} {st : List Value} {N S : Nat} {H : pj_Heap} {o : Nat} {i : Int32} : pj_step 123 (253, L, .int i :: .ref o :: st, (N, S, H)) = pj_pi 254 L st (N, S, H) (pj_arl (H o) 0 i) := st_iaload q123_253
theorem x123_253 {L : pj_Loc} {st : List Value} {N S : Nat} {H : pj_Heap} {o : Nat} {i : Int32} {o9 : Option Value × pj_Mem} : pj_Ends 123 (253, L, .int i :: .ref o :: st, (N, S, H)) o9 = pj_then 123 o9 (pj_pi 254 L st (N, S, H) (pj_arl (H o) 0 i)) := pj_xt q123_253 rfl (pj_cl_nc rfl) (s123_253)
theorem q123_254 : pj_row 123 254 = some (.aload_n 0, 1, 0, 0, 0) := by decide +kernel
theorem s123_254 {st : List Value} {M : pj_Mem} {l : pj_Loc} {x : Nat} : pj_step 123 (254, some (.ref x) :: l, st, M) = some (255, some (.ref x) :: l, .ref x :: st, M) := st_aload_n q123_254 rfl
theorem x123_254 {st : List Value} {M : pj_Mem} {l : pj_Loc} {x : Nat} {o9 : Option Value × pj_Mem} : pj_Ends 123 (254, some (.ref x) :: l, st, M) o9 = pj_Ends 123 (255, some (.ref x) :: l, .ref x :: st, M) o9 := pj_xs (s123_254)
theorem q123_255 : pj_row 123 255 = some (.iload_n 3, 1, 0, 0, 0) := by decide +kernel
theorem s123_255 {st : List Value} {M : pj_Mem} {l : pj_Loc} {a0 a1 a2 : Option Value} {x : Int32} : pj_step 123 (255, a0 :: a1 :: a2 :: some (.int x) :: l, st, M) = some (256, a0 :: a1 :: a2 :: some (.int x) :: l, .int x :: st, M) := st_iload_n q123_255 rfl
theorem x123_255 {st : List Value} {M : pj_Mem} {l : pj_Loc} {a0 a1 a2 : Option Value} {x : Int32} {o9 : Option Value × pj_Mem} : pj_Ends 123 (255, a0 :: a1 :: a2 :: some (.int x) :: l, st, M) o9 = pj_Ends 123 (256, a0 :: a1 :: a2 :: some (.int x) :: l, .int x :: st, M) o9 := pj_xs (s123_255)
theorem q123_256 : pj_row 123 256 = some (.iconst 2, 1, 0, 0, 0) := by decide +kernel
theorem s123_256 {L : pj_Loc} {st : List Value} {M : pj_Mem}  : pj_step 123 (256, L, st, M) = some (257, L, .int 2 :: st, M) := st_iconst q123_256 (by decide +kernel)
theorem x123_256 {L : pj_Loc} {st : List Value} {M : pj_Mem}  {o9 : Option Value × pj_Mem} : pj_Ends 123 (256, L, st, M) o9 = pj_Ends 123 (257, L, .int 2 :: st, M) o9 := pj_xs (s123_256)
theorem q123_257 : pj_row 123 257 = some (.iadd, 1, 0, 0, 0) := by decide +kernel
theorem s123_257 {L : pj_Loc} {st : List Value} {M : pj_Mem} {x y : Int32} : pj_step 123 (257, L, .int y :: .int x :: st, M) = some (258, L, .int (x + y) :: st, M) := st_iadd q123_257
theorem x123_257 {L : pj_Loc} {st : List Value} {M : pj_Mem} {x y : Int32} {o9 : Option Value × pj_Mem} : pj_Ends 123 (257, L, .int y :: .int x :: st, M) o9 = pj_Ends 123 (258, L, .int (x + y) :: st, M) o9 := pj_xs (s123_257)
theorem q123_258 : pj_row 123 258 = some (.iaload, 1, 0, 0, 0) := by decide +kernel
theorem s123_258 {L : pj_Loc} {st : List Value} {N S : Nat} {H : pj_Heap} {o : Nat} {i : Int32} : pj_step 123 (258, L, .int i :: .ref o :: st, (N, S, H)) = pj_pi 259 L st (N, S, H) (pj_arl (H o) 0 i) := st_iaload q123_258
theorem x123_258 {L : pj_Loc} {st : List Value} {N S : Nat} {H : pj_Heap} {o : Nat} {i : Int32} {o9 : Option Value × pj_Mem} : pj_Ends 123 (258, L, .int i :: .ref o :: st, (N, S, H)) o9 = pj_then 123 o9 (pj_pi 259 L st (N, S, H) (pj_arl (H o) 0 i)) := pj_xt q123_258 rfl (pj_cl_nc rfl) (s123_258)
theorem q123_259 : pj_row 123 259 = some (.ifCond .eq 7, 3, 266, 0, 0) := by decide +kernel
theorem s123_259 {L : pj_Loc} {st : List Value} {M : pj_Mem} {x : Int32} : pj_step 123 (259, L, .int x :: st, M) = some (if x = 0 then 266 else 262, L, st, M) := st_if_eq q123_259
theorem x123_259 {L : pj_Loc} {st : List Value} {M : pj_Mem} {x : Int32} {o9 : Option Value × pj_Mem} : pj_Ends 123 (259, L, .int x :: st, M) o9 = pj_Ends 123 (if x = 0 then 266 else 262, L, st, M) o9 := pj_xs (s123_259)
theorem q123_262 : pj_row 123 262 = some (.iconst 1, 1, 0, 0, 0) := by decide +kernel
theorem s123_262 {L : pj_Loc} {st : List Value} {M : pj_Mem}  : pj_step 123 (262, L, st, M) = some (263, L, .int 1 :: st, M) := st_iconst q123_262 (by decide +kernel)
theorem x123_262 {L : pj_Loc} {st : List Value} {M : pj_Mem}  {o9 : Option Value × pj_Mem} : pj_Ends 123 (262, L, st, M) o9 = pj_Ends 123 (263, L, .int 1 :: st, M) o9 := pj_xs (s123_262)
theorem q123_263 : pj_row 123 263 = some (.goto 4, 3, 267, 0, 0) := by decide +kernel
theorem s123_263 {L : pj_Loc} {st : List Value} {M : pj_Mem}  : pj_step 123 (263, L, st, M) = some (267, L, st, M) := st_goto q123_263
theorem x123_263 {L : pj_Loc} {st : List Value} {M : pj_Mem}  {o9 : Option Value × pj_Mem} : pj_Ends 123 (263, L, st, M) o9 = pj_Ends 123 (267, L, st, M) o9 := pj_xs (s123_263)
theorem q123_266 : pj_row 123 266 = some (.iconst 0, 1, 0, 0, 0) := by decide +kernel
theorem s123_266 {L : pj_Loc} {st : List Value} {M : pj_Mem}  : pj_step 123 (266, L, st, M) = some (267, L, .int 0 :: st, M) := st_iconst q123_266 (by decide +kernel)
theorem x123_266 {L : pj_Loc} {st : List Value} {M : pj_Mem}  {o9 : Option Value × pj_Mem} : pj_Ends 123 (266, L, st, M) o9 = pj_Ends 123 (267, L, .int 0 :: st, M) o9 := pj_xs (s123_266)
theorem q123_267 : pj_row 123 267 = some (.invokevirtual 27, 3, 98, 3, 0) := by decide +kernel
theorem e123_267 {L : pj_Loc} {st : List Value} {N S : Nat} {H : pj_Heap} {o : Option Value × pj_Mem} {M' : pj_Mem} {x0 : Nat} {x1 : Int32} {x2 : Int32} {r : Int32} (h4 : pj_le4 st = true) (hu : pj_isU 6 (H x0) = true) (h1 : pj_Ends 98 (0, [some (.ref x0), some (.int x1), some (.int x2), none], [], (N, S, H)) (some (.int r), M')) (h2 : pj_Ends 123 (270, L, .int r :: st, M') o) : pj_Ends 123 (267, L, .int x2 :: .int x1 :: .ref x0 :: st, (N, S, H)) o := ec_v3 q123_267 (Or.inl rfl) h4 hu rfl h1 h2
theorem q123_270 : pj_row 123 270 = some (.if_icmp .eq 475, 3, 745, 0, 0) := by decide +kernel
theorem s123_270 {L : pj_Loc} {st : List Value} {M : pj_Mem} {x y : Int32} : pj_step 123 (270, L, .int y :: .int x :: st, M) = some (if x = y then 745 else 273, L, st, M) := st_icmp_eq q123_270
theorem x123_270 {L : pj_Loc} {st : List Value} {M : pj_Mem} {x y : Int32} {o9 : Option Value × pj_Mem} : pj_Ends 123 (270, L, .int y :: .int x :: st, M) o9 = pj_Ends 123 (if x = y then 745 else 273, L, st, M) o9 := pj_xs (s123_270)
theorem q123_273 : pj_row 123 273 = some (.iconst 0, 1, 0, 0, 0) := by decide +kernel
theorem s123_273 {L : pj_Loc} {st : List Value} {M : pj_Mem}  : pj_step 123 (273, L, st, M) = some (274, L, .int 0 :: st, M) := st_iconst q123_273 (by decide +kernel)
theorem x123_273 {L : pj_Loc} {st : List Value} {M : pj_Mem}  {o9 : Option Value × pj_Mem} : pj_Ends 123 (273, L, st, M) o9 = pj_Ends 123 (274, L, .int 0 :: st, M) o9 := pj_xs (s123_273)
theorem q123_274 : pj_row 123 274 = some (.ireturn, 1, 0, 0, 0) := by decide +kernel
theorem t123_274 {L : pj_Loc} {M : pj_Mem} {v : Int32} (hv : v = 0 ∨ v = 1) : pj_Ends 123 (274, L, [.int v], M) (some (.int v), M) := pj_Ends.ret q123_274 (pj_rtn_z rt123 hv)
theorem q123_275 : pj_row 123 275 = some (.aload_n 1, 1, 0, 0, 0) := by decide +kernel
theorem s123_275 {st : List Value} {M : pj_Mem} {l : pj_Loc} {a0 : Option Value} {x : Nat} : pj_step 123 (275, a0 :: some (.ref x) :: l, st, M) = some (276, a0 :: some (.ref x) :: l, .ref x :: st, M) := st_aload_n q123_275 rfl
theorem x123_275 {st : List Value} {M : pj_Mem} {l : pj_Loc} {a0 : Option Value} {x : Nat} {o9 : Option Value × pj_Mem} : pj_Ends 123 (275, a0 :: some (.ref x) :: l, st, M) o9 = pj_Ends 123 (276, a0 :: some (.ref x) :: l, .ref x :: st, M) o9 := pj_xs (s123_275)
theorem q123_276 : pj_row 123 276 = some (.aload_n 0, 1, 0, 0, 0) := by decide +kernel
theorem s123_276 {st : List Value} {M : pj_Mem} {l : pj_Loc} {x : Nat} : pj_step 123 (276, some (.ref x) :: l, st, M) = some (277, some (.ref x) :: l, .ref x :: st, M) := st_aload_n q123_276 rfl
theorem x123_276 {st : List Value} {M : pj_Mem} {l : pj_Loc} {x : Nat} {o9 : Option Value × pj_Mem} : pj_Ends 123 (276, some (.ref x) :: l, st, M) o9 = pj_Ends 123 (277, some (.ref x) :: l, .ref x :: st, M) o9 := pj_xs (s123_276)
theorem q123_277 : pj_row 123 277 = some (.iload_n 3, 1, 0, 0, 0) := by decide +kernel
theorem s123_277 {st : List Value} {M : pj_Mem} {l : pj_Loc} {a0 a1 a2 : Option Value} {x : Int32} : pj_step 123 (277, a0 :: a1 :: a2 :: some (.int x) :: l, st, M) = some (278, a0 :: a1 :: a2 :: some (.int x) :: l, .int x :: st, M) := st_iload_n q123_277 rfl
theorem x123_277 {st : List Value} {M : pj_Mem} {l : pj_Loc} {a0 a1 a2 : Option Value} {x : Int32} {o9 : Option Value × pj_Mem} : pj_Ends 123 (277, a0 :: a1 :: a2 :: some (.int x) :: l, st, M) o9 = pj_Ends 123 (278, a0 :: a1 :: a2 :: some (.int x) :: l, .int x :: st, M) o9 := pj_xs (s123_277)
theorem q123_278 : pj_row 123 278 = some (.iconst 1, 1, 0, 0, 0) := by decide +kernel
theorem s123_278 {L : pj_Loc} {st : List Value} {M : pj_Mem}  : pj_step 123 (278, L, st, M) = some (279, L, .int 1 :: st, M) := st_iconst q123_278 (by decide +kernel)
theorem x123_278 {L : pj_Loc} {st : List Value} {M : pj_Mem}  {o9 : Option Value × pj_Mem} : pj_Ends 123 (278, L, st, M) o9 = pj_Ends 123 (279, L, .int 1 :: st, M) o9 := pj_xs (s123_278)
theorem q123_279 : pj_row 123 279 = some (.iadd, 1, 0, 0, 0) := by decide +kernel
theorem s123_279 {L : pj_Loc} {st : List Value} {M : pj_Mem} {x y : Int32} : pj_step 123 (279, L, .int y :: .int x :: st, M) = some (280, L, .int (x + y) :: st, M) := st_iadd q123_279
theorem x123_279 {L : pj_Loc} {st : List Value} {M : pj_Mem} {x y : Int32} {o9 : Option Value × pj_Mem} : pj_Ends 123 (279, L, .int y :: .int x :: st, M) o9 = pj_Ends 123 (280, L, .int (x + y) :: st, M) o9 := pj_xs (s123_279)
theorem q123_280 : pj_row 123 280 = some (.iaload, 1, 0, 0, 0) := by decide +kernel
theorem s123_280 {L : pj_Loc} {st : List Value} {N S : Nat} {H : pj_Heap} {o : Nat} {i : Int32} : pj_step 123 (280, L, .int i :: .ref o :: st, (N, S, H)) = pj_pi 281 L st (N, S, H) (pj_arl (H o) 0 i) := st_iaload q123_280
theorem x123_280 {L : pj_Loc} {st : List Value} {N S : Nat} {H : pj_Heap} {o : Nat} {i : Int32} {o9 : Option Value × pj_Mem} : pj_Ends 123 (280, L, .int i :: .ref o :: st, (N, S, H)) o9 = pj_then 123 o9 (pj_pi 281 L st (N, S, H) (pj_arl (H o) 0 i)) := pj_xt q123_280 rfl (pj_cl_nc rfl) (s123_280)
theorem q123_281 : pj_row 123 281 = some (.invokevirtual 28, 3, 39, 2, 0) := by decide +kernel
theorem e123_281 {L : pj_Loc} {st : List Value} {N S : Nat} {H : pj_Heap} {o : Option Value × pj_Mem} {M' : pj_Mem} {x0 : Nat} {x1 : Int32} {r : Int32} (h4 : pj_le4 st = true) (hu : pj_isU 5 (H x0) = true) (h1 : pj_Ends 39 (0, [some (.ref x0), some (.int x1), none], [], (N, S, H)) (some (.int r), M')) (h2 : pj_Ends 123 (284, L, .int r :: st, M') o) : pj_Ends 123 (281, L, .int x1 :: .ref x0 :: st, (N, S, H)) o := ec_v2 q123_281 (Or.inl rfl) h4 hu rfl h1 h2
theorem q123_284 : pj_row 123 284 = some (.aload_n 2, 1, 0, 0, 0) := by decide +kernel
theorem s123_284 {st : List Value} {M : pj_Mem} {l : pj_Loc} {a0 a1 : Option Value} {x : Nat} : pj_step 123 (284, a0 :: a1 :: some (.ref x) :: l, st, M) = some (285, a0 :: a1 :: some (.ref x) :: l, .ref x :: st, M) := st_aload_n q123_284 rfl
theorem x123_284 {st : List Value} {M : pj_Mem} {l : pj_Loc} {a0 a1 : Option Value} {x : Nat} {o9 : Option Value × pj_Mem} : pj_Ends 123 (284, a0 :: a1 :: some (.ref x) :: l, st, M) o9 = pj_Ends 123 (285, a0 :: a1 :: some (.ref x) :: l, .ref x :: st, M) o9 := pj_xs (s123_284)
theorem q123_285 : pj_row 123 285 = some (.aload_n 0, 1, 0, 0, 0) := by decide +kernel
theorem s123_285 {st : List Value} {M : pj_Mem} {l : pj_Loc} {x : Nat} : pj_step 123 (285, some (.ref x) :: l, st, M) = some (286, some (.ref x) :: l, .ref x :: st, M) := st_aload_n q123_285 rfl
theorem x123_285 {st : List Value} {M : pj_Mem} {l : pj_Loc} {x : Nat} {o9 : Option Value × pj_Mem} : pj_Ends 123 (285, some (.ref x) :: l, st, M) o9 = pj_Ends 123 (286, some (.ref x) :: l, .ref x :: st, M) o9 := pj_xs (s123_285)
theorem q123_286 : pj_row 123 286 = some (.iload_n 3, 1, 0, 0, 0) := by decide +kernel
theorem s123_286 {st : List Value} {M : pj_Mem} {l : pj_Loc} {a0 a1 a2 : Option Value} {x : Int32} : pj_step 123 (286, a0 :: a1 :: a2 :: some (.int x) :: l, st, M) = some (287, a0 :: a1 :: a2 :: some (.int x) :: l, .int x :: st, M) := st_iload_n q123_286 rfl
theorem x123_286 {st : List Value} {M : pj_Mem} {l : pj_Loc} {a0 a1 a2 : Option Value} {x : Int32} {o9 : Option Value × pj_Mem} : pj_Ends 123 (286, a0 :: a1 :: a2 :: some (.int x) :: l, st, M) o9 = pj_Ends 123 (287, a0 :: a1 :: a2 :: some (.int x) :: l, .int x :: st, M) o9 := pj_xs (s123_286)
theorem q123_287 : pj_row 123 287 = some (.iconst 1, 1, 0, 0, 0) := by decide +kernel
theorem s123_287 {L : pj_Loc} {st : List Value} {M : pj_Mem}  : pj_step 123 (287, L, st, M) = some (288, L, .int 1 :: st, M) := st_iconst q123_287 (by decide +kernel)
theorem x123_287 {L : pj_Loc} {st : List Value} {M : pj_Mem}  {o9 : Option Value × pj_Mem} : pj_Ends 123 (287, L, st, M) o9 = pj_Ends 123 (288, L, .int 1 :: st, M) o9 := pj_xs (s123_287)
theorem q123_288 : pj_row 123 288 = some (.iadd, 1, 0, 0, 0) := by decide +kernel
theorem s123_288 {L : pj_Loc} {st : List Value} {M : pj_Mem} {x y : Int32} : pj_step 123 (288, L, .int y :: .int x :: st, M) = some (289, L, .int (x + y) :: st, M) := st_iadd q123_288
theorem x123_288 {L : pj_Loc} {st : List Value} {M : pj_Mem} {x y : Int32} {o9 : Option Value × pj_Mem} : pj_Ends 123 (288, L, .int y :: .int x :: st, M) o9 = pj_Ends 123 (289, L, .int (x + y) :: st, M) o9 := pj_xs (s123_288)
theorem q123_289 : pj_row 123 289 = some (.iaload, 1, 0, 0, 0) := by decide +kernel
theorem s123_289 {L : pj_Loc} {st : List Value} {N S : Nat} {H : pj_Heap} {o : Nat} {i : Int32} : pj_step 123 (289, L, .int i :: .ref o :: st, (N, S, H)) = pj_pi 290 L st (N, S, H) (pj_arl (H o) 0 i) := st_iaload q123_289
theorem x123_289 {L : pj_Loc} {st : List Value} {N S : Nat} {H : pj_Heap} {o : Nat} {i : Int32} {o9 : Option Value × pj_Mem} : pj_Ends 123 (289, L, .int i :: .ref o :: st, (N, S, H)) o9 = pj_then 123 o9 (pj_pi 290 L st (N, S, H) (pj_arl (H o) 0 i)) := pj_xt q123_289 rfl (pj_cl_nc rfl) (s123_289)
theorem q123_290 : pj_row 123 290 = some (.invokevirtual 32, 3, 101, 2, 0) := by decide +kernel
theorem e123_290 {L : pj_Loc} {st : List Value} {N S : Nat} {H : pj_Heap} {o : Option Value × pj_Mem} {M' : pj_Mem} {x0 : Nat} {x1 : Int32} {r : Int32} (h4 : pj_le4 st = true) (hu : pj_isU 6 (H x0) = true) (h1 : pj_Ends 101 (0, [some (.ref x0), some (.int x1), none], [], (N, S, H)) (some (.int r), M')) (h2 : pj_Ends 123 (293, L, .int r :: st, M') o) : pj_Ends 123 (290, L, .int x1 :: .ref x0 :: st, (N, S, H)) o := ec_v2 q123_290 (Or.inl rfl) h4 hu rfl h1 h2
theorem q123_293 : pj_row 123 293 = some (.if_icmp .eq 452, 3, 745, 0, 0) := by decide +kernel
theorem s123_293 {L : pj_Loc} {st : List Value} {M : pj_Mem} {x y : Int32} : pj_step 123 (293, L, .int y :: .int x :: st, M) = some (if x = y then 745 else 296, L, st, M) := st_icmp_eq q123_293
theorem x123_293 {L : pj_Loc} {st : List Value} {M : pj_Mem} {x y : Int32} {o9 : Option Value × pj_Mem} : pj_Ends 123 (293, L, .int y :: .int x :: st, M) o9 = pj_Ends 123 (if x = y then 745 else 296, L, st, M) o9 := pj_xs (s123_293)
theorem q123_296 : pj_row 123 296 = some (.iconst 0, 1, 0, 0, 0) := by decide +kernel
theorem s123_296 {L : pj_Loc} {st : List Value} {M : pj_Mem}  : pj_step 123 (296, L, st, M) = some (297, L, .int 0 :: st, M) := st_iconst q123_296 (by decide +kernel)
theorem x123_296 {L : pj_Loc} {st : List Value} {M : pj_Mem}  {o9 : Option Value × pj_Mem} : pj_Ends 123 (296, L, st, M) o9 = pj_Ends 123 (297, L, .int 0 :: st, M) o9 := pj_xs (s123_296)
theorem q123_297 : pj_row 123 297 = some (.ireturn, 1, 0, 0, 0) := by decide +kernel
theorem t123_297 {L : pj_Loc} {M : pj_Mem} {v : Int32} (hv : v = 0 ∨ v = 1) : pj_Ends 123 (297, L, [.int v], M) (some (.int v), M) := pj_Ends.ret q123_297 (pj_rtn_z rt123 hv)
theorem q123_298 : pj_row 123 298 = some (.aload_n 1, 1, 0, 0, 0) := by decide +kernel
theorem s123_298 {st : List Value} {M : pj_Mem} {l : pj_Loc} {a0 : Option Value} {x : Nat} : pj_step 123 (298, a0 :: some (.ref x) :: l, st, M) = some (299, a0 :: some (.ref x) :: l, .ref x :: st, M) := st_aload_n q123_298 rfl
theorem x123_298 {st : List Value} {M : pj_Mem} {l : pj_Loc} {a0 : Option Value} {x : Nat} {o9 : Option Value × pj_Mem} : pj_Ends 123 (298, a0 :: some (.ref x) :: l, st, M) o9 = pj_Ends 123 (299, a0 :: some (.ref x) :: l, .ref x :: st, M) o9 := pj_xs (s123_298)
theorem q123_299 : pj_row 123 299 = some (.invokevirtual 33, 3, 41, 1, 0) := by decide +kernel
theorem e123_299 {L : pj_Loc} {st : List Value} {N S : Nat} {H : pj_Heap} {o : Option Value × pj_Mem} {M' : pj_Mem} {x0 : Nat} {r : Int32} (h4 : pj_le4 st = true) (hu : pj_isU 5 (H x0) = true) (h1 : pj_Ends 41 (0, [some (.ref x0), none], [], (N, S, H)) (some (.int r), M')) (h2 : pj_Ends 123 (302, L, .int r :: st, M') o) : pj_Ends 123 (299, L, .ref x0 :: st, (N, S, H)) o := ec_v1 q123_299 (Or.inl rfl) h4 hu rfl h1 h2
theorem q123_302 : pj_row 123 302 = some (.aload_n 2, 1, 0, 0, 0) := by decide +kernel
theorem s123_302 {st : List Value} {M : pj_Mem} {l : pj_Loc} {a0 a1 : Option Value} {x : Nat} : pj_step 123 (302, a0 :: a1 :: some (.ref x) :: l, st, M) = some (303, a0 :: a1 :: some (.ref x) :: l, .ref x :: st, M) := st_aload_n q123_302 rfl
theorem x123_302 {st : List Value} {M : pj_Mem} {l : pj_Loc} {a0 a1 : Option Value} {x : Nat} {o9 : Option Value × pj_Mem} : pj_Ends 123 (302, a0 :: a1 :: some (.ref x) :: l, st, M) o9 = pj_Ends 123 (303, a0 :: a1 :: some (.ref x) :: l, .ref x :: st, M) o9 := pj_xs (s123_302)
theorem q123_303 : pj_row 123 303 = some (.invokevirtual 37, 3, 103, 1, 0) := by decide +kernel
theorem e123_303 {L : pj_Loc} {st : List Value} {N S : Nat} {H : pj_Heap} {o : Option Value × pj_Mem} {M' : pj_Mem} {x0 : Nat} {r : Int32} (h4 : pj_le4 st = true) (hu : pj_isU 6 (H x0) = true) (h1 : pj_Ends 103 (0, [some (.ref x0), none, none], [], (N, S, H)) (some (.int r), M')) (h2 : pj_Ends 123 (306, L, .int r :: st, M') o) : pj_Ends 123 (303, L, .ref x0 :: st, (N, S, H)) o := ec_v1 q123_303 (Or.inl rfl) h4 hu rfl h1 h2
theorem q123_306 : pj_row 123 306 = some (.if_icmp .eq 439, 3, 745, 0, 0) := by decide +kernel
theorem s123_306 {L : pj_Loc} {st : List Value} {M : pj_Mem} {x y : Int32} : pj_step 123 (306, L, .int y :: .int x :: st, M) = some (if x = y then 745 else 309, L, st, M) := st_icmp_eq q123_306
theorem x123_306 {L : pj_Loc} {st : List Value} {M : pj_Mem} {x y : Int32} {o9 : Option Value × pj_Mem} : pj_Ends 123 (306, L, .int y :: .int x :: st, M) o9 = pj_Ends 123 (if x = y then 745 else 309, L, st, M) o9 := pj_xs (s123_306)
theorem q123_309 : pj_row 123 309 = some (.iconst 0, 1, 0, 0, 0) := by decide +kernel
theorem s123_309 {L : pj_Loc} {st : List Value} {M : pj_Mem}  : pj_step 123 (309, L, st, M) = some (310, L, .int 0 :: st, M) := st_iconst q123_309 (by decide +kernel)
theorem x123_309 {L : pj_Loc} {st : List Value} {M : pj_Mem}  {o9 : Option Value × pj_Mem} : pj_Ends 123 (309, L, st, M) o9 = pj_Ends 123 (310, L, .int 0 :: st, M) o9 := pj_xs (s123_309)
theorem q123_310 : pj_row 123 310 = some (.ireturn, 1, 0, 0, 0) := by decide +kernel
theorem t123_310 {L : pj_Loc} {M : pj_Mem} {v : Int32} (hv : v = 0 ∨ v = 1) : pj_Ends 123 (310, L, [.int v], M) (some (.int v), M) := pj_Ends.ret q123_310 (pj_rtn_z rt123 hv)
theorem q123_311 : pj_row 123 311 = some (.aload_n 1, 1, 0, 0, 0) := by decide +kernel
theorem s123_311 {st : List Value} {M : pj_Mem} {l : pj_Loc} {a0 : Option Value} {x : Nat} : pj_step 123 (311, a0 :: some (.ref x) :: l, st, M) = some (312, a0 :: some (.ref x) :: l, .ref x :: st, M) := st_aload_n q123_311 rfl
theorem x123_311 {st : List Value} {M : pj_Mem} {l : pj_Loc} {a0 : Option Value} {x : Nat} {o9 : Option Value × pj_Mem} : pj_Ends 123 (311, a0 :: some (.ref x) :: l, st, M) o9 = pj_Ends 123 (312, a0 :: some (.ref x) :: l, .ref x :: st, M) o9 := pj_xs (s123_311)
theorem q123_312 : pj_row 123 312 = some (.aload_n 0, 1, 0, 0, 0) := by decide +kernel
theorem s123_312 {st : List Value} {M : pj_Mem} {l : pj_Loc} {x : Nat} : pj_step 123 (312, some (.ref x) :: l, st, M) = some (313, some (.ref x) :: l, .ref x :: st, M) := st_aload_n q123_312 rfl
theorem x123_312 {st : List Value} {M : pj_Mem} {l : pj_Loc} {x : Nat} {o9 : Option Value × pj_Mem} : pj_Ends 123 (312, some (.ref x) :: l, st, M) o9 = pj_Ends 123 (313, some (.ref x) :: l, .ref x :: st, M) o9 := pj_xs (s123_312)
theorem q123_313 : pj_row 123 313 = some (.iload_n 3, 1, 0, 0, 0) := by decide +kernel
theorem s123_313 {st : List Value} {M : pj_Mem} {l : pj_Loc} {a0 a1 a2 : Option Value} {x : Int32} : pj_step 123 (313, a0 :: a1 :: a2 :: some (.int x) :: l, st, M) = some (314, a0 :: a1 :: a2 :: some (.int x) :: l, .int x :: st, M) := st_iload_n q123_313 rfl
theorem x123_313 {st : List Value} {M : pj_Mem} {l : pj_Loc} {a0 a1 a2 : Option Value} {x : Int32} {o9 : Option Value × pj_Mem} : pj_Ends 123 (313, a0 :: a1 :: a2 :: some (.int x) :: l, st, M) o9 = pj_Ends 123 (314, a0 :: a1 :: a2 :: some (.int x) :: l, .int x :: st, M) o9 := pj_xs (s123_313)
theorem q123_314 : pj_row 123 314 = some (.iconst 1, 1, 0, 0, 0) := by decide +kernel
theorem s123_314 {L : pj_Loc} {st : List Value} {M : pj_Mem}  : pj_step 123 (314, L, st, M) = some (315, L, .int 1 :: st, M) := st_iconst q123_314 (by decide +kernel)
theorem x123_314 {L : pj_Loc} {st : List Value} {M : pj_Mem}  {o9 : Option Value × pj_Mem} : pj_Ends 123 (314, L, st, M) o9 = pj_Ends 123 (315, L, .int 1 :: st, M) o9 := pj_xs (s123_314)
theorem q123_315 : pj_row 123 315 = some (.iadd, 1, 0, 0, 0) := by decide +kernel
theorem s123_315 {L : pj_Loc} {st : List Value} {M : pj_Mem} {x y : Int32} : pj_step 123 (315, L, .int y :: .int x :: st, M) = some (316, L, .int (x + y) :: st, M) := st_iadd q123_315
theorem x123_315 {L : pj_Loc} {st : List Value} {M : pj_Mem} {x y : Int32} {o9 : Option Value × pj_Mem} : pj_Ends 123 (315, L, .int y :: .int x :: st, M) o9 = pj_Ends 123 (316, L, .int (x + y) :: st, M) o9 := pj_xs (s123_315)
theorem q123_316 : pj_row 123 316 = some (.iaload, 1, 0, 0, 0) := by decide +kernel
theorem s123_316 {L : pj_Loc} {st : List Value} {N S : Nat} {H : pj_Heap} {o : Nat} {i : Int32} : pj_step 123 (316, L, .int i :: .ref o :: st, (N, S, H)) = pj_pi 317 L st (N, S, H) (pj_arl (H o) 0 i) := st_iaload q123_316
theorem x123_316 {L : pj_Loc} {st : List Value} {N S : Nat} {H : pj_Heap} {o : Nat} {i : Int32} {o9 : Option Value × pj_Mem} : pj_Ends 123 (316, L, .int i :: .ref o :: st, (N, S, H)) o9 = pj_then 123 o9 (pj_pi 317 L st (N, S, H) (pj_arl (H o) 0 i)) := pj_xt q123_316 rfl (pj_cl_nc rfl) (s123_316)
theorem q123_317 : pj_row 123 317 = some (.aload_n 0, 1, 0, 0, 0) := by decide +kernel
theorem s123_317 {st : List Value} {M : pj_Mem} {l : pj_Loc} {x : Nat} : pj_step 123 (317, some (.ref x) :: l, st, M) = some (318, some (.ref x) :: l, .ref x :: st, M) := st_aload_n q123_317 rfl
theorem x123_317 {st : List Value} {M : pj_Mem} {l : pj_Loc} {x : Nat} {o9 : Option Value × pj_Mem} : pj_Ends 123 (317, some (.ref x) :: l, st, M) o9 = pj_Ends 123 (318, some (.ref x) :: l, .ref x :: st, M) o9 := pj_xs (s123_317)
theorem q123_318 : pj_row 123 318 = some (.iload_n 3, 1, 0, 0, 0) := by decide +kernel
theorem s123_318 {st : List Value} {M : pj_Mem} {l : pj_Loc} {a0 a1 a2 : Option Value} {x : Int32} : pj_step 123 (318, a0 :: a1 :: a2 :: some (.int x) :: l, st, M) = some (319, a0 :: a1 :: a2 :: some (.int x) :: l, .int x :: st, M) := st_iload_n q123_318 rfl
theorem x123_318 {st : List Value} {M : pj_Mem} {l : pj_Loc} {a0 a1 a2 : Option Value} {x : Int32} {o9 : Option Value × pj_Mem} : pj_Ends 123 (318, a0 :: a1 :: a2 :: some (.int x) :: l, st, M) o9 = pj_Ends 123 (319, a0 :: a1 :: a2 :: some (.int x) :: l, .int x :: st, M) o9 := pj_xs (s123_318)
theorem q123_319 : pj_row 123 319 = some (.iconst 2, 1, 0, 0, 0) := by decide +kernel
theorem s123_319 {L : pj_Loc} {st : List Value} {M : pj_Mem}  : pj_step 123 (319, L, st, M) = some (320, L, .int 2 :: st, M) := st_iconst q123_319 (by decide +kernel)
theorem x123_319 {L : pj_Loc} {st : List Value} {M : pj_Mem}  {o9 : Option Value × pj_Mem} : pj_Ends 123 (319, L, st, M) o9 = pj_Ends 123 (320, L, .int 2 :: st, M) o9 := pj_xs (s123_319)
theorem q123_320 : pj_row 123 320 = some (.iadd, 1, 0, 0, 0) := by decide +kernel
theorem s123_320 {L : pj_Loc} {st : List Value} {M : pj_Mem} {x y : Int32} : pj_step 123 (320, L, .int y :: .int x :: st, M) = some (321, L, .int (x + y) :: st, M) := st_iadd q123_320
theorem x123_320 {L : pj_Loc} {st : List Value} {M : pj_Mem} {x y : Int32} {o9 : Option Value × pj_Mem} : pj_Ends 123 (320, L, .int y :: .int x :: st, M) o9 = pj_Ends 123 (321, L, .int (x + y) :: st, M) o9 := pj_xs (s123_320)
theorem q123_321 : pj_row 123 321 = some (.iaload, 1, 0, 0, 0) := by decide +kernel
theorem s123_321 {L : pj_Loc} {st : List Value} {N S : Nat} {H : pj_Heap} {o : Nat} {i : Int32} : pj_step 123 (321, L, .int i :: .ref o :: st, (N, S, H)) = pj_pi 322 L st (N, S, H) (pj_arl (H o) 0 i) := st_iaload q123_321
theorem x123_321 {L : pj_Loc} {st : List Value} {N S : Nat} {H : pj_Heap} {o : Nat} {i : Int32} {o9 : Option Value × pj_Mem} : pj_Ends 123 (321, L, .int i :: .ref o :: st, (N, S, H)) o9 = pj_then 123 o9 (pj_pi 322 L st (N, S, H) (pj_arl (H o) 0 i)) := pj_xt q123_321 rfl (pj_cl_nc rfl) (s123_321)
theorem q123_322 : pj_row 123 322 = some (.invokevirtual 38, 3, 44, 3, 0) := by decide +kernel
theorem e123_322 {L : pj_Loc} {st : List Value} {N S : Nat} {H : pj_Heap} {o : Option Value × pj_Mem} {M' : pj_Mem} {x0 : Nat} {x1 : Int32} {x2 : Int32} {r : Int32} (h4 : pj_le4 st = true) (hu : pj_isU 5 (H x0) = true) (h1 : pj_Ends 44 (0, [some (.ref x0), some (.int x1), some (.int x2)], [], (N, S, H)) (some (.int r), M')) (h2 : pj_Ends 123 (325, L, .int r :: st, M') o) : pj_Ends 123 (322, L, .int x2 :: .int x1 :: .ref x0 :: st, (N, S, H)) o := ec_v3 q123_322 (Or.inl rfl) h4 hu rfl h1 h2
theorem q123_325 : pj_row 123 325 = some (.aload_n 2, 1, 0, 0, 0) := by decide +kernel
theorem s123_325 {st : List Value} {M : pj_Mem} {l : pj_Loc} {a0 a1 : Option Value} {x : Nat} : pj_step 123 (325, a0 :: a1 :: some (.ref x) :: l, st, M) = some (326, a0 :: a1 :: some (.ref x) :: l, .ref x :: st, M) := st_aload_n q123_325 rfl
theorem x123_325 {st : List Value} {M : pj_Mem} {l : pj_Loc} {a0 a1 : Option Value} {x : Nat} {o9 : Option Value × pj_Mem} : pj_Ends 123 (325, a0 :: a1 :: some (.ref x) :: l, st, M) o9 = pj_Ends 123 (326, a0 :: a1 :: some (.ref x) :: l, .ref x :: st, M) o9 := pj_xs (s123_325)
theorem q123_326 : pj_row 123 326 = some (.aload_n 0, 1, 0, 0, 0) := by decide +kernel
theorem s123_326 {st : List Value} {M : pj_Mem} {l : pj_Loc} {x : Nat} : pj_step 123 (326, some (.ref x) :: l, st, M) = some (327, some (.ref x) :: l, .ref x :: st, M) := st_aload_n q123_326 rfl
theorem x123_326 {st : List Value} {M : pj_Mem} {l : pj_Loc} {x : Nat} {o9 : Option Value × pj_Mem} : pj_Ends 123 (326, some (.ref x) :: l, st, M) o9 = pj_Ends 123 (327, some (.ref x) :: l, .ref x :: st, M) o9 := pj_xs (s123_326)
theorem q123_327 : pj_row 123 327 = some (.iload_n 3, 1, 0, 0, 0) := by decide +kernel
theorem s123_327 {st : List Value} {M : pj_Mem} {l : pj_Loc} {a0 a1 a2 : Option Value} {x : Int32} : pj_step 123 (327, a0 :: a1 :: a2 :: some (.int x) :: l, st, M) = some (328, a0 :: a1 :: a2 :: some (.int x) :: l, .int x :: st, M) := st_iload_n q123_327 rfl
theorem x123_327 {st : List Value} {M : pj_Mem} {l : pj_Loc} {a0 a1 a2 : Option Value} {x : Int32} {o9 : Option Value × pj_Mem} : pj_Ends 123 (327, a0 :: a1 :: a2 :: some (.int x) :: l, st, M) o9 = pj_Ends 123 (328, a0 :: a1 :: a2 :: some (.int x) :: l, .int x :: st, M) o9 := pj_xs (s123_327)
theorem q123_328 : pj_row 123 328 = some (.iconst 1, 1, 0, 0, 0) := by decide +kernel
theorem s123_328 {L : pj_Loc} {st : List Value} {M : pj_Mem}  : pj_step 123 (328, L, st, M) = some (329, L, .int 1 :: st, M) := st_iconst q123_328 (by decide +kernel)
theorem x123_328 {L : pj_Loc} {st : List Value} {M : pj_Mem}  {o9 : Option Value × pj_Mem} : pj_Ends 123 (328, L, st, M) o9 = pj_Ends 123 (329, L, .int 1 :: st, M) o9 := pj_xs (s123_328)
theorem q123_329 : pj_row 123 329 = some (.iadd, 1, 0, 0, 0) := by decide +kernel
theorem s123_329 {L : pj_Loc} {st : List Value} {M : pj_Mem} {x y : Int32} : pj_step 123 (329, L, .int y :: .int x :: st, M) = some (330, L, .int (x + y) :: st, M) := st_iadd q123_329
theorem x123_329 {L : pj_Loc} {st : List Value} {M : pj_Mem} {x y : Int32} {o9 : Option Value × pj_Mem} : pj_Ends 123 (329, L, .int y :: .int x :: st, M) o9 = pj_Ends 123 (330, L, .int (x + y) :: st, M) o9 := pj_xs (s123_329)
theorem q123_330 : pj_row 123 330 = some (.iaload, 1, 0, 0, 0) := by decide +kernel
theorem s123_330 {L : pj_Loc} {st : List Value} {N S : Nat} {H : pj_Heap} {o : Nat} {i : Int32} : pj_step 123 (330, L, .int i :: .ref o :: st, (N, S, H)) = pj_pi 331 L st (N, S, H) (pj_arl (H o) 0 i) := st_iaload q123_330
theorem x123_330 {L : pj_Loc} {st : List Value} {N S : Nat} {H : pj_Heap} {o : Nat} {i : Int32} {o9 : Option Value × pj_Mem} : pj_Ends 123 (330, L, .int i :: .ref o :: st, (N, S, H)) o9 = pj_then 123 o9 (pj_pi 331 L st (N, S, H) (pj_arl (H o) 0 i)) := pj_xt q123_330 rfl (pj_cl_nc rfl) (s123_330)
theorem q123_331 : pj_row 123 331 = some (.aload_n 0, 1, 0, 0, 0) := by decide +kernel
theorem s123_331 {st : List Value} {M : pj_Mem} {l : pj_Loc} {x : Nat} : pj_step 123 (331, some (.ref x) :: l, st, M) = some (332, some (.ref x) :: l, .ref x :: st, M) := st_aload_n q123_331 rfl
theorem x123_331 {st : List Value} {M : pj_Mem} {l : pj_Loc} {x : Nat} {o9 : Option Value × pj_Mem} : pj_Ends 123 (331, some (.ref x) :: l, st, M) o9 = pj_Ends 123 (332, some (.ref x) :: l, .ref x :: st, M) o9 := pj_xs (s123_331)
theorem q123_332 : pj_row 123 332 = some (.iload_n 3, 1, 0, 0, 0) := by decide +kernel
theorem s123_332 {st : List Value} {M : pj_Mem} {l : pj_Loc} {a0 a1 a2 : Option Value} {x : Int32} : pj_step 123 (332, a0 :: a1 :: a2 :: some (.int x) :: l, st, M) = some (333, a0 :: a1 :: a2 :: some (.int x) :: l, .int x :: st, M) := st_iload_n q123_332 rfl
theorem x123_332 {st : List Value} {M : pj_Mem} {l : pj_Loc} {a0 a1 a2 : Option Value} {x : Int32} {o9 : Option Value × pj_Mem} : pj_Ends 123 (332, a0 :: a1 :: a2 :: some (.int x) :: l, st, M) o9 = pj_Ends 123 (333, a0 :: a1 :: a2 :: some (.int x) :: l, .int x :: st, M) o9 := pj_xs (s123_332)
theorem q123_333 : pj_row 123 333 = some (.iconst 2, 1, 0, 0, 0) := by decide +kernel
theorem s123_333 {L : pj_Loc} {st : List Value} {M : pj_Mem}  : pj_step 123 (333, L, st, M) = some (334, L, .int 2 :: st, M) := st_iconst q123_333 (by decide +kernel)
theorem x123_333 {L : pj_Loc} {st : List Value} {M : pj_Mem}  {o9 : Option Value × pj_Mem} : pj_Ends 123 (333, L, st, M) o9 = pj_Ends 123 (334, L, .int 2 :: st, M) o9 := pj_xs (s123_333)
theorem q123_334 : pj_row 123 334 = some (.iadd, 1, 0, 0, 0) := by decide +kernel
theorem s123_334 {L : pj_Loc} {st : List Value} {M : pj_Mem} {x y : Int32} : pj_step 123 (334, L, .int y :: .int x :: st, M) = some (335, L, .int (x + y) :: st, M) := st_iadd q123_334
theorem x123_334 {L : pj_Loc} {st : List Value} {M : pj_Mem} {x y : Int32} {o9 : Option Value × pj_Mem} : pj_Ends 123 (334, L, .int y :: .int x :: st, M) o9 = pj_Ends 123 (335, L, .int (x + y) :: st, M) o9 := pj_xs (s123_334)
theorem q123_335 : pj_row 123 335 = some (.iaload, 1, 0, 0, 0) := by decide +kernel
theorem s123_335 {L : pj_Loc} {st : List Value} {N S : Nat} {H : pj_Heap} {o : Nat} {i : Int32} : pj_step 123 (335, L, .int i :: .ref o :: st, (N, S, H)) = pj_pi 336 L st (N, S, H) (pj_arl (H o) 0 i) := st_iaload q123_335
theorem x123_335 {L : pj_Loc} {st : List Value} {N S : Nat} {H : pj_Heap} {o : Nat} {i : Int32} {o9 : Option Value × pj_Mem} : pj_Ends 123 (335, L, .int i :: .ref o :: st, (N, S, H)) o9 = pj_then 123 o9 (pj_pi 336 L st (N, S, H) (pj_arl (H o) 0 i)) := pj_xt q123_335 rfl (pj_cl_nc rfl) (s123_335)
theorem q123_336 : pj_row 123 336 = some (.invokevirtual 41, 3, 104, 3, 0) := by decide +kernel
theorem e123_336 {L : pj_Loc} {st : List Value} {N S : Nat} {H : pj_Heap} {o : Option Value × pj_Mem} {M' : pj_Mem} {x0 : Nat} {x1 : Int32} {x2 : Int32} {r : Int32} (h4 : pj_le4 st = true) (hu : pj_isU 6 (H x0) = true) (h1 : pj_Ends 104 (0, [some (.ref x0), some (.int x1), some (.int x2)], [], (N, S, H)) (some (.int r), M')) (h2 : pj_Ends 123 (339, L, .int r :: st, M') o) : pj_Ends 123 (336, L, .int x2 :: .int x1 :: .ref x0 :: st, (N, S, H)) o := ec_v3 q123_336 (Or.inl rfl) h4 hu rfl h1 h2
theorem q123_339 : pj_row 123 339 = some (.if_icmp .eq 406, 3, 745, 0, 0) := by decide +kernel
theorem s123_339 {L : pj_Loc} {st : List Value} {M : pj_Mem} {x y : Int32} : pj_step 123 (339, L, .int y :: .int x :: st, M) = some (if x = y then 745 else 342, L, st, M) := st_icmp_eq q123_339
theorem x123_339 {L : pj_Loc} {st : List Value} {M : pj_Mem} {x y : Int32} {o9 : Option Value × pj_Mem} : pj_Ends 123 (339, L, .int y :: .int x :: st, M) o9 = pj_Ends 123 (if x = y then 745 else 342, L, st, M) o9 := pj_xs (s123_339)
theorem q123_342 : pj_row 123 342 = some (.iconst 0, 1, 0, 0, 0) := by decide +kernel
theorem s123_342 {L : pj_Loc} {st : List Value} {M : pj_Mem}  : pj_step 123 (342, L, st, M) = some (343, L, .int 0 :: st, M) := st_iconst q123_342 (by decide +kernel)
theorem x123_342 {L : pj_Loc} {st : List Value} {M : pj_Mem}  {o9 : Option Value × pj_Mem} : pj_Ends 123 (342, L, st, M) o9 = pj_Ends 123 (343, L, .int 0 :: st, M) o9 := pj_xs (s123_342)
theorem q123_343 : pj_row 123 343 = some (.ireturn, 1, 0, 0, 0) := by decide +kernel
theorem t123_343 {L : pj_Loc} {M : pj_Mem} {v : Int32} (hv : v = 0 ∨ v = 1) : pj_Ends 123 (343, L, [.int v], M) (some (.int v), M) := pj_Ends.ret q123_343 (pj_rtn_z rt123 hv)
theorem q123_344 : pj_row 123 344 = some (.aload_n 1, 1, 0, 0, 0) := by decide +kernel
theorem s123_344 {st : List Value} {M : pj_Mem} {l : pj_Loc} {a0 : Option Value} {x : Nat} : pj_step 123 (344, a0 :: some (.ref x) :: l, st, M) = some (345, a0 :: some (.ref x) :: l, .ref x :: st, M) := st_aload_n q123_344 rfl
theorem x123_344 {st : List Value} {M : pj_Mem} {l : pj_Loc} {a0 : Option Value} {x : Nat} {o9 : Option Value × pj_Mem} : pj_Ends 123 (344, a0 :: some (.ref x) :: l, st, M) o9 = pj_Ends 123 (345, a0 :: some (.ref x) :: l, .ref x :: st, M) o9 := pj_xs (s123_344)
theorem q123_345 : pj_row 123 345 = some (.aload_n 0, 1, 0, 0, 0) := by decide +kernel
theorem s123_345 {st : List Value} {M : pj_Mem} {l : pj_Loc} {x : Nat} : pj_step 123 (345, some (.ref x) :: l, st, M) = some (346, some (.ref x) :: l, .ref x :: st, M) := st_aload_n q123_345 rfl
theorem x123_345 {st : List Value} {M : pj_Mem} {l : pj_Loc} {x : Nat} {o9 : Option Value × pj_Mem} : pj_Ends 123 (345, some (.ref x) :: l, st, M) o9 = pj_Ends 123 (346, some (.ref x) :: l, .ref x :: st, M) o9 := pj_xs (s123_345)
theorem q123_346 : pj_row 123 346 = some (.iload_n 3, 1, 0, 0, 0) := by decide +kernel
theorem s123_346 {st : List Value} {M : pj_Mem} {l : pj_Loc} {a0 a1 a2 : Option Value} {x : Int32} : pj_step 123 (346, a0 :: a1 :: a2 :: some (.int x) :: l, st, M) = some (347, a0 :: a1 :: a2 :: some (.int x) :: l, .int x :: st, M) := st_iload_n q123_346 rfl
theorem x123_346 {st : List Value} {M : pj_Mem} {l : pj_Loc} {a0 a1 a2 : Option Value} {x : Int32} {o9 : Option Value × pj_Mem} : pj_Ends 123 (346, a0 :: a1 :: a2 :: some (.int x) :: l, st, M) o9 = pj_Ends 123 (347, a0 :: a1 :: a2 :: some (.int x) :: l, .int x :: st, M) o9 := pj_xs (s123_346)
theorem q123_347 : pj_row 123 347 = some (.iconst 1, 1, 0, 0, 0) := by decide +kernel
theorem s123_347 {L : pj_Loc} {st : List Value} {M : pj_Mem}  : pj_step 123 (347, L, st, M) = some (348, L, .int 1 :: st, M) := st_iconst q123_347 (by decide +kernel)
theorem x123_347 {L : pj_Loc} {st : List Value} {M : pj_Mem}  {o9 : Option Value × pj_Mem} : pj_Ends 123 (347, L, st, M) o9 = pj_Ends 123 (348, L, .int 1 :: st, M) o9 := pj_xs (s123_347)
theorem q123_348 : pj_row 123 348 = some (.iadd, 1, 0, 0, 0) := by decide +kernel
theorem s123_348 {L : pj_Loc} {st : List Value} {M : pj_Mem} {x y : Int32} : pj_step 123 (348, L, .int y :: .int x :: st, M) = some (349, L, .int (x + y) :: st, M) := st_iadd q123_348
theorem x123_348 {L : pj_Loc} {st : List Value} {M : pj_Mem} {x y : Int32} {o9 : Option Value × pj_Mem} : pj_Ends 123 (348, L, .int y :: .int x :: st, M) o9 = pj_Ends 123 (349, L, .int (x + y) :: st, M) o9 := pj_xs (s123_348)
theorem q123_349 : pj_row 123 349 = some (.iaload, 1, 0, 0, 0) := by decide +kernel
theorem s123_349 {L : pj_Loc} {st : List Value} {N S : Nat} {H : pj_Heap} {o : Nat} {i : Int32} : pj_step 123 (349, L, .int i :: .ref o :: st, (N, S, H)) = pj_pi 350 L st (N, S, H) (pj_arl (H o) 0 i) := st_iaload q123_349
theorem x123_349 {L : pj_Loc} {st : List Value} {N S : Nat} {H : pj_Heap} {o : Nat} {i : Int32} {o9 : Option Value × pj_Mem} : pj_Ends 123 (349, L, .int i :: .ref o :: st, (N, S, H)) o9 = pj_then 123 o9 (pj_pi 350 L st (N, S, H) (pj_arl (H o) 0 i)) := pj_xt q123_349 rfl (pj_cl_nc rfl) (s123_349)
theorem q123_350 : pj_row 123 350 = some (.aload_n 0, 1, 0, 0, 0) := by decide +kernel
theorem s123_350 {st : List Value} {M : pj_Mem} {l : pj_Loc} {x : Nat} : pj_step 123 (350, some (.ref x) :: l, st, M) = some (351, some (.ref x) :: l, .ref x :: st, M) := st_aload_n q123_350 rfl
theorem x123_350 {st : List Value} {M : pj_Mem} {l : pj_Loc} {x : Nat} {o9 : Option Value × pj_Mem} : pj_Ends 123 (350, some (.ref x) :: l, st, M) o9 = pj_Ends 123 (351, some (.ref x) :: l, .ref x :: st, M) o9 := pj_xs (s123_350)
theorem q123_351 : pj_row 123 351 = some (.iload_n 3, 1, 0, 0, 0) := by decide +kernel
theorem s123_351 {st : List Value} {M : pj_Mem} {l : pj_Loc} {a0 a1 a2 : Option Value} {x : Int32} : pj_step 123 (351, a0 :: a1 :: a2 :: some (.int x) :: l, st, M) = some (352, a0 :: a1 :: a2 :: some (.int x) :: l, .int x :: st, M) := st_iload_n q123_351 rfl
theorem x123_351 {st : List Value} {M : pj_Mem} {l : pj_Loc} {a0 a1 a2 : Option Value} {x : Int32} {o9 : Option Value × pj_Mem} : pj_Ends 123 (351, a0 :: a1 :: a2 :: some (.int x) :: l, st, M) o9 = pj_Ends 123 (352, a0 :: a1 :: a2 :: some (.int x) :: l, .int x :: st, M) o9 := pj_xs (s123_351)
theorem q123_352 : pj_row 123 352 = some (.iconst 2, 1, 0, 0, 0) := by decide +kernel
theorem s123_352 {L : pj_Loc} {st : List Value} {M : pj_Mem}  : pj_step 123 (352, L, st, M) = some (353, L, .int 2 :: st, M) := st_iconst q123_352 (by decide +kernel)
theorem x123_352 {L : pj_Loc} {st : List Value} {M : pj_Mem}  {o9 : Option Value × pj_Mem} : pj_Ends 123 (352, L, st, M) o9 = pj_Ends 123 (353, L, .int 2 :: st, M) o9 := pj_xs (s123_352)
theorem q123_353 : pj_row 123 353 = some (.iadd, 1, 0, 0, 0) := by decide +kernel
theorem s123_353 {L : pj_Loc} {st : List Value} {M : pj_Mem} {x y : Int32} : pj_step 123 (353, L, .int y :: .int x :: st, M) = some (354, L, .int (x + y) :: st, M) := st_iadd q123_353
theorem x123_353 {L : pj_Loc} {st : List Value} {M : pj_Mem} {x y : Int32} {o9 : Option Value × pj_Mem} : pj_Ends 123 (353, L, .int y :: .int x :: st, M) o9 = pj_Ends 123 (354, L, .int (x + y) :: st, M) o9 := pj_xs (s123_353)
theorem q123_354 : pj_row 123 354 = some (.iaload, 1, 0, 0, 0) := by decide +kernel
theorem s123_354 {L : pj_Loc} {st : List Value} {N S : Nat} {H : pj_Heap} {o : Nat} {i : Int32} : pj_step 123 (354, L, .int i :: .ref o :: st, (N, S, H)) = pj_pi 355 L st (N, S, H) (pj_arl (H o) 0 i) := st_iaload q123_354
theorem x123_354 {L : pj_Loc} {st : List Value} {N S : Nat} {H : pj_Heap} {o : Nat} {i : Int32} {o9 : Option Value × pj_Mem} : pj_Ends 123 (354, L, .int i :: .ref o :: st, (N, S, H)) o9 = pj_then 123 o9 (pj_pi 355 L st (N, S, H) (pj_arl (H o) 0 i)) := pj_xt q123_354 rfl (pj_cl_nc rfl) (s123_354)
theorem q123_355 : pj_row 123 355 = some (.invokevirtual 42, 3, 45, 3, 0) := by decide +kernel
theorem e123_355 {L : pj_Loc} {st : List Value} {N S : Nat} {H : pj_Heap} {o : Option Value × pj_Mem} {M' : pj_Mem} {x0 : Nat} {x1 : Int32} {x2 : Int32} {r : Int32} (h4 : pj_le4 st = true) (hu : pj_isU 5 (H x0) = true) (h1 : pj_Ends 45 (0, [some (.ref x0), some (.int x1), some (.int x2)], [], (N, S, H)) (some (.int r), M')) (h2 : pj_Ends 123 (358, L, .int r :: st, M') o) : pj_Ends 123 (355, L, .int x2 :: .int x1 :: .ref x0 :: st, (N, S, H)) o := ec_v3 q123_355 (Or.inl rfl) h4 hu rfl h1 h2
theorem q123_358 : pj_row 123 358 = some (.aload_n 2, 1, 0, 0, 0) := by decide +kernel
theorem s123_358 {st : List Value} {M : pj_Mem} {l : pj_Loc} {a0 a1 : Option Value} {x : Nat} : pj_step 123 (358, a0 :: a1 :: some (.ref x) :: l, st, M) = some (359, a0 :: a1 :: some (.ref x) :: l, .ref x :: st, M) := st_aload_n q123_358 rfl
theorem x123_358 {st : List Value} {M : pj_Mem} {l : pj_Loc} {a0 a1 : Option Value} {x : Nat} {o9 : Option Value × pj_Mem} : pj_Ends 123 (358, a0 :: a1 :: some (.ref x) :: l, st, M) o9 = pj_Ends 123 (359, a0 :: a1 :: some (.ref x) :: l, .ref x :: st, M) o9 := pj_xs (s123_358)
theorem q123_359 : pj_row 123 359 = some (.aload_n 0, 1, 0, 0, 0) := by decide +kernel
theorem s123_359 {st : List Value} {M : pj_Mem} {l : pj_Loc} {x : Nat} : pj_step 123 (359, some (.ref x) :: l, st, M) = some (360, some (.ref x) :: l, .ref x :: st, M) := st_aload_n q123_359 rfl
theorem x123_359 {st : List Value} {M : pj_Mem} {l : pj_Loc} {x : Nat} {o9 : Option Value × pj_Mem} : pj_Ends 123 (359, some (.ref x) :: l, st, M) o9 = pj_Ends 123 (360, some (.ref x) :: l, .ref x :: st, M) o9 := pj_xs (s123_359)
theorem q123_360 : pj_row 123 360 = some (.iload_n 3, 1, 0, 0, 0) := by decide +kernel
theorem s123_360 {st : List Value} {M : pj_Mem} {l : pj_Loc} {a0 a1 a2 : Option Value} {x : Int32} : pj_step 123 (360, a0 :: a1 :: a2 :: some (.int x) :: l, st, M) = some (361, a0 :: a1 :: a2 :: some (.int x) :: l, .int x :: st, M) := st_iload_n q123_360 rfl
theorem x123_360 {st : List Value} {M : pj_Mem} {l : pj_Loc} {a0 a1 a2 : Option Value} {x : Int32} {o9 : Option Value × pj_Mem} : pj_Ends 123 (360, a0 :: a1 :: a2 :: some (.int x) :: l, st, M) o9 = pj_Ends 123 (361, a0 :: a1 :: a2 :: some (.int x) :: l, .int x :: st, M) o9 := pj_xs (s123_360)
theorem q123_361 : pj_row 123 361 = some (.iconst 1, 1, 0, 0, 0) := by decide +kernel
theorem s123_361 {L : pj_Loc} {st : List Value} {M : pj_Mem}  : pj_step 123 (361, L, st, M) = some (362, L, .int 1 :: st, M) := st_iconst q123_361 (by decide +kernel)
theorem x123_361 {L : pj_Loc} {st : List Value} {M : pj_Mem}  {o9 : Option Value × pj_Mem} : pj_Ends 123 (361, L, st, M) o9 = pj_Ends 123 (362, L, .int 1 :: st, M) o9 := pj_xs (s123_361)
theorem q123_362 : pj_row 123 362 = some (.iadd, 1, 0, 0, 0) := by decide +kernel
theorem s123_362 {L : pj_Loc} {st : List Value} {M : pj_Mem} {x y : Int32} : pj_step 123 (362, L, .int y :: .int x :: st, M) = some (363, L, .int (x + y) :: st, M) := st_iadd q123_362
theorem x123_362 {L : pj_Loc} {st : List Value} {M : pj_Mem} {x y : Int32} {o9 : Option Value × pj_Mem} : pj_Ends 123 (362, L, .int y :: .int x :: st, M) o9 = pj_Ends 123 (363, L, .int (x + y) :: st, M) o9 := pj_xs (s123_362)
theorem q123_363 : pj_row 123 363 = some (.iaload, 1, 0, 0, 0) := by decide +kernel
theorem s123_363 {L : pj_Loc} {st : List Value} {N S : Nat} {H : pj_Heap} {o : Nat} {i : Int32} : pj_step 123 (363, L, .int i :: .ref o :: st, (N, S, H)) = pj_pi 364 L st (N, S, H) (pj_arl (H o) 0 i) := st_iaload q123_363
theorem x123_363 {L : pj_Loc} {st : List Value} {N S : Nat} {H : pj_Heap} {o : Nat} {i : Int32} {o9 : Option Value × pj_Mem} : pj_Ends 123 (363, L, .int i :: .ref o :: st, (N, S, H)) o9 = pj_then 123 o9 (pj_pi 364 L st (N, S, H) (pj_arl (H o) 0 i)) := pj_xt q123_363 rfl (pj_cl_nc rfl) (s123_363)
theorem q123_364 : pj_row 123 364 = some (.aload_n 0, 1, 0, 0, 0) := by decide +kernel
theorem s123_364 {st : List Value} {M : pj_Mem} {l : pj_Loc} {x : Nat} : pj_step 123 (364, some (.ref x) :: l, st, M) = some (365, some (.ref x) :: l, .ref x :: st, M) := st_aload_n q123_364 rfl
theorem x123_364 {st : List Value} {M : pj_Mem} {l : pj_Loc} {x : Nat} {o9 : Option Value × pj_Mem} : pj_Ends 123 (364, some (.ref x) :: l, st, M) o9 = pj_Ends 123 (365, some (.ref x) :: l, .ref x :: st, M) o9 := pj_xs (s123_364)
theorem q123_365 : pj_row 123 365 = some (.iload_n 3, 1, 0, 0, 0) := by decide +kernel
theorem s123_365 {st : List Value} {M : pj_Mem} {l : pj_Loc} {a0 a1 a2 : Option Value} {x : Int32} : pj_step 123 (365, a0 :: a1 :: a2 :: some (.int x) :: l, st, M) = some (366, a0 :: a1 :: a2 :: some (.int x) :: l, .int x :: st, M) := st_iload_n q123_365 rfl
theorem x123_365 {st : List Value} {M : pj_Mem} {l : pj_Loc} {a0 a1 a2 : Option Value} {x : Int32} {o9 : Option Value × pj_Mem} : pj_Ends 123 (365, a0 :: a1 :: a2 :: some (.int x) :: l, st, M) o9 = pj_Ends 123 (366, a0 :: a1 :: a2 :: some (.int x) :: l, .int x :: st, M) o9 := pj_xs (s123_365)
theorem q123_366 : pj_row 123 366 = some (.iconst 2, 1, 0, 0, 0) := by decide +kernel
theorem s123_366 {L : pj_Loc} {st : List Value} {M : pj_Mem}  : pj_step 123 (366, L, st, M) = some (367, L, .int 2 :: st, M) := st_iconst q123_366 (by decide +kernel)
theorem x123_366 {L : pj_Loc} {st : List Value} {M : pj_Mem}  {o9 : Option Value × pj_Mem} : pj_Ends 123 (366, L, st, M) o9 = pj_Ends 123 (367, L, .int 2 :: st, M) o9 := pj_xs (s123_366)
theorem q123_367 : pj_row 123 367 = some (.iadd, 1, 0, 0, 0) := by decide +kernel
theorem s123_367 {L : pj_Loc} {st : List Value} {M : pj_Mem} {x y : Int32} : pj_step 123 (367, L, .int y :: .int x :: st, M) = some (368, L, .int (x + y) :: st, M) := st_iadd q123_367
theorem x123_367 {L : pj_Loc} {st : List Value} {M : pj_Mem} {x y : Int32} {o9 : Option Value × pj_Mem} : pj_Ends 123 (367, L, .int y :: .int x :: st, M) o9 = pj_Ends 123 (368, L, .int (x + y) :: st, M) o9 := pj_xs (s123_367)
theorem q123_368 : pj_row 123 368 = some (.iaload, 1, 0, 0, 0) := by decide +kernel
theorem s123_368 {L : pj_Loc} {st : List Value} {N S : Nat} {H : pj_Heap} {o : Nat} {i : Int32} : pj_step 123 (368, L, .int i :: .ref o :: st, (N, S, H)) = pj_pi 369 L st (N, S, H) (pj_arl (H o) 0 i) := st_iaload q123_368
theorem x123_368 {L : pj_Loc} {st : List Value} {N S : Nat} {H : pj_Heap} {o : Nat} {i : Int32} {o9 : Option Value × pj_Mem} : pj_Ends 123 (368, L, .int i :: .ref o :: st, (N, S, H)) o9 = pj_then 123 o9 (pj_pi 369 L st (N, S, H) (pj_arl (H o) 0 i)) := pj_xt q123_368 rfl (pj_cl_nc rfl) (s123_368)
theorem q123_369 : pj_row 123 369 = some (.invokevirtual 45, 3, 105, 3, 0) := by decide +kernel
theorem e123_369 {L : pj_Loc} {st : List Value} {N S : Nat} {H : pj_Heap} {o : Option Value × pj_Mem} {M' : pj_Mem} {x0 : Nat} {x1 : Int32} {x2 : Int32} {r : Int32} (h4 : pj_le4 st = true) (hu : pj_isU 6 (H x0) = true) (h1 : pj_Ends 105 (0, [some (.ref x0), some (.int x1), some (.int x2)], [], (N, S, H)) (some (.int r), M')) (h2 : pj_Ends 123 (372, L, .int r :: st, M') o) : pj_Ends 123 (369, L, .int x2 :: .int x1 :: .ref x0 :: st, (N, S, H)) o := ec_v3 q123_369 (Or.inl rfl) h4 hu rfl h1 h2
theorem q123_372 : pj_row 123 372 = some (.if_icmp .eq 373, 3, 745, 0, 0) := by decide +kernel
theorem s123_372 {L : pj_Loc} {st : List Value} {M : pj_Mem} {x y : Int32} : pj_step 123 (372, L, .int y :: .int x :: st, M) = some (if x = y then 745 else 375, L, st, M) := st_icmp_eq q123_372
theorem x123_372 {L : pj_Loc} {st : List Value} {M : pj_Mem} {x y : Int32} {o9 : Option Value × pj_Mem} : pj_Ends 123 (372, L, .int y :: .int x :: st, M) o9 = pj_Ends 123 (if x = y then 745 else 375, L, st, M) o9 := pj_xs (s123_372)
theorem q123_375 : pj_row 123 375 = some (.iconst 0, 1, 0, 0, 0) := by decide +kernel
theorem s123_375 {L : pj_Loc} {st : List Value} {M : pj_Mem}  : pj_step 123 (375, L, st, M) = some (376, L, .int 0 :: st, M) := st_iconst q123_375 (by decide +kernel)
theorem x123_375 {L : pj_Loc} {st : List Value} {M : pj_Mem}  {o9 : Option Value × pj_Mem} : pj_Ends 123 (375, L, st, M) o9 = pj_Ends 123 (376, L, .int 0 :: st, M) o9 := pj_xs (s123_375)
theorem q123_376 : pj_row 123 376 = some (.ireturn, 1, 0, 0, 0) := by decide +kernel
theorem t123_376 {L : pj_Loc} {M : pj_Mem} {v : Int32} (hv : v = 0 ∨ v = 1) : pj_Ends 123 (376, L, [.int v], M) (some (.int v), M) := pj_Ends.ret q123_376 (pj_rtn_z rt123 hv)
theorem q123_377 : pj_row 123 377 = some (.aload_n 1, 1, 0, 0, 0) := by decide +kernel
theorem s123_377 {st : List Value} {M : pj_Mem} {l : pj_Loc} {a0 : Option Value} {x : Nat} : pj_step 123 (377, a0 :: some (.ref x) :: l, st, M) = some (378, a0 :: some (.ref x) :: l, .ref x :: st, M) := st_aload_n q123_377 rfl
theorem x123_377 {st : List Value} {M : pj_Mem} {l : pj_Loc} {a0 : Option Value} {x : Nat} {o9 : Option Value × pj_Mem} : pj_Ends 123 (377, a0 :: some (.ref x) :: l, st, M) o9 = pj_Ends 123 (378, a0 :: some (.ref x) :: l, .ref x :: st, M) o9 := pj_xs (s123_377)
theorem q123_378 : pj_row 123 378 = some (.aload_n 0, 1, 0, 0, 0) := by decide +kernel
theorem s123_378 {st : List Value} {M : pj_Mem} {l : pj_Loc} {x : Nat} : pj_step 123 (378, some (.ref x) :: l, st, M) = some (379, some (.ref x) :: l, .ref x :: st, M) := st_aload_n q123_378 rfl
theorem x123_378 {st : List Value} {M : pj_Mem} {l : pj_Loc} {x : Nat} {o9 : Option Value × pj_Mem} : pj_Ends 123 (378, some (.ref x) :: l, st, M) o9 = pj_Ends 123 (379, some (.ref x) :: l, .ref x :: st, M) o9 := pj_xs (s123_378)
theorem q123_379 : pj_row 123 379 = some (.iload_n 3, 1, 0, 0, 0) := by decide +kernel
theorem s123_379 {st : List Value} {M : pj_Mem} {l : pj_Loc} {a0 a1 a2 : Option Value} {x : Int32} : pj_step 123 (379, a0 :: a1 :: a2 :: some (.int x) :: l, st, M) = some (380, a0 :: a1 :: a2 :: some (.int x) :: l, .int x :: st, M) := st_iload_n q123_379 rfl
theorem x123_379 {st : List Value} {M : pj_Mem} {l : pj_Loc} {a0 a1 a2 : Option Value} {x : Int32} {o9 : Option Value × pj_Mem} : pj_Ends 123 (379, a0 :: a1 :: a2 :: some (.int x) :: l, st, M) o9 = pj_Ends 123 (380, a0 :: a1 :: a2 :: some (.int x) :: l, .int x :: st, M) o9 := pj_xs (s123_379)
theorem q123_380 : pj_row 123 380 = some (.iconst 1, 1, 0, 0, 0) := by decide +kernel
theorem s123_380 {L : pj_Loc} {st : List Value} {M : pj_Mem}  : pj_step 123 (380, L, st, M) = some (381, L, .int 1 :: st, M) := st_iconst q123_380 (by decide +kernel)
theorem x123_380 {L : pj_Loc} {st : List Value} {M : pj_Mem}  {o9 : Option Value × pj_Mem} : pj_Ends 123 (380, L, st, M) o9 = pj_Ends 123 (381, L, .int 1 :: st, M) o9 := pj_xs (s123_380)
theorem q123_381 : pj_row 123 381 = some (.iadd, 1, 0, 0, 0) := by decide +kernel
theorem s123_381 {L : pj_Loc} {st : List Value} {M : pj_Mem} {x y : Int32} : pj_step 123 (381, L, .int y :: .int x :: st, M) = some (382, L, .int (x + y) :: st, M) := st_iadd q123_381
theorem x123_381 {L : pj_Loc} {st : List Value} {M : pj_Mem} {x y : Int32} {o9 : Option Value × pj_Mem} : pj_Ends 123 (381, L, .int y :: .int x :: st, M) o9 = pj_Ends 123 (382, L, .int (x + y) :: st, M) o9 := pj_xs (s123_381)
theorem q123_382 : pj_row 123 382 = some (.iaload, 1, 0, 0, 0) := by decide +kernel
theorem s123_382 {L : pj_Loc} {st : List Value} {N S : Nat} {H : pj_Heap} {o : Nat} {i : Int32} : pj_step 123 (382, L, .int i :: .ref o :: st, (N, S, H)) = pj_pi 383 L st (N, S, H) (pj_arl (H o) 0 i) := st_iaload q123_382
theorem x123_382 {L : pj_Loc} {st : List Value} {N S : Nat} {H : pj_Heap} {o : Nat} {i : Int32} {o9 : Option Value × pj_Mem} : pj_Ends 123 (382, L, .int i :: .ref o :: st, (N, S, H)) o9 = pj_then 123 o9 (pj_pi 383 L st (N, S, H) (pj_arl (H o) 0 i)) := pj_xt q123_382 rfl (pj_cl_nc rfl) (s123_382)
theorem q123_383 : pj_row 123 383 = some (.aload_n 0, 1, 0, 0, 0) := by decide +kernel
theorem s123_383 {st : List Value} {M : pj_Mem} {l : pj_Loc} {x : Nat} : pj_step 123 (383, some (.ref x) :: l, st, M) = some (384, some (.ref x) :: l, .ref x :: st, M) := st_aload_n q123_383 rfl
theorem x123_383 {st : List Value} {M : pj_Mem} {l : pj_Loc} {x : Nat} {o9 : Option Value × pj_Mem} : pj_Ends 123 (383, some (.ref x) :: l, st, M) o9 = pj_Ends 123 (384, some (.ref x) :: l, .ref x :: st, M) o9 := pj_xs (s123_383)
theorem q123_384 : pj_row 123 384 = some (.iload_n 3, 1, 0, 0, 0) := by decide +kernel
theorem s123_384 {st : List Value} {M : pj_Mem} {l : pj_Loc} {a0 a1 a2 : Option Value} {x : Int32} : pj_step 123 (384, a0 :: a1 :: a2 :: some (.int x) :: l, st, M) = some (385, a0 :: a1 :: a2 :: some (.int x) :: l, .int x :: st, M) := st_iload_n q123_384 rfl
theorem x123_384 {st : List Value} {M : pj_Mem} {l : pj_Loc} {a0 a1 a2 : Option Value} {x : Int32} {o9 : Option Value × pj_Mem} : pj_Ends 123 (384, a0 :: a1 :: a2 :: some (.int x) :: l, st, M) o9 = pj_Ends 123 (385, a0 :: a1 :: a2 :: some (.int x) :: l, .int x :: st, M) o9 := pj_xs (s123_384)
theorem q123_385 : pj_row 123 385 = some (.iconst 2, 1, 0, 0, 0) := by decide +kernel
theorem s123_385 {L : pj_Loc} {st : List Value} {M : pj_Mem}  : pj_step 123 (385, L, st, M) = some (386, L, .int 2 :: st, M) := st_iconst q123_385 (by decide +kernel)
theorem x123_385 {L : pj_Loc} {st : List Value} {M : pj_Mem}  {o9 : Option Value × pj_Mem} : pj_Ends 123 (385, L, st, M) o9 = pj_Ends 123 (386, L, .int 2 :: st, M) o9 := pj_xs (s123_385)
theorem q123_386 : pj_row 123 386 = some (.iadd, 1, 0, 0, 0) := by decide +kernel
theorem s123_386 {L : pj_Loc} {st : List Value} {M : pj_Mem} {x y : Int32} : pj_step 123 (386, L, .int y :: .int x :: st, M) = some (387, L, .int (x + y) :: st, M) := st_iadd q123_386
theorem x123_386 {L : pj_Loc} {st : List Value} {M : pj_Mem} {x y : Int32} {o9 : Option Value × pj_Mem} : pj_Ends 123 (386, L, .int y :: .int x :: st, M) o9 = pj_Ends 123 (387, L, .int (x + y) :: st, M) o9 := pj_xs (s123_386)
theorem q123_387 : pj_row 123 387 = some (.iaload, 1, 0, 0, 0) := by decide +kernel
theorem s123_387 {L : pj_Loc} {st : List Value} {N S : Nat} {H : pj_Heap} {o : Nat} {i : Int32} : pj_step 123 (387, L, .int i :: .ref o :: st, (N, S, H)) = pj_pi 388 L st (N, S, H) (pj_arl (H o) 0 i) := st_iaload q123_387
theorem x123_387 {L : pj_Loc} {st : List Value} {N S : Nat} {H : pj_Heap} {o : Nat} {i : Int32} {o9 : Option Value × pj_Mem} : pj_Ends 123 (387, L, .int i :: .ref o :: st, (N, S, H)) o9 = pj_then 123 o9 (pj_pi 388 L st (N, S, H) (pj_arl (H o) 0 i)) := pj_xt q123_387 rfl (pj_cl_nc rfl) (s123_387)
theorem q123_388 : pj_row 123 388 = some (.invokevirtual 46, 3, 46, 3, 0) := by decide +kernel
theorem e123_388 {L : pj_Loc} {st : List Value} {N S : Nat} {H : pj_Heap} {o : Option Value × pj_Mem} {M' : pj_Mem} {x0 : Nat} {x1 : Int32} {x2 : Int32} {r : Int32} (h4 : pj_le4 st = true) (hu : pj_isU 5 (H x0) = true) (h1 : pj_Ends 46 (0, [some (.ref x0), some (.int x1), some (.int x2)], [], (N, S, H)) (some (.int r), M')) (h2 : pj_Ends 123 (391, L, .int r :: st, M') o) : pj_Ends 123 (388, L, .int x2 :: .int x1 :: .ref x0 :: st, (N, S, H)) o := ec_v3 q123_388 (Or.inl rfl) h4 hu rfl h1 h2
theorem q123_391 : pj_row 123 391 = some (.aload_n 2, 1, 0, 0, 0) := by decide +kernel
theorem s123_391 {st : List Value} {M : pj_Mem} {l : pj_Loc} {a0 a1 : Option Value} {x : Nat} : pj_step 123 (391, a0 :: a1 :: some (.ref x) :: l, st, M) = some (392, a0 :: a1 :: some (.ref x) :: l, .ref x :: st, M) := st_aload_n q123_391 rfl
theorem x123_391 {st : List Value} {M : pj_Mem} {l : pj_Loc} {a0 a1 : Option Value} {x : Nat} {o9 : Option Value × pj_Mem} : pj_Ends 123 (391, a0 :: a1 :: some (.ref x) :: l, st, M) o9 = pj_Ends 123 (392, a0 :: a1 :: some (.ref x) :: l, .ref x :: st, M) o9 := pj_xs (s123_391)
theorem q123_392 : pj_row 123 392 = some (.aload_n 0, 1, 0, 0, 0) := by decide +kernel
theorem s123_392 {st : List Value} {M : pj_Mem} {l : pj_Loc} {x : Nat} : pj_step 123 (392, some (.ref x) :: l, st, M) = some (393, some (.ref x) :: l, .ref x :: st, M) := st_aload_n q123_392 rfl
theorem x123_392 {st : List Value} {M : pj_Mem} {l : pj_Loc} {x : Nat} {o9 : Option Value × pj_Mem} : pj_Ends 123 (392, some (.ref x) :: l, st, M) o9 = pj_Ends 123 (393, some (.ref x) :: l, .ref x :: st, M) o9 := pj_xs (s123_392)
theorem q123_393 : pj_row 123 393 = some (.iload_n 3, 1, 0, 0, 0) := by decide +kernel
theorem s123_393 {st : List Value} {M : pj_Mem} {l : pj_Loc} {a0 a1 a2 : Option Value} {x : Int32} : pj_step 123 (393, a0 :: a1 :: a2 :: some (.int x) :: l, st, M) = some (394, a0 :: a1 :: a2 :: some (.int x) :: l, .int x :: st, M) := st_iload_n q123_393 rfl
theorem x123_393 {st : List Value} {M : pj_Mem} {l : pj_Loc} {a0 a1 a2 : Option Value} {x : Int32} {o9 : Option Value × pj_Mem} : pj_Ends 123 (393, a0 :: a1 :: a2 :: some (.int x) :: l, st, M) o9 = pj_Ends 123 (394, a0 :: a1 :: a2 :: some (.int x) :: l, .int x :: st, M) o9 := pj_xs (s123_393)
theorem q123_394 : pj_row 123 394 = some (.iconst 1, 1, 0, 0, 0) := by decide +kernel
theorem s123_394 {L : pj_Loc} {st : List Value} {M : pj_Mem}  : pj_step 123 (394, L, st, M) = some (395, L, .int 1 :: st, M) := st_iconst q123_394 (by decide +kernel)
theorem x123_394 {L : pj_Loc} {st : List Value} {M : pj_Mem}  {o9 : Option Value × pj_Mem} : pj_Ends 123 (394, L, st, M) o9 = pj_Ends 123 (395, L, .int 1 :: st, M) o9 := pj_xs (s123_394)
theorem q123_395 : pj_row 123 395 = some (.iadd, 1, 0, 0, 0) := by decide +kernel
theorem s123_395 {L : pj_Loc} {st : List Value} {M : pj_Mem} {x y : Int32} : pj_step 123 (395, L, .int y :: .int x :: st, M) = some (396, L, .int (x + y) :: st, M) := st_iadd q123_395
theorem x123_395 {L : pj_Loc} {st : List Value} {M : pj_Mem} {x y : Int32} {o9 : Option Value × pj_Mem} : pj_Ends 123 (395, L, .int y :: .int x :: st, M) o9 = pj_Ends 123 (396, L, .int (x + y) :: st, M) o9 := pj_xs (s123_395)
theorem q123_396 : pj_row 123 396 = some (.iaload, 1, 0, 0, 0) := by decide +kernel
theorem s123_396 {L : pj_Loc} {st : List Value} {N S : Nat} {H : pj_Heap} {o : Nat} {i : Int32} : pj_step 123 (396, L, .int i :: .ref o :: st, (N, S, H)) = pj_pi 397 L st (N, S, H) (pj_arl (H o) 0 i) := st_iaload q123_396
theorem x123_396 {L : pj_Loc} {st : List Value} {N S : Nat} {H : pj_Heap} {o : Nat} {i : Int32} {o9 : Option Value × pj_Mem} : pj_Ends 123 (396, L, .int i :: .ref o :: st, (N, S, H)) o9 = pj_then 123 o9 (pj_pi 397 L st (N, S, H) (pj_arl (H o) 0 i)) := pj_xt q123_396 rfl (pj_cl_nc rfl) (s123_396)
theorem q123_397 : pj_row 123 397 = some (.aload_n 0, 1, 0, 0, 0) := by decide +kernel
theorem s123_397 {st : List Value} {M : pj_Mem} {l : pj_Loc} {x : Nat} : pj_step 123 (397, some (.ref x) :: l, st, M) = some (398, some (.ref x) :: l, .ref x :: st, M) := st_aload_n q123_397 rfl
theorem x123_397 {st : List Value} {M : pj_Mem} {l : pj_Loc} {x : Nat} {o9 : Option Value × pj_Mem} : pj_Ends 123 (397, some (.ref x) :: l, st, M) o9 = pj_Ends 123 (398, some (.ref x) :: l, .ref x :: st, M) o9 := pj_xs (s123_397)
theorem q123_398 : pj_row 123 398 = some (.iload_n 3, 1, 0, 0, 0) := by decide +kernel
theorem s123_398 {st : List Value} {M : pj_Mem} {l : pj_Loc} {a0 a1 a2 : Option Value} {x : Int32} : pj_step 123 (398, a0 :: a1 :: a2 :: some (.int x) :: l, st, M) = some (399, a0 :: a1 :: a2 :: some (.int x) :: l, .int x :: st, M) := st_iload_n q123_398 rfl
theorem x123_398 {st : List Value} {M : pj_Mem} {l : pj_Loc} {a0 a1 a2 : Option Value} {x : Int32} {o9 : Option Value × pj_Mem} : pj_Ends 123 (398, a0 :: a1 :: a2 :: some (.int x) :: l, st, M) o9 = pj_Ends 123 (399, a0 :: a1 :: a2 :: some (.int x) :: l, .int x :: st, M) o9 := pj_xs (s123_398)
theorem q123_399 : pj_row 123 399 = some (.iconst 2, 1, 0, 0, 0) := by decide +kernel
theorem s123_399 {L : pj_Loc} {st : List Value} {M : pj_Mem}  : pj_step 123 (399, L, st, M) = some (400, L, .int 2 :: st, M) := st_iconst q123_399 (by decide +kernel)
theorem x123_399 {L : pj_Loc} {st : List Value} {M : pj_Mem}  {o9 : Option Value × pj_Mem} : pj_Ends 123 (399, L, st, M) o9 = pj_Ends 123 (400, L, .int 2 :: st, M) o9 := pj_xs (s123_399)
theorem q123_400 : pj_row 123 400 = some (.iadd, 1, 0, 0, 0) := by decide +kernel
theorem s123_400 {L : pj_Loc} {st : List Value} {M : pj_Mem} {x y : Int32} : pj_step 123 (400, L, .int y :: .int x :: st, M) = some (401, L, .int (x + y) :: st, M) := st_iadd q123_400
theorem x123_400 {L : pj_Loc} {st : List Value} {M : pj_Mem} {x y : Int32} {o9 : Option Value × pj_Mem} : pj_Ends 123 (400, L, .int y :: .int x :: st, M) o9 = pj_Ends 123 (401, L, .int (x + y) :: st, M) o9 := pj_xs (s123_400)
theorem q123_401 : pj_row 123 401 = some (.iaload, 1, 0, 0, 0) := by decide +kernel
theorem s123_401 {L : pj_Loc} {st : List Value} {N S : Nat} {H : pj_Heap} {o : Nat} {i : Int32} : pj_step 123 (401, L, .int i :: .ref o :: st, (N, S, H)) = pj_pi 402 L st (N, S, H) (pj_arl (H o) 0 i) := st_iaload q123_401
theorem x123_401 {L : pj_Loc} {st : List Value} {N S : Nat} {H : pj_Heap} {o : Nat} {i : Int32} {o9 : Option Value × pj_Mem} : pj_Ends 123 (401, L, .int i :: .ref o :: st, (N, S, H)) o9 = pj_then 123 o9 (pj_pi 402 L st (N, S, H) (pj_arl (H o) 0 i)) := pj_xt q123_401 rfl (pj_cl_nc rfl) (s123_401)
theorem q123_402 : pj_row 123 402 = some (.invokevirtual 49, 3, 106, 3, 0) := by decide +kernel
theorem e123_402 {L : pj_Loc} {st : List Value} {N S : Nat} {H : pj_Heap} {o : Option Value × pj_Mem} {M' : pj_Mem} {x0 : Nat} {x1 : Int32} {x2 : Int32} {r : Int32} (h4 : pj_le4 st = true) (hu : pj_isU 6 (H x0) = true) (h1 : pj_Ends 106 (0, [some (.ref x0), some (.int x1), some (.int x2)], [], (N, S, H)) (some (.int r), M')) (h2 : pj_Ends 123 (405, L, .int r :: st, M') o) : pj_Ends 123 (402, L, .int x2 :: .int x1 :: .ref x0 :: st, (N, S, H)) o := ec_v3 q123_402 (Or.inl rfl) h4 hu rfl h1 h2
theorem q123_405 : pj_row 123 405 = some (.if_icmp .eq 340, 3, 745, 0, 0) := by decide +kernel
theorem s123_405 {L : pj_Loc} {st : List Value} {M : pj_Mem} {x y : Int32} : pj_step 123 (405, L, .int y :: .int x :: st, M) = some (if x = y then 745 else 408, L, st, M) := st_icmp_eq q123_405
theorem x123_405 {L : pj_Loc} {st : List Value} {M : pj_Mem} {x y : Int32} {o9 : Option Value × pj_Mem} : pj_Ends 123 (405, L, .int y :: .int x :: st, M) o9 = pj_Ends 123 (if x = y then 745 else 408, L, st, M) o9 := pj_xs (s123_405)
theorem q123_408 : pj_row 123 408 = some (.iconst 0, 1, 0, 0, 0) := by decide +kernel
theorem s123_408 {L : pj_Loc} {st : List Value} {M : pj_Mem}  : pj_step 123 (408, L, st, M) = some (409, L, .int 0 :: st, M) := st_iconst q123_408 (by decide +kernel)
theorem x123_408 {L : pj_Loc} {st : List Value} {M : pj_Mem}  {o9 : Option Value × pj_Mem} : pj_Ends 123 (408, L, st, M) o9 = pj_Ends 123 (409, L, .int 0 :: st, M) o9 := pj_xs (s123_408)
theorem q123_409 : pj_row 123 409 = some (.ireturn, 1, 0, 0, 0) := by decide +kernel
theorem t123_409 {L : pj_Loc} {M : pj_Mem} {v : Int32} (hv : v = 0 ∨ v = 1) : pj_Ends 123 (409, L, [.int v], M) (some (.int v), M) := pj_Ends.ret q123_409 (pj_rtn_z rt123 hv)
theorem q123_410 : pj_row 123 410 = some (.aload_n 1, 1, 0, 0, 0) := by decide +kernel
theorem s123_410 {st : List Value} {M : pj_Mem} {l : pj_Loc} {a0 : Option Value} {x : Nat} : pj_step 123 (410, a0 :: some (.ref x) :: l, st, M) = some (411, a0 :: some (.ref x) :: l, .ref x :: st, M) := st_aload_n q123_410 rfl
theorem x123_410 {st : List Value} {M : pj_Mem} {l : pj_Loc} {a0 : Option Value} {x : Nat} {o9 : Option Value × pj_Mem} : pj_Ends 123 (410, a0 :: some (.ref x) :: l, st, M) o9 = pj_Ends 123 (411, a0 :: some (.ref x) :: l, .ref x :: st, M) o9 := pj_xs (s123_410)
theorem q123_411 : pj_row 123 411 = some (.aload_n 0, 1, 0, 0, 0) := by decide +kernel
theorem s123_411 {st : List Value} {M : pj_Mem} {l : pj_Loc} {x : Nat} : pj_step 123 (411, some (.ref x) :: l, st, M) = some (412, some (.ref x) :: l, .ref x :: st, M) := st_aload_n q123_411 rfl
theorem x123_411 {st : List Value} {M : pj_Mem} {l : pj_Loc} {x : Nat} {o9 : Option Value × pj_Mem} : pj_Ends 123 (411, some (.ref x) :: l, st, M) o9 = pj_Ends 123 (412, some (.ref x) :: l, .ref x :: st, M) o9 := pj_xs (s123_411)
theorem q123_412 : pj_row 123 412 = some (.iload_n 3, 1, 0, 0, 0) := by decide +kernel
theorem s123_412 {st : List Value} {M : pj_Mem} {l : pj_Loc} {a0 a1 a2 : Option Value} {x : Int32} : pj_step 123 (412, a0 :: a1 :: a2 :: some (.int x) :: l, st, M) = some (413, a0 :: a1 :: a2 :: some (.int x) :: l, .int x :: st, M) := st_iload_n q123_412 rfl
theorem x123_412 {st : List Value} {M : pj_Mem} {l : pj_Loc} {a0 a1 a2 : Option Value} {x : Int32} {o9 : Option Value × pj_Mem} : pj_Ends 123 (412, a0 :: a1 :: a2 :: some (.int x) :: l, st, M) o9 = pj_Ends 123 (413, a0 :: a1 :: a2 :: some (.int x) :: l, .int x :: st, M) o9 := pj_xs (s123_412)
theorem q123_413 : pj_row 123 413 = some (.iconst 1, 1, 0, 0, 0) := by decide +kernel
theorem s123_413 {L : pj_Loc} {st : List Value} {M : pj_Mem}  : pj_step 123 (413, L, st, M) = some (414, L, .int 1 :: st, M) := st_iconst q123_413 (by decide +kernel)
theorem x123_413 {L : pj_Loc} {st : List Value} {M : pj_Mem}  {o9 : Option Value × pj_Mem} : pj_Ends 123 (413, L, st, M) o9 = pj_Ends 123 (414, L, .int 1 :: st, M) o9 := pj_xs (s123_413)
theorem q123_414 : pj_row 123 414 = some (.iadd, 1, 0, 0, 0) := by decide +kernel
theorem s123_414 {L : pj_Loc} {st : List Value} {M : pj_Mem} {x y : Int32} : pj_step 123 (414, L, .int y :: .int x :: st, M) = some (415, L, .int (x + y) :: st, M) := st_iadd q123_414
theorem x123_414 {L : pj_Loc} {st : List Value} {M : pj_Mem} {x y : Int32} {o9 : Option Value × pj_Mem} : pj_Ends 123 (414, L, .int y :: .int x :: st, M) o9 = pj_Ends 123 (415, L, .int (x + y) :: st, M) o9 := pj_xs (s123_414)
theorem q123_415 : pj_row 123 415 = some (.iaload, 1, 0, 0, 0) := by decide +kernel
theorem s123_415 {L : pj_Loc} {st : List Value} {N S : Nat} {H : pj_Heap} {o : Nat} {i : Int32} : pj_step 123 (415, L, .int i :: .ref o :: st, (N, S, H)) = pj_pi 416 L st (N, S, H) (pj_arl (H o) 0 i) := st_iaload q123_415
theorem x123_415 {L : pj_Loc} {st : List Value} {N S : Nat} {H : pj_Heap} {o : Nat} {i : Int32} {o9 : Option Value × pj_Mem} : pj_Ends 123 (415, L, .int i :: .ref o :: st, (N, S, H)) o9 = pj_then 123 o9 (pj_pi 416 L st (N, S, H) (pj_arl (H o) 0 i)) := pj_xt q123_415 rfl (pj_cl_nc rfl) (s123_415)
theorem q123_416 : pj_row 123 416 = some (.invokevirtual 50, 3, 47, 2, 0) := by decide +kernel
theorem e123_416 {L : pj_Loc} {st : List Value} {N S : Nat} {H : pj_Heap} {o : Option Value × pj_Mem} {M' : pj_Mem} {x0 : Nat} {x1 : Int32} {r : Int32} (h4 : pj_le4 st = true) (hu : pj_isU 5 (H x0) = true) (h1 : pj_Ends 47 (0, [some (.ref x0), some (.int x1)], [], (N, S, H)) (some (.int r), M')) (h2 : pj_Ends 123 (419, L, .int r :: st, M') o) : pj_Ends 123 (416, L, .int x1 :: .ref x0 :: st, (N, S, H)) o := ec_v2 q123_416 (Or.inl rfl) h4 hu rfl h1 h2
theorem q123_419 : pj_row 123 419 = some (.aload_n 2, 1, 0, 0, 0) := by decide +kernel
theorem s123_419 {st : List Value} {M : pj_Mem} {l : pj_Loc} {a0 a1 : Option Value} {x : Nat} : pj_step 123 (419, a0 :: a1 :: some (.ref x) :: l, st, M) = some (420, a0 :: a1 :: some (.ref x) :: l, .ref x :: st, M) := st_aload_n q123_419 rfl
theorem x123_419 {st : List Value} {M : pj_Mem} {l : pj_Loc} {a0 a1 : Option Value} {x : Nat} {o9 : Option Value × pj_Mem} : pj_Ends 123 (419, a0 :: a1 :: some (.ref x) :: l, st, M) o9 = pj_Ends 123 (420, a0 :: a1 :: some (.ref x) :: l, .ref x :: st, M) o9 := pj_xs (s123_419)
theorem q123_420 : pj_row 123 420 = some (.aload_n 0, 1, 0, 0, 0) := by decide +kernel
theorem s123_420 {st : List Value} {M : pj_Mem} {l : pj_Loc} {x : Nat} : pj_step 123 (420, some (.ref x) :: l, st, M) = some (421, some (.ref x) :: l, .ref x :: st, M) := st_aload_n q123_420 rfl
theorem x123_420 {st : List Value} {M : pj_Mem} {l : pj_Loc} {x : Nat} {o9 : Option Value × pj_Mem} : pj_Ends 123 (420, some (.ref x) :: l, st, M) o9 = pj_Ends 123 (421, some (.ref x) :: l, .ref x :: st, M) o9 := pj_xs (s123_420)
theorem q123_421 : pj_row 123 421 = some (.iload_n 3, 1, 0, 0, 0) := by decide +kernel
theorem s123_421 {st : List Value} {M : pj_Mem} {l : pj_Loc} {a0 a1 a2 : Option Value} {x : Int32} : pj_step 123 (421, a0 :: a1 :: a2 :: some (.int x) :: l, st, M) = some (422, a0 :: a1 :: a2 :: some (.int x) :: l, .int x :: st, M) := st_iload_n q123_421 rfl
theorem x123_421 {st : List Value} {M : pj_Mem} {l : pj_Loc} {a0 a1 a2 : Option Value} {x : Int32} {o9 : Option Value × pj_Mem} : pj_Ends 123 (421, a0 :: a1 :: a2 :: some (.int x) :: l, st, M) o9 = pj_Ends 123 (422, a0 :: a1 :: a2 :: some (.int x) :: l, .int x :: st, M) o9 := pj_xs (s123_421)
theorem q123_422 : pj_row 123 422 = some (.iconst 1, 1, 0, 0, 0) := by decide +kernel
theorem s123_422 {L : pj_Loc} {st : List Value} {M : pj_Mem}  : pj_step 123 (422, L, st, M) = some (423, L, .int 1 :: st, M) := st_iconst q123_422 (by decide +kernel)
theorem x123_422 {L : pj_Loc} {st : List Value} {M : pj_Mem}  {o9 : Option Value × pj_Mem} : pj_Ends 123 (422, L, st, M) o9 = pj_Ends 123 (423, L, .int 1 :: st, M) o9 := pj_xs (s123_422)
theorem q123_423 : pj_row 123 423 = some (.iadd, 1, 0, 0, 0) := by decide +kernel
theorem s123_423 {L : pj_Loc} {st : List Value} {M : pj_Mem} {x y : Int32} : pj_step 123 (423, L, .int y :: .int x :: st, M) = some (424, L, .int (x + y) :: st, M) := st_iadd q123_423
theorem x123_423 {L : pj_Loc} {st : List Value} {M : pj_Mem} {x y : Int32} {o9 : Option Value × pj_Mem} : pj_Ends 123 (423, L, .int y :: .int x :: st, M) o9 = pj_Ends 123 (424, L, .int (x + y) :: st, M) o9 := pj_xs (s123_423)
theorem q123_424 : pj_row 123 424 = some (.iaload, 1, 0, 0, 0) := by decide +kernel
theorem s123_424 {L : pj_Loc} {st : List Value} {N S : Nat} {H : pj_Heap} {o : Nat} {i : Int32} : pj_step 123 (424, L, .int i :: .ref o :: st, (N, S, H)) = pj_pi 425 L st (N, S, H) (pj_arl (H o) 0 i) := st_iaload q123_424
theorem x123_424 {L : pj_Loc} {st : List Value} {N S : Nat} {H : pj_Heap} {o : Nat} {i : Int32} {o9 : Option Value × pj_Mem} : pj_Ends 123 (424, L, .int i :: .ref o :: st, (N, S, H)) o9 = pj_then 123 o9 (pj_pi 425 L st (N, S, H) (pj_arl (H o) 0 i)) := pj_xt q123_424 rfl (pj_cl_nc rfl) (s123_424)
theorem q123_425 : pj_row 123 425 = some (.invokevirtual 53, 3, 107, 2, 0) := by decide +kernel
theorem e123_425 {L : pj_Loc} {st : List Value} {N S : Nat} {H : pj_Heap} {o : Option Value × pj_Mem} {M' : pj_Mem} {x0 : Nat} {x1 : Int32} {r : Int32} (h4 : pj_le4 st = true) (hu : pj_isU 6 (H x0) = true) (h1 : pj_Ends 107 (0, [some (.ref x0), some (.int x1)], [], (N, S, H)) (some (.int r), M')) (h2 : pj_Ends 123 (428, L, .int r :: st, M') o) : pj_Ends 123 (425, L, .int x1 :: .ref x0 :: st, (N, S, H)) o := ec_v2 q123_425 (Or.inl rfl) h4 hu rfl h1 h2
theorem q123_428 : pj_row 123 428 = some (.if_icmp .eq 317, 3, 745, 0, 0) := by decide +kernel
theorem s123_428 {L : pj_Loc} {st : List Value} {M : pj_Mem} {x y : Int32} : pj_step 123 (428, L, .int y :: .int x :: st, M) = some (if x = y then 745 else 431, L, st, M) := st_icmp_eq q123_428
theorem x123_428 {L : pj_Loc} {st : List Value} {M : pj_Mem} {x y : Int32} {o9 : Option Value × pj_Mem} : pj_Ends 123 (428, L, .int y :: .int x :: st, M) o9 = pj_Ends 123 (if x = y then 745 else 431, L, st, M) o9 := pj_xs (s123_428)
theorem q123_431 : pj_row 123 431 = some (.iconst 0, 1, 0, 0, 0) := by decide +kernel
theorem s123_431 {L : pj_Loc} {st : List Value} {M : pj_Mem}  : pj_step 123 (431, L, st, M) = some (432, L, .int 0 :: st, M) := st_iconst q123_431 (by decide +kernel)
theorem x123_431 {L : pj_Loc} {st : List Value} {M : pj_Mem}  {o9 : Option Value × pj_Mem} : pj_Ends 123 (431, L, st, M) o9 = pj_Ends 123 (432, L, .int 0 :: st, M) o9 := pj_xs (s123_431)
theorem q123_432 : pj_row 123 432 = some (.ireturn, 1, 0, 0, 0) := by decide +kernel
theorem t123_432 {L : pj_Loc} {M : pj_Mem} {v : Int32} (hv : v = 0 ∨ v = 1) : pj_Ends 123 (432, L, [.int v], M) (some (.int v), M) := pj_Ends.ret q123_432 (pj_rtn_z rt123 hv)
theorem q123_433 : pj_row 123 433 = some (.aload_n 1, 1, 0, 0, 0) := by decide +kernel
theorem s123_433 {st : List Value} {M : pj_Mem} {l : pj_Loc} {a0 : Option Value} {x : Nat} : pj_step 123 (433, a0 :: some (.ref x) :: l, st, M) = some (434, a0 :: some (.ref x) :: l, .ref x :: st, M) := st_aload_n q123_433 rfl
theorem x123_433 {st : List Value} {M : pj_Mem} {l : pj_Loc} {a0 : Option Value} {x : Nat} {o9 : Option Value × pj_Mem} : pj_Ends 123 (433, a0 :: some (.ref x) :: l, st, M) o9 = pj_Ends 123 (434, a0 :: some (.ref x) :: l, .ref x :: st, M) o9 := pj_xs (s123_433)
theorem q123_434 : pj_row 123 434 = some (.aload_n 0, 1, 0, 0, 0) := by decide +kernel
theorem s123_434 {st : List Value} {M : pj_Mem} {l : pj_Loc} {x : Nat} : pj_step 123 (434, some (.ref x) :: l, st, M) = some (435, some (.ref x) :: l, .ref x :: st, M) := st_aload_n q123_434 rfl
theorem x123_434 {st : List Value} {M : pj_Mem} {l : pj_Loc} {x : Nat} {o9 : Option Value × pj_Mem} : pj_Ends 123 (434, some (.ref x) :: l, st, M) o9 = pj_Ends 123 (435, some (.ref x) :: l, .ref x :: st, M) o9 := pj_xs (s123_434)
theorem q123_435 : pj_row 123 435 = some (.iload_n 3, 1, 0, 0, 0) := by decide +kernel
theorem s123_435 {st : List Value} {M : pj_Mem} {l : pj_Loc} {a0 a1 a2 : Option Value} {x : Int32} : pj_step 123 (435, a0 :: a1 :: a2 :: some (.int x) :: l, st, M) = some (436, a0 :: a1 :: a2 :: some (.int x) :: l, .int x :: st, M) := st_iload_n q123_435 rfl
theorem x123_435 {st : List Value} {M : pj_Mem} {l : pj_Loc} {a0 a1 a2 : Option Value} {x : Int32} {o9 : Option Value × pj_Mem} : pj_Ends 123 (435, a0 :: a1 :: a2 :: some (.int x) :: l, st, M) o9 = pj_Ends 123 (436, a0 :: a1 :: a2 :: some (.int x) :: l, .int x :: st, M) o9 := pj_xs (s123_435)
theorem q123_436 : pj_row 123 436 = some (.iconst 1, 1, 0, 0, 0) := by decide +kernel
theorem s123_436 {L : pj_Loc} {st : List Value} {M : pj_Mem}  : pj_step 123 (436, L, st, M) = some (437, L, .int 1 :: st, M) := st_iconst q123_436 (by decide +kernel)
theorem x123_436 {L : pj_Loc} {st : List Value} {M : pj_Mem}  {o9 : Option Value × pj_Mem} : pj_Ends 123 (436, L, st, M) o9 = pj_Ends 123 (437, L, .int 1 :: st, M) o9 := pj_xs (s123_436)
theorem q123_437 : pj_row 123 437 = some (.iadd, 1, 0, 0, 0) := by decide +kernel
theorem s123_437 {L : pj_Loc} {st : List Value} {M : pj_Mem} {x y : Int32} : pj_step 123 (437, L, .int y :: .int x :: st, M) = some (438, L, .int (x + y) :: st, M) := st_iadd q123_437
theorem x123_437 {L : pj_Loc} {st : List Value} {M : pj_Mem} {x y : Int32} {o9 : Option Value × pj_Mem} : pj_Ends 123 (437, L, .int y :: .int x :: st, M) o9 = pj_Ends 123 (438, L, .int (x + y) :: st, M) o9 := pj_xs (s123_437)
theorem q123_438 : pj_row 123 438 = some (.iaload, 1, 0, 0, 0) := by decide +kernel
theorem s123_438 {L : pj_Loc} {st : List Value} {N S : Nat} {H : pj_Heap} {o : Nat} {i : Int32} : pj_step 123 (438, L, .int i :: .ref o :: st, (N, S, H)) = pj_pi 439 L st (N, S, H) (pj_arl (H o) 0 i) := st_iaload q123_438
theorem x123_438 {L : pj_Loc} {st : List Value} {N S : Nat} {H : pj_Heap} {o : Nat} {i : Int32} {o9 : Option Value × pj_Mem} : pj_Ends 123 (438, L, .int i :: .ref o :: st, (N, S, H)) o9 = pj_then 123 o9 (pj_pi 439 L st (N, S, H) (pj_arl (H o) 0 i)) := pj_xt q123_438 rfl (pj_cl_nc rfl) (s123_438)
theorem q123_439 : pj_row 123 439 = some (.aload_n 0, 1, 0, 0, 0) := by decide +kernel
theorem s123_439 {st : List Value} {M : pj_Mem} {l : pj_Loc} {x : Nat} : pj_step 123 (439, some (.ref x) :: l, st, M) = some (440, some (.ref x) :: l, .ref x :: st, M) := st_aload_n q123_439 rfl
theorem x123_439 {st : List Value} {M : pj_Mem} {l : pj_Loc} {x : Nat} {o9 : Option Value × pj_Mem} : pj_Ends 123 (439, some (.ref x) :: l, st, M) o9 = pj_Ends 123 (440, some (.ref x) :: l, .ref x :: st, M) o9 := pj_xs (s123_439)
theorem q123_440 : pj_row 123 440 = some (.iload_n 3, 1, 0, 0, 0) := by decide +kernel
theorem s123_440 {st : List Value} {M : pj_Mem} {l : pj_Loc} {a0 a1 a2 : Option Value} {x : Int32} : pj_step 123 (440, a0 :: a1 :: a2 :: some (.int x) :: l, st, M) = some (441, a0 :: a1 :: a2 :: some (.int x) :: l, .int x :: st, M) := st_iload_n q123_440 rfl
theorem x123_440 {st : List Value} {M : pj_Mem} {l : pj_Loc} {a0 a1 a2 : Option Value} {x : Int32} {o9 : Option Value × pj_Mem} : pj_Ends 123 (440, a0 :: a1 :: a2 :: some (.int x) :: l, st, M) o9 = pj_Ends 123 (441, a0 :: a1 :: a2 :: some (.int x) :: l, .int x :: st, M) o9 := pj_xs (s123_440)
theorem q123_441 : pj_row 123 441 = some (.iconst 2, 1, 0, 0, 0) := by decide +kernel
theorem s123_441 {L : pj_Loc} {st : List Value} {M : pj_Mem}  : pj_step 123 (441, L, st, M) = some (442, L, .int 2 :: st, M) := st_iconst q123_441 (by decide +kernel)
theorem x123_441 {L : pj_Loc} {st : List Value} {M : pj_Mem}  {o9 : Option Value × pj_Mem} : pj_Ends 123 (441, L, st, M) o9 = pj_Ends 123 (442, L, .int 2 :: st, M) o9 := pj_xs (s123_441)
theorem q123_442 : pj_row 123 442 = some (.iadd, 1, 0, 0, 0) := by decide +kernel
theorem s123_442 {L : pj_Loc} {st : List Value} {M : pj_Mem} {x y : Int32} : pj_step 123 (442, L, .int y :: .int x :: st, M) = some (443, L, .int (x + y) :: st, M) := st_iadd q123_442
theorem x123_442 {L : pj_Loc} {st : List Value} {M : pj_Mem} {x y : Int32} {o9 : Option Value × pj_Mem} : pj_Ends 123 (442, L, .int y :: .int x :: st, M) o9 = pj_Ends 123 (443, L, .int (x + y) :: st, M) o9 := pj_xs (s123_442)
theorem q123_443 : pj_row 123 443 = some (.iaload, 1, 0, 0, 0) := by decide +kernel
theorem s123_443 {L : pj_Loc} {st : List Value} {N S : Nat} {H : pj_Heap} {o : Nat} {i : Int32} : pj_step 123 (443, L, .int i :: .ref o :: st, (N, S, H)) = pj_pi 444 L st (N, S, H) (pj_arl (H o) 0 i) := st_iaload q123_443
theorem x123_443 {L : pj_Loc} {st : List Value} {N S : Nat} {H : pj_Heap} {o : Nat} {i : Int32} {o9 : Option Value × pj_Mem} : pj_Ends 123 (443, L, .int i :: .ref o :: st, (N, S, H)) o9 = pj_then 123 o9 (pj_pi 444 L st (N, S, H) (pj_arl (H o) 0 i)) := pj_xt q123_443 rfl (pj_cl_nc rfl) (s123_443)
theorem q123_444 : pj_row 123 444 = some (.aload_n 0, 1, 0, 0, 0) := by decide +kernel
theorem s123_444 {st : List Value} {M : pj_Mem} {l : pj_Loc} {x : Nat} : pj_step 123 (444, some (.ref x) :: l, st, M) = some (445, some (.ref x) :: l, .ref x :: st, M) := st_aload_n q123_444 rfl
theorem x123_444 {st : List Value} {M : pj_Mem} {l : pj_Loc} {x : Nat} {o9 : Option Value × pj_Mem} : pj_Ends 123 (444, some (.ref x) :: l, st, M) o9 = pj_Ends 123 (445, some (.ref x) :: l, .ref x :: st, M) o9 := pj_xs (s123_444)
theorem q123_445 : pj_row 123 445 = some (.iload_n 3, 1, 0, 0, 0) := by decide +kernel
theorem s123_445 {st : List Value} {M : pj_Mem} {l : pj_Loc} {a0 a1 a2 : Option Value} {x : Int32} : pj_step 123 (445, a0 :: a1 :: a2 :: some (.int x) :: l, st, M) = some (446, a0 :: a1 :: a2 :: some (.int x) :: l, .int x :: st, M) := st_iload_n q123_445 rfl
theorem x123_445 {st : List Value} {M : pj_Mem} {l : pj_Loc} {a0 a1 a2 : Option Value} {x : Int32} {o9 : Option Value × pj_Mem} : pj_Ends 123 (445, a0 :: a1 :: a2 :: some (.int x) :: l, st, M) o9 = pj_Ends 123 (446, a0 :: a1 :: a2 :: some (.int x) :: l, .int x :: st, M) o9 := pj_xs (s123_445)
theorem q123_446 : pj_row 123 446 = some (.iconst 3, 1, 0, 0, 0) := by decide +kernel
theorem s123_446 {L : pj_Loc} {st : List Value} {M : pj_Mem}  : pj_step 123 (446, L, st, M) = some (447, L, .int 3 :: st, M) := st_iconst q123_446 (by decide +kernel)
theorem x123_446 {L : pj_Loc} {st : List Value} {M : pj_Mem}  {o9 : Option Value × pj_Mem} : pj_Ends 123 (446, L, st, M) o9 = pj_Ends 123 (447, L, .int 3 :: st, M) o9 := pj_xs (s123_446)
theorem q123_447 : pj_row 123 447 = some (.iadd, 1, 0, 0, 0) := by decide +kernel
theorem s123_447 {L : pj_Loc} {st : List Value} {M : pj_Mem} {x y : Int32} : pj_step 123 (447, L, .int y :: .int x :: st, M) = some (448, L, .int (x + y) :: st, M) := st_iadd q123_447
theorem x123_447 {L : pj_Loc} {st : List Value} {M : pj_Mem} {x y : Int32} {o9 : Option Value × pj_Mem} : pj_Ends 123 (447, L, .int y :: .int x :: st, M) o9 = pj_Ends 123 (448, L, .int (x + y) :: st, M) o9 := pj_xs (s123_447)
theorem q123_448 : pj_row 123 448 = some (.iaload, 1, 0, 0, 0) := by decide +kernel
theorem s123_448 {L : pj_Loc} {st : List Value} {N S : Nat} {H : pj_Heap} {o : Nat} {i : Int32} : pj_step 123 (448, L, .int i :: .ref o :: st, (N, S, H)) = pj_pi 449 L st (N, S, H) (pj_arl (H o) 0 i) := st_iaload q123_448
theorem x123_448 {L : pj_Loc} {st : List Value} {N S : Nat} {H : pj_Heap} {o : Nat} {i : Int32} {o9 : Option Value × pj_Mem} : pj_Ends 123 (448, L, .int i :: .ref o :: st, (N, S, H)) o9 = pj_then 123 o9 (pj_pi 449 L st (N, S, H) (pj_arl (H o) 0 i)) := pj_xt q123_448 rfl (pj_cl_nc rfl) (s123_448)
theorem q123_449 : pj_row 123 449 = some (.aload_n 0, 1, 0, 0, 0) := by decide +kernel
theorem s123_449 {st : List Value} {M : pj_Mem} {l : pj_Loc} {x : Nat} : pj_step 123 (449, some (.ref x) :: l, st, M) = some (450, some (.ref x) :: l, .ref x :: st, M) := st_aload_n q123_449 rfl
theorem x123_449 {st : List Value} {M : pj_Mem} {l : pj_Loc} {x : Nat} {o9 : Option Value × pj_Mem} : pj_Ends 123 (449, some (.ref x) :: l, st, M) o9 = pj_Ends 123 (450, some (.ref x) :: l, .ref x :: st, M) o9 := pj_xs (s123_449)
theorem q123_450 : pj_row 123 450 = some (.iload_n 3, 1, 0, 0, 0) := by decide +kernel
theorem s123_450 {st : List Value} {M : pj_Mem} {l : pj_Loc} {a0 a1 a2 : Option Value} {x : Int32} : pj_step 123 (450, a0 :: a1 :: a2 :: some (.int x) :: l, st, M) = some (451, a0 :: a1 :: a2 :: some (.int x) :: l, .int x :: st, M) := st_iload_n q123_450 rfl
theorem x123_450 {st : List Value} {M : pj_Mem} {l : pj_Loc} {a0 a1 a2 : Option Value} {x : Int32} {o9 : Option Value × pj_Mem} : pj_Ends 123 (450, a0 :: a1 :: a2 :: some (.int x) :: l, st, M) o9 = pj_Ends 123 (451, a0 :: a1 :: a2 :: some (.int x) :: l, .int x :: st, M) o9 := pj_xs (s123_450)
theorem q123_451 : pj_row 123 451 = some (.iconst 4, 1, 0, 0, 0) := by decide +kernel
theorem s123_451 {L : pj_Loc} {st : List Value} {M : pj_Mem}  : pj_step 123 (451, L, st, M) = some (452, L, .int 4 :: st, M) := st_iconst q123_451 (by decide +kernel)
theorem x123_451 {L : pj_Loc} {st : List Value} {M : pj_Mem}  {o9 : Option Value × pj_Mem} : pj_Ends 123 (451, L, st, M) o9 = pj_Ends 123 (452, L, .int 4 :: st, M) o9 := pj_xs (s123_451)
theorem q123_452 : pj_row 123 452 = some (.iadd, 1, 0, 0, 0) := by decide +kernel
theorem s123_452 {L : pj_Loc} {st : List Value} {M : pj_Mem} {x y : Int32} : pj_step 123 (452, L, .int y :: .int x :: st, M) = some (453, L, .int (x + y) :: st, M) := st_iadd q123_452
theorem x123_452 {L : pj_Loc} {st : List Value} {M : pj_Mem} {x y : Int32} {o9 : Option Value × pj_Mem} : pj_Ends 123 (452, L, .int y :: .int x :: st, M) o9 = pj_Ends 123 (453, L, .int (x + y) :: st, M) o9 := pj_xs (s123_452)
theorem q123_453 : pj_row 123 453 = some (.iaload, 1, 0, 0, 0) := by decide +kernel
theorem s123_453 {L : pj_Loc} {st : List Value} {N S : Nat} {H : pj_Heap} {o : Nat} {i : Int32} : pj_step 123 (453, L, .int i :: .ref o :: st, (N, S, H)) = pj_pi 454 L st (N, S, H) (pj_arl (H o) 0 i) := st_iaload q123_453
theorem x123_453 {L : pj_Loc} {st : List Value} {N S : Nat} {H : pj_Heap} {o : Nat} {i : Int32} {o9 : Option Value × pj_Mem} : pj_Ends 123 (453, L, .int i :: .ref o :: st, (N, S, H)) o9 = pj_then 123 o9 (pj_pi 454 L st (N, S, H) (pj_arl (H o) 0 i)) := pj_xt q123_453 rfl (pj_cl_nc rfl) (s123_453)
theorem q123_454 : pj_row 123 454 = some (.ifCond .eq 7, 3, 461, 0, 0) := by decide +kernel
theorem s123_454 {L : pj_Loc} {st : List Value} {M : pj_Mem} {x : Int32} : pj_step 123 (454, L, .int x :: st, M) = some (if x = 0 then 461 else 457, L, st, M) := st_if_eq q123_454
theorem x123_454 {L : pj_Loc} {st : List Value} {M : pj_Mem} {x : Int32} {o9 : Option Value × pj_Mem} : pj_Ends 123 (454, L, .int x :: st, M) o9 = pj_Ends 123 (if x = 0 then 461 else 457, L, st, M) o9 := pj_xs (s123_454)
theorem q123_457 : pj_row 123 457 = some (.iconst 1, 1, 0, 0, 0) := by decide +kernel
theorem s123_457 {L : pj_Loc} {st : List Value} {M : pj_Mem}  : pj_step 123 (457, L, st, M) = some (458, L, .int 1 :: st, M) := st_iconst q123_457 (by decide +kernel)
theorem x123_457 {L : pj_Loc} {st : List Value} {M : pj_Mem}  {o9 : Option Value × pj_Mem} : pj_Ends 123 (457, L, st, M) o9 = pj_Ends 123 (458, L, .int 1 :: st, M) o9 := pj_xs (s123_457)
theorem q123_458 : pj_row 123 458 = some (.goto 4, 3, 462, 0, 0) := by decide +kernel
theorem s123_458 {L : pj_Loc} {st : List Value} {M : pj_Mem}  : pj_step 123 (458, L, st, M) = some (462, L, st, M) := st_goto q123_458
theorem x123_458 {L : pj_Loc} {st : List Value} {M : pj_Mem}  {o9 : Option Value × pj_Mem} : pj_Ends 123 (458, L, st, M) o9 = pj_Ends 123 (462, L, st, M) o9 := pj_xs (s123_458)
theorem q123_461 : pj_row 123 461 = some (.iconst 0, 1, 0, 0, 0) := by decide +kernel
theorem s123_461 {L : pj_Loc} {st : List Value} {M : pj_Mem}  : pj_step 123 (461, L, st, M) = some (462, L, .int 0 :: st, M) := st_iconst q123_461 (by decide +kernel)
theorem x123_461 {L : pj_Loc} {st : List Value} {M : pj_Mem}  {o9 : Option Value × pj_Mem} : pj_Ends 123 (461, L, st, M) o9 = pj_Ends 123 (462, L, .int 0 :: st, M) o9 := pj_xs (s123_461)
theorem q123_462 : pj_row 123 462 = some (.aload_n 0, 1, 0, 0, 0) := by decide +kernel
theorem s123_462 {st : List Value} {M : pj_Mem} {l : pj_Loc} {x : Nat} : pj_step 123 (462, some (.ref x) :: l, st, M) = some (463, some (.ref x) :: l, .ref x :: st, M) := st_aload_n q123_462 rfl
theorem x123_462 {st : List Value} {M : pj_Mem} {l : pj_Loc} {x : Nat} {o9 : Option Value × pj_Mem} : pj_Ends 123 (462, some (.ref x) :: l, st, M) o9 = pj_Ends 123 (463, some (.ref x) :: l, .ref x :: st, M) o9 := pj_xs (s123_462)
theorem q123_463 : pj_row 123 463 = some (.iload_n 3, 1, 0, 0, 0) := by decide +kernel
theorem s123_463 {st : List Value} {M : pj_Mem} {l : pj_Loc} {a0 a1 a2 : Option Value} {x : Int32} : pj_step 123 (463, a0 :: a1 :: a2 :: some (.int x) :: l, st, M) = some (464, a0 :: a1 :: a2 :: some (.int x) :: l, .int x :: st, M) := st_iload_n q123_463 rfl
theorem x123_463 {st : List Value} {M : pj_Mem} {l : pj_Loc} {a0 a1 a2 : Option Value} {x : Int32} {o9 : Option Value × pj_Mem} : pj_Ends 123 (463, a0 :: a1 :: a2 :: some (.int x) :: l, st, M) o9 = pj_Ends 123 (464, a0 :: a1 :: a2 :: some (.int x) :: l, .int x :: st, M) o9 := pj_xs (s123_463)
theorem q123_464 : pj_row 123 464 = some (.iconst 5, 1, 0, 0, 0) := by decide +kernel
theorem s123_464 {L : pj_Loc} {st : List Value} {M : pj_Mem}  : pj_step 123 (464, L, st, M) = some (465, L, .int 5 :: st, M) := st_iconst q123_464 (by decide +kernel)
theorem x123_464 {L : pj_Loc} {st : List Value} {M : pj_Mem}  {o9 : Option Value × pj_Mem} : pj_Ends 123 (464, L, st, M) o9 = pj_Ends 123 (465, L, .int 5 :: st, M) o9 := pj_xs (s123_464)
theorem q123_465 : pj_row 123 465 = some (.iadd, 1, 0, 0, 0) := by decide +kernel
theorem s123_465 {L : pj_Loc} {st : List Value} {M : pj_Mem} {x y : Int32} : pj_step 123 (465, L, .int y :: .int x :: st, M) = some (466, L, .int (x + y) :: st, M) := st_iadd q123_465
theorem x123_465 {L : pj_Loc} {st : List Value} {M : pj_Mem} {x y : Int32} {o9 : Option Value × pj_Mem} : pj_Ends 123 (465, L, .int y :: .int x :: st, M) o9 = pj_Ends 123 (466, L, .int (x + y) :: st, M) o9 := pj_xs (s123_465)
theorem q123_466 : pj_row 123 466 = some (.iaload, 1, 0, 0, 0) := by decide +kernel
theorem s123_466 {L : pj_Loc} {st : List Value} {N S : Nat} {H : pj_Heap} {o : Nat} {i : Int32} : pj_step 123 (466, L, .int i :: .ref o :: st, (N, S, H)) = pj_pi 467 L st (N, S, H) (pj_arl (H o) 0 i) := st_iaload q123_466
theorem x123_466 {L : pj_Loc} {st : List Value} {N S : Nat} {H : pj_Heap} {o : Nat} {i : Int32} {o9 : Option Value × pj_Mem} : pj_Ends 123 (466, L, .int i :: .ref o :: st, (N, S, H)) o9 = pj_then 123 o9 (pj_pi 467 L st (N, S, H) (pj_arl (H o) 0 i)) := pj_xt q123_466 rfl (pj_cl_nc rfl) (s123_466)
theorem q123_467 : pj_row 123 467 = some (.invokevirtual 54, 3, 48, 6, 0) := by decide +kernel
theorem e123_467 {L : pj_Loc} {st : List Value} {N S : Nat} {H : pj_Heap} {o : Option Value × pj_Mem} {M' : pj_Mem} {x0 : Nat} {x1 : Int32} {x2 : Int32} {x3 : Int32} {x4 : Int32} {x5 : Int32} {r : Int32} (h4 : pj_le4 st = true) (hu : pj_isU 5 (H x0) = true) (h1 : pj_Ends 48 (0, [some (.ref x0), some (.int x1), some (.int x2), some (.int x3), some (.int x4), some (.int x5)], [], (N, S, H)) (some (.int r), M')) (h2 : pj_Ends 123 (470, L, .int r :: st, M') o) : pj_Ends 123 (467, L, .int x5 :: .int x4 :: .int x3 :: .int x2 :: .int x1 :: .ref x0 :: st, (N, S, H)) o := ec_v6 q123_467 (Or.inl rfl) h4 hu rfl h1 h2
theorem q123_470 : pj_row 123 470 = some (.aload_n 2, 1, 0, 0, 0) := by decide +kernel
theorem s123_470 {st : List Value} {M : pj_Mem} {l : pj_Loc} {a0 a1 : Option Value} {x : Nat} : pj_step 123 (470, a0 :: a1 :: some (.ref x) :: l, st, M) = some (471, a0 :: a1 :: some (.ref x) :: l, .ref x :: st, M) := st_aload_n q123_470 rfl
theorem x123_470 {st : List Value} {M : pj_Mem} {l : pj_Loc} {a0 a1 : Option Value} {x : Nat} {o9 : Option Value × pj_Mem} : pj_Ends 123 (470, a0 :: a1 :: some (.ref x) :: l, st, M) o9 = pj_Ends 123 (471, a0 :: a1 :: some (.ref x) :: l, .ref x :: st, M) o9 := pj_xs (s123_470)
theorem q123_471 : pj_row 123 471 = some (.aload_n 0, 1, 0, 0, 0) := by decide +kernel
theorem s123_471 {st : List Value} {M : pj_Mem} {l : pj_Loc} {x : Nat} : pj_step 123 (471, some (.ref x) :: l, st, M) = some (472, some (.ref x) :: l, .ref x :: st, M) := st_aload_n q123_471 rfl
theorem x123_471 {st : List Value} {M : pj_Mem} {l : pj_Loc} {x : Nat} {o9 : Option Value × pj_Mem} : pj_Ends 123 (471, some (.ref x) :: l, st, M) o9 = pj_Ends 123 (472, some (.ref x) :: l, .ref x :: st, M) o9 := pj_xs (s123_471)
theorem q123_472 : pj_row 123 472 = some (.iload_n 3, 1, 0, 0, 0) := by decide +kernel
theorem s123_472 {st : List Value} {M : pj_Mem} {l : pj_Loc} {a0 a1 a2 : Option Value} {x : Int32} : pj_step 123 (472, a0 :: a1 :: a2 :: some (.int x) :: l, st, M) = some (473, a0 :: a1 :: a2 :: some (.int x) :: l, .int x :: st, M) := st_iload_n q123_472 rfl
theorem x123_472 {st : List Value} {M : pj_Mem} {l : pj_Loc} {a0 a1 a2 : Option Value} {x : Int32} {o9 : Option Value × pj_Mem} : pj_Ends 123 (472, a0 :: a1 :: a2 :: some (.int x) :: l, st, M) o9 = pj_Ends 123 (473, a0 :: a1 :: a2 :: some (.int x) :: l, .int x :: st, M) o9 := pj_xs (s123_472)
theorem q123_473 : pj_row 123 473 = some (.iconst 1, 1, 0, 0, 0) := by decide +kernel
theorem s123_473 {L : pj_Loc} {st : List Value} {M : pj_Mem}  : pj_step 123 (473, L, st, M) = some (474, L, .int 1 :: st, M) := st_iconst q123_473 (by decide +kernel)
theorem x123_473 {L : pj_Loc} {st : List Value} {M : pj_Mem}  {o9 : Option Value × pj_Mem} : pj_Ends 123 (473, L, st, M) o9 = pj_Ends 123 (474, L, .int 1 :: st, M) o9 := pj_xs (s123_473)
theorem q123_474 : pj_row 123 474 = some (.iadd, 1, 0, 0, 0) := by decide +kernel
theorem s123_474 {L : pj_Loc} {st : List Value} {M : pj_Mem} {x y : Int32} : pj_step 123 (474, L, .int y :: .int x :: st, M) = some (475, L, .int (x + y) :: st, M) := st_iadd q123_474
theorem x123_474 {L : pj_Loc} {st : List Value} {M : pj_Mem} {x y : Int32} {o9 : Option Value × pj_Mem} : pj_Ends 123 (474, L, .int y :: .int x :: st, M) o9 = pj_Ends 123 (475, L, .int (x + y) :: st, M) o9 := pj_xs (s123_474)
theorem q123_475 : pj_row 123 475 = some (.iaload, 1, 0, 0, 0) := by decide +kernel
theorem s123_475 {L : pj_Loc} {st : List Value} {N S : Nat} {H : pj_Heap} {o : Nat} {i : Int32} : pj_step 123 (475, L, .int i :: .ref o :: st, (N, S, H)) = pj_pi 476 L st (N, S, H) (pj_arl (H o) 0 i) := st_iaload q123_475
theorem x123_475 {L : pj_Loc} {st : List Value} {N S : Nat} {H : pj_Heap} {o : Nat} {i : Int32} {o9 : Option Value × pj_Mem} : pj_Ends 123 (475, L, .int i :: .ref o :: st, (N, S, H)) o9 = pj_then 123 o9 (pj_pi 476 L st (N, S, H) (pj_arl (H o) 0 i)) := pj_xt q123_475 rfl (pj_cl_nc rfl) (s123_475)
theorem q123_476 : pj_row 123 476 = some (.aload_n 0, 1, 0, 0, 0) := by decide +kernel
theorem s123_476 {st : List Value} {M : pj_Mem} {l : pj_Loc} {x : Nat} : pj_step 123 (476, some (.ref x) :: l, st, M) = some (477, some (.ref x) :: l, .ref x :: st, M) := st_aload_n q123_476 rfl
theorem x123_476 {st : List Value} {M : pj_Mem} {l : pj_Loc} {x : Nat} {o9 : Option Value × pj_Mem} : pj_Ends 123 (476, some (.ref x) :: l, st, M) o9 = pj_Ends 123 (477, some (.ref x) :: l, .ref x :: st, M) o9 := pj_xs (s123_476)
theorem q123_477 : pj_row 123 477 = some (.iload_n 3, 1, 0, 0, 0) := by decide +kernel
theorem s123_477 {st : List Value} {M : pj_Mem} {l : pj_Loc} {a0 a1 a2 : Option Value} {x : Int32} : pj_step 123 (477, a0 :: a1 :: a2 :: some (.int x) :: l, st, M) = some (478, a0 :: a1 :: a2 :: some (.int x) :: l, .int x :: st, M) := st_iload_n q123_477 rfl
theorem x123_477 {st : List Value} {M : pj_Mem} {l : pj_Loc} {a0 a1 a2 : Option Value} {x : Int32} {o9 : Option Value × pj_Mem} : pj_Ends 123 (477, a0 :: a1 :: a2 :: some (.int x) :: l, st, M) o9 = pj_Ends 123 (478, a0 :: a1 :: a2 :: some (.int x) :: l, .int x :: st, M) o9 := pj_xs (s123_477)
theorem q123_478 : pj_row 123 478 = some (.iconst 2, 1, 0, 0, 0) := by decide +kernel
theorem s123_478 {L : pj_Loc} {st : List Value} {M : pj_Mem}  : pj_step 123 (478, L, st, M) = some (479, L, .int 2 :: st, M) := st_iconst q123_478 (by decide +kernel)
theorem x123_478 {L : pj_Loc} {st : List Value} {M : pj_Mem}  {o9 : Option Value × pj_Mem} : pj_Ends 123 (478, L, st, M) o9 = pj_Ends 123 (479, L, .int 2 :: st, M) o9 := pj_xs (s123_478)
theorem q123_479 : pj_row 123 479 = some (.iadd, 1, 0, 0, 0) := by decide +kernel
theorem s123_479 {L : pj_Loc} {st : List Value} {M : pj_Mem} {x y : Int32} : pj_step 123 (479, L, .int y :: .int x :: st, M) = some (480, L, .int (x + y) :: st, M) := st_iadd q123_479
theorem x123_479 {L : pj_Loc} {st : List Value} {M : pj_Mem} {x y : Int32} {o9 : Option Value × pj_Mem} : pj_Ends 123 (479, L, .int y :: .int x :: st, M) o9 = pj_Ends 123 (480, L, .int (x + y) :: st, M) o9 := pj_xs (s123_479)
theorem q123_480 : pj_row 123 480 = some (.iaload, 1, 0, 0, 0) := by decide +kernel
theorem s123_480 {L : pj_Loc} {st : List Value} {N S : Nat} {H : pj_Heap} {o : Nat} {i : Int32} : pj_step 123 (480, L, .int i :: .ref o :: st, (N, S, H)) = pj_pi 481 L st (N, S, H) (pj_arl (H o) 0 i) := st_iaload q123_480
theorem x123_480 {L : pj_Loc} {st : List Value} {N S : Nat} {H : pj_Heap} {o : Nat} {i : Int32} {o9 : Option Value × pj_Mem} : pj_Ends 123 (480, L, .int i :: .ref o :: st, (N, S, H)) o9 = pj_then 123 o9 (pj_pi 481 L st (N, S, H) (pj_arl (H o) 0 i)) := pj_xt q123_480 rfl (pj_cl_nc rfl) (s123_480)
theorem q123_481 : pj_row 123 481 = some (.aload_n 0, 1, 0, 0, 0) := by decide +kernel
theorem s123_481 {st : List Value} {M : pj_Mem} {l : pj_Loc} {x : Nat} : pj_step 123 (481, some (.ref x) :: l, st, M) = some (482, some (.ref x) :: l, .ref x :: st, M) := st_aload_n q123_481 rfl
theorem x123_481 {st : List Value} {M : pj_Mem} {l : pj_Loc} {x : Nat} {o9 : Option Value × pj_Mem} : pj_Ends 123 (481, some (.ref x) :: l, st, M) o9 = pj_Ends 123 (482, some (.ref x) :: l, .ref x :: st, M) o9 := pj_xs (s123_481)
theorem q123_482 : pj_row 123 482 = some (.iload_n 3, 1, 0, 0, 0) := by decide +kernel
theorem s123_482 {st : List Value} {M : pj_Mem} {l : pj_Loc} {a0 a1 a2 : Option Value} {x : Int32} : pj_step 123 (482, a0 :: a1 :: a2 :: some (.int x) :: l, st, M) = some (483, a0 :: a1 :: a2 :: some (.int x) :: l, .int x :: st, M) := st_iload_n q123_482 rfl
theorem x123_482 {st : List Value} {M : pj_Mem} {l : pj_Loc} {a0 a1 a2 : Option Value} {x : Int32} {o9 : Option Value × pj_Mem} : pj_Ends 123 (482, a0 :: a1 :: a2 :: some (.int x) :: l, st, M) o9 = pj_Ends 123 (483, a0 :: a1 :: a2 :: some (.int x) :: l, .int x :: st, M) o9 := pj_xs (s123_482)
theorem q123_483 : pj_row 123 483 = some (.iconst 3, 1, 0, 0, 0) := by decide +kernel
theorem s123_483 {L : pj_Loc} {st : List Value} {M : pj_Mem}  : pj_step 123 (483, L, st, M) = some (484, L, .int 3 :: st, M) := st_iconst q123_483 (by decide +kernel)
theorem x123_483 {L : pj_Loc} {st : List Value} {M : pj_Mem}  {o9 : Option Value × pj_Mem} : pj_Ends 123 (483, L, st, M) o9 = pj_Ends 123 (484, L, .int 3 :: st, M) o9 := pj_xs (s123_483)
theorem q123_484 : pj_row 123 484 = some (.iadd, 1, 0, 0, 0) := by decide +kernel
theorem s123_484 {L : pj_Loc} {st : List Value} {M : pj_Mem} {x y : Int32} : pj_step 123 (484, L, .int y :: .int x :: st, M) = some (485, L, .int (x + y) :: st, M) := st_iadd q123_484
theorem x123_484 {L : pj_Loc} {st : List Value} {M : pj_Mem} {x y : Int32} {o9 : Option Value × pj_Mem} : pj_Ends 123 (484, L, .int y :: .int x :: st, M) o9 = pj_Ends 123 (485, L, .int (x + y) :: st, M) o9 := pj_xs (s123_484)
theorem q123_485 : pj_row 123 485 = some (.iaload, 1, 0, 0, 0) := by decide +kernel
theorem s123_485 {L : pj_Loc} {st : List Value} {N S : Nat} {H : pj_Heap} {o : Nat} {i : Int32} : pj_step 123 (485, L, .int i :: .ref o :: st, (N, S, H)) = pj_pi 486 L st (N, S, H) (pj_arl (H o) 0 i) := st_iaload q123_485
theorem x123_485 {L : pj_Loc} {st : List Value} {N S : Nat} {H : pj_Heap} {o : Nat} {i : Int32} {o9 : Option Value × pj_Mem} : pj_Ends 123 (485, L, .int i :: .ref o :: st, (N, S, H)) o9 = pj_then 123 o9 (pj_pi 486 L st (N, S, H) (pj_arl (H o) 0 i)) := pj_xt q123_485 rfl (pj_cl_nc rfl) (s123_485)
theorem q123_486 : pj_row 123 486 = some (.aload_n 0, 1, 0, 0, 0) := by decide +kernel
theorem s123_486 {st : List Value} {M : pj_Mem} {l : pj_Loc} {x : Nat} : pj_step 123 (486, some (.ref x) :: l, st, M) = some (487, some (.ref x) :: l, .ref x :: st, M) := st_aload_n q123_486 rfl
theorem x123_486 {st : List Value} {M : pj_Mem} {l : pj_Loc} {x : Nat} {o9 : Option Value × pj_Mem} : pj_Ends 123 (486, some (.ref x) :: l, st, M) o9 = pj_Ends 123 (487, some (.ref x) :: l, .ref x :: st, M) o9 := pj_xs (s123_486)
theorem q123_487 : pj_row 123 487 = some (.iload_n 3, 1, 0, 0, 0) := by decide +kernel
theorem s123_487 {st : List Value} {M : pj_Mem} {l : pj_Loc} {a0 a1 a2 : Option Value} {x : Int32} : pj_step 123 (487, a0 :: a1 :: a2 :: some (.int x) :: l, st, M) = some (488, a0 :: a1 :: a2 :: some (.int x) :: l, .int x :: st, M) := st_iload_n q123_487 rfl
theorem x123_487 {st : List Value} {M : pj_Mem} {l : pj_Loc} {a0 a1 a2 : Option Value} {x : Int32} {o9 : Option Value × pj_Mem} : pj_Ends 123 (487, a0 :: a1 :: a2 :: some (.int x) :: l, st, M) o9 = pj_Ends 123 (488, a0 :: a1 :: a2 :: some (.int x) :: l, .int x :: st, M) o9 := pj_xs (s123_487)
theorem q123_488 : pj_row 123 488 = some (.iconst 4, 1, 0, 0, 0) := by decide +kernel
theorem s123_488 {L : pj_Loc} {st : List Value} {M : pj_Mem}  : pj_step 123 (488, L, st, M) = some (489, L, .int 4 :: st, M) := st_iconst q123_488 (by decide +kernel)
theorem x123_488 {L : pj_Loc} {st : List Value} {M : pj_Mem}  {o9 : Option Value × pj_Mem} : pj_Ends 123 (488, L, st, M) o9 = pj_Ends 123 (489, L, .int 4 :: st, M) o9 := pj_xs (s123_488)
theorem q123_489 : pj_row 123 489 = some (.iadd, 1, 0, 0, 0) := by decide +kernel
theorem s123_489 {L : pj_Loc} {st : List Value} {M : pj_Mem} {x y : Int32} : pj_step 123 (489, L, .int y :: .int x :: st, M) = some (490, L, .int (x + y) :: st, M) := st_iadd q123_489
theorem x123_489 {L : pj_Loc} {st : List Value} {M : pj_Mem} {x y : Int32} {o9 : Option Value × pj_Mem} : pj_Ends 123 (489, L, .int y :: .int x :: st, M) o9 = pj_Ends 123 (490, L, .int (x + y) :: st, M) o9 := pj_xs (s123_489)
theorem q123_490 : pj_row 123 490 = some (.iaload, 1, 0, 0, 0) := by decide +kernel
theorem s123_490 {L : pj_Loc} {st : List Value} {N S : Nat} {H : pj_Heap} {o : Nat} {i : Int32} : pj_step 123 (490, L, .int i :: .ref o :: st, (N, S, H)) = pj_pi 491 L st (N, S, H) (pj_arl (H o) 0 i) := st_iaload q123_490
theorem x123_490 {L : pj_Loc} {st : List Value} {N S : Nat} {H : pj_Heap} {o : Nat} {i : Int32} {o9 : Option Value × pj_Mem} : pj_Ends 123 (490, L, .int i :: .ref o :: st, (N, S, H)) o9 = pj_then 123 o9 (pj_pi 491 L st (N, S, H) (pj_arl (H o) 0 i)) := pj_xt q123_490 rfl (pj_cl_nc rfl) (s123_490)
theorem q123_491 : pj_row 123 491 = some (.ifCond .eq 7, 3, 498, 0, 0) := by decide +kernel
theorem s123_491 {L : pj_Loc} {st : List Value} {M : pj_Mem} {x : Int32} : pj_step 123 (491, L, .int x :: st, M) = some (if x = 0 then 498 else 494, L, st, M) := st_if_eq q123_491
theorem x123_491 {L : pj_Loc} {st : List Value} {M : pj_Mem} {x : Int32} {o9 : Option Value × pj_Mem} : pj_Ends 123 (491, L, .int x :: st, M) o9 = pj_Ends 123 (if x = 0 then 498 else 494, L, st, M) o9 := pj_xs (s123_491)
theorem q123_494 : pj_row 123 494 = some (.iconst 1, 1, 0, 0, 0) := by decide +kernel
theorem s123_494 {L : pj_Loc} {st : List Value} {M : pj_Mem}  : pj_step 123 (494, L, st, M) = some (495, L, .int 1 :: st, M) := st_iconst q123_494 (by decide +kernel)
theorem x123_494 {L : pj_Loc} {st : List Value} {M : pj_Mem}  {o9 : Option Value × pj_Mem} : pj_Ends 123 (494, L, st, M) o9 = pj_Ends 123 (495, L, .int 1 :: st, M) o9 := pj_xs (s123_494)
theorem q123_495 : pj_row 123 495 = some (.goto 4, 3, 499, 0, 0) := by decide +kernel
theorem s123_495 {L : pj_Loc} {st : List Value} {M : pj_Mem}  : pj_step 123 (495, L, st, M) = some (499, L, st, M) := st_goto q123_495
theorem x123_495 {L : pj_Loc} {st : List Value} {M : pj_Mem}  {o9 : Option Value × pj_Mem} : pj_Ends 123 (495, L, st, M) o9 = pj_Ends 123 (499, L, st, M) o9 := pj_xs (s123_495)
theorem q123_498 : pj_row 123 498 = some (.iconst 0, 1, 0, 0, 0) := by decide +kernel
theorem s123_498 {L : pj_Loc} {st : List Value} {M : pj_Mem}  : pj_step 123 (498, L, st, M) = some (499, L, .int 0 :: st, M) := st_iconst q123_498 (by decide +kernel)
theorem x123_498 {L : pj_Loc} {st : List Value} {M : pj_Mem}  {o9 : Option Value × pj_Mem} : pj_Ends 123 (498, L, st, M) o9 = pj_Ends 123 (499, L, .int 0 :: st, M) o9 := pj_xs (s123_498)
theorem q123_499 : pj_row 123 499 = some (.aload_n 0, 1, 0, 0, 0) := by decide +kernel
theorem s123_499 {st : List Value} {M : pj_Mem} {l : pj_Loc} {x : Nat} : pj_step 123 (499, some (.ref x) :: l, st, M) = some (500, some (.ref x) :: l, .ref x :: st, M) := st_aload_n q123_499 rfl
theorem x123_499 {st : List Value} {M : pj_Mem} {l : pj_Loc} {x : Nat} {o9 : Option Value × pj_Mem} : pj_Ends 123 (499, some (.ref x) :: l, st, M) o9 = pj_Ends 123 (500, some (.ref x) :: l, .ref x :: st, M) o9 := pj_xs (s123_499)
theorem q123_500 : pj_row 123 500 = some (.iload_n 3, 1, 0, 0, 0) := by decide +kernel
theorem s123_500 {st : List Value} {M : pj_Mem} {l : pj_Loc} {a0 a1 a2 : Option Value} {x : Int32} : pj_step 123 (500, a0 :: a1 :: a2 :: some (.int x) :: l, st, M) = some (501, a0 :: a1 :: a2 :: some (.int x) :: l, .int x :: st, M) := st_iload_n q123_500 rfl
theorem x123_500 {st : List Value} {M : pj_Mem} {l : pj_Loc} {a0 a1 a2 : Option Value} {x : Int32} {o9 : Option Value × pj_Mem} : pj_Ends 123 (500, a0 :: a1 :: a2 :: some (.int x) :: l, st, M) o9 = pj_Ends 123 (501, a0 :: a1 :: a2 :: some (.int x) :: l, .int x :: st, M) o9 := pj_xs (s123_500)
theorem q123_501 : pj_row 123 501 = some (.iconst 5, 1, 0, 0, 0) := by decide +kernel
theorem s123_501 {L : pj_Loc} {st : List Value} {M : pj_Mem}  : pj_step 123 (501, L, st, M) = some (502, L, .int 5 :: st, M) := st_iconst q123_501 (by decide +kernel)
theorem x123_501 {L : pj_Loc} {st : List Value} {M : pj_Mem}  {o9 : Option Value × pj_Mem} : pj_Ends 123 (501, L, st, M) o9 = pj_Ends 123 (502, L, .int 5 :: st, M) o9 := pj_xs (s123_501)
theorem q123_502 : pj_row 123 502 = some (.iadd, 1, 0, 0, 0) := by decide +kernel
theorem s123_502 {L : pj_Loc} {st : List Value} {M : pj_Mem} {x y : Int32} : pj_step 123 (502, L, .int y :: .int x :: st, M) = some (503, L, .int (x + y) :: st, M) := st_iadd q123_502
theorem x123_502 {L : pj_Loc} {st : List Value} {M : pj_Mem} {x y : Int32} {o9 : Option Value × pj_Mem} : pj_Ends 123 (502, L, .int y :: .int x :: st, M) o9 = pj_Ends 123 (503, L, .int (x + y) :: st, M) o9 := pj_xs (s123_502)
theorem q123_503 : pj_row 123 503 = some (.iaload, 1, 0, 0, 0) := by decide +kernel
theorem s123_503 {L : pj_Loc} {st : List Value} {N S : Nat} {H : pj_Heap} {o : Nat} {i : Int32} : pj_step 123 (503, L, .int i :: .ref o :: st, (N, S, H)) = pj_pi 504 L st (N, S, H) (pj_arl (H o) 0 i) := st_iaload q123_503
theorem x123_503 {L : pj_Loc} {st : List Value} {N S : Nat} {H : pj_Heap} {o : Nat} {i : Int32} {o9 : Option Value × pj_Mem} : pj_Ends 123 (503, L, .int i :: .ref o :: st, (N, S, H)) o9 = pj_then 123 o9 (pj_pi 504 L st (N, S, H) (pj_arl (H o) 0 i)) := pj_xt q123_503 rfl (pj_cl_nc rfl) (s123_503)
theorem q123_504 : pj_row 123 504 = some (.invokevirtual 58, 3, 108, 6, 0) := by decide +kernel
theorem e123_504 {L : pj_Loc} {st : List Value} {N S : Nat} {H : pj_Heap} {o : Option Value × pj_Mem} {M' : pj_Mem} {x0 : Nat} {x1 : Int32} {x2 : Int32} {x3 : Int32} {x4 : Int32} {x5 : Int32} {r : Int32} (h4 : pj_le4 st = true) (hu : pj_isU 6 (H x0) = true) (h1 : pj_Ends 108 (0, [some (.ref x0), some (.int x1), some (.int x2), some (.int x3), some (.int x4), some (.int x5), none, none], [], (N, S, H)) (some (.int r), M')) (h2 : pj_Ends 123 (507, L, .int r :: st, M') o) : pj_Ends 123 (504, L, .int x5 :: .int x4 :: .int x3 :: .int x2 :: .int x1 :: .ref x0 :: st, (N, S, H)) o := ec_v6 q123_504 (Or.inl rfl) h4 hu rfl h1 h2
theorem q123_507 : pj_row 123 507 = some (.if_icmp .eq 238, 3, 745, 0, 0) := by decide +kernel
theorem s123_507 {L : pj_Loc} {st : List Value} {M : pj_Mem} {x y : Int32} : pj_step 123 (507, L, .int y :: .int x :: st, M) = some (if x = y then 745 else 510, L, st, M) := st_icmp_eq q123_507
theorem x123_507 {L : pj_Loc} {st : List Value} {M : pj_Mem} {x y : Int32} {o9 : Option Value × pj_Mem} : pj_Ends 123 (507, L, .int y :: .int x :: st, M) o9 = pj_Ends 123 (if x = y then 745 else 510, L, st, M) o9 := pj_xs (s123_507)
theorem q123_510 : pj_row 123 510 = some (.iconst 0, 1, 0, 0, 0) := by decide +kernel
theorem s123_510 {L : pj_Loc} {st : List Value} {M : pj_Mem}  : pj_step 123 (510, L, st, M) = some (511, L, .int 0 :: st, M) := st_iconst q123_510 (by decide +kernel)
theorem x123_510 {L : pj_Loc} {st : List Value} {M : pj_Mem}  {o9 : Option Value × pj_Mem} : pj_Ends 123 (510, L, st, M) o9 = pj_Ends 123 (511, L, .int 0 :: st, M) o9 := pj_xs (s123_510)
theorem q123_511 : pj_row 123 511 = some (.ireturn, 1, 0, 0, 0) := by decide +kernel
theorem t123_511 {L : pj_Loc} {M : pj_Mem} {v : Int32} (hv : v = 0 ∨ v = 1) : pj_Ends 123 (511, L, [.int v], M) (some (.int v), M) := pj_Ends.ret q123_511 (pj_rtn_z rt123 hv)
theorem q123_512 : pj_row 123 512 = some (.aload_n 1, 1, 0, 0, 0) := by decide +kernel
theorem s123_512 {st : List Value} {M : pj_Mem} {l : pj_Loc} {a0 : Option Value} {x : Nat} : pj_step 123 (512, a0 :: some (.ref x) :: l, st, M) = some (513, a0 :: some (.ref x) :: l, .ref x :: st, M) := st_aload_n q123_512 rfl
theorem x123_512 {st : List Value} {M : pj_Mem} {l : pj_Loc} {a0 : Option Value} {x : Nat} {o9 : Option Value × pj_Mem} : pj_Ends 123 (512, a0 :: some (.ref x) :: l, st, M) o9 = pj_Ends 123 (513, a0 :: some (.ref x) :: l, .ref x :: st, M) o9 := pj_xs (s123_512)
theorem q123_513 : pj_row 123 513 = some (.aload_n 0, 1, 0, 0, 0) := by decide +kernel
theorem s123_513 {st : List Value} {M : pj_Mem} {l : pj_Loc} {x : Nat} : pj_step 123 (513, some (.ref x) :: l, st, M) = some (514, some (.ref x) :: l, .ref x :: st, M) := st_aload_n q123_513 rfl
theorem x123_513 {st : List Value} {M : pj_Mem} {l : pj_Loc} {x : Nat} {o9 : Option Value × pj_Mem} : pj_Ends 123 (513, some (.ref x) :: l, st, M) o9 = pj_Ends 123 (514, some (.ref x) :: l, .ref x :: st, M) o9 := pj_xs (s123_513)
theorem q123_514 : pj_row 123 514 = some (.iload_n 3, 1, 0, 0, 0) := by decide +kernel
theorem s123_514 {st : List Value} {M : pj_Mem} {l : pj_Loc} {a0 a1 a2 : Option Value} {x : Int32} : pj_step 123 (514, a0 :: a1 :: a2 :: some (.int x) :: l, st, M) = some (515, a0 :: a1 :: a2 :: some (.int x) :: l, .int x :: st, M) := st_iload_n q123_514 rfl
theorem x123_514 {st : List Value} {M : pj_Mem} {l : pj_Loc} {a0 a1 a2 : Option Value} {x : Int32} {o9 : Option Value × pj_Mem} : pj_Ends 123 (514, a0 :: a1 :: a2 :: some (.int x) :: l, st, M) o9 = pj_Ends 123 (515, a0 :: a1 :: a2 :: some (.int x) :: l, .int x :: st, M) o9 := pj_xs (s123_514)
theorem q123_515 : pj_row 123 515 = some (.iconst 1, 1, 0, 0, 0) := by decide +kernel
theorem s123_515 {L : pj_Loc} {st : List Value} {M : pj_Mem}  : pj_step 123 (515, L, st, M) = some (516, L, .int 1 :: st, M) := st_iconst q123_515 (by decide +kernel)
theorem x123_515 {L : pj_Loc} {st : List Value} {M : pj_Mem}  {o9 : Option Value × pj_Mem} : pj_Ends 123 (515, L, st, M) o9 = pj_Ends 123 (516, L, .int 1 :: st, M) o9 := pj_xs (s123_515)
theorem q123_516 : pj_row 123 516 = some (.iadd, 1, 0, 0, 0) := by decide +kernel
theorem s123_516 {L : pj_Loc} {st : List Value} {M : pj_Mem} {x y : Int32} : pj_step 123 (516, L, .int y :: .int x :: st, M) = some (517, L, .int (x + y) :: st, M) := st_iadd q123_516
theorem x123_516 {L : pj_Loc} {st : List Value} {M : pj_Mem} {x y : Int32} {o9 : Option Value × pj_Mem} : pj_Ends 123 (516, L, .int y :: .int x :: st, M) o9 = pj_Ends 123 (517, L, .int (x + y) :: st, M) o9 := pj_xs (s123_516)
theorem q123_517 : pj_row 123 517 = some (.iaload, 1, 0, 0, 0) := by decide +kernel
theorem s123_517 {L : pj_Loc} {st : List Value} {N S : Nat} {H : pj_Heap} {o : Nat} {i : Int32} : pj_step 123 (517, L, .int i :: .ref o :: st, (N, S, H)) = pj_pi 518 L st (N, S, H) (pj_arl (H o) 0 i) := st_iaload q123_517
theorem x123_517 {L : pj_Loc} {st : List Value} {N S : Nat} {H : pj_Heap} {o : Nat} {i : Int32} {o9 : Option Value × pj_Mem} : pj_Ends 123 (517, L, .int i :: .ref o :: st, (N, S, H)) o9 = pj_then 123 o9 (pj_pi 518 L st (N, S, H) (pj_arl (H o) 0 i)) := pj_xt q123_517 rfl (pj_cl_nc rfl) (s123_517)
theorem q123_518 : pj_row 123 518 = some (.aload_n 0, 1, 0, 0, 0) := by decide +kernel
theorem s123_518 {st : List Value} {M : pj_Mem} {l : pj_Loc} {x : Nat} : pj_step 123 (518, some (.ref x) :: l, st, M) = some (519, some (.ref x) :: l, .ref x :: st, M) := st_aload_n q123_518 rfl
theorem x123_518 {st : List Value} {M : pj_Mem} {l : pj_Loc} {x : Nat} {o9 : Option Value × pj_Mem} : pj_Ends 123 (518, some (.ref x) :: l, st, M) o9 = pj_Ends 123 (519, some (.ref x) :: l, .ref x :: st, M) o9 := pj_xs (s123_518)
theorem q123_519 : pj_row 123 519 = some (.iload_n 3, 1, 0, 0, 0) := by decide +kernel
theorem s123_519 {st : List Value} {M : pj_Mem} {l : pj_Loc} {a0 a1 a2 : Option Value} {x : Int32} : pj_step 123 (519, a0 :: a1 :: a2 :: some (.int x) :: l, st, M) = some (520, a0 :: a1 :: a2 :: some (.int x) :: l, .int x :: st, M) := st_iload_n q123_519 rfl
theorem x123_519 {st : List Value} {M : pj_Mem} {l : pj_Loc} {a0 a1 a2 : Option Value} {x : Int32} {o9 : Option Value × pj_Mem} : pj_Ends 123 (519, a0 :: a1 :: a2 :: some (.int x) :: l, st, M) o9 = pj_Ends 123 (520, a0 :: a1 :: a2 :: some (.int x) :: l, .int x :: st, M) o9 := pj_xs (s123_519)
theorem q123_520 : pj_row 123 520 = some (.iconst 2, 1, 0, 0, 0) := by decide +kernel
theorem s123_520 {L : pj_Loc} {st : List Value} {M : pj_Mem}  : pj_step 123 (520, L, st, M) = some (521, L, .int 2 :: st, M) := st_iconst q123_520 (by decide +kernel)
theorem x123_520 {L : pj_Loc} {st : List Value} {M : pj_Mem}  {o9 : Option Value × pj_Mem} : pj_Ends 123 (520, L, st, M) o9 = pj_Ends 123 (521, L, .int 2 :: st, M) o9 := pj_xs (s123_520)
theorem q123_521 : pj_row 123 521 = some (.iadd, 1, 0, 0, 0) := by decide +kernel
theorem s123_521 {L : pj_Loc} {st : List Value} {M : pj_Mem} {x y : Int32} : pj_step 123 (521, L, .int y :: .int x :: st, M) = some (522, L, .int (x + y) :: st, M) := st_iadd q123_521
theorem x123_521 {L : pj_Loc} {st : List Value} {M : pj_Mem} {x y : Int32} {o9 : Option Value × pj_Mem} : pj_Ends 123 (521, L, .int y :: .int x :: st, M) o9 = pj_Ends 123 (522, L, .int (x + y) :: st, M) o9 := pj_xs (s123_521)
theorem q123_522 : pj_row 123 522 = some (.iaload, 1, 0, 0, 0) := by decide +kernel
theorem s123_522 {L : pj_Loc} {st : List Value} {N S : Nat} {H : pj_Heap} {o : Nat} {i : Int32} : pj_step 123 (522, L, .int i :: .ref o :: st, (N, S, H)) = pj_pi 523 L st (N, S, H) (pj_arl (H o) 0 i) := st_iaload q123_522
theorem x123_522 {L : pj_Loc} {st : List Value} {N S : Nat} {H : pj_Heap} {o : Nat} {i : Int32} {o9 : Option Value × pj_Mem} : pj_Ends 123 (522, L, .int i :: .ref o :: st, (N, S, H)) o9 = pj_then 123 o9 (pj_pi 523 L st (N, S, H) (pj_arl (H o) 0 i)) := pj_xt q123_522 rfl (pj_cl_nc rfl) (s123_522)
theorem q123_523 : pj_row 123 523 = some (.ifCond .eq 7, 3, 530, 0, 0) := by decide +kernel
theorem s123_523 {L : pj_Loc} {st : List Value} {M : pj_Mem} {x : Int32} : pj_step 123 (523, L, .int x :: st, M) = some (if x = 0 then 530 else 526, L, st, M) := st_if_eq q123_523
theorem x123_523 {L : pj_Loc} {st : List Value} {M : pj_Mem} {x : Int32} {o9 : Option Value × pj_Mem} : pj_Ends 123 (523, L, .int x :: st, M) o9 = pj_Ends 123 (if x = 0 then 530 else 526, L, st, M) o9 := pj_xs (s123_523)
theorem q123_526 : pj_row 123 526 = some (.iconst 1, 1, 0, 0, 0) := by decide +kernel
theorem s123_526 {L : pj_Loc} {st : List Value} {M : pj_Mem}  : pj_step 123 (526, L, st, M) = some (527, L, .int 1 :: st, M) := st_iconst q123_526 (by decide +kernel)
theorem x123_526 {L : pj_Loc} {st : List Value} {M : pj_Mem}  {o9 : Option Value × pj_Mem} : pj_Ends 123 (526, L, st, M) o9 = pj_Ends 123 (527, L, .int 1 :: st, M) o9 := pj_xs (s123_526)
theorem q123_527 : pj_row 123 527 = some (.goto 4, 3, 531, 0, 0) := by decide +kernel
theorem s123_527 {L : pj_Loc} {st : List Value} {M : pj_Mem}  : pj_step 123 (527, L, st, M) = some (531, L, st, M) := st_goto q123_527
theorem x123_527 {L : pj_Loc} {st : List Value} {M : pj_Mem}  {o9 : Option Value × pj_Mem} : pj_Ends 123 (527, L, st, M) o9 = pj_Ends 123 (531, L, st, M) o9 := pj_xs (s123_527)
theorem q123_530 : pj_row 123 530 = some (.iconst 0, 1, 0, 0, 0) := by decide +kernel
theorem s123_530 {L : pj_Loc} {st : List Value} {M : pj_Mem}  : pj_step 123 (530, L, st, M) = some (531, L, .int 0 :: st, M) := st_iconst q123_530 (by decide +kernel)
theorem x123_530 {L : pj_Loc} {st : List Value} {M : pj_Mem}  {o9 : Option Value × pj_Mem} : pj_Ends 123 (530, L, st, M) o9 = pj_Ends 123 (531, L, .int 0 :: st, M) o9 := pj_xs (s123_530)
theorem q123_531 : pj_row 123 531 = some (.invokevirtual 59, 3, 49, 3, 0) := by decide +kernel
theorem e123_531 {L : pj_Loc} {st : List Value} {N S : Nat} {H : pj_Heap} {o : Option Value × pj_Mem} {M' : pj_Mem} {x0 : Nat} {x1 : Int32} {x2 : Int32} {r : Int32} (h4 : pj_le4 st = true) (hu : pj_isU 5 (H x0) = true) (h1 : pj_Ends 49 (0, [some (.ref x0), some (.int x1), some (.int x2), none], [], (N, S, H)) (some (.int r), M')) (h2 : pj_Ends 123 (534, L, .int r :: st, M') o) : pj_Ends 123 (531, L, .int x2 :: .int x1 :: .ref x0 :: st, (N, S, H)) o := ec_v3 q123_531 (Or.inl rfl) h4 hu rfl h1 h2
theorem q123_534 : pj_row 123 534 = some (.aload_n 2, 1, 0, 0, 0) := by decide +kernel
theorem s123_534 {st : List Value} {M : pj_Mem} {l : pj_Loc} {a0 a1 : Option Value} {x : Nat} : pj_step 123 (534, a0 :: a1 :: some (.ref x) :: l, st, M) = some (535, a0 :: a1 :: some (.ref x) :: l, .ref x :: st, M) := st_aload_n q123_534 rfl
theorem x123_534 {st : List Value} {M : pj_Mem} {l : pj_Loc} {a0 a1 : Option Value} {x : Nat} {o9 : Option Value × pj_Mem} : pj_Ends 123 (534, a0 :: a1 :: some (.ref x) :: l, st, M) o9 = pj_Ends 123 (535, a0 :: a1 :: some (.ref x) :: l, .ref x :: st, M) o9 := pj_xs (s123_534)
theorem q123_535 : pj_row 123 535 = some (.aload_n 0, 1, 0, 0, 0) := by decide +kernel
theorem s123_535 {st : List Value} {M : pj_Mem} {l : pj_Loc} {x : Nat} : pj_step 123 (535, some (.ref x) :: l, st, M) = some (536, some (.ref x) :: l, .ref x :: st, M) := st_aload_n q123_535 rfl
theorem x123_535 {st : List Value} {M : pj_Mem} {l : pj_Loc} {x : Nat} {o9 : Option Value × pj_Mem} : pj_Ends 123 (535, some (.ref x) :: l, st, M) o9 = pj_Ends 123 (536, some (.ref x) :: l, .ref x :: st, M) o9 := pj_xs (s123_535)
theorem q123_536 : pj_row 123 536 = some (.iload_n 3, 1, 0, 0, 0) := by decide +kernel
theorem s123_536 {st : List Value} {M : pj_Mem} {l : pj_Loc} {a0 a1 a2 : Option Value} {x : Int32} : pj_step 123 (536, a0 :: a1 :: a2 :: some (.int x) :: l, st, M) = some (537, a0 :: a1 :: a2 :: some (.int x) :: l, .int x :: st, M) := st_iload_n q123_536 rfl
theorem x123_536 {st : List Value} {M : pj_Mem} {l : pj_Loc} {a0 a1 a2 : Option Value} {x : Int32} {o9 : Option Value × pj_Mem} : pj_Ends 123 (536, a0 :: a1 :: a2 :: some (.int x) :: l, st, M) o9 = pj_Ends 123 (537, a0 :: a1 :: a2 :: some (.int x) :: l, .int x :: st, M) o9 := pj_xs (s123_536)
theorem q123_537 : pj_row 123 537 = some (.iconst 1, 1, 0, 0, 0) := by decide +kernel
theorem s123_537 {L : pj_Loc} {st : List Value} {M : pj_Mem}  : pj_step 123 (537, L, st, M) = some (538, L, .int 1 :: st, M) := st_iconst q123_537 (by decide +kernel)
theorem x123_537 {L : pj_Loc} {st : List Value} {M : pj_Mem}  {o9 : Option Value × pj_Mem} : pj_Ends 123 (537, L, st, M) o9 = pj_Ends 123 (538, L, .int 1 :: st, M) o9 := pj_xs (s123_537)
theorem q123_538 : pj_row 123 538 = some (.iadd, 1, 0, 0, 0) := by decide +kernel
theorem s123_538 {L : pj_Loc} {st : List Value} {M : pj_Mem} {x y : Int32} : pj_step 123 (538, L, .int y :: .int x :: st, M) = some (539, L, .int (x + y) :: st, M) := st_iadd q123_538
theorem x123_538 {L : pj_Loc} {st : List Value} {M : pj_Mem} {x y : Int32} {o9 : Option Value × pj_Mem} : pj_Ends 123 (538, L, .int y :: .int x :: st, M) o9 = pj_Ends 123 (539, L, .int (x + y) :: st, M) o9 := pj_xs (s123_538)
theorem q123_539 : pj_row 123 539 = some (.iaload, 1, 0, 0, 0) := by decide +kernel
theorem s123_539 {L : pj_Loc} {st : List Value} {N S : Nat} {H : pj_Heap} {o : Nat} {i : Int32} : pj_step 123 (539, L, .int i :: .ref o :: st, (N, S, H)) = pj_pi 540 L st (N, S, H) (pj_arl (H o) 0 i) := st_iaload q123_539
theorem x123_539 {L : pj_Loc} {st : List Value} {N S : Nat} {H : pj_Heap} {o : Nat} {i : Int32} {o9 : Option Value × pj_Mem} : pj_Ends 123 (539, L, .int i :: .ref o :: st, (N, S, H)) o9 = pj_then 123 o9 (pj_pi 540 L st (N, S, H) (pj_arl (H o) 0 i)) := pj_xt q123_539 rfl (pj_cl_nc rfl) (s123_539)
theorem q123_540 : pj_row 123 540 = some (.aload_n 0, 1, 0, 0, 0) := by decide +kernel
theorem s123_540 {st : List Value} {M : pj_Mem} {l : pj_Loc} {x : Nat} : pj_step 123 (540, some (.ref x) :: l, st, M) = some (541, some (.ref x) :: l, .ref x :: st, M) := st_aload_n q123_540 rfl
theorem x123_540 {st : List Value} {M : pj_Mem} {l : pj_Loc} {x : Nat} {o9 : Option Value × pj_Mem} : pj_Ends 123 (540, some (.ref x) :: l, st, M) o9 = pj_Ends 123 (541, some (.ref x) :: l, .ref x :: st, M) o9 := pj_xs (s123_540)
theorem q123_541 : pj_row 123 541 = some (.iload_n 3, 1, 0, 0, 0) := by decide +kernel
theorem s123_541 {st : List Value} {M : pj_Mem} {l : pj_Loc} {a0 a1 a2 : Option Value} {x : Int32} : pj_step 123 (541, a0 :: a1 :: a2 :: some (.int x) :: l, st, M) = some (542, a0 :: a1 :: a2 :: some (.int x) :: l, .int x :: st, M) := st_iload_n q123_541 rfl
theorem x123_541 {st : List Value} {M : pj_Mem} {l : pj_Loc} {a0 a1 a2 : Option Value} {x : Int32} {o9 : Option Value × pj_Mem} : pj_Ends 123 (541, a0 :: a1 :: a2 :: some (.int x) :: l, st, M) o9 = pj_Ends 123 (542, a0 :: a1 :: a2 :: some (.int x) :: l, .int x :: st, M) o9 := pj_xs (s123_541)
theorem q123_542 : pj_row 123 542 = some (.iconst 2, 1, 0, 0, 0) := by decide +kernel
theorem s123_542 {L : pj_Loc} {st : List Value} {M : pj_Mem}  : pj_step 123 (542, L, st, M) = some (543, L, .int 2 :: st, M) := st_iconst q123_542 (by decide +kernel)
theorem x123_542 {L : pj_Loc} {st : List Value} {M : pj_Mem}  {o9 : Option Value × pj_Mem} : pj_Ends 123 (542, L, st, M) o9 = pj_Ends 123 (543, L, .int 2 :: st, M) o9 := pj_xs (s123_542)
theorem q123_543 : pj_row 123 543 = some (.iadd, 1, 0, 0, 0) := by decide +kernel
theorem s123_543 {L : pj_Loc} {st : List Value} {M : pj_Mem} {x y : Int32} : pj_step 123 (543, L, .int y :: .int x :: st, M) = some (544, L, .int (x + y) :: st, M) := st_iadd q123_543
theorem x123_543 {L : pj_Loc} {st : List Value} {M : pj_Mem} {x y : Int32} {o9 : Option Value × pj_Mem} : pj_Ends 123 (543, L, .int y :: .int x :: st, M) o9 = pj_Ends 123 (544, L, .int (x + y) :: st, M) o9 := pj_xs (s123_543)
theorem q123_544 : pj_row 123 544 = some (.iaload, 1, 0, 0, 0) := by decide +kernel
theorem s123_544 {L : pj_Loc} {st : List Value} {N S : Nat} {H : pj_Heap} {o : Nat} {i : Int32} : pj_step 123 (544, L, .int i :: .ref o :: st, (N, S, H)) = pj_pi 545 L st (N, S, H) (pj_arl (H o) 0 i) := st_iaload q123_544
theorem x123_544 {L : pj_Loc} {st : List Value} {N S : Nat} {H : pj_Heap} {o : Nat} {i : Int32} {o9 : Option Value × pj_Mem} : pj_Ends 123 (544, L, .int i :: .ref o :: st, (N, S, H)) o9 = pj_then 123 o9 (pj_pi 545 L st (N, S, H) (pj_arl (H o) 0 i)) := pj_xt q123_544 rfl (pj_cl_nc rfl) (s123_544)
theorem q123_545 : pj_row 123 545 = some (.ifCond .eq 7, 3, 552, 0, 0) := by decide +kernel
theorem s123_545 {L : pj_Loc} {st : List Value} {M : pj_Mem} {x : Int32} : pj_step 123 (545, L, .int x :: st, M) = some (if x = 0 then 552 else 548, L, st, M) := st_if_eq q123_545
theorem x123_545 {L : pj_Loc} {st : List Value} {M : pj_Mem} {x : Int32} {o9 : Option Value × pj_Mem} : pj_Ends 123 (545, L, .int x :: st, M) o9 = pj_Ends 123 (if x = 0 then 552 else 548, L, st, M) o9 := pj_xs (s123_545)
theorem q123_548 : pj_row 123 548 = some (.iconst 1, 1, 0, 0, 0) := by decide +kernel
theorem s123_548 {L : pj_Loc} {st : List Value} {M : pj_Mem}  : pj_step 123 (548, L, st, M) = some (549, L, .int 1 :: st, M) := st_iconst q123_548 (by decide +kernel)
theorem x123_548 {L : pj_Loc} {st : List Value} {M : pj_Mem}  {o9 : Option Value × pj_Mem} : pj_Ends 123 (548, L, st, M) o9 = pj_Ends 123 (549, L, .int 1 :: st, M) o9 := pj_xs (s123_548)
theorem q123_549 : pj_row 123 549 = some (.goto 4, 3, 553, 0, 0) := by decide +kernel
theorem s123_549 {L : pj_Loc} {st : List Value} {M : pj_Mem}  : pj_step 123 (549, L, st, M) = some (553, L, st, M) := st_goto q123_549
theorem x123_549 {L : pj_Loc} {st : List Value} {M : pj_Mem}  {o9 : Option Value × pj_Mem} : pj_Ends 123 (549, L, st, M) o9 = pj_Ends 123 (553, L, st, M) o9 := pj_xs (s123_549)
theorem q123_552 : pj_row 123 552 = some (.iconst 0, 1, 0, 0, 0) := by decide +kernel
theorem s123_552 {L : pj_Loc} {st : List Value} {M : pj_Mem}  : pj_step 123 (552, L, st, M) = some (553, L, .int 0 :: st, M) := st_iconst q123_552 (by decide +kernel)
theorem x123_552 {L : pj_Loc} {st : List Value} {M : pj_Mem}  {o9 : Option Value × pj_Mem} : pj_Ends 123 (552, L, st, M) o9 = pj_Ends 123 (553, L, .int 0 :: st, M) o9 := pj_xs (s123_552)
theorem q123_553 : pj_row 123 553 = some (.invokevirtual 62, 3, 110, 3, 0) := by decide +kernel
theorem e123_553 {L : pj_Loc} {st : List Value} {N S : Nat} {H : pj_Heap} {o : Option Value × pj_Mem} {M' : pj_Mem} {x0 : Nat} {x1 : Int32} {x2 : Int32} {r : Int32} (h4 : pj_le4 st = true) (hu : pj_isU 6 (H x0) = true) (h1 : pj_Ends 110 (0, [some (.ref x0), some (.int x1), some (.int x2), none], [], (N, S, H)) (some (.int r), M')) (h2 : pj_Ends 123 (556, L, .int r :: st, M') o) : pj_Ends 123 (553, L, .int x2 :: .int x1 :: .ref x0 :: st, (N, S, H)) o := ec_v3 q123_553 (Or.inl rfl) h4 hu rfl h1 h2
theorem q123_556 : pj_row 123 556 = some (.if_icmp .eq 189, 3, 745, 0, 0) := by decide +kernel
theorem s123_556 {L : pj_Loc} {st : List Value} {M : pj_Mem} {x y : Int32} : pj_step 123 (556, L, .int y :: .int x :: st, M) = some (if x = y then 745 else 559, L, st, M) := st_icmp_eq q123_556
theorem x123_556 {L : pj_Loc} {st : List Value} {M : pj_Mem} {x y : Int32} {o9 : Option Value × pj_Mem} : pj_Ends 123 (556, L, .int y :: .int x :: st, M) o9 = pj_Ends 123 (if x = y then 745 else 559, L, st, M) o9 := pj_xs (s123_556)
theorem q123_559 : pj_row 123 559 = some (.iconst 0, 1, 0, 0, 0) := by decide +kernel
theorem s123_559 {L : pj_Loc} {st : List Value} {M : pj_Mem}  : pj_step 123 (559, L, st, M) = some (560, L, .int 0 :: st, M) := st_iconst q123_559 (by decide +kernel)
theorem x123_559 {L : pj_Loc} {st : List Value} {M : pj_Mem}  {o9 : Option Value × pj_Mem} : pj_Ends 123 (559, L, st, M) o9 = pj_Ends 123 (560, L, .int 0 :: st, M) o9 := pj_xs (s123_559)
theorem q123_560 : pj_row 123 560 = some (.ireturn, 1, 0, 0, 0) := by decide +kernel
theorem t123_560 {L : pj_Loc} {M : pj_Mem} {v : Int32} (hv : v = 0 ∨ v = 1) : pj_Ends 123 (560, L, [.int v], M) (some (.int v), M) := pj_Ends.ret q123_560 (pj_rtn_z rt123 hv)
theorem q123_561 : pj_row 123 561 = some (.aload_n 1, 1, 0, 0, 0) := by decide +kernel
theorem s123_561 {st : List Value} {M : pj_Mem} {l : pj_Loc} {a0 : Option Value} {x : Nat} : pj_step 123 (561, a0 :: some (.ref x) :: l, st, M) = some (562, a0 :: some (.ref x) :: l, .ref x :: st, M) := st_aload_n q123_561 rfl
theorem x123_561 {st : List Value} {M : pj_Mem} {l : pj_Loc} {a0 : Option Value} {x : Nat} {o9 : Option Value × pj_Mem} : pj_Ends 123 (561, a0 :: some (.ref x) :: l, st, M) o9 = pj_Ends 123 (562, a0 :: some (.ref x) :: l, .ref x :: st, M) o9 := pj_xs (s123_561)
theorem q123_562 : pj_row 123 562 = some (.aload_n 0, 1, 0, 0, 0) := by decide +kernel
theorem s123_562 {st : List Value} {M : pj_Mem} {l : pj_Loc} {x : Nat} : pj_step 123 (562, some (.ref x) :: l, st, M) = some (563, some (.ref x) :: l, .ref x :: st, M) := st_aload_n q123_562 rfl
theorem x123_562 {st : List Value} {M : pj_Mem} {l : pj_Loc} {x : Nat} {o9 : Option Value × pj_Mem} : pj_Ends 123 (562, some (.ref x) :: l, st, M) o9 = pj_Ends 123 (563, some (.ref x) :: l, .ref x :: st, M) o9 := pj_xs (s123_562)
theorem q123_563 : pj_row 123 563 = some (.iload_n 3, 1, 0, 0, 0) := by decide +kernel
theorem s123_563 {st : List Value} {M : pj_Mem} {l : pj_Loc} {a0 a1 a2 : Option Value} {x : Int32} : pj_step 123 (563, a0 :: a1 :: a2 :: some (.int x) :: l, st, M) = some (564, a0 :: a1 :: a2 :: some (.int x) :: l, .int x :: st, M) := st_iload_n q123_563 rfl
theorem x123_563 {st : List Value} {M : pj_Mem} {l : pj_Loc} {a0 a1 a2 : Option Value} {x : Int32} {o9 : Option Value × pj_Mem} : pj_Ends 123 (563, a0 :: a1 :: a2 :: some (.int x) :: l, st, M) o9 = pj_Ends 123 (564, a0 :: a1 :: a2 :: some (.int x) :: l, .int x :: st, M) o9 := pj_xs (s123_563)
theorem q123_564 : pj_row 123 564 = some (.iconst 1, 1, 0, 0, 0) := by decide +kernel
theorem s123_564 {L : pj_Loc} {st : List Value} {M : pj_Mem}  : pj_step 123 (564, L, st, M) = some (565, L, .int 1 :: st, M) := st_iconst q123_564 (by decide +kernel)
theorem x123_564 {L : pj_Loc} {st : List Value} {M : pj_Mem}  {o9 : Option Value × pj_Mem} : pj_Ends 123 (564, L, st, M) o9 = pj_Ends 123 (565, L, .int 1 :: st, M) o9 := pj_xs (s123_564)
theorem q123_565 : pj_row 123 565 = some (.iadd, 1, 0, 0, 0) := by decide +kernel
theorem s123_565 {L : pj_Loc} {st : List Value} {M : pj_Mem} {x y : Int32} : pj_step 123 (565, L, .int y :: .int x :: st, M) = some (566, L, .int (x + y) :: st, M) := st_iadd q123_565
theorem x123_565 {L : pj_Loc} {st : List Value} {M : pj_Mem} {x y : Int32} {o9 : Option Value × pj_Mem} : pj_Ends 123 (565, L, .int y :: .int x :: st, M) o9 = pj_Ends 123 (566, L, .int (x + y) :: st, M) o9 := pj_xs (s123_565)
theorem q123_566 : pj_row 123 566 = some (.iaload, 1, 0, 0, 0) := by decide +kernel
theorem s123_566 {L : pj_Loc} {st : List Value} {N S : Nat} {H : pj_Heap} {o : Nat} {i : Int32} : pj_step 123 (566, L, .int i :: .ref o :: st, (N, S, H)) = pj_pi 567 L st (N, S, H) (pj_arl (H o) 0 i) := st_iaload q123_566
theorem x123_566 {L : pj_Loc} {st : List Value} {N S : Nat} {H : pj_Heap} {o : Nat} {i : Int32} {o9 : Option Value × pj_Mem} : pj_Ends 123 (566, L, .int i :: .ref o :: st, (N, S, H)) o9 = pj_then 123 o9 (pj_pi 567 L st (N, S, H) (pj_arl (H o) 0 i)) := pj_xt q123_566 rfl (pj_cl_nc rfl) (s123_566)
theorem q123_567 : pj_row 123 567 = some (.aload_n 0, 1, 0, 0, 0) := by decide +kernel
theorem s123_567 {st : List Value} {M : pj_Mem} {l : pj_Loc} {x : Nat} : pj_step 123 (567, some (.ref x) :: l, st, M) = some (568, some (.ref x) :: l, .ref x :: st, M) := st_aload_n q123_567 rfl
theorem x123_567 {st : List Value} {M : pj_Mem} {l : pj_Loc} {x : Nat} {o9 : Option Value × pj_Mem} : pj_Ends 123 (567, some (.ref x) :: l, st, M) o9 = pj_Ends 123 (568, some (.ref x) :: l, .ref x :: st, M) o9 := pj_xs (s123_567)
theorem q123_568 : pj_row 123 568 = some (.iload_n 3, 1, 0, 0, 0) := by decide +kernel
theorem s123_568 {st : List Value} {M : pj_Mem} {l : pj_Loc} {a0 a1 a2 : Option Value} {x : Int32} : pj_step 123 (568, a0 :: a1 :: a2 :: some (.int x) :: l, st, M) = some (569, a0 :: a1 :: a2 :: some (.int x) :: l, .int x :: st, M) := st_iload_n q123_568 rfl
theorem x123_568 {st : List Value} {M : pj_Mem} {l : pj_Loc} {a0 a1 a2 : Option Value} {x : Int32} {o9 : Option Value × pj_Mem} : pj_Ends 123 (568, a0 :: a1 :: a2 :: some (.int x) :: l, st, M) o9 = pj_Ends 123 (569, a0 :: a1 :: a2 :: some (.int x) :: l, .int x :: st, M) o9 := pj_xs (s123_568)
theorem q123_569 : pj_row 123 569 = some (.iconst 2, 1, 0, 0, 0) := by decide +kernel
theorem s123_569 {L : pj_Loc} {st : List Value} {M : pj_Mem}  : pj_step 123 (569, L, st, M) = some (570, L, .int 2 :: st, M) := st_iconst q123_569 (by decide +kernel)
theorem x123_569 {L : pj_Loc} {st : List Value} {M : pj_Mem}  {o9 : Option Value × pj_Mem} : pj_Ends 123 (569, L, st, M) o9 = pj_Ends 123 (570, L, .int 2 :: st, M) o9 := pj_xs (s123_569)
theorem q123_570 : pj_row 123 570 = some (.iadd, 1, 0, 0, 0) := by decide +kernel
theorem s123_570 {L : pj_Loc} {st : List Value} {M : pj_Mem} {x y : Int32} : pj_step 123 (570, L, .int y :: .int x :: st, M) = some (571, L, .int (x + y) :: st, M) := st_iadd q123_570
theorem x123_570 {L : pj_Loc} {st : List Value} {M : pj_Mem} {x y : Int32} {o9 : Option Value × pj_Mem} : pj_Ends 123 (570, L, .int y :: .int x :: st, M) o9 = pj_Ends 123 (571, L, .int (x + y) :: st, M) o9 := pj_xs (s123_570)
theorem q123_571 : pj_row 123 571 = some (.iaload, 1, 0, 0, 0) := by decide +kernel
theorem s123_571 {L : pj_Loc} {st : List Value} {N S : Nat} {H : pj_Heap} {o : Nat} {i : Int32} : pj_step 123 (571, L, .int i :: .ref o :: st, (N, S, H)) = pj_pi 572 L st (N, S, H) (pj_arl (H o) 0 i) := st_iaload q123_571
theorem x123_571 {L : pj_Loc} {st : List Value} {N S : Nat} {H : pj_Heap} {o : Nat} {i : Int32} {o9 : Option Value × pj_Mem} : pj_Ends 123 (571, L, .int i :: .ref o :: st, (N, S, H)) o9 = pj_then 123 o9 (pj_pi 572 L st (N, S, H) (pj_arl (H o) 0 i)) := pj_xt q123_571 rfl (pj_cl_nc rfl) (s123_571)
theorem q123_572 : pj_row 123 572 = some (.invokevirtual 63, 3, 50, 3, 0) := by decide +kernel
theorem e123_572 {L : pj_Loc} {st : List Value} {N S : Nat} {H : pj_Heap} {o : Option Value × pj_Mem} {M' : pj_Mem} {x0 : Nat} {x1 : Int32} {x2 : Int32} {r : Int32} (h4 : pj_le4 st = true) (hu : pj_isU 5 (H x0) = true) (h1 : pj_Ends 50 (0, [some (.ref x0), some (.int x1), some (.int x2), none], [], (N, S, H)) (some (.int r), M')) (h2 : pj_Ends 123 (575, L, .int r :: st, M') o) : pj_Ends 123 (572, L, .int x2 :: .int x1 :: .ref x0 :: st, (N, S, H)) o := ec_v3 q123_572 (Or.inl rfl) h4 hu rfl h1 h2
theorem q123_575 : pj_row 123 575 = some (.aload_n 2, 1, 0, 0, 0) := by decide +kernel
theorem s123_575 {st : List Value} {M : pj_Mem} {l : pj_Loc} {a0 a1 : Option Value} {x : Nat} : pj_step 123 (575, a0 :: a1 :: some (.ref x) :: l, st, M) = some (576, a0 :: a1 :: some (.ref x) :: l, .ref x :: st, M) := st_aload_n q123_575 rfl
theorem x123_575 {st : List Value} {M : pj_Mem} {l : pj_Loc} {a0 a1 : Option Value} {x : Nat} {o9 : Option Value × pj_Mem} : pj_Ends 123 (575, a0 :: a1 :: some (.ref x) :: l, st, M) o9 = pj_Ends 123 (576, a0 :: a1 :: some (.ref x) :: l, .ref x :: st, M) o9 := pj_xs (s123_575)
theorem q123_576 : pj_row 123 576 = some (.aload_n 0, 1, 0, 0, 0) := by decide +kernel
theorem s123_576 {st : List Value} {M : pj_Mem} {l : pj_Loc} {x : Nat} : pj_step 123 (576, some (.ref x) :: l, st, M) = some (577, some (.ref x) :: l, .ref x :: st, M) := st_aload_n q123_576 rfl
theorem x123_576 {st : List Value} {M : pj_Mem} {l : pj_Loc} {x : Nat} {o9 : Option Value × pj_Mem} : pj_Ends 123 (576, some (.ref x) :: l, st, M) o9 = pj_Ends 123 (577, some (.ref x) :: l, .ref x :: st, M) o9 := pj_xs (s123_576)
theorem q123_577 : pj_row 123 577 = some (.iload_n 3, 1, 0, 0, 0) := by decide +kernel
theorem s123_577 {st : List Value} {M : pj_Mem} {l : pj_Loc} {a0 a1 a2 : Option Value} {x : Int32} : pj_step 123 (577, a0 :: a1 :: a2 :: some (.int x) :: l, st, M) = some (578, a0 :: a1 :: a2 :: some (.int x) :: l, .int x :: st, M) := st_iload_n q123_577 rfl
theorem x123_577 {st : List Value} {M : pj_Mem} {l : pj_Loc} {a0 a1 a2 : Option Value} {x : Int32} {o9 : Option Value × pj_Mem} : pj_Ends 123 (577, a0 :: a1 :: a2 :: some (.int x) :: l, st, M) o9 = pj_Ends 123 (578, a0 :: a1 :: a2 :: some (.int x) :: l, .int x :: st, M) o9 := pj_xs (s123_577)
theorem q123_578 : pj_row 123 578 = some (.iconst 1, 1, 0, 0, 0) := by decide +kernel
theorem s123_578 {L : pj_Loc} {st : List Value} {M : pj_Mem}  : pj_step 123 (578, L, st, M) = some (579, L, .int 1 :: st, M) := st_iconst q123_578 (by decide +kernel)
theorem x123_578 {L : pj_Loc} {st : List Value} {M : pj_Mem}  {o9 : Option Value × pj_Mem} : pj_Ends 123 (578, L, st, M) o9 = pj_Ends 123 (579, L, .int 1 :: st, M) o9 := pj_xs (s123_578)
theorem q123_579 : pj_row 123 579 = some (.iadd, 1, 0, 0, 0) := by decide +kernel
theorem s123_579 {L : pj_Loc} {st : List Value} {M : pj_Mem} {x y : Int32} : pj_step 123 (579, L, .int y :: .int x :: st, M) = some (580, L, .int (x + y) :: st, M) := st_iadd q123_579
theorem x123_579 {L : pj_Loc} {st : List Value} {M : pj_Mem} {x y : Int32} {o9 : Option Value × pj_Mem} : pj_Ends 123 (579, L, .int y :: .int x :: st, M) o9 = pj_Ends 123 (580, L, .int (x + y) :: st, M) o9 := pj_xs (s123_579)
theorem q123_580 : pj_row 123 580 = some (.iaload, 1, 0, 0, 0) := by decide +kernel
theorem s123_580 {L : pj_Loc} {st : List Value} {N S : Nat} {H : pj_Heap} {o : Nat} {i : Int32} : pj_step 123 (580, L, .int i :: .ref o :: st, (N, S, H)) = pj_pi 581 L st (N, S, H) (pj_arl (H o) 0 i) := st_iaload q123_580
theorem x123_580 {L : pj_Loc} {st : List Value} {N S : Nat} {H : pj_Heap} {o : Nat} {i : Int32} {o9 : Option Value × pj_Mem} : pj_Ends 123 (580, L, .int i :: .ref o :: st, (N, S, H)) o9 = pj_then 123 o9 (pj_pi 581 L st (N, S, H) (pj_arl (H o) 0 i)) := pj_xt q123_580 rfl (pj_cl_nc rfl) (s123_580)
theorem q123_581 : pj_row 123 581 = some (.aload_n 0, 1, 0, 0, 0) := by decide +kernel
theorem s123_581 {st : List Value} {M : pj_Mem} {l : pj_Loc} {x : Nat} : pj_step 123 (581, some (.ref x) :: l, st, M) = some (582, some (.ref x) :: l, .ref x :: st, M) := st_aload_n q123_581 rfl
theorem x123_581 {st : List Value} {M : pj_Mem} {l : pj_Loc} {x : Nat} {o9 : Option Value × pj_Mem} : pj_Ends 123 (581, some (.ref x) :: l, st, M) o9 = pj_Ends 123 (582, some (.ref x) :: l, .ref x :: st, M) o9 := pj_xs (s123_581)
theorem q123_582 : pj_row 123 582 = some (.iload_n 3, 1, 0, 0, 0) := by decide +kernel
theorem s123_582 {st : List Value} {M : pj_Mem} {l : pj_Loc} {a0 a1 a2 : Option Value} {x : Int32} : pj_step 123 (582, a0 :: a1 :: a2 :: some (.int x) :: l, st, M) = some (583, a0 :: a1 :: a2 :: some (.int x) :: l, .int x :: st, M) := st_iload_n q123_582 rfl
theorem x123_582 {st : List Value} {M : pj_Mem} {l : pj_Loc} {a0 a1 a2 : Option Value} {x : Int32} {o9 : Option Value × pj_Mem} : pj_Ends 123 (582, a0 :: a1 :: a2 :: some (.int x) :: l, st, M) o9 = pj_Ends 123 (583, a0 :: a1 :: a2 :: some (.int x) :: l, .int x :: st, M) o9 := pj_xs (s123_582)
theorem q123_583 : pj_row 123 583 = some (.iconst 2, 1, 0, 0, 0) := by decide +kernel
theorem s123_583 {L : pj_Loc} {st : List Value} {M : pj_Mem}  : pj_step 123 (583, L, st, M) = some (584, L, .int 2 :: st, M) := st_iconst q123_583 (by decide +kernel)
theorem x123_583 {L : pj_Loc} {st : List Value} {M : pj_Mem}  {o9 : Option Value × pj_Mem} : pj_Ends 123 (583, L, st, M) o9 = pj_Ends 123 (584, L, .int 2 :: st, M) o9 := pj_xs (s123_583)
theorem q123_584 : pj_row 123 584 = some (.iadd, 1, 0, 0, 0) := by decide +kernel
theorem s123_584 {L : pj_Loc} {st : List Value} {M : pj_Mem} {x y : Int32} : pj_step 123 (584, L, .int y :: .int x :: st, M) = some (585, L, .int (x + y) :: st, M) := st_iadd q123_584
theorem x123_584 {L : pj_Loc} {st : List Value} {M : pj_Mem} {x y : Int32} {o9 : Option Value × pj_Mem} : pj_Ends 123 (584, L, .int y :: .int x :: st, M) o9 = pj_Ends 123 (585, L, .int (x + y) :: st, M) o9 := pj_xs (s123_584)
theorem q123_585 : pj_row 123 585 = some (.iaload, 1, 0, 0, 0) := by decide +kernel
theorem s123_585 {L : pj_Loc} {st : List Value} {N S : Nat} {H : pj_Heap} {o : Nat} {i : Int32} : pj_step 123 (585, L, .int i :: .ref o :: st, (N, S, H)) = pj_pi 586 L st (N, S, H) (pj_arl (H o) 0 i) := st_iaload q123_585
theorem x123_585 {L : pj_Loc} {st : List Value} {N S : Nat} {H : pj_Heap} {o : Nat} {i : Int32} {o9 : Option Value × pj_Mem} : pj_Ends 123 (585, L, .int i :: .ref o :: st, (N, S, H)) o9 = pj_then 123 o9 (pj_pi 586 L st (N, S, H) (pj_arl (H o) 0 i)) := pj_xt q123_585 rfl (pj_cl_nc rfl) (s123_585)
theorem q123_586 : pj_row 123 586 = some (.invokevirtual 66, 3, 111, 3, 0) := by decide +kernel
theorem e123_586 {L : pj_Loc} {st : List Value} {N S : Nat} {H : pj_Heap} {o : Option Value × pj_Mem} {M' : pj_Mem} {x0 : Nat} {x1 : Int32} {x2 : Int32} {r : Int32} (h4 : pj_le4 st = true) (hu : pj_isU 6 (H x0) = true) (h1 : pj_Ends 111 (0, [some (.ref x0), some (.int x1), some (.int x2), none, none], [], (N, S, H)) (some (.int r), M')) (h2 : pj_Ends 123 (589, L, .int r :: st, M') o) : pj_Ends 123 (586, L, .int x2 :: .int x1 :: .ref x0 :: st, (N, S, H)) o := ec_v3 q123_586 (Or.inl rfl) h4 hu rfl h1 h2
theorem q123_589 : pj_row 123 589 = some (.if_icmp .eq 156, 3, 745, 0, 0) := by decide +kernel
theorem s123_589 {L : pj_Loc} {st : List Value} {M : pj_Mem} {x y : Int32} : pj_step 123 (589, L, .int y :: .int x :: st, M) = some (if x = y then 745 else 592, L, st, M) := st_icmp_eq q123_589
theorem x123_589 {L : pj_Loc} {st : List Value} {M : pj_Mem} {x y : Int32} {o9 : Option Value × pj_Mem} : pj_Ends 123 (589, L, .int y :: .int x :: st, M) o9 = pj_Ends 123 (if x = y then 745 else 592, L, st, M) o9 := pj_xs (s123_589)
theorem q123_592 : pj_row 123 592 = some (.iconst 0, 1, 0, 0, 0) := by decide +kernel
theorem s123_592 {L : pj_Loc} {st : List Value} {M : pj_Mem}  : pj_step 123 (592, L, st, M) = some (593, L, .int 0 :: st, M) := st_iconst q123_592 (by decide +kernel)
theorem x123_592 {L : pj_Loc} {st : List Value} {M : pj_Mem}  {o9 : Option Value × pj_Mem} : pj_Ends 123 (592, L, st, M) o9 = pj_Ends 123 (593, L, .int 0 :: st, M) o9 := pj_xs (s123_592)
theorem q123_593 : pj_row 123 593 = some (.ireturn, 1, 0, 0, 0) := by decide +kernel
theorem t123_593 {L : pj_Loc} {M : pj_Mem} {v : Int32} (hv : v = 0 ∨ v = 1) : pj_Ends 123 (593, L, [.int v], M) (some (.int v), M) := pj_Ends.ret q123_593 (pj_rtn_z rt123 hv)
theorem q123_594 : pj_row 123 594 = some (.aload_n 1, 1, 0, 0, 0) := by decide +kernel
theorem s123_594 {st : List Value} {M : pj_Mem} {l : pj_Loc} {a0 : Option Value} {x : Nat} : pj_step 123 (594, a0 :: some (.ref x) :: l, st, M) = some (595, a0 :: some (.ref x) :: l, .ref x :: st, M) := st_aload_n q123_594 rfl
theorem x123_594 {st : List Value} {M : pj_Mem} {l : pj_Loc} {a0 : Option Value} {x : Nat} {o9 : Option Value × pj_Mem} : pj_Ends 123 (594, a0 :: some (.ref x) :: l, st, M) o9 = pj_Ends 123 (595, a0 :: some (.ref x) :: l, .ref x :: st, M) o9 := pj_xs (s123_594)
theorem q123_595 : pj_row 123 595 = some (.aload_n 0, 1, 0, 0, 0) := by decide +kernel
theorem s123_595 {st : List Value} {M : pj_Mem} {l : pj_Loc} {x : Nat} : pj_step 123 (595, some (.ref x) :: l, st, M) = some (596, some (.ref x) :: l, .ref x :: st, M) := st_aload_n q123_595 rfl
theorem x123_595 {st : List Value} {M : pj_Mem} {l : pj_Loc} {x : Nat} {o9 : Option Value × pj_Mem} : pj_Ends 123 (595, some (.ref x) :: l, st, M) o9 = pj_Ends 123 (596, some (.ref x) :: l, .ref x :: st, M) o9 := pj_xs (s123_595)
theorem q123_596 : pj_row 123 596 = some (.iload_n 3, 1, 0, 0, 0) := by decide +kernel
theorem s123_596 {st : List Value} {M : pj_Mem} {l : pj_Loc} {a0 a1 a2 : Option Value} {x : Int32} : pj_step 123 (596, a0 :: a1 :: a2 :: some (.int x) :: l, st, M) = some (597, a0 :: a1 :: a2 :: some (.int x) :: l, .int x :: st, M) := st_iload_n q123_596 rfl
theorem x123_596 {st : List Value} {M : pj_Mem} {l : pj_Loc} {a0 a1 a2 : Option Value} {x : Int32} {o9 : Option Value × pj_Mem} : pj_Ends 123 (596, a0 :: a1 :: a2 :: some (.int x) :: l, st, M) o9 = pj_Ends 123 (597, a0 :: a1 :: a2 :: some (.int x) :: l, .int x :: st, M) o9 := pj_xs (s123_596)
theorem q123_597 : pj_row 123 597 = some (.iconst 1, 1, 0, 0, 0) := by decide +kernel
theorem s123_597 {L : pj_Loc} {st : List Value} {M : pj_Mem}  : pj_step 123 (597, L, st, M) = some (598, L, .int 1 :: st, M) := st_iconst q123_597 (by decide +kernel)
theorem x123_597 {L : pj_Loc} {st : List Value} {M : pj_Mem}  {o9 : Option Value × pj_Mem} : pj_Ends 123 (597, L, st, M) o9 = pj_Ends 123 (598, L, .int 1 :: st, M) o9 := pj_xs (s123_597)
theorem q123_598 : pj_row 123 598 = some (.iadd, 1, 0, 0, 0) := by decide +kernel
theorem s123_598 {L : pj_Loc} {st : List Value} {M : pj_Mem} {x y : Int32} : pj_step 123 (598, L, .int y :: .int x :: st, M) = some (599, L, .int (x + y) :: st, M) := st_iadd q123_598
theorem x123_598 {L : pj_Loc} {st : List Value} {M : pj_Mem} {x y : Int32} {o9 : Option Value × pj_Mem} : pj_Ends 123 (598, L, .int y :: .int x :: st, M) o9 = pj_Ends 123 (599, L, .int (x + y) :: st, M) o9 := pj_xs (s123_598)
theorem q123_599 : pj_row 123 599 = some (.iaload, 1, 0, 0, 0) := by decide +kernel
theorem s123_599 {L : pj_Loc} {st : List Value} {N S : Nat} {H : pj_Heap} {o : Nat} {i : Int32} : pj_step 123 (599, L, .int i :: .ref o :: st, (N, S, H)) = pj_pi 600 L st (N, S, H) (pj_arl (H o) 0 i) := st_iaload q123_599
theorem x123_599 {L : pj_Loc} {st : List Value} {N S : Nat} {H : pj_Heap} {o : Nat} {i : Int32} {o9 : Option Value × pj_Mem} : pj_Ends 123 (599, L, .int i :: .ref o :: st, (N, S, H)) o9 = pj_then 123 o9 (pj_pi 600 L st (N, S, H) (pj_arl (H o) 0 i)) := pj_xt q123_599 rfl (pj_cl_nc rfl) (s123_599)
theorem q123_600 : pj_row 123 600 = some (.i2l, 1, 0, 0, 0) := by decide +kernel
theorem s123_600 {L : pj_Loc} {st : List Value} {M : pj_Mem} {x : Int32} : pj_step 123 (600, L, .int x :: st, M) = some (601, L, .long x.toInt64 :: st, M) := st_i2l q123_600
theorem x123_600 {L : pj_Loc} {st : List Value} {M : pj_Mem} {x : Int32} {o9 : Option Value × pj_Mem} : pj_Ends 123 (600, L, .int x :: st, M) o9 = pj_Ends 123 (601, L, .long x.toInt64 :: st, M) o9 := pj_xs (s123_600)
theorem q123_601 : pj_row 123 601 = some (.bipush 32, 2, 0, 0, 0) := by decide +kernel
theorem s123_601 {L : pj_Loc} {st : List Value} {M : pj_Mem}  : pj_step 123 (601, L, st, M) = some (603, L, .int 32 :: st, M) := st_bipush q123_601 (by decide +kernel)
theorem x123_601 {L : pj_Loc} {st : List Value} {M : pj_Mem}  {o9 : Option Value × pj_Mem} : pj_Ends 123 (601, L, st, M) o9 = pj_Ends 123 (603, L, .int 32 :: st, M) o9 := pj_xs (s123_601)
theorem q123_603 : pj_row 123 603 = some (.lshl, 1, 0, 0, 0) := by decide +kernel
theorem s123_603 {L : pj_Loc} {st : List Value} {M : pj_Mem} {x : Int64} {y : Int32} : pj_step 123 (603, L, .int y :: .long x :: st, M) = some (604, L, .long (x <<< (y.toInt64 &&& 63)) :: st, M) := st_lshl q123_603
theorem x123_603 {L : pj_Loc} {st : List Value} {M : pj_Mem} {x : Int64} {y : Int32} {o9 : Option Value × pj_Mem} : pj_Ends 123 (603, L, .int y :: .long x :: st, M) o9 = pj_Ends 123 (604, L, .long (x <<< (y.toInt64 &&& 63)) :: st, M) o9 := pj_xs (s123_603)
theorem q123_604 : pj_row 123 604 = some (.aload_n 0, 1, 0, 0, 0) := by decide +kernel
theorem s123_604 {st : List Value} {M : pj_Mem} {l : pj_Loc} {x : Nat} : pj_step 123 (604, some (.ref x) :: l, st, M) = some (605, some (.ref x) :: l, .ref x :: st, M) := st_aload_n q123_604 rfl
theorem x123_604 {st : List Value} {M : pj_Mem} {l : pj_Loc} {x : Nat} {o9 : Option Value × pj_Mem} : pj_Ends 123 (604, some (.ref x) :: l, st, M) o9 = pj_Ends 123 (605, some (.ref x) :: l, .ref x :: st, M) o9 := pj_xs (s123_604)
theorem q123_605 : pj_row 123 605 = some (.iload_n 3, 1, 0, 0, 0) := by decide +kernel
theorem s123_605 {st : List Value} {M : pj_Mem} {l : pj_Loc} {a0 a1 a2 : Option Value} {x : Int32} : pj_step 123 (605, a0 :: a1 :: a2 :: some (.int x) :: l, st, M) = some (606, a0 :: a1 :: a2 :: some (.int x) :: l, .int x :: st, M) := st_iload_n q123_605 rfl
theorem x123_605 {st : List Value} {M : pj_Mem} {l : pj_Loc} {a0 a1 a2 : Option Value} {x : Int32} {o9 : Option Value × pj_Mem} : pj_Ends 123 (605, a0 :: a1 :: a2 :: some (.int x) :: l, st, M) o9 = pj_Ends 123 (606, a0 :: a1 :: a2 :: some (.int x) :: l, .int x :: st, M) o9 := pj_xs (s123_605)
theorem q123_606 : pj_row 123 606 = some (.iconst 2, 1, 0, 0, 0) := by decide +kernel
theorem s123_606 {L : pj_Loc} {st : List Value} {M : pj_Mem}  : pj_step 123 (606, L, st, M) = some (607, L, .int 2 :: st, M) := st_iconst q123_606 (by decide +kernel)
theorem x123_606 {L : pj_Loc} {st : List Value} {M : pj_Mem}  {o9 : Option Value × pj_Mem} : pj_Ends 123 (606, L, st, M) o9 = pj_Ends 123 (607, L, .int 2 :: st, M) o9 := pj_xs (s123_606)
theorem q123_607 : pj_row 123 607 = some (.iadd, 1, 0, 0, 0) := by decide +kernel
theorem s123_607 {L : pj_Loc} {st : List Value} {M : pj_Mem} {x y : Int32} : pj_step 123 (607, L, .int y :: .int x :: st, M) = some (608, L, .int (x + y) :: st, M) := st_iadd q123_607
theorem x123_607 {L : pj_Loc} {st : List Value} {M : pj_Mem} {x y : Int32} {o9 : Option Value × pj_Mem} : pj_Ends 123 (607, L, .int y :: .int x :: st, M) o9 = pj_Ends 123 (608, L, .int (x + y) :: st, M) o9 := pj_xs (s123_607)
theorem q123_608 : pj_row 123 608 = some (.iaload, 1, 0, 0, 0) := by decide +kernel
theorem s123_608 {L : pj_Loc} {st : List Value} {N S : Nat} {H : pj_Heap} {o : Nat} {i : Int32} : pj_step 123 (608, L, .int i :: .ref o :: st, (N, S, H)) = pj_pi 609 L st (N, S, H) (pj_arl (H o) 0 i) := st_iaload q123_608
theorem x123_608 {L : pj_Loc} {st : List Value} {N S : Nat} {H : pj_Heap} {o : Nat} {i : Int32} {o9 : Option Value × pj_Mem} : pj_Ends 123 (608, L, .int i :: .ref o :: st, (N, S, H)) o9 = pj_then 123 o9 (pj_pi 609 L st (N, S, H) (pj_arl (H o) 0 i)) := pj_xt q123_608 rfl (pj_cl_nc rfl) (s123_608)
theorem q123_609 : pj_row 123 609 = some (.i2l, 1, 0, 0, 0) := by decide +kernel
theorem s123_609 {L : pj_Loc} {st : List Value} {M : pj_Mem} {x : Int32} : pj_step 123 (609, L, .int x :: st, M) = some (610, L, .long x.toInt64 :: st, M) := st_i2l q123_609
theorem x123_609 {L : pj_Loc} {st : List Value} {M : pj_Mem} {x : Int32} {o9 : Option Value × pj_Mem} : pj_Ends 123 (609, L, .int x :: st, M) o9 = pj_Ends 123 (610, L, .long x.toInt64 :: st, M) o9 := pj_xs (s123_609)
theorem q123_610 : pj_row 123 610 = some (.ldc2_w 67, 3, 0, 0, 4294967295) := by decide +kernel
theorem s123_610 {L : pj_Loc} {st : List Value} {M : pj_Mem}  : pj_step 123 (610, L, st, M) = some (613, L, .long 4294967295 :: st, M) := st_ldc2_w q123_610 (by decide +kernel)
theorem x123_610 {L : pj_Loc} {st : List Value} {M : pj_Mem}  {o9 : Option Value × pj_Mem} : pj_Ends 123 (610, L, st, M) o9 = pj_Ends 123 (613, L, .long 4294967295 :: st, M) o9 := pj_xs (s123_610)
theorem q123_613 : pj_row 123 613 = some (.land, 1, 0, 0, 0) := by decide +kernel
theorem s123_613 {L : pj_Loc} {st : List Value} {M : pj_Mem} {x y : Int64} : pj_step 123 (613, L, .long y :: .long x :: st, M) = some (614, L, .long (x &&& y) :: st, M) := st_land q123_613
theorem x123_613 {L : pj_Loc} {st : List Value} {M : pj_Mem} {x y : Int64} {o9 : Option Value × pj_Mem} : pj_Ends 123 (613, L, .long y :: .long x :: st, M) o9 = pj_Ends 123 (614, L, .long (x &&& y) :: st, M) o9 := pj_xs (s123_613)
theorem q123_614 : pj_row 123 614 = some (.lor, 1, 0, 0, 0) := by decide +kernel
theorem s123_614 {L : pj_Loc} {st : List Value} {M : pj_Mem} {x y : Int64} : pj_step 123 (614, L, .long y :: .long x :: st, M) = some (615, L, .long (x ||| y) :: st, M) := st_lor q123_614
theorem x123_614 {L : pj_Loc} {st : List Value} {M : pj_Mem} {x y : Int64} {o9 : Option Value × pj_Mem} : pj_Ends 123 (614, L, .long y :: .long x :: st, M) o9 = pj_Ends 123 (615, L, .long (x ||| y) :: st, M) o9 := pj_xs (s123_614)
theorem q123_615 : pj_row 123 615 = some (.invokevirtual 69, 3, 51, 2, 0) := by decide +kernel
theorem e123_615 {L : pj_Loc} {st : List Value} {N S : Nat} {H : pj_Heap} {o : Option Value × pj_Mem} {M' : pj_Mem} {x0 : Nat} {x1 : Int64} {r : Int32} (h4 : pj_le4 st = true) (hu : pj_isU 5 (H x0) = true) (h1 : pj_Ends 51 (0, [some (.ref x0), some (.long x1), none, none, none], [], (N, S, H)) (some (.int r), M')) (h2 : pj_Ends 123 (618, L, .int r :: st, M') o) : pj_Ends 123 (615, L, .long x1 :: .ref x0 :: st, (N, S, H)) o := ec_v2 q123_615 (Or.inl rfl) h4 hu rfl h1 h2
theorem q123_618 : pj_row 123 618 = some (.aload_n 2, 1, 0, 0, 0) := by decide +kernel
theorem s123_618 {st : List Value} {M : pj_Mem} {l : pj_Loc} {a0 a1 : Option Value} {x : Nat} : pj_step 123 (618, a0 :: a1 :: some (.ref x) :: l, st, M) = some (619, a0 :: a1 :: some (.ref x) :: l, .ref x :: st, M) := st_aload_n q123_618 rfl
theorem x123_618 {st : List Value} {M : pj_Mem} {l : pj_Loc} {a0 a1 : Option Value} {x : Nat} {o9 : Option Value × pj_Mem} : pj_Ends 123 (618, a0 :: a1 :: some (.ref x) :: l, st, M) o9 = pj_Ends 123 (619, a0 :: a1 :: some (.ref x) :: l, .ref x :: st, M) o9 := pj_xs (s123_618)
theorem q123_619 : pj_row 123 619 = some (.aload_n 0, 1, 0, 0, 0) := by decide +kernel
theorem s123_619 {st : List Value} {M : pj_Mem} {l : pj_Loc} {x : Nat} : pj_step 123 (619, some (.ref x) :: l, st, M) = some (620, some (.ref x) :: l, .ref x :: st, M) := st_aload_n q123_619 rfl
theorem x123_619 {st : List Value} {M : pj_Mem} {l : pj_Loc} {x : Nat} {o9 : Option Value × pj_Mem} : pj_Ends 123 (619, some (.ref x) :: l, st, M) o9 = pj_Ends 123 (620, some (.ref x) :: l, .ref x :: st, M) o9 := pj_xs (s123_619)
theorem q123_620 : pj_row 123 620 = some (.iload_n 3, 1, 0, 0, 0) := by decide +kernel
theorem s123_620 {st : List Value} {M : pj_Mem} {l : pj_Loc} {a0 a1 a2 : Option Value} {x : Int32} : pj_step 123 (620, a0 :: a1 :: a2 :: some (.int x) :: l, st, M) = some (621, a0 :: a1 :: a2 :: some (.int x) :: l, .int x :: st, M) := st_iload_n q123_620 rfl
theorem x123_620 {st : List Value} {M : pj_Mem} {l : pj_Loc} {a0 a1 a2 : Option Value} {x : Int32} {o9 : Option Value × pj_Mem} : pj_Ends 123 (620, a0 :: a1 :: a2 :: some (.int x) :: l, st, M) o9 = pj_Ends 123 (621, a0 :: a1 :: a2 :: some (.int x) :: l, .int x :: st, M) o9 := pj_xs (s123_620)
theorem q123_621 : pj_row 123 621 = some (.iconst 1, 1, 0, 0, 0) := by decide +kernel
theorem s123_621 {L : pj_Loc} {st : List Value} {M : pj_Mem}  : pj_step 123 (621, L, st, M) = some (622, L, .int 1 :: st, M) := st_iconst q123_621 (by decide +kernel)
theorem x123_621 {L : pj_Loc} {st : List Value} {M : pj_Mem}  {o9 : Option Value × pj_Mem} : pj_Ends 123 (621, L, st, M) o9 = pj_Ends 123 (622, L, .int 1 :: st, M) o9 := pj_xs (s123_621)
theorem q123_622 : pj_row 123 622 = some (.iadd, 1, 0, 0, 0) := by decide +kernel
theorem s123_622 {L : pj_Loc} {st : List Value} {M : pj_Mem} {x y : Int32} : pj_step 123 (622, L, .int y :: .int x :: st, M) = some (623, L, .int (x + y) :: st, M) := st_iadd q123_622
theorem x123_622 {L : pj_Loc} {st : List Value} {M : pj_Mem} {x y : Int32} {o9 : Option Value × pj_Mem} : pj_Ends 123 (622, L, .int y :: .int x :: st, M) o9 = pj_Ends 123 (623, L, .int (x + y) :: st, M) o9 := pj_xs (s123_622)
theorem q123_623 : pj_row 123 623 = some (.iaload, 1, 0, 0, 0) := by decide +kernel
theorem s123_623 {L : pj_Loc} {st : List Value} {N S : Nat} {H : pj_Heap} {o : Nat} {i : Int32} : pj_step 123 (623, L, .int i :: .ref o :: st, (N, S, H)) = pj_pi 624 L st (N, S, H) (pj_arl (H o) 0 i) := st_iaload q123_623
theorem x123_623 {L : pj_Loc} {st : List Value} {N S : Nat} {H : pj_Heap} {o : Nat} {i : Int32} {o9 : Option Value × pj_Mem} : pj_Ends 123 (623, L, .int i :: .ref o :: st, (N, S, H)) o9 = pj_then 123 o9 (pj_pi 624 L st (N, S, H) (pj_arl (H o) 0 i)) := pj_xt q123_623 rfl (pj_cl_nc rfl) (s123_623)
theorem q123_624 : pj_row 123 624 = some (.i2l, 1, 0, 0, 0) := by decide +kernel
theorem s123_624 {L : pj_Loc} {st : List Value} {M : pj_Mem} {x : Int32} : pj_step 123 (624, L, .int x :: st, M) = some (625, L, .long x.toInt64 :: st, M) := st_i2l q123_624
theorem x123_624 {L : pj_Loc} {st : List Value} {M : pj_Mem} {x : Int32} {o9 : Option Value × pj_Mem} : pj_Ends 123 (624, L, .int x :: st, M) o9 = pj_Ends 123 (625, L, .long x.toInt64 :: st, M) o9 := pj_xs (s123_624)
theorem q123_625 : pj_row 123 625 = some (.bipush 32, 2, 0, 0, 0) := by decide +kernel
theorem s123_625 {L : pj_Loc} {st : List Value} {M : pj_Mem}  : pj_step 123 (625, L, st, M) = some (627, L, .int 32 :: st, M) := st_bipush q123_625 (by decide +kernel)
theorem x123_625 {L : pj_Loc} {st : List Value} {M : pj_Mem}  {o9 : Option Value × pj_Mem} : pj_Ends 123 (625, L, st, M) o9 = pj_Ends 123 (627, L, .int 32 :: st, M) o9 := pj_xs (s123_625)
theorem q123_627 : pj_row 123 627 = some (.lshl, 1, 0, 0, 0) := by decide +kernel
theorem s123_627 {L : pj_Loc} {st : List Value} {M : pj_Mem} {x : Int64} {y : Int32} : pj_step 123 (627, L, .int y :: .long x :: st, M) = some (628, L, .long (x <<< (y.toInt64 &&& 63)) :: st, M) := st_lshl q123_627
theorem x123_627 {L : pj_Loc} {st : List Value} {M : pj_Mem} {x : Int64} {y : Int32} {o9 : Option Value × pj_Mem} : pj_Ends 123 (627, L, .int y :: .long x :: st, M) o9 = pj_Ends 123 (628, L, .long (x <<< (y.toInt64 &&& 63)) :: st, M) o9 := pj_xs (s123_627)
theorem q123_628 : pj_row 123 628 = some (.aload_n 0, 1, 0, 0, 0) := by decide +kernel
theorem s123_628 {st : List Value} {M : pj_Mem} {l : pj_Loc} {x : Nat} : pj_step 123 (628, some (.ref x) :: l, st, M) = some (629, some (.ref x) :: l, .ref x :: st, M) := st_aload_n q123_628 rfl
theorem x123_628 {st : List Value} {M : pj_Mem} {l : pj_Loc} {x : Nat} {o9 : Option Value × pj_Mem} : pj_Ends 123 (628, some (.ref x) :: l, st, M) o9 = pj_Ends 123 (629, some (.ref x) :: l, .ref x :: st, M) o9 := pj_xs (s123_628)
theorem q123_629 : pj_row 123 629 = some (.iload_n 3, 1, 0, 0, 0) := by decide +kernel
theorem s123_629 {st : List Value} {M : pj_Mem} {l : pj_Loc} {a0 a1 a2 : Option Value} {x : Int32} : pj_step 123 (629, a0 :: a1 :: a2 :: some (.int x) :: l, st, M) = some (630, a0 :: a1 :: a2 :: some (.int x) :: l, .int x :: st, M) := st_iload_n q123_629 rfl
theorem x123_629 {st : List Value} {M : pj_Mem} {l : pj_Loc} {a0 a1 a2 : Option Value} {x : Int32} {o9 : Option Value × pj_Mem} : pj_Ends 123 (629, a0 :: a1 :: a2 :: some (.int x) :: l, st, M) o9 = pj_Ends 123 (630, a0 :: a1 :: a2 :: some (.int x) :: l, .int x :: st, M) o9 := pj_xs (s123_629)
theorem q123_630 : pj_row 123 630 = some (.iconst 2, 1, 0, 0, 0) := by decide +kernel
theorem s123_630 {L : pj_Loc} {st : List Value} {M : pj_Mem}  : pj_step 123 (630, L, st, M) = some (631, L, .int 2 :: st, M) := st_iconst q123_630 (by decide +kernel)
theorem x123_630 {L : pj_Loc} {st : List Value} {M : pj_Mem}  {o9 : Option Value × pj_Mem} : pj_Ends 123 (630, L, st, M) o9 = pj_Ends 123 (631, L, .int 2 :: st, M) o9 := pj_xs (s123_630)
theorem q123_631 : pj_row 123 631 = some (.iadd, 1, 0, 0, 0) := by decide +kernel
theorem s123_631 {L : pj_Loc} {st : List Value} {M : pj_Mem} {x y : Int32} : pj_step 123 (631, L, .int y :: .int x :: st, M) = some (632, L, .int (x + y) :: st, M) := st_iadd q123_631
theorem x123_631 {L : pj_Loc} {st : List Value} {M : pj_Mem} {x y : Int32} {o9 : Option Value × pj_Mem} : pj_Ends 123 (631, L, .int y :: .int x :: st, M) o9 = pj_Ends 123 (632, L, .int (x + y) :: st, M) o9 := pj_xs (s123_631)
theorem q123_632 : pj_row 123 632 = some (.iaload, 1, 0, 0, 0) := by decide +kernel
theorem s123_632 {L : pj_Loc} {st : List Value} {N S : Nat} {H : pj_Heap} {o : Nat} {i : Int32} : pj_step 123 (632, L, .int i :: .ref o :: st, (N, S, H)) = pj_pi 633 L st (N, S, H) (pj_arl (H o) 0 i) := st_iaload q123_632
theorem x123_632 {L : pj_Loc} {st : List Value} {N S : Nat} {H : pj_Heap} {o : Nat} {i : Int32} {o9 : Option Value × pj_Mem} : pj_Ends 123 (632, L, .int i :: .ref o :: st, (N, S, H)) o9 = pj_then 123 o9 (pj_pi 633 L st (N, S, H) (pj_arl (H o) 0 i)) := pj_xt q123_632 rfl (pj_cl_nc rfl) (s123_632)
theorem q123_633 : pj_row 123 633 = some (.i2l, 1, 0, 0, 0) := by decide +kernel
theorem s123_633 {L : pj_Loc} {st : List Value} {M : pj_Mem} {x : Int32} : pj_step 123 (633, L, .int x :: st, M) = some (634, L, .long x.toInt64 :: st, M) := st_i2l q123_633
theorem x123_633 {L : pj_Loc} {st : List Value} {M : pj_Mem} {x : Int32} {o9 : Option Value × pj_Mem} : pj_Ends 123 (633, L, .int x :: st, M) o9 = pj_Ends 123 (634, L, .long x.toInt64 :: st, M) o9 := pj_xs (s123_633)
theorem q123_634 : pj_row 123 634 = some (.ldc2_w 67, 3, 0, 0, 4294967295) := by decide +kernel
theorem s123_634 {L : pj_Loc} {st : List Value} {M : pj_Mem}  : pj_step 123 (634, L, st, M) = some (637, L, .long 4294967295 :: st, M) := st_ldc2_w q123_634 (by decide +kernel)
theorem x123_634 {L : pj_Loc} {st : List Value} {M : pj_Mem}  {o9 : Option Value × pj_Mem} : pj_Ends 123 (634, L, st, M) o9 = pj_Ends 123 (637, L, .long 4294967295 :: st, M) o9 := pj_xs (s123_634)
theorem q123_637 : pj_row 123 637 = some (.land, 1, 0, 0, 0) := by decide +kernel
theorem s123_637 {L : pj_Loc} {st : List Value} {M : pj_Mem} {x y : Int64} : pj_step 123 (637, L, .long y :: .long x :: st, M) = some (638, L, .long (x &&& y) :: st, M) := st_land q123_637
theorem x123_637 {L : pj_Loc} {st : List Value} {M : pj_Mem} {x y : Int64} {o9 : Option Value × pj_Mem} : pj_Ends 123 (637, L, .long y :: .long x :: st, M) o9 = pj_Ends 123 (638, L, .long (x &&& y) :: st, M) o9 := pj_xs (s123_637)
theorem q123_638 : pj_row 123 638 = some (.lor, 1, 0, 0, 0) := by decide +kernel
theorem s123_638 {L : pj_Loc} {st : List Value} {M : pj_Mem} {x y : Int64} : pj_step 123 (638, L, .long y :: .long x :: st, M) = some (639, L, .long (x ||| y) :: st, M) := st_lor q123_638
theorem x123_638 {L : pj_Loc} {st : List Value} {M : pj_Mem} {x y : Int64} {o9 : Option Value × pj_Mem} : pj_Ends 123 (638, L, .long y :: .long x :: st, M) o9 = pj_Ends 123 (639, L, .long (x ||| y) :: st, M) o9 := pj_xs (s123_638)
theorem q123_639 : pj_row 123 639 = some (.invokevirtual 73, 3, 112, 2, 0) := by decide +kernel
theorem e123_639 {L : pj_Loc} {st : List Value} {N S : Nat} {H : pj_Heap} {o : Option Value × pj_Mem} {M' : pj_Mem} {x0 : Nat} {x1 : Int64} {r : Int32} (h4 : pj_le4 st = true) (hu : pj_isU 6 (H x0) = true) (h1 : pj_Ends 112 (0, [some (.ref x0), some (.long x1), none, none, none, none, none, none], [], (N, S, H)) (some (.int r), M')) (h2 : pj_Ends 123 (642, L, .int r :: st, M') o) : pj_Ends 123 (639, L, .long x1 :: .ref x0 :: st, (N, S, H)) o := ec_v2 q123_639 (Or.inl rfl) h4 hu rfl h1 h2
theorem q123_642 : pj_row 123 642 = some (.if_icmp .eq 103, 3, 745, 0, 0) := by decide +kernel
theorem s123_642 {L : pj_Loc} {st : List Value} {M : pj_Mem} {x y : Int32} : pj_step 123 (642, L, .int y :: .int x :: st, M) = some (if x = y then 745 else 645, L, st, M) := st_icmp_eq q123_642
theorem x123_642 {L : pj_Loc} {st : List Value} {M : pj_Mem} {x y : Int32} {o9 : Option Value × pj_Mem} : pj_Ends 123 (642, L, .int y :: .int x :: st, M) o9 = pj_Ends 123 (if x = y then 745 else 645, L, st, M) o9 := pj_xs (s123_642)
theorem q123_645 : pj_row 123 645 = some (.iconst 0, 1, 0, 0, 0) := by decide +kernel
theorem s123_645 {L : pj_Loc} {st : List Value} {M : pj_Mem}  : pj_step 123 (645, L, st, M) = some (646, L, .int 0 :: st, M) := st_iconst q123_645 (by decide +kernel)
theorem x123_645 {L : pj_Loc} {st : List Value} {M : pj_Mem}  {o9 : Option Value × pj_Mem} : pj_Ends 123 (645, L, st, M) o9 = pj_Ends 123 (646, L, .int 0 :: st, M) o9 := pj_xs (s123_645)
theorem q123_646 : pj_row 123 646 = some (.ireturn, 1, 0, 0, 0) := by decide +kernel
theorem t123_646 {L : pj_Loc} {M : pj_Mem} {v : Int32} (hv : v = 0 ∨ v = 1) : pj_Ends 123 (646, L, [.int v], M) (some (.int v), M) := pj_Ends.ret q123_646 (pj_rtn_z rt123 hv)
theorem q123_647 : pj_row 123 647 = some (.aload_n 1, 1, 0, 0, 0) := by decide +kernel
theorem s123_647 {st : List Value} {M : pj_Mem} {l : pj_Loc} {a0 : Option Value} {x : Nat} : pj_step 123 (647, a0 :: some (.ref x) :: l, st, M) = some (648, a0 :: some (.ref x) :: l, .ref x :: st, M) := st_aload_n q123_647 rfl
theorem x123_647 {st : List Value} {M : pj_Mem} {l : pj_Loc} {a0 : Option Value} {x : Nat} {o9 : Option Value × pj_Mem} : pj_Ends 123 (647, a0 :: some (.ref x) :: l, st, M) o9 = pj_Ends 123 (648, a0 :: some (.ref x) :: l, .ref x :: st, M) o9 := pj_xs (s123_647)
theorem q123_648 : pj_row 123 648 = some (.invokevirtual 74, 3, 55, 1, 0) := by decide +kernel
theorem e123_648 {L : pj_Loc} {st : List Value} {N S : Nat} {H : pj_Heap} {o : Option Value × pj_Mem} {M' : pj_Mem} {x0 : Nat} {r : Int32} (h4 : pj_le4 st = true) (hu : pj_isU 5 (H x0) = true) (h1 : pj_Ends 55 (0, [some (.ref x0), none], [], (N, S, H)) (some (.int r), M')) (h2 : pj_Ends 123 (651, L, .int r :: st, M') o) : pj_Ends 123 (648, L, .ref x0 :: st, (N, S, H)) o := ec_v1 q123_648 (Or.inl rfl) h4 hu rfl h1 h2
theorem q123_651 : pj_row 123 651 = some (.aload_n 2, 1, 0, 0, 0) := by decide +kernel
theorem s123_651 {st : List Value} {M : pj_Mem} {l : pj_Loc} {a0 a1 : Option Value} {x : Nat} : pj_step 123 (651, a0 :: a1 :: some (.ref x) :: l, st, M) = some (652, a0 :: a1 :: some (.ref x) :: l, .ref x :: st, M) := st_aload_n q123_651 rfl
theorem x123_651 {st : List Value} {M : pj_Mem} {l : pj_Loc} {a0 a1 : Option Value} {x : Nat} {o9 : Option Value × pj_Mem} : pj_Ends 123 (651, a0 :: a1 :: some (.ref x) :: l, st, M) o9 = pj_Ends 123 (652, a0 :: a1 :: some (.ref x) :: l, .ref x :: st, M) o9 := pj_xs (s123_651)
theorem q123_652 : pj_row 123 652 = some (.invokevirtual 77, 3, 113, 1, 0) := by decide +kernel
theorem e123_652 {L : pj_Loc} {st : List Value} {N S : Nat} {H : pj_Heap} {o : Option Value × pj_Mem} {M' : pj_Mem} {x0 : Nat} {r : Int32} (h4 : pj_le4 st = true) (hu : pj_isU 6 (H x0) = true) (h1 : pj_Ends 113 (0, [some (.ref x0), none], [], (N, S, H)) (some (.int r), M')) (h2 : pj_Ends 123 (655, L, .int r :: st, M') o) : pj_Ends 123 (652, L, .ref x0 :: st, (N, S, H)) o := ec_v1 q123_652 (Or.inl rfl) h4 hu rfl h1 h2
theorem q123_655 : pj_row 123 655 = some (.if_icmp .eq 90, 3, 745, 0, 0) := by decide +kernel
theorem s123_655 {L : pj_Loc} {st : List Value} {M : pj_Mem} {x y : Int32} : pj_step 123 (655, L, .int y :: .int x :: st, M) = some (if x = y then 745 else 658, L, st, M) := st_icmp_eq q123_655
theorem x123_655 {L : pj_Loc} {st : List Value} {M : pj_Mem} {x y : Int32} {o9 : Option Value × pj_Mem} : pj_Ends 123 (655, L, .int y :: .int x :: st, M) o9 = pj_Ends 123 (if x = y then 745 else 658, L, st, M) o9 := pj_xs (s123_655)
theorem q123_658 : pj_row 123 658 = some (.iconst 0, 1, 0, 0, 0) := by decide +kernel
theorem s123_658 {L : pj_Loc} {st : List Value} {M : pj_Mem}  : pj_step 123 (658, L, st, M) = some (659, L, .int 0 :: st, M) := st_iconst q123_658 (by decide +kernel)
theorem x123_658 {L : pj_Loc} {st : List Value} {M : pj_Mem}  {o9 : Option Value × pj_Mem} : pj_Ends 123 (658, L, st, M) o9 = pj_Ends 123 (659, L, .int 0 :: st, M) o9 := pj_xs (s123_658)
theorem q123_659 : pj_row 123 659 = some (.ireturn, 1, 0, 0, 0) := by decide +kernel
theorem t123_659 {L : pj_Loc} {M : pj_Mem} {v : Int32} (hv : v = 0 ∨ v = 1) : pj_Ends 123 (659, L, [.int v], M) (some (.int v), M) := pj_Ends.ret q123_659 (pj_rtn_z rt123 hv)
theorem q123_660 : pj_row 123 660 = some (.aload_n 1, 1, 0, 0, 0) := by decide +kernel
theorem s123_660 {st : List Value} {M : pj_Mem} {l : pj_Loc} {a0 : Option Value} {x : Nat} : pj_step 123 (660, a0 :: some (.ref x) :: l, st, M) = some (661, a0 :: some (.ref x) :: l, .ref x :: st, M) := st_aload_n q123_660 rfl
theorem x123_660 {st : List Value} {M : pj_Mem} {l : pj_Loc} {a0 : Option Value} {x : Nat} {o9 : Option Value × pj_Mem} : pj_Ends 123 (660, a0 :: some (.ref x) :: l, st, M) o9 = pj_Ends 123 (661, a0 :: some (.ref x) :: l, .ref x :: st, M) o9 := pj_xs (s123_660)
theorem q123_661 : pj_row 123 661 = some (.invokevirtual 78, 3, 56, 1, 0) := by decide +kernel
theorem e123_661 {L : pj_Loc} {st : List Value} {N S : Nat} {H : pj_Heap} {o : Option Value × pj_Mem} {M' : pj_Mem} {x0 : Nat} {r : Int32} (h4 : pj_le4 st = true) (hu : pj_isU 5 (H x0) = true) (h1 : pj_Ends 56 (0, [some (.ref x0)], [], (N, S, H)) (some (.int r), M')) (h2 : pj_Ends 123 (664, L, .int r :: st, M') o) : pj_Ends 123 (661, L, .ref x0 :: st, (N, S, H)) o := ec_v1 q123_661 (Or.inl rfl) h4 hu rfl h1 h2
theorem q123_664 : pj_row 123 664 = some (.aload_n 2, 1, 0, 0, 0) := by decide +kernel
theorem s123_664 {st : List Value} {M : pj_Mem} {l : pj_Loc} {a0 a1 : Option Value} {x : Nat} : pj_step 123 (664, a0 :: a1 :: some (.ref x) :: l, st, M) = some (665, a0 :: a1 :: some (.ref x) :: l, .ref x :: st, M) := st_aload_n q123_664 rfl
theorem x123_664 {st : List Value} {M : pj_Mem} {l : pj_Loc} {a0 a1 : Option Value} {x : Nat} {o9 : Option Value × pj_Mem} : pj_Ends 123 (664, a0 :: a1 :: some (.ref x) :: l, st, M) o9 = pj_Ends 123 (665, a0 :: a1 :: some (.ref x) :: l, .ref x :: st, M) o9 := pj_xs (s123_664)
theorem q123_665 : pj_row 123 665 = some (.invokevirtual 81, 3, 114, 1, 0) := by decide +kernel
theorem e123_665 {L : pj_Loc} {st : List Value} {N S : Nat} {H : pj_Heap} {o : Option Value × pj_Mem} {M' : pj_Mem} {x0 : Nat} {r : Int32} (h4 : pj_le4 st = true) (hu : pj_isU 6 (H x0) = true) (h1 : pj_Ends 114 (0, [some (.ref x0), none], [], (N, S, H)) (some (.int r), M')) (h2 : pj_Ends 123 (668, L, .int r :: st, M') o) : pj_Ends 123 (665, L, .ref x0 :: st, (N, S, H)) o := ec_v1 q123_665 (Or.inl rfl) h4 hu rfl h1 h2
theorem q123_668 : pj_row 123 668 = some (.if_icmp .eq 77, 3, 745, 0, 0) := by decide +kernel
theorem s123_668 {L : pj_Loc} {st : List Value} {M : pj_Mem} {x y : Int32} : pj_step 123 (668, L, .int y :: .int x :: st, M) = some (if x = y then 745 else 671, L, st, M) := st_icmp_eq q123_668
theorem x123_668 {L : pj_Loc} {st : List Value} {M : pj_Mem} {x y : Int32} {o9 : Option Value × pj_Mem} : pj_Ends 123 (668, L, .int y :: .int x :: st, M) o9 = pj_Ends 123 (if x = y then 745 else 671, L, st, M) o9 := pj_xs (s123_668)
theorem q123_671 : pj_row 123 671 = some (.iconst 0, 1, 0, 0, 0) := by decide +kernel
theorem s123_671 {L : pj_Loc} {st : List Value} {M : pj_Mem}  : pj_step 123 (671, L, st, M) = some (672, L, .int 0 :: st, M) := st_iconst q123_671 (by decide +kernel)
theorem x123_671 {L : pj_Loc} {st : List Value} {M : pj_Mem}  {o9 : Option Value × pj_Mem} : pj_Ends 123 (671, L, st, M) o9 = pj_Ends 123 (672, L, .int 0 :: st, M) o9 := pj_xs (s123_671)
theorem q123_672 : pj_row 123 672 = some (.ireturn, 1, 0, 0, 0) := by decide +kernel
theorem t123_672 {L : pj_Loc} {M : pj_Mem} {v : Int32} (hv : v = 0 ∨ v = 1) : pj_Ends 123 (672, L, [.int v], M) (some (.int v), M) := pj_Ends.ret q123_672 (pj_rtn_z rt123 hv)
theorem q123_673 : pj_row 123 673 = some (.aload_n 1, 1, 0, 0, 0) := by decide +kernel
theorem s123_673 {st : List Value} {M : pj_Mem} {l : pj_Loc} {a0 : Option Value} {x : Nat} : pj_step 123 (673, a0 :: some (.ref x) :: l, st, M) = some (674, a0 :: some (.ref x) :: l, .ref x :: st, M) := st_aload_n q123_673 rfl
theorem x123_673 {st : List Value} {M : pj_Mem} {l : pj_Loc} {a0 : Option Value} {x : Nat} {o9 : Option Value × pj_Mem} : pj_Ends 123 (673, a0 :: some (.ref x) :: l, st, M) o9 = pj_Ends 123 (674, a0 :: some (.ref x) :: l, .ref x :: st, M) o9 := pj_xs (s123_673)
theorem q123_674 : pj_row 123 674 = some (.invokevirtual 82, 3, 68, 1, 0) := by decide +kernel
theorem e123_674 {L : pj_Loc} {st : List Value} {N S : Nat} {H : pj_Heap} {o : Option Value × pj_Mem} {M' : pj_Mem} {x0 : Nat} {r : Int32} (h4 : pj_le4 st = true) (hu : pj_isU 5 (H x0) = true) (h1 : pj_Ends 68 (0, [some (.ref x0), none, none, none], [], (N, S, H)) (some (.int r), M')) (h2 : pj_Ends 123 (677, L, .int r :: st, M') o) : pj_Ends 123 (674, L, .ref x0 :: st, (N, S, H)) o := ec_v1 q123_674 (Or.inl rfl) h4 hu rfl h1 h2
theorem q123_677 : pj_row 123 677 = some (.aload_n 2, 1, 0, 0, 0) := by decide +kernel
theorem s123_677 {st : List Value} {M : pj_Mem} {l : pj_Loc} {a0 a1 : Option Value} {x : Nat} : pj_step 123 (677, a0 :: a1 :: some (.ref x) :: l, st, M) = some (678, a0 :: a1 :: some (.ref x) :: l, .ref x :: st, M) := st_aload_n q123_677 rfl
theorem x123_677 {st : List Value} {M : pj_Mem} {l : pj_Loc} {a0 a1 : Option Value} {x : Nat} {o9 : Option Value × pj_Mem} : pj_Ends 123 (677, a0 :: a1 :: some (.ref x) :: l, st, M) o9 = pj_Ends 123 (678, a0 :: a1 :: some (.ref x) :: l, .ref x :: st, M) o9 := pj_xs (s123_677)
theorem q123_678 : pj_row 123 678 = some (.invokevirtual 85, 3, 119, 1, 0) := by decide +kernel
theorem e123_678 {L : pj_Loc} {st : List Value} {N S : Nat} {H : pj_Heap} {o : Option Value × pj_Mem} {M' : pj_Mem} {x0 : Nat} {r : Int32} (h4 : pj_le4 st = true) (hu : pj_isU 6 (H x0) = true) (h1 : pj_Ends 119 (0, [some (.ref x0), none, none], [], (N, S, H)) (some (.int r), M')) (h2 : pj_Ends 123 (681, L, .int r :: st, M') o) : pj_Ends 123 (678, L, .ref x0 :: st, (N, S, H)) o := ec_v1 q123_678 (Or.inl rfl) h4 hu rfl h1 h2
theorem q123_681 : pj_row 123 681 = some (.if_icmp .eq 64, 3, 745, 0, 0) := by decide +kernel
theorem s123_681 {L : pj_Loc} {st : List Value} {M : pj_Mem} {x y : Int32} : pj_step 123 (681, L, .int y :: .int x :: st, M) = some (if x = y then 745 else 684, L, st, M) := st_icmp_eq q123_681
theorem x123_681 {L : pj_Loc} {st : List Value} {M : pj_Mem} {x y : Int32} {o9 : Option Value × pj_Mem} : pj_Ends 123 (681, L, .int y :: .int x :: st, M) o9 = pj_Ends 123 (if x = y then 745 else 684, L, st, M) o9 := pj_xs (s123_681)
theorem q123_684 : pj_row 123 684 = some (.iconst 0, 1, 0, 0, 0) := by decide +kernel
theorem s123_684 {L : pj_Loc} {st : List Value} {M : pj_Mem}  : pj_step 123 (684, L, st, M) = some (685, L, .int 0 :: st, M) := st_iconst q123_684 (by decide +kernel)
theorem x123_684 {L : pj_Loc} {st : List Value} {M : pj_Mem}  {o9 : Option Value × pj_Mem} : pj_Ends 123 (684, L, st, M) o9 = pj_Ends 123 (685, L, .int 0 :: st, M) o9 := pj_xs (s123_684)
theorem q123_685 : pj_row 123 685 = some (.ireturn, 1, 0, 0, 0) := by decide +kernel
theorem t123_685 {L : pj_Loc} {M : pj_Mem} {v : Int32} (hv : v = 0 ∨ v = 1) : pj_Ends 123 (685, L, [.int v], M) (some (.int v), M) := pj_Ends.ret q123_685 (pj_rtn_z rt123 hv)
theorem q123_686 : pj_row 123 686 = some (.aload_n 1, 1, 0, 0, 0) := by decide +kernel
theorem s123_686 {st : List Value} {M : pj_Mem} {l : pj_Loc} {a0 : Option Value} {x : Nat} : pj_step 123 (686, a0 :: some (.ref x) :: l, st, M) = some (687, a0 :: some (.ref x) :: l, .ref x :: st, M) := st_aload_n q123_686 rfl
theorem x123_686 {st : List Value} {M : pj_Mem} {l : pj_Loc} {a0 : Option Value} {x : Nat} {o9 : Option Value × pj_Mem} : pj_Ends 123 (686, a0 :: some (.ref x) :: l, st, M) o9 = pj_Ends 123 (687, a0 :: some (.ref x) :: l, .ref x :: st, M) o9 := pj_xs (s123_686)
theorem q123_687 : pj_row 123 687 = some (.invokevirtual 86, 3, 70, 1, 0) := by decide +kernel
theorem e123_687 {L : pj_Loc} {st : List Value} {N S : Nat} {H : pj_Heap} {o : Option Value × pj_Mem} {M' : pj_Mem} {x0 : Nat} {r : Int32} (h4 : pj_le4 st = true) (hu : pj_isU 5 (H x0) = true) (h1 : pj_Ends 70 (0, [some (.ref x0)], [], (N, S, H)) (some (.int r), M')) (h2 : pj_Ends 123 (690, L, .int r :: st, M') o) : pj_Ends 123 (687, L, .ref x0 :: st, (N, S, H)) o := ec_v1 q123_687 (Or.inl rfl) h4 hu rfl h1 h2
theorem q123_690 : pj_row 123 690 = some (.aload_n 2, 1, 0, 0, 0) := by decide +kernel
theorem s123_690 {st : List Value} {M : pj_Mem} {l : pj_Loc} {a0 a1 : Option Value} {x : Nat} : pj_step 123 (690, a0 :: a1 :: some (.ref x) :: l, st, M) = some (691, a0 :: a1 :: some (.ref x) :: l, .ref x :: st, M) := st_aload_n q123_690 rfl
theorem x123_690 {st : List Value} {M : pj_Mem} {l : pj_Loc} {a0 a1 : Option Value} {x : Nat} {o9 : Option Value × pj_Mem} : pj_Ends 123 (690, a0 :: a1 :: some (.ref x) :: l, st, M) o9 = pj_Ends 123 (691, a0 :: a1 :: some (.ref x) :: l, .ref x :: st, M) o9 := pj_xs (s123_690)
theorem q123_691 : pj_row 123 691 = some (.invokevirtual 89, 3, 120, 1, 0) := by decide +kernel
theorem e123_691 {L : pj_Loc} {st : List Value} {N S : Nat} {H : pj_Heap} {o : Option Value × pj_Mem} {M' : pj_Mem} {x0 : Nat} {r : Int32} (h4 : pj_le4 st = true) (hu : pj_isU 6 (H x0) = true) (h1 : pj_Ends 120 (0, [some (.ref x0), none], [], (N, S, H)) (some (.int r), M')) (h2 : pj_Ends 123 (694, L, .int r :: st, M') o) : pj_Ends 123 (691, L, .ref x0 :: st, (N, S, H)) o := ec_v1 q123_691 (Or.inl rfl) h4 hu rfl h1 h2
theorem q123_694 : pj_row 123 694 = some (.if_icmp .eq 51, 3, 745, 0, 0) := by decide +kernel
theorem s123_694 {L : pj_Loc} {st : List Value} {M : pj_Mem} {x y : Int32} : pj_step 123 (694, L, .int y :: .int x :: st, M) = some (if x = y then 745 else 697, L, st, M) := st_icmp_eq q123_694
theorem x123_694 {L : pj_Loc} {st : List Value} {M : pj_Mem} {x y : Int32} {o9 : Option Value × pj_Mem} : pj_Ends 123 (694, L, .int y :: .int x :: st, M) o9 = pj_Ends 123 (if x = y then 745 else 697, L, st, M) o9 := pj_xs (s123_694)
theorem q123_697 : pj_row 123 697 = some (.iconst 0, 1, 0, 0, 0) := by decide +kernel
theorem s123_697 {L : pj_Loc} {st : List Value} {M : pj_Mem}  : pj_step 123 (697, L, st, M) = some (698, L, .int 0 :: st, M) := st_iconst q123_697 (by decide +kernel)
theorem x123_697 {L : pj_Loc} {st : List Value} {M : pj_Mem}  {o9 : Option Value × pj_Mem} : pj_Ends 123 (697, L, st, M) o9 = pj_Ends 123 (698, L, .int 0 :: st, M) o9 := pj_xs (s123_697)
theorem q123_698 : pj_row 123 698 = some (.ireturn, 1, 0, 0, 0) := by decide +kernel
theorem t123_698 {L : pj_Loc} {M : pj_Mem} {v : Int32} (hv : v = 0 ∨ v = 1) : pj_Ends 123 (698, L, [.int v], M) (some (.int v), M) := pj_Ends.ret q123_698 (pj_rtn_z rt123 hv)
theorem q123_699 : pj_row 123 699 = some (.aload_n 1, 1, 0, 0, 0) := by decide +kernel
theorem s123_699 {st : List Value} {M : pj_Mem} {l : pj_Loc} {a0 : Option Value} {x : Nat} : pj_step 123 (699, a0 :: some (.ref x) :: l, st, M) = some (700, a0 :: some (.ref x) :: l, .ref x :: st, M) := st_aload_n q123_699 rfl
theorem x123_699 {st : List Value} {M : pj_Mem} {l : pj_Loc} {a0 : Option Value} {x : Nat} {o9 : Option Value × pj_Mem} : pj_Ends 123 (699, a0 :: some (.ref x) :: l, st, M) o9 = pj_Ends 123 (700, a0 :: some (.ref x) :: l, .ref x :: st, M) o9 := pj_xs (s123_699)
theorem q123_700 : pj_row 123 700 = some (.aload_n 0, 1, 0, 0, 0) := by decide +kernel
theorem s123_700 {st : List Value} {M : pj_Mem} {l : pj_Loc} {x : Nat} : pj_step 123 (700, some (.ref x) :: l, st, M) = some (701, some (.ref x) :: l, .ref x :: st, M) := st_aload_n q123_700 rfl
theorem x123_700 {st : List Value} {M : pj_Mem} {l : pj_Loc} {x : Nat} {o9 : Option Value × pj_Mem} : pj_Ends 123 (700, some (.ref x) :: l, st, M) o9 = pj_Ends 123 (701, some (.ref x) :: l, .ref x :: st, M) o9 := pj_xs (s123_700)
theorem q123_701 : pj_row 123 701 = some (.iload_n 3, 1, 0, 0, 0) := by decide +kernel
theorem s123_701 {st : List Value} {M : pj_Mem} {l : pj_Loc} {a0 a1 a2 : Option Value} {x : Int32} : pj_step 123 (701, a0 :: a1 :: a2 :: some (.int x) :: l, st, M) = some (702, a0 :: a1 :: a2 :: some (.int x) :: l, .int x :: st, M) := st_iload_n q123_701 rfl
theorem x123_701 {st : List Value} {M : pj_Mem} {l : pj_Loc} {a0 a1 a2 : Option Value} {x : Int32} {o9 : Option Value × pj_Mem} : pj_Ends 123 (701, a0 :: a1 :: a2 :: some (.int x) :: l, st, M) o9 = pj_Ends 123 (702, a0 :: a1 :: a2 :: some (.int x) :: l, .int x :: st, M) o9 := pj_xs (s123_701)
theorem q123_702 : pj_row 123 702 = some (.iconst 1, 1, 0, 0, 0) := by decide +kernel
theorem s123_702 {L : pj_Loc} {st : List Value} {M : pj_Mem}  : pj_step 123 (702, L, st, M) = some (703, L, .int 1 :: st, M) := st_iconst q123_702 (by decide +kernel)
theorem x123_702 {L : pj_Loc} {st : List Value} {M : pj_Mem}  {o9 : Option Value × pj_Mem} : pj_Ends 123 (702, L, st, M) o9 = pj_Ends 123 (703, L, .int 1 :: st, M) o9 := pj_xs (s123_702)
theorem q123_703 : pj_row 123 703 = some (.iadd, 1, 0, 0, 0) := by decide +kernel
theorem s123_703 {L : pj_Loc} {st : List Value} {M : pj_Mem} {x y : Int32} : pj_step 123 (703, L, .int y :: .int x :: st, M) = some (704, L, .int (x + y) :: st, M) := st_iadd q123_703
theorem x123_703 {L : pj_Loc} {st : List Value} {M : pj_Mem} {x y : Int32} {o9 : Option Value × pj_Mem} : pj_Ends 123 (703, L, .int y :: .int x :: st, M) o9 = pj_Ends 123 (704, L, .int (x + y) :: st, M) o9 := pj_xs (s123_703)
theorem q123_704 : pj_row 123 704 = some (.iaload, 1, 0, 0, 0) := by decide +kernel
theorem s123_704 {L : pj_Loc} {st : List Value} {N S : Nat} {H : pj_Heap} {o : Nat} {i : Int32} : pj_step 123 (704, L, .int i :: .ref o :: st, (N, S, H)) = pj_pi 705 L st (N, S, H) (pj_arl (H o) 0 i) := st_iaload q123_704
theorem x123_704 {L : pj_Loc} {st : List Value} {N S : Nat} {H : pj_Heap} {o : Nat} {i : Int32} {o9 : Option Value × pj_Mem} : pj_Ends 123 (704, L, .int i :: .ref o :: st, (N, S, H)) o9 = pj_then 123 o9 (pj_pi 705 L st (N, S, H) (pj_arl (H o) 0 i)) := pj_xt q123_704 rfl (pj_cl_nc rfl) (s123_704)
theorem q123_705 : pj_row 123 705 = some (.invokevirtual 90, 3, 71, 2, 0) := by decide +kernel
theorem e123_705 {L : pj_Loc} {st : List Value} {N S : Nat} {H : pj_Heap} {o : Option Value × pj_Mem} {M' : pj_Mem} {x0 : Nat} {x1 : Int32} {r : Int32} (h4 : pj_le4 st = true) (hu : pj_isU 5 (H x0) = true) (h1 : pj_Ends 71 (0, [some (.ref x0), some (.int x1)], [], (N, S, H)) (some (.int r), M')) (h2 : pj_Ends 123 (708, L, .int r :: st, M') o) : pj_Ends 123 (705, L, .int x1 :: .ref x0 :: st, (N, S, H)) o := ec_v2 q123_705 (Or.inl rfl) h4 hu rfl h1 h2
theorem q123_708 : pj_row 123 708 = some (.aload_n 2, 1, 0, 0, 0) := by decide +kernel
theorem s123_708 {st : List Value} {M : pj_Mem} {l : pj_Loc} {a0 a1 : Option Value} {x : Nat} : pj_step 123 (708, a0 :: a1 :: some (.ref x) :: l, st, M) = some (709, a0 :: a1 :: some (.ref x) :: l, .ref x :: st, M) := st_aload_n q123_708 rfl
theorem x123_708 {st : List Value} {M : pj_Mem} {l : pj_Loc} {a0 a1 : Option Value} {x : Nat} {o9 : Option Value × pj_Mem} : pj_Ends 123 (708, a0 :: a1 :: some (.ref x) :: l, st, M) o9 = pj_Ends 123 (709, a0 :: a1 :: some (.ref x) :: l, .ref x :: st, M) o9 := pj_xs (s123_708)
theorem q123_709 : pj_row 123 709 = some (.aload_n 0, 1, 0, 0, 0) := by decide +kernel
theorem s123_709 {st : List Value} {M : pj_Mem} {l : pj_Loc} {x : Nat} : pj_step 123 (709, some (.ref x) :: l, st, M) = some (710, some (.ref x) :: l, .ref x :: st, M) := st_aload_n q123_709 rfl
theorem x123_709 {st : List Value} {M : pj_Mem} {l : pj_Loc} {x : Nat} {o9 : Option Value × pj_Mem} : pj_Ends 123 (709, some (.ref x) :: l, st, M) o9 = pj_Ends 123 (710, some (.ref x) :: l, .ref x :: st, M) o9 := pj_xs (s123_709)
theorem q123_710 : pj_row 123 710 = some (.iload_n 3, 1, 0, 0, 0) := by decide +kernel
theorem s123_710 {st : List Value} {M : pj_Mem} {l : pj_Loc} {a0 a1 a2 : Option Value} {x : Int32} : pj_step 123 (710, a0 :: a1 :: a2 :: some (.int x) :: l, st, M) = some (711, a0 :: a1 :: a2 :: some (.int x) :: l, .int x :: st, M) := st_iload_n q123_710 rfl
theorem x123_710 {st : List Value} {M : pj_Mem} {l : pj_Loc} {a0 a1 a2 : Option Value} {x : Int32} {o9 : Option Value × pj_Mem} : pj_Ends 123 (710, a0 :: a1 :: a2 :: some (.int x) :: l, st, M) o9 = pj_Ends 123 (711, a0 :: a1 :: a2 :: some (.int x) :: l, .int x :: st, M) o9 := pj_xs (s123_710)
theorem q123_711 : pj_row 123 711 = some (.iconst 1, 1, 0, 0, 0) := by decide +kernel
theorem s123_711 {L : pj_Loc} {st : List Value} {M : pj_Mem}  : pj_step 123 (711, L, st, M) = some (712, L, .int 1 :: st, M) := st_iconst q123_711 (by decide +kernel)
theorem x123_711 {L : pj_Loc} {st : List Value} {M : pj_Mem}  {o9 : Option Value × pj_Mem} : pj_Ends 123 (711, L, st, M) o9 = pj_Ends 123 (712, L, .int 1 :: st, M) o9 := pj_xs (s123_711)
theorem q123_712 : pj_row 123 712 = some (.iadd, 1, 0, 0, 0) := by decide +kernel
theorem s123_712 {L : pj_Loc} {st : List Value} {M : pj_Mem} {x y : Int32} : pj_step 123 (712, L, .int y :: .int x :: st, M) = some (713, L, .int (x + y) :: st, M) := st_iadd q123_712
theorem x123_712 {L : pj_Loc} {st : List Value} {M : pj_Mem} {x y : Int32} {o9 : Option Value × pj_Mem} : pj_Ends 123 (712, L, .int y :: .int x :: st, M) o9 = pj_Ends 123 (713, L, .int (x + y) :: st, M) o9 := pj_xs (s123_712)
theorem q123_713 : pj_row 123 713 = some (.iaload, 1, 0, 0, 0) := by decide +kernel
theorem s123_713 {L : pj_Loc} {st : List Value} {N S : Nat} {H : pj_Heap} {o : Nat} {i : Int32} : pj_step 123 (713, L, .int i :: .ref o :: st, (N, S, H)) = pj_pi 714 L st (N, S, H) (pj_arl (H o) 0 i) := st_iaload q123_713
theorem x123_713 {L : pj_Loc} {st : List Value} {N S : Nat} {H : pj_Heap} {o : Nat} {i : Int32} {o9 : Option Value × pj_Mem} : pj_Ends 123 (713, L, .int i :: .ref o :: st, (N, S, H)) o9 = pj_then 123 o9 (pj_pi 714 L st (N, S, H) (pj_arl (H o) 0 i)) := pj_xt q123_713 rfl (pj_cl_nc rfl) (s123_713)
theorem q123_714 : pj_row 123 714 = some (.invokevirtual 93, 3, 121, 2, 0) := by decide +kernel
theorem e123_714 {L : pj_Loc} {st : List Value} {N S : Nat} {H : pj_Heap} {o : Option Value × pj_Mem} {M' : pj_Mem} {x0 : Nat} {x1 : Int32} {r : Int32} (h4 : pj_le4 st = true) (hu : pj_isU 6 (H x0) = true) (h1 : pj_Ends 121 (0, [some (.ref x0), some (.int x1), none], [], (N, S, H)) (some (.int r), M')) (h2 : pj_Ends 123 (717, L, .int r :: st, M') o) : pj_Ends 123 (714, L, .int x1 :: .ref x0 :: st, (N, S, H)) o := ec_v2 q123_714 (Or.inl rfl) h4 hu rfl h1 h2
theorem q123_717 : pj_row 123 717 = some (.if_icmp .eq 28, 3, 745, 0, 0) := by decide +kernel
theorem s123_717 {L : pj_Loc} {st : List Value} {M : pj_Mem} {x y : Int32} : pj_step 123 (717, L, .int y :: .int x :: st, M) = some (if x = y then 745 else 720, L, st, M) := st_icmp_eq q123_717
theorem x123_717 {L : pj_Loc} {st : List Value} {M : pj_Mem} {x y : Int32} {o9 : Option Value × pj_Mem} : pj_Ends 123 (717, L, .int y :: .int x :: st, M) o9 = pj_Ends 123 (if x = y then 745 else 720, L, st, M) o9 := pj_xs (s123_717)
theorem q123_720 : pj_row 123 720 = some (.iconst 0, 1, 0, 0, 0) := by decide +kernel
theorem s123_720 {L : pj_Loc} {st : List Value} {M : pj_Mem}  : pj_step 123 (720, L, st, M) = some (721, L, .int 0 :: st, M) := st_iconst q123_720 (by decide +kernel)
theorem x123_720 {L : pj_Loc} {st : List Value} {M : pj_Mem}  {o9 : Option Value × pj_Mem} : pj_Ends 123 (720, L, st, M) o9 = pj_Ends 123 (721, L, .int 0 :: st, M) o9 := pj_xs (s123_720)
theorem q123_721 : pj_row 123 721 = some (.ireturn, 1, 0, 0, 0) := by decide +kernel
theorem t123_721 {L : pj_Loc} {M : pj_Mem} {v : Int32} (hv : v = 0 ∨ v = 1) : pj_Ends 123 (721, L, [.int v], M) (some (.int v), M) := pj_Ends.ret q123_721 (pj_rtn_z rt123 hv)
theorem q123_722 : pj_row 123 722 = some (.aload_n 1, 1, 0, 0, 0) := by decide +kernel
theorem s123_722 {st : List Value} {M : pj_Mem} {l : pj_Loc} {a0 : Option Value} {x : Nat} : pj_step 123 (722, a0 :: some (.ref x) :: l, st, M) = some (723, a0 :: some (.ref x) :: l, .ref x :: st, M) := st_aload_n q123_722 rfl
theorem x123_722 {st : List Value} {M : pj_Mem} {l : pj_Loc} {a0 : Option Value} {x : Nat} {o9 : Option Value × pj_Mem} : pj_Ends 123 (722, a0 :: some (.ref x) :: l, st, M) o9 = pj_Ends 123 (723, a0 :: some (.ref x) :: l, .ref x :: st, M) o9 := pj_xs (s123_722)
theorem q123_723 : pj_row 123 723 = some (.aload_n 0, 1, 0, 0, 0) := by decide +kernel
theorem s123_723 {st : List Value} {M : pj_Mem} {l : pj_Loc} {x : Nat} : pj_step 123 (723, some (.ref x) :: l, st, M) = some (724, some (.ref x) :: l, .ref x :: st, M) := st_aload_n q123_723 rfl
theorem x123_723 {st : List Value} {M : pj_Mem} {l : pj_Loc} {x : Nat} {o9 : Option Value × pj_Mem} : pj_Ends 123 (723, some (.ref x) :: l, st, M) o9 = pj_Ends 123 (724, some (.ref x) :: l, .ref x :: st, M) o9 := pj_xs (s123_723)
theorem q123_724 : pj_row 123 724 = some (.iload_n 3, 1, 0, 0, 0) := by decide +kernel
theorem s123_724 {st : List Value} {M : pj_Mem} {l : pj_Loc} {a0 a1 a2 : Option Value} {x : Int32} : pj_step 123 (724, a0 :: a1 :: a2 :: some (.int x) :: l, st, M) = some (725, a0 :: a1 :: a2 :: some (.int x) :: l, .int x :: st, M) := st_iload_n q123_724 rfl
theorem x123_724 {st : List Value} {M : pj_Mem} {l : pj_Loc} {a0 a1 a2 : Option Value} {x : Int32} {o9 : Option Value × pj_Mem} : pj_Ends 123 (724, a0 :: a1 :: a2 :: some (.int x) :: l, st, M) o9 = pj_Ends 123 (725, a0 :: a1 :: a2 :: some (.int x) :: l, .int x :: st, M) o9 := pj_xs (s123_724)
theorem q123_725 : pj_row 123 725 = some (.iconst 1, 1, 0, 0, 0) := by decide +kernel
theorem s123_725 {L : pj_Loc} {st : List Value} {M : pj_Mem}  : pj_step 123 (725, L, st, M) = some (726, L, .int 1 :: st, M) := st_iconst q123_725 (by decide +kernel)
theorem x123_725 {L : pj_Loc} {st : List Value} {M : pj_Mem}  {o9 : Option Value × pj_Mem} : pj_Ends 123 (725, L, st, M) o9 = pj_Ends 123 (726, L, .int 1 :: st, M) o9 := pj_xs (s123_725)
theorem q123_726 : pj_row 123 726 = some (.iadd, 1, 0, 0, 0) := by decide +kernel
theorem s123_726 {L : pj_Loc} {st : List Value} {M : pj_Mem} {x y : Int32} : pj_step 123 (726, L, .int y :: .int x :: st, M) = some (727, L, .int (x + y) :: st, M) := st_iadd q123_726
theorem x123_726 {L : pj_Loc} {st : List Value} {M : pj_Mem} {x y : Int32} {o9 : Option Value × pj_Mem} : pj_Ends 123 (726, L, .int y :: .int x :: st, M) o9 = pj_Ends 123 (727, L, .int (x + y) :: st, M) o9 := pj_xs (s123_726)
theorem q123_727 : pj_row 123 727 = some (.iaload, 1, 0, 0, 0) := by decide +kernel
theorem s123_727 {L : pj_Loc} {st : List Value} {N S : Nat} {H : pj_Heap} {o : Nat} {i : Int32} : pj_step 123 (727, L, .int i :: .ref o :: st, (N, S, H)) = pj_pi 728 L st (N, S, H) (pj_arl (H o) 0 i) := st_iaload q123_727
theorem x123_727 {L : pj_Loc} {st : List Value} {N S : Nat} {H : pj_Heap} {o : Nat} {i : Int32} {o9 : Option Value × pj_Mem} : pj_Ends 123 (727, L, .int i :: .ref o :: st, (N, S, H)) o9 = pj_then 123 o9 (pj_pi 728 L st (N, S, H) (pj_arl (H o) 0 i)) := pj_xt q123_727 rfl (pj_cl_nc rfl) (s123_727)
theorem q123_728 : pj_row 123 728 = some (.invokevirtual 94, 3, 72, 2, 0) := by decide +kernel
theorem e123_728 {L : pj_Loc} {st : List Value} {N S : Nat} {H : pj_Heap} {o : Option Value × pj_Mem} {M' : pj_Mem} {x0 : Nat} {x1 : Int32} {r : Int32} (h4 : pj_le4 st = true) (hu : pj_isU 5 (H x0) = true) (h1 : pj_Ends 72 (0, [some (.ref x0), some (.int x1)], [], (N, S, H)) (some (.int r), M')) (h2 : pj_Ends 123 (731, L, .int r :: st, M') o) : pj_Ends 123 (728, L, .int x1 :: .ref x0 :: st, (N, S, H)) o := ec_v2 q123_728 (Or.inl rfl) h4 hu rfl h1 h2
theorem q123_731 : pj_row 123 731 = some (.aload_n 2, 1, 0, 0, 0) := by decide +kernel
theorem s123_731 {st : List Value} {M : pj_Mem} {l : pj_Loc} {a0 a1 : Option Value} {x : Nat} : pj_step 123 (731, a0 :: a1 :: some (.ref x) :: l, st, M) = some (732, a0 :: a1 :: some (.ref x) :: l, .ref x :: st, M) := st_aload_n q123_731 rfl
theorem x123_731 {st : List Value} {M : pj_Mem} {l : pj_Loc} {a0 a1 : Option Value} {x : Nat} {o9 : Option Value × pj_Mem} : pj_Ends 123 (731, a0 :: a1 :: some (.ref x) :: l, st, M) o9 = pj_Ends 123 (732, a0 :: a1 :: some (.ref x) :: l, .ref x :: st, M) o9 := pj_xs (s123_731)
theorem q123_732 : pj_row 123 732 = some (.aload_n 0, 1, 0, 0, 0) := by decide +kernel
theorem s123_732 {st : List Value} {M : pj_Mem} {l : pj_Loc} {x : Nat} : pj_step 123 (732, some (.ref x) :: l, st, M) = some (733, some (.ref x) :: l, .ref x :: st, M) := st_aload_n q123_732 rfl
theorem x123_732 {st : List Value} {M : pj_Mem} {l : pj_Loc} {x : Nat} {o9 : Option Value × pj_Mem} : pj_Ends 123 (732, some (.ref x) :: l, st, M) o9 = pj_Ends 123 (733, some (.ref x) :: l, .ref x :: st, M) o9 := pj_xs (s123_732)
theorem q123_733 : pj_row 123 733 = some (.iload_n 3, 1, 0, 0, 0) := by decide +kernel
theorem s123_733 {st : List Value} {M : pj_Mem} {l : pj_Loc} {a0 a1 a2 : Option Value} {x : Int32} : pj_step 123 (733, a0 :: a1 :: a2 :: some (.int x) :: l, st, M) = some (734, a0 :: a1 :: a2 :: some (.int x) :: l, .int x :: st, M) := st_iload_n q123_733 rfl
theorem x123_733 {st : List Value} {M : pj_Mem} {l : pj_Loc} {a0 a1 a2 : Option Value} {x : Int32} {o9 : Option Value × pj_Mem} : pj_Ends 123 (733, a0 :: a1 :: a2 :: some (.int x) :: l, st, M) o9 = pj_Ends 123 (734, a0 :: a1 :: a2 :: some (.int x) :: l, .int x :: st, M) o9 := pj_xs (s123_733)
theorem q123_734 : pj_row 123 734 = some (.iconst 1, 1, 0, 0, 0) := by decide +kernel
theorem s123_734 {L : pj_Loc} {st : List Value} {M : pj_Mem}  : pj_step 123 (734, L, st, M) = some (735, L, .int 1 :: st, M) := st_iconst q123_734 (by decide +kernel)
theorem x123_734 {L : pj_Loc} {st : List Value} {M : pj_Mem}  {o9 : Option Value × pj_Mem} : pj_Ends 123 (734, L, st, M) o9 = pj_Ends 123 (735, L, .int 1 :: st, M) o9 := pj_xs (s123_734)
theorem q123_735 : pj_row 123 735 = some (.iadd, 1, 0, 0, 0) := by decide +kernel
theorem s123_735 {L : pj_Loc} {st : List Value} {M : pj_Mem} {x y : Int32} : pj_step 123 (735, L, .int y :: .int x :: st, M) = some (736, L, .int (x + y) :: st, M) := st_iadd q123_735
theorem x123_735 {L : pj_Loc} {st : List Value} {M : pj_Mem} {x y : Int32} {o9 : Option Value × pj_Mem} : pj_Ends 123 (735, L, .int y :: .int x :: st, M) o9 = pj_Ends 123 (736, L, .int (x + y) :: st, M) o9 := pj_xs (s123_735)
theorem q123_736 : pj_row 123 736 = some (.iaload, 1, 0, 0, 0) := by decide +kernel
theorem s123_736 {L : pj_Loc} {st : List Value} {N S : Nat} {H : pj_Heap} {o : Nat} {i : Int32} : pj_step 123 (736, L, .int i :: .ref o :: st, (N, S, H)) = pj_pi 737 L st (N, S, H) (pj_arl (H o) 0 i) := st_iaload q123_736
theorem x123_736 {L : pj_Loc} {st : List Value} {N S : Nat} {H : pj_Heap} {o : Nat} {i : Int32} {o9 : Option Value × pj_Mem} : pj_Ends 123 (736, L, .int i :: .ref o :: st, (N, S, H)) o9 = pj_then 123 o9 (pj_pi 737 L st (N, S, H) (pj_arl (H o) 0 i)) := pj_xt q123_736 rfl (pj_cl_nc rfl) (s123_736)
theorem q123_737 : pj_row 123 737 = some (.invokevirtual 97, 3, 122, 2, 0) := by decide +kernel
theorem e123_737 {L : pj_Loc} {st : List Value} {N S : Nat} {H : pj_Heap} {o : Option Value × pj_Mem} {M' : pj_Mem} {x0 : Nat} {x1 : Int32} {r : Int32} (h4 : pj_le4 st = true) (hu : pj_isU 6 (H x0) = true) (h1 : pj_Ends 122 (0, [some (.ref x0), some (.int x1), none], [], (N, S, H)) (some (.int r), M')) (h2 : pj_Ends 123 (740, L, .int r :: st, M') o) : pj_Ends 123 (737, L, .int x1 :: .ref x0 :: st, (N, S, H)) o := ec_v2 q123_737 (Or.inl rfl) h4 hu rfl h1 h2
theorem q123_740 : pj_row 123 740 = some (.if_icmp .eq 5, 3, 745, 0, 0) := by decide +kernel
theorem s123_740 {L : pj_Loc} {st : List Value} {M : pj_Mem} {x y : Int32} : pj_step 123 (740, L, .int y :: .int x :: st, M) = some (if x = y then 745 else 743, L, st, M) := st_icmp_eq q123_740
theorem x123_740 {L : pj_Loc} {st : List Value} {M : pj_Mem} {x y : Int32} {o9 : Option Value × pj_Mem} : pj_Ends 123 (740, L, .int y :: .int x :: st, M) o9 = pj_Ends 123 (if x = y then 745 else 743, L, st, M) o9 := pj_xs (s123_740)
theorem q123_743 : pj_row 123 743 = some (.iconst 0, 1, 0, 0, 0) := by decide +kernel
theorem s123_743 {L : pj_Loc} {st : List Value} {M : pj_Mem}  : pj_step 123 (743, L, st, M) = some (744, L, .int 0 :: st, M) := st_iconst q123_743 (by decide +kernel)
theorem x123_743 {L : pj_Loc} {st : List Value} {M : pj_Mem}  {o9 : Option Value × pj_Mem} : pj_Ends 123 (743, L, st, M) o9 = pj_Ends 123 (744, L, .int 0 :: st, M) o9 := pj_xs (s123_743)
theorem q123_744 : pj_row 123 744 = some (.ireturn, 1, 0, 0, 0) := by decide +kernel
theorem t123_744 {L : pj_Loc} {M : pj_Mem} {v : Int32} (hv : v = 0 ∨ v = 1) : pj_Ends 123 (744, L, [.int v], M) (some (.int v), M) := pj_Ends.ret q123_744 (pj_rtn_z rt123 hv)
theorem q123_745 : pj_row 123 745 = some (.iinc 3 6, 3, 0, 0, 0) := by decide +kernel
theorem s123_745 {st : List Value} {M : pj_Mem} {l : pj_Loc} {a0 a1 a2 : Option Value} {x : Int32} (h : pj_long a2 = false) : pj_step 123 (745, a0 :: a1 :: a2 :: some (.int x) :: l, st, M) = some (748, a0 :: a1 :: a2 :: some (.int (x + 6)) :: l, st, M) := st_iinc q123_745 rfl (congrArg (fun y => x + y) (show Int32.ofInt 6 = 6 by decide +kernel)) (pj_st_3 h)
theorem x123_745 {st : List Value} {M : pj_Mem} {l : pj_Loc} {a0 a1 a2 : Option Value} {x : Int32} (h : pj_long a2 = false) {o9 : Option Value × pj_Mem} : pj_Ends 123 (745, a0 :: a1 :: a2 :: some (.int x) :: l, st, M) o9 = pj_Ends 123 (748, a0 :: a1 :: a2 :: some (.int (x + 6)) :: l, st, M) o9 := pj_xs (s123_745 h)
theorem q123_748 : pj_row 123 748 = some (.goto (-730), 3, 18, 0, 0) := by decide +kernel
theorem s123_748 {L : pj_Loc} {st : List Value} {M : pj_Mem}  : pj_step 123 (748, L, st, M) = some (18, L, st, M) := st_goto q123_748
theorem x123_748 {L : pj_Loc} {st : List Value} {M : pj_Mem}  {o9 : Option Value × pj_Mem} : pj_Ends 123 (748, L, st, M) o9 = pj_Ends 123 (18, L, st, M) o9 := pj_xs (s123_748)
theorem q123_751 : pj_row 123 751 = some (.iconst 1, 1, 0, 0, 0) := by decide +kernel
theorem s123_751 {L : pj_Loc} {st : List Value} {M : pj_Mem}  : pj_step 123 (751, L, st, M) = some (752, L, .int 1 :: st, M) := st_iconst q123_751 (by decide +kernel)
theorem x123_751 {L : pj_Loc} {st : List Value} {M : pj_Mem}  {o9 : Option Value × pj_Mem} : pj_Ends 123 (751, L, st, M) o9 = pj_Ends 123 (752, L, .int 1 :: st, M) o9 := pj_xs (s123_751)
theorem q123_752 : pj_row 123 752 = some (.ireturn, 1, 0, 0, 0) := by decide +kernel
theorem t123_752 {L : pj_Loc} {M : pj_Mem} {v : Int32} (hv : v = 0 ∨ v = 1) : pj_Ends 123 (752, L, [.int v], M) (some (.int v), M) := pj_Ends.ret q123_752 (pj_rtn_z rt123 hv)
