/-! THE STEPS OF EACH METHOD, by program (wip/whole/gen/gen12.py) -/
theorem rt47 : pj_rt 47 = some .int := rfl
theorem q47_0 : pj_row 47 0 = some (.iload_n 1, 1, 0, 0, 0) := by decide +kernel
theorem s47_0 {st : List Value} {M : pj_Mem} {l : pj_Loc} {a0 : Option Value} {x : Int32} : pj_step 47 (0, a0 :: some (.int x) :: l, st, M) = some (1, a0 :: some (.int x) :: l, .int x :: st, M) := st_iload_n q47_0 rfl
theorem x47_0 {st : List Value} {M : pj_Mem} {l : pj_Loc} {a0 : Option Value} {x : Int32} {o9 : Option Value × pj_Mem} : pj_Ends 47 (0, a0 :: some (.int x) :: l, st, M) o9 = pj_Ends 47 (1, a0 :: some (.int x) :: l, .int x :: st, M) o9 := pj_xs (s47_0)
theorem q47_1 : pj_row 47 1 = some (.bipush 8, 2, 0, 0, 0) := by decide +kernel
theorem s47_1 {L : pj_Loc} {st : List Value} {M : pj_Mem}  : pj_step 47 (1, L, st, M) = some (3, L, .int 8 :: st, M) := st_bipush q47_1 (by decide +kernel)
theorem x47_1 {L : pj_Loc} {st : List Value} {M : pj_Mem}  {o9 : Option Value × pj_Mem} : pj_Ends 47 (1, L, st, M) o9 = pj_Ends 47 (3, L, .int 8 :: st, M) o9 := pj_xs (s47_1)
theorem q47_3 : pj_row 47 3 = some (.if_icmp .lt 22, 3, 25, 0, 0) := by decide +kernel
theorem s47_3 {L : pj_Loc} {st : List Value} {M : pj_Mem} {x y : Int32} : pj_step 47 (3, L, .int y :: .int x :: st, M) = some (if x < y then 25 else 6, L, st, M) := st_icmp_lt q47_3
theorem x47_3 {L : pj_Loc} {st : List Value} {M : pj_Mem} {x y : Int32} {o9 : Option Value × pj_Mem} : pj_Ends 47 (3, L, .int y :: .int x :: st, M) o9 = pj_Ends 47 (if x < y then 25 else 6, L, st, M) o9 := pj_xs (s47_3)
theorem q47_6 : pj_row 47 6 = some (.iload_n 1, 1, 0, 0, 0) := by decide +kernel
theorem s47_6 {st : List Value} {M : pj_Mem} {l : pj_Loc} {a0 : Option Value} {x : Int32} : pj_step 47 (6, a0 :: some (.int x) :: l, st, M) = some (7, a0 :: some (.int x) :: l, .int x :: st, M) := st_iload_n q47_6 rfl
theorem x47_6 {st : List Value} {M : pj_Mem} {l : pj_Loc} {a0 : Option Value} {x : Int32} {o9 : Option Value × pj_Mem} : pj_Ends 47 (6, a0 :: some (.int x) :: l, st, M) o9 = pj_Ends 47 (7, a0 :: some (.int x) :: l, .int x :: st, M) o9 := pj_xs (s47_6)
theorem q47_7 : pj_row 47 7 = some (.bipush 14, 2, 0, 0, 0) := by decide +kernel
theorem s47_7 {L : pj_Loc} {st : List Value} {M : pj_Mem}  : pj_step 47 (7, L, st, M) = some (9, L, .int 14 :: st, M) := st_bipush q47_7 (by decide +kernel)
theorem x47_7 {L : pj_Loc} {st : List Value} {M : pj_Mem}  {o9 : Option Value × pj_Mem} : pj_Ends 47 (7, L, st, M) o9 = pj_Ends 47 (9, L, .int 14 :: st, M) o9 := pj_xs (s47_7)
theorem q47_9 : pj_row 47 9 = some (.if_icmp .ge 16, 3, 25, 0, 0) := by decide +kernel
theorem s47_9 {L : pj_Loc} {st : List Value} {M : pj_Mem} {x y : Int32} : pj_step 47 (9, L, .int y :: .int x :: st, M) = some (if y ≤ x then 25 else 12, L, st, M) := st_icmp_ge q47_9
theorem x47_9 {L : pj_Loc} {st : List Value} {M : pj_Mem} {x y : Int32} {o9 : Option Value × pj_Mem} : pj_Ends 47 (9, L, .int y :: .int x :: st, M) o9 = pj_Ends 47 (if y ≤ x then 25 else 12, L, st, M) o9 := pj_xs (s47_9)
theorem q47_12 : pj_row 47 12 = some (.aload_n 0, 1, 0, 0, 0) := by decide +kernel
theorem s47_12 {st : List Value} {M : pj_Mem} {l : pj_Loc} {x : Nat} : pj_step 47 (12, some (.ref x) :: l, st, M) = some (13, some (.ref x) :: l, .ref x :: st, M) := st_aload_n q47_12 rfl
theorem x47_12 {st : List Value} {M : pj_Mem} {l : pj_Loc} {x : Nat} {o9 : Option Value × pj_Mem} : pj_Ends 47 (12, some (.ref x) :: l, st, M) o9 = pj_Ends 47 (13, some (.ref x) :: l, .ref x :: st, M) o9 := pj_xs (s47_12)
theorem q47_13 : pj_row 47 13 = some (.getfield 10, 3, 5, 0, 0) := by decide +kernel
theorem s47_13 {L : pj_Loc} {st : List Value} {N S : Nat} {H : pj_Heap} {o : Nat} : pj_step 47 (13, L, .ref o :: st, (N, S, H)) = pj_pv 16 L st (N, S, H) (pj_fld (H o) 5 0) := st_getfield q47_13
theorem x47_13 {L : pj_Loc} {st : List Value} {N S : Nat} {H : pj_Heap} {o : Nat} {o9 : Option Value × pj_Mem} : pj_Ends 47 (13, L, .ref o :: st, (N, S, H)) o9 = pj_then 47 o9 (pj_pv 16 L st (N, S, H) (pj_fld (H o) 5 0)) := pj_xt q47_13 rfl (pj_cl_nc rfl) (s47_13)
theorem q47_16 : pj_row 47 16 = some (.getfield 58, 3, 4, 0, 0) := by decide +kernel
theorem s47_16 {L : pj_Loc} {st : List Value} {N S : Nat} {H : pj_Heap} {o : Nat} : pj_step 47 (16, L, .ref o :: st, (N, S, H)) = pj_pv 19 L st (N, S, H) (pj_fld (H o) 4 0) := st_getfield q47_16
theorem x47_16 {L : pj_Loc} {st : List Value} {N S : Nat} {H : pj_Heap} {o : Nat} {o9 : Option Value × pj_Mem} : pj_Ends 47 (16, L, .ref o :: st, (N, S, H)) o9 = pj_then 47 o9 (pj_pv 19 L st (N, S, H) (pj_fld (H o) 4 0)) := pj_xt q47_16 rfl (pj_cl_nc rfl) (s47_16)
theorem q47_19 : pj_row 47 19 = some (.iload_n 1, 1, 0, 0, 0) := by decide +kernel
theorem s47_19 {st : List Value} {M : pj_Mem} {l : pj_Loc} {a0 : Option Value} {x : Int32} : pj_step 47 (19, a0 :: some (.int x) :: l, st, M) = some (20, a0 :: some (.int x) :: l, .int x :: st, M) := st_iload_n q47_19 rfl
theorem x47_19 {st : List Value} {M : pj_Mem} {l : pj_Loc} {a0 : Option Value} {x : Int32} {o9 : Option Value × pj_Mem} : pj_Ends 47 (19, a0 :: some (.int x) :: l, st, M) o9 = pj_Ends 47 (20, a0 :: some (.int x) :: l, .int x :: st, M) o9 := pj_xs (s47_19)
theorem q47_20 : pj_row 47 20 = some (.bipush 8, 2, 0, 0, 0) := by decide +kernel
theorem s47_20 {L : pj_Loc} {st : List Value} {M : pj_Mem}  : pj_step 47 (20, L, st, M) = some (22, L, .int 8 :: st, M) := st_bipush q47_20 (by decide +kernel)
theorem x47_20 {L : pj_Loc} {st : List Value} {M : pj_Mem}  {o9 : Option Value × pj_Mem} : pj_Ends 47 (20, L, st, M) o9 = pj_Ends 47 (22, L, .int 8 :: st, M) o9 := pj_xs (s47_20)
theorem q47_22 : pj_row 47 22 = some (.isub, 1, 0, 0, 0) := by decide +kernel
theorem s47_22 {L : pj_Loc} {st : List Value} {M : pj_Mem} {x y : Int32} : pj_step 47 (22, L, .int y :: .int x :: st, M) = some (23, L, .int (x - y) :: st, M) := st_isub q47_22
theorem x47_22 {L : pj_Loc} {st : List Value} {M : pj_Mem} {x y : Int32} {o9 : Option Value × pj_Mem} : pj_Ends 47 (22, L, .int y :: .int x :: st, M) o9 = pj_Ends 47 (23, L, .int (x - y) :: st, M) o9 := pj_xs (s47_22)
theorem q47_23 : pj_row 47 23 = some (.iaload, 1, 0, 0, 0) := by decide +kernel
theorem s47_23 {L : pj_Loc} {st : List Value} {N S : Nat} {H : pj_Heap} {o : Nat} {i : Int32} : pj_step 47 (23, L, .int i :: .ref o :: st, (N, S, H)) = pj_pi 24 L st (N, S, H) (pj_arl (H o) 0 i) := st_iaload q47_23
theorem x47_23 {L : pj_Loc} {st : List Value} {N S : Nat} {H : pj_Heap} {o : Nat} {i : Int32} {o9 : Option Value × pj_Mem} : pj_Ends 47 (23, L, .int i :: .ref o :: st, (N, S, H)) o9 = pj_then 47 o9 (pj_pi 24 L st (N, S, H) (pj_arl (H o) 0 i)) := pj_xt q47_23 rfl (pj_cl_nc rfl) (s47_23)
theorem q47_24 : pj_row 47 24 = some (.ireturn, 1, 0, 0, 0) := by decide +kernel
theorem t47_24 {L : pj_Loc} {M : pj_Mem} {v : Int32} : pj_Ends 47 (24, L, [.int v], M) (some (.int v), M) := pj_Ends.ret q47_24 (pj_rtn_i rt47)
theorem q47_25 : pj_row 47 25 = some (.iload_n 1, 1, 0, 0, 0) := by decide +kernel
theorem s47_25 {st : List Value} {M : pj_Mem} {l : pj_Loc} {a0 : Option Value} {x : Int32} : pj_step 47 (25, a0 :: some (.int x) :: l, st, M) = some (26, a0 :: some (.int x) :: l, .int x :: st, M) := st_iload_n q47_25 rfl
theorem x47_25 {st : List Value} {M : pj_Mem} {l : pj_Loc} {a0 : Option Value} {x : Int32} {o9 : Option Value × pj_Mem} : pj_Ends 47 (25, a0 :: some (.int x) :: l, st, M) o9 = pj_Ends 47 (26, a0 :: some (.int x) :: l, .int x :: st, M) o9 := pj_xs (s47_25)
theorem q47_26 : pj_row 47 26 = some (.tableswitch 174 0 15 #[78, 86, 94, 102, 110, 118, 129, 140, 174, 174, 174, 174, 174, 174, 161, 169], 78, 0, 0, 0) := by decide +kernel
theorem s47_26 {L : pj_Loc} {st : List Value} {M : pj_Mem} {x : Int32} : pj_step 47 (26, L, .int x :: st, M) = some (if x = 0 then 104 else if x = 1 then 112 else if x = 2 then 120 else if x = 3 then 128 else if x = 4 then 136 else if x = 5 then 144 else if x = 6 then 155 else if x = 7 then 166 else if x = 8 then 200 else if x = 9 then 200 else if x = 10 then 200 else if x = 11 then 200 else if x = 12 then 200 else if x = 13 then 200 else if x = 14 then 187 else if x = 15 then 195 else 200, L, st, M) := by
  rw [st_tsw q47_26]
  unfold pj_tsw
  by_cases hr : x.toInt < 0 ∨ 15 < x.toInt
  · simp only
    rw [if_pos hr]
    rw [if_neg (show ¬ x = 0 from fun e => by rw [e] at hr; revert hr; decide)]
    rw [if_neg (show ¬ x = 1 from fun e => by rw [e] at hr; revert hr; decide)]
    rw [if_neg (show ¬ x = 2 from fun e => by rw [e] at hr; revert hr; decide)]
    rw [if_neg (show ¬ x = 3 from fun e => by rw [e] at hr; revert hr; decide)]
    rw [if_neg (show ¬ x = 4 from fun e => by rw [e] at hr; revert hr; decide)]
    rw [if_neg (show ¬ x = 5 from fun e => by rw [e] at hr; revert hr; decide)]
    rw [if_neg (show ¬ x = 6 from fun e => by rw [e] at hr; revert hr; decide)]
    rw [if_neg (show ¬ x = 7 from fun e => by rw [e] at hr; revert hr; decide)]
    rw [if_neg (show ¬ x = 8 from fun e => by rw [e] at hr; revert hr; decide)]
    rw [if_neg (show ¬ x = 9 from fun e => by rw [e] at hr; revert hr; decide)]
    rw [if_neg (show ¬ x = 10 from fun e => by rw [e] at hr; revert hr; decide)]
    rw [if_neg (show ¬ x = 11 from fun e => by rw [e] at hr; revert hr; decide)]
    rw [if_neg (show ¬ x = 12 from fun e => by rw [e] at hr; revert hr; decide)]
    rw [if_neg (show ¬ x = 13 from fun e => by rw [e] at hr; revert hr; decide)]
    rw [if_neg (show ¬ x = 14 from fun e => by rw [e] at hr; revert hr; decide)]
    rw [if_neg (show ¬ x = 15 from fun e => by rw [e] at hr; revert hr; decide)]
    rfl
  · have h3 : x.toInt = 0 ∨ x.toInt = 1 ∨ x.toInt = 2 ∨ x.toInt = 3 ∨ x.toInt = 4 ∨ x.toInt = 5 ∨ x.toInt = 6 ∨ x.toInt = 7 ∨ x.toInt = 8 ∨ x.toInt = 9 ∨ x.toInt = 10 ∨ x.toInt = 11 ∨ x.toInt = 12 ∨ x.toInt = 13 ∨ x.toInt = 14 ∨ x.toInt = 15 := by omega
    rcases h3 with h3 | h3 | h3 | h3 | h3 | h3 | h3 | h3 | h3 | h3 | h3 | h3 | h3 | h3 | h3 | h3
    · have e : x = 0 := Int32.toInt_inj.mp (h3.trans (by decide))
      subst e
      rfl
    · have e : x = 1 := Int32.toInt_inj.mp (h3.trans (by decide))
      subst e
      rfl
    · have e : x = 2 := Int32.toInt_inj.mp (h3.trans (by decide))
      subst e
      rfl
    · have e : x = 3 := Int32.toInt_inj.mp (h3.trans (by decide))
      subst e
      rfl
    · have e : x = 4 := Int32.toInt_inj.mp (h3.trans (by decide))
      subst e
      rfl
    · have e : x = 5 := Int32.toInt_inj.mp (h3.trans (by decide))
      subst e
      rfl
    · have e : x = 6 := Int32.toInt_inj.mp (h3.trans (by decide))
      subst e
      rfl
    · have e : x = 7 := Int32.toInt_inj.mp (h3.trans (by decide))
      subst e
      rfl
    · have e : x = 8 := Int32.toInt_inj.mp (h3.trans (by decide))
      subst e
      rfl
    · have e : x = 9 := Int32.toInt_inj.mp (h3.trans (by decide))
      subst e
      rfl
    · have e : x = 10 := Int32.toInt_inj.mp (h3.trans (by decide))
      subst e
      rfl
    · have e : x = 11 := Int32.toInt_inj.mp (h3.trans (by decide))
      subst e
      rfl
    · have e : x = 12 := Int32.toInt_inj.mp (h3.trans (by decide))
      subst e
      rfl
    · have e : x = 13 := Int32.toInt_inj.mp (h3.trans (by decide))
      subst e
      rfl
    · have e : x = 14 := Int32.toInt_inj.mp (h3.trans (by decide))
      subst e
      rfl
    · have e : x = 15 := Int32.toInt_inj.mp (h3.trans (by decide))
      subst e
      rfl
theorem x47_26 {L : pj_Loc} {st : List Value} {M : pj_Mem} {x : Int32} {o9 : Option Value × pj_Mem} : pj_Ends 47 (26, L, .int x :: st, M) o9 = pj_Ends 47 (if x = 0 then 104 else if x = 1 then 112 else if x = 2 then 120 else if x = 3 then 128 else if x = 4 then 136 else if x = 5 then 144 else if x = 6 then 155 else if x = 7 then 166 else if x = 8 then 200 else if x = 9 then 200 else if x = 10 then 200 else if x = 11 then 200 else if x = 12 then 200 else if x = 13 then 200 else if x = 14 then 187 else if x = 15 then 195 else 200, L, st, M) o9 := pj_xs (s47_26)
theorem q47_104 : pj_row 47 104 = some (.aload_n 0, 1, 0, 0, 0) := by decide +kernel
theorem s47_104 {st : List Value} {M : pj_Mem} {l : pj_Loc} {x : Nat} : pj_step 47 (104, some (.ref x) :: l, st, M) = some (105, some (.ref x) :: l, .ref x :: st, M) := st_aload_n q47_104 rfl
theorem x47_104 {st : List Value} {M : pj_Mem} {l : pj_Loc} {x : Nat} {o9 : Option Value × pj_Mem} : pj_Ends 47 (104, some (.ref x) :: l, st, M) o9 = pj_Ends 47 (105, some (.ref x) :: l, .ref x :: st, M) o9 := pj_xs (s47_104)
theorem q47_105 : pj_row 47 105 = some (.getfield 10, 3, 5, 0, 0) := by decide +kernel
theorem s47_105 {L : pj_Loc} {st : List Value} {N S : Nat} {H : pj_Heap} {o : Nat} : pj_step 47 (105, L, .ref o :: st, (N, S, H)) = pj_pv 108 L st (N, S, H) (pj_fld (H o) 5 0) := st_getfield q47_105
theorem x47_105 {L : pj_Loc} {st : List Value} {N S : Nat} {H : pj_Heap} {o : Nat} {o9 : Option Value × pj_Mem} : pj_Ends 47 (105, L, .ref o :: st, (N, S, H)) o9 = pj_then 47 o9 (pj_pv 108 L st (N, S, H) (pj_fld (H o) 5 0)) := pj_xt q47_105 rfl (pj_cl_nc rfl) (s47_105)
theorem q47_108 : pj_row 47 108 = some (.getfield 65, 3, 4, 10, 0) := by decide +kernel
theorem s47_108 {L : pj_Loc} {st : List Value} {N S : Nat} {H : pj_Heap} {o : Nat} : pj_step 47 (108, L, .ref o :: st, (N, S, H)) = pj_pv 111 L st (N, S, H) (pj_fld (H o) 4 10) := st_getfield q47_108
theorem x47_108 {L : pj_Loc} {st : List Value} {N S : Nat} {H : pj_Heap} {o : Nat} {o9 : Option Value × pj_Mem} : pj_Ends 47 (108, L, .ref o :: st, (N, S, H)) o9 = pj_then 47 o9 (pj_pv 111 L st (N, S, H) (pj_fld (H o) 4 10)) := pj_xt q47_108 rfl (pj_cl_nc rfl) (s47_108)
theorem q47_111 : pj_row 47 111 = some (.ireturn, 1, 0, 0, 0) := by decide +kernel
theorem t47_111 {L : pj_Loc} {M : pj_Mem} {v : Int32} : pj_Ends 47 (111, L, [.int v], M) (some (.int v), M) := pj_Ends.ret q47_111 (pj_rtn_i rt47)
theorem q47_112 : pj_row 47 112 = some (.aload_n 0, 1, 0, 0, 0) := by decide +kernel
theorem s47_112 {st : List Value} {M : pj_Mem} {l : pj_Loc} {x : Nat} : pj_step 47 (112, some (.ref x) :: l, st, M) = some (113, some (.ref x) :: l, .ref x :: st, M) := st_aload_n q47_112 rfl
theorem x47_112 {st : List Value} {M : pj_Mem} {l : pj_Loc} {x : Nat} {o9 : Option Value × pj_Mem} : pj_Ends 47 (112, some (.ref x) :: l, st, M) o9 = pj_Ends 47 (113, some (.ref x) :: l, .ref x :: st, M) o9 := pj_xs (s47_112)
theorem q47_113 : pj_row 47 113 = some (.getfield 10, 3, 5, 0, 0) := by decide +kernel
theorem s47_113 {L : pj_Loc} {st : List Value} {N S : Nat} {H : pj_Heap} {o : Nat} : pj_step 47 (113, L, .ref o :: st, (N, S, H)) = pj_pv 116 L st (N, S, H) (pj_fld (H o) 5 0) := st_getfield q47_113
theorem x47_113 {L : pj_Loc} {st : List Value} {N S : Nat} {H : pj_Heap} {o : Nat} {o9 : Option Value × pj_Mem} : pj_Ends 47 (113, L, .ref o :: st, (N, S, H)) o9 = pj_then 47 o9 (pj_pv 116 L st (N, S, H) (pj_fld (H o) 5 0)) := pj_xt q47_113 rfl (pj_cl_nc rfl) (s47_113)
theorem q47_116 : pj_row 47 116 = some (.getfield 135, 3, 4, 9, 0) := by decide +kernel
theorem s47_116 {L : pj_Loc} {st : List Value} {N S : Nat} {H : pj_Heap} {o : Nat} : pj_step 47 (116, L, .ref o :: st, (N, S, H)) = pj_pv 119 L st (N, S, H) (pj_fld (H o) 4 9) := st_getfield q47_116
theorem x47_116 {L : pj_Loc} {st : List Value} {N S : Nat} {H : pj_Heap} {o : Nat} {o9 : Option Value × pj_Mem} : pj_Ends 47 (116, L, .ref o :: st, (N, S, H)) o9 = pj_then 47 o9 (pj_pv 119 L st (N, S, H) (pj_fld (H o) 4 9)) := pj_xt q47_116 rfl (pj_cl_nc rfl) (s47_116)
theorem q47_119 : pj_row 47 119 = some (.ireturn, 1, 0, 0, 0) := by decide +kernel
theorem t47_119 {L : pj_Loc} {M : pj_Mem} {v : Int32} : pj_Ends 47 (119, L, [.int v], M) (some (.int v), M) := pj_Ends.ret q47_119 (pj_rtn_i rt47)
theorem q47_120 : pj_row 47 120 = some (.aload_n 0, 1, 0, 0, 0) := by decide +kernel
theorem s47_120 {st : List Value} {M : pj_Mem} {l : pj_Loc} {x : Nat} : pj_step 47 (120, some (.ref x) :: l, st, M) = some (121, some (.ref x) :: l, .ref x :: st, M) := st_aload_n q47_120 rfl
theorem x47_120 {st : List Value} {M : pj_Mem} {l : pj_Loc} {x : Nat} {o9 : Option Value × pj_Mem} : pj_Ends 47 (120, some (.ref x) :: l, st, M) o9 = pj_Ends 47 (121, some (.ref x) :: l, .ref x :: st, M) o9 := pj_xs (s47_120)
theorem q47_121 : pj_row 47 121 = some (.getfield 10, 3, 5, 0, 0) := by decide +kernel
theorem s47_121 {L : pj_Loc} {st : List Value} {N S : Nat} {H : pj_Heap} {o : Nat} : pj_step 47 (121, L, .ref o :: st, (N, S, H)) = pj_pv 124 L st (N, S, H) (pj_fld (H o) 5 0) := st_getfield q47_121
theorem x47_121 {L : pj_Loc} {st : List Value} {N S : Nat} {H : pj_Heap} {o : Nat} {o9 : Option Value × pj_Mem} : pj_Ends 47 (121, L, .ref o :: st, (N, S, H)) o9 = pj_then 47 o9 (pj_pv 124 L st (N, S, H) (pj_fld (H o) 5 0)) := pj_xt q47_121 rfl (pj_cl_nc rfl) (s47_121)
theorem q47_124 : pj_row 47 124 = some (.getfield 95, 3, 4, 7, 0) := by decide +kernel
theorem s47_124 {L : pj_Loc} {st : List Value} {N S : Nat} {H : pj_Heap} {o : Nat} : pj_step 47 (124, L, .ref o :: st, (N, S, H)) = pj_pv 127 L st (N, S, H) (pj_fld (H o) 4 7) := st_getfield q47_124
theorem x47_124 {L : pj_Loc} {st : List Value} {N S : Nat} {H : pj_Heap} {o : Nat} {o9 : Option Value × pj_Mem} : pj_Ends 47 (124, L, .ref o :: st, (N, S, H)) o9 = pj_then 47 o9 (pj_pv 127 L st (N, S, H) (pj_fld (H o) 4 7)) := pj_xt q47_124 rfl (pj_cl_nc rfl) (s47_124)
theorem q47_127 : pj_row 47 127 = some (.ireturn, 1, 0, 0, 0) := by decide +kernel
theorem t47_127 {L : pj_Loc} {M : pj_Mem} {v : Int32} : pj_Ends 47 (127, L, [.int v], M) (some (.int v), M) := pj_Ends.ret q47_127 (pj_rtn_i rt47)
theorem q47_128 : pj_row 47 128 = some (.aload_n 0, 1, 0, 0, 0) := by decide +kernel
theorem s47_128 {st : List Value} {M : pj_Mem} {l : pj_Loc} {x : Nat} : pj_step 47 (128, some (.ref x) :: l, st, M) = some (129, some (.ref x) :: l, .ref x :: st, M) := st_aload_n q47_128 rfl
theorem x47_128 {st : List Value} {M : pj_Mem} {l : pj_Loc} {x : Nat} {o9 : Option Value × pj_Mem} : pj_Ends 47 (128, some (.ref x) :: l, st, M) o9 = pj_Ends 47 (129, some (.ref x) :: l, .ref x :: st, M) o9 := pj_xs (s47_128)
theorem q47_129 : pj_row 47 129 = some (.getfield 10, 3, 5, 0, 0) := by decide +kernel
theorem s47_129 {L : pj_Loc} {st : List Value} {N S : Nat} {H : pj_Heap} {o : Nat} : pj_step 47 (129, L, .ref o :: st, (N, S, H)) = pj_pv 132 L st (N, S, H) (pj_fld (H o) 5 0) := st_getfield q47_129
theorem x47_129 {L : pj_Loc} {st : List Value} {N S : Nat} {H : pj_Heap} {o : Nat} {o9 : Option Value × pj_Mem} : pj_Ends 47 (129, L, .ref o :: st, (N, S, H)) o9 = pj_then 47 o9 (pj_pv 132 L st (N, S, H) (pj_fld (H o) 5 0)) := pj_xt q47_129 rfl (pj_cl_nc rfl) (s47_129)
theorem q47_132 : pj_row 47 132 = some (.invokevirtual 91, 3, 40, 1, 0) := by decide +kernel
theorem e47_132 {L : pj_Loc} {st : List Value} {N S : Nat} {H : pj_Heap} {o : Option Value × pj_Mem} {M' : pj_Mem} {x0 : Nat} {r : Int32} (h4 : pj_le4 st = true) (hu : pj_isU 4 (H x0) = true) (h1 : pj_Ends 40 (0, [some (.ref x0), none, none], [], (N, S, H)) (some (.int r), M')) (h2 : pj_Ends 47 (135, L, .int r :: st, M') o) : pj_Ends 47 (132, L, .ref x0 :: st, (N, S, H)) o := ec_v1 q47_132 (Or.inl rfl) h4 hu rfl h1 h2
theorem q47_135 : pj_row 47 135 = some (.ireturn, 1, 0, 0, 0) := by decide +kernel
theorem t47_135 {L : pj_Loc} {M : pj_Mem} {v : Int32} : pj_Ends 47 (135, L, [.int v], M) (some (.int v), M) := pj_Ends.ret q47_135 (pj_rtn_i rt47)
theorem q47_136 : pj_row 47 136 = some (.aload_n 0, 1, 0, 0, 0) := by decide +kernel
theorem s47_136 {st : List Value} {M : pj_Mem} {l : pj_Loc} {x : Nat} : pj_step 47 (136, some (.ref x) :: l, st, M) = some (137, some (.ref x) :: l, .ref x :: st, M) := st_aload_n q47_136 rfl
theorem x47_136 {st : List Value} {M : pj_Mem} {l : pj_Loc} {x : Nat} {o9 : Option Value × pj_Mem} : pj_Ends 47 (136, some (.ref x) :: l, st, M) o9 = pj_Ends 47 (137, some (.ref x) :: l, .ref x :: st, M) o9 := pj_xs (s47_136)
theorem q47_137 : pj_row 47 137 = some (.getfield 10, 3, 5, 0, 0) := by decide +kernel
theorem s47_137 {L : pj_Loc} {st : List Value} {N S : Nat} {H : pj_Heap} {o : Nat} : pj_step 47 (137, L, .ref o :: st, (N, S, H)) = pj_pv 140 L st (N, S, H) (pj_fld (H o) 5 0) := st_getfield q47_137
theorem x47_137 {L : pj_Loc} {st : List Value} {N S : Nat} {H : pj_Heap} {o : Nat} {o9 : Option Value × pj_Mem} : pj_Ends 47 (137, L, .ref o :: st, (N, S, H)) o9 = pj_then 47 o9 (pj_pv 140 L st (N, S, H) (pj_fld (H o) 5 0)) := pj_xt q47_137 rfl (pj_cl_nc rfl) (s47_137)
theorem q47_140 : pj_row 47 140 = some (.getfield 74, 3, 4, 8, 0) := by decide +kernel
theorem s47_140 {L : pj_Loc} {st : List Value} {N S : Nat} {H : pj_Heap} {o : Nat} : pj_step 47 (140, L, .ref o :: st, (N, S, H)) = pj_pv 143 L st (N, S, H) (pj_fld (H o) 4 8) := st_getfield q47_140
theorem x47_140 {L : pj_Loc} {st : List Value} {N S : Nat} {H : pj_Heap} {o : Nat} {o9 : Option Value × pj_Mem} : pj_Ends 47 (140, L, .ref o :: st, (N, S, H)) o9 = pj_then 47 o9 (pj_pv 143 L st (N, S, H) (pj_fld (H o) 4 8)) := pj_xt q47_140 rfl (pj_cl_nc rfl) (s47_140)
theorem q47_143 : pj_row 47 143 = some (.ireturn, 1, 0, 0, 0) := by decide +kernel
theorem t47_143 {L : pj_Loc} {M : pj_Mem} {v : Int32} : pj_Ends 47 (143, L, [.int v], M) (some (.int v), M) := pj_Ends.ret q47_143 (pj_rtn_i rt47)
theorem q47_144 : pj_row 47 144 = some (.aload_n 0, 1, 0, 0, 0) := by decide +kernel
theorem s47_144 {st : List Value} {M : pj_Mem} {l : pj_Loc} {x : Nat} : pj_step 47 (144, some (.ref x) :: l, st, M) = some (145, some (.ref x) :: l, .ref x :: st, M) := st_aload_n q47_144 rfl
theorem x47_144 {st : List Value} {M : pj_Mem} {l : pj_Loc} {x : Nat} {o9 : Option Value × pj_Mem} : pj_Ends 47 (144, some (.ref x) :: l, st, M) o9 = pj_Ends 47 (145, some (.ref x) :: l, .ref x :: st, M) o9 := pj_xs (s47_144)
theorem q47_145 : pj_row 47 145 = some (.getfield 10, 3, 5, 0, 0) := by decide +kernel
theorem s47_145 {L : pj_Loc} {st : List Value} {N S : Nat} {H : pj_Heap} {o : Nat} : pj_step 47 (145, L, .ref o :: st, (N, S, H)) = pj_pv 148 L st (N, S, H) (pj_fld (H o) 5 0) := st_getfield q47_145
theorem x47_145 {L : pj_Loc} {st : List Value} {N S : Nat} {H : pj_Heap} {o : Nat} {o9 : Option Value × pj_Mem} : pj_Ends 47 (145, L, .ref o :: st, (N, S, H)) o9 = pj_then 47 o9 (pj_pv 148 L st (N, S, H) (pj_fld (H o) 5 0)) := pj_xt q47_145 rfl (pj_cl_nc rfl) (s47_145)
theorem q47_148 : pj_row 47 148 = some (.getfield 123, 3, 4, 6, 0) := by decide +kernel
theorem s47_148 {L : pj_Loc} {st : List Value} {N S : Nat} {H : pj_Heap} {o : Nat} : pj_step 47 (148, L, .ref o :: st, (N, S, H)) = pj_pv 151 L st (N, S, H) (pj_fld (H o) 4 6) := st_getfield q47_148
theorem x47_148 {L : pj_Loc} {st : List Value} {N S : Nat} {H : pj_Heap} {o : Nat} {o9 : Option Value × pj_Mem} : pj_Ends 47 (148, L, .ref o :: st, (N, S, H)) o9 = pj_then 47 o9 (pj_pv 151 L st (N, S, H) (pj_fld (H o) 4 6)) := pj_xt q47_148 rfl (pj_cl_nc rfl) (s47_148)
theorem q47_151 : pj_row 47 151 = some (.getfield 127, 3, 2, 1, 0) := by decide +kernel
theorem s47_151 {L : pj_Loc} {st : List Value} {N S : Nat} {H : pj_Heap} {o : Nat} : pj_step 47 (151, L, .ref o :: st, (N, S, H)) = pj_pv 154 L st (N, S, H) (pj_fld (H o) 2 1) := st_getfield q47_151
theorem x47_151 {L : pj_Loc} {st : List Value} {N S : Nat} {H : pj_Heap} {o : Nat} {o9 : Option Value × pj_Mem} : pj_Ends 47 (151, L, .ref o :: st, (N, S, H)) o9 = pj_then 47 o9 (pj_pv 154 L st (N, S, H) (pj_fld (H o) 2 1)) := pj_xt q47_151 rfl (pj_cl_nc rfl) (s47_151)
theorem q47_154 : pj_row 47 154 = some (.ireturn, 1, 0, 0, 0) := by decide +kernel
theorem t47_154 {L : pj_Loc} {M : pj_Mem} {v : Int32} : pj_Ends 47 (154, L, [.int v], M) (some (.int v), M) := pj_Ends.ret q47_154 (pj_rtn_i rt47)
theorem q47_155 : pj_row 47 155 = some (.aload_n 0, 1, 0, 0, 0) := by decide +kernel
theorem s47_155 {st : List Value} {M : pj_Mem} {l : pj_Loc} {x : Nat} : pj_step 47 (155, some (.ref x) :: l, st, M) = some (156, some (.ref x) :: l, .ref x :: st, M) := st_aload_n q47_155 rfl
theorem x47_155 {st : List Value} {M : pj_Mem} {l : pj_Loc} {x : Nat} {o9 : Option Value × pj_Mem} : pj_Ends 47 (155, some (.ref x) :: l, st, M) o9 = pj_Ends 47 (156, some (.ref x) :: l, .ref x :: st, M) o9 := pj_xs (s47_155)
theorem q47_156 : pj_row 47 156 = some (.getfield 10, 3, 5, 0, 0) := by decide +kernel
theorem s47_156 {L : pj_Loc} {st : List Value} {N S : Nat} {H : pj_Heap} {o : Nat} : pj_step 47 (156, L, .ref o :: st, (N, S, H)) = pj_pv 159 L st (N, S, H) (pj_fld (H o) 5 0) := st_getfield q47_156
theorem x47_156 {L : pj_Loc} {st : List Value} {N S : Nat} {H : pj_Heap} {o : Nat} {o9 : Option Value × pj_Mem} : pj_Ends 47 (156, L, .ref o :: st, (N, S, H)) o9 = pj_then 47 o9 (pj_pv 159 L st (N, S, H) (pj_fld (H o) 5 0)) := pj_xt q47_156 rfl (pj_cl_nc rfl) (s47_156)
theorem q47_159 : pj_row 47 159 = some (.getfield 123, 3, 4, 6, 0) := by decide +kernel
theorem s47_159 {L : pj_Loc} {st : List Value} {N S : Nat} {H : pj_Heap} {o : Nat} : pj_step 47 (159, L, .ref o :: st, (N, S, H)) = pj_pv 162 L st (N, S, H) (pj_fld (H o) 4 6) := st_getfield q47_159
theorem x47_159 {L : pj_Loc} {st : List Value} {N S : Nat} {H : pj_Heap} {o : Nat} {o9 : Option Value × pj_Mem} : pj_Ends 47 (159, L, .ref o :: st, (N, S, H)) o9 = pj_then 47 o9 (pj_pv 162 L st (N, S, H) (pj_fld (H o) 4 6)) := pj_xt q47_159 rfl (pj_cl_nc rfl) (s47_159)
theorem q47_162 : pj_row 47 162 = some (.getfield 138, 3, 2, 2, 0) := by decide +kernel
theorem s47_162 {L : pj_Loc} {st : List Value} {N S : Nat} {H : pj_Heap} {o : Nat} : pj_step 47 (162, L, .ref o :: st, (N, S, H)) = pj_pv 165 L st (N, S, H) (pj_fld (H o) 2 2) := st_getfield q47_162
theorem x47_162 {L : pj_Loc} {st : List Value} {N S : Nat} {H : pj_Heap} {o : Nat} {o9 : Option Value × pj_Mem} : pj_Ends 47 (162, L, .ref o :: st, (N, S, H)) o9 = pj_then 47 o9 (pj_pv 165 L st (N, S, H) (pj_fld (H o) 2 2)) := pj_xt q47_162 rfl (pj_cl_nc rfl) (s47_162)
theorem q47_165 : pj_row 47 165 = some (.ireturn, 1, 0, 0, 0) := by decide +kernel
theorem t47_165 {L : pj_Loc} {M : pj_Mem} {v : Int32} : pj_Ends 47 (165, L, [.int v], M) (some (.int v), M) := pj_Ends.ret q47_165 (pj_rtn_i rt47)
theorem q47_166 : pj_row 47 166 = some (.aload_n 0, 1, 0, 0, 0) := by decide +kernel
theorem s47_166 {st : List Value} {M : pj_Mem} {l : pj_Loc} {x : Nat} : pj_step 47 (166, some (.ref x) :: l, st, M) = some (167, some (.ref x) :: l, .ref x :: st, M) := st_aload_n q47_166 rfl
theorem x47_166 {st : List Value} {M : pj_Mem} {l : pj_Loc} {x : Nat} {o9 : Option Value × pj_Mem} : pj_Ends 47 (166, some (.ref x) :: l, st, M) o9 = pj_Ends 47 (167, some (.ref x) :: l, .ref x :: st, M) o9 := pj_xs (s47_166)
theorem q47_167 : pj_row 47 167 = some (.getfield 10, 3, 5, 0, 0) := by decide +kernel
theorem s47_167 {L : pj_Loc} {st : List Value} {N S : Nat} {H : pj_Heap} {o : Nat} : pj_step 47 (167, L, .ref o :: st, (N, S, H)) = pj_pv 170 L st (N, S, H) (pj_fld (H o) 5 0) := st_getfield q47_167
theorem x47_167 {L : pj_Loc} {st : List Value} {N S : Nat} {H : pj_Heap} {o : Nat} {o9 : Option Value × pj_Mem} : pj_Ends 47 (167, L, .ref o :: st, (N, S, H)) o9 = pj_then 47 o9 (pj_pv 170 L st (N, S, H) (pj_fld (H o) 5 0)) := pj_xt q47_167 rfl (pj_cl_nc rfl) (s47_167)
theorem q47_170 : pj_row 47 170 = some (.getfield 123, 3, 4, 6, 0) := by decide +kernel
theorem s47_170 {L : pj_Loc} {st : List Value} {N S : Nat} {H : pj_Heap} {o : Nat} : pj_step 47 (170, L, .ref o :: st, (N, S, H)) = pj_pv 173 L st (N, S, H) (pj_fld (H o) 4 6) := st_getfield q47_170
theorem x47_170 {L : pj_Loc} {st : List Value} {N S : Nat} {H : pj_Heap} {o : Nat} {o9 : Option Value × pj_Mem} : pj_Ends 47 (170, L, .ref o :: st, (N, S, H)) o9 = pj_then 47 o9 (pj_pv 173 L st (N, S, H) (pj_fld (H o) 4 6)) := pj_xt q47_170 rfl (pj_cl_nc rfl) (s47_170)
theorem q47_173 : pj_row 47 173 = some (.aload_n 0, 1, 0, 0, 0) := by decide +kernel
theorem s47_173 {st : List Value} {M : pj_Mem} {l : pj_Loc} {x : Nat} : pj_step 47 (173, some (.ref x) :: l, st, M) = some (174, some (.ref x) :: l, .ref x :: st, M) := st_aload_n q47_173 rfl
theorem x47_173 {st : List Value} {M : pj_Mem} {l : pj_Loc} {x : Nat} {o9 : Option Value × pj_Mem} : pj_Ends 47 (173, some (.ref x) :: l, st, M) o9 = pj_Ends 47 (174, some (.ref x) :: l, .ref x :: st, M) o9 := pj_xs (s47_173)
theorem q47_174 : pj_row 47 174 = some (.getfield 10, 3, 5, 0, 0) := by decide +kernel
theorem s47_174 {L : pj_Loc} {st : List Value} {N S : Nat} {H : pj_Heap} {o : Nat} : pj_step 47 (174, L, .ref o :: st, (N, S, H)) = pj_pv 177 L st (N, S, H) (pj_fld (H o) 5 0) := st_getfield q47_174
theorem x47_174 {L : pj_Loc} {st : List Value} {N S : Nat} {H : pj_Heap} {o : Nat} {o9 : Option Value × pj_Mem} : pj_Ends 47 (174, L, .ref o :: st, (N, S, H)) o9 = pj_then 47 o9 (pj_pv 177 L st (N, S, H) (pj_fld (H o) 5 0)) := pj_xt q47_174 rfl (pj_cl_nc rfl) (s47_174)
theorem q47_177 : pj_row 47 177 = some (.getfield 65, 3, 4, 10, 0) := by decide +kernel
theorem s47_177 {L : pj_Loc} {st : List Value} {N S : Nat} {H : pj_Heap} {o : Nat} : pj_step 47 (177, L, .ref o :: st, (N, S, H)) = pj_pv 180 L st (N, S, H) (pj_fld (H o) 4 10) := st_getfield q47_177
theorem x47_177 {L : pj_Loc} {st : List Value} {N S : Nat} {H : pj_Heap} {o : Nat} {o9 : Option Value × pj_Mem} : pj_Ends 47 (177, L, .ref o :: st, (N, S, H)) o9 = pj_then 47 o9 (pj_pv 180 L st (N, S, H) (pj_fld (H o) 4 10)) := pj_xt q47_177 rfl (pj_cl_nc rfl) (s47_177)
theorem q47_180 : pj_row 47 180 = some (.invokevirtual 141, 3, 34, 2, 0) := by decide +kernel
theorem e47_180 {L : pj_Loc} {st : List Value} {N S : Nat} {H : pj_Heap} {o : Option Value × pj_Mem} {M' : pj_Mem} {x0 : Nat} {x1 : Int32} {r : Int32} (h4 : pj_le4 st = true) (hu : pj_isU 2 (H x0) = true) (h1 : pj_Ends 34 (0, [some (.ref x0), some (.int x1)], [], (N, S, H)) (some (.int r), M')) (h2 : pj_Ends 47 (183, L, .int r :: st, M') o) : pj_Ends 47 (180, L, .int x1 :: .ref x0 :: st, (N, S, H)) o := ec_v2 q47_180 (Or.inl rfl) h4 hu rfl h1 h2
theorem q47_183 : pj_row 47 183 = some (.invokestatic 116, 3, 37, 1, 0) := by decide +kernel
theorem e47_183 {L : pj_Loc} {st : List Value} {N S : Nat} {H : pj_Heap} {o : Option Value × pj_Mem} {M' : pj_Mem} {x0 : Int32} {r : Int32} (h4 : pj_le4 st = true) (h1 : pj_Ends 37 (0, [some (.int x0)], [], (N, S, H)) (some (.int r), M')) (h2 : pj_Ends 47 (186, L, .int r :: st, M') o) : pj_Ends 47 (183, L, .int x0 :: st, (N, S, H)) o := ec_s1 q47_183 (Or.inl rfl) h4 rfl h1 h2
theorem q47_186 : pj_row 47 186 = some (.ireturn, 1, 0, 0, 0) := by decide +kernel
theorem t47_186 {L : pj_Loc} {M : pj_Mem} {v : Int32} : pj_Ends 47 (186, L, [.int v], M) (some (.int v), M) := pj_Ends.ret q47_186 (pj_rtn_i rt47)
theorem q47_187 : pj_row 47 187 = some (.aload_n 0, 1, 0, 0, 0) := by decide +kernel
theorem s47_187 {st : List Value} {M : pj_Mem} {l : pj_Loc} {x : Nat} : pj_step 47 (187, some (.ref x) :: l, st, M) = some (188, some (.ref x) :: l, .ref x :: st, M) := st_aload_n q47_187 rfl
theorem x47_187 {st : List Value} {M : pj_Mem} {l : pj_Loc} {x : Nat} {o9 : Option Value × pj_Mem} : pj_Ends 47 (187, some (.ref x) :: l, st, M) o9 = pj_Ends 47 (188, some (.ref x) :: l, .ref x :: st, M) o9 := pj_xs (s47_187)
theorem q47_188 : pj_row 47 188 = some (.getfield 29, 3, 5, 3, 0) := by decide +kernel
theorem s47_188 {L : pj_Loc} {st : List Value} {N S : Nat} {H : pj_Heap} {o : Nat} : pj_step 47 (188, L, .ref o :: st, (N, S, H)) = pj_pv 191 L st (N, S, H) (pj_fld (H o) 5 3) := st_getfield q47_188
theorem x47_188 {L : pj_Loc} {st : List Value} {N S : Nat} {H : pj_Heap} {o : Nat} {o9 : Option Value × pj_Mem} : pj_Ends 47 (188, L, .ref o :: st, (N, S, H)) o9 = pj_then 47 o9 (pj_pv 191 L st (N, S, H) (pj_fld (H o) 5 3)) := pj_xt q47_188 rfl (pj_cl_nc rfl) (s47_188)
theorem q47_191 : pj_row 47 191 = some (.getfield 145, 3, 0, 2, 0) := by decide +kernel
theorem s47_191 {L : pj_Loc} {st : List Value} {N S : Nat} {H : pj_Heap} {o : Nat} : pj_step 47 (191, L, .ref o :: st, (N, S, H)) = pj_pv 194 L st (N, S, H) (pj_fld (H o) 0 2) := st_getfield q47_191
theorem x47_191 {L : pj_Loc} {st : List Value} {N S : Nat} {H : pj_Heap} {o : Nat} {o9 : Option Value × pj_Mem} : pj_Ends 47 (191, L, .ref o :: st, (N, S, H)) o9 = pj_then 47 o9 (pj_pv 194 L st (N, S, H) (pj_fld (H o) 0 2)) := pj_xt q47_191 rfl (pj_cl_nc rfl) (s47_191)
theorem q47_194 : pj_row 47 194 = some (.ireturn, 1, 0, 0, 0) := by decide +kernel
theorem t47_194 {L : pj_Loc} {M : pj_Mem} {v : Int32} : pj_Ends 47 (194, L, [.int v], M) (some (.int v), M) := pj_Ends.ret q47_194 (pj_rtn_i rt47)
theorem q47_195 : pj_row 47 195 = some (.aload_n 0, 1, 0, 0, 0) := by decide +kernel
theorem s47_195 {st : List Value} {M : pj_Mem} {l : pj_Loc} {x : Nat} : pj_step 47 (195, some (.ref x) :: l, st, M) = some (196, some (.ref x) :: l, .ref x :: st, M) := st_aload_n q47_195 rfl
theorem x47_195 {st : List Value} {M : pj_Mem} {l : pj_Loc} {x : Nat} {o9 : Option Value × pj_Mem} : pj_Ends 47 (195, some (.ref x) :: l, st, M) o9 = pj_Ends 47 (196, some (.ref x) :: l, .ref x :: st, M) o9 := pj_xs (s47_195)
theorem q47_196 : pj_row 47 196 = some (.getfield 148, 3, 5, 5, 0) := by decide +kernel
theorem s47_196 {L : pj_Loc} {st : List Value} {N S : Nat} {H : pj_Heap} {o : Nat} : pj_step 47 (196, L, .ref o :: st, (N, S, H)) = pj_pv 199 L st (N, S, H) (pj_fld (H o) 5 5) := st_getfield q47_196
theorem x47_196 {L : pj_Loc} {st : List Value} {N S : Nat} {H : pj_Heap} {o : Nat} {o9 : Option Value × pj_Mem} : pj_Ends 47 (196, L, .ref o :: st, (N, S, H)) o9 = pj_then 47 o9 (pj_pv 199 L st (N, S, H) (pj_fld (H o) 5 5)) := pj_xt q47_196 rfl (pj_cl_nc rfl) (s47_196)
theorem q47_199 : pj_row 47 199 = some (.ireturn, 1, 0, 0, 0) := by decide +kernel
theorem t47_199 {L : pj_Loc} {M : pj_Mem} {v : Int32} : pj_Ends 47 (199, L, [.int v], M) (some (.int v), M) := pj_Ends.ret q47_199 (pj_rtn_i rt47)
theorem q47_200 : pj_row 47 200 = some (.bipush (-2), 2, 0, 0, 0) := by decide +kernel
theorem s47_200 {L : pj_Loc} {st : List Value} {M : pj_Mem}  : pj_step 47 (200, L, st, M) = some (202, L, .int (-2) :: st, M) := st_bipush q47_200 (by decide +kernel)
theorem x47_200 {L : pj_Loc} {st : List Value} {M : pj_Mem}  {o9 : Option Value × pj_Mem} : pj_Ends 47 (200, L, st, M) o9 = pj_Ends 47 (202, L, .int (-2) :: st, M) o9 := pj_xs (s47_200)
theorem q47_202 : pj_row 47 202 = some (.ireturn, 1, 0, 0, 0) := by decide +kernel
theorem t47_202 {L : pj_Loc} {M : pj_Mem} {v : Int32} : pj_Ends 47 (202, L, [.int v], M) (some (.int v), M) := pj_Ends.ret q47_202 (pj_rtn_i rt47)
theorem rt48 : pj_rt 48 = some .int := rfl
theorem q48_0 : pj_row 48 0 = some (.iload_n 1, 1, 0, 0, 0) := by decide +kernel
theorem s48_0 {st : List Value} {M : pj_Mem} {l : pj_Loc} {a0 : Option Value} {x : Int32} : pj_step 48 (0, a0 :: some (.int x) :: l, st, M) = some (1, a0 :: some (.int x) :: l, .int x :: st, M) := st_iload_n q48_0 rfl
theorem x48_0 {st : List Value} {M : pj_Mem} {l : pj_Loc} {a0 : Option Value} {x : Int32} {o9 : Option Value × pj_Mem} : pj_Ends 48 (0, a0 :: some (.int x) :: l, st, M) o9 = pj_Ends 48 (1, a0 :: some (.int x) :: l, .int x :: st, M) o9 := pj_xs (s48_0)
theorem q48_1 : pj_row 48 1 = some (.iload_n 2, 1, 0, 0, 0) := by decide +kernel
theorem s48_1 {st : List Value} {M : pj_Mem} {l : pj_Loc} {a0 a1 : Option Value} {x : Int32} : pj_step 48 (1, a0 :: a1 :: some (.int x) :: l, st, M) = some (2, a0 :: a1 :: some (.int x) :: l, .int x :: st, M) := st_iload_n q48_1 rfl
theorem x48_1 {st : List Value} {M : pj_Mem} {l : pj_Loc} {a0 a1 : Option Value} {x : Int32} {o9 : Option Value × pj_Mem} : pj_Ends 48 (1, a0 :: a1 :: some (.int x) :: l, st, M) o9 = pj_Ends 48 (2, a0 :: a1 :: some (.int x) :: l, .int x :: st, M) o9 := pj_xs (s48_1)
theorem q48_2 : pj_row 48 2 = some (.iload_n 3, 1, 0, 0, 0) := by decide +kernel
theorem s48_2 {st : List Value} {M : pj_Mem} {l : pj_Loc} {a0 a1 a2 : Option Value} {x : Int32} : pj_step 48 (2, a0 :: a1 :: a2 :: some (.int x) :: l, st, M) = some (3, a0 :: a1 :: a2 :: some (.int x) :: l, .int x :: st, M) := st_iload_n q48_2 rfl
theorem x48_2 {st : List Value} {M : pj_Mem} {l : pj_Loc} {a0 a1 a2 : Option Value} {x : Int32} {o9 : Option Value × pj_Mem} : pj_Ends 48 (2, a0 :: a1 :: a2 :: some (.int x) :: l, st, M) o9 = pj_Ends 48 (3, a0 :: a1 :: a2 :: some (.int x) :: l, .int x :: st, M) o9 := pj_xs (s48_2)
theorem q48_3 : pj_row 48 3 = some (.invokestatic 61, 3, 12, 3, 0) := by decide +kernel
theorem e48_3 {L : pj_Loc} {st : List Value} {N S : Nat} {H : pj_Heap} {o : Option Value × pj_Mem} {M' : pj_Mem} {x0 : Int32} {x1 : Int32} {x2 : Int32} {r : Int32} (h4 : pj_le4 st = true) (h1 : pj_Ends 12 (0, [some (.int x0), some (.int x1), some (.int x2)], [], (N, S, H)) (some (.int r), M')) (h2 : pj_Ends 48 (6, L, .int r :: st, M') o) : pj_Ends 48 (3, L, .int x2 :: .int x1 :: .int x0 :: st, (N, S, H)) o := ec_s3 q48_3 (Or.inl rfl) h4 rfl h1 h2
theorem q48_6 : pj_row 48 6 = some (.ifCond .ne 6, 3, 12, 0, 0) := by decide +kernel
theorem s48_6 {L : pj_Loc} {st : List Value} {M : pj_Mem} {x : Int32} : pj_step 48 (6, L, .int x :: st, M) = some (if ¬ x = 0 then 12 else 9, L, st, M) := st_if_ne q48_6
theorem x48_6 {L : pj_Loc} {st : List Value} {M : pj_Mem} {x : Int32} {o9 : Option Value × pj_Mem} : pj_Ends 48 (6, L, .int x :: st, M) o9 = pj_Ends 48 (if ¬ x = 0 then 12 else 9, L, st, M) o9 := pj_xs (s48_6)
theorem q48_9 : pj_row 48 9 = some (.bipush (-2), 2, 0, 0, 0) := by decide +kernel
theorem s48_9 {L : pj_Loc} {st : List Value} {M : pj_Mem}  : pj_step 48 (9, L, st, M) = some (11, L, .int (-2) :: st, M) := st_bipush q48_9 (by decide +kernel)
theorem x48_9 {L : pj_Loc} {st : List Value} {M : pj_Mem}  {o9 : Option Value × pj_Mem} : pj_Ends 48 (9, L, st, M) o9 = pj_Ends 48 (11, L, .int (-2) :: st, M) o9 := pj_xs (s48_9)
theorem q48_11 : pj_row 48 11 = some (.ireturn, 1, 0, 0, 0) := by decide +kernel
theorem t48_11 {L : pj_Loc} {M : pj_Mem} {v : Int32} : pj_Ends 48 (11, L, [.int v], M) (some (.int v), M) := pj_Ends.ret q48_11 (pj_rtn_i rt48)
theorem q48_12 : pj_row 48 12 = some (.aload_n 0, 1, 0, 0, 0) := by decide +kernel
theorem s48_12 {st : List Value} {M : pj_Mem} {l : pj_Loc} {x : Nat} : pj_step 48 (12, some (.ref x) :: l, st, M) = some (13, some (.ref x) :: l, .ref x :: st, M) := st_aload_n q48_12 rfl
theorem x48_12 {st : List Value} {M : pj_Mem} {l : pj_Loc} {x : Nat} {o9 : Option Value × pj_Mem} : pj_Ends 48 (12, some (.ref x) :: l, st, M) o9 = pj_Ends 48 (13, some (.ref x) :: l, .ref x :: st, M) o9 := pj_xs (s48_12)
theorem q48_13 : pj_row 48 13 = some (.getfield 22, 3, 5, 2, 0) := by decide +kernel
theorem s48_13 {L : pj_Loc} {st : List Value} {N S : Nat} {H : pj_Heap} {o : Nat} : pj_step 48 (13, L, .ref o :: st, (N, S, H)) = pj_pv 16 L st (N, S, H) (pj_fld (H o) 5 2) := st_getfield q48_13
theorem x48_13 {L : pj_Loc} {st : List Value} {N S : Nat} {H : pj_Heap} {o : Nat} {o9 : Option Value × pj_Mem} : pj_Ends 48 (13, L, .ref o :: st, (N, S, H)) o9 = pj_then 48 o9 (pj_pv 16 L st (N, S, H) (pj_fld (H o) 5 2)) := pj_xt q48_13 rfl (pj_cl_nc rfl) (s48_13)
theorem q48_16 : pj_row 48 16 = some (.aload_n 0, 1, 0, 0, 0) := by decide +kernel
theorem s48_16 {st : List Value} {M : pj_Mem} {l : pj_Loc} {x : Nat} : pj_step 48 (16, some (.ref x) :: l, st, M) = some (17, some (.ref x) :: l, .ref x :: st, M) := st_aload_n q48_16 rfl
theorem x48_16 {st : List Value} {M : pj_Mem} {l : pj_Loc} {x : Nat} {o9 : Option Value × pj_Mem} : pj_Ends 48 (16, some (.ref x) :: l, st, M) o9 = pj_Ends 48 (17, some (.ref x) :: l, .ref x :: st, M) o9 := pj_xs (s48_16)
theorem q48_17 : pj_row 48 17 = some (.getfield 10, 3, 5, 0, 0) := by decide +kernel
theorem s48_17 {L : pj_Loc} {st : List Value} {N S : Nat} {H : pj_Heap} {o : Nat} : pj_step 48 (17, L, .ref o :: st, (N, S, H)) = pj_pv 20 L st (N, S, H) (pj_fld (H o) 5 0) := st_getfield q48_17
theorem x48_17 {L : pj_Loc} {st : List Value} {N S : Nat} {H : pj_Heap} {o : Nat} {o9 : Option Value × pj_Mem} : pj_Ends 48 (17, L, .ref o :: st, (N, S, H)) o9 = pj_then 48 o9 (pj_pv 20 L st (N, S, H) (pj_fld (H o) 5 0)) := pj_xt q48_17 rfl (pj_cl_nc rfl) (s48_17)
theorem q48_20 : pj_row 48 20 = some (.iload_n 1, 1, 0, 0, 0) := by decide +kernel
theorem s48_20 {st : List Value} {M : pj_Mem} {l : pj_Loc} {a0 : Option Value} {x : Int32} : pj_step 48 (20, a0 :: some (.int x) :: l, st, M) = some (21, a0 :: some (.int x) :: l, .int x :: st, M) := st_iload_n q48_20 rfl
theorem x48_20 {st : List Value} {M : pj_Mem} {l : pj_Loc} {a0 : Option Value} {x : Int32} {o9 : Option Value × pj_Mem} : pj_Ends 48 (20, a0 :: some (.int x) :: l, st, M) o9 = pj_Ends 48 (21, a0 :: some (.int x) :: l, .int x :: st, M) o9 := pj_xs (s48_20)
theorem q48_21 : pj_row 48 21 = some (.iload_n 2, 1, 0, 0, 0) := by decide +kernel
theorem s48_21 {st : List Value} {M : pj_Mem} {l : pj_Loc} {a0 a1 : Option Value} {x : Int32} : pj_step 48 (21, a0 :: a1 :: some (.int x) :: l, st, M) = some (22, a0 :: a1 :: some (.int x) :: l, .int x :: st, M) := st_iload_n q48_21 rfl
theorem x48_21 {st : List Value} {M : pj_Mem} {l : pj_Loc} {a0 a1 : Option Value} {x : Int32} {o9 : Option Value × pj_Mem} : pj_Ends 48 (21, a0 :: a1 :: some (.int x) :: l, st, M) o9 = pj_Ends 48 (22, a0 :: a1 :: some (.int x) :: l, .int x :: st, M) o9 := pj_xs (s48_21)
theorem q48_22 : pj_row 48 22 = some (.iload_n 3, 1, 0, 0, 0) := by decide +kernel
theorem s48_22 {st : List Value} {M : pj_Mem} {l : pj_Loc} {a0 a1 a2 : Option Value} {x : Int32} : pj_step 48 (22, a0 :: a1 :: a2 :: some (.int x) :: l, st, M) = some (23, a0 :: a1 :: a2 :: some (.int x) :: l, .int x :: st, M) := st_iload_n q48_22 rfl
theorem x48_22 {st : List Value} {M : pj_Mem} {l : pj_Loc} {a0 a1 a2 : Option Value} {x : Int32} {o9 : Option Value × pj_Mem} : pj_Ends 48 (22, a0 :: a1 :: a2 :: some (.int x) :: l, st, M) o9 = pj_Ends 48 (23, a0 :: a1 :: a2 :: some (.int x) :: l, .int x :: st, M) o9 := pj_xs (s48_22)
theorem q48_23 : pj_row 48 23 = some (.iload 4, 2, 0, 0, 0) := by decide +kernel
theorem s48_23 {st : List Value} {M : pj_Mem} {l : pj_Loc} {a0 a1 a2 a3 : Option Value} {x : Int32} : pj_step 48 (23, a0 :: a1 :: a2 :: a3 :: some (.int x) :: l, st, M) = some (25, a0 :: a1 :: a2 :: a3 :: some (.int x) :: l, .int x :: st, M) := st_iload q48_23 rfl
theorem x48_23 {st : List Value} {M : pj_Mem} {l : pj_Loc} {a0 a1 a2 a3 : Option Value} {x : Int32} {o9 : Option Value × pj_Mem} : pj_Ends 48 (23, a0 :: a1 :: a2 :: a3 :: some (.int x) :: l, st, M) o9 = pj_Ends 48 (25, a0 :: a1 :: a2 :: a3 :: some (.int x) :: l, .int x :: st, M) o9 := pj_xs (s48_23)
theorem q48_25 : pj_row 48 25 = some (.invokevirtual 151, 3, 15, 6, 0) := by decide +kernel
theorem e48_25 {L : pj_Loc} {st : List Value} {N S : Nat} {H : pj_Heap} {o : Option Value × pj_Mem} {M' : pj_Mem} {x0 : Nat} {x1 : Nat} {x2 : Int32} {x3 : Int32} {x4 : Int32} {x5 : Int32} (h4 : pj_le4 st = true) (hu : pj_isU 3 (H x0) = true) (h1 : pj_Ends 15 (0, [some (.ref x0), some (.ref x1), some (.int x2), some (.int x3), some (.int x4), some (.int x5)], [], (N, S, H)) (none, M')) (h2 : pj_Ends 48 (28, L, st, M') o) : pj_Ends 48 (25, L, .int x5 :: .int x4 :: .int x3 :: .int x2 :: .ref x1 :: .ref x0 :: st, (N, S, H)) o := ec_v6 q48_25 (Or.inl rfl) h4 hu rfl h1 h2
theorem q48_28 : pj_row 48 28 = some (.iload 5, 2, 0, 0, 0) := by decide +kernel
theorem s48_28 {st : List Value} {M : pj_Mem} {l : pj_Loc} {a0 a1 a2 a3 a4 : Option Value} {x : Int32} : pj_step 48 (28, a0 :: a1 :: a2 :: a3 :: a4 :: some (.int x) :: l, st, M) = some (30, a0 :: a1 :: a2 :: a3 :: a4 :: some (.int x) :: l, .int x :: st, M) := st_iload q48_28 rfl
theorem x48_28 {st : List Value} {M : pj_Mem} {l : pj_Loc} {a0 a1 a2 a3 a4 : Option Value} {x : Int32} {o9 : Option Value × pj_Mem} : pj_Ends 48 (28, a0 :: a1 :: a2 :: a3 :: a4 :: some (.int x) :: l, st, M) o9 = pj_Ends 48 (30, a0 :: a1 :: a2 :: a3 :: a4 :: some (.int x) :: l, .int x :: st, M) o9 := pj_xs (s48_28)
theorem q48_30 : pj_row 48 30 = some (.tableswitch 100 0 5 #[38, 46, 57, 65, 73, 81], 38, 0, 0, 0) := by decide +kernel
theorem s48_30 {L : pj_Loc} {st : List Value} {M : pj_Mem} {x : Int32} : pj_step 48 (30, L, .int x :: st, M) = some (if x = 0 then 68 else if x = 1 then 76 else if x = 2 then 87 else if x = 3 then 95 else if x = 4 then 103 else if x = 5 then 111 else 130, L, st, M) := by
  rw [st_tsw q48_30]
  unfold pj_tsw
  by_cases hr : x.toInt < 0 ∨ 5 < x.toInt
  · simp only
    rw [if_pos hr]
    rw [if_neg (show ¬ x = 0 from fun e => by rw [e] at hr; revert hr; decide)]
    rw [if_neg (show ¬ x = 1 from fun e => by rw [e] at hr; revert hr; decide)]
    rw [if_neg (show ¬ x = 2 from fun e => by rw [e] at hr; revert hr; decide)]
    rw [if_neg (show ¬ x = 3 from fun e => by rw [e] at hr; revert hr; decide)]
    rw [if_neg (show ¬ x = 4 from fun e => by rw [e] at hr; revert hr; decide)]
    rw [if_neg (show ¬ x = 5 from fun e => by rw [e] at hr; revert hr; decide)]
    rfl
  · have h3 : x.toInt = 0 ∨ x.toInt = 1 ∨ x.toInt = 2 ∨ x.toInt = 3 ∨ x.toInt = 4 ∨ x.toInt = 5 := by omega
    rcases h3 with h3 | h3 | h3 | h3 | h3 | h3
    · have e : x = 0 := Int32.toInt_inj.mp (h3.trans (by decide))
      subst e
      rfl
    · have e : x = 1 := Int32.toInt_inj.mp (h3.trans (by decide))
      subst e
      rfl
    · have e : x = 2 := Int32.toInt_inj.mp (h3.trans (by decide))
      subst e
      rfl
    · have e : x = 3 := Int32.toInt_inj.mp (h3.trans (by decide))
      subst e
      rfl
    · have e : x = 4 := Int32.toInt_inj.mp (h3.trans (by decide))
      subst e
      rfl
    · have e : x = 5 := Int32.toInt_inj.mp (h3.trans (by decide))
      subst e
      rfl
theorem x48_30 {L : pj_Loc} {st : List Value} {M : pj_Mem} {x : Int32} {o9 : Option Value × pj_Mem} : pj_Ends 48 (30, L, .int x :: st, M) o9 = pj_Ends 48 (if x = 0 then 68 else if x = 1 then 76 else if x = 2 then 87 else if x = 3 then 95 else if x = 4 then 103 else if x = 5 then 111 else 130, L, st, M) o9 := pj_xs (s48_30)
theorem q48_68 : pj_row 48 68 = some (.aload_n 0, 1, 0, 0, 0) := by decide +kernel
theorem s48_68 {st : List Value} {M : pj_Mem} {l : pj_Loc} {x : Nat} : pj_step 48 (68, some (.ref x) :: l, st, M) = some (69, some (.ref x) :: l, .ref x :: st, M) := st_aload_n q48_68 rfl
theorem x48_68 {st : List Value} {M : pj_Mem} {l : pj_Loc} {x : Nat} {o9 : Option Value × pj_Mem} : pj_Ends 48 (68, some (.ref x) :: l, st, M) o9 = pj_Ends 48 (69, some (.ref x) :: l, .ref x :: st, M) o9 := pj_xs (s48_68)
theorem q48_69 : pj_row 48 69 = some (.getfield 22, 3, 5, 2, 0) := by decide +kernel
theorem s48_69 {L : pj_Loc} {st : List Value} {N S : Nat} {H : pj_Heap} {o : Nat} : pj_step 48 (69, L, .ref o :: st, (N, S, H)) = pj_pv 72 L st (N, S, H) (pj_fld (H o) 5 2) := st_getfield q48_69
theorem x48_69 {L : pj_Loc} {st : List Value} {N S : Nat} {H : pj_Heap} {o : Nat} {o9 : Option Value × pj_Mem} : pj_Ends 48 (69, L, .ref o :: st, (N, S, H)) o9 = pj_then 48 o9 (pj_pv 72 L st (N, S, H) (pj_fld (H o) 5 2)) := pj_xt q48_69 rfl (pj_cl_nc rfl) (s48_69)
theorem q48_72 : pj_row 48 72 = some (.getfield 155, 3, 3, 13, 0) := by decide +kernel
theorem s48_72 {L : pj_Loc} {st : List Value} {N S : Nat} {H : pj_Heap} {o : Nat} : pj_step 48 (72, L, .ref o :: st, (N, S, H)) = pj_pv 75 L st (N, S, H) (pj_fld (H o) 3 13) := st_getfield q48_72
theorem x48_72 {L : pj_Loc} {st : List Value} {N S : Nat} {H : pj_Heap} {o : Nat} {o9 : Option Value × pj_Mem} : pj_Ends 48 (72, L, .ref o :: st, (N, S, H)) o9 = pj_then 48 o9 (pj_pv 75 L st (N, S, H) (pj_fld (H o) 3 13)) := pj_xt q48_72 rfl (pj_cl_nc rfl) (s48_72)
theorem q48_75 : pj_row 48 75 = some (.ireturn, 1, 0, 0, 0) := by decide +kernel
theorem t48_75 {L : pj_Loc} {M : pj_Mem} {v : Int32} : pj_Ends 48 (75, L, [.int v], M) (some (.int v), M) := pj_Ends.ret q48_75 (pj_rtn_i rt48)
theorem q48_76 : pj_row 48 76 = some (.aload_n 0, 1, 0, 0, 0) := by decide +kernel
theorem s48_76 {st : List Value} {M : pj_Mem} {l : pj_Loc} {x : Nat} : pj_step 48 (76, some (.ref x) :: l, st, M) = some (77, some (.ref x) :: l, .ref x :: st, M) := st_aload_n q48_76 rfl
theorem x48_76 {st : List Value} {M : pj_Mem} {l : pj_Loc} {x : Nat} {o9 : Option Value × pj_Mem} : pj_Ends 48 (76, some (.ref x) :: l, st, M) o9 = pj_Ends 48 (77, some (.ref x) :: l, .ref x :: st, M) o9 := pj_xs (s48_76)
theorem q48_77 : pj_row 48 77 = some (.getfield 22, 3, 5, 2, 0) := by decide +kernel
theorem s48_77 {L : pj_Loc} {st : List Value} {N S : Nat} {H : pj_Heap} {o : Nat} : pj_step 48 (77, L, .ref o :: st, (N, S, H)) = pj_pv 80 L st (N, S, H) (pj_fld (H o) 5 2) := st_getfield q48_77
theorem x48_77 {L : pj_Loc} {st : List Value} {N S : Nat} {H : pj_Heap} {o : Nat} {o9 : Option Value × pj_Mem} : pj_Ends 48 (77, L, .ref o :: st, (N, S, H)) o9 = pj_then 48 o9 (pj_pv 80 L st (N, S, H) (pj_fld (H o) 5 2)) := pj_xt q48_77 rfl (pj_cl_nc rfl) (s48_77)
theorem q48_80 : pj_row 48 80 = some (.getfield 158, 3, 3, 9, 0) := by decide +kernel
theorem s48_80 {L : pj_Loc} {st : List Value} {N S : Nat} {H : pj_Heap} {o : Nat} : pj_step 48 (80, L, .ref o :: st, (N, S, H)) = pj_pv 83 L st (N, S, H) (pj_fld (H o) 3 9) := st_getfield q48_80
theorem x48_80 {L : pj_Loc} {st : List Value} {N S : Nat} {H : pj_Heap} {o : Nat} {o9 : Option Value × pj_Mem} : pj_Ends 48 (80, L, .ref o :: st, (N, S, H)) o9 = pj_then 48 o9 (pj_pv 83 L st (N, S, H) (pj_fld (H o) 3 9)) := pj_xt q48_80 rfl (pj_cl_nc rfl) (s48_80)
theorem q48_83 : pj_row 48 83 = some (.ldc 69, 2, 0, 0, 100000) := by decide +kernel
theorem s48_83 {L : pj_Loc} {st : List Value} {M : pj_Mem}  : pj_step 48 (83, L, st, M) = some (85, L, .int 100000 :: st, M) := st_ldc q48_83 (by decide +kernel)
theorem x48_83 {L : pj_Loc} {st : List Value} {M : pj_Mem}  {o9 : Option Value × pj_Mem} : pj_Ends 48 (83, L, st, M) o9 = pj_Ends 48 (85, L, .int 100000 :: st, M) o9 := pj_xs (s48_83)
theorem q48_85 : pj_row 48 85 = some (.iadd, 1, 0, 0, 0) := by decide +kernel
theorem s48_85 {L : pj_Loc} {st : List Value} {M : pj_Mem} {x y : Int32} : pj_step 48 (85, L, .int y :: .int x :: st, M) = some (86, L, .int (x + y) :: st, M) := st_iadd q48_85
theorem x48_85 {L : pj_Loc} {st : List Value} {M : pj_Mem} {x y : Int32} {o9 : Option Value × pj_Mem} : pj_Ends 48 (85, L, .int y :: .int x :: st, M) o9 = pj_Ends 48 (86, L, .int (x + y) :: st, M) o9 := pj_xs (s48_85)
theorem q48_86 : pj_row 48 86 = some (.ireturn, 1, 0, 0, 0) := by decide +kernel
theorem t48_86 {L : pj_Loc} {M : pj_Mem} {v : Int32} : pj_Ends 48 (86, L, [.int v], M) (some (.int v), M) := pj_Ends.ret q48_86 (pj_rtn_i rt48)
theorem q48_87 : pj_row 48 87 = some (.aload_n 0, 1, 0, 0, 0) := by decide +kernel
theorem s48_87 {st : List Value} {M : pj_Mem} {l : pj_Loc} {x : Nat} : pj_step 48 (87, some (.ref x) :: l, st, M) = some (88, some (.ref x) :: l, .ref x :: st, M) := st_aload_n q48_87 rfl
theorem x48_87 {st : List Value} {M : pj_Mem} {l : pj_Loc} {x : Nat} {o9 : Option Value × pj_Mem} : pj_Ends 48 (87, some (.ref x) :: l, st, M) o9 = pj_Ends 48 (88, some (.ref x) :: l, .ref x :: st, M) o9 := pj_xs (s48_87)
theorem q48_88 : pj_row 48 88 = some (.getfield 22, 3, 5, 2, 0) := by decide +kernel
theorem s48_88 {L : pj_Loc} {st : List Value} {N S : Nat} {H : pj_Heap} {o : Nat} : pj_step 48 (88, L, .ref o :: st, (N, S, H)) = pj_pv 91 L st (N, S, H) (pj_fld (H o) 5 2) := st_getfield q48_88
theorem x48_88 {L : pj_Loc} {st : List Value} {N S : Nat} {H : pj_Heap} {o : Nat} {o9 : Option Value × pj_Mem} : pj_Ends 48 (88, L, .ref o :: st, (N, S, H)) o9 = pj_then 48 o9 (pj_pv 91 L st (N, S, H) (pj_fld (H o) 5 2)) := pj_xt q48_88 rfl (pj_cl_nc rfl) (s48_88)
theorem q48_91 : pj_row 48 91 = some (.getfield 161, 3, 3, 8, 0) := by decide +kernel
theorem s48_91 {L : pj_Loc} {st : List Value} {N S : Nat} {H : pj_Heap} {o : Nat} : pj_step 48 (91, L, .ref o :: st, (N, S, H)) = pj_pv 94 L st (N, S, H) (pj_fld (H o) 3 8) := st_getfield q48_91
theorem x48_91 {L : pj_Loc} {st : List Value} {N S : Nat} {H : pj_Heap} {o : Nat} {o9 : Option Value × pj_Mem} : pj_Ends 48 (91, L, .ref o :: st, (N, S, H)) o9 = pj_then 48 o9 (pj_pv 94 L st (N, S, H) (pj_fld (H o) 3 8)) := pj_xt q48_91 rfl (pj_cl_nc rfl) (s48_91)
theorem q48_94 : pj_row 48 94 = some (.ireturn, 1, 0, 0, 0) := by decide +kernel
theorem t48_94 {L : pj_Loc} {M : pj_Mem} {v : Int32} : pj_Ends 48 (94, L, [.int v], M) (some (.int v), M) := pj_Ends.ret q48_94 (pj_rtn_i rt48)
theorem q48_95 : pj_row 48 95 = some (.aload_n 0, 1, 0, 0, 0) := by decide +kernel
theorem s48_95 {st : List Value} {M : pj_Mem} {l : pj_Loc} {x : Nat} : pj_step 48 (95, some (.ref x) :: l, st, M) = some (96, some (.ref x) :: l, .ref x :: st, M) := st_aload_n q48_95 rfl
theorem x48_95 {st : List Value} {M : pj_Mem} {l : pj_Loc} {x : Nat} {o9 : Option Value × pj_Mem} : pj_Ends 48 (95, some (.ref x) :: l, st, M) o9 = pj_Ends 48 (96, some (.ref x) :: l, .ref x :: st, M) o9 := pj_xs (s48_95)
theorem q48_96 : pj_row 48 96 = some (.getfield 22, 3, 5, 2, 0) := by decide +kernel
theorem s48_96 {L : pj_Loc} {st : List Value} {N S : Nat} {H : pj_Heap} {o : Nat} : pj_step 48 (96, L, .ref o :: st, (N, S, H)) = pj_pv 99 L st (N, S, H) (pj_fld (H o) 5 2) := st_getfield q48_96
theorem x48_96 {L : pj_Loc} {st : List Value} {N S : Nat} {H : pj_Heap} {o : Nat} {o9 : Option Value × pj_Mem} : pj_Ends 48 (96, L, .ref o :: st, (N, S, H)) o9 = pj_then 48 o9 (pj_pv 99 L st (N, S, H) (pj_fld (H o) 5 2)) := pj_xt q48_96 rfl (pj_cl_nc rfl) (s48_96)
theorem q48_99 : pj_row 48 99 = some (.getfield 162, 3, 3, 11, 0) := by decide +kernel
theorem s48_99 {L : pj_Loc} {st : List Value} {N S : Nat} {H : pj_Heap} {o : Nat} : pj_step 48 (99, L, .ref o :: st, (N, S, H)) = pj_pv 102 L st (N, S, H) (pj_fld (H o) 3 11) := st_getfield q48_99
theorem x48_99 {L : pj_Loc} {st : List Value} {N S : Nat} {H : pj_Heap} {o : Nat} {o9 : Option Value × pj_Mem} : pj_Ends 48 (99, L, .ref o :: st, (N, S, H)) o9 = pj_then 48 o9 (pj_pv 102 L st (N, S, H) (pj_fld (H o) 3 11)) := pj_xt q48_99 rfl (pj_cl_nc rfl) (s48_99)
theorem q48_102 : pj_row 48 102 = some (.ireturn, 1, 0, 0, 0) := by decide +kernel
theorem t48_102 {L : pj_Loc} {M : pj_Mem} {v : Int32} : pj_Ends 48 (102, L, [.int v], M) (some (.int v), M) := pj_Ends.ret q48_102 (pj_rtn_i rt48)
theorem q48_103 : pj_row 48 103 = some (.aload_n 0, 1, 0, 0, 0) := by decide +kernel
theorem s48_103 {st : List Value} {M : pj_Mem} {l : pj_Loc} {x : Nat} : pj_step 48 (103, some (.ref x) :: l, st, M) = some (104, some (.ref x) :: l, .ref x :: st, M) := st_aload_n q48_103 rfl
theorem x48_103 {st : List Value} {M : pj_Mem} {l : pj_Loc} {x : Nat} {o9 : Option Value × pj_Mem} : pj_Ends 48 (103, some (.ref x) :: l, st, M) o9 = pj_Ends 48 (104, some (.ref x) :: l, .ref x :: st, M) o9 := pj_xs (s48_103)
theorem q48_104 : pj_row 48 104 = some (.getfield 22, 3, 5, 2, 0) := by decide +kernel
theorem s48_104 {L : pj_Loc} {st : List Value} {N S : Nat} {H : pj_Heap} {o : Nat} : pj_step 48 (104, L, .ref o :: st, (N, S, H)) = pj_pv 107 L st (N, S, H) (pj_fld (H o) 5 2) := st_getfield q48_104
theorem x48_104 {L : pj_Loc} {st : List Value} {N S : Nat} {H : pj_Heap} {o : Nat} {o9 : Option Value × pj_Mem} : pj_Ends 48 (104, L, .ref o :: st, (N, S, H)) o9 = pj_then 48 o9 (pj_pv 107 L st (N, S, H) (pj_fld (H o) 5 2)) := pj_xt q48_104 rfl (pj_cl_nc rfl) (s48_104)
theorem q48_107 : pj_row 48 107 = some (.getfield 165, 3, 3, 12, 0) := by decide +kernel
theorem s48_107 {L : pj_Loc} {st : List Value} {N S : Nat} {H : pj_Heap} {o : Nat} : pj_step 48 (107, L, .ref o :: st, (N, S, H)) = pj_pv 110 L st (N, S, H) (pj_fld (H o) 3 12) := st_getfield q48_107
theorem x48_107 {L : pj_Loc} {st : List Value} {N S : Nat} {H : pj_Heap} {o : Nat} {o9 : Option Value × pj_Mem} : pj_Ends 48 (107, L, .ref o :: st, (N, S, H)) o9 = pj_then 48 o9 (pj_pv 110 L st (N, S, H) (pj_fld (H o) 3 12)) := pj_xt q48_107 rfl (pj_cl_nc rfl) (s48_107)
theorem q48_110 : pj_row 48 110 = some (.ireturn, 1, 0, 0, 0) := by decide +kernel
theorem t48_110 {L : pj_Loc} {M : pj_Mem} {v : Int32} : pj_Ends 48 (110, L, [.int v], M) (some (.int v), M) := pj_Ends.ret q48_110 (pj_rtn_i rt48)
theorem q48_111 : pj_row 48 111 = some (.aload_n 0, 1, 0, 0, 0) := by decide +kernel
theorem s48_111 {st : List Value} {M : pj_Mem} {l : pj_Loc} {x : Nat} : pj_step 48 (111, some (.ref x) :: l, st, M) = some (112, some (.ref x) :: l, .ref x :: st, M) := st_aload_n q48_111 rfl
theorem x48_111 {st : List Value} {M : pj_Mem} {l : pj_Loc} {x : Nat} {o9 : Option Value × pj_Mem} : pj_Ends 48 (111, some (.ref x) :: l, st, M) o9 = pj_Ends 48 (112, some (.ref x) :: l, .ref x :: st, M) o9 := pj_xs (s48_111)
theorem q48_112 : pj_row 48 112 = some (.getfield 22, 3, 5, 2, 0) := by decide +kernel
theorem s48_112 {L : pj_Loc} {st : List Value} {N S : Nat} {H : pj_Heap} {o : Nat} : pj_step 48 (112, L, .ref o :: st, (N, S, H)) = pj_pv 115 L st (N, S, H) (pj_fld (H o) 5 2) := st_getfield q48_112
theorem x48_112 {L : pj_Loc} {st : List Value} {N S : Nat} {H : pj_Heap} {o : Nat} {o9 : Option Value × pj_Mem} : pj_Ends 48 (112, L, .ref o :: st, (N, S, H)) o9 = pj_then 48 o9 (pj_pv 115 L st (N, S, H) (pj_fld (H o) 5 2)) := pj_xt q48_112 rfl (pj_cl_nc rfl) (s48_112)
theorem q48_115 : pj_row 48 115 = some (.getfield 168, 3, 3, 10, 0) := by decide +kernel
theorem s48_115 {L : pj_Loc} {st : List Value} {N S : Nat} {H : pj_Heap} {o : Nat} : pj_step 48 (115, L, .ref o :: st, (N, S, H)) = pj_pv 118 L st (N, S, H) (pj_fld (H o) 3 10) := st_getfield q48_115
theorem x48_115 {L : pj_Loc} {st : List Value} {N S : Nat} {H : pj_Heap} {o : Nat} {o9 : Option Value × pj_Mem} : pj_Ends 48 (115, L, .ref o :: st, (N, S, H)) o9 = pj_then 48 o9 (pj_pv 118 L st (N, S, H) (pj_fld (H o) 3 10)) := pj_xt q48_115 rfl (pj_cl_nc rfl) (s48_115)
theorem q48_118 : pj_row 48 118 = some (.ifCond .le 7, 3, 125, 0, 0) := by decide +kernel
theorem s48_118 {L : pj_Loc} {st : List Value} {M : pj_Mem} {x : Int32} : pj_step 48 (118, L, .int x :: st, M) = some (if x ≤ 0 then 125 else 121, L, st, M) := st_if_le q48_118
theorem x48_118 {L : pj_Loc} {st : List Value} {M : pj_Mem} {x : Int32} {o9 : Option Value × pj_Mem} : pj_Ends 48 (118, L, .int x :: st, M) o9 = pj_Ends 48 (if x ≤ 0 then 125 else 121, L, st, M) o9 := pj_xs (s48_118)
theorem q48_121 : pj_row 48 121 = some (.iconst 1, 1, 0, 0, 0) := by decide +kernel
theorem s48_121 {L : pj_Loc} {st : List Value} {M : pj_Mem}  : pj_step 48 (121, L, st, M) = some (122, L, .int 1 :: st, M) := st_iconst q48_121 (by decide +kernel)
theorem x48_121 {L : pj_Loc} {st : List Value} {M : pj_Mem}  {o9 : Option Value × pj_Mem} : pj_Ends 48 (121, L, st, M) o9 = pj_Ends 48 (122, L, .int 1 :: st, M) o9 := pj_xs (s48_121)
theorem q48_122 : pj_row 48 122 = some (.goto 4, 3, 126, 0, 0) := by decide +kernel
theorem s48_122 {L : pj_Loc} {st : List Value} {M : pj_Mem}  : pj_step 48 (122, L, st, M) = some (126, L, st, M) := st_goto q48_122
theorem x48_122 {L : pj_Loc} {st : List Value} {M : pj_Mem}  {o9 : Option Value × pj_Mem} : pj_Ends 48 (122, L, st, M) o9 = pj_Ends 48 (126, L, st, M) o9 := pj_xs (s48_122)
theorem q48_125 : pj_row 48 125 = some (.iconst 0, 1, 0, 0, 0) := by decide +kernel
theorem s48_125 {L : pj_Loc} {st : List Value} {M : pj_Mem}  : pj_step 48 (125, L, st, M) = some (126, L, .int 0 :: st, M) := st_iconst q48_125 (by decide +kernel)
theorem x48_125 {L : pj_Loc} {st : List Value} {M : pj_Mem}  {o9 : Option Value × pj_Mem} : pj_Ends 48 (125, L, st, M) o9 = pj_Ends 48 (126, L, .int 0 :: st, M) o9 := pj_xs (s48_125)
theorem q48_126 : pj_row 48 126 = some (.invokestatic 116, 3, 37, 1, 0) := by decide +kernel
theorem e48_126 {L : pj_Loc} {st : List Value} {N S : Nat} {H : pj_Heap} {o : Option Value × pj_Mem} {M' : pj_Mem} {x0 : Int32} {r : Int32} (h4 : pj_le4 st = true) (h1 : pj_Ends 37 (0, [some (.int x0)], [], (N, S, H)) (some (.int r), M')) (h2 : pj_Ends 48 (129, L, .int r :: st, M') o) : pj_Ends 48 (126, L, .int x0 :: st, (N, S, H)) o := ec_s1 q48_126 (Or.inl rfl) h4 rfl h1 h2
theorem q48_129 : pj_row 48 129 = some (.ireturn, 1, 0, 0, 0) := by decide +kernel
theorem t48_129 {L : pj_Loc} {M : pj_Mem} {v : Int32} : pj_Ends 48 (129, L, [.int v], M) (some (.int v), M) := pj_Ends.ret q48_129 (pj_rtn_i rt48)
theorem q48_130 : pj_row 48 130 = some (.bipush (-2), 2, 0, 0, 0) := by decide +kernel
theorem s48_130 {L : pj_Loc} {st : List Value} {M : pj_Mem}  : pj_step 48 (130, L, st, M) = some (132, L, .int (-2) :: st, M) := st_bipush q48_130 (by decide +kernel)
theorem x48_130 {L : pj_Loc} {st : List Value} {M : pj_Mem}  {o9 : Option Value × pj_Mem} : pj_Ends 48 (130, L, st, M) o9 = pj_Ends 48 (132, L, .int (-2) :: st, M) o9 := pj_xs (s48_130)
theorem q48_132 : pj_row 48 132 = some (.ireturn, 1, 0, 0, 0) := by decide +kernel
theorem t48_132 {L : pj_Loc} {M : pj_Mem} {v : Int32} : pj_Ends 48 (132, L, [.int v], M) (some (.int v), M) := pj_Ends.ret q48_132 (pj_rtn_i rt48)
theorem rt49 : pj_rt 49 = some .int := rfl
theorem q49_0 : pj_row 49 0 = some (.iload_n 1, 1, 0, 0, 0) := by decide +kernel
theorem s49_0 {st : List Value} {M : pj_Mem} {l : pj_Loc} {a0 : Option Value} {x : Int32} : pj_step 49 (0, a0 :: some (.int x) :: l, st, M) = some (1, a0 :: some (.int x) :: l, .int x :: st, M) := st_iload_n q49_0 rfl
theorem x49_0 {st : List Value} {M : pj_Mem} {l : pj_Loc} {a0 : Option Value} {x : Int32} {o9 : Option Value × pj_Mem} : pj_Ends 49 (0, a0 :: some (.int x) :: l, st, M) o9 = pj_Ends 49 (1, a0 :: some (.int x) :: l, .int x :: st, M) o9 := pj_xs (s49_0)
theorem q49_1 : pj_row 49 1 = some (.ifCond .lt 8, 3, 9, 0, 0) := by decide +kernel
theorem s49_1 {L : pj_Loc} {st : List Value} {M : pj_Mem} {x : Int32} : pj_step 49 (1, L, .int x :: st, M) = some (if x < 0 then 9 else 4, L, st, M) := st_if_lt q49_1
theorem x49_1 {L : pj_Loc} {st : List Value} {M : pj_Mem} {x : Int32} {o9 : Option Value × pj_Mem} : pj_Ends 49 (1, L, .int x :: st, M) o9 = pj_Ends 49 (if x < 0 then 9 else 4, L, st, M) o9 := pj_xs (s49_1)
theorem q49_4 : pj_row 49 4 = some (.iload_n 1, 1, 0, 0, 0) := by decide +kernel
theorem s49_4 {st : List Value} {M : pj_Mem} {l : pj_Loc} {a0 : Option Value} {x : Int32} : pj_step 49 (4, a0 :: some (.int x) :: l, st, M) = some (5, a0 :: some (.int x) :: l, .int x :: st, M) := st_iload_n q49_4 rfl
theorem x49_4 {st : List Value} {M : pj_Mem} {l : pj_Loc} {a0 : Option Value} {x : Int32} {o9 : Option Value × pj_Mem} : pj_Ends 49 (4, a0 :: some (.int x) :: l, st, M) o9 = pj_Ends 49 (5, a0 :: some (.int x) :: l, .int x :: st, M) o9 := pj_xs (s49_4)
theorem q49_5 : pj_row 49 5 = some (.iconst 3, 1, 0, 0, 0) := by decide +kernel
theorem s49_5 {L : pj_Loc} {st : List Value} {M : pj_Mem}  : pj_step 49 (5, L, st, M) = some (6, L, .int 3 :: st, M) := st_iconst q49_5 (by decide +kernel)
theorem x49_5 {L : pj_Loc} {st : List Value} {M : pj_Mem}  {o9 : Option Value × pj_Mem} : pj_Ends 49 (5, L, st, M) o9 = pj_Ends 49 (6, L, .int 3 :: st, M) o9 := pj_xs (s49_5)
theorem q49_6 : pj_row 49 6 = some (.if_icmp .lt 5, 3, 11, 0, 0) := by decide +kernel
theorem s49_6 {L : pj_Loc} {st : List Value} {M : pj_Mem} {x y : Int32} : pj_step 49 (6, L, .int y :: .int x :: st, M) = some (if x < y then 11 else 9, L, st, M) := st_icmp_lt q49_6
theorem x49_6 {L : pj_Loc} {st : List Value} {M : pj_Mem} {x y : Int32} {o9 : Option Value × pj_Mem} : pj_Ends 49 (6, L, .int y :: .int x :: st, M) o9 = pj_Ends 49 (if x < y then 11 else 9, L, st, M) o9 := pj_xs (s49_6)
theorem q49_9 : pj_row 49 9 = some (.iconst (-1), 1, 0, 0, 0) := by decide +kernel
theorem s49_9 {L : pj_Loc} {st : List Value} {M : pj_Mem}  : pj_step 49 (9, L, st, M) = some (10, L, .int (-1) :: st, M) := st_iconst q49_9 (by decide +kernel)
theorem x49_9 {L : pj_Loc} {st : List Value} {M : pj_Mem}  {o9 : Option Value × pj_Mem} : pj_Ends 49 (9, L, st, M) o9 = pj_Ends 49 (10, L, .int (-1) :: st, M) o9 := pj_xs (s49_9)
theorem q49_10 : pj_row 49 10 = some (.ireturn, 1, 0, 0, 0) := by decide +kernel
theorem t49_10 {L : pj_Loc} {M : pj_Mem} {v : Int32} : pj_Ends 49 (10, L, [.int v], M) (some (.int v), M) := pj_Ends.ret q49_10 (pj_rtn_i rt49)
theorem q49_11 : pj_row 49 11 = some (.sipush (-500), 3, 0, 0, 0) := by decide +kernel
theorem s49_11 {L : pj_Loc} {st : List Value} {M : pj_Mem}  : pj_step 49 (11, L, st, M) = some (14, L, .int (-500) :: st, M) := st_sipush q49_11 (by decide +kernel)
theorem x49_11 {L : pj_Loc} {st : List Value} {M : pj_Mem}  {o9 : Option Value × pj_Mem} : pj_Ends 49 (11, L, st, M) o9 = pj_Ends 49 (14, L, .int (-500) :: st, M) o9 := pj_xs (s49_11)
theorem q49_14 : pj_row 49 14 = some (.istore_n 3, 1, 0, 0, 0) := by decide +kernel
theorem s49_14 {st : List Value} {M : pj_Mem} {l : pj_Loc} {a0 a1 a2 a3 : Option Value} {x : Int32} (h : pj_long a2 = false) : pj_step 49 (14, a0 :: a1 :: a2 :: a3 :: l, .int x :: st, M) = some (15, a0 :: a1 :: a2 :: some (.int x) :: l, st, M) := st_istore_n q49_14 (pj_st_3 h)
theorem x49_14 {st : List Value} {M : pj_Mem} {l : pj_Loc} {a0 a1 a2 a3 : Option Value} {x : Int32} (h : pj_long a2 = false) {o9 : Option Value × pj_Mem} : pj_Ends 49 (14, a0 :: a1 :: a2 :: a3 :: l, .int x :: st, M) o9 = pj_Ends 49 (15, a0 :: a1 :: a2 :: some (.int x) :: l, st, M) o9 := pj_xs (s49_14 h)
theorem q49_15 : pj_row 49 15 = some (.iload_n 3, 1, 0, 0, 0) := by decide +kernel
theorem s49_15 {st : List Value} {M : pj_Mem} {l : pj_Loc} {a0 a1 a2 : Option Value} {x : Int32} : pj_step 49 (15, a0 :: a1 :: a2 :: some (.int x) :: l, st, M) = some (16, a0 :: a1 :: a2 :: some (.int x) :: l, .int x :: st, M) := st_iload_n q49_15 rfl
theorem x49_15 {st : List Value} {M : pj_Mem} {l : pj_Loc} {a0 a1 a2 : Option Value} {x : Int32} {o9 : Option Value × pj_Mem} : pj_Ends 49 (15, a0 :: a1 :: a2 :: some (.int x) :: l, st, M) o9 = pj_Ends 49 (16, a0 :: a1 :: a2 :: some (.int x) :: l, .int x :: st, M) o9 := pj_xs (s49_15)
theorem q49_16 : pj_row 49 16 = some (.sipush 500, 3, 0, 0, 0) := by decide +kernel
theorem s49_16 {L : pj_Loc} {st : List Value} {M : pj_Mem}  : pj_step 49 (16, L, st, M) = some (19, L, .int 500 :: st, M) := st_sipush q49_16 (by decide +kernel)
theorem x49_16 {L : pj_Loc} {st : List Value} {M : pj_Mem}  {o9 : Option Value × pj_Mem} : pj_Ends 49 (16, L, st, M) o9 = pj_Ends 49 (19, L, .int 500 :: st, M) o9 := pj_xs (s49_16)
theorem q49_19 : pj_row 49 19 = some (.if_icmp .gt 43, 3, 62, 0, 0) := by decide +kernel
theorem s49_19 {L : pj_Loc} {st : List Value} {M : pj_Mem} {x y : Int32} : pj_step 49 (19, L, .int y :: .int x :: st, M) = some (if y < x then 62 else 22, L, st, M) := st_icmp_gt q49_19
theorem x49_19 {L : pj_Loc} {st : List Value} {M : pj_Mem} {x y : Int32} {o9 : Option Value × pj_Mem} : pj_Ends 49 (19, L, .int y :: .int x :: st, M) o9 = pj_Ends 49 (if y < x then 62 else 22, L, st, M) o9 := pj_xs (s49_19)
theorem q49_22 : pj_row 49 22 = some (.aload_n 0, 1, 0, 0, 0) := by decide +kernel
theorem s49_22 {st : List Value} {M : pj_Mem} {l : pj_Loc} {x : Nat} : pj_step 49 (22, some (.ref x) :: l, st, M) = some (23, some (.ref x) :: l, .ref x :: st, M) := st_aload_n q49_22 rfl
theorem x49_22 {st : List Value} {M : pj_Mem} {l : pj_Loc} {x : Nat} {o9 : Option Value × pj_Mem} : pj_Ends 49 (22, some (.ref x) :: l, st, M) o9 = pj_Ends 49 (23, some (.ref x) :: l, .ref x :: st, M) o9 := pj_xs (s49_22)
theorem q49_23 : pj_row 49 23 = some (.getfield 22, 3, 5, 2, 0) := by decide +kernel
theorem s49_23 {L : pj_Loc} {st : List Value} {N S : Nat} {H : pj_Heap} {o : Nat} : pj_step 49 (23, L, .ref o :: st, (N, S, H)) = pj_pv 26 L st (N, S, H) (pj_fld (H o) 5 2) := st_getfield q49_23
theorem x49_23 {L : pj_Loc} {st : List Value} {N S : Nat} {H : pj_Heap} {o : Nat} {o9 : Option Value × pj_Mem} : pj_Ends 49 (23, L, .ref o :: st, (N, S, H)) o9 = pj_then 49 o9 (pj_pv 26 L st (N, S, H) (pj_fld (H o) 5 2)) := pj_xt q49_23 rfl (pj_cl_nc rfl) (s49_23)
theorem q49_26 : pj_row 49 26 = some (.aload_n 0, 1, 0, 0, 0) := by decide +kernel
theorem s49_26 {st : List Value} {M : pj_Mem} {l : pj_Loc} {x : Nat} : pj_step 49 (26, some (.ref x) :: l, st, M) = some (27, some (.ref x) :: l, .ref x :: st, M) := st_aload_n q49_26 rfl
theorem x49_26 {st : List Value} {M : pj_Mem} {l : pj_Loc} {x : Nat} {o9 : Option Value × pj_Mem} : pj_Ends 49 (26, some (.ref x) :: l, st, M) o9 = pj_Ends 49 (27, some (.ref x) :: l, .ref x :: st, M) o9 := pj_xs (s49_26)
theorem q49_27 : pj_row 49 27 = some (.getfield 10, 3, 5, 0, 0) := by decide +kernel
theorem s49_27 {L : pj_Loc} {st : List Value} {N S : Nat} {H : pj_Heap} {o : Nat} : pj_step 49 (27, L, .ref o :: st, (N, S, H)) = pj_pv 30 L st (N, S, H) (pj_fld (H o) 5 0) := st_getfield q49_27
theorem x49_27 {L : pj_Loc} {st : List Value} {N S : Nat} {H : pj_Heap} {o : Nat} {o9 : Option Value × pj_Mem} : pj_Ends 49 (27, L, .ref o :: st, (N, S, H)) o9 = pj_then 49 o9 (pj_pv 30 L st (N, S, H) (pj_fld (H o) 5 0)) := pj_xt q49_27 rfl (pj_cl_nc rfl) (s49_27)
theorem q49_30 : pj_row 49 30 = some (.iload_n 3, 1, 0, 0, 0) := by decide +kernel
theorem s49_30 {st : List Value} {M : pj_Mem} {l : pj_Loc} {a0 a1 a2 : Option Value} {x : Int32} : pj_step 49 (30, a0 :: a1 :: a2 :: some (.int x) :: l, st, M) = some (31, a0 :: a1 :: a2 :: some (.int x) :: l, .int x :: st, M) := st_iload_n q49_30 rfl
theorem x49_30 {st : List Value} {M : pj_Mem} {l : pj_Loc} {a0 a1 a2 : Option Value} {x : Int32} {o9 : Option Value × pj_Mem} : pj_Ends 49 (30, a0 :: a1 :: a2 :: some (.int x) :: l, st, M) o9 = pj_Ends 49 (31, a0 :: a1 :: a2 :: some (.int x) :: l, .int x :: st, M) o9 := pj_xs (s49_30)
theorem q49_31 : pj_row 49 31 = some (.iload_n 3, 1, 0, 0, 0) := by decide +kernel
theorem s49_31 {st : List Value} {M : pj_Mem} {l : pj_Loc} {a0 a1 a2 : Option Value} {x : Int32} : pj_step 49 (31, a0 :: a1 :: a2 :: some (.int x) :: l, st, M) = some (32, a0 :: a1 :: a2 :: some (.int x) :: l, .int x :: st, M) := st_iload_n q49_31 rfl
theorem x49_31 {st : List Value} {M : pj_Mem} {l : pj_Loc} {a0 a1 a2 : Option Value} {x : Int32} {o9 : Option Value × pj_Mem} : pj_Ends 49 (31, a0 :: a1 :: a2 :: some (.int x) :: l, st, M) o9 = pj_Ends 49 (32, a0 :: a1 :: a2 :: some (.int x) :: l, .int x :: st, M) o9 := pj_xs (s49_31)
theorem q49_32 : pj_row 49 32 = some (.iload_n 3, 1, 0, 0, 0) := by decide +kernel
theorem s49_32 {st : List Value} {M : pj_Mem} {l : pj_Loc} {a0 a1 a2 : Option Value} {x : Int32} : pj_step 49 (32, a0 :: a1 :: a2 :: some (.int x) :: l, st, M) = some (33, a0 :: a1 :: a2 :: some (.int x) :: l, .int x :: st, M) := st_iload_n q49_32 rfl
theorem x49_32 {st : List Value} {M : pj_Mem} {l : pj_Loc} {a0 a1 a2 : Option Value} {x : Int32} {o9 : Option Value × pj_Mem} : pj_Ends 49 (32, a0 :: a1 :: a2 :: some (.int x) :: l, st, M) o9 = pj_Ends 49 (33, a0 :: a1 :: a2 :: some (.int x) :: l, .int x :: st, M) o9 := pj_xs (s49_32)
theorem q49_33 : pj_row 49 33 = some (.iload_n 2, 1, 0, 0, 0) := by decide +kernel
theorem s49_33 {st : List Value} {M : pj_Mem} {l : pj_Loc} {a0 a1 : Option Value} {x : Int32} : pj_step 49 (33, a0 :: a1 :: some (.int x) :: l, st, M) = some (34, a0 :: a1 :: some (.int x) :: l, .int x :: st, M) := st_iload_n q49_33 rfl
theorem x49_33 {st : List Value} {M : pj_Mem} {l : pj_Loc} {a0 a1 : Option Value} {x : Int32} {o9 : Option Value × pj_Mem} : pj_Ends 49 (33, a0 :: a1 :: some (.int x) :: l, st, M) o9 = pj_Ends 49 (34, a0 :: a1 :: some (.int x) :: l, .int x :: st, M) o9 := pj_xs (s49_33)
theorem q49_34 : pj_row 49 34 = some (.invokevirtual 151, 3, 15, 6, 0) := by decide +kernel
theorem e49_34 {L : pj_Loc} {st : List Value} {N S : Nat} {H : pj_Heap} {o : Option Value × pj_Mem} {M' : pj_Mem} {x0 : Nat} {x1 : Nat} {x2 : Int32} {x3 : Int32} {x4 : Int32} {x5 : Int32} (h4 : pj_le4 st = true) (hu : pj_isU 3 (H x0) = true) (h1 : pj_Ends 15 (0, [some (.ref x0), some (.ref x1), some (.int x2), some (.int x3), some (.int x4), some (.int x5)], [], (N, S, H)) (none, M')) (h2 : pj_Ends 49 (37, L, st, M') o) : pj_Ends 49 (34, L, .int x5 :: .int x4 :: .int x3 :: .int x2 :: .ref x1 :: .ref x0 :: st, (N, S, H)) o := ec_v6 q49_34 (Or.inl rfl) h4 hu rfl h1 h2
theorem q49_37 : pj_row 49 37 = some (.aload_n 0, 1, 0, 0, 0) := by decide +kernel
theorem s49_37 {st : List Value} {M : pj_Mem} {l : pj_Loc} {x : Nat} : pj_step 49 (37, some (.ref x) :: l, st, M) = some (38, some (.ref x) :: l, .ref x :: st, M) := st_aload_n q49_37 rfl
theorem x49_37 {st : List Value} {M : pj_Mem} {l : pj_Loc} {x : Nat} {o9 : Option Value × pj_Mem} : pj_Ends 49 (37, some (.ref x) :: l, st, M) o9 = pj_Ends 49 (38, some (.ref x) :: l, .ref x :: st, M) o9 := pj_xs (s49_37)
theorem q49_38 : pj_row 49 38 = some (.getfield 22, 3, 5, 2, 0) := by decide +kernel
theorem s49_38 {L : pj_Loc} {st : List Value} {N S : Nat} {H : pj_Heap} {o : Nat} : pj_step 49 (38, L, .ref o :: st, (N, S, H)) = pj_pv 41 L st (N, S, H) (pj_fld (H o) 5 2) := st_getfield q49_38
theorem x49_38 {L : pj_Loc} {st : List Value} {N S : Nat} {H : pj_Heap} {o : Nat} {o9 : Option Value × pj_Mem} : pj_Ends 49 (38, L, .ref o :: st, (N, S, H)) o9 = pj_then 49 o9 (pj_pv 41 L st (N, S, H) (pj_fld (H o) 5 2)) := pj_xt q49_38 rfl (pj_cl_nc rfl) (s49_38)
theorem q49_41 : pj_row 49 41 = some (.getfield 155, 3, 3, 13, 0) := by decide +kernel
theorem s49_41 {L : pj_Loc} {st : List Value} {N S : Nat} {H : pj_Heap} {o : Nat} : pj_step 49 (41, L, .ref o :: st, (N, S, H)) = pj_pv 44 L st (N, S, H) (pj_fld (H o) 3 13) := st_getfield q49_41
theorem x49_41 {L : pj_Loc} {st : List Value} {N S : Nat} {H : pj_Heap} {o : Nat} {o9 : Option Value × pj_Mem} : pj_Ends 49 (41, L, .ref o :: st, (N, S, H)) o9 = pj_then 49 o9 (pj_pv 44 L st (N, S, H) (pj_fld (H o) 3 13)) := pj_xt q49_41 rfl (pj_cl_nc rfl) (s49_41)
theorem q49_44 : pj_row 49 44 = some (.iload_n 1, 1, 0, 0, 0) := by decide +kernel
theorem s49_44 {st : List Value} {M : pj_Mem} {l : pj_Loc} {a0 : Option Value} {x : Int32} : pj_step 49 (44, a0 :: some (.int x) :: l, st, M) = some (45, a0 :: some (.int x) :: l, .int x :: st, M) := st_iload_n q49_44 rfl
theorem x49_44 {st : List Value} {M : pj_Mem} {l : pj_Loc} {a0 : Option Value} {x : Int32} {o9 : Option Value × pj_Mem} : pj_Ends 49 (44, a0 :: some (.int x) :: l, st, M) o9 = pj_Ends 49 (45, a0 :: some (.int x) :: l, .int x :: st, M) o9 := pj_xs (s49_44)
theorem q49_45 : pj_row 49 45 = some (.invokestatic 77, 3, 21, 2, 0) := by decide +kernel
theorem e49_45 {L : pj_Loc} {st : List Value} {N S : Nat} {H : pj_Heap} {o : Option Value × pj_Mem} {M' : pj_Mem} {x0 : Int32} {x1 : Int32} {r : Int32} (h4 : pj_le4 st = true) (h1 : pj_Ends 21 (0, [some (.int x0), some (.int x1)], [], (N, S, H)) (some (.int r), M')) (h2 : pj_Ends 49 (48, L, .int r :: st, M') o) : pj_Ends 49 (45, L, .int x1 :: .int x0 :: st, (N, S, H)) o := ec_s2 q49_45 (Or.inl rfl) h4 rfl h1 h2
theorem q49_48 : pj_row 49 48 = some (.ifCond .eq 8, 3, 56, 0, 0) := by decide +kernel
theorem s49_48 {L : pj_Loc} {st : List Value} {M : pj_Mem} {x : Int32} : pj_step 49 (48, L, .int x :: st, M) = some (if x = 0 then 56 else 51, L, st, M) := st_if_eq q49_48
theorem x49_48 {L : pj_Loc} {st : List Value} {M : pj_Mem} {x : Int32} {o9 : Option Value × pj_Mem} : pj_Ends 49 (48, L, .int x :: st, M) o9 = pj_Ends 49 (if x = 0 then 56 else 51, L, st, M) o9 := pj_xs (s49_48)
theorem q49_51 : pj_row 49 51 = some (.iload_n 3, 1, 0, 0, 0) := by decide +kernel
theorem s49_51 {st : List Value} {M : pj_Mem} {l : pj_Loc} {a0 a1 a2 : Option Value} {x : Int32} : pj_step 49 (51, a0 :: a1 :: a2 :: some (.int x) :: l, st, M) = some (52, a0 :: a1 :: a2 :: some (.int x) :: l, .int x :: st, M) := st_iload_n q49_51 rfl
theorem x49_51 {st : List Value} {M : pj_Mem} {l : pj_Loc} {a0 a1 a2 : Option Value} {x : Int32} {o9 : Option Value × pj_Mem} : pj_Ends 49 (51, a0 :: a1 :: a2 :: some (.int x) :: l, st, M) o9 = pj_Ends 49 (52, a0 :: a1 :: a2 :: some (.int x) :: l, .int x :: st, M) o9 := pj_xs (s49_51)
theorem q49_52 : pj_row 49 52 = some (.ldc 69, 2, 0, 0, 100000) := by decide +kernel
theorem s49_52 {L : pj_Loc} {st : List Value} {M : pj_Mem}  : pj_step 49 (52, L, st, M) = some (54, L, .int 100000 :: st, M) := st_ldc q49_52 (by decide +kernel)
theorem x49_52 {L : pj_Loc} {st : List Value} {M : pj_Mem}  {o9 : Option Value × pj_Mem} : pj_Ends 49 (52, L, st, M) o9 = pj_Ends 49 (54, L, .int 100000 :: st, M) o9 := pj_xs (s49_52)
theorem q49_54 : pj_row 49 54 = some (.iadd, 1, 0, 0, 0) := by decide +kernel
theorem s49_54 {L : pj_Loc} {st : List Value} {M : pj_Mem} {x y : Int32} : pj_step 49 (54, L, .int y :: .int x :: st, M) = some (55, L, .int (x + y) :: st, M) := st_iadd q49_54
theorem x49_54 {L : pj_Loc} {st : List Value} {M : pj_Mem} {x y : Int32} {o9 : Option Value × pj_Mem} : pj_Ends 49 (54, L, .int y :: .int x :: st, M) o9 = pj_Ends 49 (55, L, .int (x + y) :: st, M) o9 := pj_xs (s49_54)
theorem q49_55 : pj_row 49 55 = some (.ireturn, 1, 0, 0, 0) := by decide +kernel
theorem t49_55 {L : pj_Loc} {M : pj_Mem} {v : Int32} : pj_Ends 49 (55, L, [.int v], M) (some (.int v), M) := pj_Ends.ret q49_55 (pj_rtn_i rt49)
theorem q49_56 : pj_row 49 56 = some (.iinc 3 1, 3, 0, 0, 0) := by decide +kernel
theorem s49_56 {st : List Value} {M : pj_Mem} {l : pj_Loc} {a0 a1 a2 : Option Value} {x : Int32} (h : pj_long a2 = false) : pj_step 49 (56, a0 :: a1 :: a2 :: some (.int x) :: l, st, M) = some (59, a0 :: a1 :: a2 :: some (.int (x + 1)) :: l, st, M) := st_iinc q49_56 rfl (congrArg (fun y => x + y) (show Int32.ofInt 1 = 1 by decide +kernel)) (pj_st_3 h)
theorem x49_56 {st : List Value} {M : pj_Mem} {l : pj_Loc} {a0 a1 a2 : Option Value} {x : Int32} (h : pj_long a2 = false) {o9 : Option Value × pj_Mem} : pj_Ends 49 (56, a0 :: a1 :: a2 :: some (.int x) :: l, st, M) o9 = pj_Ends 49 (59, a0 :: a1 :: a2 :: some (.int (x + 1)) :: l, st, M) o9 := pj_xs (s49_56 h)
theorem q49_59 : pj_row 49 59 = some (.goto (-44), 3, 15, 0, 0) := by decide +kernel
theorem s49_59 {L : pj_Loc} {st : List Value} {M : pj_Mem}  : pj_step 49 (59, L, st, M) = some (15, L, st, M) := st_goto q49_59
theorem x49_59 {L : pj_Loc} {st : List Value} {M : pj_Mem}  {o9 : Option Value × pj_Mem} : pj_Ends 49 (59, L, st, M) o9 = pj_Ends 49 (15, L, st, M) o9 := pj_xs (s49_59)
theorem q49_62 : pj_row 49 62 = some (.bipush (-6), 2, 0, 0, 0) := by decide +kernel
theorem s49_62 {L : pj_Loc} {st : List Value} {M : pj_Mem}  : pj_step 49 (62, L, st, M) = some (64, L, .int (-6) :: st, M) := st_bipush q49_62 (by decide +kernel)
theorem x49_62 {L : pj_Loc} {st : List Value} {M : pj_Mem}  {o9 : Option Value × pj_Mem} : pj_Ends 49 (62, L, st, M) o9 = pj_Ends 49 (64, L, .int (-6) :: st, M) o9 := pj_xs (s49_62)
theorem q49_64 : pj_row 49 64 = some (.ireturn, 1, 0, 0, 0) := by decide +kernel
theorem t49_64 {L : pj_Loc} {M : pj_Mem} {v : Int32} : pj_Ends 49 (64, L, [.int v], M) (some (.int v), M) := pj_Ends.ret q49_64 (pj_rtn_i rt49)
theorem rt50 : pj_rt 50 = some .int := rfl
theorem q50_0 : pj_row 50 0 = some (.iload_n 1, 1, 0, 0, 0) := by decide +kernel
theorem s50_0 {st : List Value} {M : pj_Mem} {l : pj_Loc} {a0 : Option Value} {x : Int32} : pj_step 50 (0, a0 :: some (.int x) :: l, st, M) = some (1, a0 :: some (.int x) :: l, .int x :: st, M) := st_iload_n q50_0 rfl
theorem x50_0 {st : List Value} {M : pj_Mem} {l : pj_Loc} {a0 : Option Value} {x : Int32} {o9 : Option Value × pj_Mem} : pj_Ends 50 (0, a0 :: some (.int x) :: l, st, M) o9 = pj_Ends 50 (1, a0 :: some (.int x) :: l, .int x :: st, M) o9 := pj_xs (s50_0)
theorem q50_1 : pj_row 50 1 = some (.ifCond .lt 8, 3, 9, 0, 0) := by decide +kernel
theorem s50_1 {L : pj_Loc} {st : List Value} {M : pj_Mem} {x : Int32} : pj_step 50 (1, L, .int x :: st, M) = some (if x < 0 then 9 else 4, L, st, M) := st_if_lt q50_1
theorem x50_1 {L : pj_Loc} {st : List Value} {M : pj_Mem} {x : Int32} {o9 : Option Value × pj_Mem} : pj_Ends 50 (1, L, .int x :: st, M) o9 = pj_Ends 50 (if x < 0 then 9 else 4, L, st, M) o9 := pj_xs (s50_1)
theorem q50_4 : pj_row 50 4 = some (.iload_n 1, 1, 0, 0, 0) := by decide +kernel
theorem s50_4 {st : List Value} {M : pj_Mem} {l : pj_Loc} {a0 : Option Value} {x : Int32} : pj_step 50 (4, a0 :: some (.int x) :: l, st, M) = some (5, a0 :: some (.int x) :: l, .int x :: st, M) := st_iload_n q50_4 rfl
theorem x50_4 {st : List Value} {M : pj_Mem} {l : pj_Loc} {a0 : Option Value} {x : Int32} {o9 : Option Value × pj_Mem} : pj_Ends 50 (4, a0 :: some (.int x) :: l, st, M) o9 = pj_Ends 50 (5, a0 :: some (.int x) :: l, .int x :: st, M) o9 := pj_xs (s50_4)
theorem q50_5 : pj_row 50 5 = some (.iconst 3, 1, 0, 0, 0) := by decide +kernel
theorem s50_5 {L : pj_Loc} {st : List Value} {M : pj_Mem}  : pj_step 50 (5, L, st, M) = some (6, L, .int 3 :: st, M) := st_iconst q50_5 (by decide +kernel)
theorem x50_5 {L : pj_Loc} {st : List Value} {M : pj_Mem}  {o9 : Option Value × pj_Mem} : pj_Ends 50 (5, L, st, M) o9 = pj_Ends 50 (6, L, .int 3 :: st, M) o9 := pj_xs (s50_5)
theorem q50_6 : pj_row 50 6 = some (.if_icmp .lt 5, 3, 11, 0, 0) := by decide +kernel
theorem s50_6 {L : pj_Loc} {st : List Value} {M : pj_Mem} {x y : Int32} : pj_step 50 (6, L, .int y :: .int x :: st, M) = some (if x < y then 11 else 9, L, st, M) := st_icmp_lt q50_6
theorem x50_6 {L : pj_Loc} {st : List Value} {M : pj_Mem} {x y : Int32} {o9 : Option Value × pj_Mem} : pj_Ends 50 (6, L, .int y :: .int x :: st, M) o9 = pj_Ends 50 (if x < y then 11 else 9, L, st, M) o9 := pj_xs (s50_6)
theorem q50_9 : pj_row 50 9 = some (.iconst (-1), 1, 0, 0, 0) := by decide +kernel
theorem s50_9 {L : pj_Loc} {st : List Value} {M : pj_Mem}  : pj_step 50 (9, L, st, M) = some (10, L, .int (-1) :: st, M) := st_iconst q50_9 (by decide +kernel)
theorem x50_9 {L : pj_Loc} {st : List Value} {M : pj_Mem}  {o9 : Option Value × pj_Mem} : pj_Ends 50 (9, L, st, M) o9 = pj_Ends 50 (10, L, .int (-1) :: st, M) o9 := pj_xs (s50_9)
theorem q50_10 : pj_row 50 10 = some (.ireturn, 1, 0, 0, 0) := by decide +kernel
theorem t50_10 {L : pj_Loc} {M : pj_Mem} {v : Int32} : pj_Ends 50 (10, L, [.int v], M) (some (.int v), M) := pj_Ends.ret q50_10 (pj_rtn_i rt50)
theorem q50_11 : pj_row 50 11 = some (.iload_n 2, 1, 0, 0, 0) := by decide +kernel
theorem s50_11 {st : List Value} {M : pj_Mem} {l : pj_Loc} {a0 a1 : Option Value} {x : Int32} : pj_step 50 (11, a0 :: a1 :: some (.int x) :: l, st, M) = some (12, a0 :: a1 :: some (.int x) :: l, .int x :: st, M) := st_iload_n q50_11 rfl
theorem x50_11 {st : List Value} {M : pj_Mem} {l : pj_Loc} {a0 a1 : Option Value} {x : Int32} {o9 : Option Value × pj_Mem} : pj_Ends 50 (11, a0 :: a1 :: some (.int x) :: l, st, M) o9 = pj_Ends 50 (12, a0 :: a1 :: some (.int x) :: l, .int x :: st, M) o9 := pj_xs (s50_11)
theorem q50_12 : pj_row 50 12 = some (.invokestatic 169, 3, 13, 1, 0) := by decide +kernel
theorem e50_12 {L : pj_Loc} {st : List Value} {N S : Nat} {H : pj_Heap} {o : Option Value × pj_Mem} {M' : pj_Mem} {x0 : Int32} {r : Int32} (h4 : pj_le4 st = true) (h1 : pj_Ends 13 (0, [some (.int x0)], [], (N, S, H)) (some (.int r), M')) (h2 : pj_Ends 50 (15, L, .int r :: st, M') o) : pj_Ends 50 (12, L, .int x0 :: st, (N, S, H)) o := ec_s1 q50_12 (Or.inl rfl) h4 rfl h1 h2
theorem q50_15 : pj_row 50 15 = some (.ifCond .ne 6, 3, 21, 0, 0) := by decide +kernel
theorem s50_15 {L : pj_Loc} {st : List Value} {M : pj_Mem} {x : Int32} : pj_step 50 (15, L, .int x :: st, M) = some (if ¬ x = 0 then 21 else 18, L, st, M) := st_if_ne q50_15
theorem x50_15 {L : pj_Loc} {st : List Value} {M : pj_Mem} {x : Int32} {o9 : Option Value × pj_Mem} : pj_Ends 50 (15, L, .int x :: st, M) o9 = pj_Ends 50 (if ¬ x = 0 then 21 else 18, L, st, M) o9 := pj_xs (s50_15)
theorem q50_18 : pj_row 50 18 = some (.bipush (-2), 2, 0, 0, 0) := by decide +kernel
theorem s50_18 {L : pj_Loc} {st : List Value} {M : pj_Mem}  : pj_step 50 (18, L, st, M) = some (20, L, .int (-2) :: st, M) := st_bipush q50_18 (by decide +kernel)
theorem x50_18 {L : pj_Loc} {st : List Value} {M : pj_Mem}  {o9 : Option Value × pj_Mem} : pj_Ends 50 (18, L, st, M) o9 = pj_Ends 50 (20, L, .int (-2) :: st, M) o9 := pj_xs (s50_18)
theorem q50_20 : pj_row 50 20 = some (.ireturn, 1, 0, 0, 0) := by decide +kernel
theorem t50_20 {L : pj_Loc} {M : pj_Mem} {v : Int32} : pj_Ends 50 (20, L, [.int v], M) (some (.int v), M) := pj_Ends.ret q50_20 (pj_rtn_i rt50)
theorem q50_21 : pj_row 50 21 = some (.aload_n 0, 1, 0, 0, 0) := by decide +kernel
theorem s50_21 {st : List Value} {M : pj_Mem} {l : pj_Loc} {x : Nat} : pj_step 50 (21, some (.ref x) :: l, st, M) = some (22, some (.ref x) :: l, .ref x :: st, M) := st_aload_n q50_21 rfl
theorem x50_21 {st : List Value} {M : pj_Mem} {l : pj_Loc} {x : Nat} {o9 : Option Value × pj_Mem} : pj_Ends 50 (21, some (.ref x) :: l, st, M) o9 = pj_Ends 50 (22, some (.ref x) :: l, .ref x :: st, M) o9 := pj_xs (s50_21)
theorem q50_22 : pj_row 50 22 = some (.getfield 10, 3, 5, 0, 0) := by decide +kernel
theorem s50_22 {L : pj_Loc} {st : List Value} {N S : Nat} {H : pj_Heap} {o : Nat} : pj_step 50 (22, L, .ref o :: st, (N, S, H)) = pj_pv 25 L st (N, S, H) (pj_fld (H o) 5 0) := st_getfield q50_22
theorem x50_22 {L : pj_Loc} {st : List Value} {N S : Nat} {H : pj_Heap} {o : Nat} {o9 : Option Value × pj_Mem} : pj_Ends 50 (22, L, .ref o :: st, (N, S, H)) o9 = pj_then 50 o9 (pj_pv 25 L st (N, S, H) (pj_fld (H o) 5 0)) := pj_xt q50_22 rfl (pj_cl_nc rfl) (s50_22)
theorem q50_25 : pj_row 50 25 = some (.getfield 81, 3, 4, 5, 0) := by decide +kernel
theorem s50_25 {L : pj_Loc} {st : List Value} {N S : Nat} {H : pj_Heap} {o : Nat} : pj_step 50 (25, L, .ref o :: st, (N, S, H)) = pj_pv 28 L st (N, S, H) (pj_fld (H o) 4 5) := st_getfield q50_25
theorem x50_25 {L : pj_Loc} {st : List Value} {N S : Nat} {H : pj_Heap} {o : Nat} {o9 : Option Value × pj_Mem} : pj_Ends 50 (25, L, .ref o :: st, (N, S, H)) o9 = pj_then 50 o9 (pj_pv 28 L st (N, S, H) (pj_fld (H o) 4 5)) := pj_xt q50_25 rfl (pj_cl_nc rfl) (s50_25)
theorem q50_28 : pj_row 50 28 = some (.iload_n 1, 1, 0, 0, 0) := by decide +kernel
theorem s50_28 {st : List Value} {M : pj_Mem} {l : pj_Loc} {a0 : Option Value} {x : Int32} : pj_step 50 (28, a0 :: some (.int x) :: l, st, M) = some (29, a0 :: some (.int x) :: l, .int x :: st, M) := st_iload_n q50_28 rfl
theorem x50_28 {st : List Value} {M : pj_Mem} {l : pj_Loc} {a0 : Option Value} {x : Int32} {o9 : Option Value × pj_Mem} : pj_Ends 50 (28, a0 :: some (.int x) :: l, st, M) o9 = pj_Ends 50 (29, a0 :: some (.int x) :: l, .int x :: st, M) o9 := pj_xs (s50_28)
theorem q50_29 : pj_row 50 29 = some (.iaload, 1, 0, 0, 0) := by decide +kernel
theorem s50_29 {L : pj_Loc} {st : List Value} {N S : Nat} {H : pj_Heap} {o : Nat} {i : Int32} : pj_step 50 (29, L, .int i :: .ref o :: st, (N, S, H)) = pj_pi 30 L st (N, S, H) (pj_arl (H o) 0 i) := st_iaload q50_29
theorem x50_29 {L : pj_Loc} {st : List Value} {N S : Nat} {H : pj_Heap} {o : Nat} {i : Int32} {o9 : Option Value × pj_Mem} : pj_Ends 50 (29, L, .int i :: .ref o :: st, (N, S, H)) o9 = pj_then 50 o9 (pj_pi 30 L st (N, S, H) (pj_arl (H o) 0 i)) := pj_xt q50_29 rfl (pj_cl_nc rfl) (s50_29)
theorem q50_30 : pj_row 50 30 = some (.bipush (-6), 2, 0, 0, 0) := by decide +kernel
theorem s50_30 {L : pj_Loc} {st : List Value} {M : pj_Mem}  : pj_step 50 (30, L, st, M) = some (32, L, .int (-6) :: st, M) := st_bipush q50_30 (by decide +kernel)
theorem x50_30 {L : pj_Loc} {st : List Value} {M : pj_Mem}  {o9 : Option Value × pj_Mem} : pj_Ends 50 (30, L, st, M) o9 = pj_Ends 50 (32, L, .int (-6) :: st, M) o9 := pj_xs (s50_30)
theorem q50_32 : pj_row 50 32 = some (.if_icmp .eq 5, 3, 37, 0, 0) := by decide +kernel
theorem s50_32 {L : pj_Loc} {st : List Value} {M : pj_Mem} {x y : Int32} : pj_step 50 (32, L, .int y :: .int x :: st, M) = some (if x = y then 37 else 35, L, st, M) := st_icmp_eq q50_32
theorem x50_32 {L : pj_Loc} {st : List Value} {M : pj_Mem} {x y : Int32} {o9 : Option Value × pj_Mem} : pj_Ends 50 (32, L, .int y :: .int x :: st, M) o9 = pj_Ends 50 (if x = y then 37 else 35, L, st, M) o9 := pj_xs (s50_32)
theorem q50_35 : pj_row 50 35 = some (.iconst 0, 1, 0, 0, 0) := by decide +kernel
theorem s50_35 {L : pj_Loc} {st : List Value} {M : pj_Mem}  : pj_step 50 (35, L, st, M) = some (36, L, .int 0 :: st, M) := st_iconst q50_35 (by decide +kernel)
theorem x50_35 {L : pj_Loc} {st : List Value} {M : pj_Mem}  {o9 : Option Value × pj_Mem} : pj_Ends 50 (35, L, st, M) o9 = pj_Ends 50 (36, L, .int 0 :: st, M) o9 := pj_xs (s50_35)
theorem q50_36 : pj_row 50 36 = some (.ireturn, 1, 0, 0, 0) := by decide +kernel
theorem t50_36 {L : pj_Loc} {M : pj_Mem} {v : Int32} : pj_Ends 50 (36, L, [.int v], M) (some (.int v), M) := pj_Ends.ret q50_36 (pj_rtn_i rt50)
theorem q50_37 : pj_row 50 37 = some (.aload_n 0, 1, 0, 0, 0) := by decide +kernel
theorem s50_37 {st : List Value} {M : pj_Mem} {l : pj_Loc} {x : Nat} : pj_step 50 (37, some (.ref x) :: l, st, M) = some (38, some (.ref x) :: l, .ref x :: st, M) := st_aload_n q50_37 rfl
theorem x50_37 {st : List Value} {M : pj_Mem} {l : pj_Loc} {x : Nat} {o9 : Option Value × pj_Mem} : pj_Ends 50 (37, some (.ref x) :: l, st, M) o9 = pj_Ends 50 (38, some (.ref x) :: l, .ref x :: st, M) o9 := pj_xs (s50_37)
theorem q50_38 : pj_row 50 38 = some (.getfield 16, 3, 5, 1, 0) := by decide +kernel
theorem s50_38 {L : pj_Loc} {st : List Value} {N S : Nat} {H : pj_Heap} {o : Nat} : pj_step 50 (38, L, .ref o :: st, (N, S, H)) = pj_pv 41 L st (N, S, H) (pj_fld (H o) 5 1) := st_getfield q50_38
theorem x50_38 {L : pj_Loc} {st : List Value} {N S : Nat} {H : pj_Heap} {o : Nat} {o9 : Option Value × pj_Mem} : pj_Ends 50 (38, L, .ref o :: st, (N, S, H)) o9 = pj_then 50 o9 (pj_pv 41 L st (N, S, H) (pj_fld (H o) 5 1)) := pj_xt q50_38 rfl (pj_cl_nc rfl) (s50_38)
theorem q50_41 : pj_row 50 41 = some (.aload_n 0, 1, 0, 0, 0) := by decide +kernel
theorem s50_41 {st : List Value} {M : pj_Mem} {l : pj_Loc} {x : Nat} : pj_step 50 (41, some (.ref x) :: l, st, M) = some (42, some (.ref x) :: l, .ref x :: st, M) := st_aload_n q50_41 rfl
theorem x50_41 {st : List Value} {M : pj_Mem} {l : pj_Loc} {x : Nat} {o9 : Option Value × pj_Mem} : pj_Ends 50 (41, some (.ref x) :: l, st, M) o9 = pj_Ends 50 (42, some (.ref x) :: l, .ref x :: st, M) o9 := pj_xs (s50_41)
theorem q50_42 : pj_row 50 42 = some (.getfield 10, 3, 5, 0, 0) := by decide +kernel
theorem s50_42 {L : pj_Loc} {st : List Value} {N S : Nat} {H : pj_Heap} {o : Nat} : pj_step 50 (42, L, .ref o :: st, (N, S, H)) = pj_pv 45 L st (N, S, H) (pj_fld (H o) 5 0) := st_getfield q50_42
theorem x50_42 {L : pj_Loc} {st : List Value} {N S : Nat} {H : pj_Heap} {o : Nat} {o9 : Option Value × pj_Mem} : pj_Ends 50 (42, L, .ref o :: st, (N, S, H)) o9 = pj_then 50 o9 (pj_pv 45 L st (N, S, H) (pj_fld (H o) 5 0)) := pj_xt q50_42 rfl (pj_cl_nc rfl) (s50_42)
theorem q50_45 : pj_row 50 45 = some (.invokevirtual 172, 3, 9, 2, 0) := by decide +kernel
theorem e50_45 {L : pj_Loc} {st : List Value} {N S : Nat} {H : pj_Heap} {o : Option Value × pj_Mem} {M' : pj_Mem} {x0 : Nat} {x1 : Nat} (h4 : pj_le4 st = true) (hu : pj_isU 4 (H x0) = true) (h1 : pj_Ends 9 (0, [some (.ref x0), some (.ref x1)], [], (N, S, H)) (none, M')) (h2 : pj_Ends 50 (48, L, st, M') o) : pj_Ends 50 (45, L, .ref x1 :: .ref x0 :: st, (N, S, H)) o := ec_v2 q50_45 (Or.inl rfl) h4 hu rfl h1 h2
theorem q50_48 : pj_row 50 48 = some (.iconst 1, 1, 0, 0, 0) := by decide +kernel
theorem s50_48 {L : pj_Loc} {st : List Value} {M : pj_Mem}  : pj_step 50 (48, L, st, M) = some (49, L, .int 1 :: st, M) := st_iconst q50_48 (by decide +kernel)
theorem x50_48 {L : pj_Loc} {st : List Value} {M : pj_Mem}  {o9 : Option Value × pj_Mem} : pj_Ends 50 (48, L, st, M) o9 = pj_Ends 50 (49, L, .int 1 :: st, M) o9 := pj_xs (s50_48)
theorem q50_49 : pj_row 50 49 = some (.istore_n 3, 1, 0, 0, 0) := by decide +kernel
theorem s50_49 {st : List Value} {M : pj_Mem} {l : pj_Loc} {a0 a1 a2 a3 : Option Value} {x : Int32} (h : pj_long a2 = false) : pj_step 50 (49, a0 :: a1 :: a2 :: a3 :: l, .int x :: st, M) = some (50, a0 :: a1 :: a2 :: some (.int x) :: l, st, M) := st_istore_n q50_49 (pj_st_3 h)
theorem x50_49 {st : List Value} {M : pj_Mem} {l : pj_Loc} {a0 a1 a2 a3 : Option Value} {x : Int32} (h : pj_long a2 = false) {o9 : Option Value × pj_Mem} : pj_Ends 50 (49, a0 :: a1 :: a2 :: a3 :: l, .int x :: st, M) o9 = pj_Ends 50 (50, a0 :: a1 :: a2 :: some (.int x) :: l, st, M) o9 := pj_xs (s50_49 h)
theorem q50_50 : pj_row 50 50 = some (.iload_n 3, 1, 0, 0, 0) := by decide +kernel
theorem s50_50 {st : List Value} {M : pj_Mem} {l : pj_Loc} {a0 a1 a2 : Option Value} {x : Int32} : pj_step 50 (50, a0 :: a1 :: a2 :: some (.int x) :: l, st, M) = some (51, a0 :: a1 :: a2 :: some (.int x) :: l, .int x :: st, M) := st_iload_n q50_50 rfl
theorem x50_50 {st : List Value} {M : pj_Mem} {l : pj_Loc} {a0 a1 a2 : Option Value} {x : Int32} {o9 : Option Value × pj_Mem} : pj_Ends 50 (50, a0 :: a1 :: a2 :: some (.int x) :: l, st, M) o9 = pj_Ends 50 (51, a0 :: a1 :: a2 :: some (.int x) :: l, .int x :: st, M) o9 := pj_xs (s50_50)
theorem q50_51 : pj_row 50 51 = some (.bipush 50, 2, 0, 0, 0) := by decide +kernel
theorem s50_51 {L : pj_Loc} {st : List Value} {M : pj_Mem}  : pj_step 50 (51, L, st, M) = some (53, L, .int 50 :: st, M) := st_bipush q50_51 (by decide +kernel)
theorem x50_51 {L : pj_Loc} {st : List Value} {M : pj_Mem}  {o9 : Option Value × pj_Mem} : pj_Ends 50 (51, L, st, M) o9 = pj_Ends 50 (53, L, .int 50 :: st, M) o9 := pj_xs (s50_51)
theorem q50_53 : pj_row 50 53 = some (.if_icmp .gt 30, 3, 83, 0, 0) := by decide +kernel
theorem s50_53 {L : pj_Loc} {st : List Value} {M : pj_Mem} {x y : Int32} : pj_step 50 (53, L, .int y :: .int x :: st, M) = some (if y < x then 83 else 56, L, st, M) := st_icmp_gt q50_53
theorem x50_53 {L : pj_Loc} {st : List Value} {M : pj_Mem} {x y : Int32} {o9 : Option Value × pj_Mem} : pj_Ends 50 (53, L, .int y :: .int x :: st, M) o9 = pj_Ends 50 (if y < x then 83 else 56, L, st, M) o9 := pj_xs (s50_53)
theorem q50_56 : pj_row 50 56 = some (.aload_n 0, 1, 0, 0, 0) := by decide +kernel
theorem s50_56 {st : List Value} {M : pj_Mem} {l : pj_Loc} {x : Nat} : pj_step 50 (56, some (.ref x) :: l, st, M) = some (57, some (.ref x) :: l, .ref x :: st, M) := st_aload_n q50_56 rfl
theorem x50_56 {st : List Value} {M : pj_Mem} {l : pj_Loc} {x : Nat} {o9 : Option Value × pj_Mem} : pj_Ends 50 (56, some (.ref x) :: l, st, M) o9 = pj_Ends 50 (57, some (.ref x) :: l, .ref x :: st, M) o9 := pj_xs (s50_56)
theorem q50_57 : pj_row 50 57 = some (.aload_n 0, 1, 0, 0, 0) := by decide +kernel
theorem s50_57 {st : List Value} {M : pj_Mem} {l : pj_Loc} {x : Nat} : pj_step 50 (57, some (.ref x) :: l, st, M) = some (58, some (.ref x) :: l, .ref x :: st, M) := st_aload_n q50_57 rfl
theorem x50_57 {st : List Value} {M : pj_Mem} {l : pj_Loc} {x : Nat} {o9 : Option Value × pj_Mem} : pj_Ends 50 (57, some (.ref x) :: l, st, M) o9 = pj_Ends 50 (58, some (.ref x) :: l, .ref x :: st, M) o9 := pj_xs (s50_57)
theorem q50_58 : pj_row 50 58 = some (.getfield 16, 3, 5, 1, 0) := by decide +kernel
theorem s50_58 {L : pj_Loc} {st : List Value} {N S : Nat} {H : pj_Heap} {o : Nat} : pj_step 50 (58, L, .ref o :: st, (N, S, H)) = pj_pv 61 L st (N, S, H) (pj_fld (H o) 5 1) := st_getfield q50_58
theorem x50_58 {L : pj_Loc} {st : List Value} {N S : Nat} {H : pj_Heap} {o : Nat} {o9 : Option Value × pj_Mem} : pj_Ends 50 (58, L, .ref o :: st, (N, S, H)) o9 = pj_then 50 o9 (pj_pv 61 L st (N, S, H) (pj_fld (H o) 5 1)) := pj_xt q50_58 rfl (pj_cl_nc rfl) (s50_58)
theorem q50_61 : pj_row 50 61 = some (.iload_n 2, 1, 0, 0, 0) := by decide +kernel
theorem s50_61 {st : List Value} {M : pj_Mem} {l : pj_Loc} {a0 a1 : Option Value} {x : Int32} : pj_step 50 (61, a0 :: a1 :: some (.int x) :: l, st, M) = some (62, a0 :: a1 :: some (.int x) :: l, .int x :: st, M) := st_iload_n q50_61 rfl
theorem x50_61 {st : List Value} {M : pj_Mem} {l : pj_Loc} {a0 a1 : Option Value} {x : Int32} {o9 : Option Value × pj_Mem} : pj_Ends 50 (61, a0 :: a1 :: some (.int x) :: l, st, M) o9 = pj_Ends 50 (62, a0 :: a1 :: some (.int x) :: l, .int x :: st, M) o9 := pj_xs (s50_61)
theorem q50_62 : pj_row 50 62 = some (.iload_n 2, 1, 0, 0, 0) := by decide +kernel
theorem s50_62 {st : List Value} {M : pj_Mem} {l : pj_Loc} {a0 a1 : Option Value} {x : Int32} : pj_step 50 (62, a0 :: a1 :: some (.int x) :: l, st, M) = some (63, a0 :: a1 :: some (.int x) :: l, .int x :: st, M) := st_iload_n q50_62 rfl
theorem x50_62 {st : List Value} {M : pj_Mem} {l : pj_Loc} {a0 a1 : Option Value} {x : Int32} {o9 : Option Value × pj_Mem} : pj_Ends 50 (62, a0 :: a1 :: some (.int x) :: l, st, M) o9 = pj_Ends 50 (63, a0 :: a1 :: some (.int x) :: l, .int x :: st, M) o9 := pj_xs (s50_62)
theorem q50_63 : pj_row 50 63 = some (.iload_n 2, 1, 0, 0, 0) := by decide +kernel
theorem s50_63 {st : List Value} {M : pj_Mem} {l : pj_Loc} {a0 a1 : Option Value} {x : Int32} : pj_step 50 (63, a0 :: a1 :: some (.int x) :: l, st, M) = some (64, a0 :: a1 :: some (.int x) :: l, .int x :: st, M) := st_iload_n q50_63 rfl
theorem x50_63 {st : List Value} {M : pj_Mem} {l : pj_Loc} {a0 a1 : Option Value} {x : Int32} {o9 : Option Value × pj_Mem} : pj_Ends 50 (63, a0 :: a1 :: some (.int x) :: l, st, M) o9 = pj_Ends 50 (64, a0 :: a1 :: some (.int x) :: l, .int x :: st, M) o9 := pj_xs (s50_63)
theorem q50_64 : pj_row 50 64 = some (.iconst 1, 1, 0, 0, 0) := by decide +kernel
theorem s50_64 {L : pj_Loc} {st : List Value} {M : pj_Mem}  : pj_step 50 (64, L, st, M) = some (65, L, .int 1 :: st, M) := st_iconst q50_64 (by decide +kernel)
theorem x50_64 {L : pj_Loc} {st : List Value} {M : pj_Mem}  {o9 : Option Value × pj_Mem} : pj_Ends 50 (64, L, st, M) o9 = pj_Ends 50 (65, L, .int 1 :: st, M) o9 := pj_xs (s50_64)
theorem q50_65 : pj_row 50 65 = some (.invokevirtual 70, 3, 14, 6, 0) := by decide +kernel
theorem e50_65 {L : pj_Loc} {st : List Value} {N S : Nat} {H : pj_Heap} {o : Option Value × pj_Mem} {M' : pj_Mem} {x0 : Nat} {x1 : Nat} {x2 : Int32} {x3 : Int32} {x4 : Int32} {x5 : Int32} {r : Int32} (h4 : pj_le4 st = true) (hu : pj_isU 5 (H x0) = true) (h1 : pj_Ends 14 (0, [some (.ref x0), some (.ref x1), some (.int x2), some (.int x3), some (.int x4), some (.int x5)], [], (N, S, H)) (some (.int r), M')) (h2 : pj_Ends 50 (68, L, .int r :: st, M') o) : pj_Ends 50 (65, L, .int x5 :: .int x4 :: .int x3 :: .int x2 :: .ref x1 :: .ref x0 :: st, (N, S, H)) o := ec_v6 q50_65 (Or.inl rfl) h4 hu rfl h1 h2
theorem q50_68 : pj_row 50 68 = some (.iload_n 1, 1, 0, 0, 0) := by decide +kernel
theorem s50_68 {st : List Value} {M : pj_Mem} {l : pj_Loc} {a0 : Option Value} {x : Int32} : pj_step 50 (68, a0 :: some (.int x) :: l, st, M) = some (69, a0 :: some (.int x) :: l, .int x :: st, M) := st_iload_n q50_68 rfl
theorem x50_68 {st : List Value} {M : pj_Mem} {l : pj_Loc} {a0 : Option Value} {x : Int32} {o9 : Option Value × pj_Mem} : pj_Ends 50 (68, a0 :: some (.int x) :: l, st, M) o9 = pj_Ends 50 (69, a0 :: some (.int x) :: l, .int x :: st, M) o9 := pj_xs (s50_68)
theorem q50_69 : pj_row 50 69 = some (.invokestatic 77, 3, 21, 2, 0) := by decide +kernel
theorem e50_69 {L : pj_Loc} {st : List Value} {N S : Nat} {H : pj_Heap} {o : Option Value × pj_Mem} {M' : pj_Mem} {x0 : Int32} {x1 : Int32} {r : Int32} (h4 : pj_le4 st = true) (h1 : pj_Ends 21 (0, [some (.int x0), some (.int x1)], [], (N, S, H)) (some (.int r), M')) (h2 : pj_Ends 50 (72, L, .int r :: st, M') o) : pj_Ends 50 (69, L, .int x1 :: .int x0 :: st, (N, S, H)) o := ec_s2 q50_69 (Or.inl rfl) h4 rfl h1 h2
theorem q50_72 : pj_row 50 72 = some (.ifCond .eq 5, 3, 77, 0, 0) := by decide +kernel
theorem s50_72 {L : pj_Loc} {st : List Value} {M : pj_Mem} {x : Int32} : pj_step 50 (72, L, .int x :: st, M) = some (if x = 0 then 77 else 75, L, st, M) := st_if_eq q50_72
theorem x50_72 {L : pj_Loc} {st : List Value} {M : pj_Mem} {x : Int32} {o9 : Option Value × pj_Mem} : pj_Ends 50 (72, L, .int x :: st, M) o9 = pj_Ends 50 (if x = 0 then 77 else 75, L, st, M) o9 := pj_xs (s50_72)
theorem q50_75 : pj_row 50 75 = some (.iload_n 3, 1, 0, 0, 0) := by decide +kernel
theorem s50_75 {st : List Value} {M : pj_Mem} {l : pj_Loc} {a0 a1 a2 : Option Value} {x : Int32} : pj_step 50 (75, a0 :: a1 :: a2 :: some (.int x) :: l, st, M) = some (76, a0 :: a1 :: a2 :: some (.int x) :: l, .int x :: st, M) := st_iload_n q50_75 rfl
theorem x50_75 {st : List Value} {M : pj_Mem} {l : pj_Loc} {a0 a1 a2 : Option Value} {x : Int32} {o9 : Option Value × pj_Mem} : pj_Ends 50 (75, a0 :: a1 :: a2 :: some (.int x) :: l, st, M) o9 = pj_Ends 50 (76, a0 :: a1 :: a2 :: some (.int x) :: l, .int x :: st, M) o9 := pj_xs (s50_75)
theorem q50_76 : pj_row 50 76 = some (.ireturn, 1, 0, 0, 0) := by decide +kernel
theorem t50_76 {L : pj_Loc} {M : pj_Mem} {v : Int32} : pj_Ends 50 (76, L, [.int v], M) (some (.int v), M) := pj_Ends.ret q50_76 (pj_rtn_i rt50)
theorem q50_77 : pj_row 50 77 = some (.iinc 3 1, 3, 0, 0, 0) := by decide +kernel
theorem s50_77 {st : List Value} {M : pj_Mem} {l : pj_Loc} {a0 a1 a2 : Option Value} {x : Int32} (h : pj_long a2 = false) : pj_step 50 (77, a0 :: a1 :: a2 :: some (.int x) :: l, st, M) = some (80, a0 :: a1 :: a2 :: some (.int (x + 1)) :: l, st, M) := st_iinc q50_77 rfl (congrArg (fun y => x + y) (show Int32.ofInt 1 = 1 by decide +kernel)) (pj_st_3 h)
theorem x50_77 {st : List Value} {M : pj_Mem} {l : pj_Loc} {a0 a1 a2 : Option Value} {x : Int32} (h : pj_long a2 = false) {o9 : Option Value × pj_Mem} : pj_Ends 50 (77, a0 :: a1 :: a2 :: some (.int x) :: l, st, M) o9 = pj_Ends 50 (80, a0 :: a1 :: a2 :: some (.int (x + 1)) :: l, st, M) o9 := pj_xs (s50_77 h)
theorem q50_80 : pj_row 50 80 = some (.goto (-30), 3, 50, 0, 0) := by decide +kernel
theorem s50_80 {L : pj_Loc} {st : List Value} {M : pj_Mem}  : pj_step 50 (80, L, st, M) = some (50, L, st, M) := st_goto q50_80
theorem x50_80 {L : pj_Loc} {st : List Value} {M : pj_Mem}  {o9 : Option Value × pj_Mem} : pj_Ends 50 (80, L, st, M) o9 = pj_Ends 50 (50, L, st, M) o9 := pj_xs (s50_80)
theorem q50_83 : pj_row 50 83 = some (.bipush (-6), 2, 0, 0, 0) := by decide +kernel
theorem s50_83 {L : pj_Loc} {st : List Value} {M : pj_Mem}  : pj_step 50 (83, L, st, M) = some (85, L, .int (-6) :: st, M) := st_bipush q50_83 (by decide +kernel)
theorem x50_83 {L : pj_Loc} {st : List Value} {M : pj_Mem}  {o9 : Option Value × pj_Mem} : pj_Ends 50 (83, L, st, M) o9 = pj_Ends 50 (85, L, .int (-6) :: st, M) o9 := pj_xs (s50_83)
theorem q50_85 : pj_row 50 85 = some (.ireturn, 1, 0, 0, 0) := by decide +kernel
theorem t50_85 {L : pj_Loc} {M : pj_Mem} {v : Int32} : pj_Ends 50 (85, L, [.int v], M) (some (.int v), M) := pj_Ends.ret q50_85 (pj_rtn_i rt50)
theorem rt51 : pj_rt 51 = some .int := rfl
theorem q51_0 : pj_row 51 0 = some (.lload_n 1, 1, 0, 0, 0) := by decide +kernel
theorem s51_0 {st : List Value} {M : pj_Mem} {l : pj_Loc} {a0 : Option Value} {x : Int64} : pj_step 51 (0, a0 :: some (.long x) :: l, st, M) = some (1, a0 :: some (.long x) :: l, .long x :: st, M) := st_lload_n q51_0 rfl
theorem x51_0 {st : List Value} {M : pj_Mem} {l : pj_Loc} {a0 : Option Value} {x : Int64} {o9 : Option Value × pj_Mem} : pj_Ends 51 (0, a0 :: some (.long x) :: l, st, M) o9 = pj_Ends 51 (1, a0 :: some (.long x) :: l, .long x :: st, M) o9 := pj_xs (s51_0)
theorem q51_1 : pj_row 51 1 = some (.invokestatic 176, 3, 52, 1, 0) := by decide +kernel
theorem e51_1 {L : pj_Loc} {st : List Value} {N S : Nat} {H : pj_Heap} {o : Option Value × pj_Mem} {M' : pj_Mem} {x0 : Int64} {r : Int32} (h4 : pj_le4 st = true) (h1 : pj_Ends 52 (0, [some (.long x0), none, none, none], [], (N, S, H)) (some (.int r), M')) (h2 : pj_Ends 51 (4, L, .int r :: st, M') o) : pj_Ends 51 (1, L, .long x0 :: st, (N, S, H)) o := ec_s1 q51_1 (Or.inl rfl) h4 rfl h1 h2
theorem q51_4 : pj_row 51 4 = some (.istore_n 3, 1, 0, 0, 0) := by decide +kernel
theorem s51_4 {st : List Value} {M : pj_Mem} {l : pj_Loc} {a0 a1 a2 a3 : Option Value} {x : Int32} (h : pj_long a2 = false) : pj_step 51 (4, a0 :: a1 :: a2 :: a3 :: l, .int x :: st, M) = some (5, a0 :: a1 :: a2 :: some (.int x) :: l, st, M) := st_istore_n q51_4 (pj_st_3 h)
theorem x51_4 {st : List Value} {M : pj_Mem} {l : pj_Loc} {a0 a1 a2 a3 : Option Value} {x : Int32} (h : pj_long a2 = false) {o9 : Option Value × pj_Mem} : pj_Ends 51 (4, a0 :: a1 :: a2 :: a3 :: l, .int x :: st, M) o9 = pj_Ends 51 (5, a0 :: a1 :: a2 :: some (.int x) :: l, st, M) o9 := pj_xs (s51_4 h)
theorem q51_5 : pj_row 51 5 = some (.iload_n 3, 1, 0, 0, 0) := by decide +kernel
theorem s51_5 {st : List Value} {M : pj_Mem} {l : pj_Loc} {a0 a1 a2 : Option Value} {x : Int32} : pj_step 51 (5, a0 :: a1 :: a2 :: some (.int x) :: l, st, M) = some (6, a0 :: a1 :: a2 :: some (.int x) :: l, .int x :: st, M) := st_iload_n q51_5 rfl
theorem x51_5 {st : List Value} {M : pj_Mem} {l : pj_Loc} {a0 a1 a2 : Option Value} {x : Int32} {o9 : Option Value × pj_Mem} : pj_Ends 51 (5, a0 :: a1 :: a2 :: some (.int x) :: l, st, M) o9 = pj_Ends 51 (6, a0 :: a1 :: a2 :: some (.int x) :: l, .int x :: st, M) o9 := pj_xs (s51_5)
theorem q51_6 : pj_row 51 6 = some (.ifCond .ne 6, 3, 12, 0, 0) := by decide +kernel
theorem s51_6 {L : pj_Loc} {st : List Value} {M : pj_Mem} {x : Int32} : pj_step 51 (6, L, .int x :: st, M) = some (if ¬ x = 0 then 12 else 9, L, st, M) := st_if_ne q51_6
theorem x51_6 {L : pj_Loc} {st : List Value} {M : pj_Mem} {x : Int32} {o9 : Option Value × pj_Mem} : pj_Ends 51 (6, L, .int x :: st, M) o9 = pj_Ends 51 (if ¬ x = 0 then 12 else 9, L, st, M) o9 := pj_xs (s51_6)
theorem q51_9 : pj_row 51 9 = some (.bipush (-2), 2, 0, 0, 0) := by decide +kernel
theorem s51_9 {L : pj_Loc} {st : List Value} {M : pj_Mem}  : pj_step 51 (9, L, st, M) = some (11, L, .int (-2) :: st, M) := st_bipush q51_9 (by decide +kernel)
theorem x51_9 {L : pj_Loc} {st : List Value} {M : pj_Mem}  {o9 : Option Value × pj_Mem} : pj_Ends 51 (9, L, st, M) o9 = pj_Ends 51 (11, L, .int (-2) :: st, M) o9 := pj_xs (s51_9)
theorem q51_11 : pj_row 51 11 = some (.ireturn, 1, 0, 0, 0) := by decide +kernel
theorem t51_11 {L : pj_Loc} {M : pj_Mem} {v : Int32} : pj_Ends 51 (11, L, [.int v], M) (some (.int v), M) := pj_Ends.ret q51_11 (pj_rtn_i rt51)
theorem q51_12 : pj_row 51 12 = some (.aload_n 0, 1, 0, 0, 0) := by decide +kernel
theorem s51_12 {st : List Value} {M : pj_Mem} {l : pj_Loc} {x : Nat} : pj_step 51 (12, some (.ref x) :: l, st, M) = some (13, some (.ref x) :: l, .ref x :: st, M) := st_aload_n q51_12 rfl
theorem x51_12 {st : List Value} {M : pj_Mem} {l : pj_Loc} {x : Nat} {o9 : Option Value × pj_Mem} : pj_Ends 51 (12, some (.ref x) :: l, st, M) o9 = pj_Ends 51 (13, some (.ref x) :: l, .ref x :: st, M) o9 := pj_xs (s51_12)
theorem q51_13 : pj_row 51 13 = some (.getfield 29, 3, 5, 3, 0) := by decide +kernel
theorem s51_13 {L : pj_Loc} {st : List Value} {N S : Nat} {H : pj_Heap} {o : Nat} : pj_step 51 (13, L, .ref o :: st, (N, S, H)) = pj_pv 16 L st (N, S, H) (pj_fld (H o) 5 3) := st_getfield q51_13
theorem x51_13 {L : pj_Loc} {st : List Value} {N S : Nat} {H : pj_Heap} {o : Nat} {o9 : Option Value × pj_Mem} : pj_Ends 51 (13, L, .ref o :: st, (N, S, H)) o9 = pj_then 51 o9 (pj_pv 16 L st (N, S, H) (pj_fld (H o) 5 3)) := pj_xt q51_13 rfl (pj_cl_nc rfl) (s51_13)
theorem q51_16 : pj_row 51 16 = some (.getfield 145, 3, 0, 2, 0) := by decide +kernel
theorem s51_16 {L : pj_Loc} {st : List Value} {N S : Nat} {H : pj_Heap} {o : Nat} : pj_step 51 (16, L, .ref o :: st, (N, S, H)) = pj_pv 19 L st (N, S, H) (pj_fld (H o) 0 2) := st_getfield q51_16
theorem x51_16 {L : pj_Loc} {st : List Value} {N S : Nat} {H : pj_Heap} {o : Nat} {o9 : Option Value × pj_Mem} : pj_Ends 51 (16, L, .ref o :: st, (N, S, H)) o9 = pj_then 51 o9 (pj_pv 19 L st (N, S, H) (pj_fld (H o) 0 2)) := pj_xt q51_16 rfl (pj_cl_nc rfl) (s51_16)
theorem q51_19 : pj_row 51 19 = some (.iload_n 3, 1, 0, 0, 0) := by decide +kernel
theorem s51_19 {st : List Value} {M : pj_Mem} {l : pj_Loc} {a0 a1 a2 : Option Value} {x : Int32} : pj_step 51 (19, a0 :: a1 :: a2 :: some (.int x) :: l, st, M) = some (20, a0 :: a1 :: a2 :: some (.int x) :: l, .int x :: st, M) := st_iload_n q51_19 rfl
theorem x51_19 {st : List Value} {M : pj_Mem} {l : pj_Loc} {a0 a1 a2 : Option Value} {x : Int32} {o9 : Option Value × pj_Mem} : pj_Ends 51 (19, a0 :: a1 :: a2 :: some (.int x) :: l, st, M) o9 = pj_Ends 51 (20, a0 :: a1 :: a2 :: some (.int x) :: l, .int x :: st, M) o9 := pj_xs (s51_19)
theorem q51_20 : pj_row 51 20 = some (.iadd, 1, 0, 0, 0) := by decide +kernel
theorem s51_20 {L : pj_Loc} {st : List Value} {M : pj_Mem} {x y : Int32} : pj_step 51 (20, L, .int y :: .int x :: st, M) = some (21, L, .int (x + y) :: st, M) := st_iadd q51_20
theorem x51_20 {L : pj_Loc} {st : List Value} {M : pj_Mem} {x y : Int32} {o9 : Option Value × pj_Mem} : pj_Ends 51 (20, L, .int y :: .int x :: st, M) o9 = pj_Ends 51 (21, L, .int (x + y) :: st, M) o9 := pj_xs (s51_20)
theorem q51_21 : pj_row 51 21 = some (.bipush 80, 2, 0, 0, 0) := by decide +kernel
theorem s51_21 {L : pj_Loc} {st : List Value} {M : pj_Mem}  : pj_step 51 (21, L, st, M) = some (23, L, .int 80 :: st, M) := st_bipush q51_21 (by decide +kernel)
theorem x51_21 {L : pj_Loc} {st : List Value} {M : pj_Mem}  {o9 : Option Value × pj_Mem} : pj_Ends 51 (21, L, st, M) o9 = pj_Ends 51 (23, L, .int 80 :: st, M) o9 := pj_xs (s51_21)
theorem q51_23 : pj_row 51 23 = some (.if_icmp .le 6, 3, 29, 0, 0) := by decide +kernel
theorem s51_23 {L : pj_Loc} {st : List Value} {M : pj_Mem} {x y : Int32} : pj_step 51 (23, L, .int y :: .int x :: st, M) = some (if x ≤ y then 29 else 26, L, st, M) := st_icmp_le q51_23
theorem x51_23 {L : pj_Loc} {st : List Value} {M : pj_Mem} {x y : Int32} {o9 : Option Value × pj_Mem} : pj_Ends 51 (23, L, .int y :: .int x :: st, M) o9 = pj_Ends 51 (if x ≤ y then 29 else 26, L, st, M) o9 := pj_xs (s51_23)
theorem q51_26 : pj_row 51 26 = some (.bipush (-4), 2, 0, 0, 0) := by decide +kernel
theorem s51_26 {L : pj_Loc} {st : List Value} {M : pj_Mem}  : pj_step 51 (26, L, st, M) = some (28, L, .int (-4) :: st, M) := st_bipush q51_26 (by decide +kernel)
theorem x51_26 {L : pj_Loc} {st : List Value} {M : pj_Mem}  {o9 : Option Value × pj_Mem} : pj_Ends 51 (26, L, st, M) o9 = pj_Ends 51 (28, L, .int (-4) :: st, M) o9 := pj_xs (s51_26)
theorem q51_28 : pj_row 51 28 = some (.ireturn, 1, 0, 0, 0) := by decide +kernel
theorem t51_28 {L : pj_Loc} {M : pj_Mem} {v : Int32} : pj_Ends 51 (28, L, [.int v], M) (some (.int v), M) := pj_Ends.ret q51_28 (pj_rtn_i rt51)
theorem q51_29 : pj_row 51 29 = some (.iload_n 3, 1, 0, 0, 0) := by decide +kernel
theorem s51_29 {st : List Value} {M : pj_Mem} {l : pj_Loc} {a0 a1 a2 : Option Value} {x : Int32} : pj_step 51 (29, a0 :: a1 :: a2 :: some (.int x) :: l, st, M) = some (30, a0 :: a1 :: a2 :: some (.int x) :: l, .int x :: st, M) := st_iload_n q51_29 rfl
theorem x51_29 {st : List Value} {M : pj_Mem} {l : pj_Loc} {a0 a1 a2 : Option Value} {x : Int32} {o9 : Option Value × pj_Mem} : pj_Ends 51 (29, a0 :: a1 :: a2 :: some (.int x) :: l, st, M) o9 = pj_Ends 51 (30, a0 :: a1 :: a2 :: some (.int x) :: l, .int x :: st, M) o9 := pj_xs (s51_29)
theorem q51_30 : pj_row 51 30 = some (.iconst 1, 1, 0, 0, 0) := by decide +kernel
theorem s51_30 {L : pj_Loc} {st : List Value} {M : pj_Mem}  : pj_step 51 (30, L, st, M) = some (31, L, .int 1 :: st, M) := st_iconst q51_30 (by decide +kernel)
theorem x51_30 {L : pj_Loc} {st : List Value} {M : pj_Mem}  {o9 : Option Value × pj_Mem} : pj_Ends 51 (30, L, st, M) o9 = pj_Ends 51 (31, L, .int 1 :: st, M) o9 := pj_xs (s51_30)
theorem q51_31 : pj_row 51 31 = some (.isub, 1, 0, 0, 0) := by decide +kernel
theorem s51_31 {L : pj_Loc} {st : List Value} {M : pj_Mem} {x y : Int32} : pj_step 51 (31, L, .int y :: .int x :: st, M) = some (32, L, .int (x - y) :: st, M) := st_isub q51_31
theorem x51_31 {L : pj_Loc} {st : List Value} {M : pj_Mem} {x y : Int32} {o9 : Option Value × pj_Mem} : pj_Ends 51 (31, L, .int y :: .int x :: st, M) o9 = pj_Ends 51 (32, L, .int (x - y) :: st, M) o9 := pj_xs (s51_31)
theorem q51_32 : pj_row 51 32 = some (.istore 4, 2, 0, 0, 0) := by decide +kernel
theorem s51_32 {st : List Value} {M : pj_Mem} {l : pj_Loc} {a0 a1 a2 a3 a4 : Option Value} {x : Int32} (h : pj_long a3 = false) : pj_step 51 (32, a0 :: a1 :: a2 :: a3 :: a4 :: l, .int x :: st, M) = some (34, a0 :: a1 :: a2 :: a3 :: some (.int x) :: l, st, M) := st_istore q51_32 (pj_st_4 h)
theorem x51_32 {st : List Value} {M : pj_Mem} {l : pj_Loc} {a0 a1 a2 a3 a4 : Option Value} {x : Int32} (h : pj_long a3 = false) {o9 : Option Value × pj_Mem} : pj_Ends 51 (32, a0 :: a1 :: a2 :: a3 :: a4 :: l, .int x :: st, M) o9 = pj_Ends 51 (34, a0 :: a1 :: a2 :: a3 :: some (.int x) :: l, st, M) o9 := pj_xs (s51_32 h)
theorem q51_34 : pj_row 51 34 = some (.iload 4, 2, 0, 0, 0) := by decide +kernel
theorem s51_34 {st : List Value} {M : pj_Mem} {l : pj_Loc} {a0 a1 a2 a3 : Option Value} {x : Int32} : pj_step 51 (34, a0 :: a1 :: a2 :: a3 :: some (.int x) :: l, st, M) = some (36, a0 :: a1 :: a2 :: a3 :: some (.int x) :: l, .int x :: st, M) := st_iload q51_34 rfl
theorem x51_34 {st : List Value} {M : pj_Mem} {l : pj_Loc} {a0 a1 a2 a3 : Option Value} {x : Int32} {o9 : Option Value × pj_Mem} : pj_Ends 51 (34, a0 :: a1 :: a2 :: a3 :: some (.int x) :: l, st, M) o9 = pj_Ends 51 (36, a0 :: a1 :: a2 :: a3 :: some (.int x) :: l, .int x :: st, M) o9 := pj_xs (s51_34)
theorem q51_36 : pj_row 51 36 = some (.ifCond .lt 23, 3, 59, 0, 0) := by decide +kernel
theorem s51_36 {L : pj_Loc} {st : List Value} {M : pj_Mem} {x : Int32} : pj_step 51 (36, L, .int x :: st, M) = some (if x < 0 then 59 else 39, L, st, M) := st_if_lt q51_36
theorem x51_36 {L : pj_Loc} {st : List Value} {M : pj_Mem} {x : Int32} {o9 : Option Value × pj_Mem} : pj_Ends 51 (36, L, .int x :: st, M) o9 = pj_Ends 51 (if x < 0 then 59 else 39, L, st, M) o9 := pj_xs (s51_36)
theorem q51_39 : pj_row 51 39 = some (.aload_n 0, 1, 0, 0, 0) := by decide +kernel
theorem s51_39 {st : List Value} {M : pj_Mem} {l : pj_Loc} {x : Nat} : pj_step 51 (39, some (.ref x) :: l, st, M) = some (40, some (.ref x) :: l, .ref x :: st, M) := st_aload_n q51_39 rfl
theorem x51_39 {st : List Value} {M : pj_Mem} {l : pj_Loc} {x : Nat} {o9 : Option Value × pj_Mem} : pj_Ends 51 (39, some (.ref x) :: l, st, M) o9 = pj_Ends 51 (40, some (.ref x) :: l, .ref x :: st, M) o9 := pj_xs (s51_39)
theorem q51_40 : pj_row 51 40 = some (.getfield 29, 3, 5, 3, 0) := by decide +kernel
theorem s51_40 {L : pj_Loc} {st : List Value} {N S : Nat} {H : pj_Heap} {o : Nat} : pj_step 51 (40, L, .ref o :: st, (N, S, H)) = pj_pv 43 L st (N, S, H) (pj_fld (H o) 5 3) := st_getfield q51_40
theorem x51_40 {L : pj_Loc} {st : List Value} {N S : Nat} {H : pj_Heap} {o : Nat} {o9 : Option Value × pj_Mem} : pj_Ends 51 (40, L, .ref o :: st, (N, S, H)) o9 = pj_then 51 o9 (pj_pv 43 L st (N, S, H) (pj_fld (H o) 5 3)) := pj_xt q51_40 rfl (pj_cl_nc rfl) (s51_40)
theorem q51_43 : pj_row 51 43 = some (.lload_n 1, 1, 0, 0, 0) := by decide +kernel
theorem s51_43 {st : List Value} {M : pj_Mem} {l : pj_Loc} {a0 : Option Value} {x : Int64} : pj_step 51 (43, a0 :: some (.long x) :: l, st, M) = some (44, a0 :: some (.long x) :: l, .long x :: st, M) := st_lload_n q51_43 rfl
theorem x51_43 {st : List Value} {M : pj_Mem} {l : pj_Loc} {a0 : Option Value} {x : Int64} {o9 : Option Value × pj_Mem} : pj_Ends 51 (43, a0 :: some (.long x) :: l, st, M) o9 = pj_Ends 51 (44, a0 :: some (.long x) :: l, .long x :: st, M) o9 := pj_xs (s51_43)
theorem q51_44 : pj_row 51 44 = some (.iload 4, 2, 0, 0, 0) := by decide +kernel
theorem s51_44 {st : List Value} {M : pj_Mem} {l : pj_Loc} {a0 a1 a2 a3 : Option Value} {x : Int32} : pj_step 51 (44, a0 :: a1 :: a2 :: a3 :: some (.int x) :: l, st, M) = some (46, a0 :: a1 :: a2 :: a3 :: some (.int x) :: l, .int x :: st, M) := st_iload q51_44 rfl
theorem x51_44 {st : List Value} {M : pj_Mem} {l : pj_Loc} {a0 a1 a2 a3 : Option Value} {x : Int32} {o9 : Option Value × pj_Mem} : pj_Ends 51 (44, a0 :: a1 :: a2 :: a3 :: some (.int x) :: l, st, M) o9 = pj_Ends 51 (46, a0 :: a1 :: a2 :: a3 :: some (.int x) :: l, .int x :: st, M) o9 := pj_xs (s51_44)
theorem q51_46 : pj_row 51 46 = some (.invokestatic 180, 3, 53, 2, 0) := by decide +kernel
theorem e51_46 {L : pj_Loc} {st : List Value} {N S : Nat} {H : pj_Heap} {o : Option Value × pj_Mem} {M' : pj_Mem} {x0 : Int64} {x1 : Int32} {r : Int32} (h4 : pj_le4 st = true) (h1 : pj_Ends 53 (0, [some (.long x0), none, some (.int x1)], [], (N, S, H)) (some (.int r), M')) (h2 : pj_Ends 51 (49, L, .int r :: st, M') o) : pj_Ends 51 (46, L, .int x1 :: .long x0 :: st, (N, S, H)) o := ec_s2 q51_46 (Or.inl rfl) h4 rfl h1 h2
theorem q51_49 : pj_row 51 49 = some (.i2c, 1, 0, 0, 0) := by decide +kernel
theorem s51_49 {L : pj_Loc} {st : List Value} {M : pj_Mem} {x : Int32} : pj_step 51 (49, L, .int x :: st, M) = some (50, L, .int (x.toUInt32 % 65536).toInt32 :: st, M) := st_i2c q51_49
theorem x51_49 {L : pj_Loc} {st : List Value} {M : pj_Mem} {x : Int32} {o9 : Option Value × pj_Mem} : pj_Ends 51 (49, L, .int x :: st, M) o9 = pj_Ends 51 (50, L, .int (x.toUInt32 % 65536).toInt32 :: st, M) o9 := pj_xs (s51_49)
theorem q51_50 : pj_row 51 50 = some (.invokevirtual 184, 3, 54, 2, 0) := by decide +kernel
theorem e51_50 {L : pj_Loc} {st : List Value} {N S : Nat} {H : pj_Heap} {o : Option Value × pj_Mem} {M' : pj_Mem} {x0 : Nat} {x1 : Int32} (h4 : pj_le4 st = true) (hu : pj_isU 0 (H x0) = true) (h1 : pj_Ends 54 (0, [some (.ref x0), some (.int x1)], [], (N, S, H)) (none, M')) (h2 : pj_Ends 51 (53, L, st, M') o) : pj_Ends 51 (50, L, .int x1 :: .ref x0 :: st, (N, S, H)) o := ec_v2 q51_50 (Or.inl rfl) h4 hu rfl h1 h2
theorem q51_53 : pj_row 51 53 = some (.iinc 4 (-1), 3, 0, 0, 0) := by decide +kernel
theorem s51_53 {st : List Value} {M : pj_Mem} {l : pj_Loc} {a0 a1 a2 a3 : Option Value} {x : Int32} (h : pj_long a3 = false) : pj_step 51 (53, a0 :: a1 :: a2 :: a3 :: some (.int x) :: l, st, M) = some (56, a0 :: a1 :: a2 :: a3 :: some (.int (x + (-1))) :: l, st, M) := st_iinc q51_53 rfl (congrArg (fun y => x + y) (show Int32.ofInt (-1) = (-1) by decide +kernel)) (pj_st_4 h)
theorem x51_53 {st : List Value} {M : pj_Mem} {l : pj_Loc} {a0 a1 a2 a3 : Option Value} {x : Int32} (h : pj_long a3 = false) {o9 : Option Value × pj_Mem} : pj_Ends 51 (53, a0 :: a1 :: a2 :: a3 :: some (.int x) :: l, st, M) o9 = pj_Ends 51 (56, a0 :: a1 :: a2 :: a3 :: some (.int (x + (-1))) :: l, st, M) o9 := pj_xs (s51_53 h)
theorem q51_56 : pj_row 51 56 = some (.goto (-22), 3, 34, 0, 0) := by decide +kernel
theorem s51_56 {L : pj_Loc} {st : List Value} {M : pj_Mem}  : pj_step 51 (56, L, st, M) = some (34, L, st, M) := st_goto q51_56
theorem x51_56 {L : pj_Loc} {st : List Value} {M : pj_Mem}  {o9 : Option Value × pj_Mem} : pj_Ends 51 (56, L, st, M) o9 = pj_Ends 51 (34, L, st, M) o9 := pj_xs (s51_56)
theorem q51_59 : pj_row 51 59 = some (.aload_n 0, 1, 0, 0, 0) := by decide +kernel
theorem s51_59 {st : List Value} {M : pj_Mem} {l : pj_Loc} {x : Nat} : pj_step 51 (59, some (.ref x) :: l, st, M) = some (60, some (.ref x) :: l, .ref x :: st, M) := st_aload_n q51_59 rfl
theorem x51_59 {st : List Value} {M : pj_Mem} {l : pj_Loc} {x : Nat} {o9 : Option Value × pj_Mem} : pj_Ends 51 (59, some (.ref x) :: l, st, M) o9 = pj_Ends 51 (60, some (.ref x) :: l, .ref x :: st, M) o9 := pj_xs (s51_59)
theorem q51_60 : pj_row 51 60 = some (.getfield 29, 3, 5, 3, 0) := by decide +kernel
theorem s51_60 {L : pj_Loc} {st : List Value} {N S : Nat} {H : pj_Heap} {o : Nat} : pj_step 51 (60, L, .ref o :: st, (N, S, H)) = pj_pv 63 L st (N, S, H) (pj_fld (H o) 5 3) := st_getfield q51_60
theorem x51_60 {L : pj_Loc} {st : List Value} {N S : Nat} {H : pj_Heap} {o : Nat} {o9 : Option Value × pj_Mem} : pj_Ends 51 (60, L, .ref o :: st, (N, S, H)) o9 = pj_then 51 o9 (pj_pv 63 L st (N, S, H) (pj_fld (H o) 5 3)) := pj_xt q51_60 rfl (pj_cl_nc rfl) (s51_60)
theorem q51_63 : pj_row 51 63 = some (.getfield 145, 3, 0, 2, 0) := by decide +kernel
theorem s51_63 {L : pj_Loc} {st : List Value} {N S : Nat} {H : pj_Heap} {o : Nat} : pj_step 51 (63, L, .ref o :: st, (N, S, H)) = pj_pv 66 L st (N, S, H) (pj_fld (H o) 0 2) := st_getfield q51_63
theorem x51_63 {L : pj_Loc} {st : List Value} {N S : Nat} {H : pj_Heap} {o : Nat} {o9 : Option Value × pj_Mem} : pj_Ends 51 (63, L, .ref o :: st, (N, S, H)) o9 = pj_then 51 o9 (pj_pv 66 L st (N, S, H) (pj_fld (H o) 0 2)) := pj_xt q51_63 rfl (pj_cl_nc rfl) (s51_63)
theorem q51_66 : pj_row 51 66 = some (.ireturn, 1, 0, 0, 0) := by decide +kernel
theorem t51_66 {L : pj_Loc} {M : pj_Mem} {v : Int32} : pj_Ends 51 (66, L, [.int v], M) (some (.int v), M) := pj_Ends.ret q51_66 (pj_rtn_i rt51)
theorem rt52 : pj_rt 52 = some .int := rfl
theorem q52_0 : pj_row 52 0 = some (.iconst 0, 1, 0, 0, 0) := by decide +kernel
theorem s52_0 {L : pj_Loc} {st : List Value} {M : pj_Mem}  : pj_step 52 (0, L, st, M) = some (1, L, .int 0 :: st, M) := st_iconst q52_0 (by decide +kernel)
theorem x52_0 {L : pj_Loc} {st : List Value} {M : pj_Mem}  {o9 : Option Value × pj_Mem} : pj_Ends 52 (0, L, st, M) o9 = pj_Ends 52 (1, L, .int 0 :: st, M) o9 := pj_xs (s52_0)
theorem q52_1 : pj_row 52 1 = some (.istore_n 2, 1, 0, 0, 0) := by decide +kernel
theorem s52_1 {st : List Value} {M : pj_Mem} {l : pj_Loc} {a0 a1 a2 : Option Value} {x : Int32} (h : pj_long a1 = false) : pj_step 52 (1, a0 :: a1 :: a2 :: l, .int x :: st, M) = some (2, a0 :: a1 :: some (.int x) :: l, st, M) := st_istore_n q52_1 (pj_st_2 h)
theorem x52_1 {st : List Value} {M : pj_Mem} {l : pj_Loc} {a0 a1 a2 : Option Value} {x : Int32} (h : pj_long a1 = false) {o9 : Option Value × pj_Mem} : pj_Ends 52 (1, a0 :: a1 :: a2 :: l, .int x :: st, M) o9 = pj_Ends 52 (2, a0 :: a1 :: some (.int x) :: l, st, M) o9 := pj_xs (s52_1 h)
theorem q52_2 : pj_row 52 2 = some (.iload_n 2, 1, 0, 0, 0) := by decide +kernel
theorem s52_2 {st : List Value} {M : pj_Mem} {l : pj_Loc} {a0 a1 : Option Value} {x : Int32} : pj_step 52 (2, a0 :: a1 :: some (.int x) :: l, st, M) = some (3, a0 :: a1 :: some (.int x) :: l, .int x :: st, M) := st_iload_n q52_2 rfl
theorem x52_2 {st : List Value} {M : pj_Mem} {l : pj_Loc} {a0 a1 : Option Value} {x : Int32} {o9 : Option Value × pj_Mem} : pj_Ends 52 (2, a0 :: a1 :: some (.int x) :: l, st, M) o9 = pj_Ends 52 (3, a0 :: a1 :: some (.int x) :: l, .int x :: st, M) o9 := pj_xs (s52_2)
theorem q52_3 : pj_row 52 3 = some (.bipush 8, 2, 0, 0, 0) := by decide +kernel
theorem s52_3 {L : pj_Loc} {st : List Value} {M : pj_Mem}  : pj_step 52 (3, L, st, M) = some (5, L, .int 8 :: st, M) := st_bipush q52_3 (by decide +kernel)
theorem x52_3 {L : pj_Loc} {st : List Value} {M : pj_Mem}  {o9 : Option Value × pj_Mem} : pj_Ends 52 (3, L, st, M) o9 = pj_Ends 52 (5, L, .int 8 :: st, M) o9 := pj_xs (s52_3)
theorem q52_5 : pj_row 52 5 = some (.if_icmp .ge 37, 3, 42, 0, 0) := by decide +kernel
theorem s52_5 {L : pj_Loc} {st : List Value} {M : pj_Mem} {x y : Int32} : pj_step 52 (5, L, .int y :: .int x :: st, M) = some (if y ≤ x then 42 else 8, L, st, M) := st_icmp_ge q52_5
theorem x52_5 {L : pj_Loc} {st : List Value} {M : pj_Mem} {x y : Int32} {o9 : Option Value × pj_Mem} : pj_Ends 52 (5, L, .int y :: .int x :: st, M) o9 = pj_Ends 52 (if y ≤ x then 42 else 8, L, st, M) o9 := pj_xs (s52_5)
theorem q52_8 : pj_row 52 8 = some (.lload_n 0, 1, 0, 0, 0) := by decide +kernel
theorem s52_8 {st : List Value} {M : pj_Mem} {l : pj_Loc} {x : Int64} : pj_step 52 (8, some (.long x) :: l, st, M) = some (9, some (.long x) :: l, .long x :: st, M) := st_lload_n q52_8 rfl
theorem x52_8 {st : List Value} {M : pj_Mem} {l : pj_Loc} {x : Int64} {o9 : Option Value × pj_Mem} : pj_Ends 52 (8, some (.long x) :: l, st, M) o9 = pj_Ends 52 (9, some (.long x) :: l, .long x :: st, M) o9 := pj_xs (s52_8)
theorem q52_9 : pj_row 52 9 = some (.iload_n 2, 1, 0, 0, 0) := by decide +kernel
theorem s52_9 {st : List Value} {M : pj_Mem} {l : pj_Loc} {a0 a1 : Option Value} {x : Int32} : pj_step 52 (9, a0 :: a1 :: some (.int x) :: l, st, M) = some (10, a0 :: a1 :: some (.int x) :: l, .int x :: st, M) := st_iload_n q52_9 rfl
theorem x52_9 {st : List Value} {M : pj_Mem} {l : pj_Loc} {a0 a1 : Option Value} {x : Int32} {o9 : Option Value × pj_Mem} : pj_Ends 52 (9, a0 :: a1 :: some (.int x) :: l, st, M) o9 = pj_Ends 52 (10, a0 :: a1 :: some (.int x) :: l, .int x :: st, M) o9 := pj_xs (s52_9)
theorem q52_10 : pj_row 52 10 = some (.invokestatic 180, 3, 53, 2, 0) := by decide +kernel
theorem e52_10 {L : pj_Loc} {st : List Value} {N S : Nat} {H : pj_Heap} {o : Option Value × pj_Mem} {M' : pj_Mem} {x0 : Int64} {x1 : Int32} {r : Int32} (h4 : pj_le4 st = true) (h1 : pj_Ends 53 (0, [some (.long x0), none, some (.int x1)], [], (N, S, H)) (some (.int r), M')) (h2 : pj_Ends 52 (13, L, .int r :: st, M') o) : pj_Ends 52 (10, L, .int x1 :: .long x0 :: st, (N, S, H)) o := ec_s2 q52_10 (Or.inl rfl) h4 rfl h1 h2
theorem q52_13 : pj_row 52 13 = some (.ifCond .eq 29, 3, 42, 0, 0) := by decide +kernel
theorem s52_13 {L : pj_Loc} {st : List Value} {M : pj_Mem} {x : Int32} : pj_step 52 (13, L, .int x :: st, M) = some (if x = 0 then 42 else 16, L, st, M) := st_if_eq q52_13
theorem x52_13 {L : pj_Loc} {st : List Value} {M : pj_Mem} {x : Int32} {o9 : Option Value × pj_Mem} : pj_Ends 52 (13, L, .int x :: st, M) o9 = pj_Ends 52 (if x = 0 then 42 else 16, L, st, M) o9 := pj_xs (s52_13)
theorem q52_16 : pj_row 52 16 = some (.lload_n 0, 1, 0, 0, 0) := by decide +kernel
theorem s52_16 {st : List Value} {M : pj_Mem} {l : pj_Loc} {x : Int64} : pj_step 52 (16, some (.long x) :: l, st, M) = some (17, some (.long x) :: l, .long x :: st, M) := st_lload_n q52_16 rfl
theorem x52_16 {st : List Value} {M : pj_Mem} {l : pj_Loc} {x : Int64} {o9 : Option Value × pj_Mem} : pj_Ends 52 (16, some (.long x) :: l, st, M) o9 = pj_Ends 52 (17, some (.long x) :: l, .long x :: st, M) o9 := pj_xs (s52_16)
theorem q52_17 : pj_row 52 17 = some (.iload_n 2, 1, 0, 0, 0) := by decide +kernel
theorem s52_17 {st : List Value} {M : pj_Mem} {l : pj_Loc} {a0 a1 : Option Value} {x : Int32} : pj_step 52 (17, a0 :: a1 :: some (.int x) :: l, st, M) = some (18, a0 :: a1 :: some (.int x) :: l, .int x :: st, M) := st_iload_n q52_17 rfl
theorem x52_17 {st : List Value} {M : pj_Mem} {l : pj_Loc} {a0 a1 : Option Value} {x : Int32} {o9 : Option Value × pj_Mem} : pj_Ends 52 (17, a0 :: a1 :: some (.int x) :: l, st, M) o9 = pj_Ends 52 (18, a0 :: a1 :: some (.int x) :: l, .int x :: st, M) o9 := pj_xs (s52_17)
theorem q52_18 : pj_row 52 18 = some (.invokestatic 180, 3, 53, 2, 0) := by decide +kernel
theorem e52_18 {L : pj_Loc} {st : List Value} {N S : Nat} {H : pj_Heap} {o : Option Value × pj_Mem} {M' : pj_Mem} {x0 : Int64} {x1 : Int32} {r : Int32} (h4 : pj_le4 st = true) (h1 : pj_Ends 53 (0, [some (.long x0), none, some (.int x1)], [], (N, S, H)) (some (.int r), M')) (h2 : pj_Ends 52 (21, L, .int r :: st, M') o) : pj_Ends 52 (18, L, .int x1 :: .long x0 :: st, (N, S, H)) o := ec_s2 q52_18 (Or.inl rfl) h4 rfl h1 h2
theorem q52_21 : pj_row 52 21 = some (.istore_n 3, 1, 0, 0, 0) := by decide +kernel
theorem s52_21 {st : List Value} {M : pj_Mem} {l : pj_Loc} {a0 a1 a2 a3 : Option Value} {x : Int32} (h : pj_long a2 = false) : pj_step 52 (21, a0 :: a1 :: a2 :: a3 :: l, .int x :: st, M) = some (22, a0 :: a1 :: a2 :: some (.int x) :: l, st, M) := st_istore_n q52_21 (pj_st_3 h)
theorem x52_21 {st : List Value} {M : pj_Mem} {l : pj_Loc} {a0 a1 a2 a3 : Option Value} {x : Int32} (h : pj_long a2 = false) {o9 : Option Value × pj_Mem} : pj_Ends 52 (21, a0 :: a1 :: a2 :: a3 :: l, .int x :: st, M) o9 = pj_Ends 52 (22, a0 :: a1 :: a2 :: some (.int x) :: l, st, M) o9 := pj_xs (s52_21 h)
theorem q52_22 : pj_row 52 22 = some (.iload_n 3, 1, 0, 0, 0) := by decide +kernel
theorem s52_22 {st : List Value} {M : pj_Mem} {l : pj_Loc} {a0 a1 a2 : Option Value} {x : Int32} : pj_step 52 (22, a0 :: a1 :: a2 :: some (.int x) :: l, st, M) = some (23, a0 :: a1 :: a2 :: some (.int x) :: l, .int x :: st, M) := st_iload_n q52_22 rfl
theorem x52_22 {st : List Value} {M : pj_Mem} {l : pj_Loc} {a0 a1 a2 : Option Value} {x : Int32} {o9 : Option Value × pj_Mem} : pj_Ends 52 (22, a0 :: a1 :: a2 :: some (.int x) :: l, st, M) o9 = pj_Ends 52 (23, a0 :: a1 :: a2 :: some (.int x) :: l, .int x :: st, M) o9 := pj_xs (s52_22)
theorem q52_23 : pj_row 52 23 = some (.bipush 33, 2, 0, 0, 0) := by decide +kernel
theorem s52_23 {L : pj_Loc} {st : List Value} {M : pj_Mem}  : pj_step 52 (23, L, st, M) = some (25, L, .int 33 :: st, M) := st_bipush q52_23 (by decide +kernel)
theorem x52_23 {L : pj_Loc} {st : List Value} {M : pj_Mem}  {o9 : Option Value × pj_Mem} : pj_Ends 52 (23, L, st, M) o9 = pj_Ends 52 (25, L, .int 33 :: st, M) o9 := pj_xs (s52_23)
theorem q52_25 : pj_row 52 25 = some (.if_icmp .lt 9, 3, 34, 0, 0) := by decide +kernel
theorem s52_25 {L : pj_Loc} {st : List Value} {M : pj_Mem} {x y : Int32} : pj_step 52 (25, L, .int y :: .int x :: st, M) = some (if x < y then 34 else 28, L, st, M) := st_icmp_lt q52_25
theorem x52_25 {L : pj_Loc} {st : List Value} {M : pj_Mem} {x y : Int32} {o9 : Option Value × pj_Mem} : pj_Ends 52 (25, L, .int y :: .int x :: st, M) o9 = pj_Ends 52 (if x < y then 34 else 28, L, st, M) o9 := pj_xs (s52_25)
theorem q52_28 : pj_row 52 28 = some (.iload_n 3, 1, 0, 0, 0) := by decide +kernel
theorem s52_28 {st : List Value} {M : pj_Mem} {l : pj_Loc} {a0 a1 a2 : Option Value} {x : Int32} : pj_step 52 (28, a0 :: a1 :: a2 :: some (.int x) :: l, st, M) = some (29, a0 :: a1 :: a2 :: some (.int x) :: l, .int x :: st, M) := st_iload_n q52_28 rfl
theorem x52_28 {st : List Value} {M : pj_Mem} {l : pj_Loc} {a0 a1 a2 : Option Value} {x : Int32} {o9 : Option Value × pj_Mem} : pj_Ends 52 (28, a0 :: a1 :: a2 :: some (.int x) :: l, st, M) o9 = pj_Ends 52 (29, a0 :: a1 :: a2 :: some (.int x) :: l, .int x :: st, M) o9 := pj_xs (s52_28)
theorem q52_29 : pj_row 52 29 = some (.bipush 126, 2, 0, 0, 0) := by decide +kernel
theorem s52_29 {L : pj_Loc} {st : List Value} {M : pj_Mem}  : pj_step 52 (29, L, st, M) = some (31, L, .int 126 :: st, M) := st_bipush q52_29 (by decide +kernel)
theorem x52_29 {L : pj_Loc} {st : List Value} {M : pj_Mem}  {o9 : Option Value × pj_Mem} : pj_Ends 52 (29, L, st, M) o9 = pj_Ends 52 (31, L, .int 126 :: st, M) o9 := pj_xs (s52_29)
theorem q52_31 : pj_row 52 31 = some (.if_icmp .le 5, 3, 36, 0, 0) := by decide +kernel
theorem s52_31 {L : pj_Loc} {st : List Value} {M : pj_Mem} {x y : Int32} : pj_step 52 (31, L, .int y :: .int x :: st, M) = some (if x ≤ y then 36 else 34, L, st, M) := st_icmp_le q52_31
theorem x52_31 {L : pj_Loc} {st : List Value} {M : pj_Mem} {x y : Int32} {o9 : Option Value × pj_Mem} : pj_Ends 52 (31, L, .int y :: .int x :: st, M) o9 = pj_Ends 52 (if x ≤ y then 36 else 34, L, st, M) o9 := pj_xs (s52_31)
theorem q52_34 : pj_row 52 34 = some (.iconst 0, 1, 0, 0, 0) := by decide +kernel
theorem s52_34 {L : pj_Loc} {st : List Value} {M : pj_Mem}  : pj_step 52 (34, L, st, M) = some (35, L, .int 0 :: st, M) := st_iconst q52_34 (by decide +kernel)
theorem x52_34 {L : pj_Loc} {st : List Value} {M : pj_Mem}  {o9 : Option Value × pj_Mem} : pj_Ends 52 (34, L, st, M) o9 = pj_Ends 52 (35, L, .int 0 :: st, M) o9 := pj_xs (s52_34)
theorem q52_35 : pj_row 52 35 = some (.ireturn, 1, 0, 0, 0) := by decide +kernel
theorem t52_35 {L : pj_Loc} {M : pj_Mem} {v : Int32} : pj_Ends 52 (35, L, [.int v], M) (some (.int v), M) := pj_Ends.ret q52_35 (pj_rtn_i rt52)
theorem q52_36 : pj_row 52 36 = some (.iinc 2 1, 3, 0, 0, 0) := by decide +kernel
theorem s52_36 {st : List Value} {M : pj_Mem} {l : pj_Loc} {a0 a1 : Option Value} {x : Int32} (h : pj_long a1 = false) : pj_step 52 (36, a0 :: a1 :: some (.int x) :: l, st, M) = some (39, a0 :: a1 :: some (.int (x + 1)) :: l, st, M) := st_iinc q52_36 rfl (congrArg (fun y => x + y) (show Int32.ofInt 1 = 1 by decide +kernel)) (pj_st_2 h)
theorem x52_36 {st : List Value} {M : pj_Mem} {l : pj_Loc} {a0 a1 : Option Value} {x : Int32} (h : pj_long a1 = false) {o9 : Option Value × pj_Mem} : pj_Ends 52 (36, a0 :: a1 :: some (.int x) :: l, st, M) o9 = pj_Ends 52 (39, a0 :: a1 :: some (.int (x + 1)) :: l, st, M) o9 := pj_xs (s52_36 h)
theorem q52_39 : pj_row 52 39 = some (.goto (-37), 3, 2, 0, 0) := by decide +kernel
theorem s52_39 {L : pj_Loc} {st : List Value} {M : pj_Mem}  : pj_step 52 (39, L, st, M) = some (2, L, st, M) := st_goto q52_39
theorem x52_39 {L : pj_Loc} {st : List Value} {M : pj_Mem}  {o9 : Option Value × pj_Mem} : pj_Ends 52 (39, L, st, M) o9 = pj_Ends 52 (2, L, st, M) o9 := pj_xs (s52_39)
theorem q52_42 : pj_row 52 42 = some (.iload_n 2, 1, 0, 0, 0) := by decide +kernel
theorem s52_42 {st : List Value} {M : pj_Mem} {l : pj_Loc} {a0 a1 : Option Value} {x : Int32} : pj_step 52 (42, a0 :: a1 :: some (.int x) :: l, st, M) = some (43, a0 :: a1 :: some (.int x) :: l, .int x :: st, M) := st_iload_n q52_42 rfl
theorem x52_42 {st : List Value} {M : pj_Mem} {l : pj_Loc} {a0 a1 : Option Value} {x : Int32} {o9 : Option Value × pj_Mem} : pj_Ends 52 (42, a0 :: a1 :: some (.int x) :: l, st, M) o9 = pj_Ends 52 (43, a0 :: a1 :: some (.int x) :: l, .int x :: st, M) o9 := pj_xs (s52_42)
theorem q52_43 : pj_row 52 43 = some (.bipush 8, 2, 0, 0, 0) := by decide +kernel
theorem s52_43 {L : pj_Loc} {st : List Value} {M : pj_Mem}  : pj_step 52 (43, L, st, M) = some (45, L, .int 8 :: st, M) := st_bipush q52_43 (by decide +kernel)
theorem x52_43 {L : pj_Loc} {st : List Value} {M : pj_Mem}  {o9 : Option Value × pj_Mem} : pj_Ends 52 (43, L, st, M) o9 = pj_Ends 52 (45, L, .int 8 :: st, M) o9 := pj_xs (s52_43)
theorem q52_45 : pj_row 52 45 = some (.if_icmp .ge 18, 3, 63, 0, 0) := by decide +kernel
theorem s52_45 {L : pj_Loc} {st : List Value} {M : pj_Mem} {x y : Int32} : pj_step 52 (45, L, .int y :: .int x :: st, M) = some (if y ≤ x then 63 else 48, L, st, M) := st_icmp_ge q52_45
theorem x52_45 {L : pj_Loc} {st : List Value} {M : pj_Mem} {x y : Int32} {o9 : Option Value × pj_Mem} : pj_Ends 52 (45, L, .int y :: .int x :: st, M) o9 = pj_Ends 52 (if y ≤ x then 63 else 48, L, st, M) o9 := pj_xs (s52_45)
theorem q52_48 : pj_row 52 48 = some (.lload_n 0, 1, 0, 0, 0) := by decide +kernel
theorem s52_48 {st : List Value} {M : pj_Mem} {l : pj_Loc} {x : Int64} : pj_step 52 (48, some (.long x) :: l, st, M) = some (49, some (.long x) :: l, .long x :: st, M) := st_lload_n q52_48 rfl
theorem x52_48 {st : List Value} {M : pj_Mem} {l : pj_Loc} {x : Int64} {o9 : Option Value × pj_Mem} : pj_Ends 52 (48, some (.long x) :: l, st, M) o9 = pj_Ends 52 (49, some (.long x) :: l, .long x :: st, M) o9 := pj_xs (s52_48)
theorem q52_49 : pj_row 52 49 = some (.bipush 8, 2, 0, 0, 0) := by decide +kernel
theorem s52_49 {L : pj_Loc} {st : List Value} {M : pj_Mem}  : pj_step 52 (49, L, st, M) = some (51, L, .int 8 :: st, M) := st_bipush q52_49 (by decide +kernel)
theorem x52_49 {L : pj_Loc} {st : List Value} {M : pj_Mem}  {o9 : Option Value × pj_Mem} : pj_Ends 52 (49, L, st, M) o9 = pj_Ends 52 (51, L, .int 8 :: st, M) o9 := pj_xs (s52_49)
theorem q52_51 : pj_row 52 51 = some (.iload_n 2, 1, 0, 0, 0) := by decide +kernel
theorem s52_51 {st : List Value} {M : pj_Mem} {l : pj_Loc} {a0 a1 : Option Value} {x : Int32} : pj_step 52 (51, a0 :: a1 :: some (.int x) :: l, st, M) = some (52, a0 :: a1 :: some (.int x) :: l, .int x :: st, M) := st_iload_n q52_51 rfl
theorem x52_51 {st : List Value} {M : pj_Mem} {l : pj_Loc} {a0 a1 : Option Value} {x : Int32} {o9 : Option Value × pj_Mem} : pj_Ends 52 (51, a0 :: a1 :: some (.int x) :: l, st, M) o9 = pj_Ends 52 (52, a0 :: a1 :: some (.int x) :: l, .int x :: st, M) o9 := pj_xs (s52_51)
theorem q52_52 : pj_row 52 52 = some (.imul, 1, 0, 0, 0) := by decide +kernel
theorem s52_52 {L : pj_Loc} {st : List Value} {M : pj_Mem} {x y : Int32} : pj_step 52 (52, L, .int y :: .int x :: st, M) = some (53, L, .int (x * y) :: st, M) := st_imul q52_52
theorem x52_52 {L : pj_Loc} {st : List Value} {M : pj_Mem} {x y : Int32} {o9 : Option Value × pj_Mem} : pj_Ends 52 (52, L, .int y :: .int x :: st, M) o9 = pj_Ends 52 (53, L, .int (x * y) :: st, M) o9 := pj_xs (s52_52)
theorem q52_53 : pj_row 52 53 = some (.lushr, 1, 0, 0, 0) := by decide +kernel
theorem s52_53 {L : pj_Loc} {st : List Value} {M : pj_Mem} {x : Int64} {y : Int32} : pj_step 52 (53, L, .int y :: .long x :: st, M) = some (54, L, .long ((x.toUInt64 >>> (y.toInt64.toUInt64 &&& Int64.toUInt64 63)).toInt64) :: st, M) := st_lushr q52_53
theorem x52_53 {L : pj_Loc} {st : List Value} {M : pj_Mem} {x : Int64} {y : Int32} {o9 : Option Value × pj_Mem} : pj_Ends 52 (53, L, .int y :: .long x :: st, M) o9 = pj_Ends 52 (54, L, .long ((x.toUInt64 >>> (y.toInt64.toUInt64 &&& Int64.toUInt64 63)).toInt64) :: st, M) o9 := pj_xs (s52_53)
theorem q52_54 : pj_row 52 54 = some (.lconst 0, 1, 0, 0, 0) := by decide +kernel
theorem s52_54 {L : pj_Loc} {st : List Value} {M : pj_Mem}  : pj_step 52 (54, L, st, M) = some (55, L, .long 0 :: st, M) := st_lconst q52_54 (by decide +kernel)
theorem x52_54 {L : pj_Loc} {st : List Value} {M : pj_Mem}  {o9 : Option Value × pj_Mem} : pj_Ends 52 (54, L, st, M) o9 = pj_Ends 52 (55, L, .long 0 :: st, M) o9 := pj_xs (s52_54)
theorem q52_55 : pj_row 52 55 = some (.lcmp, 1, 0, 0, 0) := by decide +kernel
theorem s52_55 {L : pj_Loc} {st : List Value} {M : pj_Mem} {x y : Int64} : pj_step 52 (55, L, .long y :: .long x :: st, M) = some (56, L, .int (lg_cmp x y) :: st, M) := st_lcmp q52_55
theorem x52_55 {L : pj_Loc} {st : List Value} {M : pj_Mem} {x y : Int64} {o9 : Option Value × pj_Mem} : pj_Ends 52 (55, L, .long y :: .long x :: st, M) o9 = pj_Ends 52 (56, L, .int (lg_cmp x y) :: st, M) o9 := pj_xs (s52_55)
theorem q52_56 : pj_row 52 56 = some (.ifCond .eq 7, 3, 63, 0, 0) := by decide +kernel
theorem s52_56 {L : pj_Loc} {st : List Value} {M : pj_Mem} {x : Int32} : pj_step 52 (56, L, .int x :: st, M) = some (if x = 0 then 63 else 59, L, st, M) := st_if_eq q52_56
theorem x52_56 {L : pj_Loc} {st : List Value} {M : pj_Mem} {x : Int32} {o9 : Option Value × pj_Mem} : pj_Ends 52 (56, L, .int x :: st, M) o9 = pj_Ends 52 (if x = 0 then 63 else 59, L, st, M) o9 := pj_xs (s52_56)
theorem q52_59 : pj_row 52 59 = some (.iconst 1, 1, 0, 0, 0) := by decide +kernel
theorem s52_59 {L : pj_Loc} {st : List Value} {M : pj_Mem}  : pj_step 52 (59, L, st, M) = some (60, L, .int 1 :: st, M) := st_iconst q52_59 (by decide +kernel)
theorem x52_59 {L : pj_Loc} {st : List Value} {M : pj_Mem}  {o9 : Option Value × pj_Mem} : pj_Ends 52 (59, L, st, M) o9 = pj_Ends 52 (60, L, .int 1 :: st, M) o9 := pj_xs (s52_59)
theorem q52_60 : pj_row 52 60 = some (.goto 4, 3, 64, 0, 0) := by decide +kernel
theorem s52_60 {L : pj_Loc} {st : List Value} {M : pj_Mem}  : pj_step 52 (60, L, st, M) = some (64, L, st, M) := st_goto q52_60
theorem x52_60 {L : pj_Loc} {st : List Value} {M : pj_Mem}  {o9 : Option Value × pj_Mem} : pj_Ends 52 (60, L, st, M) o9 = pj_Ends 52 (64, L, st, M) o9 := pj_xs (s52_60)
theorem q52_63 : pj_row 52 63 = some (.iconst 0, 1, 0, 0, 0) := by decide +kernel
theorem s52_63 {L : pj_Loc} {st : List Value} {M : pj_Mem}  : pj_step 52 (63, L, st, M) = some (64, L, .int 0 :: st, M) := st_iconst q52_63 (by decide +kernel)
theorem x52_63 {L : pj_Loc} {st : List Value} {M : pj_Mem}  {o9 : Option Value × pj_Mem} : pj_Ends 52 (63, L, st, M) o9 = pj_Ends 52 (64, L, .int 0 :: st, M) o9 := pj_xs (s52_63)
theorem q52_64 : pj_row 52 64 = some (.istore_n 3, 1, 0, 0, 0) := by decide +kernel
theorem s52_64 {st : List Value} {M : pj_Mem} {l : pj_Loc} {a0 a1 a2 a3 : Option Value} {x : Int32} (h : pj_long a2 = false) : pj_step 52 (64, a0 :: a1 :: a2 :: a3 :: l, .int x :: st, M) = some (65, a0 :: a1 :: a2 :: some (.int x) :: l, st, M) := st_istore_n q52_64 (pj_st_3 h)
theorem x52_64 {st : List Value} {M : pj_Mem} {l : pj_Loc} {a0 a1 a2 a3 : Option Value} {x : Int32} (h : pj_long a2 = false) {o9 : Option Value × pj_Mem} : pj_Ends 52 (64, a0 :: a1 :: a2 :: a3 :: l, .int x :: st, M) o9 = pj_Ends 52 (65, a0 :: a1 :: a2 :: some (.int x) :: l, st, M) o9 := pj_xs (s52_64 h)
theorem q52_65 : pj_row 52 65 = some (.iload_n 3, 1, 0, 0, 0) := by decide +kernel
theorem s52_65 {st : List Value} {M : pj_Mem} {l : pj_Loc} {a0 a1 a2 : Option Value} {x : Int32} : pj_step 52 (65, a0 :: a1 :: a2 :: some (.int x) :: l, st, M) = some (66, a0 :: a1 :: a2 :: some (.int x) :: l, .int x :: st, M) := st_iload_n q52_65 rfl
theorem x52_65 {st : List Value} {M : pj_Mem} {l : pj_Loc} {a0 a1 a2 : Option Value} {x : Int32} {o9 : Option Value × pj_Mem} : pj_Ends 52 (65, a0 :: a1 :: a2 :: some (.int x) :: l, st, M) o9 = pj_Ends 52 (66, a0 :: a1 :: a2 :: some (.int x) :: l, .int x :: st, M) o9 := pj_xs (s52_65)
theorem q52_66 : pj_row 52 66 = some (.ifCond .eq 7, 3, 73, 0, 0) := by decide +kernel
theorem s52_66 {L : pj_Loc} {st : List Value} {M : pj_Mem} {x : Int32} : pj_step 52 (66, L, .int x :: st, M) = some (if x = 0 then 73 else 69, L, st, M) := st_if_eq q52_66
theorem x52_66 {L : pj_Loc} {st : List Value} {M : pj_Mem} {x : Int32} {o9 : Option Value × pj_Mem} : pj_Ends 52 (66, L, .int x :: st, M) o9 = pj_Ends 52 (if x = 0 then 73 else 69, L, st, M) o9 := pj_xs (s52_66)
theorem q52_69 : pj_row 52 69 = some (.iconst 0, 1, 0, 0, 0) := by decide +kernel
theorem s52_69 {L : pj_Loc} {st : List Value} {M : pj_Mem}  : pj_step 52 (69, L, st, M) = some (70, L, .int 0 :: st, M) := st_iconst q52_69 (by decide +kernel)
theorem x52_69 {L : pj_Loc} {st : List Value} {M : pj_Mem}  {o9 : Option Value × pj_Mem} : pj_Ends 52 (69, L, st, M) o9 = pj_Ends 52 (70, L, .int 0 :: st, M) o9 := pj_xs (s52_69)
theorem q52_70 : pj_row 52 70 = some (.goto 4, 3, 74, 0, 0) := by decide +kernel
theorem s52_70 {L : pj_Loc} {st : List Value} {M : pj_Mem}  : pj_step 52 (70, L, st, M) = some (74, L, st, M) := st_goto q52_70
theorem x52_70 {L : pj_Loc} {st : List Value} {M : pj_Mem}  {o9 : Option Value × pj_Mem} : pj_Ends 52 (70, L, st, M) o9 = pj_Ends 52 (74, L, st, M) o9 := pj_xs (s52_70)
theorem q52_73 : pj_row 52 73 = some (.iload_n 2, 1, 0, 0, 0) := by decide +kernel
theorem s52_73 {st : List Value} {M : pj_Mem} {l : pj_Loc} {a0 a1 : Option Value} {x : Int32} : pj_step 52 (73, a0 :: a1 :: some (.int x) :: l, st, M) = some (74, a0 :: a1 :: some (.int x) :: l, .int x :: st, M) := st_iload_n q52_73 rfl
theorem x52_73 {st : List Value} {M : pj_Mem} {l : pj_Loc} {a0 a1 : Option Value} {x : Int32} {o9 : Option Value × pj_Mem} : pj_Ends 52 (73, a0 :: a1 :: some (.int x) :: l, st, M) o9 = pj_Ends 52 (74, a0 :: a1 :: some (.int x) :: l, .int x :: st, M) o9 := pj_xs (s52_73)
theorem q52_74 : pj_row 52 74 = some (.ireturn, 1, 0, 0, 0) := by decide +kernel
theorem t52_74 {L : pj_Loc} {M : pj_Mem} {v : Int32} : pj_Ends 52 (74, L, [.int v], M) (some (.int v), M) := pj_Ends.ret q52_74 (pj_rtn_i rt52)
theorem rt53 : pj_rt 53 = some .int := rfl
theorem q53_0 : pj_row 53 0 = some (.lload_n 0, 1, 0, 0, 0) := by decide +kernel
theorem s53_0 {st : List Value} {M : pj_Mem} {l : pj_Loc} {x : Int64} : pj_step 53 (0, some (.long x) :: l, st, M) = some (1, some (.long x) :: l, .long x :: st, M) := st_lload_n q53_0 rfl
theorem x53_0 {st : List Value} {M : pj_Mem} {l : pj_Loc} {x : Int64} {o9 : Option Value × pj_Mem} : pj_Ends 53 (0, some (.long x) :: l, st, M) o9 = pj_Ends 53 (1, some (.long x) :: l, .long x :: st, M) o9 := pj_xs (s53_0)
theorem q53_1 : pj_row 53 1 = some (.bipush 8, 2, 0, 0, 0) := by decide +kernel
theorem s53_1 {L : pj_Loc} {st : List Value} {M : pj_Mem}  : pj_step 53 (1, L, st, M) = some (3, L, .int 8 :: st, M) := st_bipush q53_1 (by decide +kernel)
theorem x53_1 {L : pj_Loc} {st : List Value} {M : pj_Mem}  {o9 : Option Value × pj_Mem} : pj_Ends 53 (1, L, st, M) o9 = pj_Ends 53 (3, L, .int 8 :: st, M) o9 := pj_xs (s53_1)
theorem q53_3 : pj_row 53 3 = some (.iload_n 2, 1, 0, 0, 0) := by decide +kernel
theorem s53_3 {st : List Value} {M : pj_Mem} {l : pj_Loc} {a0 a1 : Option Value} {x : Int32} : pj_step 53 (3, a0 :: a1 :: some (.int x) :: l, st, M) = some (4, a0 :: a1 :: some (.int x) :: l, .int x :: st, M) := st_iload_n q53_3 rfl
theorem x53_3 {st : List Value} {M : pj_Mem} {l : pj_Loc} {a0 a1 : Option Value} {x : Int32} {o9 : Option Value × pj_Mem} : pj_Ends 53 (3, a0 :: a1 :: some (.int x) :: l, st, M) o9 = pj_Ends 53 (4, a0 :: a1 :: some (.int x) :: l, .int x :: st, M) o9 := pj_xs (s53_3)
theorem q53_4 : pj_row 53 4 = some (.imul, 1, 0, 0, 0) := by decide +kernel
theorem s53_4 {L : pj_Loc} {st : List Value} {M : pj_Mem} {x y : Int32} : pj_step 53 (4, L, .int y :: .int x :: st, M) = some (5, L, .int (x * y) :: st, M) := st_imul q53_4
theorem x53_4 {L : pj_Loc} {st : List Value} {M : pj_Mem} {x y : Int32} {o9 : Option Value × pj_Mem} : pj_Ends 53 (4, L, .int y :: .int x :: st, M) o9 = pj_Ends 53 (5, L, .int (x * y) :: st, M) o9 := pj_xs (s53_4)
theorem q53_5 : pj_row 53 5 = some (.lushr, 1, 0, 0, 0) := by decide +kernel
theorem s53_5 {L : pj_Loc} {st : List Value} {M : pj_Mem} {x : Int64} {y : Int32} : pj_step 53 (5, L, .int y :: .long x :: st, M) = some (6, L, .long ((x.toUInt64 >>> (y.toInt64.toUInt64 &&& Int64.toUInt64 63)).toInt64) :: st, M) := st_lushr q53_5
theorem x53_5 {L : pj_Loc} {st : List Value} {M : pj_Mem} {x : Int64} {y : Int32} {o9 : Option Value × pj_Mem} : pj_Ends 53 (5, L, .int y :: .long x :: st, M) o9 = pj_Ends 53 (6, L, .long ((x.toUInt64 >>> (y.toInt64.toUInt64 &&& Int64.toUInt64 63)).toInt64) :: st, M) o9 := pj_xs (s53_5)
theorem q53_6 : pj_row 53 6 = some (.ldc2_w 213, 3, 0, 0, 255) := by decide +kernel
theorem s53_6 {L : pj_Loc} {st : List Value} {M : pj_Mem}  : pj_step 53 (6, L, st, M) = some (9, L, .long 255 :: st, M) := st_ldc2_w q53_6 (by decide +kernel)
theorem x53_6 {L : pj_Loc} {st : List Value} {M : pj_Mem}  {o9 : Option Value × pj_Mem} : pj_Ends 53 (6, L, st, M) o9 = pj_Ends 53 (9, L, .long 255 :: st, M) o9 := pj_xs (s53_6)
theorem q53_9 : pj_row 53 9 = some (.land, 1, 0, 0, 0) := by decide +kernel
theorem s53_9 {L : pj_Loc} {st : List Value} {M : pj_Mem} {x y : Int64} : pj_step 53 (9, L, .long y :: .long x :: st, M) = some (10, L, .long (x &&& y) :: st, M) := st_land q53_9
theorem x53_9 {L : pj_Loc} {st : List Value} {M : pj_Mem} {x y : Int64} {o9 : Option Value × pj_Mem} : pj_Ends 53 (9, L, .long y :: .long x :: st, M) o9 = pj_Ends 53 (10, L, .long (x &&& y) :: st, M) o9 := pj_xs (s53_9)
theorem q53_10 : pj_row 53 10 = some (.l2i, 1, 0, 0, 0) := by decide +kernel
theorem s53_10 {L : pj_Loc} {st : List Value} {M : pj_Mem} {x : Int64} : pj_step 53 (10, L, .long x :: st, M) = some (11, L, .int x.toInt32 :: st, M) := st_l2i q53_10
theorem x53_10 {L : pj_Loc} {st : List Value} {M : pj_Mem} {x : Int64} {o9 : Option Value × pj_Mem} : pj_Ends 53 (10, L, .long x :: st, M) o9 = pj_Ends 53 (11, L, .int x.toInt32 :: st, M) o9 := pj_xs (s53_10)
theorem q53_11 : pj_row 53 11 = some (.ireturn, 1, 0, 0, 0) := by decide +kernel
theorem t53_11 {L : pj_Loc} {M : pj_Mem} {v : Int32} : pj_Ends 53 (11, L, [.int v], M) (some (.int v), M) := pj_Ends.ret q53_11 (pj_rtn_i rt53)
theorem rt54 : pj_rt 54 = none := rfl
theorem q54_0 : pj_row 54 0 = some (.aload_n 0, 1, 0, 0, 0) := by decide +kernel
theorem s54_0 {st : List Value} {M : pj_Mem} {l : pj_Loc} {x : Nat} : pj_step 54 (0, some (.ref x) :: l, st, M) = some (1, some (.ref x) :: l, .ref x :: st, M) := st_aload_n q54_0 rfl
theorem x54_0 {st : List Value} {M : pj_Mem} {l : pj_Loc} {x : Nat} {o9 : Option Value × pj_Mem} : pj_Ends 54 (0, some (.ref x) :: l, st, M) o9 = pj_Ends 54 (1, some (.ref x) :: l, .ref x :: st, M) o9 := pj_xs (s54_0)
theorem q54_1 : pj_row 54 1 = some (.getfield 22, 3, 0, 2, 0) := by decide +kernel
theorem s54_1 {L : pj_Loc} {st : List Value} {N S : Nat} {H : pj_Heap} {o : Nat} : pj_step 54 (1, L, .ref o :: st, (N, S, H)) = pj_pv 4 L st (N, S, H) (pj_fld (H o) 0 2) := st_getfield q54_1
theorem x54_1 {L : pj_Loc} {st : List Value} {N S : Nat} {H : pj_Heap} {o : Nat} {o9 : Option Value × pj_Mem} : pj_Ends 54 (1, L, .ref o :: st, (N, S, H)) o9 = pj_then 54 o9 (pj_pv 4 L st (N, S, H) (pj_fld (H o) 0 2)) := pj_xt q54_1 rfl (pj_cl_nc rfl) (s54_1)
theorem q54_4 : pj_row 54 4 = some (.bipush 80, 2, 0, 0, 0) := by decide +kernel
theorem s54_4 {L : pj_Loc} {st : List Value} {M : pj_Mem}  : pj_step 54 (4, L, st, M) = some (6, L, .int 80 :: st, M) := st_bipush q54_4 (by decide +kernel)
theorem x54_4 {L : pj_Loc} {st : List Value} {M : pj_Mem}  {o9 : Option Value × pj_Mem} : pj_Ends 54 (4, L, st, M) o9 = pj_Ends 54 (6, L, .int 80 :: st, M) o9 := pj_xs (s54_4)
theorem q54_6 : pj_row 54 6 = some (.if_icmp .ge 23, 3, 29, 0, 0) := by decide +kernel
theorem s54_6 {L : pj_Loc} {st : List Value} {M : pj_Mem} {x y : Int32} : pj_step 54 (6, L, .int y :: .int x :: st, M) = some (if y ≤ x then 29 else 9, L, st, M) := st_icmp_ge q54_6
theorem x54_6 {L : pj_Loc} {st : List Value} {M : pj_Mem} {x y : Int32} {o9 : Option Value × pj_Mem} : pj_Ends 54 (6, L, .int y :: .int x :: st, M) o9 = pj_Ends 54 (if y ≤ x then 29 else 9, L, st, M) o9 := pj_xs (s54_6)
theorem q54_9 : pj_row 54 9 = some (.aload_n 0, 1, 0, 0, 0) := by decide +kernel
theorem s54_9 {st : List Value} {M : pj_Mem} {l : pj_Loc} {x : Nat} : pj_step 54 (9, some (.ref x) :: l, st, M) = some (10, some (.ref x) :: l, .ref x :: st, M) := st_aload_n q54_9 rfl
theorem x54_9 {st : List Value} {M : pj_Mem} {l : pj_Loc} {x : Nat} {o9 : Option Value × pj_Mem} : pj_Ends 54 (9, some (.ref x) :: l, st, M) o9 = pj_Ends 54 (10, some (.ref x) :: l, .ref x :: st, M) o9 := pj_xs (s54_9)
theorem q54_10 : pj_row 54 10 = some (.getfield 9, 3, 0, 0, 0) := by decide +kernel
theorem s54_10 {L : pj_Loc} {st : List Value} {N S : Nat} {H : pj_Heap} {o : Nat} : pj_step 54 (10, L, .ref o :: st, (N, S, H)) = pj_pv 13 L st (N, S, H) (pj_fld (H o) 0 0) := st_getfield q54_10
theorem x54_10 {L : pj_Loc} {st : List Value} {N S : Nat} {H : pj_Heap} {o : Nat} {o9 : Option Value × pj_Mem} : pj_Ends 54 (10, L, .ref o :: st, (N, S, H)) o9 = pj_then 54 o9 (pj_pv 13 L st (N, S, H) (pj_fld (H o) 0 0)) := pj_xt q54_10 rfl (pj_cl_nc rfl) (s54_10)
theorem q54_13 : pj_row 54 13 = some (.aload_n 0, 1, 0, 0, 0) := by decide +kernel
theorem s54_13 {st : List Value} {M : pj_Mem} {l : pj_Loc} {x : Nat} : pj_step 54 (13, some (.ref x) :: l, st, M) = some (14, some (.ref x) :: l, .ref x :: st, M) := st_aload_n q54_13 rfl
theorem x54_13 {st : List Value} {M : pj_Mem} {l : pj_Loc} {x : Nat} {o9 : Option Value × pj_Mem} : pj_Ends 54 (13, some (.ref x) :: l, st, M) o9 = pj_Ends 54 (14, some (.ref x) :: l, .ref x :: st, M) o9 := pj_xs (s54_13)
theorem q54_14 : pj_row 54 14 = some (.getfield 22, 3, 0, 2, 0) := by decide +kernel
theorem s54_14 {L : pj_Loc} {st : List Value} {N S : Nat} {H : pj_Heap} {o : Nat} : pj_step 54 (14, L, .ref o :: st, (N, S, H)) = pj_pv 17 L st (N, S, H) (pj_fld (H o) 0 2) := st_getfield q54_14
theorem x54_14 {L : pj_Loc} {st : List Value} {N S : Nat} {H : pj_Heap} {o : Nat} {o9 : Option Value × pj_Mem} : pj_Ends 54 (14, L, .ref o :: st, (N, S, H)) o9 = pj_then 54 o9 (pj_pv 17 L st (N, S, H) (pj_fld (H o) 0 2)) := pj_xt q54_14 rfl (pj_cl_nc rfl) (s54_14)
theorem q54_17 : pj_row 54 17 = some (.iload_n 1, 1, 0, 0, 0) := by decide +kernel
theorem s54_17 {st : List Value} {M : pj_Mem} {l : pj_Loc} {a0 : Option Value} {x : Int32} : pj_step 54 (17, a0 :: some (.int x) :: l, st, M) = some (18, a0 :: some (.int x) :: l, .int x :: st, M) := st_iload_n q54_17 rfl
theorem x54_17 {st : List Value} {M : pj_Mem} {l : pj_Loc} {a0 : Option Value} {x : Int32} {o9 : Option Value × pj_Mem} : pj_Ends 54 (17, a0 :: some (.int x) :: l, st, M) o9 = pj_Ends 54 (18, a0 :: some (.int x) :: l, .int x :: st, M) o9 := pj_xs (s54_17)
theorem q54_18 : pj_row 54 18 = some (.castore, 1, 0, 0, 0) := by decide +kernel
theorem s54_18 {L : pj_Loc} {st : List Value} {N S : Nat} {H : pj_Heap} {o : Nat} {i x : Int32} : pj_step 54 (18, L, .int x :: .int i :: .ref o :: st, (N, S, H)) = pj_set 19 L st (N, S, H) o (pj_ars (H o) 1 i (vp_nar .char x)) := st_castore q54_18
theorem x54_18 {L : pj_Loc} {st : List Value} {N S : Nat} {H : pj_Heap} {o : Nat} {i x : Int32} {o9 : Option Value × pj_Mem} : pj_Ends 54 (18, L, .int x :: .int i :: .ref o :: st, (N, S, H)) o9 = pj_then 54 o9 (pj_set 19 L st (N, S, H) o (pj_ars (H o) 1 i (vp_nar .char x))) := pj_xt q54_18 rfl (pj_cl_nc rfl) (s54_18)
theorem q54_19 : pj_row 54 19 = some (.aload_n 0, 1, 0, 0, 0) := by decide +kernel
theorem s54_19 {st : List Value} {M : pj_Mem} {l : pj_Loc} {x : Nat} : pj_step 54 (19, some (.ref x) :: l, st, M) = some (20, some (.ref x) :: l, .ref x :: st, M) := st_aload_n q54_19 rfl
theorem x54_19 {st : List Value} {M : pj_Mem} {l : pj_Loc} {x : Nat} {o9 : Option Value × pj_Mem} : pj_Ends 54 (19, some (.ref x) :: l, st, M) o9 = pj_Ends 54 (20, some (.ref x) :: l, .ref x :: st, M) o9 := pj_xs (s54_19)
theorem q54_20 : pj_row 54 20 = some (.dup, 1, 0, 0, 0) := by decide +kernel
theorem s54_20 {L : pj_Loc} {st : List Value} {M : pj_Mem} {x : Nat} : pj_step 54 (20, L, .ref x :: st, M) = some (21, L, .ref x :: .ref x :: st, M) := st_dup_ref q54_20
theorem x54_20 {L : pj_Loc} {st : List Value} {M : pj_Mem} {x : Nat} {o9 : Option Value × pj_Mem} : pj_Ends 54 (20, L, .ref x :: st, M) o9 = pj_Ends 54 (21, L, .ref x :: .ref x :: st, M) o9 := pj_xs (s54_20)
theorem s54_20i {L : pj_Loc} {st : List Value} {M : pj_Mem} {x : Int32} : pj_step 54 (20, L, .int x :: st, M) = some (21, L, .int x :: .int x :: st, M) := st_dup_int q54_20
theorem x54_20i {L : pj_Loc} {st : List Value} {M : pj_Mem} {x : Int32} {o9 : Option Value × pj_Mem} : pj_Ends 54 (20, L, .int x :: st, M) o9 = pj_Ends 54 (21, L, .int x :: .int x :: st, M) o9 := pj_xs (s54_20i)
theorem q54_21 : pj_row 54 21 = some (.getfield 22, 3, 0, 2, 0) := by decide +kernel
theorem s54_21 {L : pj_Loc} {st : List Value} {N S : Nat} {H : pj_Heap} {o : Nat} : pj_step 54 (21, L, .ref o :: st, (N, S, H)) = pj_pv 24 L st (N, S, H) (pj_fld (H o) 0 2) := st_getfield q54_21
theorem x54_21 {L : pj_Loc} {st : List Value} {N S : Nat} {H : pj_Heap} {o : Nat} {o9 : Option Value × pj_Mem} : pj_Ends 54 (21, L, .ref o :: st, (N, S, H)) o9 = pj_then 54 o9 (pj_pv 24 L st (N, S, H) (pj_fld (H o) 0 2)) := pj_xt q54_21 rfl (pj_cl_nc rfl) (s54_21)
theorem q54_24 : pj_row 54 24 = some (.iconst 1, 1, 0, 0, 0) := by decide +kernel
theorem s54_24 {L : pj_Loc} {st : List Value} {M : pj_Mem}  : pj_step 54 (24, L, st, M) = some (25, L, .int 1 :: st, M) := st_iconst q54_24 (by decide +kernel)
theorem x54_24 {L : pj_Loc} {st : List Value} {M : pj_Mem}  {o9 : Option Value × pj_Mem} : pj_Ends 54 (24, L, st, M) o9 = pj_Ends 54 (25, L, .int 1 :: st, M) o9 := pj_xs (s54_24)
theorem q54_25 : pj_row 54 25 = some (.iadd, 1, 0, 0, 0) := by decide +kernel
theorem s54_25 {L : pj_Loc} {st : List Value} {M : pj_Mem} {x y : Int32} : pj_step 54 (25, L, .int y :: .int x :: st, M) = some (26, L, .int (x + y) :: st, M) := st_iadd q54_25
theorem x54_25 {L : pj_Loc} {st : List Value} {M : pj_Mem} {x y : Int32} {o9 : Option Value × pj_Mem} : pj_Ends 54 (25, L, .int y :: .int x :: st, M) o9 = pj_Ends 54 (26, L, .int (x + y) :: st, M) o9 := pj_xs (s54_25)
theorem q54_26 : pj_row 54 26 = some (.putfield 22, 3, 0, 2, 0) := by decide +kernel
theorem s54_26 {L : pj_Loc} {st : List Value} {N S : Nat} {H : pj_Heap} {o : Nat} {v : Value} : pj_step 54 (26, L, v :: .ref o :: st, (N, S, H)) = pj_set 29 L st (N, S, H) o (pj_fset (H o) 0 2 v) := st_putfield q54_26
theorem x54_26 {L : pj_Loc} {st : List Value} {N S : Nat} {H : pj_Heap} {o : Nat} {v : Value} {o9 : Option Value × pj_Mem} : pj_Ends 54 (26, L, v :: .ref o :: st, (N, S, H)) o9 = pj_then 54 o9 (pj_set 29 L st (N, S, H) o (pj_fset (H o) 0 2 v)) := pj_xt q54_26 rfl (pj_cl_nc rfl) (s54_26)
theorem q54_29 : pj_row 54 29 = some (.return_, 1, 0, 0, 0) := by decide +kernel
theorem t54_29 {L : pj_Loc} {M : pj_Mem} : pj_Ends 54 (29, L, [], M) (none, M) := pj_Ends.ret q54_29 (pj_rtn_v rt54)
theorem rt55 : pj_rt 55 = some .int := rfl
theorem q55_0 : pj_row 55 0 = some (.aload_n 0, 1, 0, 0, 0) := by decide +kernel
theorem s55_0 {st : List Value} {M : pj_Mem} {l : pj_Loc} {x : Nat} : pj_step 55 (0, some (.ref x) :: l, st, M) = some (1, some (.ref x) :: l, .ref x :: st, M) := st_aload_n q55_0 rfl
theorem x55_0 {st : List Value} {M : pj_Mem} {l : pj_Loc} {x : Nat} {o9 : Option Value × pj_Mem} : pj_Ends 55 (0, some (.ref x) :: l, st, M) o9 = pj_Ends 55 (1, some (.ref x) :: l, .ref x :: st, M) o9 := pj_xs (s55_0)
theorem q55_1 : pj_row 55 1 = some (.getfield 29, 3, 5, 3, 0) := by decide +kernel
theorem s55_1 {L : pj_Loc} {st : List Value} {N S : Nat} {H : pj_Heap} {o : Nat} : pj_step 55 (1, L, .ref o :: st, (N, S, H)) = pj_pv 4 L st (N, S, H) (pj_fld (H o) 5 3) := st_getfield q55_1
theorem x55_1 {L : pj_Loc} {st : List Value} {N S : Nat} {H : pj_Heap} {o : Nat} {o9 : Option Value × pj_Mem} : pj_Ends 55 (1, L, .ref o :: st, (N, S, H)) o9 = pj_then 55 o9 (pj_pv 4 L st (N, S, H) (pj_fld (H o) 5 3)) := pj_xt q55_1 rfl (pj_cl_nc rfl) (s55_1)
theorem q55_4 : pj_row 55 4 = some (.getfield 145, 3, 0, 2, 0) := by decide +kernel
theorem s55_4 {L : pj_Loc} {st : List Value} {N S : Nat} {H : pj_Heap} {o : Nat} : pj_step 55 (4, L, .ref o :: st, (N, S, H)) = pj_pv 7 L st (N, S, H) (pj_fld (H o) 0 2) := st_getfield q55_4
theorem x55_4 {L : pj_Loc} {st : List Value} {N S : Nat} {H : pj_Heap} {o : Nat} {o9 : Option Value × pj_Mem} : pj_Ends 55 (4, L, .ref o :: st, (N, S, H)) o9 = pj_then 55 o9 (pj_pv 7 L st (N, S, H) (pj_fld (H o) 0 2)) := pj_xt q55_4 rfl (pj_cl_nc rfl) (s55_4)
theorem q55_7 : pj_row 55 7 = some (.istore_n 1, 1, 0, 0, 0) := by decide +kernel
theorem s55_7 {st : List Value} {M : pj_Mem} {l : pj_Loc} {a0 a1 : Option Value} {x : Int32} (h : pj_long a0 = false) : pj_step 55 (7, a0 :: a1 :: l, .int x :: st, M) = some (8, a0 :: some (.int x) :: l, st, M) := st_istore_n q55_7 (pj_st_1 h)
theorem x55_7 {st : List Value} {M : pj_Mem} {l : pj_Loc} {a0 a1 : Option Value} {x : Int32} (h : pj_long a0 = false) {o9 : Option Value × pj_Mem} : pj_Ends 55 (7, a0 :: a1 :: l, .int x :: st, M) o9 = pj_Ends 55 (8, a0 :: some (.int x) :: l, st, M) o9 := pj_xs (s55_7 h)
theorem q55_8 : pj_row 55 8 = some (.aload_n 0, 1, 0, 0, 0) := by decide +kernel
theorem s55_8 {st : List Value} {M : pj_Mem} {l : pj_Loc} {x : Nat} : pj_step 55 (8, some (.ref x) :: l, st, M) = some (9, some (.ref x) :: l, .ref x :: st, M) := st_aload_n q55_8 rfl
theorem x55_8 {st : List Value} {M : pj_Mem} {l : pj_Loc} {x : Nat} {o9 : Option Value × pj_Mem} : pj_Ends 55 (8, some (.ref x) :: l, st, M) o9 = pj_Ends 55 (9, some (.ref x) :: l, .ref x :: st, M) o9 := pj_xs (s55_8)
theorem q55_9 : pj_row 55 9 = some (.getfield 29, 3, 5, 3, 0) := by decide +kernel
theorem s55_9 {L : pj_Loc} {st : List Value} {N S : Nat} {H : pj_Heap} {o : Nat} : pj_step 55 (9, L, .ref o :: st, (N, S, H)) = pj_pv 12 L st (N, S, H) (pj_fld (H o) 5 3) := st_getfield q55_9
theorem x55_9 {L : pj_Loc} {st : List Value} {N S : Nat} {H : pj_Heap} {o : Nat} {o9 : Option Value × pj_Mem} : pj_Ends 55 (9, L, .ref o :: st, (N, S, H)) o9 = pj_then 55 o9 (pj_pv 12 L st (N, S, H) (pj_fld (H o) 5 3)) := pj_xt q55_9 rfl (pj_cl_nc rfl) (s55_9)
theorem q55_12 : pj_row 55 12 = some (.iconst 0, 1, 0, 0, 0) := by decide +kernel
theorem s55_12 {L : pj_Loc} {st : List Value} {M : pj_Mem}  : pj_step 55 (12, L, st, M) = some (13, L, .int 0 :: st, M) := st_iconst q55_12 (by decide +kernel)
theorem x55_12 {L : pj_Loc} {st : List Value} {M : pj_Mem}  {o9 : Option Value × pj_Mem} : pj_Ends 55 (12, L, st, M) o9 = pj_Ends 55 (13, L, .int 0 :: st, M) o9 := pj_xs (s55_12)
theorem q55_13 : pj_row 55 13 = some (.putfield 145, 3, 0, 2, 0) := by decide +kernel
theorem s55_13 {L : pj_Loc} {st : List Value} {N S : Nat} {H : pj_Heap} {o : Nat} {v : Value} : pj_step 55 (13, L, v :: .ref o :: st, (N, S, H)) = pj_set 16 L st (N, S, H) o (pj_fset (H o) 0 2 v) := st_putfield q55_13
theorem x55_13 {L : pj_Loc} {st : List Value} {N S : Nat} {H : pj_Heap} {o : Nat} {v : Value} {o9 : Option Value × pj_Mem} : pj_Ends 55 (13, L, v :: .ref o :: st, (N, S, H)) o9 = pj_then 55 o9 (pj_set 16 L st (N, S, H) o (pj_fset (H o) 0 2 v)) := pj_xt q55_13 rfl (pj_cl_nc rfl) (s55_13)
theorem q55_16 : pj_row 55 16 = some (.iload_n 1, 1, 0, 0, 0) := by decide +kernel
theorem s55_16 {st : List Value} {M : pj_Mem} {l : pj_Loc} {a0 : Option Value} {x : Int32} : pj_step 55 (16, a0 :: some (.int x) :: l, st, M) = some (17, a0 :: some (.int x) :: l, .int x :: st, M) := st_iload_n q55_16 rfl
theorem x55_16 {st : List Value} {M : pj_Mem} {l : pj_Loc} {a0 : Option Value} {x : Int32} {o9 : Option Value × pj_Mem} : pj_Ends 55 (16, a0 :: some (.int x) :: l, st, M) o9 = pj_Ends 55 (17, a0 :: some (.int x) :: l, .int x :: st, M) o9 := pj_xs (s55_16)
theorem q55_17 : pj_row 55 17 = some (.ireturn, 1, 0, 0, 0) := by decide +kernel
theorem t55_17 {L : pj_Loc} {M : pj_Mem} {v : Int32} : pj_Ends 55 (17, L, [.int v], M) (some (.int v), M) := pj_Ends.ret q55_17 (pj_rtn_i rt55)
theorem rt56 : pj_rt 56 = some .int := rfl
theorem q56_0 : pj_row 56 0 = some (.aload_n 0, 1, 0, 0, 0) := by decide +kernel
theorem s56_0 {st : List Value} {M : pj_Mem} {l : pj_Loc} {x : Nat} : pj_step 56 (0, some (.ref x) :: l, st, M) = some (1, some (.ref x) :: l, .ref x :: st, M) := st_aload_n q56_0 rfl
theorem x56_0 {st : List Value} {M : pj_Mem} {l : pj_Loc} {x : Nat} {o9 : Option Value × pj_Mem} : pj_Ends 56 (0, some (.ref x) :: l, st, M) o9 = pj_Ends 56 (1, some (.ref x) :: l, .ref x :: st, M) o9 := pj_xs (s56_0)
theorem q56_1 : pj_row 56 1 = some (.getfield 29, 3, 5, 3, 0) := by decide +kernel
theorem s56_1 {L : pj_Loc} {st : List Value} {N S : Nat} {H : pj_Heap} {o : Nat} : pj_step 56 (1, L, .ref o :: st, (N, S, H)) = pj_pv 4 L st (N, S, H) (pj_fld (H o) 5 3) := st_getfield q56_1
theorem x56_1 {L : pj_Loc} {st : List Value} {N S : Nat} {H : pj_Heap} {o : Nat} {o9 : Option Value × pj_Mem} : pj_Ends 56 (1, L, .ref o :: st, (N, S, H)) o9 = pj_then 56 o9 (pj_pv 4 L st (N, S, H) (pj_fld (H o) 5 3)) := pj_xt q56_1 rfl (pj_cl_nc rfl) (s56_1)
theorem q56_4 : pj_row 56 4 = some (.invokevirtual 188, 3, 57, 1, 0) := by decide +kernel
theorem e56_4 {L : pj_Loc} {st : List Value} {N S : Nat} {H : pj_Heap} {o : Option Value × pj_Mem} {M' : pj_Mem} {x0 : Nat} {r : Int32} (h4 : pj_le4 st = true) (hu : pj_isU 0 (H x0) = true) (h1 : pj_Ends 57 (0, [some (.ref x0), none], [], (N, S, H)) (some (.int r), M')) (h2 : pj_Ends 56 (7, L, .int r :: st, M') o) : pj_Ends 56 (4, L, .ref x0 :: st, (N, S, H)) o := ec_v1 q56_4 (Or.inl rfl) h4 hu rfl h1 h2
theorem q56_7 : pj_row 56 7 = some (.ireturn, 1, 0, 0, 0) := by decide +kernel
theorem t56_7 {L : pj_Loc} {M : pj_Mem} {v : Int32} : pj_Ends 56 (7, L, [.int v], M) (some (.int v), M) := pj_Ends.ret q56_7 (pj_rtn_i rt56)
theorem rt57 : pj_rt 57 = some .int := rfl
theorem q57_0 : pj_row 57 0 = some (.aload_n 0, 1, 0, 0, 0) := by decide +kernel
theorem s57_0 {st : List Value} {M : pj_Mem} {l : pj_Loc} {x : Nat} : pj_step 57 (0, some (.ref x) :: l, st, M) = some (1, some (.ref x) :: l, .ref x :: st, M) := st_aload_n q57_0 rfl
theorem x57_0 {st : List Value} {M : pj_Mem} {l : pj_Loc} {x : Nat} {o9 : Option Value × pj_Mem} : pj_Ends 57 (0, some (.ref x) :: l, st, M) o9 = pj_Ends 57 (1, some (.ref x) :: l, .ref x :: st, M) o9 := pj_xs (s57_0)
theorem q57_1 : pj_row 57 1 = some (.getfield 18, 3, 0, 1, 0) := by decide +kernel
theorem s57_1 {L : pj_Loc} {st : List Value} {N S : Nat} {H : pj_Heap} {o : Nat} : pj_step 57 (1, L, .ref o :: st, (N, S, H)) = pj_pv 4 L st (N, S, H) (pj_fld (H o) 0 1) := st_getfield q57_1
theorem x57_1 {L : pj_Loc} {st : List Value} {N S : Nat} {H : pj_Heap} {o : Nat} {o9 : Option Value × pj_Mem} : pj_Ends 57 (1, L, .ref o :: st, (N, S, H)) o9 = pj_then 57 o9 (pj_pv 4 L st (N, S, H) (pj_fld (H o) 0 1)) := pj_xt q57_1 rfl (pj_cl_nc rfl) (s57_1)
theorem q57_4 : pj_row 57 4 = some (.invokevirtual 26, 3, 58, 1, 0) := by decide +kernel
theorem e57_4 {L : pj_Loc} {st : List Value} {N S : Nat} {H : pj_Heap} {o : Option Value × pj_Mem} {M' : pj_Mem} {x0 : Nat} (h4 : pj_le4 st = true) (hu : pj_isU 1 (H x0) = true) (h1 : pj_Ends 58 (0, [some (.ref x0)], [], (N, S, H)) (none, M')) (h2 : pj_Ends 57 (7, L, st, M') o) : pj_Ends 57 (4, L, .ref x0 :: st, (N, S, H)) o := ec_v1 q57_4 (Or.inl rfl) h4 hu rfl h1 h2
theorem q57_7 : pj_row 57 7 = some (.iconst 0, 1, 0, 0, 0) := by decide +kernel
theorem s57_7 {L : pj_Loc} {st : List Value} {M : pj_Mem}  : pj_step 57 (7, L, st, M) = some (8, L, .int 0 :: st, M) := st_iconst q57_7 (by decide +kernel)
theorem x57_7 {L : pj_Loc} {st : List Value} {M : pj_Mem}  {o9 : Option Value × pj_Mem} : pj_Ends 57 (7, L, st, M) o9 = pj_Ends 57 (8, L, .int 0 :: st, M) o9 := pj_xs (s57_7)
theorem q57_8 : pj_row 57 8 = some (.istore_n 1, 1, 0, 0, 0) := by decide +kernel
theorem s57_8 {st : List Value} {M : pj_Mem} {l : pj_Loc} {a0 a1 : Option Value} {x : Int32} (h : pj_long a0 = false) : pj_step 57 (8, a0 :: a1 :: l, .int x :: st, M) = some (9, a0 :: some (.int x) :: l, st, M) := st_istore_n q57_8 (pj_st_1 h)
theorem x57_8 {st : List Value} {M : pj_Mem} {l : pj_Loc} {a0 a1 : Option Value} {x : Int32} (h : pj_long a0 = false) {o9 : Option Value × pj_Mem} : pj_Ends 57 (8, a0 :: a1 :: l, .int x :: st, M) o9 = pj_Ends 57 (9, a0 :: some (.int x) :: l, st, M) o9 := pj_xs (s57_8 h)
theorem q57_9 : pj_row 57 9 = some (.iload_n 1, 1, 0, 0, 0) := by decide +kernel
theorem s57_9 {st : List Value} {M : pj_Mem} {l : pj_Loc} {a0 : Option Value} {x : Int32} : pj_step 57 (9, a0 :: some (.int x) :: l, st, M) = some (10, a0 :: some (.int x) :: l, .int x :: st, M) := st_iload_n q57_9 rfl
theorem x57_9 {st : List Value} {M : pj_Mem} {l : pj_Loc} {a0 : Option Value} {x : Int32} {o9 : Option Value × pj_Mem} : pj_Ends 57 (9, a0 :: some (.int x) :: l, st, M) o9 = pj_Ends 57 (10, a0 :: some (.int x) :: l, .int x :: st, M) o9 := pj_xs (s57_9)
theorem q57_10 : pj_row 57 10 = some (.aload_n 0, 1, 0, 0, 0) := by decide +kernel
theorem s57_10 {st : List Value} {M : pj_Mem} {l : pj_Loc} {x : Nat} : pj_step 57 (10, some (.ref x) :: l, st, M) = some (11, some (.ref x) :: l, .ref x :: st, M) := st_aload_n q57_10 rfl
theorem x57_10 {st : List Value} {M : pj_Mem} {l : pj_Loc} {x : Nat} {o9 : Option Value × pj_Mem} : pj_Ends 57 (10, some (.ref x) :: l, st, M) o9 = pj_Ends 57 (11, some (.ref x) :: l, .ref x :: st, M) o9 := pj_xs (s57_10)
theorem q57_11 : pj_row 57 11 = some (.getfield 22, 3, 0, 2, 0) := by decide +kernel
theorem s57_11 {L : pj_Loc} {st : List Value} {N S : Nat} {H : pj_Heap} {o : Nat} : pj_step 57 (11, L, .ref o :: st, (N, S, H)) = pj_pv 14 L st (N, S, H) (pj_fld (H o) 0 2) := st_getfield q57_11
theorem x57_11 {L : pj_Loc} {st : List Value} {N S : Nat} {H : pj_Heap} {o : Nat} {o9 : Option Value × pj_Mem} : pj_Ends 57 (11, L, .ref o :: st, (N, S, H)) o9 = pj_then 57 o9 (pj_pv 14 L st (N, S, H) (pj_fld (H o) 0 2)) := pj_xt q57_11 rfl (pj_cl_nc rfl) (s57_11)
theorem q57_14 : pj_row 57 14 = some (.if_icmp .ge 27, 3, 41, 0, 0) := by decide +kernel
theorem s57_14 {L : pj_Loc} {st : List Value} {M : pj_Mem} {x y : Int32} : pj_step 57 (14, L, .int y :: .int x :: st, M) = some (if y ≤ x then 41 else 17, L, st, M) := st_icmp_ge q57_14
theorem x57_14 {L : pj_Loc} {st : List Value} {M : pj_Mem} {x y : Int32} {o9 : Option Value × pj_Mem} : pj_Ends 57 (14, L, .int y :: .int x :: st, M) o9 = pj_Ends 57 (if y ≤ x then 41 else 17, L, st, M) o9 := pj_xs (s57_14)
theorem q57_17 : pj_row 57 17 = some (.aload_n 0, 1, 0, 0, 0) := by decide +kernel
theorem s57_17 {st : List Value} {M : pj_Mem} {l : pj_Loc} {x : Nat} : pj_step 57 (17, some (.ref x) :: l, st, M) = some (18, some (.ref x) :: l, .ref x :: st, M) := st_aload_n q57_17 rfl
theorem x57_17 {st : List Value} {M : pj_Mem} {l : pj_Loc} {x : Nat} {o9 : Option Value × pj_Mem} : pj_Ends 57 (17, some (.ref x) :: l, st, M) o9 = pj_Ends 57 (18, some (.ref x) :: l, .ref x :: st, M) o9 := pj_xs (s57_17)
theorem q57_18 : pj_row 57 18 = some (.getfield 18, 3, 0, 1, 0) := by decide +kernel
theorem s57_18 {L : pj_Loc} {st : List Value} {N S : Nat} {H : pj_Heap} {o : Nat} : pj_step 57 (18, L, .ref o :: st, (N, S, H)) = pj_pv 21 L st (N, S, H) (pj_fld (H o) 0 1) := st_getfield q57_18
theorem x57_18 {L : pj_Loc} {st : List Value} {N S : Nat} {H : pj_Heap} {o : Nat} {o9 : Option Value × pj_Mem} : pj_Ends 57 (18, L, .ref o :: st, (N, S, H)) o9 = pj_then 57 o9 (pj_pv 21 L st (N, S, H) (pj_fld (H o) 0 1)) := pj_xt q57_18 rfl (pj_cl_nc rfl) (s57_18)
theorem q57_21 : pj_row 57 21 = some (.aload_n 0, 1, 0, 0, 0) := by decide +kernel
theorem s57_21 {st : List Value} {M : pj_Mem} {l : pj_Loc} {x : Nat} : pj_step 57 (21, some (.ref x) :: l, st, M) = some (22, some (.ref x) :: l, .ref x :: st, M) := st_aload_n q57_21 rfl
theorem x57_21 {st : List Value} {M : pj_Mem} {l : pj_Loc} {x : Nat} {o9 : Option Value × pj_Mem} : pj_Ends 57 (21, some (.ref x) :: l, st, M) o9 = pj_Ends 57 (22, some (.ref x) :: l, .ref x :: st, M) o9 := pj_xs (s57_21)
theorem q57_22 : pj_row 57 22 = some (.getfield 9, 3, 0, 0, 0) := by decide +kernel
theorem s57_22 {L : pj_Loc} {st : List Value} {N S : Nat} {H : pj_Heap} {o : Nat} : pj_step 57 (22, L, .ref o :: st, (N, S, H)) = pj_pv 25 L st (N, S, H) (pj_fld (H o) 0 0) := st_getfield q57_22
theorem x57_22 {L : pj_Loc} {st : List Value} {N S : Nat} {H : pj_Heap} {o : Nat} {o9 : Option Value × pj_Mem} : pj_Ends 57 (22, L, .ref o :: st, (N, S, H)) o9 = pj_then 57 o9 (pj_pv 25 L st (N, S, H) (pj_fld (H o) 0 0)) := pj_xt q57_22 rfl (pj_cl_nc rfl) (s57_22)
theorem q57_25 : pj_row 57 25 = some (.iload_n 1, 1, 0, 0, 0) := by decide +kernel
theorem s57_25 {st : List Value} {M : pj_Mem} {l : pj_Loc} {a0 : Option Value} {x : Int32} : pj_step 57 (25, a0 :: some (.int x) :: l, st, M) = some (26, a0 :: some (.int x) :: l, .int x :: st, M) := st_iload_n q57_25 rfl
theorem x57_25 {st : List Value} {M : pj_Mem} {l : pj_Loc} {a0 : Option Value} {x : Int32} {o9 : Option Value × pj_Mem} : pj_Ends 57 (25, a0 :: some (.int x) :: l, st, M) o9 = pj_Ends 57 (26, a0 :: some (.int x) :: l, .int x :: st, M) o9 := pj_xs (s57_25)
theorem q57_26 : pj_row 57 26 = some (.caload, 1, 0, 0, 0) := by decide +kernel
theorem s57_26 {L : pj_Loc} {st : List Value} {N S : Nat} {H : pj_Heap} {o : Nat} {i : Int32} : pj_step 57 (26, L, .int i :: .ref o :: st, (N, S, H)) = pj_pi 27 L st (N, S, H) (pj_arl (H o) 1 i) := st_caload q57_26
theorem x57_26 {L : pj_Loc} {st : List Value} {N S : Nat} {H : pj_Heap} {o : Nat} {i : Int32} {o9 : Option Value × pj_Mem} : pj_Ends 57 (26, L, .int i :: .ref o :: st, (N, S, H)) o9 = pj_then 57 o9 (pj_pi 27 L st (N, S, H) (pj_arl (H o) 1 i)) := pj_xt q57_26 rfl (pj_cl_nc rfl) (s57_26)
theorem q57_27 : pj_row 57 27 = some (.invokevirtual 29, 3, 61, 2, 0) := by decide +kernel
theorem e57_27 {L : pj_Loc} {st : List Value} {N S : Nat} {H : pj_Heap} {o : Option Value × pj_Mem} {M' : pj_Mem} {x0 : Nat} {x1 : Int32} {r : Int32} (h4 : pj_le4 st = true) (hu : pj_isU 1 (H x0) = true) (h1 : pj_Ends 61 (0, [some (.ref x0), some (.int x1)], [], (N, S, H)) (some (.int r), M')) (h2 : pj_Ends 57 (30, L, .int r :: st, M') o) : pj_Ends 57 (27, L, .int x1 :: .ref x0 :: st, (N, S, H)) o := ec_v2 q57_27 (Or.inl rfl) h4 hu rfl h1 h2
theorem q57_30 : pj_row 57 30 = some (.ifCond .ne 5, 3, 35, 0, 0) := by decide +kernel
theorem s57_30 {L : pj_Loc} {st : List Value} {M : pj_Mem} {x : Int32} : pj_step 57 (30, L, .int x :: st, M) = some (if ¬ x = 0 then 35 else 33, L, st, M) := st_if_ne q57_30
theorem x57_30 {L : pj_Loc} {st : List Value} {M : pj_Mem} {x : Int32} {o9 : Option Value × pj_Mem} : pj_Ends 57 (30, L, .int x :: st, M) o9 = pj_Ends 57 (if ¬ x = 0 then 35 else 33, L, st, M) o9 := pj_xs (s57_30)
theorem q57_33 : pj_row 57 33 = some (.iload_n 1, 1, 0, 0, 0) := by decide +kernel
theorem s57_33 {st : List Value} {M : pj_Mem} {l : pj_Loc} {a0 : Option Value} {x : Int32} : pj_step 57 (33, a0 :: some (.int x) :: l, st, M) = some (34, a0 :: some (.int x) :: l, .int x :: st, M) := st_iload_n q57_33 rfl
theorem x57_33 {st : List Value} {M : pj_Mem} {l : pj_Loc} {a0 : Option Value} {x : Int32} {o9 : Option Value × pj_Mem} : pj_Ends 57 (33, a0 :: some (.int x) :: l, st, M) o9 = pj_Ends 57 (34, a0 :: some (.int x) :: l, .int x :: st, M) o9 := pj_xs (s57_33)
theorem q57_34 : pj_row 57 34 = some (.ireturn, 1, 0, 0, 0) := by decide +kernel
theorem t57_34 {L : pj_Loc} {M : pj_Mem} {v : Int32} : pj_Ends 57 (34, L, [.int v], M) (some (.int v), M) := pj_Ends.ret q57_34 (pj_rtn_i rt57)
theorem q57_35 : pj_row 57 35 = some (.iinc 1 1, 3, 0, 0, 0) := by decide +kernel
theorem s57_35 {st : List Value} {M : pj_Mem} {l : pj_Loc} {a0 : Option Value} {x : Int32} (h : pj_long a0 = false) : pj_step 57 (35, a0 :: some (.int x) :: l, st, M) = some (38, a0 :: some (.int (x + 1)) :: l, st, M) := st_iinc q57_35 rfl (congrArg (fun y => x + y) (show Int32.ofInt 1 = 1 by decide +kernel)) (pj_st_1 h)
theorem x57_35 {st : List Value} {M : pj_Mem} {l : pj_Loc} {a0 : Option Value} {x : Int32} (h : pj_long a0 = false) {o9 : Option Value × pj_Mem} : pj_Ends 57 (35, a0 :: some (.int x) :: l, st, M) o9 = pj_Ends 57 (38, a0 :: some (.int (x + 1)) :: l, st, M) o9 := pj_xs (s57_35 h)
theorem q57_38 : pj_row 57 38 = some (.goto (-29), 3, 9, 0, 0) := by decide +kernel
theorem s57_38 {L : pj_Loc} {st : List Value} {M : pj_Mem}  : pj_step 57 (38, L, st, M) = some (9, L, st, M) := st_goto q57_38
theorem x57_38 {L : pj_Loc} {st : List Value} {M : pj_Mem}  {o9 : Option Value × pj_Mem} : pj_Ends 57 (38, L, st, M) o9 = pj_Ends 57 (9, L, st, M) o9 := pj_xs (s57_38)
theorem q57_41 : pj_row 57 41 = some (.aload_n 0, 1, 0, 0, 0) := by decide +kernel
theorem s57_41 {st : List Value} {M : pj_Mem} {l : pj_Loc} {x : Nat} : pj_step 57 (41, some (.ref x) :: l, st, M) = some (42, some (.ref x) :: l, .ref x :: st, M) := st_aload_n q57_41 rfl
theorem x57_41 {st : List Value} {M : pj_Mem} {l : pj_Loc} {x : Nat} {o9 : Option Value × pj_Mem} : pj_Ends 57 (41, some (.ref x) :: l, st, M) o9 = pj_Ends 57 (42, some (.ref x) :: l, .ref x :: st, M) o9 := pj_xs (s57_41)
theorem q57_42 : pj_row 57 42 = some (.getfield 18, 3, 0, 1, 0) := by decide +kernel
theorem s57_42 {L : pj_Loc} {st : List Value} {N S : Nat} {H : pj_Heap} {o : Nat} : pj_step 57 (42, L, .ref o :: st, (N, S, H)) = pj_pv 45 L st (N, S, H) (pj_fld (H o) 0 1) := st_getfield q57_42
theorem x57_42 {L : pj_Loc} {st : List Value} {N S : Nat} {H : pj_Heap} {o : Nat} {o9 : Option Value × pj_Mem} : pj_Ends 57 (42, L, .ref o :: st, (N, S, H)) o9 = pj_then 57 o9 (pj_pv 45 L st (N, S, H) (pj_fld (H o) 0 1)) := pj_xt q57_42 rfl (pj_cl_nc rfl) (s57_42)
theorem q57_45 : pj_row 57 45 = some (.invokevirtual 33, 3, 66, 1, 0) := by decide +kernel
theorem e57_45 {L : pj_Loc} {st : List Value} {N S : Nat} {H : pj_Heap} {o : Option Value × pj_Mem} {M' : pj_Mem} {x0 : Nat} {r : Int32} (h4 : pj_le4 st = true) (hu : pj_isU 1 (H x0) = true) (h1 : pj_Ends 66 (0, [some (.ref x0)], [], (N, S, H)) (some (.int r), M')) (h2 : pj_Ends 57 (48, L, .int r :: st, M') o) : pj_Ends 57 (45, L, .ref x0 :: st, (N, S, H)) o := ec_v1 q57_45 (Or.inl rfl) h4 hu rfl h1 h2
theorem q57_48 : pj_row 57 48 = some (.ifCond .eq 8, 3, 56, 0, 0) := by decide +kernel
theorem s57_48 {L : pj_Loc} {st : List Value} {M : pj_Mem} {x : Int32} : pj_step 57 (48, L, .int x :: st, M) = some (if x = 0 then 56 else 51, L, st, M) := st_if_eq q57_48
theorem x57_48 {L : pj_Loc} {st : List Value} {M : pj_Mem} {x : Int32} {o9 : Option Value × pj_Mem} : pj_Ends 57 (48, L, .int x :: st, M) o9 = pj_Ends 57 (if x = 0 then 56 else 51, L, st, M) o9 := pj_xs (s57_48)
theorem q57_51 : pj_row 57 51 = some (.bipush (-6), 2, 0, 0, 0) := by decide +kernel
theorem s57_51 {L : pj_Loc} {st : List Value} {M : pj_Mem}  : pj_step 57 (51, L, st, M) = some (53, L, .int (-6) :: st, M) := st_bipush q57_51 (by decide +kernel)
theorem x57_51 {L : pj_Loc} {st : List Value} {M : pj_Mem}  {o9 : Option Value × pj_Mem} : pj_Ends 57 (51, L, st, M) o9 = pj_Ends 57 (53, L, .int (-6) :: st, M) o9 := pj_xs (s57_51)
theorem q57_53 : pj_row 57 53 = some (.goto 7, 3, 60, 0, 0) := by decide +kernel
theorem s57_53 {L : pj_Loc} {st : List Value} {M : pj_Mem}  : pj_step 57 (53, L, st, M) = some (60, L, st, M) := st_goto q57_53
theorem x57_53 {L : pj_Loc} {st : List Value} {M : pj_Mem}  {o9 : Option Value × pj_Mem} : pj_Ends 57 (53, L, st, M) o9 = pj_Ends 57 (60, L, st, M) o9 := pj_xs (s57_53)
theorem q57_56 : pj_row 57 56 = some (.aload_n 0, 1, 0, 0, 0) := by decide +kernel
theorem s57_56 {st : List Value} {M : pj_Mem} {l : pj_Loc} {x : Nat} : pj_step 57 (56, some (.ref x) :: l, st, M) = some (57, some (.ref x) :: l, .ref x :: st, M) := st_aload_n q57_56 rfl
theorem x57_56 {st : List Value} {M : pj_Mem} {l : pj_Loc} {x : Nat} {o9 : Option Value × pj_Mem} : pj_Ends 57 (56, some (.ref x) :: l, st, M) o9 = pj_Ends 57 (57, some (.ref x) :: l, .ref x :: st, M) o9 := pj_xs (s57_56)
theorem q57_57 : pj_row 57 57 = some (.getfield 22, 3, 0, 2, 0) := by decide +kernel
theorem s57_57 {L : pj_Loc} {st : List Value} {N S : Nat} {H : pj_Heap} {o : Nat} : pj_step 57 (57, L, .ref o :: st, (N, S, H)) = pj_pv 60 L st (N, S, H) (pj_fld (H o) 0 2) := st_getfield q57_57
theorem x57_57 {L : pj_Loc} {st : List Value} {N S : Nat} {H : pj_Heap} {o : Nat} {o9 : Option Value × pj_Mem} : pj_Ends 57 (57, L, .ref o :: st, (N, S, H)) o9 = pj_then 57 o9 (pj_pv 60 L st (N, S, H) (pj_fld (H o) 0 2)) := pj_xt q57_57 rfl (pj_cl_nc rfl) (s57_57)
theorem q57_60 : pj_row 57 60 = some (.ireturn, 1, 0, 0, 0) := by decide +kernel
theorem t57_60 {L : pj_Loc} {M : pj_Mem} {v : Int32} : pj_Ends 57 (60, L, [.int v], M) (some (.int v), M) := pj_Ends.ret q57_60 (pj_rtn_i rt57)
theorem rt58 : pj_rt 58 = none := rfl
theorem q58_0 : pj_row 58 0 = some (.aload_n 0, 1, 0, 0, 0) := by decide +kernel
theorem s58_0 {st : List Value} {M : pj_Mem} {l : pj_Loc} {x : Nat} : pj_step 58 (0, some (.ref x) :: l, st, M) = some (1, some (.ref x) :: l, .ref x :: st, M) := st_aload_n q58_0 rfl
theorem x58_0 {st : List Value} {M : pj_Mem} {l : pj_Loc} {x : Nat} {o9 : Option Value × pj_Mem} : pj_Ends 58 (0, some (.ref x) :: l, st, M) o9 = pj_Ends 58 (1, some (.ref x) :: l, .ref x :: st, M) o9 := pj_xs (s58_0)
theorem q58_1 : pj_row 58 1 = some (.iconst 0, 1, 0, 0, 0) := by decide +kernel
theorem s58_1 {L : pj_Loc} {st : List Value} {M : pj_Mem}  : pj_step 58 (1, L, st, M) = some (2, L, .int 0 :: st, M) := st_iconst q58_1 (by decide +kernel)
theorem x58_1 {L : pj_Loc} {st : List Value} {M : pj_Mem}  {o9 : Option Value × pj_Mem} : pj_Ends 58 (1, L, st, M) o9 = pj_Ends 58 (2, L, .int 0 :: st, M) o9 := pj_xs (s58_1)
theorem q58_2 : pj_row 58 2 = some (.putfield 15, 3, 1, 2, 0) := by decide +kernel
theorem s58_2 {L : pj_Loc} {st : List Value} {N S : Nat} {H : pj_Heap} {o : Nat} {v : Value} : pj_step 58 (2, L, v :: .ref o :: st, (N, S, H)) = pj_set 5 L st (N, S, H) o (pj_fset (H o) 1 2 v) := st_putfield q58_2
theorem x58_2 {L : pj_Loc} {st : List Value} {N S : Nat} {H : pj_Heap} {o : Nat} {v : Value} {o9 : Option Value × pj_Mem} : pj_Ends 58 (2, L, v :: .ref o :: st, (N, S, H)) o9 = pj_then 58 o9 (pj_set 5 L st (N, S, H) o (pj_fset (H o) 1 2 v)) := pj_xt q58_2 rfl (pj_cl_nc rfl) (s58_2)
theorem q58_5 : pj_row 58 5 = some (.aload_n 0, 1, 0, 0, 0) := by decide +kernel
theorem s58_5 {st : List Value} {M : pj_Mem} {l : pj_Loc} {x : Nat} : pj_step 58 (5, some (.ref x) :: l, st, M) = some (6, some (.ref x) :: l, .ref x :: st, M) := st_aload_n q58_5 rfl
theorem x58_5 {st : List Value} {M : pj_Mem} {l : pj_Loc} {x : Nat} {o9 : Option Value × pj_Mem} : pj_Ends 58 (5, some (.ref x) :: l, st, M) o9 = pj_Ends 58 (6, some (.ref x) :: l, .ref x :: st, M) o9 := pj_xs (s58_5)
theorem q58_6 : pj_row 58 6 = some (.invokevirtual 19, 3, 59, 1, 0) := by decide +kernel
theorem e58_6 {L : pj_Loc} {st : List Value} {N S : Nat} {H : pj_Heap} {o : Option Value × pj_Mem} {M' : pj_Mem} {x0 : Nat} (h4 : pj_le4 st = true) (hu : pj_isU 1 (H x0) = true) (h1 : pj_Ends 59 (0, [some (.ref x0)], [], (N, S, H)) (none, M')) (h2 : pj_Ends 58 (9, L, st, M') o) : pj_Ends 58 (6, L, .ref x0 :: st, (N, S, H)) o := ec_v1 q58_6 (Or.inl rfl) h4 hu rfl h1 h2
theorem q58_9 : pj_row 58 9 = some (.return_, 1, 0, 0, 0) := by decide +kernel
theorem t58_9 {L : pj_Loc} {M : pj_Mem} : pj_Ends 58 (9, L, [], M) (none, M) := pj_Ends.ret q58_9 (pj_rtn_v rt58)
theorem rt59 : pj_rt 59 = none := rfl
theorem q59_0 : pj_row 59 0 = some (.aload_n 0, 1, 0, 0, 0) := by decide +kernel
theorem s59_0 {st : List Value} {M : pj_Mem} {l : pj_Loc} {x : Nat} : pj_step 59 (0, some (.ref x) :: l, st, M) = some (1, some (.ref x) :: l, .ref x :: st, M) := st_aload_n q59_0 rfl
theorem x59_0 {st : List Value} {M : pj_Mem} {l : pj_Loc} {x : Nat} {o9 : Option Value × pj_Mem} : pj_Ends 59 (0, some (.ref x) :: l, st, M) o9 = pj_Ends 59 (1, some (.ref x) :: l, .ref x :: st, M) o9 := pj_xs (s59_0)
theorem q59_1 : pj_row 59 1 = some (.dup, 1, 0, 0, 0) := by decide +kernel
theorem s59_1 {L : pj_Loc} {st : List Value} {M : pj_Mem} {x : Nat} : pj_step 59 (1, L, .ref x :: st, M) = some (2, L, .ref x :: .ref x :: st, M) := st_dup_ref q59_1
theorem x59_1 {L : pj_Loc} {st : List Value} {M : pj_Mem} {x : Nat} {o9 : Option Value × pj_Mem} : pj_Ends 59 (1, L, .ref x :: st, M) o9 = pj_Ends 59 (2, L, .ref x :: .ref x :: st, M) o9 := pj_xs (s59_1)
theorem s59_1i {L : pj_Loc} {st : List Value} {M : pj_Mem} {x : Int32} : pj_step 59 (1, L, .int x :: st, M) = some (2, L, .int x :: .int x :: st, M) := st_dup_int q59_1
theorem x59_1i {L : pj_Loc} {st : List Value} {M : pj_Mem} {x : Int32} {o9 : Option Value × pj_Mem} : pj_Ends 59 (1, L, .int x :: st, M) o9 = pj_Ends 59 (2, L, .int x :: .int x :: st, M) o9 := pj_xs (s59_1i)
theorem q59_2 : pj_row 59 2 = some (.getfield 15, 3, 1, 2, 0) := by decide +kernel
theorem s59_2 {L : pj_Loc} {st : List Value} {N S : Nat} {H : pj_Heap} {o : Nat} : pj_step 59 (2, L, .ref o :: st, (N, S, H)) = pj_pv 5 L st (N, S, H) (pj_fld (H o) 1 2) := st_getfield q59_2
theorem x59_2 {L : pj_Loc} {st : List Value} {N S : Nat} {H : pj_Heap} {o : Nat} {o9 : Option Value × pj_Mem} : pj_Ends 59 (2, L, .ref o :: st, (N, S, H)) o9 = pj_then 59 o9 (pj_pv 5 L st (N, S, H) (pj_fld (H o) 1 2)) := pj_xt q59_2 rfl (pj_cl_nc rfl) (s59_2)
theorem q59_5 : pj_row 59 5 = some (.iconst 1, 1, 0, 0, 0) := by decide +kernel
theorem s59_5 {L : pj_Loc} {st : List Value} {M : pj_Mem}  : pj_step 59 (5, L, st, M) = some (6, L, .int 1 :: st, M) := st_iconst q59_5 (by decide +kernel)
theorem x59_5 {L : pj_Loc} {st : List Value} {M : pj_Mem}  {o9 : Option Value × pj_Mem} : pj_Ends 59 (5, L, st, M) o9 = pj_Ends 59 (6, L, .int 1 :: st, M) o9 := pj_xs (s59_5)
theorem q59_6 : pj_row 59 6 = some (.iadd, 1, 0, 0, 0) := by decide +kernel
theorem s59_6 {L : pj_Loc} {st : List Value} {M : pj_Mem} {x y : Int32} : pj_step 59 (6, L, .int y :: .int x :: st, M) = some (7, L, .int (x + y) :: st, M) := st_iadd q59_6
theorem x59_6 {L : pj_Loc} {st : List Value} {M : pj_Mem} {x y : Int32} {o9 : Option Value × pj_Mem} : pj_Ends 59 (6, L, .int y :: .int x :: st, M) o9 = pj_Ends 59 (7, L, .int (x + y) :: st, M) o9 := pj_xs (s59_6)
theorem q59_7 : pj_row 59 7 = some (.putfield 15, 3, 1, 2, 0) := by decide +kernel
theorem s59_7 {L : pj_Loc} {st : List Value} {N S : Nat} {H : pj_Heap} {o : Nat} {v : Value} : pj_step 59 (7, L, v :: .ref o :: st, (N, S, H)) = pj_set 10 L st (N, S, H) o (pj_fset (H o) 1 2 v) := st_putfield q59_7
theorem x59_7 {L : pj_Loc} {st : List Value} {N S : Nat} {H : pj_Heap} {o : Nat} {v : Value} {o9 : Option Value × pj_Mem} : pj_Ends 59 (7, L, v :: .ref o :: st, (N, S, H)) o9 = pj_then 59 o9 (pj_set 10 L st (N, S, H) o (pj_fset (H o) 1 2 v)) := pj_xt q59_7 rfl (pj_cl_nc rfl) (s59_7)
theorem q59_10 : pj_row 59 10 = some (.aload_n 0, 1, 0, 0, 0) := by decide +kernel
theorem s59_10 {st : List Value} {M : pj_Mem} {l : pj_Loc} {x : Nat} : pj_step 59 (10, some (.ref x) :: l, st, M) = some (11, some (.ref x) :: l, .ref x :: st, M) := st_aload_n q59_10 rfl
theorem x59_10 {st : List Value} {M : pj_Mem} {l : pj_Loc} {x : Nat} {o9 : Option Value × pj_Mem} : pj_Ends 59 (10, some (.ref x) :: l, st, M) o9 = pj_Ends 59 (11, some (.ref x) :: l, .ref x :: st, M) o9 := pj_xs (s59_10)
theorem q59_11 : pj_row 59 11 = some (.iconst 0, 1, 0, 0, 0) := by decide +kernel
theorem s59_11 {L : pj_Loc} {st : List Value} {M : pj_Mem}  : pj_step 59 (11, L, st, M) = some (12, L, .int 0 :: st, M) := st_iconst q59_11 (by decide +kernel)
theorem x59_11 {L : pj_Loc} {st : List Value} {M : pj_Mem}  {o9 : Option Value × pj_Mem} : pj_Ends 59 (11, L, st, M) o9 = pj_Ends 59 (12, L, .int 0 :: st, M) o9 := pj_xs (s59_11)
theorem q59_12 : pj_row 59 12 = some (.putfield 22, 3, 1, 1, 0) := by decide +kernel
theorem s59_12 {L : pj_Loc} {st : List Value} {N S : Nat} {H : pj_Heap} {o : Nat} {v : Value} : pj_step 59 (12, L, v :: .ref o :: st, (N, S, H)) = pj_set 15 L st (N, S, H) o (pj_fset (H o) 1 1 v) := st_putfield q59_12
theorem x59_12 {L : pj_Loc} {st : List Value} {N S : Nat} {H : pj_Heap} {o : Nat} {v : Value} {o9 : Option Value × pj_Mem} : pj_Ends 59 (12, L, v :: .ref o :: st, (N, S, H)) o9 = pj_then 59 o9 (pj_set 15 L st (N, S, H) o (pj_fset (H o) 1 1 v)) := pj_xt q59_12 rfl (pj_cl_nc rfl) (s59_12)
theorem q59_15 : pj_row 59 15 = some (.aload_n 0, 1, 0, 0, 0) := by decide +kernel
theorem s59_15 {st : List Value} {M : pj_Mem} {l : pj_Loc} {x : Nat} : pj_step 59 (15, some (.ref x) :: l, st, M) = some (16, some (.ref x) :: l, .ref x :: st, M) := st_aload_n q59_15 rfl
theorem x59_15 {st : List Value} {M : pj_Mem} {l : pj_Loc} {x : Nat} {o9 : Option Value × pj_Mem} : pj_Ends 59 (15, some (.ref x) :: l, st, M) o9 = pj_Ends 59 (16, some (.ref x) :: l, .ref x :: st, M) o9 := pj_xs (s59_15)
theorem q59_16 : pj_row 59 16 = some (.iconst 0, 1, 0, 0, 0) := by decide +kernel
theorem s59_16 {L : pj_Loc} {st : List Value} {M : pj_Mem}  : pj_step 59 (16, L, st, M) = some (17, L, .int 0 :: st, M) := st_iconst q59_16 (by decide +kernel)
theorem x59_16 {L : pj_Loc} {st : List Value} {M : pj_Mem}  {o9 : Option Value × pj_Mem} : pj_Ends 59 (16, L, st, M) o9 = pj_Ends 59 (17, L, .int 0 :: st, M) o9 := pj_xs (s59_16)
theorem q59_17 : pj_row 59 17 = some (.putfield 26, 3, 1, 3, 0) := by decide +kernel
theorem s59_17 {L : pj_Loc} {st : List Value} {N S : Nat} {H : pj_Heap} {o : Nat} {v : Value} : pj_step 59 (17, L, v :: .ref o :: st, (N, S, H)) = pj_set 20 L st (N, S, H) o (pj_fset (H o) 1 3 v) := st_putfield q59_17
theorem x59_17 {L : pj_Loc} {st : List Value} {N S : Nat} {H : pj_Heap} {o : Nat} {v : Value} {o9 : Option Value × pj_Mem} : pj_Ends 59 (17, L, v :: .ref o :: st, (N, S, H)) o9 = pj_then 59 o9 (pj_set 20 L st (N, S, H) o (pj_fset (H o) 1 3 v)) := pj_xt q59_17 rfl (pj_cl_nc rfl) (s59_17)
theorem q59_20 : pj_row 59 20 = some (.aload_n 0, 1, 0, 0, 0) := by decide +kernel
theorem s59_20 {st : List Value} {M : pj_Mem} {l : pj_Loc} {x : Nat} : pj_step 59 (20, some (.ref x) :: l, st, M) = some (21, some (.ref x) :: l, .ref x :: st, M) := st_aload_n q59_20 rfl
theorem x59_20 {st : List Value} {M : pj_Mem} {l : pj_Loc} {x : Nat} {o9 : Option Value × pj_Mem} : pj_Ends 59 (20, some (.ref x) :: l, st, M) o9 = pj_Ends 59 (21, some (.ref x) :: l, .ref x :: st, M) o9 := pj_xs (s59_20)
theorem q59_21 : pj_row 59 21 = some (.invokevirtual 29, 3, 60, 1, 0) := by decide +kernel
theorem e59_21 {L : pj_Loc} {st : List Value} {N S : Nat} {H : pj_Heap} {o : Option Value × pj_Mem} {M' : pj_Mem} {x0 : Nat} (h4 : pj_le4 st = true) (hu : pj_isU 1 (H x0) = true) (h1 : pj_Ends 60 (0, [some (.ref x0)], [], (N, S, H)) (none, M')) (h2 : pj_Ends 59 (24, L, st, M') o) : pj_Ends 59 (21, L, .ref x0 :: st, (N, S, H)) o := ec_v1 q59_21 (Or.inl rfl) h4 hu rfl h1 h2
theorem q59_24 : pj_row 59 24 = some (.return_, 1, 0, 0, 0) := by decide +kernel
theorem t59_24 {L : pj_Loc} {M : pj_Mem} : pj_Ends 59 (24, L, [], M) (none, M) := pj_Ends.ret q59_24 (pj_rtn_v rt59)
theorem rt60 : pj_rt 60 = none := rfl
theorem q60_0 : pj_row 60 0 = some (.aload_n 0, 1, 0, 0, 0) := by decide +kernel
theorem s60_0 {st : List Value} {M : pj_Mem} {l : pj_Loc} {x : Nat} : pj_step 60 (0, some (.ref x) :: l, st, M) = some (1, some (.ref x) :: l, .ref x :: st, M) := st_aload_n q60_0 rfl
theorem x60_0 {st : List Value} {M : pj_Mem} {l : pj_Loc} {x : Nat} {o9 : Option Value × pj_Mem} : pj_Ends 60 (0, some (.ref x) :: l, st, M) o9 = pj_Ends 60 (1, some (.ref x) :: l, .ref x :: st, M) o9 := pj_xs (s60_0)
theorem q60_1 : pj_row 60 1 = some (.iconst 0, 1, 0, 0, 0) := by decide +kernel
theorem s60_1 {L : pj_Loc} {st : List Value} {M : pj_Mem}  : pj_step 60 (1, L, st, M) = some (2, L, .int 0 :: st, M) := st_iconst q60_1 (by decide +kernel)
theorem x60_1 {L : pj_Loc} {st : List Value} {M : pj_Mem}  {o9 : Option Value × pj_Mem} : pj_Ends 60 (1, L, st, M) o9 = pj_Ends 60 (2, L, .int 0 :: st, M) o9 := pj_xs (s60_1)
theorem q60_2 : pj_row 60 2 = some (.putfield 32, 3, 1, 4, 0) := by decide +kernel
theorem s60_2 {L : pj_Loc} {st : List Value} {N S : Nat} {H : pj_Heap} {o : Nat} {v : Value} : pj_step 60 (2, L, v :: .ref o :: st, (N, S, H)) = pj_set 5 L st (N, S, H) o (pj_fset (H o) 1 4 v) := st_putfield q60_2
theorem x60_2 {L : pj_Loc} {st : List Value} {N S : Nat} {H : pj_Heap} {o : Nat} {v : Value} {o9 : Option Value × pj_Mem} : pj_Ends 60 (2, L, v :: .ref o :: st, (N, S, H)) o9 = pj_then 60 o9 (pj_set 5 L st (N, S, H) o (pj_fset (H o) 1 4 v)) := pj_xt q60_2 rfl (pj_cl_nc rfl) (s60_2)
theorem q60_5 : pj_row 60 5 = some (.aload_n 0, 1, 0, 0, 0) := by decide +kernel
theorem s60_5 {st : List Value} {M : pj_Mem} {l : pj_Loc} {x : Nat} : pj_step 60 (5, some (.ref x) :: l, st, M) = some (6, some (.ref x) :: l, .ref x :: st, M) := st_aload_n q60_5 rfl
theorem x60_5 {st : List Value} {M : pj_Mem} {l : pj_Loc} {x : Nat} {o9 : Option Value × pj_Mem} : pj_Ends 60 (5, some (.ref x) :: l, st, M) o9 = pj_Ends 60 (6, some (.ref x) :: l, .ref x :: st, M) o9 := pj_xs (s60_5)
theorem q60_6 : pj_row 60 6 = some (.iconst (-1), 1, 0, 0, 0) := by decide +kernel
theorem s60_6 {L : pj_Loc} {st : List Value} {M : pj_Mem}  : pj_step 60 (6, L, st, M) = some (7, L, .int (-1) :: st, M) := st_iconst q60_6 (by decide +kernel)
theorem x60_6 {L : pj_Loc} {st : List Value} {M : pj_Mem}  {o9 : Option Value × pj_Mem} : pj_Ends 60 (6, L, st, M) o9 = pj_Ends 60 (7, L, .int (-1) :: st, M) o9 := pj_xs (s60_6)
theorem q60_7 : pj_row 60 7 = some (.putfield 35, 3, 1, 5, 0) := by decide +kernel
theorem s60_7 {L : pj_Loc} {st : List Value} {N S : Nat} {H : pj_Heap} {o : Nat} {v : Value} : pj_step 60 (7, L, v :: .ref o :: st, (N, S, H)) = pj_set 10 L st (N, S, H) o (pj_fset (H o) 1 5 v) := st_putfield q60_7
theorem x60_7 {L : pj_Loc} {st : List Value} {N S : Nat} {H : pj_Heap} {o : Nat} {v : Value} {o9 : Option Value × pj_Mem} : pj_Ends 60 (7, L, v :: .ref o :: st, (N, S, H)) o9 = pj_then 60 o9 (pj_set 10 L st (N, S, H) o (pj_fset (H o) 1 5 v)) := pj_xt q60_7 rfl (pj_cl_nc rfl) (s60_7)
theorem q60_10 : pj_row 60 10 = some (.return_, 1, 0, 0, 0) := by decide +kernel
theorem t60_10 {L : pj_Loc} {M : pj_Mem} : pj_Ends 60 (10, L, [], M) (none, M) := pj_Ends.ret q60_10 (pj_rtn_v rt60)
theorem rt61 : pj_rt 61 = some .boolean := rfl
theorem q61_0 : pj_row 61 0 = some (.iload_n 1, 1, 0, 0, 0) := by decide +kernel
theorem s61_0 {st : List Value} {M : pj_Mem} {l : pj_Loc} {a0 : Option Value} {x : Int32} : pj_step 61 (0, a0 :: some (.int x) :: l, st, M) = some (1, a0 :: some (.int x) :: l, .int x :: st, M) := st_iload_n q61_0 rfl
theorem x61_0 {st : List Value} {M : pj_Mem} {l : pj_Loc} {a0 : Option Value} {x : Int32} {o9 : Option Value × pj_Mem} : pj_Ends 61 (0, a0 :: some (.int x) :: l, st, M) o9 = pj_Ends 61 (1, a0 :: some (.int x) :: l, .int x :: st, M) o9 := pj_xs (s61_0)
theorem q61_1 : pj_row 61 1 = some (.bipush 48, 2, 0, 0, 0) := by decide +kernel
theorem s61_1 {L : pj_Loc} {st : List Value} {M : pj_Mem}  : pj_step 61 (1, L, st, M) = some (3, L, .int 48 :: st, M) := st_bipush q61_1 (by decide +kernel)
theorem x61_1 {L : pj_Loc} {st : List Value} {M : pj_Mem}  {o9 : Option Value × pj_Mem} : pj_Ends 61 (1, L, st, M) o9 = pj_Ends 61 (3, L, .int 48 :: st, M) o9 := pj_xs (s61_1)
theorem q61_3 : pj_row 61 3 = some (.if_icmp .lt 18, 3, 21, 0, 0) := by decide +kernel
theorem s61_3 {L : pj_Loc} {st : List Value} {M : pj_Mem} {x y : Int32} : pj_step 61 (3, L, .int y :: .int x :: st, M) = some (if x < y then 21 else 6, L, st, M) := st_icmp_lt q61_3
theorem x61_3 {L : pj_Loc} {st : List Value} {M : pj_Mem} {x y : Int32} {o9 : Option Value × pj_Mem} : pj_Ends 61 (3, L, .int y :: .int x :: st, M) o9 = pj_Ends 61 (if x < y then 21 else 6, L, st, M) o9 := pj_xs (s61_3)
theorem q61_6 : pj_row 61 6 = some (.iload_n 1, 1, 0, 0, 0) := by decide +kernel
theorem s61_6 {st : List Value} {M : pj_Mem} {l : pj_Loc} {a0 : Option Value} {x : Int32} : pj_step 61 (6, a0 :: some (.int x) :: l, st, M) = some (7, a0 :: some (.int x) :: l, .int x :: st, M) := st_iload_n q61_6 rfl
theorem x61_6 {st : List Value} {M : pj_Mem} {l : pj_Loc} {a0 : Option Value} {x : Int32} {o9 : Option Value × pj_Mem} : pj_Ends 61 (6, a0 :: some (.int x) :: l, st, M) o9 = pj_Ends 61 (7, a0 :: some (.int x) :: l, .int x :: st, M) o9 := pj_xs (s61_6)
theorem q61_7 : pj_row 61 7 = some (.bipush 57, 2, 0, 0, 0) := by decide +kernel
theorem s61_7 {L : pj_Loc} {st : List Value} {M : pj_Mem}  : pj_step 61 (7, L, st, M) = some (9, L, .int 57 :: st, M) := st_bipush q61_7 (by decide +kernel)
theorem x61_7 {L : pj_Loc} {st : List Value} {M : pj_Mem}  {o9 : Option Value × pj_Mem} : pj_Ends 61 (7, L, st, M) o9 = pj_Ends 61 (9, L, .int 57 :: st, M) o9 := pj_xs (s61_7)
theorem q61_9 : pj_row 61 9 = some (.if_icmp .gt 12, 3, 21, 0, 0) := by decide +kernel
theorem s61_9 {L : pj_Loc} {st : List Value} {M : pj_Mem} {x y : Int32} : pj_step 61 (9, L, .int y :: .int x :: st, M) = some (if y < x then 21 else 12, L, st, M) := st_icmp_gt q61_9
theorem x61_9 {L : pj_Loc} {st : List Value} {M : pj_Mem} {x y : Int32} {o9 : Option Value × pj_Mem} : pj_Ends 61 (9, L, .int y :: .int x :: st, M) o9 = pj_Ends 61 (if y < x then 21 else 12, L, st, M) o9 := pj_xs (s61_9)
theorem q61_12 : pj_row 61 12 = some (.aload_n 0, 1, 0, 0, 0) := by decide +kernel
theorem s61_12 {st : List Value} {M : pj_Mem} {l : pj_Loc} {x : Nat} : pj_step 61 (12, some (.ref x) :: l, st, M) = some (13, some (.ref x) :: l, .ref x :: st, M) := st_aload_n q61_12 rfl
theorem x61_12 {st : List Value} {M : pj_Mem} {l : pj_Loc} {x : Nat} {o9 : Option Value × pj_Mem} : pj_Ends 61 (12, some (.ref x) :: l, st, M) o9 = pj_Ends 61 (13, some (.ref x) :: l, .ref x :: st, M) o9 := pj_xs (s61_12)
theorem q61_13 : pj_row 61 13 = some (.iload_n 1, 1, 0, 0, 0) := by decide +kernel
theorem s61_13 {st : List Value} {M : pj_Mem} {l : pj_Loc} {a0 : Option Value} {x : Int32} : pj_step 61 (13, a0 :: some (.int x) :: l, st, M) = some (14, a0 :: some (.int x) :: l, .int x :: st, M) := st_iload_n q61_13 rfl
theorem x61_13 {st : List Value} {M : pj_Mem} {l : pj_Loc} {a0 : Option Value} {x : Int32} {o9 : Option Value × pj_Mem} : pj_Ends 61 (13, a0 :: some (.int x) :: l, st, M) o9 = pj_Ends 61 (14, a0 :: some (.int x) :: l, .int x :: st, M) o9 := pj_xs (s61_13)
theorem q61_14 : pj_row 61 14 = some (.bipush 48, 2, 0, 0, 0) := by decide +kernel
theorem s61_14 {L : pj_Loc} {st : List Value} {M : pj_Mem}  : pj_step 61 (14, L, st, M) = some (16, L, .int 48 :: st, M) := st_bipush q61_14 (by decide +kernel)
theorem x61_14 {L : pj_Loc} {st : List Value} {M : pj_Mem}  {o9 : Option Value × pj_Mem} : pj_Ends 61 (14, L, st, M) o9 = pj_Ends 61 (16, L, .int 48 :: st, M) o9 := pj_xs (s61_14)
theorem q61_16 : pj_row 61 16 = some (.isub, 1, 0, 0, 0) := by decide +kernel
theorem s61_16 {L : pj_Loc} {st : List Value} {M : pj_Mem} {x y : Int32} : pj_step 61 (16, L, .int y :: .int x :: st, M) = some (17, L, .int (x - y) :: st, M) := st_isub q61_16
theorem x61_16 {L : pj_Loc} {st : List Value} {M : pj_Mem} {x y : Int32} {o9 : Option Value × pj_Mem} : pj_Ends 61 (16, L, .int y :: .int x :: st, M) o9 = pj_Ends 61 (17, L, .int (x - y) :: st, M) o9 := pj_xs (s61_16)
theorem q61_17 : pj_row 61 17 = some (.invokevirtual 38, 3, 62, 2, 0) := by decide +kernel
theorem e61_17 {L : pj_Loc} {st : List Value} {N S : Nat} {H : pj_Heap} {o : Option Value × pj_Mem} {M' : pj_Mem} {x0 : Nat} {x1 : Int32} {r : Int32} (h4 : pj_le4 st = true) (hu : pj_isU 1 (H x0) = true) (h1 : pj_Ends 62 (0, [some (.ref x0), some (.int x1), none], [], (N, S, H)) (some (.int r), M')) (h2 : pj_Ends 61 (20, L, .int r :: st, M') o) : pj_Ends 61 (17, L, .int x1 :: .ref x0 :: st, (N, S, H)) o := ec_v2 q61_17 (Or.inl rfl) h4 hu rfl h1 h2
theorem q61_20 : pj_row 61 20 = some (.ireturn, 1, 0, 0, 0) := by decide +kernel
theorem t61_20 {L : pj_Loc} {M : pj_Mem} {v : Int32} (hv : v = 0 ∨ v = 1) : pj_Ends 61 (20, L, [.int v], M) (some (.int v), M) := pj_Ends.ret q61_20 (pj_rtn_z rt61 hv)
theorem q61_21 : pj_row 61 21 = some (.iload_n 1, 1, 0, 0, 0) := by decide +kernel
theorem s61_21 {st : List Value} {M : pj_Mem} {l : pj_Loc} {a0 : Option Value} {x : Int32} : pj_step 61 (21, a0 :: some (.int x) :: l, st, M) = some (22, a0 :: some (.int x) :: l, .int x :: st, M) := st_iload_n q61_21 rfl
theorem x61_21 {st : List Value} {M : pj_Mem} {l : pj_Loc} {a0 : Option Value} {x : Int32} {o9 : Option Value × pj_Mem} : pj_Ends 61 (21, a0 :: some (.int x) :: l, st, M) o9 = pj_Ends 61 (22, a0 :: some (.int x) :: l, .int x :: st, M) o9 := pj_xs (s61_21)
theorem q61_22 : pj_row 61 22 = some (.lookupswitch 62 #[(44, 47), (45, 42), (59, 57), (99, 52)], 42, 0, 0, 0) := by decide +kernel
theorem s61_22 {L : pj_Loc} {st : List Value} {M : pj_Mem} {x : Int32} : pj_step 61 (22, L, .int x :: st, M) = some (if x = 44 then 69 else if x = 45 then 64 else if x = 59 then 79 else if x = 99 then 74 else 84, L, st, M) := by
  rw [st_lsw q61_22]
  unfold pj_lsw
  by_cases h44 : x = 44
  · subst h44; rfl
  by_cases h45 : x = 45
  · subst h45; rfl
  by_cases h59 : x = 59
  · subst h59; rfl
  by_cases h99 : x = 99
  · subst h99; rfl
  rw [if_neg h44, if_neg h45, if_neg h59, if_neg h99]
  simp only
  rw [lv_osw h44 (by decide), lv_osw h45 (by decide), lv_osw h59 (by decide), lv_osw h99 (by decide)]
  rfl
theorem x61_22 {L : pj_Loc} {st : List Value} {M : pj_Mem} {x : Int32} {o9 : Option Value × pj_Mem} : pj_Ends 61 (22, L, .int x :: st, M) o9 = pj_Ends 61 (if x = 44 then 69 else if x = 45 then 64 else if x = 59 then 79 else if x = 99 then 74 else 84, L, st, M) o9 := pj_xs (s61_22)
theorem q61_64 : pj_row 61 64 = some (.aload_n 0, 1, 0, 0, 0) := by decide +kernel
theorem s61_64 {st : List Value} {M : pj_Mem} {l : pj_Loc} {x : Nat} : pj_step 61 (64, some (.ref x) :: l, st, M) = some (65, some (.ref x) :: l, .ref x :: st, M) := st_aload_n q61_64 rfl
theorem x61_64 {st : List Value} {M : pj_Mem} {l : pj_Loc} {x : Nat} {o9 : Option Value × pj_Mem} : pj_Ends 61 (64, some (.ref x) :: l, st, M) o9 = pj_Ends 61 (65, some (.ref x) :: l, .ref x :: st, M) o9 := pj_xs (s61_64)
theorem q61_65 : pj_row 61 65 = some (.invokevirtual 42, 3, 63, 1, 0) := by decide +kernel
theorem e61_65 {L : pj_Loc} {st : List Value} {N S : Nat} {H : pj_Heap} {o : Option Value × pj_Mem} {M' : pj_Mem} {x0 : Nat} {r : Int32} (h4 : pj_le4 st = true) (hu : pj_isU 1 (H x0) = true) (h1 : pj_Ends 63 (0, [some (.ref x0)], [], (N, S, H)) (some (.int r), M')) (h2 : pj_Ends 61 (68, L, .int r :: st, M') o) : pj_Ends 61 (65, L, .ref x0 :: st, (N, S, H)) o := ec_v1 q61_65 (Or.inl rfl) h4 hu rfl h1 h2
theorem q61_68 : pj_row 61 68 = some (.ireturn, 1, 0, 0, 0) := by decide +kernel
theorem t61_68 {L : pj_Loc} {M : pj_Mem} {v : Int32} (hv : v = 0 ∨ v = 1) : pj_Ends 61 (68, L, [.int v], M) (some (.int v), M) := pj_Ends.ret q61_68 (pj_rtn_z rt61 hv)
theorem q61_69 : pj_row 61 69 = some (.aload_n 0, 1, 0, 0, 0) := by decide +kernel
theorem s61_69 {st : List Value} {M : pj_Mem} {l : pj_Loc} {x : Nat} : pj_step 61 (69, some (.ref x) :: l, st, M) = some (70, some (.ref x) :: l, .ref x :: st, M) := st_aload_n q61_69 rfl
theorem x61_69 {st : List Value} {M : pj_Mem} {l : pj_Loc} {x : Nat} {o9 : Option Value × pj_Mem} : pj_Ends 61 (69, some (.ref x) :: l, st, M) o9 = pj_Ends 61 (70, some (.ref x) :: l, .ref x :: st, M) o9 := pj_xs (s61_69)
theorem q61_70 : pj_row 61 70 = some (.invokevirtual 46, 3, 64, 1, 0) := by decide +kernel
theorem e61_70 {L : pj_Loc} {st : List Value} {N S : Nat} {H : pj_Heap} {o : Option Value × pj_Mem} {M' : pj_Mem} {x0 : Nat} {r : Int32} (h4 : pj_le4 st = true) (hu : pj_isU 1 (H x0) = true) (h1 : pj_Ends 64 (0, [some (.ref x0)], [], (N, S, H)) (some (.int r), M')) (h2 : pj_Ends 61 (73, L, .int r :: st, M') o) : pj_Ends 61 (70, L, .ref x0 :: st, (N, S, H)) o := ec_v1 q61_70 (Or.inl rfl) h4 hu rfl h1 h2
theorem q61_73 : pj_row 61 73 = some (.ireturn, 1, 0, 0, 0) := by decide +kernel
theorem t61_73 {L : pj_Loc} {M : pj_Mem} {v : Int32} (hv : v = 0 ∨ v = 1) : pj_Ends 61 (73, L, [.int v], M) (some (.int v), M) := pj_Ends.ret q61_73 (pj_rtn_z rt61 hv)
theorem q61_74 : pj_row 61 74 = some (.aload_n 0, 1, 0, 0, 0) := by decide +kernel
theorem s61_74 {st : List Value} {M : pj_Mem} {l : pj_Loc} {x : Nat} : pj_step 61 (74, some (.ref x) :: l, st, M) = some (75, some (.ref x) :: l, .ref x :: st, M) := st_aload_n q61_74 rfl
theorem x61_74 {st : List Value} {M : pj_Mem} {l : pj_Loc} {x : Nat} {o9 : Option Value × pj_Mem} : pj_Ends 61 (74, some (.ref x) :: l, st, M) o9 = pj_Ends 61 (75, some (.ref x) :: l, .ref x :: st, M) o9 := pj_xs (s61_74)
theorem q61_75 : pj_row 61 75 = some (.invokevirtual 49, 3, 65, 1, 0) := by decide +kernel
theorem e61_75 {L : pj_Loc} {st : List Value} {N S : Nat} {H : pj_Heap} {o : Option Value × pj_Mem} {M' : pj_Mem} {x0 : Nat} {r : Int32} (h4 : pj_le4 st = true) (hu : pj_isU 1 (H x0) = true) (h1 : pj_Ends 65 (0, [some (.ref x0)], [], (N, S, H)) (some (.int r), M')) (h2 : pj_Ends 61 (78, L, .int r :: st, M') o) : pj_Ends 61 (75, L, .ref x0 :: st, (N, S, H)) o := ec_v1 q61_75 (Or.inl rfl) h4 hu rfl h1 h2
theorem q61_78 : pj_row 61 78 = some (.ireturn, 1, 0, 0, 0) := by decide +kernel
theorem t61_78 {L : pj_Loc} {M : pj_Mem} {v : Int32} (hv : v = 0 ∨ v = 1) : pj_Ends 61 (78, L, [.int v], M) (some (.int v), M) := pj_Ends.ret q61_78 (pj_rtn_z rt61 hv)
theorem q61_79 : pj_row 61 79 = some (.aload_n 0, 1, 0, 0, 0) := by decide +kernel
theorem s61_79 {st : List Value} {M : pj_Mem} {l : pj_Loc} {x : Nat} : pj_step 61 (79, some (.ref x) :: l, st, M) = some (80, some (.ref x) :: l, .ref x :: st, M) := st_aload_n q61_79 rfl
theorem x61_79 {st : List Value} {M : pj_Mem} {l : pj_Loc} {x : Nat} {o9 : Option Value × pj_Mem} : pj_Ends 61 (79, some (.ref x) :: l, st, M) o9 = pj_Ends 61 (80, some (.ref x) :: l, .ref x :: st, M) o9 := pj_xs (s61_79)
theorem q61_80 : pj_row 61 80 = some (.invokevirtual 52, 3, 67, 1, 0) := by decide +kernel
theorem e61_80 {L : pj_Loc} {st : List Value} {N S : Nat} {H : pj_Heap} {o : Option Value × pj_Mem} {M' : pj_Mem} {x0 : Nat} {r : Int32} (h4 : pj_le4 st = true) (hu : pj_isU 1 (H x0) = true) (h1 : pj_Ends 67 (0, [some (.ref x0)], [], (N, S, H)) (some (.int r), M')) (h2 : pj_Ends 61 (83, L, .int r :: st, M') o) : pj_Ends 61 (80, L, .ref x0 :: st, (N, S, H)) o := ec_v1 q61_80 (Or.inl rfl) h4 hu rfl h1 h2
theorem q61_83 : pj_row 61 83 = some (.ireturn, 1, 0, 0, 0) := by decide +kernel
theorem t61_83 {L : pj_Loc} {M : pj_Mem} {v : Int32} (hv : v = 0 ∨ v = 1) : pj_Ends 61 (83, L, [.int v], M) (some (.int v), M) := pj_Ends.ret q61_83 (pj_rtn_z rt61 hv)
theorem q61_84 : pj_row 61 84 = some (.iconst 0, 1, 0, 0, 0) := by decide +kernel
theorem s61_84 {L : pj_Loc} {st : List Value} {M : pj_Mem}  : pj_step 61 (84, L, st, M) = some (85, L, .int 0 :: st, M) := st_iconst q61_84 (by decide +kernel)
theorem x61_84 {L : pj_Loc} {st : List Value} {M : pj_Mem}  {o9 : Option Value × pj_Mem} : pj_Ends 61 (84, L, st, M) o9 = pj_Ends 61 (85, L, .int 0 :: st, M) o9 := pj_xs (s61_84)
theorem q61_85 : pj_row 61 85 = some (.ireturn, 1, 0, 0, 0) := by decide +kernel
theorem t61_85 {L : pj_Loc} {M : pj_Mem} {v : Int32} (hv : v = 0 ∨ v = 1) : pj_Ends 61 (85, L, [.int v], M) (some (.int v), M) := pj_Ends.ret q61_85 (pj_rtn_z rt61 hv)
theorem rt62 : pj_rt 62 = some .boolean := rfl
theorem q62_0 : pj_row 62 0 = some (.aload_n 0, 1, 0, 0, 0) := by decide +kernel
theorem s62_0 {st : List Value} {M : pj_Mem} {l : pj_Loc} {x : Nat} : pj_step 62 (0, some (.ref x) :: l, st, M) = some (1, some (.ref x) :: l, .ref x :: st, M) := st_aload_n q62_0 rfl
theorem x62_0 {st : List Value} {M : pj_Mem} {l : pj_Loc} {x : Nat} {o9 : Option Value × pj_Mem} : pj_Ends 62 (0, some (.ref x) :: l, st, M) o9 = pj_Ends 62 (1, some (.ref x) :: l, .ref x :: st, M) o9 := pj_xs (s62_0)
theorem q62_1 : pj_row 62 1 = some (.getfield 22, 3, 1, 1, 0) := by decide +kernel
theorem s62_1 {L : pj_Loc} {st : List Value} {N S : Nat} {H : pj_Heap} {o : Nat} : pj_step 62 (1, L, .ref o :: st, (N, S, H)) = pj_pv 4 L st (N, S, H) (pj_fld (H o) 1 1) := st_getfield q62_1
theorem x62_1 {L : pj_Loc} {st : List Value} {N S : Nat} {H : pj_Heap} {o : Nat} {o9 : Option Value × pj_Mem} : pj_Ends 62 (1, L, .ref o :: st, (N, S, H)) o9 = pj_then 62 o9 (pj_pv 4 L st (N, S, H) (pj_fld (H o) 1 1)) := pj_xt q62_1 rfl (pj_cl_nc rfl) (s62_1)
theorem q62_4 : pj_row 62 4 = some (.ifCond .ne 10, 3, 14, 0, 0) := by decide +kernel
theorem s62_4 {L : pj_Loc} {st : List Value} {M : pj_Mem} {x : Int32} : pj_step 62 (4, L, .int x :: st, M) = some (if ¬ x = 0 then 14 else 7, L, st, M) := st_if_ne q62_4
theorem x62_4 {L : pj_Loc} {st : List Value} {M : pj_Mem} {x : Int32} {o9 : Option Value × pj_Mem} : pj_Ends 62 (4, L, .int x :: st, M) o9 = pj_Ends 62 (if ¬ x = 0 then 14 else 7, L, st, M) o9 := pj_xs (s62_4)
theorem q62_7 : pj_row 62 7 = some (.aload_n 0, 1, 0, 0, 0) := by decide +kernel
theorem s62_7 {st : List Value} {M : pj_Mem} {l : pj_Loc} {x : Nat} : pj_step 62 (7, some (.ref x) :: l, st, M) = some (8, some (.ref x) :: l, .ref x :: st, M) := st_aload_n q62_7 rfl
theorem x62_7 {st : List Value} {M : pj_Mem} {l : pj_Loc} {x : Nat} {o9 : Option Value × pj_Mem} : pj_Ends 62 (7, some (.ref x) :: l, st, M) o9 = pj_Ends 62 (8, some (.ref x) :: l, .ref x :: st, M) o9 := pj_xs (s62_7)
theorem q62_8 : pj_row 62 8 = some (.getfield 35, 3, 1, 5, 0) := by decide +kernel
theorem s62_8 {L : pj_Loc} {st : List Value} {N S : Nat} {H : pj_Heap} {o : Nat} : pj_step 62 (8, L, .ref o :: st, (N, S, H)) = pj_pv 11 L st (N, S, H) (pj_fld (H o) 1 5) := st_getfield q62_8
theorem x62_8 {L : pj_Loc} {st : List Value} {N S : Nat} {H : pj_Heap} {o : Nat} {o9 : Option Value × pj_Mem} : pj_Ends 62 (8, L, .ref o :: st, (N, S, H)) o9 = pj_then 62 o9 (pj_pv 11 L st (N, S, H) (pj_fld (H o) 1 5)) := pj_xt q62_8 rfl (pj_cl_nc rfl) (s62_8)
theorem q62_11 : pj_row 62 11 = some (.ifCond .ne 5, 3, 16, 0, 0) := by decide +kernel
theorem s62_11 {L : pj_Loc} {st : List Value} {M : pj_Mem} {x : Int32} : pj_step 62 (11, L, .int x :: st, M) = some (if ¬ x = 0 then 16 else 14, L, st, M) := st_if_ne q62_11
theorem x62_11 {L : pj_Loc} {st : List Value} {M : pj_Mem} {x : Int32} {o9 : Option Value × pj_Mem} : pj_Ends 62 (11, L, .int x :: st, M) o9 = pj_Ends 62 (if ¬ x = 0 then 16 else 14, L, st, M) o9 := pj_xs (s62_11)
theorem q62_14 : pj_row 62 14 = some (.iconst 0, 1, 0, 0, 0) := by decide +kernel
theorem s62_14 {L : pj_Loc} {st : List Value} {M : pj_Mem}  : pj_step 62 (14, L, st, M) = some (15, L, .int 0 :: st, M) := st_iconst q62_14 (by decide +kernel)
theorem x62_14 {L : pj_Loc} {st : List Value} {M : pj_Mem}  {o9 : Option Value × pj_Mem} : pj_Ends 62 (14, L, st, M) o9 = pj_Ends 62 (15, L, .int 0 :: st, M) o9 := pj_xs (s62_14)
theorem q62_15 : pj_row 62 15 = some (.ireturn, 1, 0, 0, 0) := by decide +kernel
theorem t62_15 {L : pj_Loc} {M : pj_Mem} {v : Int32} (hv : v = 0 ∨ v = 1) : pj_Ends 62 (15, L, [.int v], M) (some (.int v), M) := pj_Ends.ret q62_15 (pj_rtn_z rt62 hv)
theorem q62_16 : pj_row 62 16 = some (.aload_n 0, 1, 0, 0, 0) := by decide +kernel
theorem s62_16 {st : List Value} {M : pj_Mem} {l : pj_Loc} {x : Nat} : pj_step 62 (16, some (.ref x) :: l, st, M) = some (17, some (.ref x) :: l, .ref x :: st, M) := st_aload_n q62_16 rfl
theorem x62_16 {st : List Value} {M : pj_Mem} {l : pj_Loc} {x : Nat} {o9 : Option Value × pj_Mem} : pj_Ends 62 (16, some (.ref x) :: l, st, M) o9 = pj_Ends 62 (17, some (.ref x) :: l, .ref x :: st, M) o9 := pj_xs (s62_16)
theorem q62_17 : pj_row 62 17 = some (.getfield 35, 3, 1, 5, 0) := by decide +kernel
theorem s62_17 {L : pj_Loc} {st : List Value} {N S : Nat} {H : pj_Heap} {o : Nat} : pj_step 62 (17, L, .ref o :: st, (N, S, H)) = pj_pv 20 L st (N, S, H) (pj_fld (H o) 1 5) := st_getfield q62_17
theorem x62_17 {L : pj_Loc} {st : List Value} {N S : Nat} {H : pj_Heap} {o : Nat} {o9 : Option Value × pj_Mem} : pj_Ends 62 (17, L, .ref o :: st, (N, S, H)) o9 = pj_then 62 o9 (pj_pv 20 L st (N, S, H) (pj_fld (H o) 1 5)) := pj_xt q62_17 rfl (pj_cl_nc rfl) (s62_17)
theorem q62_20 : pj_row 62 20 = some (.iconst (-1), 1, 0, 0, 0) := by decide +kernel
theorem s62_20 {L : pj_Loc} {st : List Value} {M : pj_Mem}  : pj_step 62 (20, L, st, M) = some (21, L, .int (-1) :: st, M) := st_iconst q62_20 (by decide +kernel)
theorem x62_20 {L : pj_Loc} {st : List Value} {M : pj_Mem}  {o9 : Option Value × pj_Mem} : pj_Ends 62 (20, L, st, M) o9 = pj_Ends 62 (21, L, .int (-1) :: st, M) o9 := pj_xs (s62_20)
theorem q62_21 : pj_row 62 21 = some (.if_icmp .ne 7, 3, 28, 0, 0) := by decide +kernel
theorem s62_21 {L : pj_Loc} {st : List Value} {M : pj_Mem} {x y : Int32} : pj_step 62 (21, L, .int y :: .int x :: st, M) = some (if ¬ x = y then 28 else 24, L, st, M) := st_icmp_ne q62_21
theorem x62_21 {L : pj_Loc} {st : List Value} {M : pj_Mem} {x y : Int32} {o9 : Option Value × pj_Mem} : pj_Ends 62 (21, L, .int y :: .int x :: st, M) o9 = pj_Ends 62 (if ¬ x = y then 28 else 24, L, st, M) o9 := pj_xs (s62_21)
theorem q62_24 : pj_row 62 24 = some (.iload_n 1, 1, 0, 0, 0) := by decide +kernel
theorem s62_24 {st : List Value} {M : pj_Mem} {l : pj_Loc} {a0 : Option Value} {x : Int32} : pj_step 62 (24, a0 :: some (.int x) :: l, st, M) = some (25, a0 :: some (.int x) :: l, .int x :: st, M) := st_iload_n q62_24 rfl
theorem x62_24 {st : List Value} {M : pj_Mem} {l : pj_Loc} {a0 : Option Value} {x : Int32} {o9 : Option Value × pj_Mem} : pj_Ends 62 (24, a0 :: some (.int x) :: l, st, M) o9 = pj_Ends 62 (25, a0 :: some (.int x) :: l, .int x :: st, M) o9 := pj_xs (s62_24)
theorem q62_25 : pj_row 62 25 = some (.goto 12, 3, 37, 0, 0) := by decide +kernel
theorem s62_25 {L : pj_Loc} {st : List Value} {M : pj_Mem}  : pj_step 62 (25, L, st, M) = some (37, L, st, M) := st_goto q62_25
theorem x62_25 {L : pj_Loc} {st : List Value} {M : pj_Mem}  {o9 : Option Value × pj_Mem} : pj_Ends 62 (25, L, st, M) o9 = pj_Ends 62 (37, L, st, M) o9 := pj_xs (s62_25)
theorem q62_28 : pj_row 62 28 = some (.aload_n 0, 1, 0, 0, 0) := by decide +kernel
theorem s62_28 {st : List Value} {M : pj_Mem} {l : pj_Loc} {x : Nat} : pj_step 62 (28, some (.ref x) :: l, st, M) = some (29, some (.ref x) :: l, .ref x :: st, M) := st_aload_n q62_28 rfl
theorem x62_28 {st : List Value} {M : pj_Mem} {l : pj_Loc} {x : Nat} {o9 : Option Value × pj_Mem} : pj_Ends 62 (28, some (.ref x) :: l, st, M) o9 = pj_Ends 62 (29, some (.ref x) :: l, .ref x :: st, M) o9 := pj_xs (s62_28)
theorem q62_29 : pj_row 62 29 = some (.getfield 35, 3, 1, 5, 0) := by decide +kernel
theorem s62_29 {L : pj_Loc} {st : List Value} {N S : Nat} {H : pj_Heap} {o : Nat} : pj_step 62 (29, L, .ref o :: st, (N, S, H)) = pj_pv 32 L st (N, S, H) (pj_fld (H o) 1 5) := st_getfield q62_29
theorem x62_29 {L : pj_Loc} {st : List Value} {N S : Nat} {H : pj_Heap} {o : Nat} {o9 : Option Value × pj_Mem} : pj_Ends 62 (29, L, .ref o :: st, (N, S, H)) o9 = pj_then 62 o9 (pj_pv 32 L st (N, S, H) (pj_fld (H o) 1 5)) := pj_xt q62_29 rfl (pj_cl_nc rfl) (s62_29)
theorem q62_32 : pj_row 62 32 = some (.bipush 10, 2, 0, 0, 0) := by decide +kernel
theorem s62_32 {L : pj_Loc} {st : List Value} {M : pj_Mem}  : pj_step 62 (32, L, st, M) = some (34, L, .int 10 :: st, M) := st_bipush q62_32 (by decide +kernel)
theorem x62_32 {L : pj_Loc} {st : List Value} {M : pj_Mem}  {o9 : Option Value × pj_Mem} : pj_Ends 62 (32, L, st, M) o9 = pj_Ends 62 (34, L, .int 10 :: st, M) o9 := pj_xs (s62_32)
theorem q62_34 : pj_row 62 34 = some (.imul, 1, 0, 0, 0) := by decide +kernel
theorem s62_34 {L : pj_Loc} {st : List Value} {M : pj_Mem} {x y : Int32} : pj_step 62 (34, L, .int y :: .int x :: st, M) = some (35, L, .int (x * y) :: st, M) := st_imul q62_34
theorem x62_34 {L : pj_Loc} {st : List Value} {M : pj_Mem} {x y : Int32} {o9 : Option Value × pj_Mem} : pj_Ends 62 (34, L, .int y :: .int x :: st, M) o9 = pj_Ends 62 (35, L, .int (x * y) :: st, M) o9 := pj_xs (s62_34)
theorem q62_35 : pj_row 62 35 = some (.iload_n 1, 1, 0, 0, 0) := by decide +kernel
theorem s62_35 {st : List Value} {M : pj_Mem} {l : pj_Loc} {a0 : Option Value} {x : Int32} : pj_step 62 (35, a0 :: some (.int x) :: l, st, M) = some (36, a0 :: some (.int x) :: l, .int x :: st, M) := st_iload_n q62_35 rfl
theorem x62_35 {st : List Value} {M : pj_Mem} {l : pj_Loc} {a0 : Option Value} {x : Int32} {o9 : Option Value × pj_Mem} : pj_Ends 62 (35, a0 :: some (.int x) :: l, st, M) o9 = pj_Ends 62 (36, a0 :: some (.int x) :: l, .int x :: st, M) o9 := pj_xs (s62_35)
theorem q62_36 : pj_row 62 36 = some (.iadd, 1, 0, 0, 0) := by decide +kernel
theorem s62_36 {L : pj_Loc} {st : List Value} {M : pj_Mem} {x y : Int32} : pj_step 62 (36, L, .int y :: .int x :: st, M) = some (37, L, .int (x + y) :: st, M) := st_iadd q62_36
theorem x62_36 {L : pj_Loc} {st : List Value} {M : pj_Mem} {x y : Int32} {o9 : Option Value × pj_Mem} : pj_Ends 62 (36, L, .int y :: .int x :: st, M) o9 = pj_Ends 62 (37, L, .int (x + y) :: st, M) o9 := pj_xs (s62_36)
theorem q62_37 : pj_row 62 37 = some (.istore_n 2, 1, 0, 0, 0) := by decide +kernel
theorem s62_37 {st : List Value} {M : pj_Mem} {l : pj_Loc} {a0 a1 a2 : Option Value} {x : Int32} (h : pj_long a1 = false) : pj_step 62 (37, a0 :: a1 :: a2 :: l, .int x :: st, M) = some (38, a0 :: a1 :: some (.int x) :: l, st, M) := st_istore_n q62_37 (pj_st_2 h)
theorem x62_37 {st : List Value} {M : pj_Mem} {l : pj_Loc} {a0 a1 a2 : Option Value} {x : Int32} (h : pj_long a1 = false) {o9 : Option Value × pj_Mem} : pj_Ends 62 (37, a0 :: a1 :: a2 :: l, .int x :: st, M) o9 = pj_Ends 62 (38, a0 :: a1 :: some (.int x) :: l, st, M) o9 := pj_xs (s62_37 h)
theorem q62_38 : pj_row 62 38 = some (.iload_n 2, 1, 0, 0, 0) := by decide +kernel
theorem s62_38 {st : List Value} {M : pj_Mem} {l : pj_Loc} {a0 a1 : Option Value} {x : Int32} : pj_step 62 (38, a0 :: a1 :: some (.int x) :: l, st, M) = some (39, a0 :: a1 :: some (.int x) :: l, .int x :: st, M) := st_iload_n q62_38 rfl
theorem x62_38 {st : List Value} {M : pj_Mem} {l : pj_Loc} {a0 a1 : Option Value} {x : Int32} {o9 : Option Value × pj_Mem} : pj_Ends 62 (38, a0 :: a1 :: some (.int x) :: l, st, M) o9 = pj_Ends 62 (39, a0 :: a1 :: some (.int x) :: l, .int x :: st, M) o9 := pj_xs (s62_38)
theorem q62_39 : pj_row 62 39 = some (.sipush 500, 3, 0, 0, 0) := by decide +kernel
theorem s62_39 {L : pj_Loc} {st : List Value} {M : pj_Mem}  : pj_step 62 (39, L, st, M) = some (42, L, .int 500 :: st, M) := st_sipush q62_39 (by decide +kernel)
theorem x62_39 {L : pj_Loc} {st : List Value} {M : pj_Mem}  {o9 : Option Value × pj_Mem} : pj_Ends 62 (39, L, st, M) o9 = pj_Ends 62 (42, L, .int 500 :: st, M) o9 := pj_xs (s62_39)
theorem q62_42 : pj_row 62 42 = some (.if_icmp .gt 18, 3, 60, 0, 0) := by decide +kernel
theorem s62_42 {L : pj_Loc} {st : List Value} {M : pj_Mem} {x y : Int32} : pj_step 62 (42, L, .int y :: .int x :: st, M) = some (if y < x then 60 else 45, L, st, M) := st_icmp_gt q62_42
theorem x62_42 {L : pj_Loc} {st : List Value} {M : pj_Mem} {x y : Int32} {o9 : Option Value × pj_Mem} : pj_Ends 62 (42, L, .int y :: .int x :: st, M) o9 = pj_Ends 62 (if y < x then 60 else 45, L, st, M) o9 := pj_xs (s62_42)
theorem q62_45 : pj_row 62 45 = some (.aload_n 0, 1, 0, 0, 0) := by decide +kernel
theorem s62_45 {st : List Value} {M : pj_Mem} {l : pj_Loc} {x : Nat} : pj_step 62 (45, some (.ref x) :: l, st, M) = some (46, some (.ref x) :: l, .ref x :: st, M) := st_aload_n q62_45 rfl
theorem x62_45 {st : List Value} {M : pj_Mem} {l : pj_Loc} {x : Nat} {o9 : Option Value × pj_Mem} : pj_Ends 62 (45, some (.ref x) :: l, st, M) o9 = pj_Ends 62 (46, some (.ref x) :: l, .ref x :: st, M) o9 := pj_xs (s62_45)
theorem q62_46 : pj_row 62 46 = some (.getfield 26, 3, 1, 3, 0) := by decide +kernel
theorem s62_46 {L : pj_Loc} {st : List Value} {N S : Nat} {H : pj_Heap} {o : Nat} : pj_step 62 (46, L, .ref o :: st, (N, S, H)) = pj_pv 49 L st (N, S, H) (pj_fld (H o) 1 3) := st_getfield q62_46
theorem x62_46 {L : pj_Loc} {st : List Value} {N S : Nat} {H : pj_Heap} {o : Nat} {o9 : Option Value × pj_Mem} : pj_Ends 62 (46, L, .ref o :: st, (N, S, H)) o9 = pj_then 62 o9 (pj_pv 49 L st (N, S, H) (pj_fld (H o) 1 3)) := pj_xt q62_46 rfl (pj_cl_nc rfl) (s62_46)
theorem q62_49 : pj_row 62 49 = some (.ifCond .lt 11, 3, 60, 0, 0) := by decide +kernel
theorem s62_49 {L : pj_Loc} {st : List Value} {M : pj_Mem} {x : Int32} : pj_step 62 (49, L, .int x :: st, M) = some (if x < 0 then 60 else 52, L, st, M) := st_if_lt q62_49
theorem x62_49 {L : pj_Loc} {st : List Value} {M : pj_Mem} {x : Int32} {o9 : Option Value × pj_Mem} : pj_Ends 62 (49, L, .int x :: st, M) o9 = pj_Ends 62 (if x < 0 then 60 else 52, L, st, M) o9 := pj_xs (s62_49)
theorem q62_52 : pj_row 62 52 = some (.aload_n 0, 1, 0, 0, 0) := by decide +kernel
theorem s62_52 {st : List Value} {M : pj_Mem} {l : pj_Loc} {x : Nat} : pj_step 62 (52, some (.ref x) :: l, st, M) = some (53, some (.ref x) :: l, .ref x :: st, M) := st_aload_n q62_52 rfl
theorem x62_52 {st : List Value} {M : pj_Mem} {l : pj_Loc} {x : Nat} {o9 : Option Value × pj_Mem} : pj_Ends 62 (52, some (.ref x) :: l, st, M) o9 = pj_Ends 62 (53, some (.ref x) :: l, .ref x :: st, M) o9 := pj_xs (s62_52)
theorem q62_53 : pj_row 62 53 = some (.getfield 26, 3, 1, 3, 0) := by decide +kernel
theorem s62_53 {L : pj_Loc} {st : List Value} {N S : Nat} {H : pj_Heap} {o : Nat} : pj_step 62 (53, L, .ref o :: st, (N, S, H)) = pj_pv 56 L st (N, S, H) (pj_fld (H o) 1 3) := st_getfield q62_53
theorem x62_53 {L : pj_Loc} {st : List Value} {N S : Nat} {H : pj_Heap} {o : Nat} {o9 : Option Value × pj_Mem} : pj_Ends 62 (53, L, .ref o :: st, (N, S, H)) o9 = pj_then 62 o9 (pj_pv 56 L st (N, S, H) (pj_fld (H o) 1 3)) := pj_xt q62_53 rfl (pj_cl_nc rfl) (s62_53)
theorem q62_56 : pj_row 62 56 = some (.iconst 3, 1, 0, 0, 0) := by decide +kernel
theorem s62_56 {L : pj_Loc} {st : List Value} {M : pj_Mem}  : pj_step 62 (56, L, st, M) = some (57, L, .int 3 :: st, M) := st_iconst q62_56 (by decide +kernel)
theorem x62_56 {L : pj_Loc} {st : List Value} {M : pj_Mem}  {o9 : Option Value × pj_Mem} : pj_Ends 62 (56, L, st, M) o9 = pj_Ends 62 (57, L, .int 3 :: st, M) o9 := pj_xs (s62_56)
theorem q62_57 : pj_row 62 57 = some (.if_icmp .lt 5, 3, 62, 0, 0) := by decide +kernel
theorem s62_57 {L : pj_Loc} {st : List Value} {M : pj_Mem} {x y : Int32} : pj_step 62 (57, L, .int y :: .int x :: st, M) = some (if x < y then 62 else 60, L, st, M) := st_icmp_lt q62_57
theorem x62_57 {L : pj_Loc} {st : List Value} {M : pj_Mem} {x y : Int32} {o9 : Option Value × pj_Mem} : pj_Ends 62 (57, L, .int y :: .int x :: st, M) o9 = pj_Ends 62 (if x < y then 62 else 60, L, st, M) o9 := pj_xs (s62_57)
theorem q62_60 : pj_row 62 60 = some (.iconst 0, 1, 0, 0, 0) := by decide +kernel
theorem s62_60 {L : pj_Loc} {st : List Value} {M : pj_Mem}  : pj_step 62 (60, L, st, M) = some (61, L, .int 0 :: st, M) := st_iconst q62_60 (by decide +kernel)
theorem x62_60 {L : pj_Loc} {st : List Value} {M : pj_Mem}  {o9 : Option Value × pj_Mem} : pj_Ends 62 (60, L, st, M) o9 = pj_Ends 62 (61, L, .int 0 :: st, M) o9 := pj_xs (s62_60)
theorem q62_61 : pj_row 62 61 = some (.ireturn, 1, 0, 0, 0) := by decide +kernel
theorem t62_61 {L : pj_Loc} {M : pj_Mem} {v : Int32} (hv : v = 0 ∨ v = 1) : pj_Ends 62 (61, L, [.int v], M) (some (.int v), M) := pj_Ends.ret q62_61 (pj_rtn_z rt62 hv)
theorem q62_62 : pj_row 62 62 = some (.aload_n 0, 1, 0, 0, 0) := by decide +kernel
theorem s62_62 {st : List Value} {M : pj_Mem} {l : pj_Loc} {x : Nat} : pj_step 62 (62, some (.ref x) :: l, st, M) = some (63, some (.ref x) :: l, .ref x :: st, M) := st_aload_n q62_62 rfl
theorem x62_62 {st : List Value} {M : pj_Mem} {l : pj_Loc} {x : Nat} {o9 : Option Value × pj_Mem} : pj_Ends 62 (62, some (.ref x) :: l, st, M) o9 = pj_Ends 62 (63, some (.ref x) :: l, .ref x :: st, M) o9 := pj_xs (s62_62)
theorem q62_63 : pj_row 62 63 = some (.iload_n 2, 1, 0, 0, 0) := by decide +kernel
theorem s62_63 {st : List Value} {M : pj_Mem} {l : pj_Loc} {a0 a1 : Option Value} {x : Int32} : pj_step 62 (63, a0 :: a1 :: some (.int x) :: l, st, M) = some (64, a0 :: a1 :: some (.int x) :: l, .int x :: st, M) := st_iload_n q62_63 rfl
theorem x62_63 {st : List Value} {M : pj_Mem} {l : pj_Loc} {a0 a1 : Option Value} {x : Int32} {o9 : Option Value × pj_Mem} : pj_Ends 62 (63, a0 :: a1 :: some (.int x) :: l, st, M) o9 = pj_Ends 62 (64, a0 :: a1 :: some (.int x) :: l, .int x :: st, M) o9 := pj_xs (s62_63)
theorem q62_64 : pj_row 62 64 = some (.putfield 35, 3, 1, 5, 0) := by decide +kernel
theorem s62_64 {L : pj_Loc} {st : List Value} {N S : Nat} {H : pj_Heap} {o : Nat} {v : Value} : pj_step 62 (64, L, v :: .ref o :: st, (N, S, H)) = pj_set 67 L st (N, S, H) o (pj_fset (H o) 1 5 v) := st_putfield q62_64
theorem x62_64 {L : pj_Loc} {st : List Value} {N S : Nat} {H : pj_Heap} {o : Nat} {v : Value} {o9 : Option Value × pj_Mem} : pj_Ends 62 (64, L, v :: .ref o :: st, (N, S, H)) o9 = pj_then 62 o9 (pj_set 67 L st (N, S, H) o (pj_fset (H o) 1 5 v)) := pj_xt q62_64 rfl (pj_cl_nc rfl) (s62_64)
theorem q62_67 : pj_row 62 67 = some (.aload_n 0, 1, 0, 0, 0) := by decide +kernel
theorem s62_67 {st : List Value} {M : pj_Mem} {l : pj_Loc} {x : Nat} : pj_step 62 (67, some (.ref x) :: l, st, M) = some (68, some (.ref x) :: l, .ref x :: st, M) := st_aload_n q62_67 rfl
theorem x62_67 {st : List Value} {M : pj_Mem} {l : pj_Loc} {x : Nat} {o9 : Option Value × pj_Mem} : pj_Ends 62 (67, some (.ref x) :: l, st, M) o9 = pj_Ends 62 (68, some (.ref x) :: l, .ref x :: st, M) o9 := pj_xs (s62_67)
theorem q62_68 : pj_row 62 68 = some (.getfield 9, 3, 1, 0, 0) := by decide +kernel
theorem s62_68 {L : pj_Loc} {st : List Value} {N S : Nat} {H : pj_Heap} {o : Nat} : pj_step 62 (68, L, .ref o :: st, (N, S, H)) = pj_pv 71 L st (N, S, H) (pj_fld (H o) 1 0) := st_getfield q62_68
theorem x62_68 {L : pj_Loc} {st : List Value} {N S : Nat} {H : pj_Heap} {o : Nat} {o9 : Option Value × pj_Mem} : pj_Ends 62 (68, L, .ref o :: st, (N, S, H)) o9 = pj_then 62 o9 (pj_pv 71 L st (N, S, H) (pj_fld (H o) 1 0)) := pj_xt q62_68 rfl (pj_cl_nc rfl) (s62_68)
theorem q62_71 : pj_row 62 71 = some (.aload_n 0, 1, 0, 0, 0) := by decide +kernel
theorem s62_71 {st : List Value} {M : pj_Mem} {l : pj_Loc} {x : Nat} : pj_step 62 (71, some (.ref x) :: l, st, M) = some (72, some (.ref x) :: l, .ref x :: st, M) := st_aload_n q62_71 rfl
theorem x62_71 {st : List Value} {M : pj_Mem} {l : pj_Loc} {x : Nat} {o9 : Option Value × pj_Mem} : pj_Ends 62 (71, some (.ref x) :: l, st, M) o9 = pj_Ends 62 (72, some (.ref x) :: l, .ref x :: st, M) o9 := pj_xs (s62_71)
theorem q62_72 : pj_row 62 72 = some (.getfield 26, 3, 1, 3, 0) := by decide +kernel
theorem s62_72 {L : pj_Loc} {st : List Value} {N S : Nat} {H : pj_Heap} {o : Nat} : pj_step 62 (72, L, .ref o :: st, (N, S, H)) = pj_pv 75 L st (N, S, H) (pj_fld (H o) 1 3) := st_getfield q62_72
theorem x62_72 {L : pj_Loc} {st : List Value} {N S : Nat} {H : pj_Heap} {o : Nat} {o9 : Option Value × pj_Mem} : pj_Ends 62 (72, L, .ref o :: st, (N, S, H)) o9 = pj_then 62 o9 (pj_pv 75 L st (N, S, H) (pj_fld (H o) 1 3)) := pj_xt q62_72 rfl (pj_cl_nc rfl) (s62_72)
theorem q62_75 : pj_row 62 75 = some (.aload_n 0, 1, 0, 0, 0) := by decide +kernel
theorem s62_75 {st : List Value} {M : pj_Mem} {l : pj_Loc} {x : Nat} : pj_step 62 (75, some (.ref x) :: l, st, M) = some (76, some (.ref x) :: l, .ref x :: st, M) := st_aload_n q62_75 rfl
theorem x62_75 {st : List Value} {M : pj_Mem} {l : pj_Loc} {x : Nat} {o9 : Option Value × pj_Mem} : pj_Ends 62 (75, some (.ref x) :: l, st, M) o9 = pj_Ends 62 (76, some (.ref x) :: l, .ref x :: st, M) o9 := pj_xs (s62_75)
theorem q62_76 : pj_row 62 76 = some (.getfield 32, 3, 1, 4, 0) := by decide +kernel
theorem s62_76 {L : pj_Loc} {st : List Value} {N S : Nat} {H : pj_Heap} {o : Nat} : pj_step 62 (76, L, .ref o :: st, (N, S, H)) = pj_pv 79 L st (N, S, H) (pj_fld (H o) 1 4) := st_getfield q62_76
theorem x62_76 {L : pj_Loc} {st : List Value} {N S : Nat} {H : pj_Heap} {o : Nat} {o9 : Option Value × pj_Mem} : pj_Ends 62 (76, L, .ref o :: st, (N, S, H)) o9 = pj_then 62 o9 (pj_pv 79 L st (N, S, H) (pj_fld (H o) 1 4)) := pj_xt q62_76 rfl (pj_cl_nc rfl) (s62_76)
theorem q62_79 : pj_row 62 79 = some (.ifCond .eq 11, 3, 90, 0, 0) := by decide +kernel
theorem s62_79 {L : pj_Loc} {st : List Value} {M : pj_Mem} {x : Int32} : pj_step 62 (79, L, .int x :: st, M) = some (if x = 0 then 90 else 82, L, st, M) := st_if_eq q62_79
theorem x62_79 {L : pj_Loc} {st : List Value} {M : pj_Mem} {x : Int32} {o9 : Option Value × pj_Mem} : pj_Ends 62 (79, L, .int x :: st, M) o9 = pj_Ends 62 (if x = 0 then 90 else 82, L, st, M) o9 := pj_xs (s62_79)
theorem q62_82 : pj_row 62 82 = some (.aload_n 0, 1, 0, 0, 0) := by decide +kernel
theorem s62_82 {st : List Value} {M : pj_Mem} {l : pj_Loc} {x : Nat} : pj_step 62 (82, some (.ref x) :: l, st, M) = some (83, some (.ref x) :: l, .ref x :: st, M) := st_aload_n q62_82 rfl
theorem x62_82 {st : List Value} {M : pj_Mem} {l : pj_Loc} {x : Nat} {o9 : Option Value × pj_Mem} : pj_Ends 62 (82, some (.ref x) :: l, st, M) o9 = pj_Ends 62 (83, some (.ref x) :: l, .ref x :: st, M) o9 := pj_xs (s62_82)
theorem q62_83 : pj_row 62 83 = some (.getfield 35, 3, 1, 5, 0) := by decide +kernel
theorem s62_83 {L : pj_Loc} {st : List Value} {N S : Nat} {H : pj_Heap} {o : Nat} : pj_step 62 (83, L, .ref o :: st, (N, S, H)) = pj_pv 86 L st (N, S, H) (pj_fld (H o) 1 5) := st_getfield q62_83
theorem x62_83 {L : pj_Loc} {st : List Value} {N S : Nat} {H : pj_Heap} {o : Nat} {o9 : Option Value × pj_Mem} : pj_Ends 62 (83, L, .ref o :: st, (N, S, H)) o9 = pj_then 62 o9 (pj_pv 86 L st (N, S, H) (pj_fld (H o) 1 5)) := pj_xt q62_83 rfl (pj_cl_nc rfl) (s62_83)
theorem q62_86 : pj_row 62 86 = some (.ineg, 1, 0, 0, 0) := by decide +kernel
theorem s62_86 {L : pj_Loc} {st : List Value} {M : pj_Mem} {x : Int32} : pj_step 62 (86, L, .int x :: st, M) = some (87, L, .int (-x) :: st, M) := st_ineg q62_86
theorem x62_86 {L : pj_Loc} {st : List Value} {M : pj_Mem} {x : Int32} {o9 : Option Value × pj_Mem} : pj_Ends 62 (86, L, .int x :: st, M) o9 = pj_Ends 62 (87, L, .int (-x) :: st, M) o9 := pj_xs (s62_86)
theorem q62_87 : pj_row 62 87 = some (.goto 7, 3, 94, 0, 0) := by decide +kernel
theorem s62_87 {L : pj_Loc} {st : List Value} {M : pj_Mem}  : pj_step 62 (87, L, st, M) = some (94, L, st, M) := st_goto q62_87
theorem x62_87 {L : pj_Loc} {st : List Value} {M : pj_Mem}  {o9 : Option Value × pj_Mem} : pj_Ends 62 (87, L, st, M) o9 = pj_Ends 62 (94, L, st, M) o9 := pj_xs (s62_87)
theorem q62_90 : pj_row 62 90 = some (.aload_n 0, 1, 0, 0, 0) := by decide +kernel
theorem s62_90 {st : List Value} {M : pj_Mem} {l : pj_Loc} {x : Nat} : pj_step 62 (90, some (.ref x) :: l, st, M) = some (91, some (.ref x) :: l, .ref x :: st, M) := st_aload_n q62_90 rfl
theorem x62_90 {st : List Value} {M : pj_Mem} {l : pj_Loc} {x : Nat} {o9 : Option Value × pj_Mem} : pj_Ends 62 (90, some (.ref x) :: l, st, M) o9 = pj_Ends 62 (91, some (.ref x) :: l, .ref x :: st, M) o9 := pj_xs (s62_90)
theorem q62_91 : pj_row 62 91 = some (.getfield 35, 3, 1, 5, 0) := by decide +kernel
theorem s62_91 {L : pj_Loc} {st : List Value} {N S : Nat} {H : pj_Heap} {o : Nat} : pj_step 62 (91, L, .ref o :: st, (N, S, H)) = pj_pv 94 L st (N, S, H) (pj_fld (H o) 1 5) := st_getfield q62_91
theorem x62_91 {L : pj_Loc} {st : List Value} {N S : Nat} {H : pj_Heap} {o : Nat} {o9 : Option Value × pj_Mem} : pj_Ends 62 (91, L, .ref o :: st, (N, S, H)) o9 = pj_then 62 o9 (pj_pv 94 L st (N, S, H) (pj_fld (H o) 1 5)) := pj_xt q62_91 rfl (pj_cl_nc rfl) (s62_91)
theorem q62_94 : pj_row 62 94 = some (.iastore, 1, 0, 0, 0) := by decide +kernel
theorem s62_94 {L : pj_Loc} {st : List Value} {N S : Nat} {H : pj_Heap} {o : Nat} {i x : Int32} : pj_step 62 (94, L, .int x :: .int i :: .ref o :: st, (N, S, H)) = pj_set 95 L st (N, S, H) o (pj_ars (H o) 0 i x) := st_iastore q62_94
theorem x62_94 {L : pj_Loc} {st : List Value} {N S : Nat} {H : pj_Heap} {o : Nat} {i x : Int32} {o9 : Option Value × pj_Mem} : pj_Ends 62 (94, L, .int x :: .int i :: .ref o :: st, (N, S, H)) o9 = pj_then 62 o9 (pj_set 95 L st (N, S, H) o (pj_ars (H o) 0 i x)) := pj_xt q62_94 rfl (pj_cl_nc rfl) (s62_94)
theorem q62_95 : pj_row 62 95 = some (.iconst 1, 1, 0, 0, 0) := by decide +kernel
theorem s62_95 {L : pj_Loc} {st : List Value} {M : pj_Mem}  : pj_step 62 (95, L, st, M) = some (96, L, .int 1 :: st, M) := st_iconst q62_95 (by decide +kernel)
theorem x62_95 {L : pj_Loc} {st : List Value} {M : pj_Mem}  {o9 : Option Value × pj_Mem} : pj_Ends 62 (95, L, st, M) o9 = pj_Ends 62 (96, L, .int 1 :: st, M) o9 := pj_xs (s62_95)
theorem q62_96 : pj_row 62 96 = some (.ireturn, 1, 0, 0, 0) := by decide +kernel
theorem t62_96 {L : pj_Loc} {M : pj_Mem} {v : Int32} (hv : v = 0 ∨ v = 1) : pj_Ends 62 (96, L, [.int v], M) (some (.int v), M) := pj_Ends.ret q62_96 (pj_rtn_z rt62 hv)
theorem rt63 : pj_rt 63 = some .boolean := rfl
theorem q63_0 : pj_row 63 0 = some (.aload_n 0, 1, 0, 0, 0) := by decide +kernel
theorem s63_0 {st : List Value} {M : pj_Mem} {l : pj_Loc} {x : Nat} : pj_step 63 (0, some (.ref x) :: l, st, M) = some (1, some (.ref x) :: l, .ref x :: st, M) := st_aload_n q63_0 rfl
theorem x63_0 {st : List Value} {M : pj_Mem} {l : pj_Loc} {x : Nat} {o9 : Option Value × pj_Mem} : pj_Ends 63 (0, some (.ref x) :: l, st, M) o9 = pj_Ends 63 (1, some (.ref x) :: l, .ref x :: st, M) o9 := pj_xs (s63_0)
theorem q63_1 : pj_row 63 1 = some (.getfield 32, 3, 1, 4, 0) := by decide +kernel
theorem s63_1 {L : pj_Loc} {st : List Value} {N S : Nat} {H : pj_Heap} {o : Nat} : pj_step 63 (1, L, .ref o :: st, (N, S, H)) = pj_pv 4 L st (N, S, H) (pj_fld (H o) 1 4) := st_getfield q63_1
theorem x63_1 {L : pj_Loc} {st : List Value} {N S : Nat} {H : pj_Heap} {o : Nat} {o9 : Option Value × pj_Mem} : pj_Ends 63 (1, L, .ref o :: st, (N, S, H)) o9 = pj_then 63 o9 (pj_pv 4 L st (N, S, H) (pj_fld (H o) 1 4)) := pj_xt q63_1 rfl (pj_cl_nc rfl) (s63_1)
theorem q63_4 : pj_row 63 4 = some (.ifCond .ne 11, 3, 15, 0, 0) := by decide +kernel
theorem s63_4 {L : pj_Loc} {st : List Value} {M : pj_Mem} {x : Int32} : pj_step 63 (4, L, .int x :: st, M) = some (if ¬ x = 0 then 15 else 7, L, st, M) := st_if_ne q63_4
theorem x63_4 {L : pj_Loc} {st : List Value} {M : pj_Mem} {x : Int32} {o9 : Option Value × pj_Mem} : pj_Ends 63 (4, L, .int x :: st, M) o9 = pj_Ends 63 (if ¬ x = 0 then 15 else 7, L, st, M) o9 := pj_xs (s63_4)
theorem q63_7 : pj_row 63 7 = some (.aload_n 0, 1, 0, 0, 0) := by decide +kernel
theorem s63_7 {st : List Value} {M : pj_Mem} {l : pj_Loc} {x : Nat} : pj_step 63 (7, some (.ref x) :: l, st, M) = some (8, some (.ref x) :: l, .ref x :: st, M) := st_aload_n q63_7 rfl
theorem x63_7 {st : List Value} {M : pj_Mem} {l : pj_Loc} {x : Nat} {o9 : Option Value × pj_Mem} : pj_Ends 63 (7, some (.ref x) :: l, st, M) o9 = pj_Ends 63 (8, some (.ref x) :: l, .ref x :: st, M) o9 := pj_xs (s63_7)
theorem q63_8 : pj_row 63 8 = some (.getfield 35, 3, 1, 5, 0) := by decide +kernel
theorem s63_8 {L : pj_Loc} {st : List Value} {N S : Nat} {H : pj_Heap} {o : Nat} : pj_step 63 (8, L, .ref o :: st, (N, S, H)) = pj_pv 11 L st (N, S, H) (pj_fld (H o) 1 5) := st_getfield q63_8
theorem x63_8 {L : pj_Loc} {st : List Value} {N S : Nat} {H : pj_Heap} {o : Nat} {o9 : Option Value × pj_Mem} : pj_Ends 63 (8, L, .ref o :: st, (N, S, H)) o9 = pj_then 63 o9 (pj_pv 11 L st (N, S, H) (pj_fld (H o) 1 5)) := pj_xt q63_8 rfl (pj_cl_nc rfl) (s63_8)
theorem q63_11 : pj_row 63 11 = some (.iconst (-1), 1, 0, 0, 0) := by decide +kernel
theorem s63_11 {L : pj_Loc} {st : List Value} {M : pj_Mem}  : pj_step 63 (11, L, st, M) = some (12, L, .int (-1) :: st, M) := st_iconst q63_11 (by decide +kernel)
theorem x63_11 {L : pj_Loc} {st : List Value} {M : pj_Mem}  {o9 : Option Value × pj_Mem} : pj_Ends 63 (11, L, st, M) o9 = pj_Ends 63 (12, L, .int (-1) :: st, M) o9 := pj_xs (s63_11)
theorem q63_12 : pj_row 63 12 = some (.if_icmp .eq 5, 3, 17, 0, 0) := by decide +kernel
theorem s63_12 {L : pj_Loc} {st : List Value} {M : pj_Mem} {x y : Int32} : pj_step 63 (12, L, .int y :: .int x :: st, M) = some (if x = y then 17 else 15, L, st, M) := st_icmp_eq q63_12
theorem x63_12 {L : pj_Loc} {st : List Value} {M : pj_Mem} {x y : Int32} {o9 : Option Value × pj_Mem} : pj_Ends 63 (12, L, .int y :: .int x :: st, M) o9 = pj_Ends 63 (if x = y then 17 else 15, L, st, M) o9 := pj_xs (s63_12)
theorem q63_15 : pj_row 63 15 = some (.iconst 0, 1, 0, 0, 0) := by decide +kernel
theorem s63_15 {L : pj_Loc} {st : List Value} {M : pj_Mem}  : pj_step 63 (15, L, st, M) = some (16, L, .int 0 :: st, M) := st_iconst q63_15 (by decide +kernel)
theorem x63_15 {L : pj_Loc} {st : List Value} {M : pj_Mem}  {o9 : Option Value × pj_Mem} : pj_Ends 63 (15, L, st, M) o9 = pj_Ends 63 (16, L, .int 0 :: st, M) o9 := pj_xs (s63_15)
theorem q63_16 : pj_row 63 16 = some (.ireturn, 1, 0, 0, 0) := by decide +kernel
theorem t63_16 {L : pj_Loc} {M : pj_Mem} {v : Int32} (hv : v = 0 ∨ v = 1) : pj_Ends 63 (16, L, [.int v], M) (some (.int v), M) := pj_Ends.ret q63_16 (pj_rtn_z rt63 hv)
theorem q63_17 : pj_row 63 17 = some (.aload_n 0, 1, 0, 0, 0) := by decide +kernel
theorem s63_17 {st : List Value} {M : pj_Mem} {l : pj_Loc} {x : Nat} : pj_step 63 (17, some (.ref x) :: l, st, M) = some (18, some (.ref x) :: l, .ref x :: st, M) := st_aload_n q63_17 rfl
theorem x63_17 {st : List Value} {M : pj_Mem} {l : pj_Loc} {x : Nat} {o9 : Option Value × pj_Mem} : pj_Ends 63 (17, some (.ref x) :: l, st, M) o9 = pj_Ends 63 (18, some (.ref x) :: l, .ref x :: st, M) o9 := pj_xs (s63_17)
theorem q63_18 : pj_row 63 18 = some (.iconst 1, 1, 0, 0, 0) := by decide +kernel
theorem s63_18 {L : pj_Loc} {st : List Value} {M : pj_Mem}  : pj_step 63 (18, L, st, M) = some (19, L, .int 1 :: st, M) := st_iconst q63_18 (by decide +kernel)
theorem x63_18 {L : pj_Loc} {st : List Value} {M : pj_Mem}  {o9 : Option Value × pj_Mem} : pj_Ends 63 (18, L, st, M) o9 = pj_Ends 63 (19, L, .int 1 :: st, M) o9 := pj_xs (s63_18)
theorem q63_19 : pj_row 63 19 = some (.putfield 32, 3, 1, 4, 0) := by decide +kernel
theorem s63_19 {L : pj_Loc} {st : List Value} {N S : Nat} {H : pj_Heap} {o : Nat} {v : Value} : pj_step 63 (19, L, v :: .ref o :: st, (N, S, H)) = pj_set 22 L st (N, S, H) o (pj_fset (H o) 1 4 v) := st_putfield q63_19
theorem x63_19 {L : pj_Loc} {st : List Value} {N S : Nat} {H : pj_Heap} {o : Nat} {v : Value} {o9 : Option Value × pj_Mem} : pj_Ends 63 (19, L, v :: .ref o :: st, (N, S, H)) o9 = pj_then 63 o9 (pj_set 22 L st (N, S, H) o (pj_fset (H o) 1 4 v)) := pj_xt q63_19 rfl (pj_cl_nc rfl) (s63_19)
theorem q63_22 : pj_row 63 22 = some (.iconst 1, 1, 0, 0, 0) := by decide +kernel
theorem s63_22 {L : pj_Loc} {st : List Value} {M : pj_Mem}  : pj_step 63 (22, L, st, M) = some (23, L, .int 1 :: st, M) := st_iconst q63_22 (by decide +kernel)
theorem x63_22 {L : pj_Loc} {st : List Value} {M : pj_Mem}  {o9 : Option Value × pj_Mem} : pj_Ends 63 (22, L, st, M) o9 = pj_Ends 63 (23, L, .int 1 :: st, M) o9 := pj_xs (s63_22)
theorem q63_23 : pj_row 63 23 = some (.ireturn, 1, 0, 0, 0) := by decide +kernel
theorem t63_23 {L : pj_Loc} {M : pj_Mem} {v : Int32} (hv : v = 0 ∨ v = 1) : pj_Ends 63 (23, L, [.int v], M) (some (.int v), M) := pj_Ends.ret q63_23 (pj_rtn_z rt63 hv)
theorem rt64 : pj_rt 64 = some .boolean := rfl
theorem q64_0 : pj_row 64 0 = some (.aload_n 0, 1, 0, 0, 0) := by decide +kernel
theorem s64_0 {st : List Value} {M : pj_Mem} {l : pj_Loc} {x : Nat} : pj_step 64 (0, some (.ref x) :: l, st, M) = some (1, some (.ref x) :: l, .ref x :: st, M) := st_aload_n q64_0 rfl
theorem x64_0 {st : List Value} {M : pj_Mem} {l : pj_Loc} {x : Nat} {o9 : Option Value × pj_Mem} : pj_Ends 64 (0, some (.ref x) :: l, st, M) o9 = pj_Ends 64 (1, some (.ref x) :: l, .ref x :: st, M) o9 := pj_xs (s64_0)
theorem q64_1 : pj_row 64 1 = some (.getfield 35, 3, 1, 5, 0) := by decide +kernel
theorem s64_1 {L : pj_Loc} {st : List Value} {N S : Nat} {H : pj_Heap} {o : Nat} : pj_step 64 (1, L, .ref o :: st, (N, S, H)) = pj_pv 4 L st (N, S, H) (pj_fld (H o) 1 5) := st_getfield q64_1
theorem x64_1 {L : pj_Loc} {st : List Value} {N S : Nat} {H : pj_Heap} {o : Nat} {o9 : Option Value × pj_Mem} : pj_Ends 64 (1, L, .ref o :: st, (N, S, H)) o9 = pj_then 64 o9 (pj_pv 4 L st (N, S, H) (pj_fld (H o) 1 5)) := pj_xt q64_1 rfl (pj_cl_nc rfl) (s64_1)
theorem q64_4 : pj_row 64 4 = some (.iconst (-1), 1, 0, 0, 0) := by decide +kernel
theorem s64_4 {L : pj_Loc} {st : List Value} {M : pj_Mem}  : pj_step 64 (4, L, st, M) = some (5, L, .int (-1) :: st, M) := st_iconst q64_4 (by decide +kernel)
theorem x64_4 {L : pj_Loc} {st : List Value} {M : pj_Mem}  {o9 : Option Value × pj_Mem} : pj_Ends 64 (4, L, st, M) o9 = pj_Ends 64 (5, L, .int (-1) :: st, M) o9 := pj_xs (s64_4)
theorem q64_5 : pj_row 64 5 = some (.if_icmp .eq 11, 3, 16, 0, 0) := by decide +kernel
theorem s64_5 {L : pj_Loc} {st : List Value} {M : pj_Mem} {x y : Int32} : pj_step 64 (5, L, .int y :: .int x :: st, M) = some (if x = y then 16 else 8, L, st, M) := st_icmp_eq q64_5
theorem x64_5 {L : pj_Loc} {st : List Value} {M : pj_Mem} {x y : Int32} {o9 : Option Value × pj_Mem} : pj_Ends 64 (5, L, .int y :: .int x :: st, M) o9 = pj_Ends 64 (if x = y then 16 else 8, L, st, M) o9 := pj_xs (s64_5)
theorem q64_8 : pj_row 64 8 = some (.aload_n 0, 1, 0, 0, 0) := by decide +kernel
theorem s64_8 {st : List Value} {M : pj_Mem} {l : pj_Loc} {x : Nat} : pj_step 64 (8, some (.ref x) :: l, st, M) = some (9, some (.ref x) :: l, .ref x :: st, M) := st_aload_n q64_8 rfl
theorem x64_8 {st : List Value} {M : pj_Mem} {l : pj_Loc} {x : Nat} {o9 : Option Value × pj_Mem} : pj_Ends 64 (8, some (.ref x) :: l, st, M) o9 = pj_Ends 64 (9, some (.ref x) :: l, .ref x :: st, M) o9 := pj_xs (s64_8)
theorem q64_9 : pj_row 64 9 = some (.getfield 26, 3, 1, 3, 0) := by decide +kernel
theorem s64_9 {L : pj_Loc} {st : List Value} {N S : Nat} {H : pj_Heap} {o : Nat} : pj_step 64 (9, L, .ref o :: st, (N, S, H)) = pj_pv 12 L st (N, S, H) (pj_fld (H o) 1 3) := st_getfield q64_9
theorem x64_9 {L : pj_Loc} {st : List Value} {N S : Nat} {H : pj_Heap} {o : Nat} {o9 : Option Value × pj_Mem} : pj_Ends 64 (9, L, .ref o :: st, (N, S, H)) o9 = pj_then 64 o9 (pj_pv 12 L st (N, S, H) (pj_fld (H o) 1 3)) := pj_xt q64_9 rfl (pj_cl_nc rfl) (s64_9)
theorem q64_12 : pj_row 64 12 = some (.iconst 2, 1, 0, 0, 0) := by decide +kernel
theorem s64_12 {L : pj_Loc} {st : List Value} {M : pj_Mem}  : pj_step 64 (12, L, st, M) = some (13, L, .int 2 :: st, M) := st_iconst q64_12 (by decide +kernel)
theorem x64_12 {L : pj_Loc} {st : List Value} {M : pj_Mem}  {o9 : Option Value × pj_Mem} : pj_Ends 64 (12, L, st, M) o9 = pj_Ends 64 (13, L, .int 2 :: st, M) o9 := pj_xs (s64_12)
theorem q64_13 : pj_row 64 13 = some (.if_icmp .lt 5, 3, 18, 0, 0) := by decide +kernel
theorem s64_13 {L : pj_Loc} {st : List Value} {M : pj_Mem} {x y : Int32} : pj_step 64 (13, L, .int y :: .int x :: st, M) = some (if x < y then 18 else 16, L, st, M) := st_icmp_lt q64_13
theorem x64_13 {L : pj_Loc} {st : List Value} {M : pj_Mem} {x y : Int32} {o9 : Option Value × pj_Mem} : pj_Ends 64 (13, L, .int y :: .int x :: st, M) o9 = pj_Ends 64 (if x < y then 18 else 16, L, st, M) o9 := pj_xs (s64_13)
theorem q64_16 : pj_row 64 16 = some (.iconst 0, 1, 0, 0, 0) := by decide +kernel
theorem s64_16 {L : pj_Loc} {st : List Value} {M : pj_Mem}  : pj_step 64 (16, L, st, M) = some (17, L, .int 0 :: st, M) := st_iconst q64_16 (by decide +kernel)
theorem x64_16 {L : pj_Loc} {st : List Value} {M : pj_Mem}  {o9 : Option Value × pj_Mem} : pj_Ends 64 (16, L, st, M) o9 = pj_Ends 64 (17, L, .int 0 :: st, M) o9 := pj_xs (s64_16)
theorem q64_17 : pj_row 64 17 = some (.ireturn, 1, 0, 0, 0) := by decide +kernel
theorem t64_17 {L : pj_Loc} {M : pj_Mem} {v : Int32} (hv : v = 0 ∨ v = 1) : pj_Ends 64 (17, L, [.int v], M) (some (.int v), M) := pj_Ends.ret q64_17 (pj_rtn_z rt64 hv)
theorem q64_18 : pj_row 64 18 = some (.aload_n 0, 1, 0, 0, 0) := by decide +kernel
theorem s64_18 {st : List Value} {M : pj_Mem} {l : pj_Loc} {x : Nat} : pj_step 64 (18, some (.ref x) :: l, st, M) = some (19, some (.ref x) :: l, .ref x :: st, M) := st_aload_n q64_18 rfl
theorem x64_18 {st : List Value} {M : pj_Mem} {l : pj_Loc} {x : Nat} {o9 : Option Value × pj_Mem} : pj_Ends 64 (18, some (.ref x) :: l, st, M) o9 = pj_Ends 64 (19, some (.ref x) :: l, .ref x :: st, M) o9 := pj_xs (s64_18)
theorem q64_19 : pj_row 64 19 = some (.dup, 1, 0, 0, 0) := by decide +kernel
theorem s64_19 {L : pj_Loc} {st : List Value} {M : pj_Mem} {x : Nat} : pj_step 64 (19, L, .ref x :: st, M) = some (20, L, .ref x :: .ref x :: st, M) := st_dup_ref q64_19
theorem x64_19 {L : pj_Loc} {st : List Value} {M : pj_Mem} {x : Nat} {o9 : Option Value × pj_Mem} : pj_Ends 64 (19, L, .ref x :: st, M) o9 = pj_Ends 64 (20, L, .ref x :: .ref x :: st, M) o9 := pj_xs (s64_19)
theorem s64_19i {L : pj_Loc} {st : List Value} {M : pj_Mem} {x : Int32} : pj_step 64 (19, L, .int x :: st, M) = some (20, L, .int x :: .int x :: st, M) := st_dup_int q64_19
theorem x64_19i {L : pj_Loc} {st : List Value} {M : pj_Mem} {x : Int32} {o9 : Option Value × pj_Mem} : pj_Ends 64 (19, L, .int x :: st, M) o9 = pj_Ends 64 (20, L, .int x :: .int x :: st, M) o9 := pj_xs (s64_19i)
theorem q64_20 : pj_row 64 20 = some (.getfield 26, 3, 1, 3, 0) := by decide +kernel
theorem s64_20 {L : pj_Loc} {st : List Value} {N S : Nat} {H : pj_Heap} {o : Nat} : pj_step 64 (20, L, .ref o :: st, (N, S, H)) = pj_pv 23 L st (N, S, H) (pj_fld (H o) 1 3) := st_getfield q64_20
theorem x64_20 {L : pj_Loc} {st : List Value} {N S : Nat} {H : pj_Heap} {o : Nat} {o9 : Option Value × pj_Mem} : pj_Ends 64 (20, L, .ref o :: st, (N, S, H)) o9 = pj_then 64 o9 (pj_pv 23 L st (N, S, H) (pj_fld (H o) 1 3)) := pj_xt q64_20 rfl (pj_cl_nc rfl) (s64_20)
theorem q64_23 : pj_row 64 23 = some (.iconst 1, 1, 0, 0, 0) := by decide +kernel
theorem s64_23 {L : pj_Loc} {st : List Value} {M : pj_Mem}  : pj_step 64 (23, L, st, M) = some (24, L, .int 1 :: st, M) := st_iconst q64_23 (by decide +kernel)
theorem x64_23 {L : pj_Loc} {st : List Value} {M : pj_Mem}  {o9 : Option Value × pj_Mem} : pj_Ends 64 (23, L, st, M) o9 = pj_Ends 64 (24, L, .int 1 :: st, M) o9 := pj_xs (s64_23)
theorem q64_24 : pj_row 64 24 = some (.iadd, 1, 0, 0, 0) := by decide +kernel
theorem s64_24 {L : pj_Loc} {st : List Value} {M : pj_Mem} {x y : Int32} : pj_step 64 (24, L, .int y :: .int x :: st, M) = some (25, L, .int (x + y) :: st, M) := st_iadd q64_24
theorem x64_24 {L : pj_Loc} {st : List Value} {M : pj_Mem} {x y : Int32} {o9 : Option Value × pj_Mem} : pj_Ends 64 (24, L, .int y :: .int x :: st, M) o9 = pj_Ends 64 (25, L, .int (x + y) :: st, M) o9 := pj_xs (s64_24)
theorem q64_25 : pj_row 64 25 = some (.putfield 26, 3, 1, 3, 0) := by decide +kernel
theorem s64_25 {L : pj_Loc} {st : List Value} {N S : Nat} {H : pj_Heap} {o : Nat} {v : Value} : pj_step 64 (25, L, v :: .ref o :: st, (N, S, H)) = pj_set 28 L st (N, S, H) o (pj_fset (H o) 1 3 v) := st_putfield q64_25
theorem x64_25 {L : pj_Loc} {st : List Value} {N S : Nat} {H : pj_Heap} {o : Nat} {v : Value} {o9 : Option Value × pj_Mem} : pj_Ends 64 (25, L, v :: .ref o :: st, (N, S, H)) o9 = pj_then 64 o9 (pj_set 28 L st (N, S, H) o (pj_fset (H o) 1 3 v)) := pj_xt q64_25 rfl (pj_cl_nc rfl) (s64_25)
theorem q64_28 : pj_row 64 28 = some (.aload_n 0, 1, 0, 0, 0) := by decide +kernel
theorem s64_28 {st : List Value} {M : pj_Mem} {l : pj_Loc} {x : Nat} : pj_step 64 (28, some (.ref x) :: l, st, M) = some (29, some (.ref x) :: l, .ref x :: st, M) := st_aload_n q64_28 rfl
theorem x64_28 {st : List Value} {M : pj_Mem} {l : pj_Loc} {x : Nat} {o9 : Option Value × pj_Mem} : pj_Ends 64 (28, some (.ref x) :: l, st, M) o9 = pj_Ends 64 (29, some (.ref x) :: l, .ref x :: st, M) o9 := pj_xs (s64_28)
theorem q64_29 : pj_row 64 29 = some (.invokevirtual 29, 3, 60, 1, 0) := by decide +kernel
theorem e64_29 {L : pj_Loc} {st : List Value} {N S : Nat} {H : pj_Heap} {o : Option Value × pj_Mem} {M' : pj_Mem} {x0 : Nat} (h4 : pj_le4 st = true) (hu : pj_isU 1 (H x0) = true) (h1 : pj_Ends 60 (0, [some (.ref x0)], [], (N, S, H)) (none, M')) (h2 : pj_Ends 64 (32, L, st, M') o) : pj_Ends 64 (29, L, .ref x0 :: st, (N, S, H)) o := ec_v1 q64_29 (Or.inl rfl) h4 hu rfl h1 h2
theorem q64_32 : pj_row 64 32 = some (.iconst 1, 1, 0, 0, 0) := by decide +kernel
theorem s64_32 {L : pj_Loc} {st : List Value} {M : pj_Mem}  : pj_step 64 (32, L, st, M) = some (33, L, .int 1 :: st, M) := st_iconst q64_32 (by decide +kernel)
theorem x64_32 {L : pj_Loc} {st : List Value} {M : pj_Mem}  {o9 : Option Value × pj_Mem} : pj_Ends 64 (32, L, st, M) o9 = pj_Ends 64 (33, L, .int 1 :: st, M) o9 := pj_xs (s64_32)
theorem q64_33 : pj_row 64 33 = some (.ireturn, 1, 0, 0, 0) := by decide +kernel
theorem t64_33 {L : pj_Loc} {M : pj_Mem} {v : Int32} (hv : v = 0 ∨ v = 1) : pj_Ends 64 (33, L, [.int v], M) (some (.int v), M) := pj_Ends.ret q64_33 (pj_rtn_z rt64 hv)
theorem rt65 : pj_rt 65 = some .boolean := rfl
theorem q65_0 : pj_row 65 0 = some (.aload_n 0, 1, 0, 0, 0) := by decide +kernel
theorem s65_0 {st : List Value} {M : pj_Mem} {l : pj_Loc} {x : Nat} : pj_step 65 (0, some (.ref x) :: l, st, M) = some (1, some (.ref x) :: l, .ref x :: st, M) := st_aload_n q65_0 rfl
theorem x65_0 {st : List Value} {M : pj_Mem} {l : pj_Loc} {x : Nat} {o9 : Option Value × pj_Mem} : pj_Ends 65 (0, some (.ref x) :: l, st, M) o9 = pj_Ends 65 (1, some (.ref x) :: l, .ref x :: st, M) o9 := pj_xs (s65_0)
theorem q65_1 : pj_row 65 1 = some (.invokevirtual 55, 3, 66, 1, 0) := by decide +kernel
theorem e65_1 {L : pj_Loc} {st : List Value} {N S : Nat} {H : pj_Heap} {o : Option Value × pj_Mem} {M' : pj_Mem} {x0 : Nat} {r : Int32} (h4 : pj_le4 st = true) (hu : pj_isU 1 (H x0) = true) (h1 : pj_Ends 66 (0, [some (.ref x0)], [], (N, S, H)) (some (.int r), M')) (h2 : pj_Ends 65 (4, L, .int r :: st, M') o) : pj_Ends 65 (1, L, .ref x0 :: st, (N, S, H)) o := ec_v1 q65_1 (Or.inl rfl) h4 hu rfl h1 h2
theorem q65_4 : pj_row 65 4 = some (.ifCond .eq 10, 3, 14, 0, 0) := by decide +kernel
theorem s65_4 {L : pj_Loc} {st : List Value} {M : pj_Mem} {x : Int32} : pj_step 65 (4, L, .int x :: st, M) = some (if x = 0 then 14 else 7, L, st, M) := st_if_eq q65_4
theorem x65_4 {L : pj_Loc} {st : List Value} {M : pj_Mem} {x : Int32} {o9 : Option Value × pj_Mem} : pj_Ends 65 (4, L, .int x :: st, M) o9 = pj_Ends 65 (if x = 0 then 14 else 7, L, st, M) o9 := pj_xs (s65_4)
theorem q65_7 : pj_row 65 7 = some (.aload_n 0, 1, 0, 0, 0) := by decide +kernel
theorem s65_7 {st : List Value} {M : pj_Mem} {l : pj_Loc} {x : Nat} : pj_step 65 (7, some (.ref x) :: l, st, M) = some (8, some (.ref x) :: l, .ref x :: st, M) := st_aload_n q65_7 rfl
theorem x65_7 {st : List Value} {M : pj_Mem} {l : pj_Loc} {x : Nat} {o9 : Option Value × pj_Mem} : pj_Ends 65 (7, some (.ref x) :: l, st, M) o9 = pj_Ends 65 (8, some (.ref x) :: l, .ref x :: st, M) o9 := pj_xs (s65_7)
theorem q65_8 : pj_row 65 8 = some (.getfield 22, 3, 1, 1, 0) := by decide +kernel
theorem s65_8 {L : pj_Loc} {st : List Value} {N S : Nat} {H : pj_Heap} {o : Nat} : pj_step 65 (8, L, .ref o :: st, (N, S, H)) = pj_pv 11 L st (N, S, H) (pj_fld (H o) 1 1) := st_getfield q65_8
theorem x65_8 {L : pj_Loc} {st : List Value} {N S : Nat} {H : pj_Heap} {o : Nat} {o9 : Option Value × pj_Mem} : pj_Ends 65 (8, L, .ref o :: st, (N, S, H)) o9 = pj_then 65 o9 (pj_pv 11 L st (N, S, H) (pj_fld (H o) 1 1)) := pj_xt q65_8 rfl (pj_cl_nc rfl) (s65_8)
theorem q65_11 : pj_row 65 11 = some (.ifCond .eq 5, 3, 16, 0, 0) := by decide +kernel
theorem s65_11 {L : pj_Loc} {st : List Value} {M : pj_Mem} {x : Int32} : pj_step 65 (11, L, .int x :: st, M) = some (if x = 0 then 16 else 14, L, st, M) := st_if_eq q65_11
theorem x65_11 {L : pj_Loc} {st : List Value} {M : pj_Mem} {x : Int32} {o9 : Option Value × pj_Mem} : pj_Ends 65 (11, L, .int x :: st, M) o9 = pj_Ends 65 (if x = 0 then 16 else 14, L, st, M) o9 := pj_xs (s65_11)
theorem q65_14 : pj_row 65 14 = some (.iconst 0, 1, 0, 0, 0) := by decide +kernel
theorem s65_14 {L : pj_Loc} {st : List Value} {M : pj_Mem}  : pj_step 65 (14, L, st, M) = some (15, L, .int 0 :: st, M) := st_iconst q65_14 (by decide +kernel)
theorem x65_14 {L : pj_Loc} {st : List Value} {M : pj_Mem}  {o9 : Option Value × pj_Mem} : pj_Ends 65 (14, L, st, M) o9 = pj_Ends 65 (15, L, .int 0 :: st, M) o9 := pj_xs (s65_14)
theorem q65_15 : pj_row 65 15 = some (.ireturn, 1, 0, 0, 0) := by decide +kernel
theorem t65_15 {L : pj_Loc} {M : pj_Mem} {v : Int32} (hv : v = 0 ∨ v = 1) : pj_Ends 65 (15, L, [.int v], M) (some (.int v), M) := pj_Ends.ret q65_15 (pj_rtn_z rt65 hv)
theorem q65_16 : pj_row 65 16 = some (.aload_n 0, 1, 0, 0, 0) := by decide +kernel
theorem s65_16 {st : List Value} {M : pj_Mem} {l : pj_Loc} {x : Nat} : pj_step 65 (16, some (.ref x) :: l, st, M) = some (17, some (.ref x) :: l, .ref x :: st, M) := st_aload_n q65_16 rfl
theorem x65_16 {st : List Value} {M : pj_Mem} {l : pj_Loc} {x : Nat} {o9 : Option Value × pj_Mem} : pj_Ends 65 (16, some (.ref x) :: l, st, M) o9 = pj_Ends 65 (17, some (.ref x) :: l, .ref x :: st, M) o9 := pj_xs (s65_16)
theorem q65_17 : pj_row 65 17 = some (.iconst 1, 1, 0, 0, 0) := by decide +kernel
theorem s65_17 {L : pj_Loc} {st : List Value} {M : pj_Mem}  : pj_step 65 (17, L, st, M) = some (18, L, .int 1 :: st, M) := st_iconst q65_17 (by decide +kernel)
theorem x65_17 {L : pj_Loc} {st : List Value} {M : pj_Mem}  {o9 : Option Value × pj_Mem} : pj_Ends 65 (17, L, st, M) o9 = pj_Ends 65 (18, L, .int 1 :: st, M) o9 := pj_xs (s65_17)
theorem q65_18 : pj_row 65 18 = some (.putfield 22, 3, 1, 1, 0) := by decide +kernel
theorem s65_18 {L : pj_Loc} {st : List Value} {N S : Nat} {H : pj_Heap} {o : Nat} {v : Value} : pj_step 65 (18, L, v :: .ref o :: st, (N, S, H)) = pj_set 21 L st (N, S, H) o (pj_fset (H o) 1 1 v) := st_putfield q65_18
theorem x65_18 {L : pj_Loc} {st : List Value} {N S : Nat} {H : pj_Heap} {o : Nat} {v : Value} {o9 : Option Value × pj_Mem} : pj_Ends 65 (18, L, v :: .ref o :: st, (N, S, H)) o9 = pj_then 65 o9 (pj_set 21 L st (N, S, H) o (pj_fset (H o) 1 1 v)) := pj_xt q65_18 rfl (pj_cl_nc rfl) (s65_18)
theorem q65_21 : pj_row 65 21 = some (.iconst 1, 1, 0, 0, 0) := by decide +kernel
theorem s65_21 {L : pj_Loc} {st : List Value} {M : pj_Mem}  : pj_step 65 (21, L, st, M) = some (22, L, .int 1 :: st, M) := st_iconst q65_21 (by decide +kernel)
theorem x65_21 {L : pj_Loc} {st : List Value} {M : pj_Mem}  {o9 : Option Value × pj_Mem} : pj_Ends 65 (21, L, st, M) o9 = pj_Ends 65 (22, L, .int 1 :: st, M) o9 := pj_xs (s65_21)
theorem q65_22 : pj_row 65 22 = some (.ireturn, 1, 0, 0, 0) := by decide +kernel
theorem t65_22 {L : pj_Loc} {M : pj_Mem} {v : Int32} (hv : v = 0 ∨ v = 1) : pj_Ends 65 (22, L, [.int v], M) (some (.int v), M) := pj_Ends.ret q65_22 (pj_rtn_z rt65 hv)
theorem rt66 : pj_rt 66 = some .boolean := rfl
theorem q66_0 : pj_row 66 0 = some (.aload_n 0, 1, 0, 0, 0) := by decide +kernel
theorem s66_0 {st : List Value} {M : pj_Mem} {l : pj_Loc} {x : Nat} : pj_step 66 (0, some (.ref x) :: l, st, M) = some (1, some (.ref x) :: l, .ref x :: st, M) := st_aload_n q66_0 rfl
theorem x66_0 {st : List Value} {M : pj_Mem} {l : pj_Loc} {x : Nat} {o9 : Option Value × pj_Mem} : pj_Ends 66 (0, some (.ref x) :: l, st, M) o9 = pj_Ends 66 (1, some (.ref x) :: l, .ref x :: st, M) o9 := pj_xs (s66_0)
theorem q66_1 : pj_row 66 1 = some (.getfield 26, 3, 1, 3, 0) := by decide +kernel
theorem s66_1 {L : pj_Loc} {st : List Value} {N S : Nat} {H : pj_Heap} {o : Nat} : pj_step 66 (1, L, .ref o :: st, (N, S, H)) = pj_pv 4 L st (N, S, H) (pj_fld (H o) 1 3) := st_getfield q66_1
theorem x66_1 {L : pj_Loc} {st : List Value} {N S : Nat} {H : pj_Heap} {o : Nat} {o9 : Option Value × pj_Mem} : pj_Ends 66 (1, L, .ref o :: st, (N, S, H)) o9 = pj_then 66 o9 (pj_pv 4 L st (N, S, H) (pj_fld (H o) 1 3)) := pj_xt q66_1 rfl (pj_cl_nc rfl) (s66_1)
theorem q66_4 : pj_row 66 4 = some (.iconst 2, 1, 0, 0, 0) := by decide +kernel
theorem s66_4 {L : pj_Loc} {st : List Value} {M : pj_Mem}  : pj_step 66 (4, L, st, M) = some (5, L, .int 2 :: st, M) := st_iconst q66_4 (by decide +kernel)
theorem x66_4 {L : pj_Loc} {st : List Value} {M : pj_Mem}  {o9 : Option Value × pj_Mem} : pj_Ends 66 (4, L, st, M) o9 = pj_Ends 66 (5, L, .int 2 :: st, M) o9 := pj_xs (s66_4)
theorem q66_5 : pj_row 66 5 = some (.if_icmp .ne 15, 3, 20, 0, 0) := by decide +kernel
theorem s66_5 {L : pj_Loc} {st : List Value} {M : pj_Mem} {x y : Int32} : pj_step 66 (5, L, .int y :: .int x :: st, M) = some (if ¬ x = y then 20 else 8, L, st, M) := st_icmp_ne q66_5
theorem x66_5 {L : pj_Loc} {st : List Value} {M : pj_Mem} {x y : Int32} {o9 : Option Value × pj_Mem} : pj_Ends 66 (5, L, .int y :: .int x :: st, M) o9 = pj_Ends 66 (if ¬ x = y then 20 else 8, L, st, M) o9 := pj_xs (s66_5)
theorem q66_8 : pj_row 66 8 = some (.aload_n 0, 1, 0, 0, 0) := by decide +kernel
theorem s66_8 {st : List Value} {M : pj_Mem} {l : pj_Loc} {x : Nat} : pj_step 66 (8, some (.ref x) :: l, st, M) = some (9, some (.ref x) :: l, .ref x :: st, M) := st_aload_n q66_8 rfl
theorem x66_8 {st : List Value} {M : pj_Mem} {l : pj_Loc} {x : Nat} {o9 : Option Value × pj_Mem} : pj_Ends 66 (8, some (.ref x) :: l, st, M) o9 = pj_Ends 66 (9, some (.ref x) :: l, .ref x :: st, M) o9 := pj_xs (s66_8)
theorem q66_9 : pj_row 66 9 = some (.getfield 35, 3, 1, 5, 0) := by decide +kernel
theorem s66_9 {L : pj_Loc} {st : List Value} {N S : Nat} {H : pj_Heap} {o : Nat} : pj_step 66 (9, L, .ref o :: st, (N, S, H)) = pj_pv 12 L st (N, S, H) (pj_fld (H o) 1 5) := st_getfield q66_9
theorem x66_9 {L : pj_Loc} {st : List Value} {N S : Nat} {H : pj_Heap} {o : Nat} {o9 : Option Value × pj_Mem} : pj_Ends 66 (9, L, .ref o :: st, (N, S, H)) o9 = pj_then 66 o9 (pj_pv 12 L st (N, S, H) (pj_fld (H o) 1 5)) := pj_xt q66_9 rfl (pj_cl_nc rfl) (s66_9)
theorem q66_12 : pj_row 66 12 = some (.iconst (-1), 1, 0, 0, 0) := by decide +kernel
theorem s66_12 {L : pj_Loc} {st : List Value} {M : pj_Mem}  : pj_step 66 (12, L, st, M) = some (13, L, .int (-1) :: st, M) := st_iconst q66_12 (by decide +kernel)
theorem x66_12 {L : pj_Loc} {st : List Value} {M : pj_Mem}  {o9 : Option Value × pj_Mem} : pj_Ends 66 (12, L, st, M) o9 = pj_Ends 66 (13, L, .int (-1) :: st, M) o9 := pj_xs (s66_12)
theorem q66_13 : pj_row 66 13 = some (.if_icmp .eq 7, 3, 20, 0, 0) := by decide +kernel
theorem s66_13 {L : pj_Loc} {st : List Value} {M : pj_Mem} {x y : Int32} : pj_step 66 (13, L, .int y :: .int x :: st, M) = some (if x = y then 20 else 16, L, st, M) := st_icmp_eq q66_13
theorem x66_13 {L : pj_Loc} {st : List Value} {M : pj_Mem} {x y : Int32} {o9 : Option Value × pj_Mem} : pj_Ends 66 (13, L, .int y :: .int x :: st, M) o9 = pj_Ends 66 (if x = y then 20 else 16, L, st, M) o9 := pj_xs (s66_13)
theorem q66_16 : pj_row 66 16 = some (.iconst 1, 1, 0, 0, 0) := by decide +kernel
theorem s66_16 {L : pj_Loc} {st : List Value} {M : pj_Mem}  : pj_step 66 (16, L, st, M) = some (17, L, .int 1 :: st, M) := st_iconst q66_16 (by decide +kernel)
theorem x66_16 {L : pj_Loc} {st : List Value} {M : pj_Mem}  {o9 : Option Value × pj_Mem} : pj_Ends 66 (16, L, st, M) o9 = pj_Ends 66 (17, L, .int 1 :: st, M) o9 := pj_xs (s66_16)
theorem q66_17 : pj_row 66 17 = some (.goto 4, 3, 21, 0, 0) := by decide +kernel
theorem s66_17 {L : pj_Loc} {st : List Value} {M : pj_Mem}  : pj_step 66 (17, L, st, M) = some (21, L, st, M) := st_goto q66_17
theorem x66_17 {L : pj_Loc} {st : List Value} {M : pj_Mem}  {o9 : Option Value × pj_Mem} : pj_Ends 66 (17, L, st, M) o9 = pj_Ends 66 (21, L, st, M) o9 := pj_xs (s66_17)
theorem q66_20 : pj_row 66 20 = some (.iconst 0, 1, 0, 0, 0) := by decide +kernel
theorem s66_20 {L : pj_Loc} {st : List Value} {M : pj_Mem}  : pj_step 66 (20, L, st, M) = some (21, L, .int 0 :: st, M) := st_iconst q66_20 (by decide +kernel)
theorem x66_20 {L : pj_Loc} {st : List Value} {M : pj_Mem}  {o9 : Option Value × pj_Mem} : pj_Ends 66 (20, L, st, M) o9 = pj_Ends 66 (21, L, .int 0 :: st, M) o9 := pj_xs (s66_20)
theorem q66_21 : pj_row 66 21 = some (.ireturn, 1, 0, 0, 0) := by decide +kernel
theorem t66_21 {L : pj_Loc} {M : pj_Mem} {v : Int32} (hv : v = 0 ∨ v = 1) : pj_Ends 66 (21, L, [.int v], M) (some (.int v), M) := pj_Ends.ret q66_21 (pj_rtn_z rt66 hv)
theorem rt67 : pj_rt 67 = some .boolean := rfl
theorem q67_0 : pj_row 67 0 = some (.aload_n 0, 1, 0, 0, 0) := by decide +kernel
theorem s67_0 {st : List Value} {M : pj_Mem} {l : pj_Loc} {x : Nat} : pj_step 67 (0, some (.ref x) :: l, st, M) = some (1, some (.ref x) :: l, .ref x :: st, M) := st_aload_n q67_0 rfl
theorem x67_0 {st : List Value} {M : pj_Mem} {l : pj_Loc} {x : Nat} {o9 : Option Value × pj_Mem} : pj_Ends 67 (0, some (.ref x) :: l, st, M) o9 = pj_Ends 67 (1, some (.ref x) :: l, .ref x :: st, M) o9 := pj_xs (s67_0)
theorem q67_1 : pj_row 67 1 = some (.invokevirtual 55, 3, 66, 1, 0) := by decide +kernel
theorem e67_1 {L : pj_Loc} {st : List Value} {N S : Nat} {H : pj_Heap} {o : Option Value × pj_Mem} {M' : pj_Mem} {x0 : Nat} {r : Int32} (h4 : pj_le4 st = true) (hu : pj_isU 1 (H x0) = true) (h1 : pj_Ends 66 (0, [some (.ref x0)], [], (N, S, H)) (some (.int r), M')) (h2 : pj_Ends 67 (4, L, .int r :: st, M') o) : pj_Ends 67 (1, L, .ref x0 :: st, (N, S, H)) o := ec_v1 q67_1 (Or.inl rfl) h4 hu rfl h1 h2
theorem q67_4 : pj_row 67 4 = some (.ifCond .ne 5, 3, 9, 0, 0) := by decide +kernel
theorem s67_4 {L : pj_Loc} {st : List Value} {M : pj_Mem} {x : Int32} : pj_step 67 (4, L, .int x :: st, M) = some (if ¬ x = 0 then 9 else 7, L, st, M) := st_if_ne q67_4
theorem x67_4 {L : pj_Loc} {st : List Value} {M : pj_Mem} {x : Int32} {o9 : Option Value × pj_Mem} : pj_Ends 67 (4, L, .int x :: st, M) o9 = pj_Ends 67 (if ¬ x = 0 then 9 else 7, L, st, M) o9 := pj_xs (s67_4)
theorem q67_7 : pj_row 67 7 = some (.iconst 0, 1, 0, 0, 0) := by decide +kernel
theorem s67_7 {L : pj_Loc} {st : List Value} {M : pj_Mem}  : pj_step 67 (7, L, st, M) = some (8, L, .int 0 :: st, M) := st_iconst q67_7 (by decide +kernel)
theorem x67_7 {L : pj_Loc} {st : List Value} {M : pj_Mem}  {o9 : Option Value × pj_Mem} : pj_Ends 67 (7, L, st, M) o9 = pj_Ends 67 (8, L, .int 0 :: st, M) o9 := pj_xs (s67_7)
theorem q67_8 : pj_row 67 8 = some (.ireturn, 1, 0, 0, 0) := by decide +kernel
theorem t67_8 {L : pj_Loc} {M : pj_Mem} {v : Int32} (hv : v = 0 ∨ v = 1) : pj_Ends 67 (8, L, [.int v], M) (some (.int v), M) := pj_Ends.ret q67_8 (pj_rtn_z rt67 hv)
theorem q67_9 : pj_row 67 9 = some (.aload_n 0, 1, 0, 0, 0) := by decide +kernel
theorem s67_9 {st : List Value} {M : pj_Mem} {l : pj_Loc} {x : Nat} : pj_step 67 (9, some (.ref x) :: l, st, M) = some (10, some (.ref x) :: l, .ref x :: st, M) := st_aload_n q67_9 rfl
theorem x67_9 {st : List Value} {M : pj_Mem} {l : pj_Loc} {x : Nat} {o9 : Option Value × pj_Mem} : pj_Ends 67 (9, some (.ref x) :: l, st, M) o9 = pj_Ends 67 (10, some (.ref x) :: l, .ref x :: st, M) o9 := pj_xs (s67_9)
theorem q67_10 : pj_row 67 10 = some (.invokevirtual 19, 3, 59, 1, 0) := by decide +kernel
theorem e67_10 {L : pj_Loc} {st : List Value} {N S : Nat} {H : pj_Heap} {o : Option Value × pj_Mem} {M' : pj_Mem} {x0 : Nat} (h4 : pj_le4 st = true) (hu : pj_isU 1 (H x0) = true) (h1 : pj_Ends 59 (0, [some (.ref x0)], [], (N, S, H)) (none, M')) (h2 : pj_Ends 67 (13, L, st, M') o) : pj_Ends 67 (10, L, .ref x0 :: st, (N, S, H)) o := ec_v1 q67_10 (Or.inl rfl) h4 hu rfl h1 h2
theorem q67_13 : pj_row 67 13 = some (.iconst 1, 1, 0, 0, 0) := by decide +kernel
theorem s67_13 {L : pj_Loc} {st : List Value} {M : pj_Mem}  : pj_step 67 (13, L, st, M) = some (14, L, .int 1 :: st, M) := st_iconst q67_13 (by decide +kernel)
theorem x67_13 {L : pj_Loc} {st : List Value} {M : pj_Mem}  {o9 : Option Value × pj_Mem} : pj_Ends 67 (13, L, st, M) o9 = pj_Ends 67 (14, L, .int 1 :: st, M) o9 := pj_xs (s67_13)
theorem q67_14 : pj_row 67 14 = some (.ireturn, 1, 0, 0, 0) := by decide +kernel
theorem t67_14 {L : pj_Loc} {M : pj_Mem} {v : Int32} (hv : v = 0 ∨ v = 1) : pj_Ends 67 (14, L, [.int v], M) (some (.int v), M) := pj_Ends.ret q67_14 (pj_rtn_z rt67 hv)
theorem rt68 : pj_rt 68 = some .int := rfl
theorem q68_0 : pj_row 68 0 = some (.aload_n 0, 1, 0, 0, 0) := by decide +kernel
theorem s68_0 {st : List Value} {M : pj_Mem} {l : pj_Loc} {x : Nat} : pj_step 68 (0, some (.ref x) :: l, st, M) = some (1, some (.ref x) :: l, .ref x :: st, M) := st_aload_n q68_0 rfl
theorem x68_0 {st : List Value} {M : pj_Mem} {l : pj_Loc} {x : Nat} {o9 : Option Value × pj_Mem} : pj_Ends 68 (0, some (.ref x) :: l, st, M) o9 = pj_Ends 68 (1, some (.ref x) :: l, .ref x :: st, M) o9 := pj_xs (s68_0)
theorem q68_1 : pj_row 68 1 = some (.getfield 29, 3, 5, 3, 0) := by decide +kernel
theorem s68_1 {L : pj_Loc} {st : List Value} {N S : Nat} {H : pj_Heap} {o : Nat} : pj_step 68 (1, L, .ref o :: st, (N, S, H)) = pj_pv 4 L st (N, S, H) (pj_fld (H o) 5 3) := st_getfield q68_1
theorem x68_1 {L : pj_Loc} {st : List Value} {N S : Nat} {H : pj_Heap} {o : Nat} {o9 : Option Value × pj_Mem} : pj_Ends 68 (1, L, .ref o :: st, (N, S, H)) o9 = pj_then 68 o9 (pj_pv 4 L st (N, S, H) (pj_fld (H o) 5 3)) := pj_xt q68_1 rfl (pj_cl_nc rfl) (s68_1)
theorem q68_4 : pj_row 68 4 = some (.invokevirtual 188, 3, 57, 1, 0) := by decide +kernel
theorem e68_4 {L : pj_Loc} {st : List Value} {N S : Nat} {H : pj_Heap} {o : Option Value × pj_Mem} {M' : pj_Mem} {x0 : Nat} {r : Int32} (h4 : pj_le4 st = true) (hu : pj_isU 0 (H x0) = true) (h1 : pj_Ends 57 (0, [some (.ref x0), none], [], (N, S, H)) (some (.int r), M')) (h2 : pj_Ends 68 (7, L, .int r :: st, M') o) : pj_Ends 68 (4, L, .ref x0 :: st, (N, S, H)) o := ec_v1 q68_4 (Or.inl rfl) h4 hu rfl h1 h2
theorem q68_7 : pj_row 68 7 = some (.bipush (-6), 2, 0, 0, 0) := by decide +kernel
theorem s68_7 {L : pj_Loc} {st : List Value} {M : pj_Mem}  : pj_step 68 (7, L, st, M) = some (9, L, .int (-6) :: st, M) := st_bipush q68_7 (by decide +kernel)
theorem x68_7 {L : pj_Loc} {st : List Value} {M : pj_Mem}  {o9 : Option Value × pj_Mem} : pj_Ends 68 (7, L, st, M) o9 = pj_Ends 68 (9, L, .int (-6) :: st, M) o9 := pj_xs (s68_7)
theorem q68_9 : pj_row 68 9 = some (.if_icmp .eq 6, 3, 15, 0, 0) := by decide +kernel
theorem s68_9 {L : pj_Loc} {st : List Value} {M : pj_Mem} {x y : Int32} : pj_step 68 (9, L, .int y :: .int x :: st, M) = some (if x = y then 15 else 12, L, st, M) := st_icmp_eq q68_9
theorem x68_9 {L : pj_Loc} {st : List Value} {M : pj_Mem} {x y : Int32} {o9 : Option Value × pj_Mem} : pj_Ends 68 (9, L, .int y :: .int x :: st, M) o9 = pj_Ends 68 (if x = y then 15 else 12, L, st, M) o9 := pj_xs (s68_9)
theorem q68_12 : pj_row 68 12 = some (.bipush (-3), 2, 0, 0, 0) := by decide +kernel
theorem s68_12 {L : pj_Loc} {st : List Value} {M : pj_Mem}  : pj_step 68 (12, L, st, M) = some (14, L, .int (-3) :: st, M) := st_bipush q68_12 (by decide +kernel)
theorem x68_12 {L : pj_Loc} {st : List Value} {M : pj_Mem}  {o9 : Option Value × pj_Mem} : pj_Ends 68 (12, L, st, M) o9 = pj_Ends 68 (14, L, .int (-3) :: st, M) o9 := pj_xs (s68_12)
theorem q68_14 : pj_row 68 14 = some (.ireturn, 1, 0, 0, 0) := by decide +kernel
theorem t68_14 {L : pj_Loc} {M : pj_Mem} {v : Int32} : pj_Ends 68 (14, L, [.int v], M) (some (.int v), M) := pj_Ends.ret q68_14 (pj_rtn_i rt68)
theorem q68_15 : pj_row 68 15 = some (.aload_n 0, 1, 0, 0, 0) := by decide +kernel
theorem s68_15 {st : List Value} {M : pj_Mem} {l : pj_Loc} {x : Nat} : pj_step 68 (15, some (.ref x) :: l, st, M) = some (16, some (.ref x) :: l, .ref x :: st, M) := st_aload_n q68_15 rfl
theorem x68_15 {st : List Value} {M : pj_Mem} {l : pj_Loc} {x : Nat} {o9 : Option Value × pj_Mem} : pj_Ends 68 (15, some (.ref x) :: l, st, M) o9 = pj_Ends 68 (16, some (.ref x) :: l, .ref x :: st, M) o9 := pj_xs (s68_15)
theorem q68_16 : pj_row 68 16 = some (.getfield 10, 3, 5, 0, 0) := by decide +kernel
theorem s68_16 {L : pj_Loc} {st : List Value} {N S : Nat} {H : pj_Heap} {o : Nat} : pj_step 68 (16, L, .ref o :: st, (N, S, H)) = pj_pv 19 L st (N, S, H) (pj_fld (H o) 5 0) := st_getfield q68_16
theorem x68_16 {L : pj_Loc} {st : List Value} {N S : Nat} {H : pj_Heap} {o : Nat} {o9 : Option Value × pj_Mem} : pj_Ends 68 (16, L, .ref o :: st, (N, S, H)) o9 = pj_then 68 o9 (pj_pv 19 L st (N, S, H) (pj_fld (H o) 5 0)) := pj_xt q68_16 rfl (pj_cl_nc rfl) (s68_16)
theorem q68_19 : pj_row 68 19 = some (.getfield 65, 3, 4, 10, 0) := by decide +kernel
theorem s68_19 {L : pj_Loc} {st : List Value} {N S : Nat} {H : pj_Heap} {o : Nat} : pj_step 68 (19, L, .ref o :: st, (N, S, H)) = pj_pv 22 L st (N, S, H) (pj_fld (H o) 4 10) := st_getfield q68_19
theorem x68_19 {L : pj_Loc} {st : List Value} {N S : Nat} {H : pj_Heap} {o : Nat} {o9 : Option Value × pj_Mem} : pj_Ends 68 (19, L, .ref o :: st, (N, S, H)) o9 = pj_then 68 o9 (pj_pv 22 L st (N, S, H) (pj_fld (H o) 4 10)) := pj_xt q68_19 rfl (pj_cl_nc rfl) (s68_19)
theorem q68_22 : pj_row 68 22 = some (.aload_n 0, 1, 0, 0, 0) := by decide +kernel
theorem s68_22 {st : List Value} {M : pj_Mem} {l : pj_Loc} {x : Nat} : pj_step 68 (22, some (.ref x) :: l, st, M) = some (23, some (.ref x) :: l, .ref x :: st, M) := st_aload_n q68_22 rfl
theorem x68_22 {st : List Value} {M : pj_Mem} {l : pj_Loc} {x : Nat} {o9 : Option Value × pj_Mem} : pj_Ends 68 (22, some (.ref x) :: l, st, M) o9 = pj_Ends 68 (23, some (.ref x) :: l, .ref x :: st, M) o9 := pj_xs (s68_22)
theorem q68_23 : pj_row 68 23 = some (.getfield 29, 3, 5, 3, 0) := by decide +kernel
theorem s68_23 {L : pj_Loc} {st : List Value} {N S : Nat} {H : pj_Heap} {o : Nat} : pj_step 68 (23, L, .ref o :: st, (N, S, H)) = pj_pv 26 L st (N, S, H) (pj_fld (H o) 5 3) := st_getfield q68_23
theorem x68_23 {L : pj_Loc} {st : List Value} {N S : Nat} {H : pj_Heap} {o : Nat} {o9 : Option Value × pj_Mem} : pj_Ends 68 (23, L, .ref o :: st, (N, S, H)) o9 = pj_then 68 o9 (pj_pv 26 L st (N, S, H) (pj_fld (H o) 5 3)) := pj_xt q68_23 rfl (pj_cl_nc rfl) (s68_23)
theorem q68_26 : pj_row 68 26 = some (.getfield 191, 3, 0, 1, 0) := by decide +kernel
theorem s68_26 {L : pj_Loc} {st : List Value} {N S : Nat} {H : pj_Heap} {o : Nat} : pj_step 68 (26, L, .ref o :: st, (N, S, H)) = pj_pv 29 L st (N, S, H) (pj_fld (H o) 0 1) := st_getfield q68_26
theorem x68_26 {L : pj_Loc} {st : List Value} {N S : Nat} {H : pj_Heap} {o : Nat} {o9 : Option Value × pj_Mem} : pj_Ends 68 (26, L, .ref o :: st, (N, S, H)) o9 = pj_then 68 o9 (pj_pv 29 L st (N, S, H) (pj_fld (H o) 0 1)) := pj_xt q68_26 rfl (pj_cl_nc rfl) (s68_26)
theorem q68_29 : pj_row 68 29 = some (.getfield 195, 3, 1, 2, 0) := by decide +kernel
theorem s68_29 {L : pj_Loc} {st : List Value} {N S : Nat} {H : pj_Heap} {o : Nat} : pj_step 68 (29, L, .ref o :: st, (N, S, H)) = pj_pv 32 L st (N, S, H) (pj_fld (H o) 1 2) := st_getfield q68_29
theorem x68_29 {L : pj_Loc} {st : List Value} {N S : Nat} {H : pj_Heap} {o : Nat} {o9 : Option Value × pj_Mem} : pj_Ends 68 (29, L, .ref o :: st, (N, S, H)) o9 = pj_then 68 o9 (pj_pv 32 L st (N, S, H) (pj_fld (H o) 1 2)) := pj_xt q68_29 rfl (pj_cl_nc rfl) (s68_29)
theorem q68_32 : pj_row 68 32 = some (.iadd, 1, 0, 0, 0) := by decide +kernel
theorem s68_32 {L : pj_Loc} {st : List Value} {M : pj_Mem} {x y : Int32} : pj_step 68 (32, L, .int y :: .int x :: st, M) = some (33, L, .int (x + y) :: st, M) := st_iadd q68_32
theorem x68_32 {L : pj_Loc} {st : List Value} {M : pj_Mem} {x y : Int32} {o9 : Option Value × pj_Mem} : pj_Ends 68 (32, L, .int y :: .int x :: st, M) o9 = pj_Ends 68 (33, L, .int (x + y) :: st, M) o9 := pj_xs (s68_32)
theorem q68_33 : pj_row 68 33 = some (.ldc 69, 2, 0, 0, 100000) := by decide +kernel
theorem s68_33 {L : pj_Loc} {st : List Value} {M : pj_Mem}  : pj_step 68 (33, L, st, M) = some (35, L, .int 100000 :: st, M) := st_ldc q68_33 (by decide +kernel)
theorem x68_33 {L : pj_Loc} {st : List Value} {M : pj_Mem}  {o9 : Option Value × pj_Mem} : pj_Ends 68 (33, L, st, M) o9 = pj_Ends 68 (35, L, .int 100000 :: st, M) o9 := pj_xs (s68_33)
theorem q68_35 : pj_row 68 35 = some (.if_icmp .le 6, 3, 41, 0, 0) := by decide +kernel
theorem s68_35 {L : pj_Loc} {st : List Value} {M : pj_Mem} {x y : Int32} : pj_step 68 (35, L, .int y :: .int x :: st, M) = some (if x ≤ y then 41 else 38, L, st, M) := st_icmp_le q68_35
theorem x68_35 {L : pj_Loc} {st : List Value} {M : pj_Mem} {x y : Int32} {o9 : Option Value × pj_Mem} : pj_Ends 68 (35, L, .int y :: .int x :: st, M) o9 = pj_Ends 68 (if x ≤ y then 41 else 38, L, st, M) o9 := pj_xs (s68_35)
theorem q68_38 : pj_row 68 38 = some (.bipush (-4), 2, 0, 0, 0) := by decide +kernel
theorem s68_38 {L : pj_Loc} {st : List Value} {M : pj_Mem}  : pj_step 68 (38, L, st, M) = some (40, L, .int (-4) :: st, M) := st_bipush q68_38 (by decide +kernel)
theorem x68_38 {L : pj_Loc} {st : List Value} {M : pj_Mem}  {o9 : Option Value × pj_Mem} : pj_Ends 68 (38, L, st, M) o9 = pj_Ends 68 (40, L, .int (-4) :: st, M) o9 := pj_xs (s68_38)
theorem q68_40 : pj_row 68 40 = some (.ireturn, 1, 0, 0, 0) := by decide +kernel
theorem t68_40 {L : pj_Loc} {M : pj_Mem} {v : Int32} : pj_Ends 68 (40, L, [.int v], M) (some (.int v), M) := pj_Ends.ret q68_40 (pj_rtn_i rt68)
theorem q68_41 : pj_row 68 41 = some (.aload_n 0, 1, 0, 0, 0) := by decide +kernel
theorem s68_41 {st : List Value} {M : pj_Mem} {l : pj_Loc} {x : Nat} : pj_step 68 (41, some (.ref x) :: l, st, M) = some (42, some (.ref x) :: l, .ref x :: st, M) := st_aload_n q68_41 rfl
theorem x68_41 {st : List Value} {M : pj_Mem} {l : pj_Loc} {x : Nat} {o9 : Option Value × pj_Mem} : pj_Ends 68 (41, some (.ref x) :: l, st, M) o9 = pj_Ends 68 (42, some (.ref x) :: l, .ref x :: st, M) o9 := pj_xs (s68_41)
theorem q68_42 : pj_row 68 42 = some (.invokevirtual 55, 3, 8, 1, 0) := by decide +kernel
theorem e68_42 {L : pj_Loc} {st : List Value} {N S : Nat} {H : pj_Heap} {o : Option Value × pj_Mem} {M' : pj_Mem} {x0 : Nat} (h4 : pj_le4 st = true) (hu : pj_isU 5 (H x0) = true) (h1 : pj_Ends 8 (0, [some (.ref x0), none, none], [], (N, S, H)) (none, M')) (h2 : pj_Ends 68 (45, L, st, M') o) : pj_Ends 68 (42, L, .ref x0 :: st, (N, S, H)) o := ec_v1 q68_42 (Or.inl rfl) h4 hu rfl h1 h2
theorem q68_45 : pj_row 68 45 = some (.aload_n 0, 1, 0, 0, 0) := by decide +kernel
theorem s68_45 {st : List Value} {M : pj_Mem} {l : pj_Loc} {x : Nat} : pj_step 68 (45, some (.ref x) :: l, st, M) = some (46, some (.ref x) :: l, .ref x :: st, M) := st_aload_n q68_45 rfl
theorem x68_45 {st : List Value} {M : pj_Mem} {l : pj_Loc} {x : Nat} {o9 : Option Value × pj_Mem} : pj_Ends 68 (45, some (.ref x) :: l, st, M) o9 = pj_Ends 68 (46, some (.ref x) :: l, .ref x :: st, M) o9 := pj_xs (s68_45)
theorem q68_46 : pj_row 68 46 = some (.getfield 29, 3, 5, 3, 0) := by decide +kernel
theorem s68_46 {L : pj_Loc} {st : List Value} {N S : Nat} {H : pj_Heap} {o : Nat} : pj_step 68 (46, L, .ref o :: st, (N, S, H)) = pj_pv 49 L st (N, S, H) (pj_fld (H o) 5 3) := st_getfield q68_46
theorem x68_46 {L : pj_Loc} {st : List Value} {N S : Nat} {H : pj_Heap} {o : Nat} {o9 : Option Value × pj_Mem} : pj_Ends 68 (46, L, .ref o :: st, (N, S, H)) o9 = pj_then 68 o9 (pj_pv 49 L st (N, S, H) (pj_fld (H o) 5 3)) := pj_xt q68_46 rfl (pj_cl_nc rfl) (s68_46)
theorem q68_49 : pj_row 68 49 = some (.getfield 191, 3, 0, 1, 0) := by decide +kernel
theorem s68_49 {L : pj_Loc} {st : List Value} {N S : Nat} {H : pj_Heap} {o : Nat} : pj_step 68 (49, L, .ref o :: st, (N, S, H)) = pj_pv 52 L st (N, S, H) (pj_fld (H o) 0 1) := st_getfield q68_49
theorem x68_49 {L : pj_Loc} {st : List Value} {N S : Nat} {H : pj_Heap} {o : Nat} {o9 : Option Value × pj_Mem} : pj_Ends 68 (49, L, .ref o :: st, (N, S, H)) o9 = pj_then 68 o9 (pj_pv 52 L st (N, S, H) (pj_fld (H o) 0 1)) := pj_xt q68_49 rfl (pj_cl_nc rfl) (s68_49)
theorem q68_52 : pj_row 68 52 = some (.astore_n 1, 1, 0, 0, 0) := by decide +kernel
theorem s68_52 {st : List Value} {M : pj_Mem} {l : pj_Loc} {a0 a1 : Option Value} {x : Nat} (h : pj_long a0 = false) : pj_step 68 (52, a0 :: a1 :: l, .ref x :: st, M) = some (53, a0 :: some (.ref x) :: l, st, M) := st_astore_n q68_52 (pj_st_1 h)
theorem x68_52 {st : List Value} {M : pj_Mem} {l : pj_Loc} {a0 a1 : Option Value} {x : Nat} (h : pj_long a0 = false) {o9 : Option Value × pj_Mem} : pj_Ends 68 (52, a0 :: a1 :: l, .ref x :: st, M) o9 = pj_Ends 68 (53, a0 :: some (.ref x) :: l, st, M) o9 := pj_xs (s68_52 h)
theorem q68_53 : pj_row 68 53 = some (.iconst 0, 1, 0, 0, 0) := by decide +kernel
theorem s68_53 {L : pj_Loc} {st : List Value} {M : pj_Mem}  : pj_step 68 (53, L, st, M) = some (54, L, .int 0 :: st, M) := st_iconst q68_53 (by decide +kernel)
theorem x68_53 {L : pj_Loc} {st : List Value} {M : pj_Mem}  {o9 : Option Value × pj_Mem} : pj_Ends 68 (53, L, st, M) o9 = pj_Ends 68 (54, L, .int 0 :: st, M) o9 := pj_xs (s68_53)
theorem q68_54 : pj_row 68 54 = some (.istore_n 2, 1, 0, 0, 0) := by decide +kernel
theorem s68_54 {st : List Value} {M : pj_Mem} {l : pj_Loc} {a0 a1 a2 : Option Value} {x : Int32} (h : pj_long a1 = false) : pj_step 68 (54, a0 :: a1 :: a2 :: l, .int x :: st, M) = some (55, a0 :: a1 :: some (.int x) :: l, st, M) := st_istore_n q68_54 (pj_st_2 h)
theorem x68_54 {st : List Value} {M : pj_Mem} {l : pj_Loc} {a0 a1 a2 : Option Value} {x : Int32} (h : pj_long a1 = false) {o9 : Option Value × pj_Mem} : pj_Ends 68 (54, a0 :: a1 :: a2 :: l, .int x :: st, M) o9 = pj_Ends 68 (55, a0 :: a1 :: some (.int x) :: l, st, M) o9 := pj_xs (s68_54 h)
theorem q68_55 : pj_row 68 55 = some (.aload_n 1, 1, 0, 0, 0) := by decide +kernel
theorem s68_55 {st : List Value} {M : pj_Mem} {l : pj_Loc} {a0 : Option Value} {x : Nat} : pj_step 68 (55, a0 :: some (.ref x) :: l, st, M) = some (56, a0 :: some (.ref x) :: l, .ref x :: st, M) := st_aload_n q68_55 rfl
theorem x68_55 {st : List Value} {M : pj_Mem} {l : pj_Loc} {a0 : Option Value} {x : Nat} {o9 : Option Value × pj_Mem} : pj_Ends 68 (55, a0 :: some (.ref x) :: l, st, M) o9 = pj_Ends 68 (56, a0 :: some (.ref x) :: l, .ref x :: st, M) o9 := pj_xs (s68_55)
theorem q68_56 : pj_row 68 56 = some (.invokevirtual 198, 3, 58, 1, 0) := by decide +kernel
theorem e68_56 {L : pj_Loc} {st : List Value} {N S : Nat} {H : pj_Heap} {o : Option Value × pj_Mem} {M' : pj_Mem} {x0 : Nat} (h4 : pj_le4 st = true) (hu : pj_isU 1 (H x0) = true) (h1 : pj_Ends 58 (0, [some (.ref x0)], [], (N, S, H)) (none, M')) (h2 : pj_Ends 68 (59, L, st, M') o) : pj_Ends 68 (56, L, .ref x0 :: st, (N, S, H)) o := ec_v1 q68_56 (Or.inl rfl) h4 hu rfl h1 h2
theorem q68_59 : pj_row 68 59 = some (.iconst 0, 1, 0, 0, 0) := by decide +kernel
theorem s68_59 {L : pj_Loc} {st : List Value} {M : pj_Mem}  : pj_step 68 (59, L, st, M) = some (60, L, .int 0 :: st, M) := st_iconst q68_59 (by decide +kernel)
theorem x68_59 {L : pj_Loc} {st : List Value} {M : pj_Mem}  {o9 : Option Value × pj_Mem} : pj_Ends 68 (59, L, st, M) o9 = pj_Ends 68 (60, L, .int 0 :: st, M) o9 := pj_xs (s68_59)
theorem q68_60 : pj_row 68 60 = some (.istore_n 3, 1, 0, 0, 0) := by decide +kernel
theorem s68_60 {st : List Value} {M : pj_Mem} {l : pj_Loc} {a0 a1 a2 a3 : Option Value} {x : Int32} (h : pj_long a2 = false) : pj_step 68 (60, a0 :: a1 :: a2 :: a3 :: l, .int x :: st, M) = some (61, a0 :: a1 :: a2 :: some (.int x) :: l, st, M) := st_istore_n q68_60 (pj_st_3 h)
theorem x68_60 {st : List Value} {M : pj_Mem} {l : pj_Loc} {a0 a1 a2 a3 : Option Value} {x : Int32} (h : pj_long a2 = false) {o9 : Option Value × pj_Mem} : pj_Ends 68 (60, a0 :: a1 :: a2 :: a3 :: l, .int x :: st, M) o9 = pj_Ends 68 (61, a0 :: a1 :: a2 :: some (.int x) :: l, st, M) o9 := pj_xs (s68_60 h)
theorem q68_61 : pj_row 68 61 = some (.iload_n 3, 1, 0, 0, 0) := by decide +kernel
theorem s68_61 {st : List Value} {M : pj_Mem} {l : pj_Loc} {a0 a1 a2 : Option Value} {x : Int32} : pj_step 68 (61, a0 :: a1 :: a2 :: some (.int x) :: l, st, M) = some (62, a0 :: a1 :: a2 :: some (.int x) :: l, .int x :: st, M) := st_iload_n q68_61 rfl
theorem x68_61 {st : List Value} {M : pj_Mem} {l : pj_Loc} {a0 a1 a2 : Option Value} {x : Int32} {o9 : Option Value × pj_Mem} : pj_Ends 68 (61, a0 :: a1 :: a2 :: some (.int x) :: l, st, M) o9 = pj_Ends 68 (62, a0 :: a1 :: a2 :: some (.int x) :: l, .int x :: st, M) o9 := pj_xs (s68_61)
theorem q68_62 : pj_row 68 62 = some (.aload_n 0, 1, 0, 0, 0) := by decide +kernel
theorem s68_62 {st : List Value} {M : pj_Mem} {l : pj_Loc} {x : Nat} : pj_step 68 (62, some (.ref x) :: l, st, M) = some (63, some (.ref x) :: l, .ref x :: st, M) := st_aload_n q68_62 rfl
theorem x68_62 {st : List Value} {M : pj_Mem} {l : pj_Loc} {x : Nat} {o9 : Option Value × pj_Mem} : pj_Ends 68 (62, some (.ref x) :: l, st, M) o9 = pj_Ends 68 (63, some (.ref x) :: l, .ref x :: st, M) o9 := pj_xs (s68_62)
theorem q68_63 : pj_row 68 63 = some (.getfield 29, 3, 5, 3, 0) := by decide +kernel
theorem s68_63 {L : pj_Loc} {st : List Value} {N S : Nat} {H : pj_Heap} {o : Nat} : pj_step 68 (63, L, .ref o :: st, (N, S, H)) = pj_pv 66 L st (N, S, H) (pj_fld (H o) 5 3) := st_getfield q68_63
theorem x68_63 {L : pj_Loc} {st : List Value} {N S : Nat} {H : pj_Heap} {o : Nat} {o9 : Option Value × pj_Mem} : pj_Ends 68 (63, L, .ref o :: st, (N, S, H)) o9 = pj_then 68 o9 (pj_pv 66 L st (N, S, H) (pj_fld (H o) 5 3)) := pj_xt q68_63 rfl (pj_cl_nc rfl) (s68_63)
theorem q68_66 : pj_row 68 66 = some (.getfield 145, 3, 0, 2, 0) := by decide +kernel
theorem s68_66 {L : pj_Loc} {st : List Value} {N S : Nat} {H : pj_Heap} {o : Nat} : pj_step 68 (66, L, .ref o :: st, (N, S, H)) = pj_pv 69 L st (N, S, H) (pj_fld (H o) 0 2) := st_getfield q68_66
theorem x68_66 {L : pj_Loc} {st : List Value} {N S : Nat} {H : pj_Heap} {o : Nat} {o9 : Option Value × pj_Mem} : pj_Ends 68 (66, L, .ref o :: st, (N, S, H)) o9 = pj_then 68 o9 (pj_pv 69 L st (N, S, H) (pj_fld (H o) 0 2)) := pj_xt q68_66 rfl (pj_cl_nc rfl) (s68_66)
theorem q68_69 : pj_row 68 69 = some (.if_icmp .ge 45, 3, 114, 0, 0) := by decide +kernel
theorem s68_69 {L : pj_Loc} {st : List Value} {M : pj_Mem} {x y : Int32} : pj_step 68 (69, L, .int y :: .int x :: st, M) = some (if y ≤ x then 114 else 72, L, st, M) := st_icmp_ge q68_69
theorem x68_69 {L : pj_Loc} {st : List Value} {M : pj_Mem} {x y : Int32} {o9 : Option Value × pj_Mem} : pj_Ends 68 (69, L, .int y :: .int x :: st, M) o9 = pj_Ends 68 (if y ≤ x then 114 else 72, L, st, M) o9 := pj_xs (s68_69)
theorem q68_72 : pj_row 68 72 = some (.aload_n 0, 1, 0, 0, 0) := by decide +kernel
theorem s68_72 {st : List Value} {M : pj_Mem} {l : pj_Loc} {x : Nat} : pj_step 68 (72, some (.ref x) :: l, st, M) = some (73, some (.ref x) :: l, .ref x :: st, M) := st_aload_n q68_72 rfl
theorem x68_72 {st : List Value} {M : pj_Mem} {l : pj_Loc} {x : Nat} {o9 : Option Value × pj_Mem} : pj_Ends 68 (72, some (.ref x) :: l, st, M) o9 = pj_Ends 68 (73, some (.ref x) :: l, .ref x :: st, M) o9 := pj_xs (s68_72)
theorem q68_73 : pj_row 68 73 = some (.getfield 29, 3, 5, 3, 0) := by decide +kernel
theorem s68_73 {L : pj_Loc} {st : List Value} {N S : Nat} {H : pj_Heap} {o : Nat} : pj_step 68 (73, L, .ref o :: st, (N, S, H)) = pj_pv 76 L st (N, S, H) (pj_fld (H o) 5 3) := st_getfield q68_73
theorem x68_73 {L : pj_Loc} {st : List Value} {N S : Nat} {H : pj_Heap} {o : Nat} {o9 : Option Value × pj_Mem} : pj_Ends 68 (73, L, .ref o :: st, (N, S, H)) o9 = pj_then 68 o9 (pj_pv 76 L st (N, S, H) (pj_fld (H o) 5 3)) := pj_xt q68_73 rfl (pj_cl_nc rfl) (s68_73)
theorem q68_76 : pj_row 68 76 = some (.getfield 201, 3, 0, 0, 0) := by decide +kernel
theorem s68_76 {L : pj_Loc} {st : List Value} {N S : Nat} {H : pj_Heap} {o : Nat} : pj_step 68 (76, L, .ref o :: st, (N, S, H)) = pj_pv 79 L st (N, S, H) (pj_fld (H o) 0 0) := st_getfield q68_76
theorem x68_76 {L : pj_Loc} {st : List Value} {N S : Nat} {H : pj_Heap} {o : Nat} {o9 : Option Value × pj_Mem} : pj_Ends 68 (76, L, .ref o :: st, (N, S, H)) o9 = pj_then 68 o9 (pj_pv 79 L st (N, S, H) (pj_fld (H o) 0 0)) := pj_xt q68_76 rfl (pj_cl_nc rfl) (s68_76)
theorem q68_79 : pj_row 68 79 = some (.iload_n 3, 1, 0, 0, 0) := by decide +kernel
theorem s68_79 {st : List Value} {M : pj_Mem} {l : pj_Loc} {a0 a1 a2 : Option Value} {x : Int32} : pj_step 68 (79, a0 :: a1 :: a2 :: some (.int x) :: l, st, M) = some (80, a0 :: a1 :: a2 :: some (.int x) :: l, .int x :: st, M) := st_iload_n q68_79 rfl
theorem x68_79 {st : List Value} {M : pj_Mem} {l : pj_Loc} {a0 a1 a2 : Option Value} {x : Int32} {o9 : Option Value × pj_Mem} : pj_Ends 68 (79, a0 :: a1 :: a2 :: some (.int x) :: l, st, M) o9 = pj_Ends 68 (80, a0 :: a1 :: a2 :: some (.int x) :: l, .int x :: st, M) o9 := pj_xs (s68_79)
theorem q68_80 : pj_row 68 80 = some (.caload, 1, 0, 0, 0) := by decide +kernel
theorem s68_80 {L : pj_Loc} {st : List Value} {N S : Nat} {H : pj_Heap} {o : Nat} {i : Int32} : pj_step 68 (80, L, .int i :: .ref o :: st, (N, S, H)) = pj_pi 81 L st (N, S, H) (pj_arl (H o) 1 i) := st_caload q68_80
theorem x68_80 {L : pj_Loc} {st : List Value} {N S : Nat} {H : pj_Heap} {o : Nat} {i : Int32} {o9 : Option Value × pj_Mem} : pj_Ends 68 (80, L, .int i :: .ref o :: st, (N, S, H)) o9 = pj_then 68 o9 (pj_pi 81 L st (N, S, H) (pj_arl (H o) 1 i)) := pj_xt q68_80 rfl (pj_cl_nc rfl) (s68_80)
theorem q68_81 : pj_row 68 81 = some (.bipush 59, 2, 0, 0, 0) := by decide +kernel
theorem s68_81 {L : pj_Loc} {st : List Value} {M : pj_Mem}  : pj_step 68 (81, L, st, M) = some (83, L, .int 59 :: st, M) := st_bipush q68_81 (by decide +kernel)
theorem x68_81 {L : pj_Loc} {st : List Value} {M : pj_Mem}  {o9 : Option Value × pj_Mem} : pj_Ends 68 (81, L, st, M) o9 = pj_Ends 68 (83, L, .int 59 :: st, M) o9 := pj_xs (s68_81)
theorem q68_83 : pj_row 68 83 = some (.if_icmp .ne 11, 3, 94, 0, 0) := by decide +kernel
theorem s68_83 {L : pj_Loc} {st : List Value} {M : pj_Mem} {x y : Int32} : pj_step 68 (83, L, .int y :: .int x :: st, M) = some (if ¬ x = y then 94 else 86, L, st, M) := st_icmp_ne q68_83
theorem x68_83 {L : pj_Loc} {st : List Value} {M : pj_Mem} {x y : Int32} {o9 : Option Value × pj_Mem} : pj_Ends 68 (83, L, .int y :: .int x :: st, M) o9 = pj_Ends 68 (if ¬ x = y then 94 else 86, L, st, M) o9 := pj_xs (s68_83)
theorem q68_86 : pj_row 68 86 = some (.iload_n 2, 1, 0, 0, 0) := by decide +kernel
theorem s68_86 {st : List Value} {M : pj_Mem} {l : pj_Loc} {a0 a1 : Option Value} {x : Int32} : pj_step 68 (86, a0 :: a1 :: some (.int x) :: l, st, M) = some (87, a0 :: a1 :: some (.int x) :: l, .int x :: st, M) := st_iload_n q68_86 rfl
theorem x68_86 {st : List Value} {M : pj_Mem} {l : pj_Loc} {a0 a1 : Option Value} {x : Int32} {o9 : Option Value × pj_Mem} : pj_Ends 68 (86, a0 :: a1 :: some (.int x) :: l, st, M) o9 = pj_Ends 68 (87, a0 :: a1 :: some (.int x) :: l, .int x :: st, M) o9 := pj_xs (s68_86)
theorem q68_87 : pj_row 68 87 = some (.aload_n 0, 1, 0, 0, 0) := by decide +kernel
theorem s68_87 {st : List Value} {M : pj_Mem} {l : pj_Loc} {x : Nat} : pj_step 68 (87, some (.ref x) :: l, st, M) = some (88, some (.ref x) :: l, .ref x :: st, M) := st_aload_n q68_87 rfl
theorem x68_87 {st : List Value} {M : pj_Mem} {l : pj_Loc} {x : Nat} {o9 : Option Value × pj_Mem} : pj_Ends 68 (87, some (.ref x) :: l, st, M) o9 = pj_Ends 68 (88, some (.ref x) :: l, .ref x :: st, M) o9 := pj_xs (s68_87)
theorem q68_88 : pj_row 68 88 = some (.aload_n 1, 1, 0, 0, 0) := by decide +kernel
theorem s68_88 {st : List Value} {M : pj_Mem} {l : pj_Loc} {a0 : Option Value} {x : Nat} : pj_step 68 (88, a0 :: some (.ref x) :: l, st, M) = some (89, a0 :: some (.ref x) :: l, .ref x :: st, M) := st_aload_n q68_88 rfl
theorem x68_88 {st : List Value} {M : pj_Mem} {l : pj_Loc} {a0 : Option Value} {x : Nat} {o9 : Option Value × pj_Mem} : pj_Ends 68 (88, a0 :: some (.ref x) :: l, st, M) o9 = pj_Ends 68 (89, a0 :: some (.ref x) :: l, .ref x :: st, M) o9 := pj_xs (s68_88)
theorem q68_89 : pj_row 68 89 = some (.invokevirtual 205, 3, 69, 2, 0) := by decide +kernel
theorem e68_89 {L : pj_Loc} {st : List Value} {N S : Nat} {H : pj_Heap} {o : Option Value × pj_Mem} {M' : pj_Mem} {x0 : Nat} {x1 : Nat} {r : Int32} (h4 : pj_le4 st = true) (hu : pj_isU 5 (H x0) = true) (h1 : pj_Ends 69 (0, [some (.ref x0), some (.ref x1)], [], (N, S, H)) (some (.int r), M')) (h2 : pj_Ends 68 (92, L, .int r :: st, M') o) : pj_Ends 68 (89, L, .ref x1 :: .ref x0 :: st, (N, S, H)) o := ec_v2 q68_89 (Or.inl rfl) h4 hu rfl h1 h2
theorem q68_92 : pj_row 68 92 = some (.ior, 1, 0, 0, 0) := by decide +kernel
theorem s68_92 {L : pj_Loc} {st : List Value} {M : pj_Mem} {x y : Int32} : pj_step 68 (92, L, .int y :: .int x :: st, M) = some (93, L, .int (x ||| y) :: st, M) := st_ior q68_92
theorem x68_92 {L : pj_Loc} {st : List Value} {M : pj_Mem} {x y : Int32} {o9 : Option Value × pj_Mem} : pj_Ends 68 (92, L, .int y :: .int x :: st, M) o9 = pj_Ends 68 (93, L, .int (x ||| y) :: st, M) o9 := pj_xs (s68_92)
theorem q68_93 : pj_row 68 93 = some (.istore_n 2, 1, 0, 0, 0) := by decide +kernel
theorem s68_93 {st : List Value} {M : pj_Mem} {l : pj_Loc} {a0 a1 a2 : Option Value} {x : Int32} (h : pj_long a1 = false) : pj_step 68 (93, a0 :: a1 :: a2 :: l, .int x :: st, M) = some (94, a0 :: a1 :: some (.int x) :: l, st, M) := st_istore_n q68_93 (pj_st_2 h)
theorem x68_93 {st : List Value} {M : pj_Mem} {l : pj_Loc} {a0 a1 a2 : Option Value} {x : Int32} (h : pj_long a1 = false) {o9 : Option Value × pj_Mem} : pj_Ends 68 (93, a0 :: a1 :: a2 :: l, .int x :: st, M) o9 = pj_Ends 68 (94, a0 :: a1 :: some (.int x) :: l, st, M) o9 := pj_xs (s68_93 h)
theorem q68_94 : pj_row 68 94 = some (.aload_n 1, 1, 0, 0, 0) := by decide +kernel
theorem s68_94 {st : List Value} {M : pj_Mem} {l : pj_Loc} {a0 : Option Value} {x : Nat} : pj_step 68 (94, a0 :: some (.ref x) :: l, st, M) = some (95, a0 :: some (.ref x) :: l, .ref x :: st, M) := st_aload_n q68_94 rfl
theorem x68_94 {st : List Value} {M : pj_Mem} {l : pj_Loc} {a0 : Option Value} {x : Nat} {o9 : Option Value × pj_Mem} : pj_Ends 68 (94, a0 :: some (.ref x) :: l, st, M) o9 = pj_Ends 68 (95, a0 :: some (.ref x) :: l, .ref x :: st, M) o9 := pj_xs (s68_94)
theorem q68_95 : pj_row 68 95 = some (.aload_n 0, 1, 0, 0, 0) := by decide +kernel
theorem s68_95 {st : List Value} {M : pj_Mem} {l : pj_Loc} {x : Nat} : pj_step 68 (95, some (.ref x) :: l, st, M) = some (96, some (.ref x) :: l, .ref x :: st, M) := st_aload_n q68_95 rfl
theorem x68_95 {st : List Value} {M : pj_Mem} {l : pj_Loc} {x : Nat} {o9 : Option Value × pj_Mem} : pj_Ends 68 (95, some (.ref x) :: l, st, M) o9 = pj_Ends 68 (96, some (.ref x) :: l, .ref x :: st, M) o9 := pj_xs (s68_95)
theorem q68_96 : pj_row 68 96 = some (.getfield 29, 3, 5, 3, 0) := by decide +kernel
theorem s68_96 {L : pj_Loc} {st : List Value} {N S : Nat} {H : pj_Heap} {o : Nat} : pj_step 68 (96, L, .ref o :: st, (N, S, H)) = pj_pv 99 L st (N, S, H) (pj_fld (H o) 5 3) := st_getfield q68_96
theorem x68_96 {L : pj_Loc} {st : List Value} {N S : Nat} {H : pj_Heap} {o : Nat} {o9 : Option Value × pj_Mem} : pj_Ends 68 (96, L, .ref o :: st, (N, S, H)) o9 = pj_then 68 o9 (pj_pv 99 L st (N, S, H) (pj_fld (H o) 5 3)) := pj_xt q68_96 rfl (pj_cl_nc rfl) (s68_96)
theorem q68_99 : pj_row 68 99 = some (.getfield 201, 3, 0, 0, 0) := by decide +kernel
theorem s68_99 {L : pj_Loc} {st : List Value} {N S : Nat} {H : pj_Heap} {o : Nat} : pj_step 68 (99, L, .ref o :: st, (N, S, H)) = pj_pv 102 L st (N, S, H) (pj_fld (H o) 0 0) := st_getfield q68_99
theorem x68_99 {L : pj_Loc} {st : List Value} {N S : Nat} {H : pj_Heap} {o : Nat} {o9 : Option Value × pj_Mem} : pj_Ends 68 (99, L, .ref o :: st, (N, S, H)) o9 = pj_then 68 o9 (pj_pv 102 L st (N, S, H) (pj_fld (H o) 0 0)) := pj_xt q68_99 rfl (pj_cl_nc rfl) (s68_99)
theorem q68_102 : pj_row 68 102 = some (.iload_n 3, 1, 0, 0, 0) := by decide +kernel
theorem s68_102 {st : List Value} {M : pj_Mem} {l : pj_Loc} {a0 a1 a2 : Option Value} {x : Int32} : pj_step 68 (102, a0 :: a1 :: a2 :: some (.int x) :: l, st, M) = some (103, a0 :: a1 :: a2 :: some (.int x) :: l, .int x :: st, M) := st_iload_n q68_102 rfl
theorem x68_102 {st : List Value} {M : pj_Mem} {l : pj_Loc} {a0 a1 a2 : Option Value} {x : Int32} {o9 : Option Value × pj_Mem} : pj_Ends 68 (102, a0 :: a1 :: a2 :: some (.int x) :: l, st, M) o9 = pj_Ends 68 (103, a0 :: a1 :: a2 :: some (.int x) :: l, .int x :: st, M) o9 := pj_xs (s68_102)
theorem q68_103 : pj_row 68 103 = some (.caload, 1, 0, 0, 0) := by decide +kernel
theorem s68_103 {L : pj_Loc} {st : List Value} {N S : Nat} {H : pj_Heap} {o : Nat} {i : Int32} : pj_step 68 (103, L, .int i :: .ref o :: st, (N, S, H)) = pj_pi 104 L st (N, S, H) (pj_arl (H o) 1 i) := st_caload q68_103
theorem x68_103 {L : pj_Loc} {st : List Value} {N S : Nat} {H : pj_Heap} {o : Nat} {i : Int32} {o9 : Option Value × pj_Mem} : pj_Ends 68 (103, L, .int i :: .ref o :: st, (N, S, H)) o9 = pj_then 68 o9 (pj_pi 104 L st (N, S, H) (pj_arl (H o) 1 i)) := pj_xt q68_103 rfl (pj_cl_nc rfl) (s68_103)
theorem q68_104 : pj_row 68 104 = some (.invokevirtual 209, 3, 61, 2, 0) := by decide +kernel
theorem e68_104 {L : pj_Loc} {st : List Value} {N S : Nat} {H : pj_Heap} {o : Option Value × pj_Mem} {M' : pj_Mem} {x0 : Nat} {x1 : Int32} {r : Int32} (h4 : pj_le4 st = true) (hu : pj_isU 1 (H x0) = true) (h1 : pj_Ends 61 (0, [some (.ref x0), some (.int x1)], [], (N, S, H)) (some (.int r), M')) (h2 : pj_Ends 68 (107, L, .int r :: st, M') o) : pj_Ends 68 (104, L, .int x1 :: .ref x0 :: st, (N, S, H)) o := ec_v2 q68_104 (Or.inl rfl) h4 hu rfl h1 h2
theorem q68_107 : pj_row 68 107 = some (.pop, 1, 0, 0, 0) := by decide +kernel
theorem s68_107 {L : pj_Loc} {st : List Value} {M : pj_Mem} {x : Nat} : pj_step 68 (107, L, .ref x :: st, M) = some (108, L, st, M) := st_pop_ref q68_107
theorem x68_107 {L : pj_Loc} {st : List Value} {M : pj_Mem} {x : Nat} {o9 : Option Value × pj_Mem} : pj_Ends 68 (107, L, .ref x :: st, M) o9 = pj_Ends 68 (108, L, st, M) o9 := pj_xs (s68_107)
theorem s68_107i {L : pj_Loc} {st : List Value} {M : pj_Mem} {x : Int32} : pj_step 68 (107, L, .int x :: st, M) = some (108, L, st, M) := st_pop_int q68_107
theorem x68_107i {L : pj_Loc} {st : List Value} {M : pj_Mem} {x : Int32} {o9 : Option Value × pj_Mem} : pj_Ends 68 (107, L, .int x :: st, M) o9 = pj_Ends 68 (108, L, st, M) o9 := pj_xs (s68_107i)
theorem q68_108 : pj_row 68 108 = some (.iinc 3 1, 3, 0, 0, 0) := by decide +kernel
theorem s68_108 {st : List Value} {M : pj_Mem} {l : pj_Loc} {a0 a1 a2 : Option Value} {x : Int32} (h : pj_long a2 = false) : pj_step 68 (108, a0 :: a1 :: a2 :: some (.int x) :: l, st, M) = some (111, a0 :: a1 :: a2 :: some (.int (x + 1)) :: l, st, M) := st_iinc q68_108 rfl (congrArg (fun y => x + y) (show Int32.ofInt 1 = 1 by decide +kernel)) (pj_st_3 h)
theorem x68_108 {st : List Value} {M : pj_Mem} {l : pj_Loc} {a0 a1 a2 : Option Value} {x : Int32} (h : pj_long a2 = false) {o9 : Option Value × pj_Mem} : pj_Ends 68 (108, a0 :: a1 :: a2 :: some (.int x) :: l, st, M) o9 = pj_Ends 68 (111, a0 :: a1 :: a2 :: some (.int (x + 1)) :: l, st, M) o9 := pj_xs (s68_108 h)
theorem q68_111 : pj_row 68 111 = some (.goto (-50), 3, 61, 0, 0) := by decide +kernel
theorem s68_111 {L : pj_Loc} {st : List Value} {M : pj_Mem}  : pj_step 68 (111, L, st, M) = some (61, L, st, M) := st_goto q68_111
theorem x68_111 {L : pj_Loc} {st : List Value} {M : pj_Mem}  {o9 : Option Value × pj_Mem} : pj_Ends 68 (111, L, st, M) o9 = pj_Ends 68 (61, L, st, M) o9 := pj_xs (s68_111)
theorem q68_114 : pj_row 68 114 = some (.iload_n 2, 1, 0, 0, 0) := by decide +kernel
theorem s68_114 {st : List Value} {M : pj_Mem} {l : pj_Loc} {a0 a1 : Option Value} {x : Int32} : pj_step 68 (114, a0 :: a1 :: some (.int x) :: l, st, M) = some (115, a0 :: a1 :: some (.int x) :: l, .int x :: st, M) := st_iload_n q68_114 rfl
theorem x68_114 {st : List Value} {M : pj_Mem} {l : pj_Loc} {a0 a1 : Option Value} {x : Int32} {o9 : Option Value × pj_Mem} : pj_Ends 68 (114, a0 :: a1 :: some (.int x) :: l, st, M) o9 = pj_Ends 68 (115, a0 :: a1 :: some (.int x) :: l, .int x :: st, M) o9 := pj_xs (s68_114)
theorem q68_115 : pj_row 68 115 = some (.aload_n 0, 1, 0, 0, 0) := by decide +kernel
theorem s68_115 {st : List Value} {M : pj_Mem} {l : pj_Loc} {x : Nat} : pj_step 68 (115, some (.ref x) :: l, st, M) = some (116, some (.ref x) :: l, .ref x :: st, M) := st_aload_n q68_115 rfl
theorem x68_115 {st : List Value} {M : pj_Mem} {l : pj_Loc} {x : Nat} {o9 : Option Value × pj_Mem} : pj_Ends 68 (115, some (.ref x) :: l, st, M) o9 = pj_Ends 68 (116, some (.ref x) :: l, .ref x :: st, M) o9 := pj_xs (s68_115)
theorem q68_116 : pj_row 68 116 = some (.aload_n 1, 1, 0, 0, 0) := by decide +kernel
theorem s68_116 {st : List Value} {M : pj_Mem} {l : pj_Loc} {a0 : Option Value} {x : Nat} : pj_step 68 (116, a0 :: some (.ref x) :: l, st, M) = some (117, a0 :: some (.ref x) :: l, .ref x :: st, M) := st_aload_n q68_116 rfl
theorem x68_116 {st : List Value} {M : pj_Mem} {l : pj_Loc} {a0 : Option Value} {x : Nat} {o9 : Option Value × pj_Mem} : pj_Ends 68 (116, a0 :: some (.ref x) :: l, st, M) o9 = pj_Ends 68 (117, a0 :: some (.ref x) :: l, .ref x :: st, M) o9 := pj_xs (s68_116)
theorem q68_117 : pj_row 68 117 = some (.invokevirtual 205, 3, 69, 2, 0) := by decide +kernel
theorem e68_117 {L : pj_Loc} {st : List Value} {N S : Nat} {H : pj_Heap} {o : Option Value × pj_Mem} {M' : pj_Mem} {x0 : Nat} {x1 : Nat} {r : Int32} (h4 : pj_le4 st = true) (hu : pj_isU 5 (H x0) = true) (h1 : pj_Ends 69 (0, [some (.ref x0), some (.ref x1)], [], (N, S, H)) (some (.int r), M')) (h2 : pj_Ends 68 (120, L, .int r :: st, M') o) : pj_Ends 68 (117, L, .ref x1 :: .ref x0 :: st, (N, S, H)) o := ec_v2 q68_117 (Or.inl rfl) h4 hu rfl h1 h2
theorem q68_120 : pj_row 68 120 = some (.ior, 1, 0, 0, 0) := by decide +kernel
theorem s68_120 {L : pj_Loc} {st : List Value} {M : pj_Mem} {x y : Int32} : pj_step 68 (120, L, .int y :: .int x :: st, M) = some (121, L, .int (x ||| y) :: st, M) := st_ior q68_120
theorem x68_120 {L : pj_Loc} {st : List Value} {M : pj_Mem} {x y : Int32} {o9 : Option Value × pj_Mem} : pj_Ends 68 (120, L, .int y :: .int x :: st, M) o9 = pj_Ends 68 (121, L, .int (x ||| y) :: st, M) o9 := pj_xs (s68_120)
theorem q68_121 : pj_row 68 121 = some (.istore_n 2, 1, 0, 0, 0) := by decide +kernel
theorem s68_121 {st : List Value} {M : pj_Mem} {l : pj_Loc} {a0 a1 a2 : Option Value} {x : Int32} (h : pj_long a1 = false) : pj_step 68 (121, a0 :: a1 :: a2 :: l, .int x :: st, M) = some (122, a0 :: a1 :: some (.int x) :: l, st, M) := st_istore_n q68_121 (pj_st_2 h)
theorem x68_121 {st : List Value} {M : pj_Mem} {l : pj_Loc} {a0 a1 a2 : Option Value} {x : Int32} (h : pj_long a1 = false) {o9 : Option Value × pj_Mem} : pj_Ends 68 (121, a0 :: a1 :: a2 :: l, .int x :: st, M) o9 = pj_Ends 68 (122, a0 :: a1 :: some (.int x) :: l, st, M) o9 := pj_xs (s68_121 h)
theorem q68_122 : pj_row 68 122 = some (.aload_n 0, 1, 0, 0, 0) := by decide +kernel
theorem s68_122 {st : List Value} {M : pj_Mem} {l : pj_Loc} {x : Nat} : pj_step 68 (122, some (.ref x) :: l, st, M) = some (123, some (.ref x) :: l, .ref x :: st, M) := st_aload_n q68_122 rfl
theorem x68_122 {st : List Value} {M : pj_Mem} {l : pj_Loc} {x : Nat} {o9 : Option Value × pj_Mem} : pj_Ends 68 (122, some (.ref x) :: l, st, M) o9 = pj_Ends 68 (123, some (.ref x) :: l, .ref x :: st, M) o9 := pj_xs (s68_122)
theorem q68_123 : pj_row 68 123 = some (.getfield 29, 3, 5, 3, 0) := by decide +kernel
theorem s68_123 {L : pj_Loc} {st : List Value} {N S : Nat} {H : pj_Heap} {o : Nat} : pj_step 68 (123, L, .ref o :: st, (N, S, H)) = pj_pv 126 L st (N, S, H) (pj_fld (H o) 5 3) := st_getfield q68_123
theorem x68_123 {L : pj_Loc} {st : List Value} {N S : Nat} {H : pj_Heap} {o : Nat} {o9 : Option Value × pj_Mem} : pj_Ends 68 (123, L, .ref o :: st, (N, S, H)) o9 = pj_then 68 o9 (pj_pv 126 L st (N, S, H) (pj_fld (H o) 5 3)) := pj_xt q68_123 rfl (pj_cl_nc rfl) (s68_123)
theorem q68_126 : pj_row 68 126 = some (.iconst 0, 1, 0, 0, 0) := by decide +kernel
theorem s68_126 {L : pj_Loc} {st : List Value} {M : pj_Mem}  : pj_step 68 (126, L, st, M) = some (127, L, .int 0 :: st, M) := st_iconst q68_126 (by decide +kernel)
theorem x68_126 {L : pj_Loc} {st : List Value} {M : pj_Mem}  {o9 : Option Value × pj_Mem} : pj_Ends 68 (126, L, st, M) o9 = pj_Ends 68 (127, L, .int 0 :: st, M) o9 := pj_xs (s68_126)
theorem q68_127 : pj_row 68 127 = some (.putfield 145, 3, 0, 2, 0) := by decide +kernel
theorem s68_127 {L : pj_Loc} {st : List Value} {N S : Nat} {H : pj_Heap} {o : Nat} {v : Value} : pj_step 68 (127, L, v :: .ref o :: st, (N, S, H)) = pj_set 130 L st (N, S, H) o (pj_fset (H o) 0 2 v) := st_putfield q68_127
theorem x68_127 {L : pj_Loc} {st : List Value} {N S : Nat} {H : pj_Heap} {o : Nat} {v : Value} {o9 : Option Value × pj_Mem} : pj_Ends 68 (127, L, v :: .ref o :: st, (N, S, H)) o9 = pj_then 68 o9 (pj_set 130 L st (N, S, H) o (pj_fset (H o) 0 2 v)) := pj_xt q68_127 rfl (pj_cl_nc rfl) (s68_127)
theorem q68_130 : pj_row 68 130 = some (.iload_n 2, 1, 0, 0, 0) := by decide +kernel
theorem s68_130 {st : List Value} {M : pj_Mem} {l : pj_Loc} {a0 a1 : Option Value} {x : Int32} : pj_step 68 (130, a0 :: a1 :: some (.int x) :: l, st, M) = some (131, a0 :: a1 :: some (.int x) :: l, .int x :: st, M) := st_iload_n q68_130 rfl
theorem x68_130 {st : List Value} {M : pj_Mem} {l : pj_Loc} {a0 a1 : Option Value} {x : Int32} {o9 : Option Value × pj_Mem} : pj_Ends 68 (130, a0 :: a1 :: some (.int x) :: l, st, M) o9 = pj_Ends 68 (131, a0 :: a1 :: some (.int x) :: l, .int x :: st, M) o9 := pj_xs (s68_130)
theorem q68_131 : pj_row 68 131 = some (.ireturn, 1, 0, 0, 0) := by decide +kernel
theorem t68_131 {L : pj_Loc} {M : pj_Mem} {v : Int32} : pj_Ends 68 (131, L, [.int v], M) (some (.int v), M) := pj_Ends.ret q68_131 (pj_rtn_i rt68)
theorem rt69 : pj_rt 69 = some .int := rfl
theorem q69_0 : pj_row 69 0 = some (.aload_n 0, 1, 0, 0, 0) := by decide +kernel
theorem s69_0 {st : List Value} {M : pj_Mem} {l : pj_Loc} {x : Nat} : pj_step 69 (0, some (.ref x) :: l, st, M) = some (1, some (.ref x) :: l, .ref x :: st, M) := st_aload_n q69_0 rfl
theorem x69_0 {st : List Value} {M : pj_Mem} {l : pj_Loc} {x : Nat} {o9 : Option Value × pj_Mem} : pj_Ends 69 (0, some (.ref x) :: l, st, M) o9 = pj_Ends 69 (1, some (.ref x) :: l, .ref x :: st, M) o9 := pj_xs (s69_0)
theorem q69_1 : pj_row 69 1 = some (.aload_n 0, 1, 0, 0, 0) := by decide +kernel
theorem s69_1 {st : List Value} {M : pj_Mem} {l : pj_Loc} {x : Nat} : pj_step 69 (1, some (.ref x) :: l, st, M) = some (2, some (.ref x) :: l, .ref x :: st, M) := st_aload_n q69_1 rfl
theorem x69_1 {st : List Value} {M : pj_Mem} {l : pj_Loc} {x : Nat} {o9 : Option Value × pj_Mem} : pj_Ends 69 (1, some (.ref x) :: l, st, M) o9 = pj_Ends 69 (2, some (.ref x) :: l, .ref x :: st, M) o9 := pj_xs (s69_1)
theorem q69_2 : pj_row 69 2 = some (.getfield 10, 3, 5, 0, 0) := by decide +kernel
theorem s69_2 {L : pj_Loc} {st : List Value} {N S : Nat} {H : pj_Heap} {o : Nat} : pj_step 69 (2, L, .ref o :: st, (N, S, H)) = pj_pv 5 L st (N, S, H) (pj_fld (H o) 5 0) := st_getfield q69_2
theorem x69_2 {L : pj_Loc} {st : List Value} {N S : Nat} {H : pj_Heap} {o : Nat} {o9 : Option Value × pj_Mem} : pj_Ends 69 (2, L, .ref o :: st, (N, S, H)) o9 = pj_then 69 o9 (pj_pv 5 L st (N, S, H) (pj_fld (H o) 5 0)) := pj_xt q69_2 rfl (pj_cl_nc rfl) (s69_2)
theorem q69_5 : pj_row 69 5 = some (.aload_n 1, 1, 0, 0, 0) := by decide +kernel
theorem s69_5 {st : List Value} {M : pj_Mem} {l : pj_Loc} {a0 : Option Value} {x : Nat} : pj_step 69 (5, a0 :: some (.ref x) :: l, st, M) = some (6, a0 :: some (.ref x) :: l, .ref x :: st, M) := st_aload_n q69_5 rfl
theorem x69_5 {st : List Value} {M : pj_Mem} {l : pj_Loc} {a0 : Option Value} {x : Nat} {o9 : Option Value × pj_Mem} : pj_Ends 69 (5, a0 :: some (.ref x) :: l, st, M) o9 = pj_Ends 69 (6, a0 :: some (.ref x) :: l, .ref x :: st, M) o9 := pj_xs (s69_5)
theorem q69_6 : pj_row 69 6 = some (.getfield 219, 3, 1, 0, 0) := by decide +kernel
theorem s69_6 {L : pj_Loc} {st : List Value} {N S : Nat} {H : pj_Heap} {o : Nat} : pj_step 69 (6, L, .ref o :: st, (N, S, H)) = pj_pv 9 L st (N, S, H) (pj_fld (H o) 1 0) := st_getfield q69_6
theorem x69_6 {L : pj_Loc} {st : List Value} {N S : Nat} {H : pj_Heap} {o : Nat} {o9 : Option Value × pj_Mem} : pj_Ends 69 (6, L, .ref o :: st, (N, S, H)) o9 = pj_then 69 o9 (pj_pv 9 L st (N, S, H) (pj_fld (H o) 1 0)) := pj_xt q69_6 rfl (pj_cl_nc rfl) (s69_6)
theorem q69_9 : pj_row 69 9 = some (.iconst 0, 1, 0, 0, 0) := by decide +kernel
theorem s69_9 {L : pj_Loc} {st : List Value} {M : pj_Mem}  : pj_step 69 (9, L, st, M) = some (10, L, .int 0 :: st, M) := st_iconst q69_9 (by decide +kernel)
theorem x69_9 {L : pj_Loc} {st : List Value} {M : pj_Mem}  {o9 : Option Value × pj_Mem} : pj_Ends 69 (9, L, st, M) o9 = pj_Ends 69 (10, L, .int 0 :: st, M) o9 := pj_xs (s69_9)
theorem q69_10 : pj_row 69 10 = some (.iaload, 1, 0, 0, 0) := by decide +kernel
theorem s69_10 {L : pj_Loc} {st : List Value} {N S : Nat} {H : pj_Heap} {o : Nat} {i : Int32} : pj_step 69 (10, L, .int i :: .ref o :: st, (N, S, H)) = pj_pi 11 L st (N, S, H) (pj_arl (H o) 0 i) := st_iaload q69_10
theorem x69_10 {L : pj_Loc} {st : List Value} {N S : Nat} {H : pj_Heap} {o : Nat} {i : Int32} {o9 : Option Value × pj_Mem} : pj_Ends 69 (10, L, .int i :: .ref o :: st, (N, S, H)) o9 = pj_then 69 o9 (pj_pi 11 L st (N, S, H) (pj_arl (H o) 0 i)) := pj_xt q69_10 rfl (pj_cl_nc rfl) (s69_10)
theorem q69_11 : pj_row 69 11 = some (.aload_n 1, 1, 0, 0, 0) := by decide +kernel
theorem s69_11 {st : List Value} {M : pj_Mem} {l : pj_Loc} {a0 : Option Value} {x : Nat} : pj_step 69 (11, a0 :: some (.ref x) :: l, st, M) = some (12, a0 :: some (.ref x) :: l, .ref x :: st, M) := st_aload_n q69_11 rfl
theorem x69_11 {st : List Value} {M : pj_Mem} {l : pj_Loc} {a0 : Option Value} {x : Nat} {o9 : Option Value × pj_Mem} : pj_Ends 69 (11, a0 :: some (.ref x) :: l, st, M) o9 = pj_Ends 69 (12, a0 :: some (.ref x) :: l, .ref x :: st, M) o9 := pj_xs (s69_11)
theorem q69_12 : pj_row 69 12 = some (.getfield 219, 3, 1, 0, 0) := by decide +kernel
theorem s69_12 {L : pj_Loc} {st : List Value} {N S : Nat} {H : pj_Heap} {o : Nat} : pj_step 69 (12, L, .ref o :: st, (N, S, H)) = pj_pv 15 L st (N, S, H) (pj_fld (H o) 1 0) := st_getfield q69_12
theorem x69_12 {L : pj_Loc} {st : List Value} {N S : Nat} {H : pj_Heap} {o : Nat} {o9 : Option Value × pj_Mem} : pj_Ends 69 (12, L, .ref o :: st, (N, S, H)) o9 = pj_then 69 o9 (pj_pv 15 L st (N, S, H) (pj_fld (H o) 1 0)) := pj_xt q69_12 rfl (pj_cl_nc rfl) (s69_12)
theorem q69_15 : pj_row 69 15 = some (.iconst 1, 1, 0, 0, 0) := by decide +kernel
theorem s69_15 {L : pj_Loc} {st : List Value} {M : pj_Mem}  : pj_step 69 (15, L, st, M) = some (16, L, .int 1 :: st, M) := st_iconst q69_15 (by decide +kernel)
theorem x69_15 {L : pj_Loc} {st : List Value} {M : pj_Mem}  {o9 : Option Value × pj_Mem} : pj_Ends 69 (15, L, st, M) o9 = pj_Ends 69 (16, L, .int 1 :: st, M) o9 := pj_xs (s69_15)
theorem q69_16 : pj_row 69 16 = some (.iaload, 1, 0, 0, 0) := by decide +kernel
theorem s69_16 {L : pj_Loc} {st : List Value} {N S : Nat} {H : pj_Heap} {o : Nat} {i : Int32} : pj_step 69 (16, L, .int i :: .ref o :: st, (N, S, H)) = pj_pi 17 L st (N, S, H) (pj_arl (H o) 0 i) := st_iaload q69_16
theorem x69_16 {L : pj_Loc} {st : List Value} {N S : Nat} {H : pj_Heap} {o : Nat} {i : Int32} {o9 : Option Value × pj_Mem} : pj_Ends 69 (16, L, .int i :: .ref o :: st, (N, S, H)) o9 = pj_then 69 o9 (pj_pi 17 L st (N, S, H) (pj_arl (H o) 0 i)) := pj_xt q69_16 rfl (pj_cl_nc rfl) (s69_16)
theorem q69_17 : pj_row 69 17 = some (.aload_n 1, 1, 0, 0, 0) := by decide +kernel
theorem s69_17 {st : List Value} {M : pj_Mem} {l : pj_Loc} {a0 : Option Value} {x : Nat} : pj_step 69 (17, a0 :: some (.ref x) :: l, st, M) = some (18, a0 :: some (.ref x) :: l, .ref x :: st, M) := st_aload_n q69_17 rfl
theorem x69_17 {st : List Value} {M : pj_Mem} {l : pj_Loc} {a0 : Option Value} {x : Nat} {o9 : Option Value × pj_Mem} : pj_Ends 69 (17, a0 :: some (.ref x) :: l, st, M) o9 = pj_Ends 69 (18, a0 :: some (.ref x) :: l, .ref x :: st, M) o9 := pj_xs (s69_17)
theorem q69_18 : pj_row 69 18 = some (.getfield 219, 3, 1, 0, 0) := by decide +kernel
theorem s69_18 {L : pj_Loc} {st : List Value} {N S : Nat} {H : pj_Heap} {o : Nat} : pj_step 69 (18, L, .ref o :: st, (N, S, H)) = pj_pv 21 L st (N, S, H) (pj_fld (H o) 1 0) := st_getfield q69_18
theorem x69_18 {L : pj_Loc} {st : List Value} {N S : Nat} {H : pj_Heap} {o : Nat} {o9 : Option Value × pj_Mem} : pj_Ends 69 (18, L, .ref o :: st, (N, S, H)) o9 = pj_then 69 o9 (pj_pv 21 L st (N, S, H) (pj_fld (H o) 1 0)) := pj_xt q69_18 rfl (pj_cl_nc rfl) (s69_18)
theorem q69_21 : pj_row 69 21 = some (.iconst 2, 1, 0, 0, 0) := by decide +kernel
theorem s69_21 {L : pj_Loc} {st : List Value} {M : pj_Mem}  : pj_step 69 (21, L, st, M) = some (22, L, .int 2 :: st, M) := st_iconst q69_21 (by decide +kernel)
theorem x69_21 {L : pj_Loc} {st : List Value} {M : pj_Mem}  {o9 : Option Value × pj_Mem} : pj_Ends 69 (21, L, st, M) o9 = pj_Ends 69 (22, L, .int 2 :: st, M) o9 := pj_xs (s69_21)
theorem q69_22 : pj_row 69 22 = some (.iaload, 1, 0, 0, 0) := by decide +kernel
theorem s69_22 {L : pj_Loc} {st : List Value} {N S : Nat} {H : pj_Heap} {o : Nat} {i : Int32} : pj_step 69 (22, L, .int i :: .ref o :: st, (N, S, H)) = pj_pi 23 L st (N, S, H) (pj_arl (H o) 0 i) := st_iaload q69_22
theorem x69_22 {L : pj_Loc} {st : List Value} {N S : Nat} {H : pj_Heap} {o : Nat} {i : Int32} {o9 : Option Value × pj_Mem} : pj_Ends 69 (22, L, .int i :: .ref o :: st, (N, S, H)) o9 = pj_then 69 o9 (pj_pi 23 L st (N, S, H) (pj_arl (H o) 0 i)) := pj_xt q69_22 rfl (pj_cl_nc rfl) (s69_22)
theorem q69_23 : pj_row 69 23 = some (.aload_n 1, 1, 0, 0, 0) := by decide +kernel
theorem s69_23 {st : List Value} {M : pj_Mem} {l : pj_Loc} {a0 : Option Value} {x : Nat} : pj_step 69 (23, a0 :: some (.ref x) :: l, st, M) = some (24, a0 :: some (.ref x) :: l, .ref x :: st, M) := st_aload_n q69_23 rfl
theorem x69_23 {st : List Value} {M : pj_Mem} {l : pj_Loc} {a0 : Option Value} {x : Nat} {o9 : Option Value × pj_Mem} : pj_Ends 69 (23, a0 :: some (.ref x) :: l, st, M) o9 = pj_Ends 69 (24, a0 :: some (.ref x) :: l, .ref x :: st, M) o9 := pj_xs (s69_23)
theorem q69_24 : pj_row 69 24 = some (.getfield 220, 3, 1, 1, 0) := by decide +kernel
theorem s69_24 {L : pj_Loc} {st : List Value} {N S : Nat} {H : pj_Heap} {o : Nat} : pj_step 69 (24, L, .ref o :: st, (N, S, H)) = pj_pv 27 L st (N, S, H) (pj_fld (H o) 1 1) := st_getfield q69_24
theorem x69_24 {L : pj_Loc} {st : List Value} {N S : Nat} {H : pj_Heap} {o : Nat} {o9 : Option Value × pj_Mem} : pj_Ends 69 (24, L, .ref o :: st, (N, S, H)) o9 = pj_then 69 o9 (pj_pv 27 L st (N, S, H) (pj_fld (H o) 1 1)) := pj_xt q69_24 rfl (pj_cl_nc rfl) (s69_24)
theorem q69_27 : pj_row 69 27 = some (.invokevirtual 70, 3, 14, 6, 0) := by decide +kernel
theorem e69_27 {L : pj_Loc} {st : List Value} {N S : Nat} {H : pj_Heap} {o : Option Value × pj_Mem} {M' : pj_Mem} {x0 : Nat} {x1 : Nat} {x2 : Int32} {x3 : Int32} {x4 : Int32} {x5 : Int32} {r : Int32} (h4 : pj_le4 st = true) (hu : pj_isU 5 (H x0) = true) (h1 : pj_Ends 14 (0, [some (.ref x0), some (.ref x1), some (.int x2), some (.int x3), some (.int x4), some (.int x5)], [], (N, S, H)) (some (.int r), M')) (h2 : pj_Ends 69 (30, L, .int r :: st, M') o) : pj_Ends 69 (27, L, .int x5 :: .int x4 :: .int x3 :: .int x2 :: .ref x1 :: .ref x0 :: st, (N, S, H)) o := ec_v6 q69_27 (Or.inl rfl) h4 hu rfl h1 h2
theorem q69_30 : pj_row 69 30 = some (.ireturn, 1, 0, 0, 0) := by decide +kernel
theorem t69_30 {L : pj_Loc} {M : pj_Mem} {v : Int32} : pj_Ends 69 (30, L, [.int v], M) (some (.int v), M) := pj_Ends.ret q69_30 (pj_rtn_i rt69)
theorem rt70 : pj_rt 70 = some .int := rfl
theorem q70_0 : pj_row 70 0 = some (.aload_n 0, 1, 0, 0, 0) := by decide +kernel
theorem s70_0 {st : List Value} {M : pj_Mem} {l : pj_Loc} {x : Nat} : pj_step 70 (0, some (.ref x) :: l, st, M) = some (1, some (.ref x) :: l, .ref x :: st, M) := st_aload_n q70_0 rfl
theorem x70_0 {st : List Value} {M : pj_Mem} {l : pj_Loc} {x : Nat} {o9 : Option Value × pj_Mem} : pj_Ends 70 (0, some (.ref x) :: l, st, M) o9 = pj_Ends 70 (1, some (.ref x) :: l, .ref x :: st, M) o9 := pj_xs (s70_0)
theorem q70_1 : pj_row 70 1 = some (.getfield 148, 3, 5, 5, 0) := by decide +kernel
theorem s70_1 {L : pj_Loc} {st : List Value} {N S : Nat} {H : pj_Heap} {o : Nat} : pj_step 70 (1, L, .ref o :: st, (N, S, H)) = pj_pv 4 L st (N, S, H) (pj_fld (H o) 5 5) := st_getfield q70_1
theorem x70_1 {L : pj_Loc} {st : List Value} {N S : Nat} {H : pj_Heap} {o : Nat} {o9 : Option Value × pj_Mem} : pj_Ends 70 (1, L, .ref o :: st, (N, S, H)) o9 = pj_then 70 o9 (pj_pv 4 L st (N, S, H) (pj_fld (H o) 5 5)) := pj_xt q70_1 rfl (pj_cl_nc rfl) (s70_1)
theorem q70_4 : pj_row 70 4 = some (.ifCond .le 12, 3, 16, 0, 0) := by decide +kernel
theorem s70_4 {L : pj_Loc} {st : List Value} {M : pj_Mem} {x : Int32} : pj_step 70 (4, L, .int x :: st, M) = some (if x ≤ 0 then 16 else 7, L, st, M) := st_if_le q70_4
theorem x70_4 {L : pj_Loc} {st : List Value} {M : pj_Mem} {x : Int32} {o9 : Option Value × pj_Mem} : pj_Ends 70 (4, L, .int x :: st, M) o9 = pj_Ends 70 (if x ≤ 0 then 16 else 7, L, st, M) o9 := pj_xs (s70_4)
theorem q70_7 : pj_row 70 7 = some (.aload_n 0, 1, 0, 0, 0) := by decide +kernel
theorem s70_7 {st : List Value} {M : pj_Mem} {l : pj_Loc} {x : Nat} : pj_step 70 (7, some (.ref x) :: l, st, M) = some (8, some (.ref x) :: l, .ref x :: st, M) := st_aload_n q70_7 rfl
theorem x70_7 {st : List Value} {M : pj_Mem} {l : pj_Loc} {x : Nat} {o9 : Option Value × pj_Mem} : pj_Ends 70 (7, some (.ref x) :: l, st, M) o9 = pj_Ends 70 (8, some (.ref x) :: l, .ref x :: st, M) o9 := pj_xs (s70_7)
theorem q70_8 : pj_row 70 8 = some (.getfield 148, 3, 5, 5, 0) := by decide +kernel
theorem s70_8 {L : pj_Loc} {st : List Value} {N S : Nat} {H : pj_Heap} {o : Nat} : pj_step 70 (8, L, .ref o :: st, (N, S, H)) = pj_pv 11 L st (N, S, H) (pj_fld (H o) 5 5) := st_getfield q70_8
theorem x70_8 {L : pj_Loc} {st : List Value} {N S : Nat} {H : pj_Heap} {o : Nat} {o9 : Option Value × pj_Mem} : pj_Ends 70 (8, L, .ref o :: st, (N, S, H)) o9 = pj_then 70 o9 (pj_pv 11 L st (N, S, H) (pj_fld (H o) 5 5)) := pj_xt q70_8 rfl (pj_cl_nc rfl) (s70_8)
theorem q70_11 : pj_row 70 11 = some (.bipush 6, 2, 0, 0, 0) := by decide +kernel
theorem s70_11 {L : pj_Loc} {st : List Value} {M : pj_Mem}  : pj_step 70 (11, L, st, M) = some (13, L, .int 6 :: st, M) := st_bipush q70_11 (by decide +kernel)
theorem x70_11 {L : pj_Loc} {st : List Value} {M : pj_Mem}  {o9 : Option Value × pj_Mem} : pj_Ends 70 (11, L, st, M) o9 = pj_Ends 70 (13, L, .int 6 :: st, M) o9 := pj_xs (s70_11)
theorem q70_13 : pj_row 70 13 = some (.if_icmp .le 6, 3, 19, 0, 0) := by decide +kernel
theorem s70_13 {L : pj_Loc} {st : List Value} {M : pj_Mem} {x y : Int32} : pj_step 70 (13, L, .int y :: .int x :: st, M) = some (if x ≤ y then 19 else 16, L, st, M) := st_icmp_le q70_13
theorem x70_13 {L : pj_Loc} {st : List Value} {M : pj_Mem} {x y : Int32} {o9 : Option Value × pj_Mem} : pj_Ends 70 (13, L, .int y :: .int x :: st, M) o9 = pj_Ends 70 (if x ≤ y then 19 else 16, L, st, M) o9 := pj_xs (s70_13)
theorem q70_16 : pj_row 70 16 = some (.bipush (-5), 2, 0, 0, 0) := by decide +kernel
theorem s70_16 {L : pj_Loc} {st : List Value} {M : pj_Mem}  : pj_step 70 (16, L, st, M) = some (18, L, .int (-5) :: st, M) := st_bipush q70_16 (by decide +kernel)
theorem x70_16 {L : pj_Loc} {st : List Value} {M : pj_Mem}  {o9 : Option Value × pj_Mem} : pj_Ends 70 (16, L, st, M) o9 = pj_Ends 70 (18, L, .int (-5) :: st, M) o9 := pj_xs (s70_16)
theorem q70_18 : pj_row 70 18 = some (.ireturn, 1, 0, 0, 0) := by decide +kernel
theorem t70_18 {L : pj_Loc} {M : pj_Mem} {v : Int32} : pj_Ends 70 (18, L, [.int v], M) (some (.int v), M) := pj_Ends.ret q70_18 (pj_rtn_i rt70)
theorem q70_19 : pj_row 70 19 = some (.aload_n 0, 1, 0, 0, 0) := by decide +kernel
theorem s70_19 {st : List Value} {M : pj_Mem} {l : pj_Loc} {x : Nat} : pj_step 70 (19, some (.ref x) :: l, st, M) = some (20, some (.ref x) :: l, .ref x :: st, M) := st_aload_n q70_19 rfl
theorem x70_19 {st : List Value} {M : pj_Mem} {l : pj_Loc} {x : Nat} {o9 : Option Value × pj_Mem} : pj_Ends 70 (19, some (.ref x) :: l, st, M) o9 = pj_Ends 70 (20, some (.ref x) :: l, .ref x :: st, M) o9 := pj_xs (s70_19)
theorem q70_20 : pj_row 70 20 = some (.dup, 1, 0, 0, 0) := by decide +kernel
theorem s70_20 {L : pj_Loc} {st : List Value} {M : pj_Mem} {x : Nat} : pj_step 70 (20, L, .ref x :: st, M) = some (21, L, .ref x :: .ref x :: st, M) := st_dup_ref q70_20
theorem x70_20 {L : pj_Loc} {st : List Value} {M : pj_Mem} {x : Nat} {o9 : Option Value × pj_Mem} : pj_Ends 70 (20, L, .ref x :: st, M) o9 = pj_Ends 70 (21, L, .ref x :: .ref x :: st, M) o9 := pj_xs (s70_20)
theorem s70_20i {L : pj_Loc} {st : List Value} {M : pj_Mem} {x : Int32} : pj_step 70 (20, L, .int x :: st, M) = some (21, L, .int x :: .int x :: st, M) := st_dup_int q70_20
theorem x70_20i {L : pj_Loc} {st : List Value} {M : pj_Mem} {x : Int32} {o9 : Option Value × pj_Mem} : pj_Ends 70 (20, L, .int x :: st, M) o9 = pj_Ends 70 (21, L, .int x :: .int x :: st, M) o9 := pj_xs (s70_20i)
theorem q70_21 : pj_row 70 21 = some (.getfield 148, 3, 5, 5, 0) := by decide +kernel
theorem s70_21 {L : pj_Loc} {st : List Value} {N S : Nat} {H : pj_Heap} {o : Nat} : pj_step 70 (21, L, .ref o :: st, (N, S, H)) = pj_pv 24 L st (N, S, H) (pj_fld (H o) 5 5) := st_getfield q70_21
theorem x70_21 {L : pj_Loc} {st : List Value} {N S : Nat} {H : pj_Heap} {o : Nat} {o9 : Option Value × pj_Mem} : pj_Ends 70 (21, L, .ref o :: st, (N, S, H)) o9 = pj_then 70 o9 (pj_pv 24 L st (N, S, H) (pj_fld (H o) 5 5)) := pj_xt q70_21 rfl (pj_cl_nc rfl) (s70_21)
theorem q70_24 : pj_row 70 24 = some (.iconst 1, 1, 0, 0, 0) := by decide +kernel
theorem s70_24 {L : pj_Loc} {st : List Value} {M : pj_Mem}  : pj_step 70 (24, L, st, M) = some (25, L, .int 1 :: st, M) := st_iconst q70_24 (by decide +kernel)
theorem x70_24 {L : pj_Loc} {st : List Value} {M : pj_Mem}  {o9 : Option Value × pj_Mem} : pj_Ends 70 (24, L, st, M) o9 = pj_Ends 70 (25, L, .int 1 :: st, M) o9 := pj_xs (s70_24)
theorem q70_25 : pj_row 70 25 = some (.isub, 1, 0, 0, 0) := by decide +kernel
theorem s70_25 {L : pj_Loc} {st : List Value} {M : pj_Mem} {x y : Int32} : pj_step 70 (25, L, .int y :: .int x :: st, M) = some (26, L, .int (x - y) :: st, M) := st_isub q70_25
theorem x70_25 {L : pj_Loc} {st : List Value} {M : pj_Mem} {x y : Int32} {o9 : Option Value × pj_Mem} : pj_Ends 70 (25, L, .int y :: .int x :: st, M) o9 = pj_Ends 70 (26, L, .int (x - y) :: st, M) o9 := pj_xs (s70_25)
theorem q70_26 : pj_row 70 26 = some (.putfield 148, 3, 5, 5, 0) := by decide +kernel
theorem s70_26 {L : pj_Loc} {st : List Value} {N S : Nat} {H : pj_Heap} {o : Nat} {v : Value} : pj_step 70 (26, L, v :: .ref o :: st, (N, S, H)) = pj_set 29 L st (N, S, H) o (pj_fset (H o) 5 5 v) := st_putfield q70_26
theorem x70_26 {L : pj_Loc} {st : List Value} {N S : Nat} {H : pj_Heap} {o : Nat} {v : Value} {o9 : Option Value × pj_Mem} : pj_Ends 70 (26, L, v :: .ref o :: st, (N, S, H)) o9 = pj_then 70 o9 (pj_set 29 L st (N, S, H) o (pj_fset (H o) 5 5 v)) := pj_xt q70_26 rfl (pj_cl_nc rfl) (s70_26)
theorem q70_29 : pj_row 70 29 = some (.aload_n 0, 1, 0, 0, 0) := by decide +kernel
theorem s70_29 {st : List Value} {M : pj_Mem} {l : pj_Loc} {x : Nat} : pj_step 70 (29, some (.ref x) :: l, st, M) = some (30, some (.ref x) :: l, .ref x :: st, M) := st_aload_n q70_29 rfl
theorem x70_29 {st : List Value} {M : pj_Mem} {l : pj_Loc} {x : Nat} {o9 : Option Value × pj_Mem} : pj_Ends 70 (29, some (.ref x) :: l, st, M) o9 = pj_Ends 70 (30, some (.ref x) :: l, .ref x :: st, M) o9 := pj_xs (s70_29)
theorem q70_30 : pj_row 70 30 = some (.getfield 10, 3, 5, 0, 0) := by decide +kernel
theorem s70_30 {L : pj_Loc} {st : List Value} {N S : Nat} {H : pj_Heap} {o : Nat} : pj_step 70 (30, L, .ref o :: st, (N, S, H)) = pj_pv 33 L st (N, S, H) (pj_fld (H o) 5 0) := st_getfield q70_30
theorem x70_30 {L : pj_Loc} {st : List Value} {N S : Nat} {H : pj_Heap} {o : Nat} {o9 : Option Value × pj_Mem} : pj_Ends 70 (30, L, .ref o :: st, (N, S, H)) o9 = pj_then 70 o9 (pj_pv 33 L st (N, S, H) (pj_fld (H o) 5 0)) := pj_xt q70_30 rfl (pj_cl_nc rfl) (s70_30)
theorem q70_33 : pj_row 70 33 = some (.aload_n 0, 1, 0, 0, 0) := by decide +kernel
theorem s70_33 {st : List Value} {M : pj_Mem} {l : pj_Loc} {x : Nat} : pj_step 70 (33, some (.ref x) :: l, st, M) = some (34, some (.ref x) :: l, .ref x :: st, M) := st_aload_n q70_33 rfl
theorem x70_33 {st : List Value} {M : pj_Mem} {l : pj_Loc} {x : Nat} {o9 : Option Value × pj_Mem} : pj_Ends 70 (33, some (.ref x) :: l, st, M) o9 = pj_Ends 70 (34, some (.ref x) :: l, .ref x :: st, M) o9 := pj_xs (s70_33)
theorem q70_34 : pj_row 70 34 = some (.getfield 37, 3, 5, 4, 0) := by decide +kernel
theorem s70_34 {L : pj_Loc} {st : List Value} {N S : Nat} {H : pj_Heap} {o : Nat} : pj_step 70 (34, L, .ref o :: st, (N, S, H)) = pj_pv 37 L st (N, S, H) (pj_fld (H o) 5 4) := st_getfield q70_34
theorem x70_34 {L : pj_Loc} {st : List Value} {N S : Nat} {H : pj_Heap} {o : Nat} {o9 : Option Value × pj_Mem} : pj_Ends 70 (34, L, .ref o :: st, (N, S, H)) o9 = pj_then 70 o9 (pj_pv 37 L st (N, S, H) (pj_fld (H o) 5 4)) := pj_xt q70_34 rfl (pj_cl_nc rfl) (s70_34)
theorem q70_37 : pj_row 70 37 = some (.aload_n 0, 1, 0, 0, 0) := by decide +kernel
theorem s70_37 {st : List Value} {M : pj_Mem} {l : pj_Loc} {x : Nat} : pj_step 70 (37, some (.ref x) :: l, st, M) = some (38, some (.ref x) :: l, .ref x :: st, M) := st_aload_n q70_37 rfl
theorem x70_37 {st : List Value} {M : pj_Mem} {l : pj_Loc} {x : Nat} {o9 : Option Value × pj_Mem} : pj_Ends 70 (37, some (.ref x) :: l, st, M) o9 = pj_Ends 70 (38, some (.ref x) :: l, .ref x :: st, M) o9 := pj_xs (s70_37)
theorem q70_38 : pj_row 70 38 = some (.getfield 148, 3, 5, 5, 0) := by decide +kernel
theorem s70_38 {L : pj_Loc} {st : List Value} {N S : Nat} {H : pj_Heap} {o : Nat} : pj_step 70 (38, L, .ref o :: st, (N, S, H)) = pj_pv 41 L st (N, S, H) (pj_fld (H o) 5 5) := st_getfield q70_38
theorem x70_38 {L : pj_Loc} {st : List Value} {N S : Nat} {H : pj_Heap} {o : Nat} {o9 : Option Value × pj_Mem} : pj_Ends 70 (38, L, .ref o :: st, (N, S, H)) o9 = pj_then 70 o9 (pj_pv 41 L st (N, S, H) (pj_fld (H o) 5 5)) := pj_xt q70_38 rfl (pj_cl_nc rfl) (s70_38)
theorem q70_41 : pj_row 70 41 = some (.aaload, 1, 0, 0, 0) := by decide +kernel
theorem s70_41 {L : pj_Loc} {st : List Value} {N S : Nat} {H : pj_Heap} {o : Nat} {i : Int32} : pj_step 70 (41, L, .int i :: .ref o :: st, (N, S, H)) = pj_pv 42 L st (N, S, H) (pj_qrl (H o) i) := st_aaload q70_41
theorem x70_41 {L : pj_Loc} {st : List Value} {N S : Nat} {H : pj_Heap} {o : Nat} {i : Int32} {o9 : Option Value × pj_Mem} : pj_Ends 70 (41, L, .int i :: .ref o :: st, (N, S, H)) o9 = pj_then 70 o9 (pj_pv 42 L st (N, S, H) (pj_qrl (H o) i)) := pj_xt q70_41 rfl (pj_cl_nc rfl) (s70_41)
theorem q70_42 : pj_row 70 42 = some (.invokevirtual 172, 3, 9, 2, 0) := by decide +kernel
theorem e70_42 {L : pj_Loc} {st : List Value} {N S : Nat} {H : pj_Heap} {o : Option Value × pj_Mem} {M' : pj_Mem} {x0 : Nat} {x1 : Nat} (h4 : pj_le4 st = true) (hu : pj_isU 4 (H x0) = true) (h1 : pj_Ends 9 (0, [some (.ref x0), some (.ref x1)], [], (N, S, H)) (none, M')) (h2 : pj_Ends 70 (45, L, st, M') o) : pj_Ends 70 (42, L, .ref x1 :: .ref x0 :: st, (N, S, H)) o := ec_v2 q70_42 (Or.inl rfl) h4 hu rfl h1 h2
theorem q70_45 : pj_row 70 45 = some (.aload_n 0, 1, 0, 0, 0) := by decide +kernel
theorem s70_45 {st : List Value} {M : pj_Mem} {l : pj_Loc} {x : Nat} : pj_step 70 (45, some (.ref x) :: l, st, M) = some (46, some (.ref x) :: l, .ref x :: st, M) := st_aload_n q70_45 rfl
theorem x70_45 {st : List Value} {M : pj_Mem} {l : pj_Loc} {x : Nat} {o9 : Option Value × pj_Mem} : pj_Ends 70 (45, some (.ref x) :: l, st, M) o9 = pj_Ends 70 (46, some (.ref x) :: l, .ref x :: st, M) o9 := pj_xs (s70_45)
theorem q70_46 : pj_row 70 46 = some (.getfield 148, 3, 5, 5, 0) := by decide +kernel
theorem s70_46 {L : pj_Loc} {st : List Value} {N S : Nat} {H : pj_Heap} {o : Nat} : pj_step 70 (46, L, .ref o :: st, (N, S, H)) = pj_pv 49 L st (N, S, H) (pj_fld (H o) 5 5) := st_getfield q70_46
theorem x70_46 {L : pj_Loc} {st : List Value} {N S : Nat} {H : pj_Heap} {o : Nat} {o9 : Option Value × pj_Mem} : pj_Ends 70 (46, L, .ref o :: st, (N, S, H)) o9 = pj_then 70 o9 (pj_pv 49 L st (N, S, H) (pj_fld (H o) 5 5)) := pj_xt q70_46 rfl (pj_cl_nc rfl) (s70_46)
theorem q70_49 : pj_row 70 49 = some (.ireturn, 1, 0, 0, 0) := by decide +kernel
theorem t70_49 {L : pj_Loc} {M : pj_Mem} {v : Int32} : pj_Ends 70 (49, L, [.int v], M) (some (.int v), M) := pj_Ends.ret q70_49 (pj_rtn_i rt70)
theorem rt71 : pj_rt 71 = some .int := rfl
theorem q71_0 : pj_row 71 0 = some (.iload_n 1, 1, 0, 0, 0) := by decide +kernel
theorem s71_0 {st : List Value} {M : pj_Mem} {l : pj_Loc} {a0 : Option Value} {x : Int32} : pj_step 71 (0, a0 :: some (.int x) :: l, st, M) = some (1, a0 :: some (.int x) :: l, .int x :: st, M) := st_iload_n q71_0 rfl
theorem x71_0 {st : List Value} {M : pj_Mem} {l : pj_Loc} {a0 : Option Value} {x : Int32} {o9 : Option Value × pj_Mem} : pj_Ends 71 (0, a0 :: some (.int x) :: l, st, M) o9 = pj_Ends 71 (1, a0 :: some (.int x) :: l, .int x :: st, M) o9 := pj_xs (s71_0)
theorem q71_1 : pj_row 71 1 = some (.ifCond .lt 8, 3, 9, 0, 0) := by decide +kernel
theorem s71_1 {L : pj_Loc} {st : List Value} {M : pj_Mem} {x : Int32} : pj_step 71 (1, L, .int x :: st, M) = some (if x < 0 then 9 else 4, L, st, M) := st_if_lt q71_1
theorem x71_1 {L : pj_Loc} {st : List Value} {M : pj_Mem} {x : Int32} {o9 : Option Value × pj_Mem} : pj_Ends 71 (1, L, .int x :: st, M) o9 = pj_Ends 71 (if x < 0 then 9 else 4, L, st, M) o9 := pj_xs (s71_1)
theorem q71_4 : pj_row 71 4 = some (.iload_n 1, 1, 0, 0, 0) := by decide +kernel
theorem s71_4 {st : List Value} {M : pj_Mem} {l : pj_Loc} {a0 : Option Value} {x : Int32} : pj_step 71 (4, a0 :: some (.int x) :: l, st, M) = some (5, a0 :: some (.int x) :: l, .int x :: st, M) := st_iload_n q71_4 rfl
theorem x71_4 {st : List Value} {M : pj_Mem} {l : pj_Loc} {a0 : Option Value} {x : Int32} {o9 : Option Value × pj_Mem} : pj_Ends 71 (4, a0 :: some (.int x) :: l, st, M) o9 = pj_Ends 71 (5, a0 :: some (.int x) :: l, .int x :: st, M) o9 := pj_xs (s71_4)
theorem q71_5 : pj_row 71 5 = some (.iconst 2, 1, 0, 0, 0) := by decide +kernel
theorem s71_5 {L : pj_Loc} {st : List Value} {M : pj_Mem}  : pj_step 71 (5, L, st, M) = some (6, L, .int 2 :: st, M) := st_iconst q71_5 (by decide +kernel)
theorem x71_5 {L : pj_Loc} {st : List Value} {M : pj_Mem}  {o9 : Option Value × pj_Mem} : pj_Ends 71 (5, L, st, M) o9 = pj_Ends 71 (6, L, .int 2 :: st, M) o9 := pj_xs (s71_5)
theorem q71_6 : pj_row 71 6 = some (.if_icmp .lt 6, 3, 12, 0, 0) := by decide +kernel
theorem s71_6 {L : pj_Loc} {st : List Value} {M : pj_Mem} {x y : Int32} : pj_step 71 (6, L, .int y :: .int x :: st, M) = some (if x < y then 12 else 9, L, st, M) := st_icmp_lt q71_6
theorem x71_6 {L : pj_Loc} {st : List Value} {M : pj_Mem} {x y : Int32} {o9 : Option Value × pj_Mem} : pj_Ends 71 (6, L, .int y :: .int x :: st, M) o9 = pj_Ends 71 (if x < y then 12 else 9, L, st, M) o9 := pj_xs (s71_6)
theorem q71_9 : pj_row 71 9 = some (.bipush (-2), 2, 0, 0, 0) := by decide +kernel
theorem s71_9 {L : pj_Loc} {st : List Value} {M : pj_Mem}  : pj_step 71 (9, L, st, M) = some (11, L, .int (-2) :: st, M) := st_bipush q71_9 (by decide +kernel)
theorem x71_9 {L : pj_Loc} {st : List Value} {M : pj_Mem}  {o9 : Option Value × pj_Mem} : pj_Ends 71 (9, L, st, M) o9 = pj_Ends 71 (11, L, .int (-2) :: st, M) o9 := pj_xs (s71_9)
theorem q71_11 : pj_row 71 11 = some (.ireturn, 1, 0, 0, 0) := by decide +kernel
theorem t71_11 {L : pj_Loc} {M : pj_Mem} {v : Int32} : pj_Ends 71 (11, L, [.int v], M) (some (.int v), M) := pj_Ends.ret q71_11 (pj_rtn_i rt71)
theorem q71_12 : pj_row 71 12 = some (.aload_n 0, 1, 0, 0, 0) := by decide +kernel
theorem s71_12 {st : List Value} {M : pj_Mem} {l : pj_Loc} {x : Nat} : pj_step 71 (12, some (.ref x) :: l, st, M) = some (13, some (.ref x) :: l, .ref x :: st, M) := st_aload_n q71_12 rfl
theorem x71_12 {st : List Value} {M : pj_Mem} {l : pj_Loc} {x : Nat} {o9 : Option Value × pj_Mem} : pj_Ends 71 (12, some (.ref x) :: l, st, M) o9 = pj_Ends 71 (13, some (.ref x) :: l, .ref x :: st, M) o9 := pj_xs (s71_12)
theorem q71_13 : pj_row 71 13 = some (.getfield 41, 3, 5, 6, 0) := by decide +kernel
theorem s71_13 {L : pj_Loc} {st : List Value} {N S : Nat} {H : pj_Heap} {o : Nat} : pj_step 71 (13, L, .ref o :: st, (N, S, H)) = pj_pv 16 L st (N, S, H) (pj_fld (H o) 5 6) := st_getfield q71_13
theorem x71_13 {L : pj_Loc} {st : List Value} {N S : Nat} {H : pj_Heap} {o : Nat} {o9 : Option Value × pj_Mem} : pj_Ends 71 (13, L, .ref o :: st, (N, S, H)) o9 = pj_then 71 o9 (pj_pv 16 L st (N, S, H) (pj_fld (H o) 5 6)) := pj_xt q71_13 rfl (pj_cl_nc rfl) (s71_13)
theorem q71_16 : pj_row 71 16 = some (.iload_n 1, 1, 0, 0, 0) := by decide +kernel
theorem s71_16 {st : List Value} {M : pj_Mem} {l : pj_Loc} {a0 : Option Value} {x : Int32} : pj_step 71 (16, a0 :: some (.int x) :: l, st, M) = some (17, a0 :: some (.int x) :: l, .int x :: st, M) := st_iload_n q71_16 rfl
theorem x71_16 {st : List Value} {M : pj_Mem} {l : pj_Loc} {a0 : Option Value} {x : Int32} {o9 : Option Value × pj_Mem} : pj_Ends 71 (16, a0 :: some (.int x) :: l, st, M) o9 = pj_Ends 71 (17, a0 :: some (.int x) :: l, .int x :: st, M) o9 := pj_xs (s71_16)
theorem q71_17 : pj_row 71 17 = some (.aaload, 1, 0, 0, 0) := by decide +kernel
theorem s71_17 {L : pj_Loc} {st : List Value} {N S : Nat} {H : pj_Heap} {o : Nat} {i : Int32} : pj_step 71 (17, L, .int i :: .ref o :: st, (N, S, H)) = pj_pv 18 L st (N, S, H) (pj_qrl (H o) i) := st_aaload q71_17
theorem x71_17 {L : pj_Loc} {st : List Value} {N S : Nat} {H : pj_Heap} {o : Nat} {i : Int32} {o9 : Option Value × pj_Mem} : pj_Ends 71 (17, L, .int i :: .ref o :: st, (N, S, H)) o9 = pj_then 71 o9 (pj_pv 18 L st (N, S, H) (pj_qrl (H o) i)) := pj_xt q71_17 rfl (pj_cl_nc rfl) (s71_17)
theorem q71_18 : pj_row 71 18 = some (.aload_n 0, 1, 0, 0, 0) := by decide +kernel
theorem s71_18 {st : List Value} {M : pj_Mem} {l : pj_Loc} {x : Nat} : pj_step 71 (18, some (.ref x) :: l, st, M) = some (19, some (.ref x) :: l, .ref x :: st, M) := st_aload_n q71_18 rfl
theorem x71_18 {st : List Value} {M : pj_Mem} {l : pj_Loc} {x : Nat} {o9 : Option Value × pj_Mem} : pj_Ends 71 (18, some (.ref x) :: l, st, M) o9 = pj_Ends 71 (19, some (.ref x) :: l, .ref x :: st, M) o9 := pj_xs (s71_18)
theorem q71_19 : pj_row 71 19 = some (.getfield 10, 3, 5, 0, 0) := by decide +kernel
theorem s71_19 {L : pj_Loc} {st : List Value} {N S : Nat} {H : pj_Heap} {o : Nat} : pj_step 71 (19, L, .ref o :: st, (N, S, H)) = pj_pv 22 L st (N, S, H) (pj_fld (H o) 5 0) := st_getfield q71_19
theorem x71_19 {L : pj_Loc} {st : List Value} {N S : Nat} {H : pj_Heap} {o : Nat} {o9 : Option Value × pj_Mem} : pj_Ends 71 (19, L, .ref o :: st, (N, S, H)) o9 = pj_then 71 o9 (pj_pv 22 L st (N, S, H) (pj_fld (H o) 5 0)) := pj_xt q71_19 rfl (pj_cl_nc rfl) (s71_19)
theorem q71_22 : pj_row 71 22 = some (.invokevirtual 172, 3, 9, 2, 0) := by decide +kernel
theorem e71_22 {L : pj_Loc} {st : List Value} {N S : Nat} {H : pj_Heap} {o : Option Value × pj_Mem} {M' : pj_Mem} {x0 : Nat} {x1 : Nat} (h4 : pj_le4 st = true) (hu : pj_isU 4 (H x0) = true) (h1 : pj_Ends 9 (0, [some (.ref x0), some (.ref x1)], [], (N, S, H)) (none, M')) (h2 : pj_Ends 71 (25, L, st, M') o) : pj_Ends 71 (22, L, .ref x1 :: .ref x0 :: st, (N, S, H)) o := ec_v2 q71_22 (Or.inl rfl) h4 hu rfl h1 h2
theorem q71_25 : pj_row 71 25 = some (.aload_n 0, 1, 0, 0, 0) := by decide +kernel
theorem s71_25 {st : List Value} {M : pj_Mem} {l : pj_Loc} {x : Nat} : pj_step 71 (25, some (.ref x) :: l, st, M) = some (26, some (.ref x) :: l, .ref x :: st, M) := st_aload_n q71_25 rfl
theorem x71_25 {st : List Value} {M : pj_Mem} {l : pj_Loc} {x : Nat} {o9 : Option Value × pj_Mem} : pj_Ends 71 (25, some (.ref x) :: l, st, M) o9 = pj_Ends 71 (26, some (.ref x) :: l, .ref x :: st, M) o9 := pj_xs (s71_25)
theorem q71_26 : pj_row 71 26 = some (.getfield 44, 3, 5, 7, 0) := by decide +kernel
theorem s71_26 {L : pj_Loc} {st : List Value} {N S : Nat} {H : pj_Heap} {o : Nat} : pj_step 71 (26, L, .ref o :: st, (N, S, H)) = pj_pv 29 L st (N, S, H) (pj_fld (H o) 5 7) := st_getfield q71_26
theorem x71_26 {L : pj_Loc} {st : List Value} {N S : Nat} {H : pj_Heap} {o : Nat} {o9 : Option Value × pj_Mem} : pj_Ends 71 (26, L, .ref o :: st, (N, S, H)) o9 = pj_then 71 o9 (pj_pv 29 L st (N, S, H) (pj_fld (H o) 5 7)) := pj_xt q71_26 rfl (pj_cl_nc rfl) (s71_26)
theorem q71_29 : pj_row 71 29 = some (.iload_n 1, 1, 0, 0, 0) := by decide +kernel
theorem s71_29 {st : List Value} {M : pj_Mem} {l : pj_Loc} {a0 : Option Value} {x : Int32} : pj_step 71 (29, a0 :: some (.int x) :: l, st, M) = some (30, a0 :: some (.int x) :: l, .int x :: st, M) := st_iload_n q71_29 rfl
theorem x71_29 {st : List Value} {M : pj_Mem} {l : pj_Loc} {a0 : Option Value} {x : Int32} {o9 : Option Value × pj_Mem} : pj_Ends 71 (29, a0 :: some (.int x) :: l, st, M) o9 = pj_Ends 71 (30, a0 :: some (.int x) :: l, .int x :: st, M) o9 := pj_xs (s71_29)
theorem q71_30 : pj_row 71 30 = some (.iconst 1, 1, 0, 0, 0) := by decide +kernel
theorem s71_30 {L : pj_Loc} {st : List Value} {M : pj_Mem}  : pj_step 71 (30, L, st, M) = some (31, L, .int 1 :: st, M) := st_iconst q71_30 (by decide +kernel)
theorem x71_30 {L : pj_Loc} {st : List Value} {M : pj_Mem}  {o9 : Option Value × pj_Mem} : pj_Ends 71 (30, L, st, M) o9 = pj_Ends 71 (31, L, .int 1 :: st, M) o9 := pj_xs (s71_30)
theorem q71_31 : pj_row 71 31 = some (.bastore, 1, 0, 0, 0) := by decide +kernel
theorem s71_31 {L : pj_Loc} {st : List Value} {N S : Nat} {H : pj_Heap} {o : Nat} {i x : Int32} : pj_step 71 (31, L, .int x :: .int i :: .ref o :: st, (N, S, H)) = pj_set 32 L st (N, S, H) o (pj_ars (H o) 2 i (vp_nar .boolean x)) := st_bastore q71_31
theorem x71_31 {L : pj_Loc} {st : List Value} {N S : Nat} {H : pj_Heap} {o : Nat} {i x : Int32} {o9 : Option Value × pj_Mem} : pj_Ends 71 (31, L, .int x :: .int i :: .ref o :: st, (N, S, H)) o9 = pj_then 71 o9 (pj_set 32 L st (N, S, H) o (pj_ars (H o) 2 i (vp_nar .boolean x))) := pj_xt q71_31 rfl (pj_cl_nc rfl) (s71_31)
theorem q71_32 : pj_row 71 32 = some (.aload_n 0, 1, 0, 0, 0) := by decide +kernel
theorem s71_32 {st : List Value} {M : pj_Mem} {l : pj_Loc} {x : Nat} : pj_step 71 (32, some (.ref x) :: l, st, M) = some (33, some (.ref x) :: l, .ref x :: st, M) := st_aload_n q71_32 rfl
theorem x71_32 {st : List Value} {M : pj_Mem} {l : pj_Loc} {x : Nat} {o9 : Option Value × pj_Mem} : pj_Ends 71 (32, some (.ref x) :: l, st, M) o9 = pj_Ends 71 (33, some (.ref x) :: l, .ref x :: st, M) o9 := pj_xs (s71_32)
theorem q71_33 : pj_row 71 33 = some (.getfield 10, 3, 5, 0, 0) := by decide +kernel
theorem s71_33 {L : pj_Loc} {st : List Value} {N S : Nat} {H : pj_Heap} {o : Nat} : pj_step 71 (33, L, .ref o :: st, (N, S, H)) = pj_pv 36 L st (N, S, H) (pj_fld (H o) 5 0) := st_getfield q71_33
theorem x71_33 {L : pj_Loc} {st : List Value} {N S : Nat} {H : pj_Heap} {o : Nat} {o9 : Option Value × pj_Mem} : pj_Ends 71 (33, L, .ref o :: st, (N, S, H)) o9 = pj_then 71 o9 (pj_pv 36 L st (N, S, H) (pj_fld (H o) 5 0)) := pj_xt q71_33 rfl (pj_cl_nc rfl) (s71_33)
theorem q71_36 : pj_row 71 36 = some (.getfield 65, 3, 4, 10, 0) := by decide +kernel
theorem s71_36 {L : pj_Loc} {st : List Value} {N S : Nat} {H : pj_Heap} {o : Nat} : pj_step 71 (36, L, .ref o :: st, (N, S, H)) = pj_pv 39 L st (N, S, H) (pj_fld (H o) 4 10) := st_getfield q71_36
theorem x71_36 {L : pj_Loc} {st : List Value} {N S : Nat} {H : pj_Heap} {o : Nat} {o9 : Option Value × pj_Mem} : pj_Ends 71 (36, L, .ref o :: st, (N, S, H)) o9 = pj_then 71 o9 (pj_pv 39 L st (N, S, H) (pj_fld (H o) 4 10)) := pj_xt q71_36 rfl (pj_cl_nc rfl) (s71_36)
theorem q71_39 : pj_row 71 39 = some (.ireturn, 1, 0, 0, 0) := by decide +kernel
theorem t71_39 {L : pj_Loc} {M : pj_Mem} {v : Int32} : pj_Ends 71 (39, L, [.int v], M) (some (.int v), M) := pj_Ends.ret q71_39 (pj_rtn_i rt71)
theorem rt72 : pj_rt 72 = some .int := rfl
theorem q72_0 : pj_row 72 0 = some (.iload_n 1, 1, 0, 0, 0) := by decide +kernel
theorem s72_0 {st : List Value} {M : pj_Mem} {l : pj_Loc} {a0 : Option Value} {x : Int32} : pj_step 72 (0, a0 :: some (.int x) :: l, st, M) = some (1, a0 :: some (.int x) :: l, .int x :: st, M) := st_iload_n q72_0 rfl
theorem x72_0 {st : List Value} {M : pj_Mem} {l : pj_Loc} {a0 : Option Value} {x : Int32} {o9 : Option Value × pj_Mem} : pj_Ends 72 (0, a0 :: some (.int x) :: l, st, M) o9 = pj_Ends 72 (1, a0 :: some (.int x) :: l, .int x :: st, M) o9 := pj_xs (s72_0)
theorem q72_1 : pj_row 72 1 = some (.ifCond .lt 8, 3, 9, 0, 0) := by decide +kernel
theorem s72_1 {L : pj_Loc} {st : List Value} {M : pj_Mem} {x : Int32} : pj_step 72 (1, L, .int x :: st, M) = some (if x < 0 then 9 else 4, L, st, M) := st_if_lt q72_1
theorem x72_1 {L : pj_Loc} {st : List Value} {M : pj_Mem} {x : Int32} {o9 : Option Value × pj_Mem} : pj_Ends 72 (1, L, .int x :: st, M) o9 = pj_Ends 72 (if x < 0 then 9 else 4, L, st, M) o9 := pj_xs (s72_1)
theorem q72_4 : pj_row 72 4 = some (.iload_n 1, 1, 0, 0, 0) := by decide +kernel
theorem s72_4 {st : List Value} {M : pj_Mem} {l : pj_Loc} {a0 : Option Value} {x : Int32} : pj_step 72 (4, a0 :: some (.int x) :: l, st, M) = some (5, a0 :: some (.int x) :: l, .int x :: st, M) := st_iload_n q72_4 rfl
theorem x72_4 {st : List Value} {M : pj_Mem} {l : pj_Loc} {a0 : Option Value} {x : Int32} {o9 : Option Value × pj_Mem} : pj_Ends 72 (4, a0 :: some (.int x) :: l, st, M) o9 = pj_Ends 72 (5, a0 :: some (.int x) :: l, .int x :: st, M) o9 := pj_xs (s72_4)
theorem q72_5 : pj_row 72 5 = some (.iconst 2, 1, 0, 0, 0) := by decide +kernel
theorem s72_5 {L : pj_Loc} {st : List Value} {M : pj_Mem}  : pj_step 72 (5, L, st, M) = some (6, L, .int 2 :: st, M) := st_iconst q72_5 (by decide +kernel)
theorem x72_5 {L : pj_Loc} {st : List Value} {M : pj_Mem}  {o9 : Option Value × pj_Mem} : pj_Ends 72 (5, L, st, M) o9 = pj_Ends 72 (6, L, .int 2 :: st, M) o9 := pj_xs (s72_5)
theorem q72_6 : pj_row 72 6 = some (.if_icmp .lt 6, 3, 12, 0, 0) := by decide +kernel
theorem s72_6 {L : pj_Loc} {st : List Value} {M : pj_Mem} {x y : Int32} : pj_step 72 (6, L, .int y :: .int x :: st, M) = some (if x < y then 12 else 9, L, st, M) := st_icmp_lt q72_6
theorem x72_6 {L : pj_Loc} {st : List Value} {M : pj_Mem} {x y : Int32} {o9 : Option Value × pj_Mem} : pj_Ends 72 (6, L, .int y :: .int x :: st, M) o9 = pj_Ends 72 (if x < y then 12 else 9, L, st, M) o9 := pj_xs (s72_6)
theorem q72_9 : pj_row 72 9 = some (.bipush (-2), 2, 0, 0, 0) := by decide +kernel
theorem s72_9 {L : pj_Loc} {st : List Value} {M : pj_Mem}  : pj_step 72 (9, L, st, M) = some (11, L, .int (-2) :: st, M) := st_bipush q72_9 (by decide +kernel)
theorem x72_9 {L : pj_Loc} {st : List Value} {M : pj_Mem}  {o9 : Option Value × pj_Mem} : pj_Ends 72 (9, L, st, M) o9 = pj_Ends 72 (11, L, .int (-2) :: st, M) o9 := pj_xs (s72_9)
theorem q72_11 : pj_row 72 11 = some (.ireturn, 1, 0, 0, 0) := by decide +kernel
theorem t72_11 {L : pj_Loc} {M : pj_Mem} {v : Int32} : pj_Ends 72 (11, L, [.int v], M) (some (.int v), M) := pj_Ends.ret q72_11 (pj_rtn_i rt72)
theorem q72_12 : pj_row 72 12 = some (.aload_n 0, 1, 0, 0, 0) := by decide +kernel
theorem s72_12 {st : List Value} {M : pj_Mem} {l : pj_Loc} {x : Nat} : pj_step 72 (12, some (.ref x) :: l, st, M) = some (13, some (.ref x) :: l, .ref x :: st, M) := st_aload_n q72_12 rfl
theorem x72_12 {st : List Value} {M : pj_Mem} {l : pj_Loc} {x : Nat} {o9 : Option Value × pj_Mem} : pj_Ends 72 (12, some (.ref x) :: l, st, M) o9 = pj_Ends 72 (13, some (.ref x) :: l, .ref x :: st, M) o9 := pj_xs (s72_12)
theorem q72_13 : pj_row 72 13 = some (.getfield 44, 3, 5, 7, 0) := by decide +kernel
theorem s72_13 {L : pj_Loc} {st : List Value} {N S : Nat} {H : pj_Heap} {o : Nat} : pj_step 72 (13, L, .ref o :: st, (N, S, H)) = pj_pv 16 L st (N, S, H) (pj_fld (H o) 5 7) := st_getfield q72_13
theorem x72_13 {L : pj_Loc} {st : List Value} {N S : Nat} {H : pj_Heap} {o : Nat} {o9 : Option Value × pj_Mem} : pj_Ends 72 (13, L, .ref o :: st, (N, S, H)) o9 = pj_then 72 o9 (pj_pv 16 L st (N, S, H) (pj_fld (H o) 5 7)) := pj_xt q72_13 rfl (pj_cl_nc rfl) (s72_13)
theorem q72_16 : pj_row 72 16 = some (.iload_n 1, 1, 0, 0, 0) := by decide +kernel
theorem s72_16 {st : List Value} {M : pj_Mem} {l : pj_Loc} {a0 : Option Value} {x : Int32} : pj_step 72 (16, a0 :: some (.int x) :: l, st, M) = some (17, a0 :: some (.int x) :: l, .int x :: st, M) := st_iload_n q72_16 rfl
theorem x72_16 {st : List Value} {M : pj_Mem} {l : pj_Loc} {a0 : Option Value} {x : Int32} {o9 : Option Value × pj_Mem} : pj_Ends 72 (16, a0 :: some (.int x) :: l, st, M) o9 = pj_Ends 72 (17, a0 :: some (.int x) :: l, .int x :: st, M) o9 := pj_xs (s72_16)
theorem q72_17 : pj_row 72 17 = some (.baload, 1, 0, 0, 0) := by decide +kernel
theorem s72_17 {L : pj_Loc} {st : List Value} {N S : Nat} {H : pj_Heap} {o : Nat} {i : Int32} : pj_step 72 (17, L, .int i :: .ref o :: st, (N, S, H)) = pj_pi 18 L st (N, S, H) (pj_arl (H o) 2 i) := st_baload q72_17
theorem x72_17 {L : pj_Loc} {st : List Value} {N S : Nat} {H : pj_Heap} {o : Nat} {i : Int32} {o9 : Option Value × pj_Mem} : pj_Ends 72 (17, L, .int i :: .ref o :: st, (N, S, H)) o9 = pj_then 72 o9 (pj_pi 18 L st (N, S, H) (pj_arl (H o) 2 i)) := pj_xt q72_17 rfl (pj_cl_nc rfl) (s72_17)
theorem q72_18 : pj_row 72 18 = some (.ifCond .ne 6, 3, 24, 0, 0) := by decide +kernel
theorem s72_18 {L : pj_Loc} {st : List Value} {M : pj_Mem} {x : Int32} : pj_step 72 (18, L, .int x :: st, M) = some (if ¬ x = 0 then 24 else 21, L, st, M) := st_if_ne q72_18
theorem x72_18 {L : pj_Loc} {st : List Value} {M : pj_Mem} {x : Int32} {o9 : Option Value × pj_Mem} : pj_Ends 72 (18, L, .int x :: st, M) o9 = pj_Ends 72 (if ¬ x = 0 then 24 else 21, L, st, M) o9 := pj_xs (s72_18)
theorem q72_21 : pj_row 72 21 = some (.bipush (-5), 2, 0, 0, 0) := by decide +kernel
theorem s72_21 {L : pj_Loc} {st : List Value} {M : pj_Mem}  : pj_step 72 (21, L, st, M) = some (23, L, .int (-5) :: st, M) := st_bipush q72_21 (by decide +kernel)
theorem x72_21 {L : pj_Loc} {st : List Value} {M : pj_Mem}  {o9 : Option Value × pj_Mem} : pj_Ends 72 (21, L, st, M) o9 = pj_Ends 72 (23, L, .int (-5) :: st, M) o9 := pj_xs (s72_21)
theorem q72_23 : pj_row 72 23 = some (.ireturn, 1, 0, 0, 0) := by decide +kernel
theorem t72_23 {L : pj_Loc} {M : pj_Mem} {v : Int32} : pj_Ends 72 (23, L, [.int v], M) (some (.int v), M) := pj_Ends.ret q72_23 (pj_rtn_i rt72)
theorem q72_24 : pj_row 72 24 = some (.aload_n 0, 1, 0, 0, 0) := by decide +kernel
theorem s72_24 {st : List Value} {M : pj_Mem} {l : pj_Loc} {x : Nat} : pj_step 72 (24, some (.ref x) :: l, st, M) = some (25, some (.ref x) :: l, .ref x :: st, M) := st_aload_n q72_24 rfl
theorem x72_24 {st : List Value} {M : pj_Mem} {l : pj_Loc} {x : Nat} {o9 : Option Value × pj_Mem} : pj_Ends 72 (24, some (.ref x) :: l, st, M) o9 = pj_Ends 72 (25, some (.ref x) :: l, .ref x :: st, M) o9 := pj_xs (s72_24)
theorem q72_25 : pj_row 72 25 = some (.invokevirtual 55, 3, 8, 1, 0) := by decide +kernel
theorem e72_25 {L : pj_Loc} {st : List Value} {N S : Nat} {H : pj_Heap} {o : Option Value × pj_Mem} {M' : pj_Mem} {x0 : Nat} (h4 : pj_le4 st = true) (hu : pj_isU 5 (H x0) = true) (h1 : pj_Ends 8 (0, [some (.ref x0), none, none], [], (N, S, H)) (none, M')) (h2 : pj_Ends 72 (28, L, st, M') o) : pj_Ends 72 (25, L, .ref x0 :: st, (N, S, H)) o := ec_v1 q72_25 (Or.inl rfl) h4 hu rfl h1 h2
theorem q72_28 : pj_row 72 28 = some (.aload_n 0, 1, 0, 0, 0) := by decide +kernel
theorem s72_28 {st : List Value} {M : pj_Mem} {l : pj_Loc} {x : Nat} : pj_step 72 (28, some (.ref x) :: l, st, M) = some (29, some (.ref x) :: l, .ref x :: st, M) := st_aload_n q72_28 rfl
theorem x72_28 {st : List Value} {M : pj_Mem} {l : pj_Loc} {x : Nat} {o9 : Option Value × pj_Mem} : pj_Ends 72 (28, some (.ref x) :: l, st, M) o9 = pj_Ends 72 (29, some (.ref x) :: l, .ref x :: st, M) o9 := pj_xs (s72_28)
theorem q72_29 : pj_row 72 29 = some (.getfield 10, 3, 5, 0, 0) := by decide +kernel
theorem s72_29 {L : pj_Loc} {st : List Value} {N S : Nat} {H : pj_Heap} {o : Nat} : pj_step 72 (29, L, .ref o :: st, (N, S, H)) = pj_pv 32 L st (N, S, H) (pj_fld (H o) 5 0) := st_getfield q72_29
theorem x72_29 {L : pj_Loc} {st : List Value} {N S : Nat} {H : pj_Heap} {o : Nat} {o9 : Option Value × pj_Mem} : pj_Ends 72 (29, L, .ref o :: st, (N, S, H)) o9 = pj_then 72 o9 (pj_pv 32 L st (N, S, H) (pj_fld (H o) 5 0)) := pj_xt q72_29 rfl (pj_cl_nc rfl) (s72_29)
theorem q72_32 : pj_row 72 32 = some (.aload_n 0, 1, 0, 0, 0) := by decide +kernel
theorem s72_32 {st : List Value} {M : pj_Mem} {l : pj_Loc} {x : Nat} : pj_step 72 (32, some (.ref x) :: l, st, M) = some (33, some (.ref x) :: l, .ref x :: st, M) := st_aload_n q72_32 rfl
theorem x72_32 {st : List Value} {M : pj_Mem} {l : pj_Loc} {x : Nat} {o9 : Option Value × pj_Mem} : pj_Ends 72 (32, some (.ref x) :: l, st, M) o9 = pj_Ends 72 (33, some (.ref x) :: l, .ref x :: st, M) o9 := pj_xs (s72_32)
theorem q72_33 : pj_row 72 33 = some (.getfield 41, 3, 5, 6, 0) := by decide +kernel
theorem s72_33 {L : pj_Loc} {st : List Value} {N S : Nat} {H : pj_Heap} {o : Nat} : pj_step 72 (33, L, .ref o :: st, (N, S, H)) = pj_pv 36 L st (N, S, H) (pj_fld (H o) 5 6) := st_getfield q72_33
theorem x72_33 {L : pj_Loc} {st : List Value} {N S : Nat} {H : pj_Heap} {o : Nat} {o9 : Option Value × pj_Mem} : pj_Ends 72 (33, L, .ref o :: st, (N, S, H)) o9 = pj_then 72 o9 (pj_pv 36 L st (N, S, H) (pj_fld (H o) 5 6)) := pj_xt q72_33 rfl (pj_cl_nc rfl) (s72_33)
theorem q72_36 : pj_row 72 36 = some (.iload_n 1, 1, 0, 0, 0) := by decide +kernel
theorem s72_36 {st : List Value} {M : pj_Mem} {l : pj_Loc} {a0 : Option Value} {x : Int32} : pj_step 72 (36, a0 :: some (.int x) :: l, st, M) = some (37, a0 :: some (.int x) :: l, .int x :: st, M) := st_iload_n q72_36 rfl
theorem x72_36 {st : List Value} {M : pj_Mem} {l : pj_Loc} {a0 : Option Value} {x : Int32} {o9 : Option Value × pj_Mem} : pj_Ends 72 (36, a0 :: some (.int x) :: l, st, M) o9 = pj_Ends 72 (37, a0 :: some (.int x) :: l, .int x :: st, M) o9 := pj_xs (s72_36)
theorem q72_37 : pj_row 72 37 = some (.aaload, 1, 0, 0, 0) := by decide +kernel
theorem s72_37 {L : pj_Loc} {st : List Value} {N S : Nat} {H : pj_Heap} {o : Nat} {i : Int32} : pj_step 72 (37, L, .int i :: .ref o :: st, (N, S, H)) = pj_pv 38 L st (N, S, H) (pj_qrl (H o) i) := st_aaload q72_37
theorem x72_37 {L : pj_Loc} {st : List Value} {N S : Nat} {H : pj_Heap} {o : Nat} {i : Int32} {o9 : Option Value × pj_Mem} : pj_Ends 72 (37, L, .int i :: .ref o :: st, (N, S, H)) o9 = pj_then 72 o9 (pj_pv 38 L st (N, S, H) (pj_qrl (H o) i)) := pj_xt q72_37 rfl (pj_cl_nc rfl) (s72_37)
theorem q72_38 : pj_row 72 38 = some (.invokevirtual 172, 3, 9, 2, 0) := by decide +kernel
theorem e72_38 {L : pj_Loc} {st : List Value} {N S : Nat} {H : pj_Heap} {o : Option Value × pj_Mem} {M' : pj_Mem} {x0 : Nat} {x1 : Nat} (h4 : pj_le4 st = true) (hu : pj_isU 4 (H x0) = true) (h1 : pj_Ends 9 (0, [some (.ref x0), some (.ref x1)], [], (N, S, H)) (none, M')) (h2 : pj_Ends 72 (41, L, st, M') o) : pj_Ends 72 (38, L, .ref x1 :: .ref x0 :: st, (N, S, H)) o := ec_v2 q72_38 (Or.inl rfl) h4 hu rfl h1 h2
theorem q72_41 : pj_row 72 41 = some (.aload_n 0, 1, 0, 0, 0) := by decide +kernel
theorem s72_41 {st : List Value} {M : pj_Mem} {l : pj_Loc} {x : Nat} : pj_step 72 (41, some (.ref x) :: l, st, M) = some (42, some (.ref x) :: l, .ref x :: st, M) := st_aload_n q72_41 rfl
theorem x72_41 {st : List Value} {M : pj_Mem} {l : pj_Loc} {x : Nat} {o9 : Option Value × pj_Mem} : pj_Ends 72 (41, some (.ref x) :: l, st, M) o9 = pj_Ends 72 (42, some (.ref x) :: l, .ref x :: st, M) o9 := pj_xs (s72_41)
theorem q72_42 : pj_row 72 42 = some (.getfield 10, 3, 5, 0, 0) := by decide +kernel
theorem s72_42 {L : pj_Loc} {st : List Value} {N S : Nat} {H : pj_Heap} {o : Nat} : pj_step 72 (42, L, .ref o :: st, (N, S, H)) = pj_pv 45 L st (N, S, H) (pj_fld (H o) 5 0) := st_getfield q72_42
theorem x72_42 {L : pj_Loc} {st : List Value} {N S : Nat} {H : pj_Heap} {o : Nat} {o9 : Option Value × pj_Mem} : pj_Ends 72 (42, L, .ref o :: st, (N, S, H)) o9 = pj_then 72 o9 (pj_pv 45 L st (N, S, H) (pj_fld (H o) 5 0)) := pj_xt q72_42 rfl (pj_cl_nc rfl) (s72_42)
theorem q72_45 : pj_row 72 45 = some (.getfield 65, 3, 4, 10, 0) := by decide +kernel
theorem s72_45 {L : pj_Loc} {st : List Value} {N S : Nat} {H : pj_Heap} {o : Nat} : pj_step 72 (45, L, .ref o :: st, (N, S, H)) = pj_pv 48 L st (N, S, H) (pj_fld (H o) 4 10) := st_getfield q72_45
theorem x72_45 {L : pj_Loc} {st : List Value} {N S : Nat} {H : pj_Heap} {o : Nat} {o9 : Option Value × pj_Mem} : pj_Ends 72 (45, L, .ref o :: st, (N, S, H)) o9 = pj_then 72 o9 (pj_pv 48 L st (N, S, H) (pj_fld (H o) 4 10)) := pj_xt q72_45 rfl (pj_cl_nc rfl) (s72_45)
theorem q72_48 : pj_row 72 48 = some (.ireturn, 1, 0, 0, 0) := by decide +kernel
theorem t72_48 {L : pj_Loc} {M : pj_Mem} {v : Int32} : pj_Ends 72 (48, L, [.int v], M) (some (.int v), M) := pj_Ends.ret q72_48 (pj_rtn_i rt72)
theorem rt73 : pj_rt 73 = none := rfl
theorem q73_0 : pj_row 73 0 = some (.aload_n 0, 1, 0, 0, 0) := by decide +kernel
theorem s73_0 {st : List Value} {M : pj_Mem} {l : pj_Loc} {x : Nat} : pj_step 73 (0, some (.ref x) :: l, st, M) = some (1, some (.ref x) :: l, .ref x :: st, M) := st_aload_n q73_0 rfl
theorem x73_0 {st : List Value} {M : pj_Mem} {l : pj_Loc} {x : Nat} {o9 : Option Value × pj_Mem} : pj_Ends 73 (0, some (.ref x) :: l, st, M) o9 = pj_Ends 73 (1, some (.ref x) :: l, .ref x :: st, M) o9 := pj_xs (s73_0)
theorem q73_1 : pj_row 73 1 = some (.invokespecial 1, 3, 0, 1, 2) := by decide +kernel
theorem s73_1 {L : pj_Loc} {st : List Value} {M : pj_Mem} {o : Nat} : pj_step 73 (1, L, .ref o :: st, M) = pj_g4 st (some (4, L, st, M)) := st_obj q73_1
theorem x73_1 {L : pj_Loc} {st : List Value} {M : pj_Mem} {o : Nat} {o9 : Option Value × pj_Mem} : pj_Ends 73 (1, L, .ref o :: st, M) o9 = pj_then 73 o9 (pj_g4 st (some (4, L, st, M))) := pj_xt q73_1 rfl rfl (s73_1)
theorem q73_4 : pj_row 73 4 = some (.aload_n 0, 1, 0, 0, 0) := by decide +kernel
theorem s73_4 {st : List Value} {M : pj_Mem} {l : pj_Loc} {x : Nat} : pj_step 73 (4, some (.ref x) :: l, st, M) = some (5, some (.ref x) :: l, .ref x :: st, M) := st_aload_n q73_4 rfl
theorem x73_4 {st : List Value} {M : pj_Mem} {l : pj_Loc} {x : Nat} {o9 : Option Value × pj_Mem} : pj_Ends 73 (4, some (.ref x) :: l, st, M) o9 = pj_Ends 73 (5, some (.ref x) :: l, .ref x :: st, M) o9 := pj_xs (s73_4)
theorem q73_5 : pj_row 73 5 = some (.sipush 152, 3, 0, 0, 0) := by decide +kernel
theorem s73_5 {L : pj_Loc} {st : List Value} {M : pj_Mem}  : pj_step 73 (5, L, st, M) = some (8, L, .int 152 :: st, M) := st_sipush q73_5 (by decide +kernel)
theorem x73_5 {L : pj_Loc} {st : List Value} {M : pj_Mem}  {o9 : Option Value × pj_Mem} : pj_Ends 73 (5, L, st, M) o9 = pj_Ends 73 (8, L, .int 152 :: st, M) o9 := pj_xs (s73_5)
theorem q73_8 : pj_row 73 8 = some (.newarray .int, 2, 0, 0, 0) := by decide +kernel
theorem s73_8 {L : pj_Loc} {st : List Value} {N S : Nat} {H : pj_Heap} {x : Int32} {n' : Nat} (hn : ¬ x < 0) (he : x.toNatClampNeg = n') (hb : n' ≤ 100000) : pj_step 73 (8, L, .int x :: st, (N, S, H)) = some (10, L, .ref N :: st, (N + 1, S + n', pj_up H N (.inr (0, n', .inl (fun _ => 0))))) := (st_newarray q73_8 hn he hb).trans rfl
theorem x73_8 {L : pj_Loc} {st : List Value} {N S : Nat} {H : pj_Heap} {x : Int32} {n' : Nat} (hn : ¬ x < 0) (he : x.toNatClampNeg = n') (hb : n' ≤ 100000) {o9 : Option Value × pj_Mem} : pj_Ends 73 (8, L, .int x :: st, (N, S, H)) o9 = pj_Ends 73 (10, L, .ref N :: st, (N + 1, S + n', pj_up H N (.inr (0, n', .inl (fun _ => 0))))) o9 := pj_xs (s73_8 hn he hb)
theorem q73_10 : pj_row 73 10 = some (.putfield 7, 3, 6, 0, 0) := by decide +kernel
theorem s73_10 {L : pj_Loc} {st : List Value} {N S : Nat} {H : pj_Heap} {o : Nat} {v : Value} : pj_step 73 (10, L, v :: .ref o :: st, (N, S, H)) = pj_set 13 L st (N, S, H) o (pj_fset (H o) 6 0 v) := st_putfield q73_10
theorem x73_10 {L : pj_Loc} {st : List Value} {N S : Nat} {H : pj_Heap} {o : Nat} {v : Value} {o9 : Option Value × pj_Mem} : pj_Ends 73 (10, L, v :: .ref o :: st, (N, S, H)) o9 = pj_then 73 o9 (pj_set 13 L st (N, S, H) o (pj_fset (H o) 6 0 v)) := pj_xt q73_10 rfl (pj_cl_nc rfl) (s73_10)
theorem q73_13 : pj_row 73 13 = some (.aload_n 0, 1, 0, 0, 0) := by decide +kernel
theorem s73_13 {st : List Value} {M : pj_Mem} {l : pj_Loc} {x : Nat} : pj_step 73 (13, some (.ref x) :: l, st, M) = some (14, some (.ref x) :: l, .ref x :: st, M) := st_aload_n q73_13 rfl
theorem x73_13 {st : List Value} {M : pj_Mem} {l : pj_Loc} {x : Nat} {o9 : Option Value × pj_Mem} : pj_Ends 73 (13, some (.ref x) :: l, st, M) o9 = pj_Ends 73 (14, some (.ref x) :: l, .ref x :: st, M) o9 := pj_xs (s73_13)
theorem q73_14 : pj_row 73 14 = some (.sipush 152, 3, 0, 0, 0) := by decide +kernel
theorem s73_14 {L : pj_Loc} {st : List Value} {M : pj_Mem}  : pj_step 73 (14, L, st, M) = some (17, L, .int 152 :: st, M) := st_sipush q73_14 (by decide +kernel)
theorem x73_14 {L : pj_Loc} {st : List Value} {M : pj_Mem}  {o9 : Option Value × pj_Mem} : pj_Ends 73 (14, L, st, M) o9 = pj_Ends 73 (17, L, .int 152 :: st, M) o9 := pj_xs (s73_14)
theorem q73_17 : pj_row 73 17 = some (.newarray .int, 2, 0, 0, 0) := by decide +kernel
theorem s73_17 {L : pj_Loc} {st : List Value} {N S : Nat} {H : pj_Heap} {x : Int32} {n' : Nat} (hn : ¬ x < 0) (he : x.toNatClampNeg = n') (hb : n' ≤ 100000) : pj_step 73 (17, L, .int x :: st, (N, S, H)) = some (19, L, .ref N :: st, (N + 1, S + n', pj_up H N (.inr (0, n', .inl (fun _ => 0))))) := (st_newarray q73_17 hn he hb).trans rfl
theorem x73_17 {L : pj_Loc} {st : List Value} {N S : Nat} {H : pj_Heap} {x : Int32} {n' : Nat} (hn : ¬ x < 0) (he : x.toNatClampNeg = n') (hb : n' ≤ 100000) {o9 : Option Value × pj_Mem} : pj_Ends 73 (17, L, .int x :: st, (N, S, H)) o9 = pj_Ends 73 (19, L, .ref N :: st, (N + 1, S + n', pj_up H N (.inr (0, n', .inl (fun _ => 0))))) o9 := pj_xs (s73_17 hn he hb)
theorem q73_19 : pj_row 73 19 = some (.putfield 13, 3, 6, 1, 0) := by decide +kernel
theorem s73_19 {L : pj_Loc} {st : List Value} {N S : Nat} {H : pj_Heap} {o : Nat} {v : Value} : pj_step 73 (19, L, v :: .ref o :: st, (N, S, H)) = pj_set 22 L st (N, S, H) o (pj_fset (H o) 6 1 v) := st_putfield q73_19
theorem x73_19 {L : pj_Loc} {st : List Value} {N S : Nat} {H : pj_Heap} {o : Nat} {v : Value} {o9 : Option Value × pj_Mem} : pj_Ends 73 (19, L, v :: .ref o :: st, (N, S, H)) o9 = pj_then 73 o9 (pj_set 22 L st (N, S, H) o (pj_fset (H o) 6 1 v)) := pj_xt q73_19 rfl (pj_cl_nc rfl) (s73_19)
theorem q73_22 : pj_row 73 22 = some (.aload_n 0, 1, 0, 0, 0) := by decide +kernel
theorem s73_22 {st : List Value} {M : pj_Mem} {l : pj_Loc} {x : Nat} : pj_step 73 (22, some (.ref x) :: l, st, M) = some (23, some (.ref x) :: l, .ref x :: st, M) := st_aload_n q73_22 rfl
theorem x73_22 {st : List Value} {M : pj_Mem} {l : pj_Loc} {x : Nat} {o9 : Option Value × pj_Mem} : pj_Ends 73 (22, some (.ref x) :: l, st, M) o9 = pj_Ends 73 (23, some (.ref x) :: l, .ref x :: st, M) o9 := pj_xs (s73_22)
theorem q73_23 : pj_row 73 23 = some (.sipush 912, 3, 0, 0, 0) := by decide +kernel
theorem s73_23 {L : pj_Loc} {st : List Value} {M : pj_Mem}  : pj_step 73 (23, L, st, M) = some (26, L, .int 912 :: st, M) := st_sipush q73_23 (by decide +kernel)
theorem x73_23 {L : pj_Loc} {st : List Value} {M : pj_Mem}  {o9 : Option Value × pj_Mem} : pj_Ends 73 (23, L, st, M) o9 = pj_Ends 73 (26, L, .int 912 :: st, M) o9 := pj_xs (s73_23)
theorem q73_26 : pj_row 73 26 = some (.newarray .int, 2, 0, 0, 0) := by decide +kernel
theorem s73_26 {L : pj_Loc} {st : List Value} {N S : Nat} {H : pj_Heap} {x : Int32} {n' : Nat} (hn : ¬ x < 0) (he : x.toNatClampNeg = n') (hb : n' ≤ 100000) : pj_step 73 (26, L, .int x :: st, (N, S, H)) = some (28, L, .ref N :: st, (N + 1, S + n', pj_up H N (.inr (0, n', .inl (fun _ => 0))))) := (st_newarray q73_26 hn he hb).trans rfl
theorem x73_26 {L : pj_Loc} {st : List Value} {N S : Nat} {H : pj_Heap} {x : Int32} {n' : Nat} (hn : ¬ x < 0) (he : x.toNatClampNeg = n') (hb : n' ≤ 100000) {o9 : Option Value × pj_Mem} : pj_Ends 73 (26, L, .int x :: st, (N, S, H)) o9 = pj_Ends 73 (28, L, .ref N :: st, (N + 1, S + n', pj_up H N (.inr (0, n', .inl (fun _ => 0))))) o9 := pj_xs (s73_26 hn he hb)
theorem q73_28 : pj_row 73 28 = some (.putfield 16, 3, 6, 2, 0) := by decide +kernel
theorem s73_28 {L : pj_Loc} {st : List Value} {N S : Nat} {H : pj_Heap} {o : Nat} {v : Value} : pj_step 73 (28, L, v :: .ref o :: st, (N, S, H)) = pj_set 31 L st (N, S, H) o (pj_fset (H o) 6 2 v) := st_putfield q73_28
theorem x73_28 {L : pj_Loc} {st : List Value} {N S : Nat} {H : pj_Heap} {o : Nat} {v : Value} {o9 : Option Value × pj_Mem} : pj_Ends 73 (28, L, v :: .ref o :: st, (N, S, H)) o9 = pj_then 73 o9 (pj_set 31 L st (N, S, H) o (pj_fset (H o) 6 2 v)) := pj_xt q73_28 rfl (pj_cl_nc rfl) (s73_28)
theorem q73_31 : pj_row 73 31 = some (.aload_n 0, 1, 0, 0, 0) := by decide +kernel
theorem s73_31 {st : List Value} {M : pj_Mem} {l : pj_Loc} {x : Nat} : pj_step 73 (31, some (.ref x) :: l, st, M) = some (32, some (.ref x) :: l, .ref x :: st, M) := st_aload_n q73_31 rfl
theorem x73_31 {st : List Value} {M : pj_Mem} {l : pj_Loc} {x : Nat} {o9 : Option Value × pj_Mem} : pj_Ends 73 (31, some (.ref x) :: l, st, M) o9 = pj_Ends 73 (32, some (.ref x) :: l, .ref x :: st, M) o9 := pj_xs (s73_31)
theorem q73_32 : pj_row 73 32 = some (.sipush 304, 3, 0, 0, 0) := by decide +kernel
theorem s73_32 {L : pj_Loc} {st : List Value} {M : pj_Mem}  : pj_step 73 (32, L, st, M) = some (35, L, .int 304 :: st, M) := st_sipush q73_32 (by decide +kernel)
theorem x73_32 {L : pj_Loc} {st : List Value} {M : pj_Mem}  {o9 : Option Value × pj_Mem} : pj_Ends 73 (32, L, st, M) o9 = pj_Ends 73 (35, L, .int 304 :: st, M) o9 := pj_xs (s73_32)
theorem q73_35 : pj_row 73 35 = some (.newarray .int, 2, 0, 0, 0) := by decide +kernel
theorem s73_35 {L : pj_Loc} {st : List Value} {N S : Nat} {H : pj_Heap} {x : Int32} {n' : Nat} (hn : ¬ x < 0) (he : x.toNatClampNeg = n') (hb : n' ≤ 100000) : pj_step 73 (35, L, .int x :: st, (N, S, H)) = some (37, L, .ref N :: st, (N + 1, S + n', pj_up H N (.inr (0, n', .inl (fun _ => 0))))) := (st_newarray q73_35 hn he hb).trans rfl
theorem x73_35 {L : pj_Loc} {st : List Value} {N S : Nat} {H : pj_Heap} {x : Int32} {n' : Nat} (hn : ¬ x < 0) (he : x.toNatClampNeg = n') (hb : n' ≤ 100000) {o9 : Option Value × pj_Mem} : pj_Ends 73 (35, L, .int x :: st, (N, S, H)) o9 = pj_Ends 73 (37, L, .ref N :: st, (N + 1, S + n', pj_up H N (.inr (0, n', .inl (fun _ => 0))))) o9 := pj_xs (s73_35 hn he hb)
theorem q73_37 : pj_row 73 37 = some (.putfield 19, 3, 6, 4, 0) := by decide +kernel
theorem s73_37 {L : pj_Loc} {st : List Value} {N S : Nat} {H : pj_Heap} {o : Nat} {v : Value} : pj_step 73 (37, L, v :: .ref o :: st, (N, S, H)) = pj_set 40 L st (N, S, H) o (pj_fset (H o) 6 4 v) := st_putfield q73_37
theorem x73_37 {L : pj_Loc} {st : List Value} {N S : Nat} {H : pj_Heap} {o : Nat} {v : Value} {o9 : Option Value × pj_Mem} : pj_Ends 73 (37, L, v :: .ref o :: st, (N, S, H)) o9 = pj_then 73 o9 (pj_set 40 L st (N, S, H) o (pj_fset (H o) 6 4 v)) := pj_xt q73_37 rfl (pj_cl_nc rfl) (s73_37)
theorem q73_40 : pj_row 73 40 = some (.aload_n 0, 1, 0, 0, 0) := by decide +kernel
theorem s73_40 {st : List Value} {M : pj_Mem} {l : pj_Loc} {x : Nat} : pj_step 73 (40, some (.ref x) :: l, st, M) = some (41, some (.ref x) :: l, .ref x :: st, M) := st_aload_n q73_40 rfl
theorem x73_40 {st : List Value} {M : pj_Mem} {l : pj_Loc} {x : Nat} {o9 : Option Value × pj_Mem} : pj_Ends 73 (40, some (.ref x) :: l, st, M) o9 = pj_Ends 73 (41, some (.ref x) :: l, .ref x :: st, M) o9 := pj_xs (s73_40)
theorem q73_41 : pj_row 73 41 = some (.iconst 2, 1, 0, 0, 0) := by decide +kernel
theorem s73_41 {L : pj_Loc} {st : List Value} {M : pj_Mem}  : pj_step 73 (41, L, st, M) = some (42, L, .int 2 :: st, M) := st_iconst q73_41 (by decide +kernel)
theorem x73_41 {L : pj_Loc} {st : List Value} {M : pj_Mem}  {o9 : Option Value × pj_Mem} : pj_Ends 73 (41, L, st, M) o9 = pj_Ends 73 (42, L, .int 2 :: st, M) o9 := pj_xs (s73_41)
theorem q73_42 : pj_row 73 42 = some (.newarray .int, 2, 0, 0, 0) := by decide +kernel
theorem s73_42 {L : pj_Loc} {st : List Value} {N S : Nat} {H : pj_Heap} {x : Int32} {n' : Nat} (hn : ¬ x < 0) (he : x.toNatClampNeg = n') (hb : n' ≤ 100000) : pj_step 73 (42, L, .int x :: st, (N, S, H)) = some (44, L, .ref N :: st, (N + 1, S + n', pj_up H N (.inr (0, n', .inl (fun _ => 0))))) := (st_newarray q73_42 hn he hb).trans rfl
theorem x73_42 {L : pj_Loc} {st : List Value} {N S : Nat} {H : pj_Heap} {x : Int32} {n' : Nat} (hn : ¬ x < 0) (he : x.toNatClampNeg = n') (hb : n' ≤ 100000) {o9 : Option Value × pj_Mem} : pj_Ends 73 (42, L, .int x :: st, (N, S, H)) o9 = pj_Ends 73 (44, L, .ref N :: st, (N + 1, S + n', pj_up H N (.inr (0, n', .inl (fun _ => 0))))) o9 := pj_xs (s73_42 hn he hb)
theorem q73_44 : pj_row 73 44 = some (.putfield 22, 3, 6, 5, 0) := by decide +kernel
theorem s73_44 {L : pj_Loc} {st : List Value} {N S : Nat} {H : pj_Heap} {o : Nat} {v : Value} : pj_step 73 (44, L, v :: .ref o :: st, (N, S, H)) = pj_set 47 L st (N, S, H) o (pj_fset (H o) 6 5 v) := st_putfield q73_44
theorem x73_44 {L : pj_Loc} {st : List Value} {N S : Nat} {H : pj_Heap} {o : Nat} {v : Value} {o9 : Option Value × pj_Mem} : pj_Ends 73 (44, L, v :: .ref o :: st, (N, S, H)) o9 = pj_then 73 o9 (pj_set 47 L st (N, S, H) o (pj_fset (H o) 6 5 v)) := pj_xt q73_44 rfl (pj_cl_nc rfl) (s73_44)
theorem q73_47 : pj_row 73 47 = some (.aload_n 0, 1, 0, 0, 0) := by decide +kernel
theorem s73_47 {st : List Value} {M : pj_Mem} {l : pj_Loc} {x : Nat} : pj_step 73 (47, some (.ref x) :: l, st, M) = some (48, some (.ref x) :: l, .ref x :: st, M) := st_aload_n q73_47 rfl
theorem x73_47 {st : List Value} {M : pj_Mem} {l : pj_Loc} {x : Nat} {o9 : Option Value × pj_Mem} : pj_Ends 73 (47, some (.ref x) :: l, st, M) o9 = pj_Ends 73 (48, some (.ref x) :: l, .ref x :: st, M) o9 := pj_xs (s73_47)
theorem q73_48 : pj_row 73 48 = some (.iconst 3, 1, 0, 0, 0) := by decide +kernel
theorem s73_48 {L : pj_Loc} {st : List Value} {M : pj_Mem}  : pj_step 73 (48, L, st, M) = some (49, L, .int 3 :: st, M) := st_iconst q73_48 (by decide +kernel)
theorem x73_48 {L : pj_Loc} {st : List Value} {M : pj_Mem}  {o9 : Option Value × pj_Mem} : pj_Ends 73 (48, L, st, M) o9 = pj_Ends 73 (49, L, .int 3 :: st, M) o9 := pj_xs (s73_48)
theorem q73_49 : pj_row 73 49 = some (.newarray .int, 2, 0, 0, 0) := by decide +kernel
theorem s73_49 {L : pj_Loc} {st : List Value} {N S : Nat} {H : pj_Heap} {x : Int32} {n' : Nat} (hn : ¬ x < 0) (he : x.toNatClampNeg = n') (hb : n' ≤ 100000) : pj_step 73 (49, L, .int x :: st, (N, S, H)) = some (51, L, .ref N :: st, (N + 1, S + n', pj_up H N (.inr (0, n', .inl (fun _ => 0))))) := (st_newarray q73_49 hn he hb).trans rfl
theorem x73_49 {L : pj_Loc} {st : List Value} {N S : Nat} {H : pj_Heap} {x : Int32} {n' : Nat} (hn : ¬ x < 0) (he : x.toNatClampNeg = n') (hb : n' ≤ 100000) {o9 : Option Value × pj_Mem} : pj_Ends 73 (49, L, .int x :: st, (N, S, H)) o9 = pj_Ends 73 (51, L, .ref N :: st, (N + 1, S + n', pj_up H N (.inr (0, n', .inl (fun _ => 0))))) o9 := pj_xs (s73_49 hn he hb)
theorem q73_51 : pj_row 73 51 = some (.putfield 25, 3, 6, 6, 0) := by decide +kernel
theorem s73_51 {L : pj_Loc} {st : List Value} {N S : Nat} {H : pj_Heap} {o : Nat} {v : Value} : pj_step 73 (51, L, v :: .ref o :: st, (N, S, H)) = pj_set 54 L st (N, S, H) o (pj_fset (H o) 6 6 v) := st_putfield q73_51
theorem x73_51 {L : pj_Loc} {st : List Value} {N S : Nat} {H : pj_Heap} {o : Nat} {v : Value} {o9 : Option Value × pj_Mem} : pj_Ends 73 (51, L, v :: .ref o :: st, (N, S, H)) o9 = pj_then 73 o9 (pj_set 54 L st (N, S, H) o (pj_fset (H o) 6 6 v)) := pj_xt q73_51 rfl (pj_cl_nc rfl) (s73_51)
theorem q73_54 : pj_row 73 54 = some (.aload_n 0, 1, 0, 0, 0) := by decide +kernel
theorem s73_54 {st : List Value} {M : pj_Mem} {l : pj_Loc} {x : Nat} : pj_step 73 (54, some (.ref x) :: l, st, M) = some (55, some (.ref x) :: l, .ref x :: st, M) := st_aload_n q73_54 rfl
theorem x73_54 {st : List Value} {M : pj_Mem} {l : pj_Loc} {x : Nat} {o9 : Option Value × pj_Mem} : pj_Ends 73 (54, some (.ref x) :: l, st, M) o9 = pj_Ends 73 (55, some (.ref x) :: l, .ref x :: st, M) o9 := pj_xs (s73_54)
theorem q73_55 : pj_row 73 55 = some (.iconst 3, 1, 0, 0, 0) := by decide +kernel
theorem s73_55 {L : pj_Loc} {st : List Value} {M : pj_Mem}  : pj_step 73 (55, L, st, M) = some (56, L, .int 3 :: st, M) := st_iconst q73_55 (by decide +kernel)
theorem x73_55 {L : pj_Loc} {st : List Value} {M : pj_Mem}  {o9 : Option Value × pj_Mem} : pj_Ends 73 (55, L, st, M) o9 = pj_Ends 73 (56, L, .int 3 :: st, M) o9 := pj_xs (s73_55)
theorem q73_56 : pj_row 73 56 = some (.newarray .int, 2, 0, 0, 0) := by decide +kernel
theorem s73_56 {L : pj_Loc} {st : List Value} {N S : Nat} {H : pj_Heap} {x : Int32} {n' : Nat} (hn : ¬ x < 0) (he : x.toNatClampNeg = n') (hb : n' ≤ 100000) : pj_step 73 (56, L, .int x :: st, (N, S, H)) = some (58, L, .ref N :: st, (N + 1, S + n', pj_up H N (.inr (0, n', .inl (fun _ => 0))))) := (st_newarray q73_56 hn he hb).trans rfl
theorem x73_56 {L : pj_Loc} {st : List Value} {N S : Nat} {H : pj_Heap} {x : Int32} {n' : Nat} (hn : ¬ x < 0) (he : x.toNatClampNeg = n') (hb : n' ≤ 100000) {o9 : Option Value × pj_Mem} : pj_Ends 73 (56, L, .int x :: st, (N, S, H)) o9 = pj_Ends 73 (58, L, .ref N :: st, (N + 1, S + n', pj_up H N (.inr (0, n', .inl (fun _ => 0))))) o9 := pj_xs (s73_56 hn he hb)
theorem q73_58 : pj_row 73 58 = some (.putfield 28, 3, 6, 7, 0) := by decide +kernel
theorem s73_58 {L : pj_Loc} {st : List Value} {N S : Nat} {H : pj_Heap} {o : Nat} {v : Value} : pj_step 73 (58, L, v :: .ref o :: st, (N, S, H)) = pj_set 61 L st (N, S, H) o (pj_fset (H o) 6 7 v) := st_putfield q73_58
theorem x73_58 {L : pj_Loc} {st : List Value} {N S : Nat} {H : pj_Heap} {o : Nat} {v : Value} {o9 : Option Value × pj_Mem} : pj_Ends 73 (58, L, v :: .ref o :: st, (N, S, H)) o9 = pj_then 73 o9 (pj_set 61 L st (N, S, H) o (pj_fset (H o) 6 7 v)) := pj_xt q73_58 rfl (pj_cl_nc rfl) (s73_58)
theorem q73_61 : pj_row 73 61 = some (.aload_n 0, 1, 0, 0, 0) := by decide +kernel
theorem s73_61 {st : List Value} {M : pj_Mem} {l : pj_Loc} {x : Nat} : pj_step 73 (61, some (.ref x) :: l, st, M) = some (62, some (.ref x) :: l, .ref x :: st, M) := st_aload_n q73_61 rfl
theorem x73_61 {st : List Value} {M : pj_Mem} {l : pj_Loc} {x : Nat} {o9 : Option Value × pj_Mem} : pj_Ends 73 (61, some (.ref x) :: l, st, M) o9 = pj_Ends 73 (62, some (.ref x) :: l, .ref x :: st, M) o9 := pj_xs (s73_61)
theorem q73_62 : pj_row 73 62 = some (.bipush 80, 2, 0, 0, 0) := by decide +kernel
theorem s73_62 {L : pj_Loc} {st : List Value} {M : pj_Mem}  : pj_step 73 (62, L, st, M) = some (64, L, .int 80 :: st, M) := st_bipush q73_62 (by decide +kernel)
theorem x73_62 {L : pj_Loc} {st : List Value} {M : pj_Mem}  {o9 : Option Value × pj_Mem} : pj_Ends 73 (62, L, st, M) o9 = pj_Ends 73 (64, L, .int 80 :: st, M) o9 := pj_xs (s73_62)
theorem q73_64 : pj_row 73 64 = some (.newarray .int, 2, 0, 0, 0) := by decide +kernel
theorem s73_64 {L : pj_Loc} {st : List Value} {N S : Nat} {H : pj_Heap} {x : Int32} {n' : Nat} (hn : ¬ x < 0) (he : x.toNatClampNeg = n') (hb : n' ≤ 100000) : pj_step 73 (64, L, .int x :: st, (N, S, H)) = some (66, L, .ref N :: st, (N + 1, S + n', pj_up H N (.inr (0, n', .inl (fun _ => 0))))) := (st_newarray q73_64 hn he hb).trans rfl
theorem x73_64 {L : pj_Loc} {st : List Value} {N S : Nat} {H : pj_Heap} {x : Int32} {n' : Nat} (hn : ¬ x < 0) (he : x.toNatClampNeg = n') (hb : n' ≤ 100000) {o9 : Option Value × pj_Mem} : pj_Ends 73 (64, L, .int x :: st, (N, S, H)) o9 = pj_Ends 73 (66, L, .ref N :: st, (N + 1, S + n', pj_up H N (.inr (0, n', .inl (fun _ => 0))))) o9 := pj_xs (s73_64 hn he hb)
theorem q73_66 : pj_row 73 66 = some (.putfield 31, 3, 6, 12, 0) := by decide +kernel
theorem s73_66 {L : pj_Loc} {st : List Value} {N S : Nat} {H : pj_Heap} {o : Nat} {v : Value} : pj_step 73 (66, L, v :: .ref o :: st, (N, S, H)) = pj_set 69 L st (N, S, H) o (pj_fset (H o) 6 12 v) := st_putfield q73_66
theorem x73_66 {L : pj_Loc} {st : List Value} {N S : Nat} {H : pj_Heap} {o : Nat} {v : Value} {o9 : Option Value × pj_Mem} : pj_Ends 73 (66, L, v :: .ref o :: st, (N, S, H)) o9 = pj_then 73 o9 (pj_set 69 L st (N, S, H) o (pj_fset (H o) 6 12 v)) := pj_xt q73_66 rfl (pj_cl_nc rfl) (s73_66)
theorem q73_69 : pj_row 73 69 = some (.aload_n 0, 1, 0, 0, 0) := by decide +kernel
theorem s73_69 {st : List Value} {M : pj_Mem} {l : pj_Loc} {x : Nat} : pj_step 73 (69, some (.ref x) :: l, st, M) = some (70, some (.ref x) :: l, .ref x :: st, M) := st_aload_n q73_69 rfl
theorem x73_69 {st : List Value} {M : pj_Mem} {l : pj_Loc} {x : Nat} {o9 : Option Value × pj_Mem} : pj_Ends 73 (69, some (.ref x) :: l, st, M) o9 = pj_Ends 73 (70, some (.ref x) :: l, .ref x :: st, M) o9 := pj_xs (s73_69)
theorem q73_70 : pj_row 73 70 = some (.getfield 7, 3, 6, 0, 0) := by decide +kernel
theorem s73_70 {L : pj_Loc} {st : List Value} {N S : Nat} {H : pj_Heap} {o : Nat} : pj_step 73 (70, L, .ref o :: st, (N, S, H)) = pj_pv 73 L st (N, S, H) (pj_fld (H o) 6 0) := st_getfield q73_70
theorem x73_70 {L : pj_Loc} {st : List Value} {N S : Nat} {H : pj_Heap} {o : Nat} {o9 : Option Value × pj_Mem} : pj_Ends 73 (70, L, .ref o :: st, (N, S, H)) o9 = pj_then 73 o9 (pj_pv 73 L st (N, S, H) (pj_fld (H o) 6 0)) := pj_xt q73_70 rfl (pj_cl_nc rfl) (s73_70)
theorem q73_73 : pj_row 73 73 = some (.iconst 0, 1, 0, 0, 0) := by decide +kernel
theorem s73_73 {L : pj_Loc} {st : List Value} {M : pj_Mem}  : pj_step 73 (73, L, st, M) = some (74, L, .int 0 :: st, M) := st_iconst q73_73 (by decide +kernel)
theorem x73_73 {L : pj_Loc} {st : List Value} {M : pj_Mem}  {o9 : Option Value × pj_Mem} : pj_Ends 73 (73, L, st, M) o9 = pj_Ends 73 (74, L, .int 0 :: st, M) o9 := pj_xs (s73_73)
theorem q73_74 : pj_row 73 74 = some (.bipush 60, 2, 0, 0, 0) := by decide +kernel
theorem s73_74 {L : pj_Loc} {st : List Value} {M : pj_Mem}  : pj_step 73 (74, L, st, M) = some (76, L, .int 60 :: st, M) := st_bipush q73_74 (by decide +kernel)
theorem x73_74 {L : pj_Loc} {st : List Value} {M : pj_Mem}  {o9 : Option Value × pj_Mem} : pj_Ends 73 (74, L, st, M) o9 = pj_Ends 73 (76, L, .int 60 :: st, M) o9 := pj_xs (s73_74)
theorem q73_76 : pj_row 73 76 = some (.iastore, 1, 0, 0, 0) := by decide +kernel
theorem s73_76 {L : pj_Loc} {st : List Value} {N S : Nat} {H : pj_Heap} {o : Nat} {i x : Int32} : pj_step 73 (76, L, .int x :: .int i :: .ref o :: st, (N, S, H)) = pj_set 77 L st (N, S, H) o (pj_ars (H o) 0 i x) := st_iastore q73_76
theorem x73_76 {L : pj_Loc} {st : List Value} {N S : Nat} {H : pj_Heap} {o : Nat} {i x : Int32} {o9 : Option Value × pj_Mem} : pj_Ends 73 (76, L, .int x :: .int i :: .ref o :: st, (N, S, H)) o9 = pj_then 73 o9 (pj_set 77 L st (N, S, H) o (pj_ars (H o) 0 i x)) := pj_xt q73_76 rfl (pj_cl_nc rfl) (s73_76)
theorem q73_77 : pj_row 73 77 = some (.aload_n 0, 1, 0, 0, 0) := by decide +kernel
theorem s73_77 {st : List Value} {M : pj_Mem} {l : pj_Loc} {x : Nat} : pj_step 73 (77, some (.ref x) :: l, st, M) = some (78, some (.ref x) :: l, .ref x :: st, M) := st_aload_n q73_77 rfl
theorem x73_77 {st : List Value} {M : pj_Mem} {l : pj_Loc} {x : Nat} {o9 : Option Value × pj_Mem} : pj_Ends 73 (77, some (.ref x) :: l, st, M) o9 = pj_Ends 73 (78, some (.ref x) :: l, .ref x :: st, M) o9 := pj_xs (s73_77)
theorem q73_78 : pj_row 73 78 = some (.getfield 7, 3, 6, 0, 0) := by decide +kernel
theorem s73_78 {L : pj_Loc} {st : List Value} {N S : Nat} {H : pj_Heap} {o : Nat} : pj_step 73 (78, L, .ref o :: st, (N, S, H)) = pj_pv 81 L st (N, S, H) (pj_fld (H o) 6 0) := st_getfield q73_78
theorem x73_78 {L : pj_Loc} {st : List Value} {N S : Nat} {H : pj_Heap} {o : Nat} {o9 : Option Value × pj_Mem} : pj_Ends 73 (78, L, .ref o :: st, (N, S, H)) o9 = pj_then 73 o9 (pj_pv 81 L st (N, S, H) (pj_fld (H o) 6 0)) := pj_xt q73_78 rfl (pj_cl_nc rfl) (s73_78)
theorem q73_81 : pj_row 73 81 = some (.iconst 1, 1, 0, 0, 0) := by decide +kernel
theorem s73_81 {L : pj_Loc} {st : List Value} {M : pj_Mem}  : pj_step 73 (81, L, st, M) = some (82, L, .int 1 :: st, M) := st_iconst q73_81 (by decide +kernel)
theorem x73_81 {L : pj_Loc} {st : List Value} {M : pj_Mem}  {o9 : Option Value × pj_Mem} : pj_Ends 73 (81, L, st, M) o9 = pj_Ends 73 (82, L, .int 1 :: st, M) o9 := pj_xs (s73_81)
theorem q73_82 : pj_row 73 82 = some (.sipush 150, 3, 0, 0, 0) := by decide +kernel
theorem s73_82 {L : pj_Loc} {st : List Value} {M : pj_Mem}  : pj_step 73 (82, L, st, M) = some (85, L, .int 150 :: st, M) := st_sipush q73_82 (by decide +kernel)
theorem x73_82 {L : pj_Loc} {st : List Value} {M : pj_Mem}  {o9 : Option Value × pj_Mem} : pj_Ends 73 (82, L, st, M) o9 = pj_Ends 73 (85, L, .int 150 :: st, M) o9 := pj_xs (s73_82)
theorem q73_85 : pj_row 73 85 = some (.iastore, 1, 0, 0, 0) := by decide +kernel
theorem s73_85 {L : pj_Loc} {st : List Value} {N S : Nat} {H : pj_Heap} {o : Nat} {i x : Int32} : pj_step 73 (85, L, .int x :: .int i :: .ref o :: st, (N, S, H)) = pj_set 86 L st (N, S, H) o (pj_ars (H o) 0 i x) := st_iastore q73_85
theorem x73_85 {L : pj_Loc} {st : List Value} {N S : Nat} {H : pj_Heap} {o : Nat} {i x : Int32} {o9 : Option Value × pj_Mem} : pj_Ends 73 (85, L, .int x :: .int i :: .ref o :: st, (N, S, H)) o9 = pj_then 73 o9 (pj_set 86 L st (N, S, H) o (pj_ars (H o) 0 i x)) := pj_xt q73_85 rfl (pj_cl_nc rfl) (s73_85)
theorem q73_86 : pj_row 73 86 = some (.aload_n 0, 1, 0, 0, 0) := by decide +kernel
theorem s73_86 {st : List Value} {M : pj_Mem} {l : pj_Loc} {x : Nat} : pj_step 73 (86, some (.ref x) :: l, st, M) = some (87, some (.ref x) :: l, .ref x :: st, M) := st_aload_n q73_86 rfl
theorem x73_86 {st : List Value} {M : pj_Mem} {l : pj_Loc} {x : Nat} {o9 : Option Value × pj_Mem} : pj_Ends 73 (86, some (.ref x) :: l, st, M) o9 = pj_Ends 73 (87, some (.ref x) :: l, .ref x :: st, M) o9 := pj_xs (s73_86)
theorem q73_87 : pj_row 73 87 = some (.getfield 7, 3, 6, 0, 0) := by decide +kernel
theorem s73_87 {L : pj_Loc} {st : List Value} {N S : Nat} {H : pj_Heap} {o : Nat} : pj_step 73 (87, L, .ref o :: st, (N, S, H)) = pj_pv 90 L st (N, S, H) (pj_fld (H o) 6 0) := st_getfield q73_87
theorem x73_87 {L : pj_Loc} {st : List Value} {N S : Nat} {H : pj_Heap} {o : Nat} {o9 : Option Value × pj_Mem} : pj_Ends 73 (87, L, .ref o :: st, (N, S, H)) o9 = pj_then 73 o9 (pj_pv 90 L st (N, S, H) (pj_fld (H o) 6 0)) := pj_xt q73_87 rfl (pj_cl_nc rfl) (s73_87)
theorem q73_90 : pj_row 73 90 = some (.iconst 2, 1, 0, 0, 0) := by decide +kernel
theorem s73_90 {L : pj_Loc} {st : List Value} {M : pj_Mem}  : pj_step 73 (90, L, st, M) = some (91, L, .int 2 :: st, M) := st_iconst q73_90 (by decide +kernel)
theorem x73_90 {L : pj_Loc} {st : List Value} {M : pj_Mem}  {o9 : Option Value × pj_Mem} : pj_Ends 73 (90, L, st, M) o9 = pj_Ends 73 (91, L, .int 2 :: st, M) o9 := pj_xs (s73_90)
theorem q73_91 : pj_row 73 91 = some (.iconst 5, 1, 0, 0, 0) := by decide +kernel
theorem s73_91 {L : pj_Loc} {st : List Value} {M : pj_Mem}  : pj_step 73 (91, L, st, M) = some (92, L, .int 5 :: st, M) := st_iconst q73_91 (by decide +kernel)
theorem x73_91 {L : pj_Loc} {st : List Value} {M : pj_Mem}  {o9 : Option Value × pj_Mem} : pj_Ends 73 (91, L, st, M) o9 = pj_Ends 73 (92, L, .int 5 :: st, M) o9 := pj_xs (s73_91)
theorem q73_92 : pj_row 73 92 = some (.iastore, 1, 0, 0, 0) := by decide +kernel
theorem s73_92 {L : pj_Loc} {st : List Value} {N S : Nat} {H : pj_Heap} {o : Nat} {i x : Int32} : pj_step 73 (92, L, .int x :: .int i :: .ref o :: st, (N, S, H)) = pj_set 93 L st (N, S, H) o (pj_ars (H o) 0 i x) := st_iastore q73_92
theorem x73_92 {L : pj_Loc} {st : List Value} {N S : Nat} {H : pj_Heap} {o : Nat} {i x : Int32} {o9 : Option Value × pj_Mem} : pj_Ends 73 (92, L, .int x :: .int i :: .ref o :: st, (N, S, H)) o9 = pj_then 73 o9 (pj_set 93 L st (N, S, H) o (pj_ars (H o) 0 i x)) := pj_xt q73_92 rfl (pj_cl_nc rfl) (s73_92)
theorem q73_93 : pj_row 73 93 = some (.aload_n 0, 1, 0, 0, 0) := by decide +kernel
theorem s73_93 {st : List Value} {M : pj_Mem} {l : pj_Loc} {x : Nat} : pj_step 73 (93, some (.ref x) :: l, st, M) = some (94, some (.ref x) :: l, .ref x :: st, M) := st_aload_n q73_93 rfl
theorem x73_93 {st : List Value} {M : pj_Mem} {l : pj_Loc} {x : Nat} {o9 : Option Value × pj_Mem} : pj_Ends 73 (93, some (.ref x) :: l, st, M) o9 = pj_Ends 73 (94, some (.ref x) :: l, .ref x :: st, M) o9 := pj_xs (s73_93)
theorem q73_94 : pj_row 73 94 = some (.getfield 7, 3, 6, 0, 0) := by decide +kernel
theorem s73_94 {L : pj_Loc} {st : List Value} {N S : Nat} {H : pj_Heap} {o : Nat} : pj_step 73 (94, L, .ref o :: st, (N, S, H)) = pj_pv 97 L st (N, S, H) (pj_fld (H o) 6 0) := st_getfield q73_94
theorem x73_94 {L : pj_Loc} {st : List Value} {N S : Nat} {H : pj_Heap} {o : Nat} {o9 : Option Value × pj_Mem} : pj_Ends 73 (94, L, .ref o :: st, (N, S, H)) o9 = pj_then 73 o9 (pj_pv 97 L st (N, S, H) (pj_fld (H o) 6 0)) := pj_xt q73_94 rfl (pj_cl_nc rfl) (s73_94)
theorem q73_97 : pj_row 73 97 = some (.iconst 3, 1, 0, 0, 0) := by decide +kernel
theorem s73_97 {L : pj_Loc} {st : List Value} {M : pj_Mem}  : pj_step 73 (97, L, st, M) = some (98, L, .int 3 :: st, M) := st_iconst q73_97 (by decide +kernel)
theorem x73_97 {L : pj_Loc} {st : List Value} {M : pj_Mem}  {o9 : Option Value × pj_Mem} : pj_Ends 73 (97, L, st, M) o9 = pj_Ends 73 (98, L, .int 3 :: st, M) o9 := pj_xs (s73_97)
theorem q73_98 : pj_row 73 98 = some (.bipush 8, 2, 0, 0, 0) := by decide +kernel
theorem s73_98 {L : pj_Loc} {st : List Value} {M : pj_Mem}  : pj_step 73 (98, L, st, M) = some (100, L, .int 8 :: st, M) := st_bipush q73_98 (by decide +kernel)
theorem x73_98 {L : pj_Loc} {st : List Value} {M : pj_Mem}  {o9 : Option Value × pj_Mem} : pj_Ends 73 (98, L, st, M) o9 = pj_Ends 73 (100, L, .int 8 :: st, M) o9 := pj_xs (s73_98)
theorem q73_100 : pj_row 73 100 = some (.iastore, 1, 0, 0, 0) := by decide +kernel
theorem s73_100 {L : pj_Loc} {st : List Value} {N S : Nat} {H : pj_Heap} {o : Nat} {i x : Int32} : pj_step 73 (100, L, .int x :: .int i :: .ref o :: st, (N, S, H)) = pj_set 101 L st (N, S, H) o (pj_ars (H o) 0 i x) := st_iastore q73_100
theorem x73_100 {L : pj_Loc} {st : List Value} {N S : Nat} {H : pj_Heap} {o : Nat} {i x : Int32} {o9 : Option Value × pj_Mem} : pj_Ends 73 (100, L, .int x :: .int i :: .ref o :: st, (N, S, H)) o9 = pj_then 73 o9 (pj_set 101 L st (N, S, H) o (pj_ars (H o) 0 i x)) := pj_xt q73_100 rfl (pj_cl_nc rfl) (s73_100)
theorem q73_101 : pj_row 73 101 = some (.aload_n 0, 1, 0, 0, 0) := by decide +kernel
theorem s73_101 {st : List Value} {M : pj_Mem} {l : pj_Loc} {x : Nat} : pj_step 73 (101, some (.ref x) :: l, st, M) = some (102, some (.ref x) :: l, .ref x :: st, M) := st_aload_n q73_101 rfl
theorem x73_101 {st : List Value} {M : pj_Mem} {l : pj_Loc} {x : Nat} {o9 : Option Value × pj_Mem} : pj_Ends 73 (101, some (.ref x) :: l, st, M) o9 = pj_Ends 73 (102, some (.ref x) :: l, .ref x :: st, M) o9 := pj_xs (s73_101)
theorem q73_102 : pj_row 73 102 = some (.getfield 7, 3, 6, 0, 0) := by decide +kernel
theorem s73_102 {L : pj_Loc} {st : List Value} {N S : Nat} {H : pj_Heap} {o : Nat} : pj_step 73 (102, L, .ref o :: st, (N, S, H)) = pj_pv 105 L st (N, S, H) (pj_fld (H o) 6 0) := st_getfield q73_102
theorem x73_102 {L : pj_Loc} {st : List Value} {N S : Nat} {H : pj_Heap} {o : Nat} {o9 : Option Value × pj_Mem} : pj_Ends 73 (102, L, .ref o :: st, (N, S, H)) o9 = pj_then 73 o9 (pj_pv 105 L st (N, S, H) (pj_fld (H o) 6 0)) := pj_xt q73_102 rfl (pj_cl_nc rfl) (s73_102)
theorem q73_105 : pj_row 73 105 = some (.iconst 4, 1, 0, 0, 0) := by decide +kernel
theorem s73_105 {L : pj_Loc} {st : List Value} {M : pj_Mem}  : pj_step 73 (105, L, st, M) = some (106, L, .int 4 :: st, M) := st_iconst q73_105 (by decide +kernel)
theorem x73_105 {L : pj_Loc} {st : List Value} {M : pj_Mem}  {o9 : Option Value × pj_Mem} : pj_Ends 73 (105, L, st, M) o9 = pj_Ends 73 (106, L, .int 4 :: st, M) o9 := pj_xs (s73_105)
theorem q73_106 : pj_row 73 106 = some (.bipush 40, 2, 0, 0, 0) := by decide +kernel
theorem s73_106 {L : pj_Loc} {st : List Value} {M : pj_Mem}  : pj_step 73 (106, L, st, M) = some (108, L, .int 40 :: st, M) := st_bipush q73_106 (by decide +kernel)
theorem x73_106 {L : pj_Loc} {st : List Value} {M : pj_Mem}  {o9 : Option Value × pj_Mem} : pj_Ends 73 (106, L, st, M) o9 = pj_Ends 73 (108, L, .int 40 :: st, M) o9 := pj_xs (s73_106)
theorem q73_108 : pj_row 73 108 = some (.iastore, 1, 0, 0, 0) := by decide +kernel
theorem s73_108 {L : pj_Loc} {st : List Value} {N S : Nat} {H : pj_Heap} {o : Nat} {i x : Int32} : pj_step 73 (108, L, .int x :: .int i :: .ref o :: st, (N, S, H)) = pj_set 109 L st (N, S, H) o (pj_ars (H o) 0 i x) := st_iastore q73_108
theorem x73_108 {L : pj_Loc} {st : List Value} {N S : Nat} {H : pj_Heap} {o : Nat} {i x : Int32} {o9 : Option Value × pj_Mem} : pj_Ends 73 (108, L, .int x :: .int i :: .ref o :: st, (N, S, H)) o9 = pj_then 73 o9 (pj_set 109 L st (N, S, H) o (pj_ars (H o) 0 i x)) := pj_xt q73_108 rfl (pj_cl_nc rfl) (s73_108)
theorem q73_109 : pj_row 73 109 = some (.aload_n 0, 1, 0, 0, 0) := by decide +kernel
theorem s73_109 {st : List Value} {M : pj_Mem} {l : pj_Loc} {x : Nat} : pj_step 73 (109, some (.ref x) :: l, st, M) = some (110, some (.ref x) :: l, .ref x :: st, M) := st_aload_n q73_109 rfl
theorem x73_109 {st : List Value} {M : pj_Mem} {l : pj_Loc} {x : Nat} {o9 : Option Value × pj_Mem} : pj_Ends 73 (109, some (.ref x) :: l, st, M) o9 = pj_Ends 73 (110, some (.ref x) :: l, .ref x :: st, M) o9 := pj_xs (s73_109)
theorem q73_110 : pj_row 73 110 = some (.getfield 7, 3, 6, 0, 0) := by decide +kernel
theorem s73_110 {L : pj_Loc} {st : List Value} {N S : Nat} {H : pj_Heap} {o : Nat} : pj_step 73 (110, L, .ref o :: st, (N, S, H)) = pj_pv 113 L st (N, S, H) (pj_fld (H o) 6 0) := st_getfield q73_110
theorem x73_110 {L : pj_Loc} {st : List Value} {N S : Nat} {H : pj_Heap} {o : Nat} {o9 : Option Value × pj_Mem} : pj_Ends 73 (110, L, .ref o :: st, (N, S, H)) o9 = pj_then 73 o9 (pj_pv 113 L st (N, S, H) (pj_fld (H o) 6 0)) := pj_xt q73_110 rfl (pj_cl_nc rfl) (s73_110)
theorem q73_113 : pj_row 73 113 = some (.iconst 5, 1, 0, 0, 0) := by decide +kernel
theorem s73_113 {L : pj_Loc} {st : List Value} {M : pj_Mem}  : pj_step 73 (113, L, st, M) = some (114, L, .int 5 :: st, M) := st_iconst q73_113 (by decide +kernel)
theorem x73_113 {L : pj_Loc} {st : List Value} {M : pj_Mem}  {o9 : Option Value × pj_Mem} : pj_Ends 73 (113, L, st, M) o9 = pj_Ends 73 (114, L, .int 5 :: st, M) o9 := pj_xs (s73_113)
theorem q73_114 : pj_row 73 114 = some (.iconst 2, 1, 0, 0, 0) := by decide +kernel
theorem s73_114 {L : pj_Loc} {st : List Value} {M : pj_Mem}  : pj_step 73 (114, L, st, M) = some (115, L, .int 2 :: st, M) := st_iconst q73_114 (by decide +kernel)
theorem x73_114 {L : pj_Loc} {st : List Value} {M : pj_Mem}  {o9 : Option Value × pj_Mem} : pj_Ends 73 (114, L, st, M) o9 = pj_Ends 73 (115, L, .int 2 :: st, M) o9 := pj_xs (s73_114)
theorem q73_115 : pj_row 73 115 = some (.iastore, 1, 0, 0, 0) := by decide +kernel
theorem s73_115 {L : pj_Loc} {st : List Value} {N S : Nat} {H : pj_Heap} {o : Nat} {i x : Int32} : pj_step 73 (115, L, .int x :: .int i :: .ref o :: st, (N, S, H)) = pj_set 116 L st (N, S, H) o (pj_ars (H o) 0 i x) := st_iastore q73_115
theorem x73_115 {L : pj_Loc} {st : List Value} {N S : Nat} {H : pj_Heap} {o : Nat} {i x : Int32} {o9 : Option Value × pj_Mem} : pj_Ends 73 (115, L, .int x :: .int i :: .ref o :: st, (N, S, H)) o9 = pj_then 73 o9 (pj_set 116 L st (N, S, H) o (pj_ars (H o) 0 i x)) := pj_xt q73_115 rfl (pj_cl_nc rfl) (s73_115)
theorem q73_116 : pj_row 73 116 = some (.iconst 0, 1, 0, 0, 0) := by decide +kernel
theorem s73_116 {L : pj_Loc} {st : List Value} {M : pj_Mem}  : pj_step 73 (116, L, st, M) = some (117, L, .int 0 :: st, M) := st_iconst q73_116 (by decide +kernel)
theorem x73_116 {L : pj_Loc} {st : List Value} {M : pj_Mem}  {o9 : Option Value × pj_Mem} : pj_Ends 73 (116, L, st, M) o9 = pj_Ends 73 (117, L, .int 0 :: st, M) o9 := pj_xs (s73_116)
theorem q73_117 : pj_row 73 117 = some (.istore_n 1, 1, 0, 0, 0) := by decide +kernel
theorem s73_117 {st : List Value} {M : pj_Mem} {l : pj_Loc} {a0 a1 : Option Value} {x : Int32} (h : pj_long a0 = false) : pj_step 73 (117, a0 :: a1 :: l, .int x :: st, M) = some (118, a0 :: some (.int x) :: l, st, M) := st_istore_n q73_117 (pj_st_1 h)
theorem x73_117 {st : List Value} {M : pj_Mem} {l : pj_Loc} {a0 a1 : Option Value} {x : Int32} (h : pj_long a0 = false) {o9 : Option Value × pj_Mem} : pj_Ends 73 (117, a0 :: a1 :: l, .int x :: st, M) o9 = pj_Ends 73 (118, a0 :: some (.int x) :: l, st, M) o9 := pj_xs (s73_117 h)
theorem q73_118 : pj_row 73 118 = some (.iload_n 1, 1, 0, 0, 0) := by decide +kernel
theorem s73_118 {st : List Value} {M : pj_Mem} {l : pj_Loc} {a0 : Option Value} {x : Int32} : pj_step 73 (118, a0 :: some (.int x) :: l, st, M) = some (119, a0 :: some (.int x) :: l, .int x :: st, M) := st_iload_n q73_118 rfl
theorem x73_118 {st : List Value} {M : pj_Mem} {l : pj_Loc} {a0 : Option Value} {x : Int32} {o9 : Option Value × pj_Mem} : pj_Ends 73 (118, a0 :: some (.int x) :: l, st, M) o9 = pj_Ends 73 (119, a0 :: some (.int x) :: l, .int x :: st, M) o9 := pj_xs (s73_118)
theorem q73_119 : pj_row 73 119 = some (.iconst 3, 1, 0, 0, 0) := by decide +kernel
theorem s73_119 {L : pj_Loc} {st : List Value} {M : pj_Mem}  : pj_step 73 (119, L, st, M) = some (120, L, .int 3 :: st, M) := st_iconst q73_119 (by decide +kernel)
theorem x73_119 {L : pj_Loc} {st : List Value} {M : pj_Mem}  {o9 : Option Value × pj_Mem} : pj_Ends 73 (119, L, st, M) o9 = pj_Ends 73 (120, L, .int 3 :: st, M) o9 := pj_xs (s73_119)
theorem q73_120 : pj_row 73 120 = some (.if_icmp .ge 30, 3, 150, 0, 0) := by decide +kernel
theorem s73_120 {L : pj_Loc} {st : List Value} {M : pj_Mem} {x y : Int32} : pj_step 73 (120, L, .int y :: .int x :: st, M) = some (if y ≤ x then 150 else 123, L, st, M) := st_icmp_ge q73_120
theorem x73_120 {L : pj_Loc} {st : List Value} {M : pj_Mem} {x y : Int32} {o9 : Option Value × pj_Mem} : pj_Ends 73 (120, L, .int y :: .int x :: st, M) o9 = pj_Ends 73 (if y ≤ x then 150 else 123, L, st, M) o9 := pj_xs (s73_120)
theorem q73_123 : pj_row 73 123 = some (.aload_n 0, 1, 0, 0, 0) := by decide +kernel
theorem s73_123 {st : List Value} {M : pj_Mem} {l : pj_Loc} {x : Nat} : pj_step 73 (123, some (.ref x) :: l, st, M) = some (124, some (.ref x) :: l, .ref x :: st, M) := st_aload_n q73_123 rfl
theorem x73_123 {st : List Value} {M : pj_Mem} {l : pj_Loc} {x : Nat} {o9 : Option Value × pj_Mem} : pj_Ends 73 (123, some (.ref x) :: l, st, M) o9 = pj_Ends 73 (124, some (.ref x) :: l, .ref x :: st, M) o9 := pj_xs (s73_123)
theorem q73_124 : pj_row 73 124 = some (.getfield 7, 3, 6, 0, 0) := by decide +kernel
theorem s73_124 {L : pj_Loc} {st : List Value} {N S : Nat} {H : pj_Heap} {o : Nat} : pj_step 73 (124, L, .ref o :: st, (N, S, H)) = pj_pv 127 L st (N, S, H) (pj_fld (H o) 6 0) := st_getfield q73_124
theorem x73_124 {L : pj_Loc} {st : List Value} {N S : Nat} {H : pj_Heap} {o : Nat} {o9 : Option Value × pj_Mem} : pj_Ends 73 (124, L, .ref o :: st, (N, S, H)) o9 = pj_then 73 o9 (pj_pv 127 L st (N, S, H) (pj_fld (H o) 6 0)) := pj_xt q73_124 rfl (pj_cl_nc rfl) (s73_124)
theorem q73_127 : pj_row 73 127 = some (.bipush 14, 2, 0, 0, 0) := by decide +kernel
theorem s73_127 {L : pj_Loc} {st : List Value} {M : pj_Mem}  : pj_step 73 (127, L, st, M) = some (129, L, .int 14 :: st, M) := st_bipush q73_127 (by decide +kernel)
theorem x73_127 {L : pj_Loc} {st : List Value} {M : pj_Mem}  {o9 : Option Value × pj_Mem} : pj_Ends 73 (127, L, st, M) o9 = pj_Ends 73 (129, L, .int 14 :: st, M) o9 := pj_xs (s73_127)
theorem q73_129 : pj_row 73 129 = some (.iload_n 1, 1, 0, 0, 0) := by decide +kernel
theorem s73_129 {st : List Value} {M : pj_Mem} {l : pj_Loc} {a0 : Option Value} {x : Int32} : pj_step 73 (129, a0 :: some (.int x) :: l, st, M) = some (130, a0 :: some (.int x) :: l, .int x :: st, M) := st_iload_n q73_129 rfl
theorem x73_129 {st : List Value} {M : pj_Mem} {l : pj_Loc} {a0 : Option Value} {x : Int32} {o9 : Option Value × pj_Mem} : pj_Ends 73 (129, a0 :: some (.int x) :: l, st, M) o9 = pj_Ends 73 (130, a0 :: some (.int x) :: l, .int x :: st, M) o9 := pj_xs (s73_129)
theorem q73_130 : pj_row 73 130 = some (.iadd, 1, 0, 0, 0) := by decide +kernel
theorem s73_130 {L : pj_Loc} {st : List Value} {M : pj_Mem} {x y : Int32} : pj_step 73 (130, L, .int y :: .int x :: st, M) = some (131, L, .int (x + y) :: st, M) := st_iadd q73_130
theorem x73_130 {L : pj_Loc} {st : List Value} {M : pj_Mem} {x y : Int32} {o9 : Option Value × pj_Mem} : pj_Ends 73 (130, L, .int y :: .int x :: st, M) o9 = pj_Ends 73 (131, L, .int (x + y) :: st, M) o9 := pj_xs (s73_130)
theorem q73_131 : pj_row 73 131 = some (.iconst 1, 1, 0, 0, 0) := by decide +kernel
theorem s73_131 {L : pj_Loc} {st : List Value} {M : pj_Mem}  : pj_step 73 (131, L, st, M) = some (132, L, .int 1 :: st, M) := st_iconst q73_131 (by decide +kernel)
theorem x73_131 {L : pj_Loc} {st : List Value} {M : pj_Mem}  {o9 : Option Value × pj_Mem} : pj_Ends 73 (131, L, st, M) o9 = pj_Ends 73 (132, L, .int 1 :: st, M) o9 := pj_xs (s73_131)
theorem q73_132 : pj_row 73 132 = some (.iastore, 1, 0, 0, 0) := by decide +kernel
theorem s73_132 {L : pj_Loc} {st : List Value} {N S : Nat} {H : pj_Heap} {o : Nat} {i x : Int32} : pj_step 73 (132, L, .int x :: .int i :: .ref o :: st, (N, S, H)) = pj_set 133 L st (N, S, H) o (pj_ars (H o) 0 i x) := st_iastore q73_132
theorem x73_132 {L : pj_Loc} {st : List Value} {N S : Nat} {H : pj_Heap} {o : Nat} {i x : Int32} {o9 : Option Value × pj_Mem} : pj_Ends 73 (132, L, .int x :: .int i :: .ref o :: st, (N, S, H)) o9 = pj_then 73 o9 (pj_set 133 L st (N, S, H) o (pj_ars (H o) 0 i x)) := pj_xt q73_132 rfl (pj_cl_nc rfl) (s73_132)
theorem q73_133 : pj_row 73 133 = some (.aload_n 0, 1, 0, 0, 0) := by decide +kernel
theorem s73_133 {st : List Value} {M : pj_Mem} {l : pj_Loc} {x : Nat} : pj_step 73 (133, some (.ref x) :: l, st, M) = some (134, some (.ref x) :: l, .ref x :: st, M) := st_aload_n q73_133 rfl
theorem x73_133 {st : List Value} {M : pj_Mem} {l : pj_Loc} {x : Nat} {o9 : Option Value × pj_Mem} : pj_Ends 73 (133, some (.ref x) :: l, st, M) o9 = pj_Ends 73 (134, some (.ref x) :: l, .ref x :: st, M) o9 := pj_xs (s73_133)
theorem q73_134 : pj_row 73 134 = some (.getfield 7, 3, 6, 0, 0) := by decide +kernel
theorem s73_134 {L : pj_Loc} {st : List Value} {N S : Nat} {H : pj_Heap} {o : Nat} : pj_step 73 (134, L, .ref o :: st, (N, S, H)) = pj_pv 137 L st (N, S, H) (pj_fld (H o) 6 0) := st_getfield q73_134
theorem x73_134 {L : pj_Loc} {st : List Value} {N S : Nat} {H : pj_Heap} {o : Nat} {o9 : Option Value × pj_Mem} : pj_Ends 73 (134, L, .ref o :: st, (N, S, H)) o9 = pj_then 73 o9 (pj_pv 137 L st (N, S, H) (pj_fld (H o) 6 0)) := pj_xt q73_134 rfl (pj_cl_nc rfl) (s73_134)
theorem q73_137 : pj_row 73 137 = some (.bipush 23, 2, 0, 0, 0) := by decide +kernel
theorem s73_137 {L : pj_Loc} {st : List Value} {M : pj_Mem}  : pj_step 73 (137, L, st, M) = some (139, L, .int 23 :: st, M) := st_bipush q73_137 (by decide +kernel)
theorem x73_137 {L : pj_Loc} {st : List Value} {M : pj_Mem}  {o9 : Option Value × pj_Mem} : pj_Ends 73 (137, L, st, M) o9 = pj_Ends 73 (139, L, .int 23 :: st, M) o9 := pj_xs (s73_137)
theorem q73_139 : pj_row 73 139 = some (.iload_n 1, 1, 0, 0, 0) := by decide +kernel
theorem s73_139 {st : List Value} {M : pj_Mem} {l : pj_Loc} {a0 : Option Value} {x : Int32} : pj_step 73 (139, a0 :: some (.int x) :: l, st, M) = some (140, a0 :: some (.int x) :: l, .int x :: st, M) := st_iload_n q73_139 rfl
theorem x73_139 {st : List Value} {M : pj_Mem} {l : pj_Loc} {a0 : Option Value} {x : Int32} {o9 : Option Value × pj_Mem} : pj_Ends 73 (139, a0 :: some (.int x) :: l, st, M) o9 = pj_Ends 73 (140, a0 :: some (.int x) :: l, .int x :: st, M) o9 := pj_xs (s73_139)
theorem q73_140 : pj_row 73 140 = some (.iadd, 1, 0, 0, 0) := by decide +kernel
theorem s73_140 {L : pj_Loc} {st : List Value} {M : pj_Mem} {x y : Int32} : pj_step 73 (140, L, .int y :: .int x :: st, M) = some (141, L, .int (x + y) :: st, M) := st_iadd q73_140
theorem x73_140 {L : pj_Loc} {st : List Value} {M : pj_Mem} {x y : Int32} {o9 : Option Value × pj_Mem} : pj_Ends 73 (140, L, .int y :: .int x :: st, M) o9 = pj_Ends 73 (141, L, .int (x + y) :: st, M) o9 := pj_xs (s73_140)
theorem q73_141 : pj_row 73 141 = some (.bipush (-6), 2, 0, 0, 0) := by decide +kernel
theorem s73_141 {L : pj_Loc} {st : List Value} {M : pj_Mem}  : pj_step 73 (141, L, st, M) = some (143, L, .int (-6) :: st, M) := st_bipush q73_141 (by decide +kernel)
theorem x73_141 {L : pj_Loc} {st : List Value} {M : pj_Mem}  {o9 : Option Value × pj_Mem} : pj_Ends 73 (141, L, st, M) o9 = pj_Ends 73 (143, L, .int (-6) :: st, M) o9 := pj_xs (s73_141)
theorem q73_143 : pj_row 73 143 = some (.iastore, 1, 0, 0, 0) := by decide +kernel
theorem s73_143 {L : pj_Loc} {st : List Value} {N S : Nat} {H : pj_Heap} {o : Nat} {i x : Int32} : pj_step 73 (143, L, .int x :: .int i :: .ref o :: st, (N, S, H)) = pj_set 144 L st (N, S, H) o (pj_ars (H o) 0 i x) := st_iastore q73_143
theorem x73_143 {L : pj_Loc} {st : List Value} {N S : Nat} {H : pj_Heap} {o : Nat} {i x : Int32} {o9 : Option Value × pj_Mem} : pj_Ends 73 (143, L, .int x :: .int i :: .ref o :: st, (N, S, H)) o9 = pj_then 73 o9 (pj_set 144 L st (N, S, H) o (pj_ars (H o) 0 i x)) := pj_xt q73_143 rfl (pj_cl_nc rfl) (s73_143)
theorem q73_144 : pj_row 73 144 = some (.iinc 1 1, 3, 0, 0, 0) := by decide +kernel
theorem s73_144 {st : List Value} {M : pj_Mem} {l : pj_Loc} {a0 : Option Value} {x : Int32} (h : pj_long a0 = false) : pj_step 73 (144, a0 :: some (.int x) :: l, st, M) = some (147, a0 :: some (.int (x + 1)) :: l, st, M) := st_iinc q73_144 rfl (congrArg (fun y => x + y) (show Int32.ofInt 1 = 1 by decide +kernel)) (pj_st_1 h)
theorem x73_144 {st : List Value} {M : pj_Mem} {l : pj_Loc} {a0 : Option Value} {x : Int32} (h : pj_long a0 = false) {o9 : Option Value × pj_Mem} : pj_Ends 73 (144, a0 :: some (.int x) :: l, st, M) o9 = pj_Ends 73 (147, a0 :: some (.int (x + 1)) :: l, st, M) o9 := pj_xs (s73_144 h)
theorem q73_147 : pj_row 73 147 = some (.goto (-29), 3, 118, 0, 0) := by decide +kernel
theorem s73_147 {L : pj_Loc} {st : List Value} {M : pj_Mem}  : pj_step 73 (147, L, st, M) = some (118, L, st, M) := st_goto q73_147
theorem x73_147 {L : pj_Loc} {st : List Value} {M : pj_Mem}  {o9 : Option Value × pj_Mem} : pj_Ends 73 (147, L, st, M) o9 = pj_Ends 73 (118, L, st, M) o9 := pj_xs (s73_147)
theorem q73_150 : pj_row 73 150 = some (.aload_n 0, 1, 0, 0, 0) := by decide +kernel
theorem s73_150 {st : List Value} {M : pj_Mem} {l : pj_Loc} {x : Nat} : pj_step 73 (150, some (.ref x) :: l, st, M) = some (151, some (.ref x) :: l, .ref x :: st, M) := st_aload_n q73_150 rfl
theorem x73_150 {st : List Value} {M : pj_Mem} {l : pj_Loc} {x : Nat} {o9 : Option Value × pj_Mem} : pj_Ends 73 (150, some (.ref x) :: l, st, M) o9 = pj_Ends 73 (151, some (.ref x) :: l, .ref x :: st, M) o9 := pj_xs (s73_150)
theorem q73_151 : pj_row 73 151 = some (.getfield 7, 3, 6, 0, 0) := by decide +kernel
theorem s73_151 {L : pj_Loc} {st : List Value} {N S : Nat} {H : pj_Heap} {o : Nat} : pj_step 73 (151, L, .ref o :: st, (N, S, H)) = pj_pv 154 L st (N, S, H) (pj_fld (H o) 6 0) := st_getfield q73_151
theorem x73_151 {L : pj_Loc} {st : List Value} {N S : Nat} {H : pj_Heap} {o : Nat} {o9 : Option Value × pj_Mem} : pj_Ends 73 (151, L, .ref o :: st, (N, S, H)) o9 = pj_then 73 o9 (pj_pv 154 L st (N, S, H) (pj_fld (H o) 6 0)) := pj_xt q73_151 rfl (pj_cl_nc rfl) (s73_151)
theorem q73_154 : pj_row 73 154 = some (.bipush 29, 2, 0, 0, 0) := by decide +kernel
theorem s73_154 {L : pj_Loc} {st : List Value} {M : pj_Mem}  : pj_step 73 (154, L, st, M) = some (156, L, .int 29 :: st, M) := st_bipush q73_154 (by decide +kernel)
theorem x73_154 {L : pj_Loc} {st : List Value} {M : pj_Mem}  {o9 : Option Value × pj_Mem} : pj_Ends 73 (154, L, st, M) o9 = pj_Ends 73 (156, L, .int 29 :: st, M) o9 := pj_xs (s73_154)
theorem q73_156 : pj_row 73 156 = some (.bipush (-6), 2, 0, 0, 0) := by decide +kernel
theorem s73_156 {L : pj_Loc} {st : List Value} {M : pj_Mem}  : pj_step 73 (156, L, st, M) = some (158, L, .int (-6) :: st, M) := st_bipush q73_156 (by decide +kernel)
theorem x73_156 {L : pj_Loc} {st : List Value} {M : pj_Mem}  {o9 : Option Value × pj_Mem} : pj_Ends 73 (156, L, st, M) o9 = pj_Ends 73 (158, L, .int (-6) :: st, M) o9 := pj_xs (s73_156)
theorem q73_158 : pj_row 73 158 = some (.iastore, 1, 0, 0, 0) := by decide +kernel
theorem s73_158 {L : pj_Loc} {st : List Value} {N S : Nat} {H : pj_Heap} {o : Nat} {i x : Int32} : pj_step 73 (158, L, .int x :: .int i :: .ref o :: st, (N, S, H)) = pj_set 159 L st (N, S, H) o (pj_ars (H o) 0 i x) := st_iastore q73_158
theorem x73_158 {L : pj_Loc} {st : List Value} {N S : Nat} {H : pj_Heap} {o : Nat} {i x : Int32} {o9 : Option Value × pj_Mem} : pj_Ends 73 (158, L, .int x :: .int i :: .ref o :: st, (N, S, H)) o9 = pj_then 73 o9 (pj_set 159 L st (N, S, H) o (pj_ars (H o) 0 i x)) := pj_xt q73_158 rfl (pj_cl_nc rfl) (s73_158)
theorem q73_159 : pj_row 73 159 = some (.return_, 1, 0, 0, 0) := by decide +kernel
theorem t73_159 {L : pj_Loc} {M : pj_Mem} : pj_Ends 73 (159, L, [], M) (none, M) := pj_Ends.ret q73_159 (pj_rtn_v rt73)
theorem rt74 : pj_rt 74 = some .int := rfl
theorem q74_0 : pj_row 74 0 = some (.iload_n 1, 1, 0, 0, 0) := by decide +kernel
theorem s74_0 {st : List Value} {M : pj_Mem} {l : pj_Loc} {a0 : Option Value} {x : Int32} : pj_step 74 (0, a0 :: some (.int x) :: l, st, M) = some (1, a0 :: some (.int x) :: l, .int x :: st, M) := st_iload_n q74_0 rfl
theorem x74_0 {st : List Value} {M : pj_Mem} {l : pj_Loc} {a0 : Option Value} {x : Int32} {o9 : Option Value × pj_Mem} : pj_Ends 74 (0, a0 :: some (.int x) :: l, st, M) o9 = pj_Ends 74 (1, a0 :: some (.int x) :: l, .int x :: st, M) o9 := pj_xs (s74_0)
theorem q74_1 : pj_row 74 1 = some (.iload_n 2, 1, 0, 0, 0) := by decide +kernel
theorem s74_1 {st : List Value} {M : pj_Mem} {l : pj_Loc} {a0 a1 : Option Value} {x : Int32} : pj_step 74 (1, a0 :: a1 :: some (.int x) :: l, st, M) = some (2, a0 :: a1 :: some (.int x) :: l, .int x :: st, M) := st_iload_n q74_1 rfl
theorem x74_1 {st : List Value} {M : pj_Mem} {l : pj_Loc} {a0 a1 : Option Value} {x : Int32} {o9 : Option Value × pj_Mem} : pj_Ends 74 (1, a0 :: a1 :: some (.int x) :: l, st, M) o9 = pj_Ends 74 (2, a0 :: a1 :: some (.int x) :: l, .int x :: st, M) o9 := pj_xs (s74_1)
theorem q74_2 : pj_row 74 2 = some (.invokestatic 117, 3, 75, 2, 0) := by decide +kernel
theorem e74_2 {L : pj_Loc} {st : List Value} {N S : Nat} {H : pj_Heap} {o : Option Value × pj_Mem} {M' : pj_Mem} {x0 : Int32} {x1 : Int32} {r : Int32} (h4 : pj_le4 st = true) (h1 : pj_Ends 75 (0, [some (.int x0), some (.int x1)], [], (N, S, H)) (some (.int r), M')) (h2 : pj_Ends 74 (5, L, .int r :: st, M') o) : pj_Ends 74 (2, L, .int x1 :: .int x0 :: st, (N, S, H)) o := ec_s2 q74_2 (Or.inl rfl) h4 rfl h1 h2
theorem q74_5 : pj_row 74 5 = some (.ifCond .ne 6, 3, 11, 0, 0) := by decide +kernel
theorem s74_5 {L : pj_Loc} {st : List Value} {M : pj_Mem} {x : Int32} : pj_step 74 (5, L, .int x :: st, M) = some (if ¬ x = 0 then 11 else 8, L, st, M) := st_if_ne q74_5
theorem x74_5 {L : pj_Loc} {st : List Value} {M : pj_Mem} {x : Int32} {o9 : Option Value × pj_Mem} : pj_Ends 74 (5, L, .int x :: st, M) o9 = pj_Ends 74 (if ¬ x = 0 then 11 else 8, L, st, M) o9 := pj_xs (s74_5)
theorem q74_8 : pj_row 74 8 = some (.bipush (-2), 2, 0, 0, 0) := by decide +kernel
theorem s74_8 {L : pj_Loc} {st : List Value} {M : pj_Mem}  : pj_step 74 (8, L, st, M) = some (10, L, .int (-2) :: st, M) := st_bipush q74_8 (by decide +kernel)
theorem x74_8 {L : pj_Loc} {st : List Value} {M : pj_Mem}  {o9 : Option Value × pj_Mem} : pj_Ends 74 (8, L, st, M) o9 = pj_Ends 74 (10, L, .int (-2) :: st, M) o9 := pj_xs (s74_8)
theorem q74_10 : pj_row 74 10 = some (.ireturn, 1, 0, 0, 0) := by decide +kernel
theorem t74_10 {L : pj_Loc} {M : pj_Mem} {v : Int32} : pj_Ends 74 (10, L, [.int v], M) (some (.int v), M) := pj_Ends.ret q74_10 (pj_rtn_i rt74)
theorem q74_11 : pj_row 74 11 = some (.aload_n 0, 1, 0, 0, 0) := by decide +kernel
theorem s74_11 {st : List Value} {M : pj_Mem} {l : pj_Loc} {x : Nat} : pj_step 74 (11, some (.ref x) :: l, st, M) = some (12, some (.ref x) :: l, .ref x :: st, M) := st_aload_n q74_11 rfl
theorem x74_11 {st : List Value} {M : pj_Mem} {l : pj_Loc} {x : Nat} {o9 : Option Value × pj_Mem} : pj_Ends 74 (11, some (.ref x) :: l, st, M) o9 = pj_Ends 74 (12, some (.ref x) :: l, .ref x :: st, M) o9 := pj_xs (s74_11)
theorem q74_12 : pj_row 74 12 = some (.invokevirtual 121, 3, 77, 1, 0) := by decide +kernel
theorem e74_12 {L : pj_Loc} {st : List Value} {N S : Nat} {H : pj_Heap} {o : Option Value × pj_Mem} {M' : pj_Mem} {x0 : Nat} (h4 : pj_le4 st = true) (hu : pj_isU 6 (H x0) = true) (h1 : pj_Ends 77 (0, [some (.ref x0), none], [], (N, S, H)) (none, M')) (h2 : pj_Ends 74 (15, L, st, M') o) : pj_Ends 74 (12, L, .ref x0 :: st, (N, S, H)) o := ec_v1 q74_12 (Or.inl rfl) h4 hu rfl h1 h2
theorem q74_15 : pj_row 74 15 = some (.aload_n 0, 1, 0, 0, 0) := by decide +kernel
theorem s74_15 {st : List Value} {M : pj_Mem} {l : pj_Loc} {x : Nat} : pj_step 74 (15, some (.ref x) :: l, st, M) = some (16, some (.ref x) :: l, .ref x :: st, M) := st_aload_n q74_15 rfl
theorem x74_15 {st : List Value} {M : pj_Mem} {l : pj_Loc} {x : Nat} {o9 : Option Value × pj_Mem} : pj_Ends 74 (15, some (.ref x) :: l, st, M) o9 = pj_Ends 74 (16, some (.ref x) :: l, .ref x :: st, M) o9 := pj_xs (s74_15)
theorem q74_16 : pj_row 74 16 = some (.getfield 7, 3, 6, 0, 0) := by decide +kernel
theorem s74_16 {L : pj_Loc} {st : List Value} {N S : Nat} {H : pj_Heap} {o : Nat} : pj_step 74 (16, L, .ref o :: st, (N, S, H)) = pj_pv 19 L st (N, S, H) (pj_fld (H o) 6 0) := st_getfield q74_16
theorem x74_16 {L : pj_Loc} {st : List Value} {N S : Nat} {H : pj_Heap} {o : Nat} {o9 : Option Value × pj_Mem} : pj_Ends 74 (16, L, .ref o :: st, (N, S, H)) o9 = pj_then 74 o9 (pj_pv 19 L st (N, S, H) (pj_fld (H o) 6 0)) := pj_xt q74_16 rfl (pj_cl_nc rfl) (s74_16)
theorem q74_19 : pj_row 74 19 = some (.iload_n 1, 1, 0, 0, 0) := by decide +kernel
theorem s74_19 {st : List Value} {M : pj_Mem} {l : pj_Loc} {a0 : Option Value} {x : Int32} : pj_step 74 (19, a0 :: some (.int x) :: l, st, M) = some (20, a0 :: some (.int x) :: l, .int x :: st, M) := st_iload_n q74_19 rfl
theorem x74_19 {st : List Value} {M : pj_Mem} {l : pj_Loc} {a0 : Option Value} {x : Int32} {o9 : Option Value × pj_Mem} : pj_Ends 74 (19, a0 :: some (.int x) :: l, st, M) o9 = pj_Ends 74 (20, a0 :: some (.int x) :: l, .int x :: st, M) o9 := pj_xs (s74_19)
theorem q74_20 : pj_row 74 20 = some (.iaload, 1, 0, 0, 0) := by decide +kernel
theorem s74_20 {L : pj_Loc} {st : List Value} {N S : Nat} {H : pj_Heap} {o : Nat} {i : Int32} : pj_step 74 (20, L, .int i :: .ref o :: st, (N, S, H)) = pj_pi 21 L st (N, S, H) (pj_arl (H o) 0 i) := st_iaload q74_20
theorem x74_20 {L : pj_Loc} {st : List Value} {N S : Nat} {H : pj_Heap} {o : Nat} {i : Int32} {o9 : Option Value × pj_Mem} : pj_Ends 74 (20, L, .int i :: .ref o :: st, (N, S, H)) o9 = pj_then 74 o9 (pj_pi 21 L st (N, S, H) (pj_arl (H o) 0 i)) := pj_xt q74_20 rfl (pj_cl_nc rfl) (s74_20)
theorem q74_21 : pj_row 74 21 = some (.istore_n 3, 1, 0, 0, 0) := by decide +kernel
theorem s74_21 {st : List Value} {M : pj_Mem} {l : pj_Loc} {a0 a1 a2 a3 : Option Value} {x : Int32} (h : pj_long a2 = false) : pj_step 74 (21, a0 :: a1 :: a2 :: a3 :: l, .int x :: st, M) = some (22, a0 :: a1 :: a2 :: some (.int x) :: l, st, M) := st_istore_n q74_21 (pj_st_3 h)
theorem x74_21 {st : List Value} {M : pj_Mem} {l : pj_Loc} {a0 a1 a2 a3 : Option Value} {x : Int32} (h : pj_long a2 = false) {o9 : Option Value × pj_Mem} : pj_Ends 74 (21, a0 :: a1 :: a2 :: a3 :: l, .int x :: st, M) o9 = pj_Ends 74 (22, a0 :: a1 :: a2 :: some (.int x) :: l, st, M) o9 := pj_xs (s74_21 h)
theorem q74_22 : pj_row 74 22 = some (.aload_n 0, 1, 0, 0, 0) := by decide +kernel
theorem s74_22 {st : List Value} {M : pj_Mem} {l : pj_Loc} {x : Nat} : pj_step 74 (22, some (.ref x) :: l, st, M) = some (23, some (.ref x) :: l, .ref x :: st, M) := st_aload_n q74_22 rfl
theorem x74_22 {st : List Value} {M : pj_Mem} {l : pj_Loc} {x : Nat} {o9 : Option Value × pj_Mem} : pj_Ends 74 (22, some (.ref x) :: l, st, M) o9 = pj_Ends 74 (23, some (.ref x) :: l, .ref x :: st, M) o9 := pj_xs (s74_22)
theorem q74_23 : pj_row 74 23 = some (.getfield 7, 3, 6, 0, 0) := by decide +kernel
theorem s74_23 {L : pj_Loc} {st : List Value} {N S : Nat} {H : pj_Heap} {o : Nat} : pj_step 74 (23, L, .ref o :: st, (N, S, H)) = pj_pv 26 L st (N, S, H) (pj_fld (H o) 6 0) := st_getfield q74_23
theorem x74_23 {L : pj_Loc} {st : List Value} {N S : Nat} {H : pj_Heap} {o : Nat} {o9 : Option Value × pj_Mem} : pj_Ends 74 (23, L, .ref o :: st, (N, S, H)) o9 = pj_then 74 o9 (pj_pv 26 L st (N, S, H) (pj_fld (H o) 6 0)) := pj_xt q74_23 rfl (pj_cl_nc rfl) (s74_23)
theorem q74_26 : pj_row 74 26 = some (.iload_n 1, 1, 0, 0, 0) := by decide +kernel
theorem s74_26 {st : List Value} {M : pj_Mem} {l : pj_Loc} {a0 : Option Value} {x : Int32} : pj_step 74 (26, a0 :: some (.int x) :: l, st, M) = some (27, a0 :: some (.int x) :: l, .int x :: st, M) := st_iload_n q74_26 rfl
theorem x74_26 {st : List Value} {M : pj_Mem} {l : pj_Loc} {a0 : Option Value} {x : Int32} {o9 : Option Value × pj_Mem} : pj_Ends 74 (26, a0 :: some (.int x) :: l, st, M) o9 = pj_Ends 74 (27, a0 :: some (.int x) :: l, .int x :: st, M) o9 := pj_xs (s74_26)
theorem q74_27 : pj_row 74 27 = some (.iload_n 2, 1, 0, 0, 0) := by decide +kernel
theorem s74_27 {st : List Value} {M : pj_Mem} {l : pj_Loc} {a0 a1 : Option Value} {x : Int32} : pj_step 74 (27, a0 :: a1 :: some (.int x) :: l, st, M) = some (28, a0 :: a1 :: some (.int x) :: l, .int x :: st, M) := st_iload_n q74_27 rfl
theorem x74_27 {st : List Value} {M : pj_Mem} {l : pj_Loc} {a0 a1 : Option Value} {x : Int32} {o9 : Option Value × pj_Mem} : pj_Ends 74 (27, a0 :: a1 :: some (.int x) :: l, st, M) o9 = pj_Ends 74 (28, a0 :: a1 :: some (.int x) :: l, .int x :: st, M) o9 := pj_xs (s74_27)
theorem q74_28 : pj_row 74 28 = some (.iastore, 1, 0, 0, 0) := by decide +kernel
theorem s74_28 {L : pj_Loc} {st : List Value} {N S : Nat} {H : pj_Heap} {o : Nat} {i x : Int32} : pj_step 74 (28, L, .int x :: .int i :: .ref o :: st, (N, S, H)) = pj_set 29 L st (N, S, H) o (pj_ars (H o) 0 i x) := st_iastore q74_28
theorem x74_28 {L : pj_Loc} {st : List Value} {N S : Nat} {H : pj_Heap} {o : Nat} {i x : Int32} {o9 : Option Value × pj_Mem} : pj_Ends 74 (28, L, .int x :: .int i :: .ref o :: st, (N, S, H)) o9 = pj_then 74 o9 (pj_set 29 L st (N, S, H) o (pj_ars (H o) 0 i x)) := pj_xt q74_28 rfl (pj_cl_nc rfl) (s74_28)
theorem q74_29 : pj_row 74 29 = some (.aload_n 0, 1, 0, 0, 0) := by decide +kernel
theorem s74_29 {st : List Value} {M : pj_Mem} {l : pj_Loc} {x : Nat} : pj_step 74 (29, some (.ref x) :: l, st, M) = some (30, some (.ref x) :: l, .ref x :: st, M) := st_aload_n q74_29 rfl
theorem x74_29 {st : List Value} {M : pj_Mem} {l : pj_Loc} {x : Nat} {o9 : Option Value × pj_Mem} : pj_Ends 74 (29, some (.ref x) :: l, st, M) o9 = pj_Ends 74 (30, some (.ref x) :: l, .ref x :: st, M) o9 := pj_xs (s74_29)
theorem q74_30 : pj_row 74 30 = some (.iload_n 3, 1, 0, 0, 0) := by decide +kernel
theorem s74_30 {st : List Value} {M : pj_Mem} {l : pj_Loc} {a0 a1 a2 : Option Value} {x : Int32} : pj_step 74 (30, a0 :: a1 :: a2 :: some (.int x) :: l, st, M) = some (31, a0 :: a1 :: a2 :: some (.int x) :: l, .int x :: st, M) := st_iload_n q74_30 rfl
theorem x74_30 {st : List Value} {M : pj_Mem} {l : pj_Loc} {a0 a1 a2 : Option Value} {x : Int32} {o9 : Option Value × pj_Mem} : pj_Ends 74 (30, a0 :: a1 :: a2 :: some (.int x) :: l, st, M) o9 = pj_Ends 74 (31, a0 :: a1 :: a2 :: some (.int x) :: l, .int x :: st, M) o9 := pj_xs (s74_30)
theorem q74_31 : pj_row 74 31 = some (.invokevirtual 124, 3, 78, 2, 0) := by decide +kernel
theorem e74_31 {L : pj_Loc} {st : List Value} {N S : Nat} {H : pj_Heap} {o : Option Value × pj_Mem} {M' : pj_Mem} {x0 : Nat} {x1 : Int32} {r : Int32} (h4 : pj_le4 st = true) (hu : pj_isU 6 (H x0) = true) (h1 : pj_Ends 78 (0, [some (.ref x0), some (.int x1), none], [], (N, S, H)) (some (.int r), M')) (h2 : pj_Ends 74 (34, L, .int r :: st, M') o) : pj_Ends 74 (31, L, .int x1 :: .ref x0 :: st, (N, S, H)) o := ec_v2 q74_31 (Or.inl rfl) h4 hu rfl h1 h2
theorem q74_34 : pj_row 74 34 = some (.ireturn, 1, 0, 0, 0) := by decide +kernel
theorem t74_34 {L : pj_Loc} {M : pj_Mem} {v : Int32} : pj_Ends 74 (34, L, [.int v], M) (some (.int v), M) := pj_Ends.ret q74_34 (pj_rtn_i rt74)
