/-! THE STEPS OF EACH METHOD, by program (wip/whole/gen/gen12.py) -/
theorem pj_xs {k : Nat} {g g' : pj_Cfg} {o : Option Value × pj_Mem} (h : pj_step k g = some g') : pj_Ends k g o = pj_Ends k g' o := by
  refine propext ⟨fun ⟨n, hn⟩ => ?_, pj_Ends.step h⟩
  obtain ⟨pc, L, st, M⟩ := g
  cases n with
  | zero => cases hn
  | succ n =>
    refine ⟨n, ?_⟩
    unfold pj_step at h
    unfold pj_exec at hn
    split at h
    · cases h
    · rename_i r hr
      simp only at hr
      rw [hr] at hn
      simp only at hn
      unfold pj_stp at h
      split at h
      · cases h
      · rename_i hv
        simp only at hv
        rw [hv] at hn
        simp only at hn
        split at h
        · cases h
        · rename_i hc
          simp only at hc
          rw [hc] at hn
          simp only at hn
          simp only at h
          rw [h] at hn
          exact hn
theorem pj_xt {k pc : Nat} {r : pj_Row} {L : pj_Loc} {st : List Value} {M : pj_Mem} {o : Option Value × pj_Mem} {x : Option pj_Cfg} (h : pj_row k pc = some r) (hv : pj_rtn k r.1 st = none) (hc : pj_cl r st M.2.2 = none) (hs : pj_step k (pc, L, st, M) = x) : pj_Ends k (pc, L, st, M) o = pj_then k o x := by
  cases x with
  | some g' => exact pj_xs hs
  | none =>
    refine propext ⟨fun ⟨n, hn⟩ => ?_, fun z => z.elim⟩
    cases n with
    | zero => cases hn
    | succ n =>
      unfold pj_exec at hn
      rw [h] at hn
      simp only at hn
      rw [hv] at hn
      simp only at hn
      rw [hc] at hn
      simp only at hn
      rw [pj_step_of h] at hs
      unfold pj_stp at hs
      rw [hv] at hs
      simp only at hs
      rw [hc] at hs
      simp only at hs
      rw [hs] at hn
      cases hn
theorem pj_rtn_i {k : Nat} {v : Int32} (h : pj_rt k = some .int) : pj_rtn k .ireturn [.int v] = some (some (.int v)) := by unfold pj_rtn; simp only [h]; exact if_pos rfl
theorem pj_rtn_z {k : Nat} {v : Int32} (h : pj_rt k = some .boolean) (hv : v = 0 ∨ v = 1) : pj_rtn k .ireturn [.int v] = some (some (.int v)) := by unfold pj_rtn; simp only [h]; rcases hv with rfl | rfl <;> exact if_pos (by decide)
theorem pj_rtn_v {k : Nat} (h : pj_rt k = none) : pj_rtn k .return_ [] = some none := by unfold pj_rtn; simp only [h, if_true]
theorem pj_rtn_a {k a : Nat} {t : FieldType} (h : pj_rt k = some (.array t)) : pj_rtn k .areturn [.ref a] = some (some (.ref a)) := by unfold pj_rtn; simp only [h]
theorem pj_long_i {x : Int32} : pj_long (some (.int x)) = false := rfl
theorem pj_long_r {x : Nat} : pj_long (some (.ref x)) = false := rfl
theorem pj_long_n : pj_long none = false := rfl
theorem pj_st_0 {a0 : Option Value} {l : pj_Loc} {v : Value} : pj_st (a0 :: l) 0 v = some (some v :: l) := rfl
theorem pj_st_1 {a0 a1 : Option Value} {l : pj_Loc} {v : Value} (h : pj_long a0 = false) : pj_st (a0 :: a1 :: l) 1 v = some (a0 :: some v :: l) := by simp [pj_st, h]
theorem pj_st_2 {a0 a1 a2 : Option Value} {l : pj_Loc} {v : Value} (h : pj_long a1 = false) : pj_st (a0 :: a1 :: a2 :: l) 2 v = some (a0 :: a1 :: some v :: l) := by simp [pj_st, h]
theorem pj_st_3 {a0 a1 a2 a3 : Option Value} {l : pj_Loc} {v : Value} (h : pj_long a2 = false) : pj_st (a0 :: a1 :: a2 :: a3 :: l) 3 v = some (a0 :: a1 :: a2 :: some v :: l) := by simp [pj_st, h]
theorem pj_st_4 {a0 a1 a2 a3 a4 : Option Value} {l : pj_Loc} {v : Value} (h : pj_long a3 = false) : pj_st (a0 :: a1 :: a2 :: a3 :: a4 :: l) 4 v = some (a0 :: a1 :: a2 :: a3 :: some v :: l) := by simp [pj_st, h]
theorem pj_st_5 {a0 a1 a2 a3 a4 a5 : Option Value} {l : pj_Loc} {v : Value} (h : pj_long a4 = false) : pj_st (a0 :: a1 :: a2 :: a3 :: a4 :: a5 :: l) 5 v = some (a0 :: a1 :: a2 :: a3 :: a4 :: some v :: l) := by simp [pj_st, h]
theorem pj_st_6 {a0 a1 a2 a3 a4 a5 a6 : Option Value} {l : pj_Loc} {v : Value} (h : pj_long a5 = false) : pj_st (a0 :: a1 :: a2 :: a3 :: a4 :: a5 :: a6 :: l) 6 v = some (a0 :: a1 :: a2 :: a3 :: a4 :: a5 :: some v :: l) := by simp [pj_st, h]
theorem pj_st_7 {a0 a1 a2 a3 a4 a5 a6 a7 : Option Value} {l : pj_Loc} {v : Value} (h : pj_long a6 = false) : pj_st (a0 :: a1 :: a2 :: a3 :: a4 :: a5 :: a6 :: a7 :: l) 7 v = some (a0 :: a1 :: a2 :: a3 :: a4 :: a5 :: a6 :: some v :: l) := by simp [pj_st, h]
theorem pj_stl_0 {a0 a1 : Option Value} {l : pj_Loc} {v : Value} : pj_stl (a0 :: a1 :: l) 0 v = some (some v :: none :: l) := rfl
theorem pj_stl_1 {a0 a1 a2 : Option Value} {l : pj_Loc} {v : Value} (h : pj_long a0 = false) : pj_stl (a0 :: a1 :: a2 :: l) 1 v = some (a0 :: some v :: none :: l) := by simp [pj_stl, h]
theorem pj_stl_2 {a0 a1 a2 a3 : Option Value} {l : pj_Loc} {v : Value} (h : pj_long a1 = false) : pj_stl (a0 :: a1 :: a2 :: a3 :: l) 2 v = some (a0 :: a1 :: some v :: none :: l) := by simp [pj_stl, h]
theorem pj_stl_3 {a0 a1 a2 a3 a4 : Option Value} {l : pj_Loc} {v : Value} (h : pj_long a2 = false) : pj_stl (a0 :: a1 :: a2 :: a3 :: a4 :: l) 3 v = some (a0 :: a1 :: a2 :: some v :: none :: l) := by simp [pj_stl, h]
theorem pj_stl_4 {a0 a1 a2 a3 a4 a5 : Option Value} {l : pj_Loc} {v : Value} (h : pj_long a3 = false) : pj_stl (a0 :: a1 :: a2 :: a3 :: a4 :: a5 :: l) 4 v = some (a0 :: a1 :: a2 :: a3 :: some v :: none :: l) := by simp [pj_stl, h]
theorem pj_stl_5 {a0 a1 a2 a3 a4 a5 a6 : Option Value} {l : pj_Loc} {v : Value} (h : pj_long a4 = false) : pj_stl (a0 :: a1 :: a2 :: a3 :: a4 :: a5 :: a6 :: l) 5 v = some (a0 :: a1 :: a2 :: a3 :: a4 :: some v :: none :: l) := by simp [pj_stl, h]
theorem pj_stl_6 {a0 a1 a2 a3 a4 a5 a6 a7 : Option Value} {l : pj_Loc} {v : Value} (h : pj_long a5 = false) : pj_stl (a0 :: a1 :: a2 :: a3 :: a4 :: a5 :: a6 :: a7 :: l) 6 v = some (a0 :: a1 :: a2 :: a3 :: a4 :: a5 :: some v :: none :: l) := by simp [pj_stl, h]
theorem rt0 : pj_rt 0 = none := rfl
theorem q0_0 : pj_row 0 0 = some (.aload_n 0, 1, 0, 0, 0) := by decide +kernel
theorem s0_0 {st : List Value} {M : pj_Mem} {l : pj_Loc} {x : Nat} : pj_step 0 (0, some (.ref x) :: l, st, M) = some (1, some (.ref x) :: l, .ref x :: st, M) := st_aload_n q0_0 rfl
theorem x0_0 {st : List Value} {M : pj_Mem} {l : pj_Loc} {x : Nat} {o9 : Option Value × pj_Mem} : pj_Ends 0 (0, some (.ref x) :: l, st, M) o9 = pj_Ends 0 (1, some (.ref x) :: l, .ref x :: st, M) o9 := pj_xs (s0_0)
theorem q0_1 : pj_row 0 1 = some (.invokespecial 1, 3, 0, 1, 2) := by decide +kernel
theorem s0_1 {L : pj_Loc} {st : List Value} {M : pj_Mem} {o : Nat} : pj_step 0 (1, L, .ref o :: st, M) = pj_g4 st (some (4, L, st, M)) := st_obj q0_1
theorem x0_1 {L : pj_Loc} {st : List Value} {M : pj_Mem} {o : Nat} {o9 : Option Value × pj_Mem} : pj_Ends 0 (1, L, .ref o :: st, M) o9 = pj_then 0 o9 (pj_g4 st (some (4, L, st, M))) := pj_xt q0_1 rfl rfl (s0_1)
theorem q0_4 : pj_row 0 4 = some (.aload_n 0, 1, 0, 0, 0) := by decide +kernel
theorem s0_4 {st : List Value} {M : pj_Mem} {l : pj_Loc} {x : Nat} : pj_step 0 (4, some (.ref x) :: l, st, M) = some (5, some (.ref x) :: l, .ref x :: st, M) := st_aload_n q0_4 rfl
theorem x0_4 {st : List Value} {M : pj_Mem} {l : pj_Loc} {x : Nat} {o9 : Option Value × pj_Mem} : pj_Ends 0 (4, some (.ref x) :: l, st, M) o9 = pj_Ends 0 (5, some (.ref x) :: l, .ref x :: st, M) o9 := pj_xs (s0_4)
theorem q0_5 : pj_row 0 5 = some (.new 7, 3, 4, 0, 0) := by decide +kernel
theorem s0_5 {L : pj_Loc} {st : List Value} {N S : Nat} {H : pj_Heap}  : pj_step 0 (5, L, st, (N, S, H)) = some (8, L, .ref N :: st, (N + 1, S + 11, pj_up H N (.inl (4, [.null, .null, .null, .null, .null, .null, .null, .int 0, .int 0, .int 0, .int 0])))) := (st_new q0_5).trans rfl
theorem x0_5 {L : pj_Loc} {st : List Value} {N S : Nat} {H : pj_Heap}  {o9 : Option Value × pj_Mem} : pj_Ends 0 (5, L, st, (N, S, H)) o9 = pj_Ends 0 (8, L, .ref N :: st, (N + 1, S + 11, pj_up H N (.inl (4, [.null, .null, .null, .null, .null, .null, .null, .int 0, .int 0, .int 0, .int 0])))) o9 := pj_xs (s0_5)
theorem q0_8 : pj_row 0 8 = some (.dup, 1, 0, 0, 0) := by decide +kernel
theorem s0_8 {L : pj_Loc} {st : List Value} {M : pj_Mem} {x : Nat} : pj_step 0 (8, L, .ref x :: st, M) = some (9, L, .ref x :: .ref x :: st, M) := st_dup_ref q0_8
theorem x0_8 {L : pj_Loc} {st : List Value} {M : pj_Mem} {x : Nat} {o9 : Option Value × pj_Mem} : pj_Ends 0 (8, L, .ref x :: st, M) o9 = pj_Ends 0 (9, L, .ref x :: .ref x :: st, M) o9 := pj_xs (s0_8)
theorem s0_8i {L : pj_Loc} {st : List Value} {M : pj_Mem} {x : Int32} : pj_step 0 (8, L, .int x :: st, M) = some (9, L, .int x :: .int x :: st, M) := st_dup_int q0_8
theorem x0_8i {L : pj_Loc} {st : List Value} {M : pj_Mem} {x : Int32} {o9 : Option Value × pj_Mem} : pj_Ends 0 (8, L, .int x :: st, M) o9 = pj_Ends 0 (9, L, .int x :: .int x :: st, M) o9 := pj_xs (s0_8i)
theorem q0_9 : pj_row 0 9 = some (.invokespecial 9, 3, 1, 1, 0) := by decide +kernel
theorem e0_9 {L : pj_Loc} {st : List Value} {N S : Nat} {H : pj_Heap} {o : Option Value × pj_Mem} {M' : pj_Mem} {x0 : Nat} (h4 : pj_le4 st = true) (h1 : pj_Ends 1 (0, [some (.ref x0), none], [], (N, S, H)) (none, M')) (h2 : pj_Ends 0 (12, L, st, M') o) : pj_Ends 0 (9, L, .ref x0 :: st, (N, S, H)) o := ec_i1 q0_9 (Or.inl rfl) h4 rfl h1 h2
theorem q0_12 : pj_row 0 12 = some (.putfield 10, 3, 5, 0, 0) := by decide +kernel
theorem s0_12 {L : pj_Loc} {st : List Value} {N S : Nat} {H : pj_Heap} {o : Nat} {v : Value} : pj_step 0 (12, L, v :: .ref o :: st, (N, S, H)) = pj_set 15 L st (N, S, H) o (pj_fset (H o) 5 0 v) := st_putfield q0_12
theorem x0_12 {L : pj_Loc} {st : List Value} {N S : Nat} {H : pj_Heap} {o : Nat} {v : Value} {o9 : Option Value × pj_Mem} : pj_Ends 0 (12, L, v :: .ref o :: st, (N, S, H)) o9 = pj_then 0 o9 (pj_set 15 L st (N, S, H) o (pj_fset (H o) 5 0 v)) := pj_xt q0_12 rfl (pj_cl_nc rfl) (s0_12)
theorem q0_15 : pj_row 0 15 = some (.aload_n 0, 1, 0, 0, 0) := by decide +kernel
theorem s0_15 {st : List Value} {M : pj_Mem} {l : pj_Loc} {x : Nat} : pj_step 0 (15, some (.ref x) :: l, st, M) = some (16, some (.ref x) :: l, .ref x :: st, M) := st_aload_n q0_15 rfl
theorem x0_15 {st : List Value} {M : pj_Mem} {l : pj_Loc} {x : Nat} {o9 : Option Value × pj_Mem} : pj_Ends 0 (15, some (.ref x) :: l, st, M) o9 = pj_Ends 0 (16, some (.ref x) :: l, .ref x :: st, M) o9 := pj_xs (s0_15)
theorem q0_16 : pj_row 0 16 = some (.new 7, 3, 4, 0, 0) := by decide +kernel
theorem s0_16 {L : pj_Loc} {st : List Value} {N S : Nat} {H : pj_Heap}  : pj_step 0 (16, L, st, (N, S, H)) = some (19, L, .ref N :: st, (N + 1, S + 11, pj_up H N (.inl (4, [.null, .null, .null, .null, .null, .null, .null, .int 0, .int 0, .int 0, .int 0])))) := (st_new q0_16).trans rfl
theorem x0_16 {L : pj_Loc} {st : List Value} {N S : Nat} {H : pj_Heap}  {o9 : Option Value × pj_Mem} : pj_Ends 0 (16, L, st, (N, S, H)) o9 = pj_Ends 0 (19, L, .ref N :: st, (N + 1, S + 11, pj_up H N (.inl (4, [.null, .null, .null, .null, .null, .null, .null, .int 0, .int 0, .int 0, .int 0])))) o9 := pj_xs (s0_16)
theorem q0_19 : pj_row 0 19 = some (.dup, 1, 0, 0, 0) := by decide +kernel
theorem s0_19 {L : pj_Loc} {st : List Value} {M : pj_Mem} {x : Nat} : pj_step 0 (19, L, .ref x :: st, M) = some (20, L, .ref x :: .ref x :: st, M) := st_dup_ref q0_19
theorem x0_19 {L : pj_Loc} {st : List Value} {M : pj_Mem} {x : Nat} {o9 : Option Value × pj_Mem} : pj_Ends 0 (19, L, .ref x :: st, M) o9 = pj_Ends 0 (20, L, .ref x :: .ref x :: st, M) o9 := pj_xs (s0_19)
theorem s0_19i {L : pj_Loc} {st : List Value} {M : pj_Mem} {x : Int32} : pj_step 0 (19, L, .int x :: st, M) = some (20, L, .int x :: .int x :: st, M) := st_dup_int q0_19
theorem x0_19i {L : pj_Loc} {st : List Value} {M : pj_Mem} {x : Int32} {o9 : Option Value × pj_Mem} : pj_Ends 0 (19, L, .int x :: st, M) o9 = pj_Ends 0 (20, L, .int x :: .int x :: st, M) o9 := pj_xs (s0_19i)
theorem q0_20 : pj_row 0 20 = some (.invokespecial 9, 3, 1, 1, 0) := by decide +kernel
theorem e0_20 {L : pj_Loc} {st : List Value} {N S : Nat} {H : pj_Heap} {o : Option Value × pj_Mem} {M' : pj_Mem} {x0 : Nat} (h4 : pj_le4 st = true) (h1 : pj_Ends 1 (0, [some (.ref x0), none], [], (N, S, H)) (none, M')) (h2 : pj_Ends 0 (23, L, st, M') o) : pj_Ends 0 (20, L, .ref x0 :: st, (N, S, H)) o := ec_i1 q0_20 (Or.inl rfl) h4 rfl h1 h2
theorem q0_23 : pj_row 0 23 = some (.putfield 16, 3, 5, 1, 0) := by decide +kernel
theorem s0_23 {L : pj_Loc} {st : List Value} {N S : Nat} {H : pj_Heap} {o : Nat} {v : Value} : pj_step 0 (23, L, v :: .ref o :: st, (N, S, H)) = pj_set 26 L st (N, S, H) o (pj_fset (H o) 5 1 v) := st_putfield q0_23
theorem x0_23 {L : pj_Loc} {st : List Value} {N S : Nat} {H : pj_Heap} {o : Nat} {v : Value} {o9 : Option Value × pj_Mem} : pj_Ends 0 (23, L, v :: .ref o :: st, (N, S, H)) o9 = pj_then 0 o9 (pj_set 26 L st (N, S, H) o (pj_fset (H o) 5 1 v)) := pj_xt q0_23 rfl (pj_cl_nc rfl) (s0_23)
theorem q0_26 : pj_row 0 26 = some (.aload_n 0, 1, 0, 0, 0) := by decide +kernel
theorem s0_26 {st : List Value} {M : pj_Mem} {l : pj_Loc} {x : Nat} : pj_step 0 (26, some (.ref x) :: l, st, M) = some (27, some (.ref x) :: l, .ref x :: st, M) := st_aload_n q0_26 rfl
theorem x0_26 {st : List Value} {M : pj_Mem} {l : pj_Loc} {x : Nat} {o9 : Option Value × pj_Mem} : pj_Ends 0 (26, some (.ref x) :: l, st, M) o9 = pj_Ends 0 (27, some (.ref x) :: l, .ref x :: st, M) o9 := pj_xs (s0_26)
theorem q0_27 : pj_row 0 27 = some (.new 19, 3, 3, 0, 0) := by decide +kernel
theorem s0_27 {L : pj_Loc} {st : List Value} {N S : Nat} {H : pj_Heap}  : pj_step 0 (27, L, st, (N, S, H)) = some (30, L, .ref N :: st, (N + 1, S + 14, pj_up H N (.inl (3, [.null, .null, .null, .null, .null, .null, .int 0, .int 0, .int 0, .int 0, .int 0, .int 0, .int 0, .int 0])))) := (st_new q0_27).trans rfl
theorem x0_27 {L : pj_Loc} {st : List Value} {N S : Nat} {H : pj_Heap}  {o9 : Option Value × pj_Mem} : pj_Ends 0 (27, L, st, (N, S, H)) o9 = pj_Ends 0 (30, L, .ref N :: st, (N + 1, S + 14, pj_up H N (.inl (3, [.null, .null, .null, .null, .null, .null, .int 0, .int 0, .int 0, .int 0, .int 0, .int 0, .int 0, .int 0])))) o9 := pj_xs (s0_27)
theorem q0_30 : pj_row 0 30 = some (.dup, 1, 0, 0, 0) := by decide +kernel
theorem s0_30 {L : pj_Loc} {st : List Value} {M : pj_Mem} {x : Nat} : pj_step 0 (30, L, .ref x :: st, M) = some (31, L, .ref x :: .ref x :: st, M) := st_dup_ref q0_30
theorem x0_30 {L : pj_Loc} {st : List Value} {M : pj_Mem} {x : Nat} {o9 : Option Value × pj_Mem} : pj_Ends 0 (30, L, .ref x :: st, M) o9 = pj_Ends 0 (31, L, .ref x :: .ref x :: st, M) o9 := pj_xs (s0_30)
theorem s0_30i {L : pj_Loc} {st : List Value} {M : pj_Mem} {x : Int32} : pj_step 0 (30, L, .int x :: st, M) = some (31, L, .int x :: .int x :: st, M) := st_dup_int q0_30
theorem x0_30i {L : pj_Loc} {st : List Value} {M : pj_Mem} {x : Int32} {o9 : Option Value × pj_Mem} : pj_Ends 0 (30, L, .int x :: st, M) o9 = pj_Ends 0 (31, L, .int x :: .int x :: st, M) o9 := pj_xs (s0_30i)
theorem q0_31 : pj_row 0 31 = some (.invokespecial 21, 3, 3, 1, 1) := by decide +kernel
theorem e0_31 {L : pj_Loc} {st : List Value} {N S : Nat} {H : pj_Heap} {o : Option Value × pj_Mem} {M' : pj_Mem} {x0 : Nat} (h4 : pj_le4 st = true) (h1 : pj_Ends 3 (0, [some (.ref x0)], [], (N, S, H)) (none, M')) (h2 : pj_Ends 0 (34, L, st, M') o) : pj_Ends 0 (31, L, .ref x0 :: st, (N, S, H)) o := ec_i1 q0_31 (Or.inr rfl) h4 rfl h1 h2
theorem q0_34 : pj_row 0 34 = some (.putfield 22, 3, 5, 2, 0) := by decide +kernel
theorem s0_34 {L : pj_Loc} {st : List Value} {N S : Nat} {H : pj_Heap} {o : Nat} {v : Value} : pj_step 0 (34, L, v :: .ref o :: st, (N, S, H)) = pj_set 37 L st (N, S, H) o (pj_fset (H o) 5 2 v) := st_putfield q0_34
theorem x0_34 {L : pj_Loc} {st : List Value} {N S : Nat} {H : pj_Heap} {o : Nat} {v : Value} {o9 : Option Value × pj_Mem} : pj_Ends 0 (34, L, v :: .ref o :: st, (N, S, H)) o9 = pj_then 0 o9 (pj_set 37 L st (N, S, H) o (pj_fset (H o) 5 2 v)) := pj_xt q0_34 rfl (pj_cl_nc rfl) (s0_34)
theorem q0_37 : pj_row 0 37 = some (.aload_n 0, 1, 0, 0, 0) := by decide +kernel
theorem s0_37 {st : List Value} {M : pj_Mem} {l : pj_Loc} {x : Nat} : pj_step 0 (37, some (.ref x) :: l, st, M) = some (38, some (.ref x) :: l, .ref x :: st, M) := st_aload_n q0_37 rfl
theorem x0_37 {st : List Value} {M : pj_Mem} {l : pj_Loc} {x : Nat} {o9 : Option Value × pj_Mem} : pj_Ends 0 (37, some (.ref x) :: l, st, M) o9 = pj_Ends 0 (38, some (.ref x) :: l, .ref x :: st, M) o9 := pj_xs (s0_37)
theorem q0_38 : pj_row 0 38 = some (.new 26, 3, 0, 0, 0) := by decide +kernel
theorem s0_38 {L : pj_Loc} {st : List Value} {N S : Nat} {H : pj_Heap}  : pj_step 0 (38, L, st, (N, S, H)) = some (41, L, .ref N :: st, (N + 1, S + 3, pj_up H N (.inl (0, [.null, .null, .int 0])))) := (st_new q0_38).trans rfl
theorem x0_38 {L : pj_Loc} {st : List Value} {N S : Nat} {H : pj_Heap}  {o9 : Option Value × pj_Mem} : pj_Ends 0 (38, L, st, (N, S, H)) o9 = pj_Ends 0 (41, L, .ref N :: st, (N + 1, S + 3, pj_up H N (.inl (0, [.null, .null, .int 0])))) o9 := pj_xs (s0_38)
theorem q0_41 : pj_row 0 41 = some (.dup, 1, 0, 0, 0) := by decide +kernel
theorem s0_41 {L : pj_Loc} {st : List Value} {M : pj_Mem} {x : Nat} : pj_step 0 (41, L, .ref x :: st, M) = some (42, L, .ref x :: .ref x :: st, M) := st_dup_ref q0_41
theorem x0_41 {L : pj_Loc} {st : List Value} {M : pj_Mem} {x : Nat} {o9 : Option Value × pj_Mem} : pj_Ends 0 (41, L, .ref x :: st, M) o9 = pj_Ends 0 (42, L, .ref x :: .ref x :: st, M) o9 := pj_xs (s0_41)
theorem s0_41i {L : pj_Loc} {st : List Value} {M : pj_Mem} {x : Int32} : pj_step 0 (41, L, .int x :: st, M) = some (42, L, .int x :: .int x :: st, M) := st_dup_int q0_41
theorem x0_41i {L : pj_Loc} {st : List Value} {M : pj_Mem} {x : Int32} {o9 : Option Value × pj_Mem} : pj_Ends 0 (41, L, .int x :: st, M) o9 = pj_Ends 0 (42, L, .int x :: .int x :: st, M) o9 := pj_xs (s0_41i)
theorem q0_42 : pj_row 0 42 = some (.invokespecial 28, 3, 4, 1, 1) := by decide +kernel
theorem e0_42 {L : pj_Loc} {st : List Value} {N S : Nat} {H : pj_Heap} {o : Option Value × pj_Mem} {M' : pj_Mem} {x0 : Nat} (h4 : pj_le4 st = true) (h1 : pj_Ends 4 (0, [some (.ref x0)], [], (N, S, H)) (none, M')) (h2 : pj_Ends 0 (45, L, st, M') o) : pj_Ends 0 (42, L, .ref x0 :: st, (N, S, H)) o := ec_i1 q0_42 (Or.inr rfl) h4 rfl h1 h2
theorem q0_45 : pj_row 0 45 = some (.putfield 29, 3, 5, 3, 0) := by decide +kernel
theorem s0_45 {L : pj_Loc} {st : List Value} {N S : Nat} {H : pj_Heap} {o : Nat} {v : Value} : pj_step 0 (45, L, v :: .ref o :: st, (N, S, H)) = pj_set 48 L st (N, S, H) o (pj_fset (H o) 5 3 v) := st_putfield q0_45
theorem x0_45 {L : pj_Loc} {st : List Value} {N S : Nat} {H : pj_Heap} {o : Nat} {v : Value} {o9 : Option Value × pj_Mem} : pj_Ends 0 (45, L, v :: .ref o :: st, (N, S, H)) o9 = pj_then 0 o9 (pj_set 48 L st (N, S, H) o (pj_fset (H o) 5 3 v)) := pj_xt q0_45 rfl (pj_cl_nc rfl) (s0_45)
theorem q0_48 : pj_row 0 48 = some (.aload_n 0, 1, 0, 0, 0) := by decide +kernel
theorem s0_48 {st : List Value} {M : pj_Mem} {l : pj_Loc} {x : Nat} : pj_step 0 (48, some (.ref x) :: l, st, M) = some (49, some (.ref x) :: l, .ref x :: st, M) := st_aload_n q0_48 rfl
theorem x0_48 {st : List Value} {M : pj_Mem} {l : pj_Loc} {x : Nat} {o9 : Option Value × pj_Mem} : pj_Ends 0 (48, some (.ref x) :: l, st, M) o9 = pj_Ends 0 (49, some (.ref x) :: l, .ref x :: st, M) o9 := pj_xs (s0_48)
theorem q0_49 : pj_row 0 49 = some (.bipush 6, 2, 0, 0, 0) := by decide +kernel
theorem s0_49 {L : pj_Loc} {st : List Value} {M : pj_Mem}  : pj_step 0 (49, L, st, M) = some (51, L, .int 6 :: st, M) := st_bipush q0_49 (by decide +kernel)
theorem x0_49 {L : pj_Loc} {st : List Value} {M : pj_Mem}  {o9 : Option Value × pj_Mem} : pj_Ends 0 (49, L, st, M) o9 = pj_Ends 0 (51, L, .int 6 :: st, M) o9 := pj_xs (s0_49)
theorem q0_51 : pj_row 0 51 = some (.invokestatic 33, 3, 6, 1, 0) := by decide +kernel
theorem e0_51 {L : pj_Loc} {st : List Value} {N S : Nat} {H : pj_Heap} {o : Option Value × pj_Mem} {M' : pj_Mem} {x0 : Int32} {r : Nat} (h4 : pj_le4 st = true) (h1 : pj_Ends 6 (0, [some (.int x0), none, none], [], (N, S, H)) (some (.ref r), M')) (h2 : pj_Ends 0 (54, L, .ref r :: st, M') o) : pj_Ends 0 (51, L, .int x0 :: st, (N, S, H)) o := ec_s1 q0_51 (Or.inl rfl) h4 rfl h1 h2
theorem q0_54 : pj_row 0 54 = some (.putfield 37, 3, 5, 4, 0) := by decide +kernel
theorem s0_54 {L : pj_Loc} {st : List Value} {N S : Nat} {H : pj_Heap} {o : Nat} {v : Value} : pj_step 0 (54, L, v :: .ref o :: st, (N, S, H)) = pj_set 57 L st (N, S, H) o (pj_fset (H o) 5 4 v) := st_putfield q0_54
theorem x0_54 {L : pj_Loc} {st : List Value} {N S : Nat} {H : pj_Heap} {o : Nat} {v : Value} {o9 : Option Value × pj_Mem} : pj_Ends 0 (54, L, v :: .ref o :: st, (N, S, H)) o9 = pj_then 0 o9 (pj_set 57 L st (N, S, H) o (pj_fset (H o) 5 4 v)) := pj_xt q0_54 rfl (pj_cl_nc rfl) (s0_54)
theorem q0_57 : pj_row 0 57 = some (.aload_n 0, 1, 0, 0, 0) := by decide +kernel
theorem s0_57 {st : List Value} {M : pj_Mem} {l : pj_Loc} {x : Nat} : pj_step 0 (57, some (.ref x) :: l, st, M) = some (58, some (.ref x) :: l, .ref x :: st, M) := st_aload_n q0_57 rfl
theorem x0_57 {st : List Value} {M : pj_Mem} {l : pj_Loc} {x : Nat} {o9 : Option Value × pj_Mem} : pj_Ends 0 (57, some (.ref x) :: l, st, M) o9 = pj_Ends 0 (58, some (.ref x) :: l, .ref x :: st, M) o9 := pj_xs (s0_57)
theorem q0_58 : pj_row 0 58 = some (.iconst 2, 1, 0, 0, 0) := by decide +kernel
theorem s0_58 {L : pj_Loc} {st : List Value} {M : pj_Mem}  : pj_step 0 (58, L, st, M) = some (59, L, .int 2 :: st, M) := st_iconst q0_58 (by decide +kernel)
theorem x0_58 {L : pj_Loc} {st : List Value} {M : pj_Mem}  {o9 : Option Value × pj_Mem} : pj_Ends 0 (58, L, st, M) o9 = pj_Ends 0 (59, L, .int 2 :: st, M) o9 := pj_xs (s0_58)
theorem q0_59 : pj_row 0 59 = some (.invokestatic 33, 3, 6, 1, 0) := by decide +kernel
theorem e0_59 {L : pj_Loc} {st : List Value} {N S : Nat} {H : pj_Heap} {o : Option Value × pj_Mem} {M' : pj_Mem} {x0 : Int32} {r : Nat} (h4 : pj_le4 st = true) (h1 : pj_Ends 6 (0, [some (.int x0), none, none], [], (N, S, H)) (some (.ref r), M')) (h2 : pj_Ends 0 (62, L, .ref r :: st, M') o) : pj_Ends 0 (59, L, .int x0 :: st, (N, S, H)) o := ec_s1 q0_59 (Or.inl rfl) h4 rfl h1 h2
theorem q0_62 : pj_row 0 62 = some (.putfield 41, 3, 5, 6, 0) := by decide +kernel
theorem s0_62 {L : pj_Loc} {st : List Value} {N S : Nat} {H : pj_Heap} {o : Nat} {v : Value} : pj_step 0 (62, L, v :: .ref o :: st, (N, S, H)) = pj_set 65 L st (N, S, H) o (pj_fset (H o) 5 6 v) := st_putfield q0_62
theorem x0_62 {L : pj_Loc} {st : List Value} {N S : Nat} {H : pj_Heap} {o : Nat} {v : Value} {o9 : Option Value × pj_Mem} : pj_Ends 0 (62, L, v :: .ref o :: st, (N, S, H)) o9 = pj_then 0 o9 (pj_set 65 L st (N, S, H) o (pj_fset (H o) 5 6 v)) := pj_xt q0_62 rfl (pj_cl_nc rfl) (s0_62)
theorem q0_65 : pj_row 0 65 = some (.aload_n 0, 1, 0, 0, 0) := by decide +kernel
theorem s0_65 {st : List Value} {M : pj_Mem} {l : pj_Loc} {x : Nat} : pj_step 0 (65, some (.ref x) :: l, st, M) = some (66, some (.ref x) :: l, .ref x :: st, M) := st_aload_n q0_65 rfl
theorem x0_65 {st : List Value} {M : pj_Mem} {l : pj_Loc} {x : Nat} {o9 : Option Value × pj_Mem} : pj_Ends 0 (65, some (.ref x) :: l, st, M) o9 = pj_Ends 0 (66, some (.ref x) :: l, .ref x :: st, M) o9 := pj_xs (s0_65)
theorem q0_66 : pj_row 0 66 = some (.iconst 2, 1, 0, 0, 0) := by decide +kernel
theorem s0_66 {L : pj_Loc} {st : List Value} {M : pj_Mem}  : pj_step 0 (66, L, st, M) = some (67, L, .int 2 :: st, M) := st_iconst q0_66 (by decide +kernel)
theorem x0_66 {L : pj_Loc} {st : List Value} {M : pj_Mem}  {o9 : Option Value × pj_Mem} : pj_Ends 0 (66, L, st, M) o9 = pj_Ends 0 (67, L, .int 2 :: st, M) o9 := pj_xs (s0_66)
theorem q0_67 : pj_row 0 67 = some (.newarray .boolean, 2, 2, 0, 0) := by decide +kernel
theorem s0_67 {L : pj_Loc} {st : List Value} {N S : Nat} {H : pj_Heap} {x : Int32} {n' : Nat} (hn : ¬ x < 0) (he : x.toNatClampNeg = n') (hb : n' ≤ 100000) : pj_step 0 (67, L, .int x :: st, (N, S, H)) = some (69, L, .ref N :: st, (N + 1, S + n', pj_up H N (.inr (2, n', .inl (fun _ => 0))))) := (st_newarray q0_67 hn he hb).trans rfl
theorem x0_67 {L : pj_Loc} {st : List Value} {N S : Nat} {H : pj_Heap} {x : Int32} {n' : Nat} (hn : ¬ x < 0) (he : x.toNatClampNeg = n') (hb : n' ≤ 100000) {o9 : Option Value × pj_Mem} : pj_Ends 0 (67, L, .int x :: st, (N, S, H)) o9 = pj_Ends 0 (69, L, .ref N :: st, (N + 1, S + n', pj_up H N (.inr (2, n', .inl (fun _ => 0))))) o9 := pj_xs (s0_67 hn he hb)
theorem q0_69 : pj_row 0 69 = some (.putfield 44, 3, 5, 7, 0) := by decide +kernel
theorem s0_69 {L : pj_Loc} {st : List Value} {N S : Nat} {H : pj_Heap} {o : Nat} {v : Value} : pj_step 0 (69, L, v :: .ref o :: st, (N, S, H)) = pj_set 72 L st (N, S, H) o (pj_fset (H o) 5 7 v) := st_putfield q0_69
theorem x0_69 {L : pj_Loc} {st : List Value} {N S : Nat} {H : pj_Heap} {o : Nat} {v : Value} {o9 : Option Value × pj_Mem} : pj_Ends 0 (69, L, v :: .ref o :: st, (N, S, H)) o9 = pj_then 0 o9 (pj_set 72 L st (N, S, H) o (pj_fset (H o) 5 7 v)) := pj_xt q0_69 rfl (pj_cl_nc rfl) (s0_69)
theorem q0_72 : pj_row 0 72 = some (.return_, 1, 0, 0, 0) := by decide +kernel
theorem t0_72 {L : pj_Loc} {M : pj_Mem} : pj_Ends 0 (72, L, [], M) (none, M) := pj_Ends.ret q0_72 (pj_rtn_v rt0)
theorem rt1 : pj_rt 1 = none := rfl
theorem q1_0 : pj_row 1 0 = some (.aload_n 0, 1, 0, 0, 0) := by decide +kernel
theorem s1_0 {st : List Value} {M : pj_Mem} {l : pj_Loc} {x : Nat} : pj_step 1 (0, some (.ref x) :: l, st, M) = some (1, some (.ref x) :: l, .ref x :: st, M) := st_aload_n q1_0 rfl
theorem x1_0 {st : List Value} {M : pj_Mem} {l : pj_Loc} {x : Nat} {o9 : Option Value × pj_Mem} : pj_Ends 1 (0, some (.ref x) :: l, st, M) o9 = pj_Ends 1 (1, some (.ref x) :: l, .ref x :: st, M) o9 := pj_xs (s1_0)
theorem q1_1 : pj_row 1 1 = some (.invokespecial 3, 3, 0, 1, 2) := by decide +kernel
theorem s1_1 {L : pj_Loc} {st : List Value} {M : pj_Mem} {o : Nat} : pj_step 1 (1, L, .ref o :: st, M) = pj_g4 st (some (4, L, st, M)) := st_obj q1_1
theorem x1_1 {L : pj_Loc} {st : List Value} {M : pj_Mem} {o : Nat} {o9 : Option Value × pj_Mem} : pj_Ends 1 (1, L, .ref o :: st, M) o9 = pj_then 1 o9 (pj_g4 st (some (4, L, st, M))) := pj_xt q1_1 rfl rfl (s1_1)
theorem q1_4 : pj_row 1 4 = some (.aload_n 0, 1, 0, 0, 0) := by decide +kernel
theorem s1_4 {st : List Value} {M : pj_Mem} {l : pj_Loc} {x : Nat} : pj_step 1 (4, some (.ref x) :: l, st, M) = some (5, some (.ref x) :: l, .ref x :: st, M) := st_aload_n q1_4 rfl
theorem x1_4 {st : List Value} {M : pj_Mem} {l : pj_Loc} {x : Nat} {o9 : Option Value × pj_Mem} : pj_Ends 1 (4, some (.ref x) :: l, st, M) o9 = pj_Ends 1 (5, some (.ref x) :: l, .ref x :: st, M) o9 := pj_xs (s1_4)
theorem q1_5 : pj_row 1 5 = some (.bipush 6, 2, 0, 0, 0) := by decide +kernel
theorem s1_5 {L : pj_Loc} {st : List Value} {M : pj_Mem}  : pj_step 1 (5, L, st, M) = some (7, L, .int 6 :: st, M) := st_bipush q1_5 (by decide +kernel)
theorem x1_5 {L : pj_Loc} {st : List Value} {M : pj_Mem}  {o9 : Option Value × pj_Mem} : pj_Ends 1 (5, L, st, M) o9 = pj_Ends 1 (7, L, .int 6 :: st, M) o9 := pj_xs (s1_5)
theorem q1_7 : pj_row 1 7 = some (.newarray .int, 2, 0, 0, 0) := by decide +kernel
theorem s1_7 {L : pj_Loc} {st : List Value} {N S : Nat} {H : pj_Heap} {x : Int32} {n' : Nat} (hn : ¬ x < 0) (he : x.toNatClampNeg = n') (hb : n' ≤ 100000) : pj_step 1 (7, L, .int x :: st, (N, S, H)) = some (9, L, .ref N :: st, (N + 1, S + n', pj_up H N (.inr (0, n', .inl (fun _ => 0))))) := (st_newarray q1_7 hn he hb).trans rfl
theorem x1_7 {L : pj_Loc} {st : List Value} {N S : Nat} {H : pj_Heap} {x : Int32} {n' : Nat} (hn : ¬ x < 0) (he : x.toNatClampNeg = n') (hb : n' ≤ 100000) {o9 : Option Value × pj_Mem} : pj_Ends 1 (7, L, .int x :: st, (N, S, H)) o9 = pj_Ends 1 (9, L, .ref N :: st, (N + 1, S + n', pj_up H N (.inr (0, n', .inl (fun _ => 0))))) o9 := pj_xs (s1_7 hn he hb)
theorem q1_9 : pj_row 1 9 = some (.putfield 9, 3, 4, 0, 0) := by decide +kernel
theorem s1_9 {L : pj_Loc} {st : List Value} {N S : Nat} {H : pj_Heap} {o : Nat} {v : Value} : pj_step 1 (9, L, v :: .ref o :: st, (N, S, H)) = pj_set 12 L st (N, S, H) o (pj_fset (H o) 4 0 v) := st_putfield q1_9
theorem x1_9 {L : pj_Loc} {st : List Value} {N S : Nat} {H : pj_Heap} {o : Nat} {v : Value} {o9 : Option Value × pj_Mem} : pj_Ends 1 (9, L, v :: .ref o :: st, (N, S, H)) o9 = pj_then 1 o9 (pj_set 12 L st (N, S, H) o (pj_fset (H o) 4 0 v)) := pj_xt q1_9 rfl (pj_cl_nc rfl) (s1_9)
theorem q1_12 : pj_row 1 12 = some (.aload_n 0, 1, 0, 0, 0) := by decide +kernel
theorem s1_12 {st : List Value} {M : pj_Mem} {l : pj_Loc} {x : Nat} : pj_step 1 (12, some (.ref x) :: l, st, M) = some (13, some (.ref x) :: l, .ref x :: st, M) := st_aload_n q1_12 rfl
theorem x1_12 {st : List Value} {M : pj_Mem} {l : pj_Loc} {x : Nat} {o9 : Option Value × pj_Mem} : pj_Ends 1 (12, some (.ref x) :: l, st, M) o9 = pj_Ends 1 (13, some (.ref x) :: l, .ref x :: st, M) o9 := pj_xs (s1_12)
theorem q1_13 : pj_row 1 13 = some (.iconst 3, 1, 0, 0, 0) := by decide +kernel
theorem s1_13 {L : pj_Loc} {st : List Value} {M : pj_Mem}  : pj_step 1 (13, L, st, M) = some (14, L, .int 3 :: st, M) := st_iconst q1_13 (by decide +kernel)
theorem x1_13 {L : pj_Loc} {st : List Value} {M : pj_Mem}  {o9 : Option Value × pj_Mem} : pj_Ends 1 (13, L, st, M) o9 = pj_Ends 1 (14, L, .int 3 :: st, M) o9 := pj_xs (s1_13)
theorem q1_14 : pj_row 1 14 = some (.newarray .int, 2, 0, 0, 0) := by decide +kernel
theorem s1_14 {L : pj_Loc} {st : List Value} {N S : Nat} {H : pj_Heap} {x : Int32} {n' : Nat} (hn : ¬ x < 0) (he : x.toNatClampNeg = n') (hb : n' ≤ 100000) : pj_step 1 (14, L, .int x :: st, (N, S, H)) = some (16, L, .ref N :: st, (N + 1, S + n', pj_up H N (.inr (0, n', .inl (fun _ => 0))))) := (st_newarray q1_14 hn he hb).trans rfl
theorem x1_14 {L : pj_Loc} {st : List Value} {N S : Nat} {H : pj_Heap} {x : Int32} {n' : Nat} (hn : ¬ x < 0) (he : x.toNatClampNeg = n') (hb : n' ≤ 100000) {o9 : Option Value × pj_Mem} : pj_Ends 1 (14, L, .int x :: st, (N, S, H)) o9 = pj_Ends 1 (16, L, .ref N :: st, (N + 1, S + n', pj_up H N (.inr (0, n', .inl (fun _ => 0))))) o9 := pj_xs (s1_14 hn he hb)
theorem q1_16 : pj_row 1 16 = some (.putfield 15, 3, 4, 1, 0) := by decide +kernel
theorem s1_16 {L : pj_Loc} {st : List Value} {N S : Nat} {H : pj_Heap} {o : Nat} {v : Value} : pj_step 1 (16, L, v :: .ref o :: st, (N, S, H)) = pj_set 19 L st (N, S, H) o (pj_fset (H o) 4 1 v) := st_putfield q1_16
theorem x1_16 {L : pj_Loc} {st : List Value} {N S : Nat} {H : pj_Heap} {o : Nat} {v : Value} {o9 : Option Value × pj_Mem} : pj_Ends 1 (16, L, v :: .ref o :: st, (N, S, H)) o9 = pj_then 1 o9 (pj_set 19 L st (N, S, H) o (pj_fset (H o) 4 1 v)) := pj_xt q1_16 rfl (pj_cl_nc rfl) (s1_16)
theorem q1_19 : pj_row 1 19 = some (.aload_n 0, 1, 0, 0, 0) := by decide +kernel
theorem s1_19 {st : List Value} {M : pj_Mem} {l : pj_Loc} {x : Nat} : pj_step 1 (19, some (.ref x) :: l, st, M) = some (20, some (.ref x) :: l, .ref x :: st, M) := st_aload_n q1_19 rfl
theorem x1_19 {st : List Value} {M : pj_Mem} {l : pj_Loc} {x : Nat} {o9 : Option Value × pj_Mem} : pj_Ends 1 (19, some (.ref x) :: l, st, M) o9 = pj_Ends 1 (20, some (.ref x) :: l, .ref x :: st, M) o9 := pj_xs (s1_19)
theorem q1_20 : pj_row 1 20 = some (.iconst 3, 1, 0, 0, 0) := by decide +kernel
theorem s1_20 {L : pj_Loc} {st : List Value} {M : pj_Mem}  : pj_step 1 (20, L, st, M) = some (21, L, .int 3 :: st, M) := st_iconst q1_20 (by decide +kernel)
theorem x1_20 {L : pj_Loc} {st : List Value} {M : pj_Mem}  {o9 : Option Value × pj_Mem} : pj_Ends 1 (20, L, st, M) o9 = pj_Ends 1 (21, L, .int 3 :: st, M) o9 := pj_xs (s1_20)
theorem q1_21 : pj_row 1 21 = some (.newarray .int, 2, 0, 0, 0) := by decide +kernel
theorem s1_21 {L : pj_Loc} {st : List Value} {N S : Nat} {H : pj_Heap} {x : Int32} {n' : Nat} (hn : ¬ x < 0) (he : x.toNatClampNeg = n') (hb : n' ≤ 100000) : pj_step 1 (21, L, .int x :: st, (N, S, H)) = some (23, L, .ref N :: st, (N + 1, S + n', pj_up H N (.inr (0, n', .inl (fun _ => 0))))) := (st_newarray q1_21 hn he hb).trans rfl
theorem x1_21 {L : pj_Loc} {st : List Value} {N S : Nat} {H : pj_Heap} {x : Int32} {n' : Nat} (hn : ¬ x < 0) (he : x.toNatClampNeg = n') (hb : n' ≤ 100000) {o9 : Option Value × pj_Mem} : pj_Ends 1 (21, L, .int x :: st, (N, S, H)) o9 = pj_Ends 1 (23, L, .ref N :: st, (N + 1, S + n', pj_up H N (.inr (0, n', .inl (fun _ => 0))))) o9 := pj_xs (s1_21 hn he hb)
theorem q1_23 : pj_row 1 23 = some (.putfield 18, 3, 4, 2, 0) := by decide +kernel
theorem s1_23 {L : pj_Loc} {st : List Value} {N S : Nat} {H : pj_Heap} {o : Nat} {v : Value} : pj_step 1 (23, L, v :: .ref o :: st, (N, S, H)) = pj_set 26 L st (N, S, H) o (pj_fset (H o) 4 2 v) := st_putfield q1_23
theorem x1_23 {L : pj_Loc} {st : List Value} {N S : Nat} {H : pj_Heap} {o : Nat} {v : Value} {o9 : Option Value × pj_Mem} : pj_Ends 1 (23, L, v :: .ref o :: st, (N, S, H)) o9 = pj_then 1 o9 (pj_set 26 L st (N, S, H) o (pj_fset (H o) 4 2 v)) := pj_xt q1_23 rfl (pj_cl_nc rfl) (s1_23)
theorem q1_26 : pj_row 1 26 = some (.aload_n 0, 1, 0, 0, 0) := by decide +kernel
theorem s1_26 {st : List Value} {M : pj_Mem} {l : pj_Loc} {x : Nat} : pj_step 1 (26, some (.ref x) :: l, st, M) = some (27, some (.ref x) :: l, .ref x :: st, M) := st_aload_n q1_26 rfl
theorem x1_26 {st : List Value} {M : pj_Mem} {l : pj_Loc} {x : Nat} {o9 : Option Value × pj_Mem} : pj_Ends 1 (26, some (.ref x) :: l, st, M) o9 = pj_Ends 1 (27, some (.ref x) :: l, .ref x :: st, M) o9 := pj_xs (s1_26)
theorem q1_27 : pj_row 1 27 = some (.iconst 3, 1, 0, 0, 0) := by decide +kernel
theorem s1_27 {L : pj_Loc} {st : List Value} {M : pj_Mem}  : pj_step 1 (27, L, st, M) = some (28, L, .int 3 :: st, M) := st_iconst q1_27 (by decide +kernel)
theorem x1_27 {L : pj_Loc} {st : List Value} {M : pj_Mem}  {o9 : Option Value × pj_Mem} : pj_Ends 1 (27, L, st, M) o9 = pj_Ends 1 (28, L, .int 3 :: st, M) o9 := pj_xs (s1_27)
theorem q1_28 : pj_row 1 28 = some (.newarray .int, 2, 0, 0, 0) := by decide +kernel
theorem s1_28 {L : pj_Loc} {st : List Value} {N S : Nat} {H : pj_Heap} {x : Int32} {n' : Nat} (hn : ¬ x < 0) (he : x.toNatClampNeg = n') (hb : n' ≤ 100000) : pj_step 1 (28, L, .int x :: st, (N, S, H)) = some (30, L, .ref N :: st, (N + 1, S + n', pj_up H N (.inr (0, n', .inl (fun _ => 0))))) := (st_newarray q1_28 hn he hb).trans rfl
theorem x1_28 {L : pj_Loc} {st : List Value} {N S : Nat} {H : pj_Heap} {x : Int32} {n' : Nat} (hn : ¬ x < 0) (he : x.toNatClampNeg = n') (hb : n' ≤ 100000) {o9 : Option Value × pj_Mem} : pj_Ends 1 (28, L, .int x :: st, (N, S, H)) o9 = pj_Ends 1 (30, L, .ref N :: st, (N + 1, S + n', pj_up H N (.inr (0, n', .inl (fun _ => 0))))) o9 := pj_xs (s1_28 hn he hb)
theorem q1_30 : pj_row 1 30 = some (.putfield 21, 3, 4, 3, 0) := by decide +kernel
theorem s1_30 {L : pj_Loc} {st : List Value} {N S : Nat} {H : pj_Heap} {o : Nat} {v : Value} : pj_step 1 (30, L, v :: .ref o :: st, (N, S, H)) = pj_set 33 L st (N, S, H) o (pj_fset (H o) 4 3 v) := st_putfield q1_30
theorem x1_30 {L : pj_Loc} {st : List Value} {N S : Nat} {H : pj_Heap} {o : Nat} {v : Value} {o9 : Option Value × pj_Mem} : pj_Ends 1 (30, L, v :: .ref o :: st, (N, S, H)) o9 = pj_then 1 o9 (pj_set 33 L st (N, S, H) o (pj_fset (H o) 4 3 v)) := pj_xt q1_30 rfl (pj_cl_nc rfl) (s1_30)
theorem q1_33 : pj_row 1 33 = some (.aload_n 0, 1, 0, 0, 0) := by decide +kernel
theorem s1_33 {st : List Value} {M : pj_Mem} {l : pj_Loc} {x : Nat} : pj_step 1 (33, some (.ref x) :: l, st, M) = some (34, some (.ref x) :: l, .ref x :: st, M) := st_aload_n q1_33 rfl
theorem x1_33 {st : List Value} {M : pj_Mem} {l : pj_Loc} {x : Nat} {o9 : Option Value × pj_Mem} : pj_Ends 1 (33, some (.ref x) :: l, st, M) o9 = pj_Ends 1 (34, some (.ref x) :: l, .ref x :: st, M) o9 := pj_xs (s1_33)
theorem q1_34 : pj_row 1 34 = some (.iconst 3, 1, 0, 0, 0) := by decide +kernel
theorem s1_34 {L : pj_Loc} {st : List Value} {M : pj_Mem}  : pj_step 1 (34, L, st, M) = some (35, L, .int 3 :: st, M) := st_iconst q1_34 (by decide +kernel)
theorem x1_34 {L : pj_Loc} {st : List Value} {M : pj_Mem}  {o9 : Option Value × pj_Mem} : pj_Ends 1 (34, L, st, M) o9 = pj_Ends 1 (35, L, .int 3 :: st, M) o9 := pj_xs (s1_34)
theorem q1_35 : pj_row 1 35 = some (.newarray .int, 2, 0, 0, 0) := by decide +kernel
theorem s1_35 {L : pj_Loc} {st : List Value} {N S : Nat} {H : pj_Heap} {x : Int32} {n' : Nat} (hn : ¬ x < 0) (he : x.toNatClampNeg = n') (hb : n' ≤ 100000) : pj_step 1 (35, L, .int x :: st, (N, S, H)) = some (37, L, .ref N :: st, (N + 1, S + n', pj_up H N (.inr (0, n', .inl (fun _ => 0))))) := (st_newarray q1_35 hn he hb).trans rfl
theorem x1_35 {L : pj_Loc} {st : List Value} {N S : Nat} {H : pj_Heap} {x : Int32} {n' : Nat} (hn : ¬ x < 0) (he : x.toNatClampNeg = n') (hb : n' ≤ 100000) {o9 : Option Value × pj_Mem} : pj_Ends 1 (35, L, .int x :: st, (N, S, H)) o9 = pj_Ends 1 (37, L, .ref N :: st, (N + 1, S + n', pj_up H N (.inr (0, n', .inl (fun _ => 0))))) o9 := pj_xs (s1_35 hn he hb)
theorem q1_37 : pj_row 1 37 = some (.putfield 24, 3, 4, 4, 0) := by decide +kernel
theorem s1_37 {L : pj_Loc} {st : List Value} {N S : Nat} {H : pj_Heap} {o : Nat} {v : Value} : pj_step 1 (37, L, v :: .ref o :: st, (N, S, H)) = pj_set 40 L st (N, S, H) o (pj_fset (H o) 4 4 v) := st_putfield q1_37
theorem x1_37 {L : pj_Loc} {st : List Value} {N S : Nat} {H : pj_Heap} {o : Nat} {v : Value} {o9 : Option Value × pj_Mem} : pj_Ends 1 (37, L, v :: .ref o :: st, (N, S, H)) o9 = pj_then 1 o9 (pj_set 40 L st (N, S, H) o (pj_fset (H o) 4 4 v)) := pj_xt q1_37 rfl (pj_cl_nc rfl) (s1_37)
theorem q1_40 : pj_row 1 40 = some (.aload_n 0, 1, 0, 0, 0) := by decide +kernel
theorem s1_40 {st : List Value} {M : pj_Mem} {l : pj_Loc} {x : Nat} : pj_step 1 (40, some (.ref x) :: l, st, M) = some (41, some (.ref x) :: l, .ref x :: st, M) := st_aload_n q1_40 rfl
theorem x1_40 {st : List Value} {M : pj_Mem} {l : pj_Loc} {x : Nat} {o9 : Option Value × pj_Mem} : pj_Ends 1 (40, some (.ref x) :: l, st, M) o9 = pj_Ends 1 (41, some (.ref x) :: l, .ref x :: st, M) o9 := pj_xs (s1_40)
theorem q1_41 : pj_row 1 41 = some (.iconst 3, 1, 0, 0, 0) := by decide +kernel
theorem s1_41 {L : pj_Loc} {st : List Value} {M : pj_Mem}  : pj_step 1 (41, L, st, M) = some (42, L, .int 3 :: st, M) := st_iconst q1_41 (by decide +kernel)
theorem x1_41 {L : pj_Loc} {st : List Value} {M : pj_Mem}  {o9 : Option Value × pj_Mem} : pj_Ends 1 (41, L, st, M) o9 = pj_Ends 1 (42, L, .int 3 :: st, M) o9 := pj_xs (s1_41)
theorem q1_42 : pj_row 1 42 = some (.newarray .int, 2, 0, 0, 0) := by decide +kernel
theorem s1_42 {L : pj_Loc} {st : List Value} {N S : Nat} {H : pj_Heap} {x : Int32} {n' : Nat} (hn : ¬ x < 0) (he : x.toNatClampNeg = n') (hb : n' ≤ 100000) : pj_step 1 (42, L, .int x :: st, (N, S, H)) = some (44, L, .ref N :: st, (N + 1, S + n', pj_up H N (.inr (0, n', .inl (fun _ => 0))))) := (st_newarray q1_42 hn he hb).trans rfl
theorem x1_42 {L : pj_Loc} {st : List Value} {N S : Nat} {H : pj_Heap} {x : Int32} {n' : Nat} (hn : ¬ x < 0) (he : x.toNatClampNeg = n') (hb : n' ≤ 100000) {o9 : Option Value × pj_Mem} : pj_Ends 1 (42, L, .int x :: st, (N, S, H)) o9 = pj_Ends 1 (44, L, .ref N :: st, (N + 1, S + n', pj_up H N (.inr (0, n', .inl (fun _ => 0))))) o9 := pj_xs (s1_42 hn he hb)
theorem q1_44 : pj_row 1 44 = some (.putfield 27, 3, 4, 5, 0) := by decide +kernel
theorem s1_44 {L : pj_Loc} {st : List Value} {N S : Nat} {H : pj_Heap} {o : Nat} {v : Value} : pj_step 1 (44, L, v :: .ref o :: st, (N, S, H)) = pj_set 47 L st (N, S, H) o (pj_fset (H o) 4 5 v) := st_putfield q1_44
theorem x1_44 {L : pj_Loc} {st : List Value} {N S : Nat} {H : pj_Heap} {o : Nat} {v : Value} {o9 : Option Value × pj_Mem} : pj_Ends 1 (44, L, v :: .ref o :: st, (N, S, H)) o9 = pj_then 1 o9 (pj_set 47 L st (N, S, H) o (pj_fset (H o) 4 5 v)) := pj_xt q1_44 rfl (pj_cl_nc rfl) (s1_44)
theorem q1_47 : pj_row 1 47 = some (.aload_n 0, 1, 0, 0, 0) := by decide +kernel
theorem s1_47 {st : List Value} {M : pj_Mem} {l : pj_Loc} {x : Nat} : pj_step 1 (47, some (.ref x) :: l, st, M) = some (48, some (.ref x) :: l, .ref x :: st, M) := st_aload_n q1_47 rfl
theorem x1_47 {st : List Value} {M : pj_Mem} {l : pj_Loc} {x : Nat} {o9 : Option Value × pj_Mem} : pj_Ends 1 (47, some (.ref x) :: l, st, M) o9 = pj_Ends 1 (48, some (.ref x) :: l, .ref x :: st, M) o9 := pj_xs (s1_47)
theorem q1_48 : pj_row 1 48 = some (.new 30, 3, 2, 0, 0) := by decide +kernel
theorem s1_48 {L : pj_Loc} {st : List Value} {N S : Nat} {H : pj_Heap}  : pj_step 1 (48, L, st, (N, S, H)) = some (51, L, .ref N :: st, (N + 1, S + 3, pj_up H N (.inl (2, [.null, .int 0, .int 0])))) := (st_new q1_48).trans rfl
theorem x1_48 {L : pj_Loc} {st : List Value} {N S : Nat} {H : pj_Heap}  {o9 : Option Value × pj_Mem} : pj_Ends 1 (48, L, st, (N, S, H)) o9 = pj_Ends 1 (51, L, .ref N :: st, (N + 1, S + 3, pj_up H N (.inl (2, [.null, .int 0, .int 0])))) o9 := pj_xs (s1_48)
theorem q1_51 : pj_row 1 51 = some (.dup, 1, 0, 0, 0) := by decide +kernel
theorem s1_51 {L : pj_Loc} {st : List Value} {M : pj_Mem} {x : Nat} : pj_step 1 (51, L, .ref x :: st, M) = some (52, L, .ref x :: .ref x :: st, M) := st_dup_ref q1_51
theorem x1_51 {L : pj_Loc} {st : List Value} {M : pj_Mem} {x : Nat} {o9 : Option Value × pj_Mem} : pj_Ends 1 (51, L, .ref x :: st, M) o9 = pj_Ends 1 (52, L, .ref x :: .ref x :: st, M) o9 := pj_xs (s1_51)
theorem s1_51i {L : pj_Loc} {st : List Value} {M : pj_Mem} {x : Int32} : pj_step 1 (51, L, .int x :: st, M) = some (52, L, .int x :: .int x :: st, M) := st_dup_int q1_51
theorem x1_51i {L : pj_Loc} {st : List Value} {M : pj_Mem} {x : Int32} {o9 : Option Value × pj_Mem} : pj_Ends 1 (51, L, .int x :: st, M) o9 = pj_Ends 1 (52, L, .int x :: .int x :: st, M) o9 := pj_xs (s1_51i)
theorem q1_52 : pj_row 1 52 = some (.invokespecial 32, 3, 2, 1, 1) := by decide +kernel
theorem e1_52 {L : pj_Loc} {st : List Value} {N S : Nat} {H : pj_Heap} {o : Option Value × pj_Mem} {M' : pj_Mem} {x0 : Nat} (h4 : pj_le4 st = true) (h1 : pj_Ends 2 (0, [some (.ref x0)], [], (N, S, H)) (none, M')) (h2 : pj_Ends 1 (55, L, st, M') o) : pj_Ends 1 (52, L, .ref x0 :: st, (N, S, H)) o := ec_i1 q1_52 (Or.inr rfl) h4 rfl h1 h2
theorem q1_55 : pj_row 1 55 = some (.putfield 33, 3, 4, 6, 0) := by decide +kernel
theorem s1_55 {L : pj_Loc} {st : List Value} {N S : Nat} {H : pj_Heap} {o : Nat} {v : Value} : pj_step 1 (55, L, v :: .ref o :: st, (N, S, H)) = pj_set 58 L st (N, S, H) o (pj_fset (H o) 4 6 v) := st_putfield q1_55
theorem x1_55 {L : pj_Loc} {st : List Value} {N S : Nat} {H : pj_Heap} {o : Nat} {v : Value} {o9 : Option Value × pj_Mem} : pj_Ends 1 (55, L, v :: .ref o :: st, (N, S, H)) o9 = pj_then 1 o9 (pj_set 58 L st (N, S, H) o (pj_fset (H o) 4 6 v)) := pj_xt q1_55 rfl (pj_cl_nc rfl) (s1_55)
theorem q1_58 : pj_row 1 58 = some (.aload_n 0, 1, 0, 0, 0) := by decide +kernel
theorem s1_58 {st : List Value} {M : pj_Mem} {l : pj_Loc} {x : Nat} : pj_step 1 (58, some (.ref x) :: l, st, M) = some (59, some (.ref x) :: l, .ref x :: st, M) := st_aload_n q1_58 rfl
theorem x1_58 {st : List Value} {M : pj_Mem} {l : pj_Loc} {x : Nat} {o9 : Option Value × pj_Mem} : pj_Ends 1 (58, some (.ref x) :: l, st, M) o9 = pj_Ends 1 (59, some (.ref x) :: l, .ref x :: st, M) o9 := pj_xs (s1_58)
theorem q1_59 : pj_row 1 59 = some (.bipush 7, 2, 0, 0, 0) := by decide +kernel
theorem s1_59 {L : pj_Loc} {st : List Value} {M : pj_Mem}  : pj_step 1 (59, L, st, M) = some (61, L, .int 7 :: st, M) := st_bipush q1_59 (by decide +kernel)
theorem x1_59 {L : pj_Loc} {st : List Value} {M : pj_Mem}  {o9 : Option Value × pj_Mem} : pj_Ends 1 (59, L, st, M) o9 = pj_Ends 1 (61, L, .int 7 :: st, M) o9 := pj_xs (s1_59)
theorem q1_61 : pj_row 1 61 = some (.putfield 37, 3, 4, 7, 0) := by decide +kernel
theorem s1_61 {L : pj_Loc} {st : List Value} {N S : Nat} {H : pj_Heap} {o : Nat} {v : Value} : pj_step 1 (61, L, v :: .ref o :: st, (N, S, H)) = pj_set 64 L st (N, S, H) o (pj_fset (H o) 4 7 v) := st_putfield q1_61
theorem x1_61 {L : pj_Loc} {st : List Value} {N S : Nat} {H : pj_Heap} {o : Nat} {v : Value} {o9 : Option Value × pj_Mem} : pj_Ends 1 (61, L, v :: .ref o :: st, (N, S, H)) o9 = pj_then 1 o9 (pj_set 64 L st (N, S, H) o (pj_fset (H o) 4 7 v)) := pj_xt q1_61 rfl (pj_cl_nc rfl) (s1_61)
theorem q1_64 : pj_row 1 64 = some (.iconst 0, 1, 0, 0, 0) := by decide +kernel
theorem s1_64 {L : pj_Loc} {st : List Value} {M : pj_Mem}  : pj_step 1 (64, L, st, M) = some (65, L, .int 0 :: st, M) := st_iconst q1_64 (by decide +kernel)
theorem x1_64 {L : pj_Loc} {st : List Value} {M : pj_Mem}  {o9 : Option Value × pj_Mem} : pj_Ends 1 (64, L, st, M) o9 = pj_Ends 1 (65, L, .int 0 :: st, M) o9 := pj_xs (s1_64)
theorem q1_65 : pj_row 1 65 = some (.istore_n 1, 1, 0, 0, 0) := by decide +kernel
theorem s1_65 {st : List Value} {M : pj_Mem} {l : pj_Loc} {a0 a1 : Option Value} {x : Int32} (h : pj_long a0 = false) : pj_step 1 (65, a0 :: a1 :: l, .int x :: st, M) = some (66, a0 :: some (.int x) :: l, st, M) := st_istore_n q1_65 (pj_st_1 h)
theorem x1_65 {st : List Value} {M : pj_Mem} {l : pj_Loc} {a0 a1 : Option Value} {x : Int32} (h : pj_long a0 = false) {o9 : Option Value × pj_Mem} : pj_Ends 1 (65, a0 :: a1 :: l, .int x :: st, M) o9 = pj_Ends 1 (66, a0 :: some (.int x) :: l, st, M) o9 := pj_xs (s1_65 h)
theorem q1_66 : pj_row 1 66 = some (.iload_n 1, 1, 0, 0, 0) := by decide +kernel
theorem s1_66 {st : List Value} {M : pj_Mem} {l : pj_Loc} {a0 : Option Value} {x : Int32} : pj_step 1 (66, a0 :: some (.int x) :: l, st, M) = some (67, a0 :: some (.int x) :: l, .int x :: st, M) := st_iload_n q1_66 rfl
theorem x1_66 {st : List Value} {M : pj_Mem} {l : pj_Loc} {a0 : Option Value} {x : Int32} {o9 : Option Value × pj_Mem} : pj_Ends 1 (66, a0 :: some (.int x) :: l, st, M) o9 = pj_Ends 1 (67, a0 :: some (.int x) :: l, .int x :: st, M) o9 := pj_xs (s1_66)
theorem q1_67 : pj_row 1 67 = some (.bipush 6, 2, 0, 0, 0) := by decide +kernel
theorem s1_67 {L : pj_Loc} {st : List Value} {M : pj_Mem}  : pj_step 1 (67, L, st, M) = some (69, L, .int 6 :: st, M) := st_bipush q1_67 (by decide +kernel)
theorem x1_67 {L : pj_Loc} {st : List Value} {M : pj_Mem}  {o9 : Option Value × pj_Mem} : pj_Ends 1 (67, L, st, M) o9 = pj_Ends 1 (69, L, .int 6 :: st, M) o9 := pj_xs (s1_67)
theorem q1_69 : pj_row 1 69 = some (.if_icmp .ge 20, 3, 89, 0, 0) := by decide +kernel
theorem s1_69 {L : pj_Loc} {st : List Value} {M : pj_Mem} {x y : Int32} : pj_step 1 (69, L, .int y :: .int x :: st, M) = some (if y ≤ x then 89 else 72, L, st, M) := st_icmp_ge q1_69
theorem x1_69 {L : pj_Loc} {st : List Value} {M : pj_Mem} {x y : Int32} {o9 : Option Value × pj_Mem} : pj_Ends 1 (69, L, .int y :: .int x :: st, M) o9 = pj_Ends 1 (if y ≤ x then 89 else 72, L, st, M) o9 := pj_xs (s1_69)
theorem q1_72 : pj_row 1 72 = some (.aload_n 0, 1, 0, 0, 0) := by decide +kernel
theorem s1_72 {st : List Value} {M : pj_Mem} {l : pj_Loc} {x : Nat} : pj_step 1 (72, some (.ref x) :: l, st, M) = some (73, some (.ref x) :: l, .ref x :: st, M) := st_aload_n q1_72 rfl
theorem x1_72 {st : List Value} {M : pj_Mem} {l : pj_Loc} {x : Nat} {o9 : Option Value × pj_Mem} : pj_Ends 1 (72, some (.ref x) :: l, st, M) o9 = pj_Ends 1 (73, some (.ref x) :: l, .ref x :: st, M) o9 := pj_xs (s1_72)
theorem q1_73 : pj_row 1 73 = some (.getfield 9, 3, 4, 0, 0) := by decide +kernel
theorem s1_73 {L : pj_Loc} {st : List Value} {N S : Nat} {H : pj_Heap} {o : Nat} : pj_step 1 (73, L, .ref o :: st, (N, S, H)) = pj_pv 76 L st (N, S, H) (pj_fld (H o) 4 0) := st_getfield q1_73
theorem x1_73 {L : pj_Loc} {st : List Value} {N S : Nat} {H : pj_Heap} {o : Nat} {o9 : Option Value × pj_Mem} : pj_Ends 1 (73, L, .ref o :: st, (N, S, H)) o9 = pj_then 1 o9 (pj_pv 76 L st (N, S, H) (pj_fld (H o) 4 0)) := pj_xt q1_73 rfl (pj_cl_nc rfl) (s1_73)
theorem q1_76 : pj_row 1 76 = some (.iload_n 1, 1, 0, 0, 0) := by decide +kernel
theorem s1_76 {st : List Value} {M : pj_Mem} {l : pj_Loc} {a0 : Option Value} {x : Int32} : pj_step 1 (76, a0 :: some (.int x) :: l, st, M) = some (77, a0 :: some (.int x) :: l, .int x :: st, M) := st_iload_n q1_76 rfl
theorem x1_76 {st : List Value} {M : pj_Mem} {l : pj_Loc} {a0 : Option Value} {x : Int32} {o9 : Option Value × pj_Mem} : pj_Ends 1 (76, a0 :: some (.int x) :: l, st, M) o9 = pj_Ends 1 (77, a0 :: some (.int x) :: l, .int x :: st, M) o9 := pj_xs (s1_76)
theorem q1_77 : pj_row 1 77 = some (.getstatic 41, 3, 1, 0, 1) := by decide +kernel
theorem s1_77 {L : pj_Loc} {st : List Value} {M : pj_Mem}  : pj_step 1 (77, L, st, M) = some (80, L, .ref 1 :: st, M) := st_getstatic q1_77
theorem x1_77 {L : pj_Loc} {st : List Value} {M : pj_Mem}  {o9 : Option Value × pj_Mem} : pj_Ends 1 (77, L, st, M) o9 = pj_Ends 1 (80, L, .ref 1 :: st, M) o9 := pj_xs (s1_77)
theorem q1_80 : pj_row 1 80 = some (.iload_n 1, 1, 0, 0, 0) := by decide +kernel
theorem s1_80 {st : List Value} {M : pj_Mem} {l : pj_Loc} {a0 : Option Value} {x : Int32} : pj_step 1 (80, a0 :: some (.int x) :: l, st, M) = some (81, a0 :: some (.int x) :: l, .int x :: st, M) := st_iload_n q1_80 rfl
theorem x1_80 {st : List Value} {M : pj_Mem} {l : pj_Loc} {a0 : Option Value} {x : Int32} {o9 : Option Value × pj_Mem} : pj_Ends 1 (80, a0 :: some (.int x) :: l, st, M) o9 = pj_Ends 1 (81, a0 :: some (.int x) :: l, .int x :: st, M) o9 := pj_xs (s1_80)
theorem q1_81 : pj_row 1 81 = some (.iaload, 1, 0, 0, 0) := by decide +kernel
theorem s1_81 {L : pj_Loc} {st : List Value} {N S : Nat} {H : pj_Heap} {o : Nat} {i : Int32} : pj_step 1 (81, L, .int i :: .ref o :: st, (N, S, H)) = pj_pi 82 L st (N, S, H) (pj_arl (H o) 0 i) := st_iaload q1_81
theorem x1_81 {L : pj_Loc} {st : List Value} {N S : Nat} {H : pj_Heap} {o : Nat} {i : Int32} {o9 : Option Value × pj_Mem} : pj_Ends 1 (81, L, .int i :: .ref o :: st, (N, S, H)) o9 = pj_then 1 o9 (pj_pi 82 L st (N, S, H) (pj_arl (H o) 0 i)) := pj_xt q1_81 rfl (pj_cl_nc rfl) (s1_81)
theorem q1_82 : pj_row 1 82 = some (.iastore, 1, 0, 0, 0) := by decide +kernel
theorem s1_82 {L : pj_Loc} {st : List Value} {N S : Nat} {H : pj_Heap} {o : Nat} {i x : Int32} : pj_step 1 (82, L, .int x :: .int i :: .ref o :: st, (N, S, H)) = pj_set 83 L st (N, S, H) o (pj_ars (H o) 0 i x) := st_iastore q1_82
theorem x1_82 {L : pj_Loc} {st : List Value} {N S : Nat} {H : pj_Heap} {o : Nat} {i x : Int32} {o9 : Option Value × pj_Mem} : pj_Ends 1 (82, L, .int x :: .int i :: .ref o :: st, (N, S, H)) o9 = pj_then 1 o9 (pj_set 83 L st (N, S, H) o (pj_ars (H o) 0 i x)) := pj_xt q1_82 rfl (pj_cl_nc rfl) (s1_82)
theorem q1_83 : pj_row 1 83 = some (.iinc 1 1, 3, 0, 0, 0) := by decide +kernel
theorem s1_83 {st : List Value} {M : pj_Mem} {l : pj_Loc} {a0 : Option Value} {x : Int32} (h : pj_long a0 = false) : pj_step 1 (83, a0 :: some (.int x) :: l, st, M) = some (86, a0 :: some (.int (x + 1)) :: l, st, M) := st_iinc q1_83 rfl (congrArg (fun y => x + y) (show Int32.ofInt 1 = 1 by decide +kernel)) (pj_st_1 h)
theorem x1_83 {st : List Value} {M : pj_Mem} {l : pj_Loc} {a0 : Option Value} {x : Int32} (h : pj_long a0 = false) {o9 : Option Value × pj_Mem} : pj_Ends 1 (83, a0 :: some (.int x) :: l, st, M) o9 = pj_Ends 1 (86, a0 :: some (.int (x + 1)) :: l, st, M) o9 := pj_xs (s1_83 h)
theorem q1_86 : pj_row 1 86 = some (.goto (-20), 3, 66, 0, 0) := by decide +kernel
theorem s1_86 {L : pj_Loc} {st : List Value} {M : pj_Mem}  : pj_step 1 (86, L, st, M) = some (66, L, st, M) := st_goto q1_86
theorem x1_86 {L : pj_Loc} {st : List Value} {M : pj_Mem}  {o9 : Option Value × pj_Mem} : pj_Ends 1 (86, L, st, M) o9 = pj_Ends 1 (66, L, st, M) o9 := pj_xs (s1_86)
theorem q1_89 : pj_row 1 89 = some (.iconst 0, 1, 0, 0, 0) := by decide +kernel
theorem s1_89 {L : pj_Loc} {st : List Value} {M : pj_Mem}  : pj_step 1 (89, L, st, M) = some (90, L, .int 0 :: st, M) := st_iconst q1_89 (by decide +kernel)
theorem x1_89 {L : pj_Loc} {st : List Value} {M : pj_Mem}  {o9 : Option Value × pj_Mem} : pj_Ends 1 (89, L, st, M) o9 = pj_Ends 1 (90, L, .int 0 :: st, M) o9 := pj_xs (s1_89)
theorem q1_90 : pj_row 1 90 = some (.istore_n 1, 1, 0, 0, 0) := by decide +kernel
theorem s1_90 {st : List Value} {M : pj_Mem} {l : pj_Loc} {a0 a1 : Option Value} {x : Int32} (h : pj_long a0 = false) : pj_step 1 (90, a0 :: a1 :: l, .int x :: st, M) = some (91, a0 :: some (.int x) :: l, st, M) := st_istore_n q1_90 (pj_st_1 h)
theorem x1_90 {st : List Value} {M : pj_Mem} {l : pj_Loc} {a0 a1 : Option Value} {x : Int32} (h : pj_long a0 = false) {o9 : Option Value × pj_Mem} : pj_Ends 1 (90, a0 :: a1 :: l, .int x :: st, M) o9 = pj_Ends 1 (91, a0 :: some (.int x) :: l, st, M) o9 := pj_xs (s1_90 h)
theorem q1_91 : pj_row 1 91 = some (.iload_n 1, 1, 0, 0, 0) := by decide +kernel
theorem s1_91 {st : List Value} {M : pj_Mem} {l : pj_Loc} {a0 : Option Value} {x : Int32} : pj_step 1 (91, a0 :: some (.int x) :: l, st, M) = some (92, a0 :: some (.int x) :: l, .int x :: st, M) := st_iload_n q1_91 rfl
theorem x1_91 {st : List Value} {M : pj_Mem} {l : pj_Loc} {a0 : Option Value} {x : Int32} {o9 : Option Value × pj_Mem} : pj_Ends 1 (91, a0 :: some (.int x) :: l, st, M) o9 = pj_Ends 1 (92, a0 :: some (.int x) :: l, .int x :: st, M) o9 := pj_xs (s1_91)
theorem q1_92 : pj_row 1 92 = some (.iconst 3, 1, 0, 0, 0) := by decide +kernel
theorem s1_92 {L : pj_Loc} {st : List Value} {M : pj_Mem}  : pj_step 1 (92, L, st, M) = some (93, L, .int 3 :: st, M) := st_iconst q1_92 (by decide +kernel)
theorem x1_92 {L : pj_Loc} {st : List Value} {M : pj_Mem}  {o9 : Option Value × pj_Mem} : pj_Ends 1 (92, L, st, M) o9 = pj_Ends 1 (93, L, .int 3 :: st, M) o9 := pj_xs (s1_92)
theorem q1_93 : pj_row 1 93 = some (.if_icmp .ge 17, 3, 110, 0, 0) := by decide +kernel
theorem s1_93 {L : pj_Loc} {st : List Value} {M : pj_Mem} {x y : Int32} : pj_step 1 (93, L, .int y :: .int x :: st, M) = some (if y ≤ x then 110 else 96, L, st, M) := st_icmp_ge q1_93
theorem x1_93 {L : pj_Loc} {st : List Value} {M : pj_Mem} {x y : Int32} {o9 : Option Value × pj_Mem} : pj_Ends 1 (93, L, .int y :: .int x :: st, M) o9 = pj_Ends 1 (if y ≤ x then 110 else 96, L, st, M) o9 := pj_xs (s1_93)
theorem q1_96 : pj_row 1 96 = some (.aload_n 0, 1, 0, 0, 0) := by decide +kernel
theorem s1_96 {st : List Value} {M : pj_Mem} {l : pj_Loc} {x : Nat} : pj_step 1 (96, some (.ref x) :: l, st, M) = some (97, some (.ref x) :: l, .ref x :: st, M) := st_aload_n q1_96 rfl
theorem x1_96 {st : List Value} {M : pj_Mem} {l : pj_Loc} {x : Nat} {o9 : Option Value × pj_Mem} : pj_Ends 1 (96, some (.ref x) :: l, st, M) o9 = pj_Ends 1 (97, some (.ref x) :: l, .ref x :: st, M) o9 := pj_xs (s1_96)
theorem q1_97 : pj_row 1 97 = some (.getfield 27, 3, 4, 5, 0) := by decide +kernel
theorem s1_97 {L : pj_Loc} {st : List Value} {N S : Nat} {H : pj_Heap} {o : Nat} : pj_step 1 (97, L, .ref o :: st, (N, S, H)) = pj_pv 100 L st (N, S, H) (pj_fld (H o) 4 5) := st_getfield q1_97
theorem x1_97 {L : pj_Loc} {st : List Value} {N S : Nat} {H : pj_Heap} {o : Nat} {o9 : Option Value × pj_Mem} : pj_Ends 1 (97, L, .ref o :: st, (N, S, H)) o9 = pj_then 1 o9 (pj_pv 100 L st (N, S, H) (pj_fld (H o) 4 5)) := pj_xt q1_97 rfl (pj_cl_nc rfl) (s1_97)
theorem q1_100 : pj_row 1 100 = some (.iload_n 1, 1, 0, 0, 0) := by decide +kernel
theorem s1_100 {st : List Value} {M : pj_Mem} {l : pj_Loc} {a0 : Option Value} {x : Int32} : pj_step 1 (100, a0 :: some (.int x) :: l, st, M) = some (101, a0 :: some (.int x) :: l, .int x :: st, M) := st_iload_n q1_100 rfl
theorem x1_100 {st : List Value} {M : pj_Mem} {l : pj_Loc} {a0 : Option Value} {x : Int32} {o9 : Option Value × pj_Mem} : pj_Ends 1 (100, a0 :: some (.int x) :: l, st, M) o9 = pj_Ends 1 (101, a0 :: some (.int x) :: l, .int x :: st, M) o9 := pj_xs (s1_100)
theorem q1_101 : pj_row 1 101 = some (.bipush (-6), 2, 0, 0, 0) := by decide +kernel
theorem s1_101 {L : pj_Loc} {st : List Value} {M : pj_Mem}  : pj_step 1 (101, L, st, M) = some (103, L, .int (-6) :: st, M) := st_bipush q1_101 (by decide +kernel)
theorem x1_101 {L : pj_Loc} {st : List Value} {M : pj_Mem}  {o9 : Option Value × pj_Mem} : pj_Ends 1 (101, L, st, M) o9 = pj_Ends 1 (103, L, .int (-6) :: st, M) o9 := pj_xs (s1_101)
theorem q1_103 : pj_row 1 103 = some (.iastore, 1, 0, 0, 0) := by decide +kernel
theorem s1_103 {L : pj_Loc} {st : List Value} {N S : Nat} {H : pj_Heap} {o : Nat} {i x : Int32} : pj_step 1 (103, L, .int x :: .int i :: .ref o :: st, (N, S, H)) = pj_set 104 L st (N, S, H) o (pj_ars (H o) 0 i x) := st_iastore q1_103
theorem x1_103 {L : pj_Loc} {st : List Value} {N S : Nat} {H : pj_Heap} {o : Nat} {i x : Int32} {o9 : Option Value × pj_Mem} : pj_Ends 1 (103, L, .int x :: .int i :: .ref o :: st, (N, S, H)) o9 = pj_then 1 o9 (pj_set 104 L st (N, S, H) o (pj_ars (H o) 0 i x)) := pj_xt q1_103 rfl (pj_cl_nc rfl) (s1_103)
theorem q1_104 : pj_row 1 104 = some (.iinc 1 1, 3, 0, 0, 0) := by decide +kernel
theorem s1_104 {st : List Value} {M : pj_Mem} {l : pj_Loc} {a0 : Option Value} {x : Int32} (h : pj_long a0 = false) : pj_step 1 (104, a0 :: some (.int x) :: l, st, M) = some (107, a0 :: some (.int (x + 1)) :: l, st, M) := st_iinc q1_104 rfl (congrArg (fun y => x + y) (show Int32.ofInt 1 = 1 by decide +kernel)) (pj_st_1 h)
theorem x1_104 {st : List Value} {M : pj_Mem} {l : pj_Loc} {a0 : Option Value} {x : Int32} (h : pj_long a0 = false) {o9 : Option Value × pj_Mem} : pj_Ends 1 (104, a0 :: some (.int x) :: l, st, M) o9 = pj_Ends 1 (107, a0 :: some (.int (x + 1)) :: l, st, M) o9 := pj_xs (s1_104 h)
theorem q1_107 : pj_row 1 107 = some (.goto (-16), 3, 91, 0, 0) := by decide +kernel
theorem s1_107 {L : pj_Loc} {st : List Value} {M : pj_Mem}  : pj_step 1 (107, L, st, M) = some (91, L, st, M) := st_goto q1_107
theorem x1_107 {L : pj_Loc} {st : List Value} {M : pj_Mem}  {o9 : Option Value × pj_Mem} : pj_Ends 1 (107, L, st, M) o9 = pj_Ends 1 (91, L, st, M) o9 := pj_xs (s1_107)
theorem q1_110 : pj_row 1 110 = some (.return_, 1, 0, 0, 0) := by decide +kernel
theorem t1_110 {L : pj_Loc} {M : pj_Mem} : pj_Ends 1 (110, L, [], M) (none, M) := pj_Ends.ret q1_110 (pj_rtn_v rt1)
theorem rt2 : pj_rt 2 = none := rfl
theorem q2_0 : pj_row 2 0 = some (.aload_n 0, 1, 0, 0, 0) := by decide +kernel
theorem s2_0 {st : List Value} {M : pj_Mem} {l : pj_Loc} {x : Nat} : pj_step 2 (0, some (.ref x) :: l, st, M) = some (1, some (.ref x) :: l, .ref x :: st, M) := st_aload_n q2_0 rfl
theorem x2_0 {st : List Value} {M : pj_Mem} {l : pj_Loc} {x : Nat} {o9 : Option Value × pj_Mem} : pj_Ends 2 (0, some (.ref x) :: l, st, M) o9 = pj_Ends 2 (1, some (.ref x) :: l, .ref x :: st, M) o9 := pj_xs (s2_0)
theorem q2_1 : pj_row 2 1 = some (.invokespecial 3, 3, 0, 1, 2) := by decide +kernel
theorem s2_1 {L : pj_Loc} {st : List Value} {M : pj_Mem} {o : Nat} : pj_step 2 (1, L, .ref o :: st, M) = pj_g4 st (some (4, L, st, M)) := st_obj q2_1
theorem x2_1 {L : pj_Loc} {st : List Value} {M : pj_Mem} {o : Nat} {o9 : Option Value × pj_Mem} : pj_Ends 2 (1, L, .ref o :: st, M) o9 = pj_then 2 o9 (pj_g4 st (some (4, L, st, M))) := pj_xt q2_1 rfl rfl (s2_1)
theorem q2_4 : pj_row 2 4 = some (.aload_n 0, 1, 0, 0, 0) := by decide +kernel
theorem s2_4 {st : List Value} {M : pj_Mem} {l : pj_Loc} {x : Nat} : pj_step 2 (4, some (.ref x) :: l, st, M) = some (5, some (.ref x) :: l, .ref x :: st, M) := st_aload_n q2_4 rfl
theorem x2_4 {st : List Value} {M : pj_Mem} {l : pj_Loc} {x : Nat} {o9 : Option Value × pj_Mem} : pj_Ends 2 (4, some (.ref x) :: l, st, M) o9 = pj_Ends 2 (5, some (.ref x) :: l, .ref x :: st, M) o9 := pj_xs (s2_4)
theorem q2_5 : pj_row 2 5 = some (.bipush 120, 2, 0, 0, 0) := by decide +kernel
theorem s2_5 {L : pj_Loc} {st : List Value} {M : pj_Mem}  : pj_step 2 (5, L, st, M) = some (7, L, .int 120 :: st, M) := st_bipush q2_5 (by decide +kernel)
theorem x2_5 {L : pj_Loc} {st : List Value} {M : pj_Mem}  {o9 : Option Value × pj_Mem} : pj_Ends 2 (5, L, st, M) o9 = pj_Ends 2 (7, L, .int 120 :: st, M) o9 := pj_xs (s2_5)
theorem q2_7 : pj_row 2 7 = some (.newarray .int, 2, 0, 0, 0) := by decide +kernel
theorem s2_7 {L : pj_Loc} {st : List Value} {N S : Nat} {H : pj_Heap} {x : Int32} {n' : Nat} (hn : ¬ x < 0) (he : x.toNatClampNeg = n') (hb : n' ≤ 100000) : pj_step 2 (7, L, .int x :: st, (N, S, H)) = some (9, L, .ref N :: st, (N + 1, S + n', pj_up H N (.inr (0, n', .inl (fun _ => 0))))) := (st_newarray q2_7 hn he hb).trans rfl
theorem x2_7 {L : pj_Loc} {st : List Value} {N S : Nat} {H : pj_Heap} {x : Int32} {n' : Nat} (hn : ¬ x < 0) (he : x.toNatClampNeg = n') (hb : n' ≤ 100000) {o9 : Option Value × pj_Mem} : pj_Ends 2 (7, L, .int x :: st, (N, S, H)) o9 = pj_Ends 2 (9, L, .ref N :: st, (N + 1, S + n', pj_up H N (.inr (0, n', .inl (fun _ => 0))))) o9 := pj_xs (s2_7 hn he hb)
theorem q2_9 : pj_row 2 9 = some (.putfield 9, 3, 2, 0, 0) := by decide +kernel
theorem s2_9 {L : pj_Loc} {st : List Value} {N S : Nat} {H : pj_Heap} {o : Nat} {v : Value} : pj_step 2 (9, L, v :: .ref o :: st, (N, S, H)) = pj_set 12 L st (N, S, H) o (pj_fset (H o) 2 0 v) := st_putfield q2_9
theorem x2_9 {L : pj_Loc} {st : List Value} {N S : Nat} {H : pj_Heap} {o : Nat} {v : Value} {o9 : Option Value × pj_Mem} : pj_Ends 2 (9, L, v :: .ref o :: st, (N, S, H)) o9 = pj_then 2 o9 (pj_set 12 L st (N, S, H) o (pj_fset (H o) 2 0 v)) := pj_xt q2_9 rfl (pj_cl_nc rfl) (s2_9)
theorem q2_12 : pj_row 2 12 = some (.aload_n 0, 1, 0, 0, 0) := by decide +kernel
theorem s2_12 {st : List Value} {M : pj_Mem} {l : pj_Loc} {x : Nat} : pj_step 2 (12, some (.ref x) :: l, st, M) = some (13, some (.ref x) :: l, .ref x :: st, M) := st_aload_n q2_12 rfl
theorem x2_12 {st : List Value} {M : pj_Mem} {l : pj_Loc} {x : Nat} {o9 : Option Value × pj_Mem} : pj_Ends 2 (12, some (.ref x) :: l, st, M) o9 = pj_Ends 2 (13, some (.ref x) :: l, .ref x :: st, M) o9 := pj_xs (s2_12)
theorem q2_13 : pj_row 2 13 = some (.bipush (-6), 2, 0, 0, 0) := by decide +kernel
theorem s2_13 {L : pj_Loc} {st : List Value} {M : pj_Mem}  : pj_step 2 (13, L, st, M) = some (15, L, .int (-6) :: st, M) := st_bipush q2_13 (by decide +kernel)
theorem x2_13 {L : pj_Loc} {st : List Value} {M : pj_Mem}  {o9 : Option Value × pj_Mem} : pj_Ends 2 (13, L, st, M) o9 = pj_Ends 2 (15, L, .int (-6) :: st, M) o9 := pj_xs (s2_13)
theorem q2_15 : pj_row 2 15 = some (.putfield 15, 3, 2, 2, 0) := by decide +kernel
theorem s2_15 {L : pj_Loc} {st : List Value} {N S : Nat} {H : pj_Heap} {o : Nat} {v : Value} : pj_step 2 (15, L, v :: .ref o :: st, (N, S, H)) = pj_set 18 L st (N, S, H) o (pj_fset (H o) 2 2 v) := st_putfield q2_15
theorem x2_15 {L : pj_Loc} {st : List Value} {N S : Nat} {H : pj_Heap} {o : Nat} {v : Value} {o9 : Option Value × pj_Mem} : pj_Ends 2 (15, L, v :: .ref o :: st, (N, S, H)) o9 = pj_then 2 o9 (pj_set 18 L st (N, S, H) o (pj_fset (H o) 2 2 v)) := pj_xt q2_15 rfl (pj_cl_nc rfl) (s2_15)
theorem q2_18 : pj_row 2 18 = some (.return_, 1, 0, 0, 0) := by decide +kernel
theorem t2_18 {L : pj_Loc} {M : pj_Mem} : pj_Ends 2 (18, L, [], M) (none, M) := pj_Ends.ret q2_18 (pj_rtn_v rt2)
theorem rt3 : pj_rt 3 = none := rfl
theorem q3_0 : pj_row 3 0 = some (.aload_n 0, 1, 0, 0, 0) := by decide +kernel
theorem s3_0 {st : List Value} {M : pj_Mem} {l : pj_Loc} {x : Nat} : pj_step 3 (0, some (.ref x) :: l, st, M) = some (1, some (.ref x) :: l, .ref x :: st, M) := st_aload_n q3_0 rfl
theorem x3_0 {st : List Value} {M : pj_Mem} {l : pj_Loc} {x : Nat} {o9 : Option Value × pj_Mem} : pj_Ends 3 (0, some (.ref x) :: l, st, M) o9 = pj_Ends 3 (1, some (.ref x) :: l, .ref x :: st, M) o9 := pj_xs (s3_0)
theorem q3_1 : pj_row 3 1 = some (.invokespecial 3, 3, 0, 1, 2) := by decide +kernel
theorem s3_1 {L : pj_Loc} {st : List Value} {M : pj_Mem} {o : Nat} : pj_step 3 (1, L, .ref o :: st, M) = pj_g4 st (some (4, L, st, M)) := st_obj q3_1
theorem x3_1 {L : pj_Loc} {st : List Value} {M : pj_Mem} {o : Nat} {o9 : Option Value × pj_Mem} : pj_Ends 3 (1, L, .ref o :: st, M) o9 = pj_then 3 o9 (pj_g4 st (some (4, L, st, M))) := pj_xt q3_1 rfl rfl (s3_1)
theorem q3_4 : pj_row 3 4 = some (.aload_n 0, 1, 0, 0, 0) := by decide +kernel
theorem s3_4 {st : List Value} {M : pj_Mem} {l : pj_Loc} {x : Nat} : pj_step 3 (4, some (.ref x) :: l, st, M) = some (5, some (.ref x) :: l, .ref x :: st, M) := st_aload_n q3_4 rfl
theorem x3_4 {st : List Value} {M : pj_Mem} {l : pj_Loc} {x : Nat} {o9 : Option Value × pj_Mem} : pj_Ends 3 (4, some (.ref x) :: l, st, M) o9 = pj_Ends 3 (5, some (.ref x) :: l, .ref x :: st, M) o9 := pj_xs (s3_4)
theorem q3_5 : pj_row 3 5 = some (.iconst 3, 1, 0, 0, 0) := by decide +kernel
theorem s3_5 {L : pj_Loc} {st : List Value} {M : pj_Mem}  : pj_step 3 (5, L, st, M) = some (6, L, .int 3 :: st, M) := st_iconst q3_5 (by decide +kernel)
theorem x3_5 {L : pj_Loc} {st : List Value} {M : pj_Mem}  {o9 : Option Value × pj_Mem} : pj_Ends 3 (5, L, st, M) o9 = pj_Ends 3 (6, L, .int 3 :: st, M) o9 := pj_xs (s3_5)
theorem q3_6 : pj_row 3 6 = some (.newarray .int, 2, 0, 0, 0) := by decide +kernel
theorem s3_6 {L : pj_Loc} {st : List Value} {N S : Nat} {H : pj_Heap} {x : Int32} {n' : Nat} (hn : ¬ x < 0) (he : x.toNatClampNeg = n') (hb : n' ≤ 100000) : pj_step 3 (6, L, .int x :: st, (N, S, H)) = some (8, L, .ref N :: st, (N + 1, S + n', pj_up H N (.inr (0, n', .inl (fun _ => 0))))) := (st_newarray q3_6 hn he hb).trans rfl
theorem x3_6 {L : pj_Loc} {st : List Value} {N S : Nat} {H : pj_Heap} {x : Int32} {n' : Nat} (hn : ¬ x < 0) (he : x.toNatClampNeg = n') (hb : n' ≤ 100000) {o9 : Option Value × pj_Mem} : pj_Ends 3 (6, L, .int x :: st, (N, S, H)) o9 = pj_Ends 3 (8, L, .ref N :: st, (N + 1, S + n', pj_up H N (.inr (0, n', .inl (fun _ => 0))))) o9 := pj_xs (s3_6 hn he hb)
theorem q3_8 : pj_row 3 8 = some (.putfield 9, 3, 3, 0, 0) := by decide +kernel
theorem s3_8 {L : pj_Loc} {st : List Value} {N S : Nat} {H : pj_Heap} {o : Nat} {v : Value} : pj_step 3 (8, L, v :: .ref o :: st, (N, S, H)) = pj_set 11 L st (N, S, H) o (pj_fset (H o) 3 0 v) := st_putfield q3_8
theorem x3_8 {L : pj_Loc} {st : List Value} {N S : Nat} {H : pj_Heap} {o : Nat} {v : Value} {o9 : Option Value × pj_Mem} : pj_Ends 3 (8, L, v :: .ref o :: st, (N, S, H)) o9 = pj_then 3 o9 (pj_set 11 L st (N, S, H) o (pj_fset (H o) 3 0 v)) := pj_xt q3_8 rfl (pj_cl_nc rfl) (s3_8)
theorem q3_11 : pj_row 3 11 = some (.aload_n 0, 1, 0, 0, 0) := by decide +kernel
theorem s3_11 {st : List Value} {M : pj_Mem} {l : pj_Loc} {x : Nat} : pj_step 3 (11, some (.ref x) :: l, st, M) = some (12, some (.ref x) :: l, .ref x :: st, M) := st_aload_n q3_11 rfl
theorem x3_11 {st : List Value} {M : pj_Mem} {l : pj_Loc} {x : Nat} {o9 : Option Value × pj_Mem} : pj_Ends 3 (11, some (.ref x) :: l, st, M) o9 = pj_Ends 3 (12, some (.ref x) :: l, .ref x :: st, M) o9 := pj_xs (s3_11)
theorem q3_12 : pj_row 3 12 = some (.iconst 3, 1, 0, 0, 0) := by decide +kernel
theorem s3_12 {L : pj_Loc} {st : List Value} {M : pj_Mem}  : pj_step 3 (12, L, st, M) = some (13, L, .int 3 :: st, M) := st_iconst q3_12 (by decide +kernel)
theorem x3_12 {L : pj_Loc} {st : List Value} {M : pj_Mem}  {o9 : Option Value × pj_Mem} : pj_Ends 3 (12, L, st, M) o9 = pj_Ends 3 (13, L, .int 3 :: st, M) o9 := pj_xs (s3_12)
theorem q3_13 : pj_row 3 13 = some (.newarray .int, 2, 0, 0, 0) := by decide +kernel
theorem s3_13 {L : pj_Loc} {st : List Value} {N S : Nat} {H : pj_Heap} {x : Int32} {n' : Nat} (hn : ¬ x < 0) (he : x.toNatClampNeg = n') (hb : n' ≤ 100000) : pj_step 3 (13, L, .int x :: st, (N, S, H)) = some (15, L, .ref N :: st, (N + 1, S + n', pj_up H N (.inr (0, n', .inl (fun _ => 0))))) := (st_newarray q3_13 hn he hb).trans rfl
theorem x3_13 {L : pj_Loc} {st : List Value} {N S : Nat} {H : pj_Heap} {x : Int32} {n' : Nat} (hn : ¬ x < 0) (he : x.toNatClampNeg = n') (hb : n' ≤ 100000) {o9 : Option Value × pj_Mem} : pj_Ends 3 (13, L, .int x :: st, (N, S, H)) o9 = pj_Ends 3 (15, L, .ref N :: st, (N + 1, S + n', pj_up H N (.inr (0, n', .inl (fun _ => 0))))) o9 := pj_xs (s3_13 hn he hb)
theorem q3_15 : pj_row 3 15 = some (.putfield 15, 3, 3, 1, 0) := by decide +kernel
theorem s3_15 {L : pj_Loc} {st : List Value} {N S : Nat} {H : pj_Heap} {o : Nat} {v : Value} : pj_step 3 (15, L, v :: .ref o :: st, (N, S, H)) = pj_set 18 L st (N, S, H) o (pj_fset (H o) 3 1 v) := st_putfield q3_15
theorem x3_15 {L : pj_Loc} {st : List Value} {N S : Nat} {H : pj_Heap} {o : Nat} {v : Value} {o9 : Option Value × pj_Mem} : pj_Ends 3 (15, L, v :: .ref o :: st, (N, S, H)) o9 = pj_then 3 o9 (pj_set 18 L st (N, S, H) o (pj_fset (H o) 3 1 v)) := pj_xt q3_15 rfl (pj_cl_nc rfl) (s3_15)
theorem q3_18 : pj_row 3 18 = some (.aload_n 0, 1, 0, 0, 0) := by decide +kernel
theorem s3_18 {st : List Value} {M : pj_Mem} {l : pj_Loc} {x : Nat} : pj_step 3 (18, some (.ref x) :: l, st, M) = some (19, some (.ref x) :: l, .ref x :: st, M) := st_aload_n q3_18 rfl
theorem x3_18 {st : List Value} {M : pj_Mem} {l : pj_Loc} {x : Nat} {o9 : Option Value × pj_Mem} : pj_Ends 3 (18, some (.ref x) :: l, st, M) o9 = pj_Ends 3 (19, some (.ref x) :: l, .ref x :: st, M) o9 := pj_xs (s3_18)
theorem q3_19 : pj_row 3 19 = some (.iconst 3, 1, 0, 0, 0) := by decide +kernel
theorem s3_19 {L : pj_Loc} {st : List Value} {M : pj_Mem}  : pj_step 3 (19, L, st, M) = some (20, L, .int 3 :: st, M) := st_iconst q3_19 (by decide +kernel)
theorem x3_19 {L : pj_Loc} {st : List Value} {M : pj_Mem}  {o9 : Option Value × pj_Mem} : pj_Ends 3 (19, L, st, M) o9 = pj_Ends 3 (20, L, .int 3 :: st, M) o9 := pj_xs (s3_19)
theorem q3_20 : pj_row 3 20 = some (.newarray .int, 2, 0, 0, 0) := by decide +kernel
theorem s3_20 {L : pj_Loc} {st : List Value} {N S : Nat} {H : pj_Heap} {x : Int32} {n' : Nat} (hn : ¬ x < 0) (he : x.toNatClampNeg = n') (hb : n' ≤ 100000) : pj_step 3 (20, L, .int x :: st, (N, S, H)) = some (22, L, .ref N :: st, (N + 1, S + n', pj_up H N (.inr (0, n', .inl (fun _ => 0))))) := (st_newarray q3_20 hn he hb).trans rfl
theorem x3_20 {L : pj_Loc} {st : List Value} {N S : Nat} {H : pj_Heap} {x : Int32} {n' : Nat} (hn : ¬ x < 0) (he : x.toNatClampNeg = n') (hb : n' ≤ 100000) {o9 : Option Value × pj_Mem} : pj_Ends 3 (20, L, .int x :: st, (N, S, H)) o9 = pj_Ends 3 (22, L, .ref N :: st, (N + 1, S + n', pj_up H N (.inr (0, n', .inl (fun _ => 0))))) o9 := pj_xs (s3_20 hn he hb)
theorem q3_22 : pj_row 3 22 = some (.putfield 18, 3, 3, 2, 0) := by decide +kernel
theorem s3_22 {L : pj_Loc} {st : List Value} {N S : Nat} {H : pj_Heap} {o : Nat} {v : Value} : pj_step 3 (22, L, v :: .ref o :: st, (N, S, H)) = pj_set 25 L st (N, S, H) o (pj_fset (H o) 3 2 v) := st_putfield q3_22
theorem x3_22 {L : pj_Loc} {st : List Value} {N S : Nat} {H : pj_Heap} {o : Nat} {v : Value} {o9 : Option Value × pj_Mem} : pj_Ends 3 (22, L, v :: .ref o :: st, (N, S, H)) o9 = pj_then 3 o9 (pj_set 25 L st (N, S, H) o (pj_fset (H o) 3 2 v)) := pj_xt q3_22 rfl (pj_cl_nc rfl) (s3_22)
theorem q3_25 : pj_row 3 25 = some (.aload_n 0, 1, 0, 0, 0) := by decide +kernel
theorem s3_25 {st : List Value} {M : pj_Mem} {l : pj_Loc} {x : Nat} : pj_step 3 (25, some (.ref x) :: l, st, M) = some (26, some (.ref x) :: l, .ref x :: st, M) := st_aload_n q3_25 rfl
theorem x3_25 {st : List Value} {M : pj_Mem} {l : pj_Loc} {x : Nat} {o9 : Option Value × pj_Mem} : pj_Ends 3 (25, some (.ref x) :: l, st, M) o9 = pj_Ends 3 (26, some (.ref x) :: l, .ref x :: st, M) o9 := pj_xs (s3_25)
theorem q3_26 : pj_row 3 26 = some (.iconst 3, 1, 0, 0, 0) := by decide +kernel
theorem s3_26 {L : pj_Loc} {st : List Value} {M : pj_Mem}  : pj_step 3 (26, L, st, M) = some (27, L, .int 3 :: st, M) := st_iconst q3_26 (by decide +kernel)
theorem x3_26 {L : pj_Loc} {st : List Value} {M : pj_Mem}  {o9 : Option Value × pj_Mem} : pj_Ends 3 (26, L, st, M) o9 = pj_Ends 3 (27, L, .int 3 :: st, M) o9 := pj_xs (s3_26)
theorem q3_27 : pj_row 3 27 = some (.newarray .int, 2, 0, 0, 0) := by decide +kernel
theorem s3_27 {L : pj_Loc} {st : List Value} {N S : Nat} {H : pj_Heap} {x : Int32} {n' : Nat} (hn : ¬ x < 0) (he : x.toNatClampNeg = n') (hb : n' ≤ 100000) : pj_step 3 (27, L, .int x :: st, (N, S, H)) = some (29, L, .ref N :: st, (N + 1, S + n', pj_up H N (.inr (0, n', .inl (fun _ => 0))))) := (st_newarray q3_27 hn he hb).trans rfl
theorem x3_27 {L : pj_Loc} {st : List Value} {N S : Nat} {H : pj_Heap} {x : Int32} {n' : Nat} (hn : ¬ x < 0) (he : x.toNatClampNeg = n') (hb : n' ≤ 100000) {o9 : Option Value × pj_Mem} : pj_Ends 3 (27, L, .int x :: st, (N, S, H)) o9 = pj_Ends 3 (29, L, .ref N :: st, (N + 1, S + n', pj_up H N (.inr (0, n', .inl (fun _ => 0))))) o9 := pj_xs (s3_27 hn he hb)
theorem q3_29 : pj_row 3 29 = some (.putfield 21, 3, 3, 3, 0) := by decide +kernel
theorem s3_29 {L : pj_Loc} {st : List Value} {N S : Nat} {H : pj_Heap} {o : Nat} {v : Value} : pj_step 3 (29, L, v :: .ref o :: st, (N, S, H)) = pj_set 32 L st (N, S, H) o (pj_fset (H o) 3 3 v) := st_putfield q3_29
theorem x3_29 {L : pj_Loc} {st : List Value} {N S : Nat} {H : pj_Heap} {o : Nat} {v : Value} {o9 : Option Value × pj_Mem} : pj_Ends 3 (29, L, v :: .ref o :: st, (N, S, H)) o9 = pj_then 3 o9 (pj_set 32 L st (N, S, H) o (pj_fset (H o) 3 3 v)) := pj_xt q3_29 rfl (pj_cl_nc rfl) (s3_29)
theorem q3_32 : pj_row 3 32 = some (.aload_n 0, 1, 0, 0, 0) := by decide +kernel
theorem s3_32 {st : List Value} {M : pj_Mem} {l : pj_Loc} {x : Nat} : pj_step 3 (32, some (.ref x) :: l, st, M) = some (33, some (.ref x) :: l, .ref x :: st, M) := st_aload_n q3_32 rfl
theorem x3_32 {st : List Value} {M : pj_Mem} {l : pj_Loc} {x : Nat} {o9 : Option Value × pj_Mem} : pj_Ends 3 (32, some (.ref x) :: l, st, M) o9 = pj_Ends 3 (33, some (.ref x) :: l, .ref x :: st, M) o9 := pj_xs (s3_32)
theorem q3_33 : pj_row 3 33 = some (.iconst 3, 1, 0, 0, 0) := by decide +kernel
theorem s3_33 {L : pj_Loc} {st : List Value} {M : pj_Mem}  : pj_step 3 (33, L, st, M) = some (34, L, .int 3 :: st, M) := st_iconst q3_33 (by decide +kernel)
theorem x3_33 {L : pj_Loc} {st : List Value} {M : pj_Mem}  {o9 : Option Value × pj_Mem} : pj_Ends 3 (33, L, st, M) o9 = pj_Ends 3 (34, L, .int 3 :: st, M) o9 := pj_xs (s3_33)
theorem q3_34 : pj_row 3 34 = some (.newarray .int, 2, 0, 0, 0) := by decide +kernel
theorem s3_34 {L : pj_Loc} {st : List Value} {N S : Nat} {H : pj_Heap} {x : Int32} {n' : Nat} (hn : ¬ x < 0) (he : x.toNatClampNeg = n') (hb : n' ≤ 100000) : pj_step 3 (34, L, .int x :: st, (N, S, H)) = some (36, L, .ref N :: st, (N + 1, S + n', pj_up H N (.inr (0, n', .inl (fun _ => 0))))) := (st_newarray q3_34 hn he hb).trans rfl
theorem x3_34 {L : pj_Loc} {st : List Value} {N S : Nat} {H : pj_Heap} {x : Int32} {n' : Nat} (hn : ¬ x < 0) (he : x.toNatClampNeg = n') (hb : n' ≤ 100000) {o9 : Option Value × pj_Mem} : pj_Ends 3 (34, L, .int x :: st, (N, S, H)) o9 = pj_Ends 3 (36, L, .ref N :: st, (N + 1, S + n', pj_up H N (.inr (0, n', .inl (fun _ => 0))))) o9 := pj_xs (s3_34 hn he hb)
theorem q3_36 : pj_row 3 36 = some (.putfield 24, 3, 3, 4, 0) := by decide +kernel
theorem s3_36 {L : pj_Loc} {st : List Value} {N S : Nat} {H : pj_Heap} {o : Nat} {v : Value} : pj_step 3 (36, L, v :: .ref o :: st, (N, S, H)) = pj_set 39 L st (N, S, H) o (pj_fset (H o) 3 4 v) := st_putfield q3_36
theorem x3_36 {L : pj_Loc} {st : List Value} {N S : Nat} {H : pj_Heap} {o : Nat} {v : Value} {o9 : Option Value × pj_Mem} : pj_Ends 3 (36, L, v :: .ref o :: st, (N, S, H)) o9 = pj_then 3 o9 (pj_set 39 L st (N, S, H) o (pj_fset (H o) 3 4 v)) := pj_xt q3_36 rfl (pj_cl_nc rfl) (s3_36)
theorem q3_39 : pj_row 3 39 = some (.aload_n 0, 1, 0, 0, 0) := by decide +kernel
theorem s3_39 {st : List Value} {M : pj_Mem} {l : pj_Loc} {x : Nat} : pj_step 3 (39, some (.ref x) :: l, st, M) = some (40, some (.ref x) :: l, .ref x :: st, M) := st_aload_n q3_39 rfl
theorem x3_39 {st : List Value} {M : pj_Mem} {l : pj_Loc} {x : Nat} {o9 : Option Value × pj_Mem} : pj_Ends 3 (39, some (.ref x) :: l, st, M) o9 = pj_Ends 3 (40, some (.ref x) :: l, .ref x :: st, M) o9 := pj_xs (s3_39)
theorem q3_40 : pj_row 3 40 = some (.iconst 3, 1, 0, 0, 0) := by decide +kernel
theorem s3_40 {L : pj_Loc} {st : List Value} {M : pj_Mem}  : pj_step 3 (40, L, st, M) = some (41, L, .int 3 :: st, M) := st_iconst q3_40 (by decide +kernel)
theorem x3_40 {L : pj_Loc} {st : List Value} {M : pj_Mem}  {o9 : Option Value × pj_Mem} : pj_Ends 3 (40, L, st, M) o9 = pj_Ends 3 (41, L, .int 3 :: st, M) o9 := pj_xs (s3_40)
theorem q3_41 : pj_row 3 41 = some (.newarray .int, 2, 0, 0, 0) := by decide +kernel
theorem s3_41 {L : pj_Loc} {st : List Value} {N S : Nat} {H : pj_Heap} {x : Int32} {n' : Nat} (hn : ¬ x < 0) (he : x.toNatClampNeg = n') (hb : n' ≤ 100000) : pj_step 3 (41, L, .int x :: st, (N, S, H)) = some (43, L, .ref N :: st, (N + 1, S + n', pj_up H N (.inr (0, n', .inl (fun _ => 0))))) := (st_newarray q3_41 hn he hb).trans rfl
theorem x3_41 {L : pj_Loc} {st : List Value} {N S : Nat} {H : pj_Heap} {x : Int32} {n' : Nat} (hn : ¬ x < 0) (he : x.toNatClampNeg = n') (hb : n' ≤ 100000) {o9 : Option Value × pj_Mem} : pj_Ends 3 (41, L, .int x :: st, (N, S, H)) o9 = pj_Ends 3 (43, L, .ref N :: st, (N + 1, S + n', pj_up H N (.inr (0, n', .inl (fun _ => 0))))) o9 := pj_xs (s3_41 hn he hb)
theorem q3_43 : pj_row 3 43 = some (.putfield 27, 3, 3, 5, 0) := by decide +kernel
theorem s3_43 {L : pj_Loc} {st : List Value} {N S : Nat} {H : pj_Heap} {o : Nat} {v : Value} : pj_step 3 (43, L, v :: .ref o :: st, (N, S, H)) = pj_set 46 L st (N, S, H) o (pj_fset (H o) 3 5 v) := st_putfield q3_43
theorem x3_43 {L : pj_Loc} {st : List Value} {N S : Nat} {H : pj_Heap} {o : Nat} {v : Value} {o9 : Option Value × pj_Mem} : pj_Ends 3 (43, L, v :: .ref o :: st, (N, S, H)) o9 = pj_then 3 o9 (pj_set 46 L st (N, S, H) o (pj_fset (H o) 3 5 v)) := pj_xt q3_43 rfl (pj_cl_nc rfl) (s3_43)
theorem q3_46 : pj_row 3 46 = some (.return_, 1, 0, 0, 0) := by decide +kernel
theorem t3_46 {L : pj_Loc} {M : pj_Mem} : pj_Ends 3 (46, L, [], M) (none, M) := pj_Ends.ret q3_46 (pj_rtn_v rt3)
theorem rt4 : pj_rt 4 = none := rfl
theorem q4_0 : pj_row 4 0 = some (.aload_n 0, 1, 0, 0, 0) := by decide +kernel
theorem s4_0 {st : List Value} {M : pj_Mem} {l : pj_Loc} {x : Nat} : pj_step 4 (0, some (.ref x) :: l, st, M) = some (1, some (.ref x) :: l, .ref x :: st, M) := st_aload_n q4_0 rfl
theorem x4_0 {st : List Value} {M : pj_Mem} {l : pj_Loc} {x : Nat} {o9 : Option Value × pj_Mem} : pj_Ends 4 (0, some (.ref x) :: l, st, M) o9 = pj_Ends 4 (1, some (.ref x) :: l, .ref x :: st, M) o9 := pj_xs (s4_0)
theorem q4_1 : pj_row 4 1 = some (.invokespecial 3, 3, 0, 1, 2) := by decide +kernel
theorem s4_1 {L : pj_Loc} {st : List Value} {M : pj_Mem} {o : Nat} : pj_step 4 (1, L, .ref o :: st, M) = pj_g4 st (some (4, L, st, M)) := st_obj q4_1
theorem x4_1 {L : pj_Loc} {st : List Value} {M : pj_Mem} {o : Nat} {o9 : Option Value × pj_Mem} : pj_Ends 4 (1, L, .ref o :: st, M) o9 = pj_then 4 o9 (pj_g4 st (some (4, L, st, M))) := pj_xt q4_1 rfl rfl (s4_1)
theorem q4_4 : pj_row 4 4 = some (.aload_n 0, 1, 0, 0, 0) := by decide +kernel
theorem s4_4 {st : List Value} {M : pj_Mem} {l : pj_Loc} {x : Nat} : pj_step 4 (4, some (.ref x) :: l, st, M) = some (5, some (.ref x) :: l, .ref x :: st, M) := st_aload_n q4_4 rfl
theorem x4_4 {st : List Value} {M : pj_Mem} {l : pj_Loc} {x : Nat} {o9 : Option Value × pj_Mem} : pj_Ends 4 (4, some (.ref x) :: l, st, M) o9 = pj_Ends 4 (5, some (.ref x) :: l, .ref x :: st, M) o9 := pj_xs (s4_4)
theorem q4_5 : pj_row 4 5 = some (.bipush 80, 2, 0, 0, 0) := by decide +kernel
theorem s4_5 {L : pj_Loc} {st : List Value} {M : pj_Mem}  : pj_step 4 (5, L, st, M) = some (7, L, .int 80 :: st, M) := st_bipush q4_5 (by decide +kernel)
theorem x4_5 {L : pj_Loc} {st : List Value} {M : pj_Mem}  {o9 : Option Value × pj_Mem} : pj_Ends 4 (5, L, st, M) o9 = pj_Ends 4 (7, L, .int 80 :: st, M) o9 := pj_xs (s4_5)
theorem q4_7 : pj_row 4 7 = some (.newarray .char, 2, 1, 0, 0) := by decide +kernel
theorem s4_7 {L : pj_Loc} {st : List Value} {N S : Nat} {H : pj_Heap} {x : Int32} {n' : Nat} (hn : ¬ x < 0) (he : x.toNatClampNeg = n') (hb : n' ≤ 100000) : pj_step 4 (7, L, .int x :: st, (N, S, H)) = some (9, L, .ref N :: st, (N + 1, S + n', pj_up H N (.inr (1, n', .inl (fun _ => 0))))) := (st_newarray q4_7 hn he hb).trans rfl
theorem x4_7 {L : pj_Loc} {st : List Value} {N S : Nat} {H : pj_Heap} {x : Int32} {n' : Nat} (hn : ¬ x < 0) (he : x.toNatClampNeg = n') (hb : n' ≤ 100000) {o9 : Option Value × pj_Mem} : pj_Ends 4 (7, L, .int x :: st, (N, S, H)) o9 = pj_Ends 4 (9, L, .ref N :: st, (N + 1, S + n', pj_up H N (.inr (1, n', .inl (fun _ => 0))))) o9 := pj_xs (s4_7 hn he hb)
theorem q4_9 : pj_row 4 9 = some (.putfield 9, 3, 0, 0, 0) := by decide +kernel
theorem s4_9 {L : pj_Loc} {st : List Value} {N S : Nat} {H : pj_Heap} {o : Nat} {v : Value} : pj_step 4 (9, L, v :: .ref o :: st, (N, S, H)) = pj_set 12 L st (N, S, H) o (pj_fset (H o) 0 0 v) := st_putfield q4_9
theorem x4_9 {L : pj_Loc} {st : List Value} {N S : Nat} {H : pj_Heap} {o : Nat} {v : Value} {o9 : Option Value × pj_Mem} : pj_Ends 4 (9, L, v :: .ref o :: st, (N, S, H)) o9 = pj_then 4 o9 (pj_set 12 L st (N, S, H) o (pj_fset (H o) 0 0 v)) := pj_xt q4_9 rfl (pj_cl_nc rfl) (s4_9)
theorem q4_12 : pj_row 4 12 = some (.aload_n 0, 1, 0, 0, 0) := by decide +kernel
theorem s4_12 {st : List Value} {M : pj_Mem} {l : pj_Loc} {x : Nat} : pj_step 4 (12, some (.ref x) :: l, st, M) = some (13, some (.ref x) :: l, .ref x :: st, M) := st_aload_n q4_12 rfl
theorem x4_12 {st : List Value} {M : pj_Mem} {l : pj_Loc} {x : Nat} {o9 : Option Value × pj_Mem} : pj_Ends 4 (12, some (.ref x) :: l, st, M) o9 = pj_Ends 4 (13, some (.ref x) :: l, .ref x :: st, M) o9 := pj_xs (s4_12)
theorem q4_13 : pj_row 4 13 = some (.new 15, 3, 1, 0, 0) := by decide +kernel
theorem s4_13 {L : pj_Loc} {st : List Value} {N S : Nat} {H : pj_Heap}  : pj_step 4 (13, L, st, (N, S, H)) = some (16, L, .ref N :: st, (N + 1, S + 6, pj_up H N (.inl (1, [.null, .int 0, .int 0, .int 0, .int 0, .int 0])))) := (st_new q4_13).trans rfl
theorem x4_13 {L : pj_Loc} {st : List Value} {N S : Nat} {H : pj_Heap}  {o9 : Option Value × pj_Mem} : pj_Ends 4 (13, L, st, (N, S, H)) o9 = pj_Ends 4 (16, L, .ref N :: st, (N + 1, S + 6, pj_up H N (.inl (1, [.null, .int 0, .int 0, .int 0, .int 0, .int 0])))) o9 := pj_xs (s4_13)
theorem q4_16 : pj_row 4 16 = some (.dup, 1, 0, 0, 0) := by decide +kernel
theorem s4_16 {L : pj_Loc} {st : List Value} {M : pj_Mem} {x : Nat} : pj_step 4 (16, L, .ref x :: st, M) = some (17, L, .ref x :: .ref x :: st, M) := st_dup_ref q4_16
theorem x4_16 {L : pj_Loc} {st : List Value} {M : pj_Mem} {x : Nat} {o9 : Option Value × pj_Mem} : pj_Ends 4 (16, L, .ref x :: st, M) o9 = pj_Ends 4 (17, L, .ref x :: .ref x :: st, M) o9 := pj_xs (s4_16)
theorem s4_16i {L : pj_Loc} {st : List Value} {M : pj_Mem} {x : Int32} : pj_step 4 (16, L, .int x :: st, M) = some (17, L, .int x :: .int x :: st, M) := st_dup_int q4_16
theorem x4_16i {L : pj_Loc} {st : List Value} {M : pj_Mem} {x : Int32} {o9 : Option Value × pj_Mem} : pj_Ends 4 (16, L, .int x :: st, M) o9 = pj_Ends 4 (17, L, .int x :: .int x :: st, M) o9 := pj_xs (s4_16i)
theorem q4_17 : pj_row 4 17 = some (.invokespecial 17, 3, 5, 1, 1) := by decide +kernel
theorem e4_17 {L : pj_Loc} {st : List Value} {N S : Nat} {H : pj_Heap} {o : Option Value × pj_Mem} {M' : pj_Mem} {x0 : Nat} (h4 : pj_le4 st = true) (h1 : pj_Ends 5 (0, [some (.ref x0)], [], (N, S, H)) (none, M')) (h2 : pj_Ends 4 (20, L, st, M') o) : pj_Ends 4 (17, L, .ref x0 :: st, (N, S, H)) o := ec_i1 q4_17 (Or.inr rfl) h4 rfl h1 h2
theorem q4_20 : pj_row 4 20 = some (.putfield 18, 3, 0, 1, 0) := by decide +kernel
theorem s4_20 {L : pj_Loc} {st : List Value} {N S : Nat} {H : pj_Heap} {o : Nat} {v : Value} : pj_step 4 (20, L, v :: .ref o :: st, (N, S, H)) = pj_set 23 L st (N, S, H) o (pj_fset (H o) 0 1 v) := st_putfield q4_20
theorem x4_20 {L : pj_Loc} {st : List Value} {N S : Nat} {H : pj_Heap} {o : Nat} {v : Value} {o9 : Option Value × pj_Mem} : pj_Ends 4 (20, L, v :: .ref o :: st, (N, S, H)) o9 = pj_then 4 o9 (pj_set 23 L st (N, S, H) o (pj_fset (H o) 0 1 v)) := pj_xt q4_20 rfl (pj_cl_nc rfl) (s4_20)
theorem q4_23 : pj_row 4 23 = some (.return_, 1, 0, 0, 0) := by decide +kernel
theorem t4_23 {L : pj_Loc} {M : pj_Mem} : pj_Ends 4 (23, L, [], M) (none, M) := pj_Ends.ret q4_23 (pj_rtn_v rt4)
theorem rt5 : pj_rt 5 = none := rfl
theorem q5_0 : pj_row 5 0 = some (.aload_n 0, 1, 0, 0, 0) := by decide +kernel
theorem s5_0 {st : List Value} {M : pj_Mem} {l : pj_Loc} {x : Nat} : pj_step 5 (0, some (.ref x) :: l, st, M) = some (1, some (.ref x) :: l, .ref x :: st, M) := st_aload_n q5_0 rfl
theorem x5_0 {st : List Value} {M : pj_Mem} {l : pj_Loc} {x : Nat} {o9 : Option Value × pj_Mem} : pj_Ends 5 (0, some (.ref x) :: l, st, M) o9 = pj_Ends 5 (1, some (.ref x) :: l, .ref x :: st, M) o9 := pj_xs (s5_0)
theorem q5_1 : pj_row 5 1 = some (.invokespecial 3, 3, 0, 1, 2) := by decide +kernel
theorem s5_1 {L : pj_Loc} {st : List Value} {M : pj_Mem} {o : Nat} : pj_step 5 (1, L, .ref o :: st, M) = pj_g4 st (some (4, L, st, M)) := st_obj q5_1
theorem x5_1 {L : pj_Loc} {st : List Value} {M : pj_Mem} {o : Nat} {o9 : Option Value × pj_Mem} : pj_Ends 5 (1, L, .ref o :: st, M) o9 = pj_then 5 o9 (pj_g4 st (some (4, L, st, M))) := pj_xt q5_1 rfl rfl (s5_1)
theorem q5_4 : pj_row 5 4 = some (.aload_n 0, 1, 0, 0, 0) := by decide +kernel
theorem s5_4 {st : List Value} {M : pj_Mem} {l : pj_Loc} {x : Nat} : pj_step 5 (4, some (.ref x) :: l, st, M) = some (5, some (.ref x) :: l, .ref x :: st, M) := st_aload_n q5_4 rfl
theorem x5_4 {st : List Value} {M : pj_Mem} {l : pj_Loc} {x : Nat} {o9 : Option Value × pj_Mem} : pj_Ends 5 (4, some (.ref x) :: l, st, M) o9 = pj_Ends 5 (5, some (.ref x) :: l, .ref x :: st, M) o9 := pj_xs (s5_4)
theorem q5_5 : pj_row 5 5 = some (.iconst 3, 1, 0, 0, 0) := by decide +kernel
theorem s5_5 {L : pj_Loc} {st : List Value} {M : pj_Mem}  : pj_step 5 (5, L, st, M) = some (6, L, .int 3 :: st, M) := st_iconst q5_5 (by decide +kernel)
theorem x5_5 {L : pj_Loc} {st : List Value} {M : pj_Mem}  {o9 : Option Value × pj_Mem} : pj_Ends 5 (5, L, st, M) o9 = pj_Ends 5 (6, L, .int 3 :: st, M) o9 := pj_xs (s5_5)
theorem q5_6 : pj_row 5 6 = some (.newarray .int, 2, 0, 0, 0) := by decide +kernel
theorem s5_6 {L : pj_Loc} {st : List Value} {N S : Nat} {H : pj_Heap} {x : Int32} {n' : Nat} (hn : ¬ x < 0) (he : x.toNatClampNeg = n') (hb : n' ≤ 100000) : pj_step 5 (6, L, .int x :: st, (N, S, H)) = some (8, L, .ref N :: st, (N + 1, S + n', pj_up H N (.inr (0, n', .inl (fun _ => 0))))) := (st_newarray q5_6 hn he hb).trans rfl
theorem x5_6 {L : pj_Loc} {st : List Value} {N S : Nat} {H : pj_Heap} {x : Int32} {n' : Nat} (hn : ¬ x < 0) (he : x.toNatClampNeg = n') (hb : n' ≤ 100000) {o9 : Option Value × pj_Mem} : pj_Ends 5 (6, L, .int x :: st, (N, S, H)) o9 = pj_Ends 5 (8, L, .ref N :: st, (N + 1, S + n', pj_up H N (.inr (0, n', .inl (fun _ => 0))))) o9 := pj_xs (s5_6 hn he hb)
theorem q5_8 : pj_row 5 8 = some (.putfield 9, 3, 1, 0, 0) := by decide +kernel
theorem s5_8 {L : pj_Loc} {st : List Value} {N S : Nat} {H : pj_Heap} {o : Nat} {v : Value} : pj_step 5 (8, L, v :: .ref o :: st, (N, S, H)) = pj_set 11 L st (N, S, H) o (pj_fset (H o) 1 0 v) := st_putfield q5_8
theorem x5_8 {L : pj_Loc} {st : List Value} {N S : Nat} {H : pj_Heap} {o : Nat} {v : Value} {o9 : Option Value × pj_Mem} : pj_Ends 5 (8, L, v :: .ref o :: st, (N, S, H)) o9 = pj_then 5 o9 (pj_set 11 L st (N, S, H) o (pj_fset (H o) 1 0 v)) := pj_xt q5_8 rfl (pj_cl_nc rfl) (s5_8)
theorem q5_11 : pj_row 5 11 = some (.return_, 1, 0, 0, 0) := by decide +kernel
theorem t5_11 {L : pj_Loc} {M : pj_Mem} : pj_Ends 5 (11, L, [], M) (none, M) := pj_Ends.ret q5_11 (pj_rtn_v rt5)
theorem rt6 : pj_rt 6 = some (.array (.object "VotedCharge$Unit")) := rfl
theorem q6_0 : pj_row 6 0 = some (.iload_n 0, 1, 0, 0, 0) := by decide +kernel
theorem s6_0 {st : List Value} {M : pj_Mem} {l : pj_Loc} {x : Int32} : pj_step 6 (0, some (.int x) :: l, st, M) = some (1, some (.int x) :: l, .int x :: st, M) := st_iload_n q6_0 rfl
theorem x6_0 {st : List Value} {M : pj_Mem} {l : pj_Loc} {x : Int32} {o9 : Option Value × pj_Mem} : pj_Ends 6 (0, some (.int x) :: l, st, M) o9 = pj_Ends 6 (1, some (.int x) :: l, .int x :: st, M) o9 := pj_xs (s6_0)
theorem q6_1 : pj_row 6 1 = some (.anewarray 7, 3, 3, 0, 0) := by decide +kernel
theorem s6_1 {L : pj_Loc} {st : List Value} {N S : Nat} {H : pj_Heap} {x : Int32} {n' : Nat} (hn : ¬ x < 0) (he : x.toNatClampNeg = n') (hb : n' ≤ 100000) : pj_step 6 (1, L, .int x :: st, (N, S, H)) = some (4, L, .ref N :: st, (N + 1, S + n', pj_up H N (.inr (3, n', .inr (fun _ => none))))) := (st_anewarray q6_1 hn he hb).trans rfl
theorem x6_1 {L : pj_Loc} {st : List Value} {N S : Nat} {H : pj_Heap} {x : Int32} {n' : Nat} (hn : ¬ x < 0) (he : x.toNatClampNeg = n') (hb : n' ≤ 100000) {o9 : Option Value × pj_Mem} : pj_Ends 6 (1, L, .int x :: st, (N, S, H)) o9 = pj_Ends 6 (4, L, .ref N :: st, (N + 1, S + n', pj_up H N (.inr (3, n', .inr (fun _ => none))))) o9 := pj_xs (s6_1 hn he hb)
theorem q6_4 : pj_row 6 4 = some (.astore_n 1, 1, 0, 0, 0) := by decide +kernel
theorem s6_4 {st : List Value} {M : pj_Mem} {l : pj_Loc} {a0 a1 : Option Value} {x : Nat} (h : pj_long a0 = false) : pj_step 6 (4, a0 :: a1 :: l, .ref x :: st, M) = some (5, a0 :: some (.ref x) :: l, st, M) := st_astore_n q6_4 (pj_st_1 h)
theorem x6_4 {st : List Value} {M : pj_Mem} {l : pj_Loc} {a0 a1 : Option Value} {x : Nat} (h : pj_long a0 = false) {o9 : Option Value × pj_Mem} : pj_Ends 6 (4, a0 :: a1 :: l, .ref x :: st, M) o9 = pj_Ends 6 (5, a0 :: some (.ref x) :: l, st, M) o9 := pj_xs (s6_4 h)
theorem q6_5 : pj_row 6 5 = some (.iconst 0, 1, 0, 0, 0) := by decide +kernel
theorem s6_5 {L : pj_Loc} {st : List Value} {M : pj_Mem}  : pj_step 6 (5, L, st, M) = some (6, L, .int 0 :: st, M) := st_iconst q6_5 (by decide +kernel)
theorem x6_5 {L : pj_Loc} {st : List Value} {M : pj_Mem}  {o9 : Option Value × pj_Mem} : pj_Ends 6 (5, L, st, M) o9 = pj_Ends 6 (6, L, .int 0 :: st, M) o9 := pj_xs (s6_5)
theorem q6_6 : pj_row 6 6 = some (.istore_n 2, 1, 0, 0, 0) := by decide +kernel
theorem s6_6 {st : List Value} {M : pj_Mem} {l : pj_Loc} {a0 a1 a2 : Option Value} {x : Int32} (h : pj_long a1 = false) : pj_step 6 (6, a0 :: a1 :: a2 :: l, .int x :: st, M) = some (7, a0 :: a1 :: some (.int x) :: l, st, M) := st_istore_n q6_6 (pj_st_2 h)
theorem x6_6 {st : List Value} {M : pj_Mem} {l : pj_Loc} {a0 a1 a2 : Option Value} {x : Int32} (h : pj_long a1 = false) {o9 : Option Value × pj_Mem} : pj_Ends 6 (6, a0 :: a1 :: a2 :: l, .int x :: st, M) o9 = pj_Ends 6 (7, a0 :: a1 :: some (.int x) :: l, st, M) o9 := pj_xs (s6_6 h)
theorem q6_7 : pj_row 6 7 = some (.iload_n 2, 1, 0, 0, 0) := by decide +kernel
theorem s6_7 {st : List Value} {M : pj_Mem} {l : pj_Loc} {a0 a1 : Option Value} {x : Int32} : pj_step 6 (7, a0 :: a1 :: some (.int x) :: l, st, M) = some (8, a0 :: a1 :: some (.int x) :: l, .int x :: st, M) := st_iload_n q6_7 rfl
theorem x6_7 {st : List Value} {M : pj_Mem} {l : pj_Loc} {a0 a1 : Option Value} {x : Int32} {o9 : Option Value × pj_Mem} : pj_Ends 6 (7, a0 :: a1 :: some (.int x) :: l, st, M) o9 = pj_Ends 6 (8, a0 :: a1 :: some (.int x) :: l, .int x :: st, M) o9 := pj_xs (s6_7)
theorem q6_8 : pj_row 6 8 = some (.aload_n 1, 1, 0, 0, 0) := by decide +kernel
theorem s6_8 {st : List Value} {M : pj_Mem} {l : pj_Loc} {a0 : Option Value} {x : Nat} : pj_step 6 (8, a0 :: some (.ref x) :: l, st, M) = some (9, a0 :: some (.ref x) :: l, .ref x :: st, M) := st_aload_n q6_8 rfl
theorem x6_8 {st : List Value} {M : pj_Mem} {l : pj_Loc} {a0 : Option Value} {x : Nat} {o9 : Option Value × pj_Mem} : pj_Ends 6 (8, a0 :: some (.ref x) :: l, st, M) o9 = pj_Ends 6 (9, a0 :: some (.ref x) :: l, .ref x :: st, M) o9 := pj_xs (s6_8)
theorem q6_9 : pj_row 6 9 = some (.arraylength, 1, 0, 0, 0) := by decide +kernel
theorem s6_9 {L : pj_Loc} {st : List Value} {N S : Nat} {H : pj_Heap} {o : Nat} : pj_step 6 (9, L, .ref o :: st, (N, S, H)) = pj_pi 10 L st (N, S, H) (pj_len (H o)) := st_arraylength q6_9
theorem x6_9 {L : pj_Loc} {st : List Value} {N S : Nat} {H : pj_Heap} {o : Nat} {o9 : Option Value × pj_Mem} : pj_Ends 6 (9, L, .ref o :: st, (N, S, H)) o9 = pj_then 6 o9 (pj_pi 10 L st (N, S, H) (pj_len (H o))) := pj_xt q6_9 rfl (pj_cl_nc rfl) (s6_9)
theorem q6_10 : pj_row 6 10 = some (.if_icmp .ge 19, 3, 29, 0, 0) := by decide +kernel
theorem s6_10 {L : pj_Loc} {st : List Value} {M : pj_Mem} {x y : Int32} : pj_step 6 (10, L, .int y :: .int x :: st, M) = some (if y ≤ x then 29 else 13, L, st, M) := st_icmp_ge q6_10
theorem x6_10 {L : pj_Loc} {st : List Value} {M : pj_Mem} {x y : Int32} {o9 : Option Value × pj_Mem} : pj_Ends 6 (10, L, .int y :: .int x :: st, M) o9 = pj_Ends 6 (if y ≤ x then 29 else 13, L, st, M) o9 := pj_xs (s6_10)
theorem q6_13 : pj_row 6 13 = some (.aload_n 1, 1, 0, 0, 0) := by decide +kernel
theorem s6_13 {st : List Value} {M : pj_Mem} {l : pj_Loc} {a0 : Option Value} {x : Nat} : pj_step 6 (13, a0 :: some (.ref x) :: l, st, M) = some (14, a0 :: some (.ref x) :: l, .ref x :: st, M) := st_aload_n q6_13 rfl
theorem x6_13 {st : List Value} {M : pj_Mem} {l : pj_Loc} {a0 : Option Value} {x : Nat} {o9 : Option Value × pj_Mem} : pj_Ends 6 (13, a0 :: some (.ref x) :: l, st, M) o9 = pj_Ends 6 (14, a0 :: some (.ref x) :: l, .ref x :: st, M) o9 := pj_xs (s6_13)
theorem q6_14 : pj_row 6 14 = some (.iload_n 2, 1, 0, 0, 0) := by decide +kernel
theorem s6_14 {st : List Value} {M : pj_Mem} {l : pj_Loc} {a0 a1 : Option Value} {x : Int32} : pj_step 6 (14, a0 :: a1 :: some (.int x) :: l, st, M) = some (15, a0 :: a1 :: some (.int x) :: l, .int x :: st, M) := st_iload_n q6_14 rfl
theorem x6_14 {st : List Value} {M : pj_Mem} {l : pj_Loc} {a0 a1 : Option Value} {x : Int32} {o9 : Option Value × pj_Mem} : pj_Ends 6 (14, a0 :: a1 :: some (.int x) :: l, st, M) o9 = pj_Ends 6 (15, a0 :: a1 :: some (.int x) :: l, .int x :: st, M) o9 := pj_xs (s6_14)
theorem q6_15 : pj_row 6 15 = some (.new 7, 3, 4, 0, 0) := by decide +kernel
theorem s6_15 {L : pj_Loc} {st : List Value} {N S : Nat} {H : pj_Heap}  : pj_step 6 (15, L, st, (N, S, H)) = some (18, L, .ref N :: st, (N + 1, S + 11, pj_up H N (.inl (4, [.null, .null, .null, .null, .null, .null, .null, .int 0, .int 0, .int 0, .int 0])))) := (st_new q6_15).trans rfl
theorem x6_15 {L : pj_Loc} {st : List Value} {N S : Nat} {H : pj_Heap}  {o9 : Option Value × pj_Mem} : pj_Ends 6 (15, L, st, (N, S, H)) o9 = pj_Ends 6 (18, L, .ref N :: st, (N + 1, S + 11, pj_up H N (.inl (4, [.null, .null, .null, .null, .null, .null, .null, .int 0, .int 0, .int 0, .int 0])))) o9 := pj_xs (s6_15)
theorem q6_18 : pj_row 6 18 = some (.dup, 1, 0, 0, 0) := by decide +kernel
theorem s6_18 {L : pj_Loc} {st : List Value} {M : pj_Mem} {x : Nat} : pj_step 6 (18, L, .ref x :: st, M) = some (19, L, .ref x :: .ref x :: st, M) := st_dup_ref q6_18
theorem x6_18 {L : pj_Loc} {st : List Value} {M : pj_Mem} {x : Nat} {o9 : Option Value × pj_Mem} : pj_Ends 6 (18, L, .ref x :: st, M) o9 = pj_Ends 6 (19, L, .ref x :: .ref x :: st, M) o9 := pj_xs (s6_18)
theorem s6_18i {L : pj_Loc} {st : List Value} {M : pj_Mem} {x : Int32} : pj_step 6 (18, L, .int x :: st, M) = some (19, L, .int x :: .int x :: st, M) := st_dup_int q6_18
theorem x6_18i {L : pj_Loc} {st : List Value} {M : pj_Mem} {x : Int32} {o9 : Option Value × pj_Mem} : pj_Ends 6 (18, L, .int x :: st, M) o9 = pj_Ends 6 (19, L, .int x :: .int x :: st, M) o9 := pj_xs (s6_18i)
theorem q6_19 : pj_row 6 19 = some (.invokespecial 9, 3, 1, 1, 0) := by decide +kernel
theorem e6_19 {L : pj_Loc} {st : List Value} {N S : Nat} {H : pj_Heap} {o : Option Value × pj_Mem} {M' : pj_Mem} {x0 : Nat} (h4 : pj_le4 st = true) (h1 : pj_Ends 1 (0, [some (.ref x0), none], [], (N, S, H)) (none, M')) (h2 : pj_Ends 6 (22, L, st, M') o) : pj_Ends 6 (19, L, .ref x0 :: st, (N, S, H)) o := ec_i1 q6_19 (Or.inl rfl) h4 rfl h1 h2
theorem q6_22 : pj_row 6 22 = some (.aastore, 1, 0, 0, 0) := by decide +kernel
theorem s6_22 {L : pj_Loc} {st : List Value} {N S : Nat} {H : pj_Heap} {o x : Nat} {i : Int32} (hx : pj_isU 4 (H x) = true) : pj_step 6 (22, L, .ref x :: .int i :: .ref o :: st, (N, S, H)) = pj_set 23 L st (N, S, H) o (pj_qrs (H o) i x) := st_aastore q6_22 hx
theorem x6_22 {L : pj_Loc} {st : List Value} {N S : Nat} {H : pj_Heap} {o x : Nat} {i : Int32} (hx : pj_isU 4 (H x) = true) {o9 : Option Value × pj_Mem} : pj_Ends 6 (22, L, .ref x :: .int i :: .ref o :: st, (N, S, H)) o9 = pj_then 6 o9 (pj_set 23 L st (N, S, H) o (pj_qrs (H o) i x)) := pj_xt q6_22 rfl (pj_cl_nc rfl) (s6_22 hx)
theorem q6_23 : pj_row 6 23 = some (.iinc 2 1, 3, 0, 0, 0) := by decide +kernel
theorem s6_23 {st : List Value} {M : pj_Mem} {l : pj_Loc} {a0 a1 : Option Value} {x : Int32} (h : pj_long a1 = false) : pj_step 6 (23, a0 :: a1 :: some (.int x) :: l, st, M) = some (26, a0 :: a1 :: some (.int (x + 1)) :: l, st, M) := st_iinc q6_23 rfl (congrArg (fun y => x + y) (show Int32.ofInt 1 = 1 by decide +kernel)) (pj_st_2 h)
theorem x6_23 {st : List Value} {M : pj_Mem} {l : pj_Loc} {a0 a1 : Option Value} {x : Int32} (h : pj_long a1 = false) {o9 : Option Value × pj_Mem} : pj_Ends 6 (23, a0 :: a1 :: some (.int x) :: l, st, M) o9 = pj_Ends 6 (26, a0 :: a1 :: some (.int (x + 1)) :: l, st, M) o9 := pj_xs (s6_23 h)
theorem q6_26 : pj_row 6 26 = some (.goto (-19), 3, 7, 0, 0) := by decide +kernel
theorem s6_26 {L : pj_Loc} {st : List Value} {M : pj_Mem}  : pj_step 6 (26, L, st, M) = some (7, L, st, M) := st_goto q6_26
theorem x6_26 {L : pj_Loc} {st : List Value} {M : pj_Mem}  {o9 : Option Value × pj_Mem} : pj_Ends 6 (26, L, st, M) o9 = pj_Ends 6 (7, L, st, M) o9 := pj_xs (s6_26)
theorem q6_29 : pj_row 6 29 = some (.aload_n 1, 1, 0, 0, 0) := by decide +kernel
theorem s6_29 {st : List Value} {M : pj_Mem} {l : pj_Loc} {a0 : Option Value} {x : Nat} : pj_step 6 (29, a0 :: some (.ref x) :: l, st, M) = some (30, a0 :: some (.ref x) :: l, .ref x :: st, M) := st_aload_n q6_29 rfl
theorem x6_29 {st : List Value} {M : pj_Mem} {l : pj_Loc} {a0 : Option Value} {x : Nat} {o9 : Option Value × pj_Mem} : pj_Ends 6 (29, a0 :: some (.ref x) :: l, st, M) o9 = pj_Ends 6 (30, a0 :: some (.ref x) :: l, .ref x :: st, M) o9 := pj_xs (s6_29)
theorem q6_30 : pj_row 6 30 = some (.areturn, 1, 0, 0, 0) := by decide +kernel
theorem t6_30 {L : pj_Loc} {M : pj_Mem} {a : Nat} : pj_Ends 6 (30, L, [.ref a], M) (some (.ref a), M) := pj_Ends.ret q6_30 (pj_rtn_a rt6)
theorem rt7 : pj_rt 7 = some .int := rfl
theorem q7_0 : pj_row 7 0 = some (.iload_n 1, 1, 0, 0, 0) := by decide +kernel
theorem s7_0 {st : List Value} {M : pj_Mem} {l : pj_Loc} {a0 : Option Value} {x : Int32} : pj_step 7 (0, a0 :: some (.int x) :: l, st, M) = some (1, a0 :: some (.int x) :: l, .int x :: st, M) := st_iload_n q7_0 rfl
theorem x7_0 {st : List Value} {M : pj_Mem} {l : pj_Loc} {a0 : Option Value} {x : Int32} {o9 : Option Value × pj_Mem} : pj_Ends 7 (0, a0 :: some (.int x) :: l, st, M) o9 = pj_Ends 7 (1, a0 :: some (.int x) :: l, .int x :: st, M) o9 := pj_xs (s7_0)
theorem q7_1 : pj_row 7 1 = some (.ifCond .lt 9, 3, 10, 0, 0) := by decide +kernel
theorem s7_1 {L : pj_Loc} {st : List Value} {M : pj_Mem} {x : Int32} : pj_step 7 (1, L, .int x :: st, M) = some (if x < 0 then 10 else 4, L, st, M) := st_if_lt q7_1
theorem x7_1 {L : pj_Loc} {st : List Value} {M : pj_Mem} {x : Int32} {o9 : Option Value × pj_Mem} : pj_Ends 7 (1, L, .int x :: st, M) o9 = pj_Ends 7 (if x < 0 then 10 else 4, L, st, M) o9 := pj_xs (s7_1)
theorem q7_4 : pj_row 7 4 = some (.iload_n 1, 1, 0, 0, 0) := by decide +kernel
theorem s7_4 {st : List Value} {M : pj_Mem} {l : pj_Loc} {a0 : Option Value} {x : Int32} : pj_step 7 (4, a0 :: some (.int x) :: l, st, M) = some (5, a0 :: some (.int x) :: l, .int x :: st, M) := st_iload_n q7_4 rfl
theorem x7_4 {st : List Value} {M : pj_Mem} {l : pj_Loc} {a0 : Option Value} {x : Int32} {o9 : Option Value × pj_Mem} : pj_Ends 7 (4, a0 :: some (.int x) :: l, st, M) o9 = pj_Ends 7 (5, a0 :: some (.int x) :: l, .int x :: st, M) o9 := pj_xs (s7_4)
theorem q7_5 : pj_row 7 5 = some (.bipush 6, 2, 0, 0, 0) := by decide +kernel
theorem s7_5 {L : pj_Loc} {st : List Value} {M : pj_Mem}  : pj_step 7 (5, L, st, M) = some (7, L, .int 6 :: st, M) := st_bipush q7_5 (by decide +kernel)
theorem x7_5 {L : pj_Loc} {st : List Value} {M : pj_Mem}  {o9 : Option Value × pj_Mem} : pj_Ends 7 (5, L, st, M) o9 = pj_Ends 7 (7, L, .int 6 :: st, M) o9 := pj_xs (s7_5)
theorem q7_7 : pj_row 7 7 = some (.if_icmp .lt 6, 3, 13, 0, 0) := by decide +kernel
theorem s7_7 {L : pj_Loc} {st : List Value} {M : pj_Mem} {x y : Int32} : pj_step 7 (7, L, .int y :: .int x :: st, M) = some (if x < y then 13 else 10, L, st, M) := st_icmp_lt q7_7
theorem x7_7 {L : pj_Loc} {st : List Value} {M : pj_Mem} {x y : Int32} {o9 : Option Value × pj_Mem} : pj_Ends 7 (7, L, .int y :: .int x :: st, M) o9 = pj_Ends 7 (if x < y then 13 else 10, L, st, M) o9 := pj_xs (s7_7)
theorem q7_10 : pj_row 7 10 = some (.bipush (-2), 2, 0, 0, 0) := by decide +kernel
theorem s7_10 {L : pj_Loc} {st : List Value} {M : pj_Mem}  : pj_step 7 (10, L, st, M) = some (12, L, .int (-2) :: st, M) := st_bipush q7_10 (by decide +kernel)
theorem x7_10 {L : pj_Loc} {st : List Value} {M : pj_Mem}  {o9 : Option Value × pj_Mem} : pj_Ends 7 (10, L, st, M) o9 = pj_Ends 7 (12, L, .int (-2) :: st, M) o9 := pj_xs (s7_10)
theorem q7_12 : pj_row 7 12 = some (.ireturn, 1, 0, 0, 0) := by decide +kernel
theorem t7_12 {L : pj_Loc} {M : pj_Mem} {v : Int32} : pj_Ends 7 (12, L, [.int v], M) (some (.int v), M) := pj_Ends.ret q7_12 (pj_rtn_i rt7)
theorem q7_13 : pj_row 7 13 = some (.iload_n 2, 1, 0, 0, 0) := by decide +kernel
theorem s7_13 {st : List Value} {M : pj_Mem} {l : pj_Loc} {a0 a1 : Option Value} {x : Int32} : pj_step 7 (13, a0 :: a1 :: some (.int x) :: l, st, M) = some (14, a0 :: a1 :: some (.int x) :: l, .int x :: st, M) := st_iload_n q7_13 rfl
theorem x7_13 {st : List Value} {M : pj_Mem} {l : pj_Loc} {a0 a1 : Option Value} {x : Int32} {o9 : Option Value × pj_Mem} : pj_Ends 7 (13, a0 :: a1 :: some (.int x) :: l, st, M) o9 = pj_Ends 7 (14, a0 :: a1 :: some (.int x) :: l, .int x :: st, M) o9 := pj_xs (s7_13)
theorem q7_14 : pj_row 7 14 = some (.getstatic 48, 3, 2, 0, 0) := by decide +kernel
theorem s7_14 {L : pj_Loc} {st : List Value} {M : pj_Mem}  : pj_step 7 (14, L, st, M) = some (17, L, .ref 2 :: st, M) := st_getstatic q7_14
theorem x7_14 {L : pj_Loc} {st : List Value} {M : pj_Mem}  {o9 : Option Value × pj_Mem} : pj_Ends 7 (14, L, st, M) o9 = pj_Ends 7 (17, L, .ref 2 :: st, M) o9 := pj_xs (s7_14)
theorem q7_17 : pj_row 7 17 = some (.iload_n 1, 1, 0, 0, 0) := by decide +kernel
theorem s7_17 {st : List Value} {M : pj_Mem} {l : pj_Loc} {a0 : Option Value} {x : Int32} : pj_step 7 (17, a0 :: some (.int x) :: l, st, M) = some (18, a0 :: some (.int x) :: l, .int x :: st, M) := st_iload_n q7_17 rfl
theorem x7_17 {st : List Value} {M : pj_Mem} {l : pj_Loc} {a0 : Option Value} {x : Int32} {o9 : Option Value × pj_Mem} : pj_Ends 7 (17, a0 :: some (.int x) :: l, st, M) o9 = pj_Ends 7 (18, a0 :: some (.int x) :: l, .int x :: st, M) o9 := pj_xs (s7_17)
theorem q7_18 : pj_row 7 18 = some (.iaload, 1, 0, 0, 0) := by decide +kernel
theorem s7_18 {L : pj_Loc} {st : List Value} {N S : Nat} {H : pj_Heap} {o : Nat} {i : Int32} : pj_step 7 (18, L, .int i :: .ref o :: st, (N, S, H)) = pj_pi 19 L st (N, S, H) (pj_arl (H o) 0 i) := st_iaload q7_18
theorem x7_18 {L : pj_Loc} {st : List Value} {N S : Nat} {H : pj_Heap} {o : Nat} {i : Int32} {o9 : Option Value × pj_Mem} : pj_Ends 7 (18, L, .int i :: .ref o :: st, (N, S, H)) o9 = pj_then 7 o9 (pj_pi 19 L st (N, S, H) (pj_arl (H o) 0 i)) := pj_xt q7_18 rfl (pj_cl_nc rfl) (s7_18)
theorem q7_19 : pj_row 7 19 = some (.if_icmp .lt 12, 3, 31, 0, 0) := by decide +kernel
theorem s7_19 {L : pj_Loc} {st : List Value} {M : pj_Mem} {x y : Int32} : pj_step 7 (19, L, .int y :: .int x :: st, M) = some (if x < y then 31 else 22, L, st, M) := st_icmp_lt q7_19
theorem x7_19 {L : pj_Loc} {st : List Value} {M : pj_Mem} {x y : Int32} {o9 : Option Value × pj_Mem} : pj_Ends 7 (19, L, .int y :: .int x :: st, M) o9 = pj_Ends 7 (if x < y then 31 else 22, L, st, M) o9 := pj_xs (s7_19)
theorem q7_22 : pj_row 7 22 = some (.iload_n 2, 1, 0, 0, 0) := by decide +kernel
theorem s7_22 {st : List Value} {M : pj_Mem} {l : pj_Loc} {a0 a1 : Option Value} {x : Int32} : pj_step 7 (22, a0 :: a1 :: some (.int x) :: l, st, M) = some (23, a0 :: a1 :: some (.int x) :: l, .int x :: st, M) := st_iload_n q7_22 rfl
theorem x7_22 {st : List Value} {M : pj_Mem} {l : pj_Loc} {a0 a1 : Option Value} {x : Int32} {o9 : Option Value × pj_Mem} : pj_Ends 7 (22, a0 :: a1 :: some (.int x) :: l, st, M) o9 = pj_Ends 7 (23, a0 :: a1 :: some (.int x) :: l, .int x :: st, M) o9 := pj_xs (s7_22)
theorem q7_23 : pj_row 7 23 = some (.getstatic 52, 3, 3, 0, 0) := by decide +kernel
theorem s7_23 {L : pj_Loc} {st : List Value} {M : pj_Mem}  : pj_step 7 (23, L, st, M) = some (26, L, .ref 3 :: st, M) := st_getstatic q7_23
theorem x7_23 {L : pj_Loc} {st : List Value} {M : pj_Mem}  {o9 : Option Value × pj_Mem} : pj_Ends 7 (23, L, st, M) o9 = pj_Ends 7 (26, L, .ref 3 :: st, M) o9 := pj_xs (s7_23)
theorem q7_26 : pj_row 7 26 = some (.iload_n 1, 1, 0, 0, 0) := by decide +kernel
theorem s7_26 {st : List Value} {M : pj_Mem} {l : pj_Loc} {a0 : Option Value} {x : Int32} : pj_step 7 (26, a0 :: some (.int x) :: l, st, M) = some (27, a0 :: some (.int x) :: l, .int x :: st, M) := st_iload_n q7_26 rfl
theorem x7_26 {st : List Value} {M : pj_Mem} {l : pj_Loc} {a0 : Option Value} {x : Int32} {o9 : Option Value × pj_Mem} : pj_Ends 7 (26, a0 :: some (.int x) :: l, st, M) o9 = pj_Ends 7 (27, a0 :: some (.int x) :: l, .int x :: st, M) o9 := pj_xs (s7_26)
theorem q7_27 : pj_row 7 27 = some (.iaload, 1, 0, 0, 0) := by decide +kernel
theorem s7_27 {L : pj_Loc} {st : List Value} {N S : Nat} {H : pj_Heap} {o : Nat} {i : Int32} : pj_step 7 (27, L, .int i :: .ref o :: st, (N, S, H)) = pj_pi 28 L st (N, S, H) (pj_arl (H o) 0 i) := st_iaload q7_27
theorem x7_27 {L : pj_Loc} {st : List Value} {N S : Nat} {H : pj_Heap} {o : Nat} {i : Int32} {o9 : Option Value × pj_Mem} : pj_Ends 7 (27, L, .int i :: .ref o :: st, (N, S, H)) o9 = pj_then 7 o9 (pj_pi 28 L st (N, S, H) (pj_arl (H o) 0 i)) := pj_xt q7_27 rfl (pj_cl_nc rfl) (s7_27)
theorem q7_28 : pj_row 7 28 = some (.if_icmp .le 6, 3, 34, 0, 0) := by decide +kernel
theorem s7_28 {L : pj_Loc} {st : List Value} {M : pj_Mem} {x y : Int32} : pj_step 7 (28, L, .int y :: .int x :: st, M) = some (if x ≤ y then 34 else 31, L, st, M) := st_icmp_le q7_28
theorem x7_28 {L : pj_Loc} {st : List Value} {M : pj_Mem} {x y : Int32} {o9 : Option Value × pj_Mem} : pj_Ends 7 (28, L, .int y :: .int x :: st, M) o9 = pj_Ends 7 (if x ≤ y then 34 else 31, L, st, M) o9 := pj_xs (s7_28)
theorem q7_31 : pj_row 7 31 = some (.bipush (-2), 2, 0, 0, 0) := by decide +kernel
theorem s7_31 {L : pj_Loc} {st : List Value} {M : pj_Mem}  : pj_step 7 (31, L, st, M) = some (33, L, .int (-2) :: st, M) := st_bipush q7_31 (by decide +kernel)
theorem x7_31 {L : pj_Loc} {st : List Value} {M : pj_Mem}  {o9 : Option Value × pj_Mem} : pj_Ends 7 (31, L, st, M) o9 = pj_Ends 7 (33, L, .int (-2) :: st, M) o9 := pj_xs (s7_31)
theorem q7_33 : pj_row 7 33 = some (.ireturn, 1, 0, 0, 0) := by decide +kernel
theorem t7_33 {L : pj_Loc} {M : pj_Mem} {v : Int32} : pj_Ends 7 (33, L, [.int v], M) (some (.int v), M) := pj_Ends.ret q7_33 (pj_rtn_i rt7)
theorem q7_34 : pj_row 7 34 = some (.aload_n 0, 1, 0, 0, 0) := by decide +kernel
theorem s7_34 {st : List Value} {M : pj_Mem} {l : pj_Loc} {x : Nat} : pj_step 7 (34, some (.ref x) :: l, st, M) = some (35, some (.ref x) :: l, .ref x :: st, M) := st_aload_n q7_34 rfl
theorem x7_34 {st : List Value} {M : pj_Mem} {l : pj_Loc} {x : Nat} {o9 : Option Value × pj_Mem} : pj_Ends 7 (34, some (.ref x) :: l, st, M) o9 = pj_Ends 7 (35, some (.ref x) :: l, .ref x :: st, M) o9 := pj_xs (s7_34)
theorem q7_35 : pj_row 7 35 = some (.invokevirtual 55, 3, 8, 1, 0) := by decide +kernel
theorem e7_35 {L : pj_Loc} {st : List Value} {N S : Nat} {H : pj_Heap} {o : Option Value × pj_Mem} {M' : pj_Mem} {x0 : Nat} (h4 : pj_le4 st = true) (hu : pj_isU 5 (H x0) = true) (h1 : pj_Ends 8 (0, [some (.ref x0), none, none], [], (N, S, H)) (none, M')) (h2 : pj_Ends 7 (38, L, st, M') o) : pj_Ends 7 (35, L, .ref x0 :: st, (N, S, H)) o := ec_v1 q7_35 (Or.inl rfl) h4 hu rfl h1 h2
theorem q7_38 : pj_row 7 38 = some (.aload_n 0, 1, 0, 0, 0) := by decide +kernel
theorem s7_38 {st : List Value} {M : pj_Mem} {l : pj_Loc} {x : Nat} : pj_step 7 (38, some (.ref x) :: l, st, M) = some (39, some (.ref x) :: l, .ref x :: st, M) := st_aload_n q7_38 rfl
theorem x7_38 {st : List Value} {M : pj_Mem} {l : pj_Loc} {x : Nat} {o9 : Option Value × pj_Mem} : pj_Ends 7 (38, some (.ref x) :: l, st, M) o9 = pj_Ends 7 (39, some (.ref x) :: l, .ref x :: st, M) o9 := pj_xs (s7_38)
theorem q7_39 : pj_row 7 39 = some (.getfield 10, 3, 5, 0, 0) := by decide +kernel
theorem s7_39 {L : pj_Loc} {st : List Value} {N S : Nat} {H : pj_Heap} {o : Nat} : pj_step 7 (39, L, .ref o :: st, (N, S, H)) = pj_pv 42 L st (N, S, H) (pj_fld (H o) 5 0) := st_getfield q7_39
theorem x7_39 {L : pj_Loc} {st : List Value} {N S : Nat} {H : pj_Heap} {o : Nat} {o9 : Option Value × pj_Mem} : pj_Ends 7 (39, L, .ref o :: st, (N, S, H)) o9 = pj_then 7 o9 (pj_pv 42 L st (N, S, H) (pj_fld (H o) 5 0)) := pj_xt q7_39 rfl (pj_cl_nc rfl) (s7_39)
theorem q7_42 : pj_row 7 42 = some (.getfield 58, 3, 4, 0, 0) := by decide +kernel
theorem s7_42 {L : pj_Loc} {st : List Value} {N S : Nat} {H : pj_Heap} {o : Nat} : pj_step 7 (42, L, .ref o :: st, (N, S, H)) = pj_pv 45 L st (N, S, H) (pj_fld (H o) 4 0) := st_getfield q7_42
theorem x7_42 {L : pj_Loc} {st : List Value} {N S : Nat} {H : pj_Heap} {o : Nat} {o9 : Option Value × pj_Mem} : pj_Ends 7 (42, L, .ref o :: st, (N, S, H)) o9 = pj_then 7 o9 (pj_pv 45 L st (N, S, H) (pj_fld (H o) 4 0)) := pj_xt q7_42 rfl (pj_cl_nc rfl) (s7_42)
theorem q7_45 : pj_row 7 45 = some (.iload_n 1, 1, 0, 0, 0) := by decide +kernel
theorem s7_45 {st : List Value} {M : pj_Mem} {l : pj_Loc} {a0 : Option Value} {x : Int32} : pj_step 7 (45, a0 :: some (.int x) :: l, st, M) = some (46, a0 :: some (.int x) :: l, .int x :: st, M) := st_iload_n q7_45 rfl
theorem x7_45 {st : List Value} {M : pj_Mem} {l : pj_Loc} {a0 : Option Value} {x : Int32} {o9 : Option Value × pj_Mem} : pj_Ends 7 (45, a0 :: some (.int x) :: l, st, M) o9 = pj_Ends 7 (46, a0 :: some (.int x) :: l, .int x :: st, M) o9 := pj_xs (s7_45)
theorem q7_46 : pj_row 7 46 = some (.iaload, 1, 0, 0, 0) := by decide +kernel
theorem s7_46 {L : pj_Loc} {st : List Value} {N S : Nat} {H : pj_Heap} {o : Nat} {i : Int32} : pj_step 7 (46, L, .int i :: .ref o :: st, (N, S, H)) = pj_pi 47 L st (N, S, H) (pj_arl (H o) 0 i) := st_iaload q7_46
theorem x7_46 {L : pj_Loc} {st : List Value} {N S : Nat} {H : pj_Heap} {o : Nat} {i : Int32} {o9 : Option Value × pj_Mem} : pj_Ends 7 (46, L, .int i :: .ref o :: st, (N, S, H)) o9 = pj_then 7 o9 (pj_pi 47 L st (N, S, H) (pj_arl (H o) 0 i)) := pj_xt q7_46 rfl (pj_cl_nc rfl) (s7_46)
theorem q7_47 : pj_row 7 47 = some (.istore_n 3, 1, 0, 0, 0) := by decide +kernel
theorem s7_47 {st : List Value} {M : pj_Mem} {l : pj_Loc} {a0 a1 a2 a3 : Option Value} {x : Int32} (h : pj_long a2 = false) : pj_step 7 (47, a0 :: a1 :: a2 :: a3 :: l, .int x :: st, M) = some (48, a0 :: a1 :: a2 :: some (.int x) :: l, st, M) := st_istore_n q7_47 (pj_st_3 h)
theorem x7_47 {st : List Value} {M : pj_Mem} {l : pj_Loc} {a0 a1 a2 a3 : Option Value} {x : Int32} (h : pj_long a2 = false) {o9 : Option Value × pj_Mem} : pj_Ends 7 (47, a0 :: a1 :: a2 :: a3 :: l, .int x :: st, M) o9 = pj_Ends 7 (48, a0 :: a1 :: a2 :: some (.int x) :: l, st, M) o9 := pj_xs (s7_47 h)
theorem q7_48 : pj_row 7 48 = some (.aload_n 0, 1, 0, 0, 0) := by decide +kernel
theorem s7_48 {st : List Value} {M : pj_Mem} {l : pj_Loc} {x : Nat} : pj_step 7 (48, some (.ref x) :: l, st, M) = some (49, some (.ref x) :: l, .ref x :: st, M) := st_aload_n q7_48 rfl
theorem x7_48 {st : List Value} {M : pj_Mem} {l : pj_Loc} {x : Nat} {o9 : Option Value × pj_Mem} : pj_Ends 7 (48, some (.ref x) :: l, st, M) o9 = pj_Ends 7 (49, some (.ref x) :: l, .ref x :: st, M) o9 := pj_xs (s7_48)
theorem q7_49 : pj_row 7 49 = some (.getfield 10, 3, 5, 0, 0) := by decide +kernel
theorem s7_49 {L : pj_Loc} {st : List Value} {N S : Nat} {H : pj_Heap} {o : Nat} : pj_step 7 (49, L, .ref o :: st, (N, S, H)) = pj_pv 52 L st (N, S, H) (pj_fld (H o) 5 0) := st_getfield q7_49
theorem x7_49 {L : pj_Loc} {st : List Value} {N S : Nat} {H : pj_Heap} {o : Nat} {o9 : Option Value × pj_Mem} : pj_Ends 7 (49, L, .ref o :: st, (N, S, H)) o9 = pj_then 7 o9 (pj_pv 52 L st (N, S, H) (pj_fld (H o) 5 0)) := pj_xt q7_49 rfl (pj_cl_nc rfl) (s7_49)
theorem q7_52 : pj_row 7 52 = some (.getfield 58, 3, 4, 0, 0) := by decide +kernel
theorem s7_52 {L : pj_Loc} {st : List Value} {N S : Nat} {H : pj_Heap} {o : Nat} : pj_step 7 (52, L, .ref o :: st, (N, S, H)) = pj_pv 55 L st (N, S, H) (pj_fld (H o) 4 0) := st_getfield q7_52
theorem x7_52 {L : pj_Loc} {st : List Value} {N S : Nat} {H : pj_Heap} {o : Nat} {o9 : Option Value × pj_Mem} : pj_Ends 7 (52, L, .ref o :: st, (N, S, H)) o9 = pj_then 7 o9 (pj_pv 55 L st (N, S, H) (pj_fld (H o) 4 0)) := pj_xt q7_52 rfl (pj_cl_nc rfl) (s7_52)
theorem q7_55 : pj_row 7 55 = some (.iload_n 1, 1, 0, 0, 0) := by decide +kernel
theorem s7_55 {st : List Value} {M : pj_Mem} {l : pj_Loc} {a0 : Option Value} {x : Int32} : pj_step 7 (55, a0 :: some (.int x) :: l, st, M) = some (56, a0 :: some (.int x) :: l, .int x :: st, M) := st_iload_n q7_55 rfl
theorem x7_55 {st : List Value} {M : pj_Mem} {l : pj_Loc} {a0 : Option Value} {x : Int32} {o9 : Option Value × pj_Mem} : pj_Ends 7 (55, a0 :: some (.int x) :: l, st, M) o9 = pj_Ends 7 (56, a0 :: some (.int x) :: l, .int x :: st, M) o9 := pj_xs (s7_55)
theorem q7_56 : pj_row 7 56 = some (.iload_n 2, 1, 0, 0, 0) := by decide +kernel
theorem s7_56 {st : List Value} {M : pj_Mem} {l : pj_Loc} {a0 a1 : Option Value} {x : Int32} : pj_step 7 (56, a0 :: a1 :: some (.int x) :: l, st, M) = some (57, a0 :: a1 :: some (.int x) :: l, .int x :: st, M) := st_iload_n q7_56 rfl
theorem x7_56 {st : List Value} {M : pj_Mem} {l : pj_Loc} {a0 a1 : Option Value} {x : Int32} {o9 : Option Value × pj_Mem} : pj_Ends 7 (56, a0 :: a1 :: some (.int x) :: l, st, M) o9 = pj_Ends 7 (57, a0 :: a1 :: some (.int x) :: l, .int x :: st, M) o9 := pj_xs (s7_56)
theorem q7_57 : pj_row 7 57 = some (.iastore, 1, 0, 0, 0) := by decide +kernel
theorem s7_57 {L : pj_Loc} {st : List Value} {N S : Nat} {H : pj_Heap} {o : Nat} {i x : Int32} : pj_step 7 (57, L, .int x :: .int i :: .ref o :: st, (N, S, H)) = pj_set 58 L st (N, S, H) o (pj_ars (H o) 0 i x) := st_iastore q7_57
theorem x7_57 {L : pj_Loc} {st : List Value} {N S : Nat} {H : pj_Heap} {o : Nat} {i x : Int32} {o9 : Option Value × pj_Mem} : pj_Ends 7 (57, L, .int x :: .int i :: .ref o :: st, (N, S, H)) o9 = pj_then 7 o9 (pj_set 58 L st (N, S, H) o (pj_ars (H o) 0 i x)) := pj_xt q7_57 rfl (pj_cl_nc rfl) (s7_57)
theorem q7_58 : pj_row 7 58 = some (.iload_n 3, 1, 0, 0, 0) := by decide +kernel
theorem s7_58 {st : List Value} {M : pj_Mem} {l : pj_Loc} {a0 a1 a2 : Option Value} {x : Int32} : pj_step 7 (58, a0 :: a1 :: a2 :: some (.int x) :: l, st, M) = some (59, a0 :: a1 :: a2 :: some (.int x) :: l, .int x :: st, M) := st_iload_n q7_58 rfl
theorem x7_58 {st : List Value} {M : pj_Mem} {l : pj_Loc} {a0 a1 a2 : Option Value} {x : Int32} {o9 : Option Value × pj_Mem} : pj_Ends 7 (58, a0 :: a1 :: a2 :: some (.int x) :: l, st, M) o9 = pj_Ends 7 (59, a0 :: a1 :: a2 :: some (.int x) :: l, .int x :: st, M) o9 := pj_xs (s7_58)
theorem q7_59 : pj_row 7 59 = some (.ireturn, 1, 0, 0, 0) := by decide +kernel
theorem t7_59 {L : pj_Loc} {M : pj_Mem} {v : Int32} : pj_Ends 7 (59, L, [.int v], M) (some (.int v), M) := pj_Ends.ret q7_59 (pj_rtn_i rt7)
theorem rt8 : pj_rt 8 = none := rfl
theorem q8_0 : pj_row 8 0 = some (.aload_n 0, 1, 0, 0, 0) := by decide +kernel
theorem s8_0 {st : List Value} {M : pj_Mem} {l : pj_Loc} {x : Nat} : pj_step 8 (0, some (.ref x) :: l, st, M) = some (1, some (.ref x) :: l, .ref x :: st, M) := st_aload_n q8_0 rfl
theorem x8_0 {st : List Value} {M : pj_Mem} {l : pj_Loc} {x : Nat} {o9 : Option Value × pj_Mem} : pj_Ends 8 (0, some (.ref x) :: l, st, M) o9 = pj_Ends 8 (1, some (.ref x) :: l, .ref x :: st, M) o9 := pj_xs (s8_0)
theorem q8_1 : pj_row 8 1 = some (.getfield 148, 3, 5, 5, 0) := by decide +kernel
theorem s8_1 {L : pj_Loc} {st : List Value} {N S : Nat} {H : pj_Heap} {o : Nat} : pj_step 8 (1, L, .ref o :: st, (N, S, H)) = pj_pv 4 L st (N, S, H) (pj_fld (H o) 5 5) := st_getfield q8_1
theorem x8_1 {L : pj_Loc} {st : List Value} {N S : Nat} {H : pj_Heap} {o : Nat} {o9 : Option Value × pj_Mem} : pj_Ends 8 (1, L, .ref o :: st, (N, S, H)) o9 = pj_then 8 o9 (pj_pv 4 L st (N, S, H) (pj_fld (H o) 5 5)) := pj_xt q8_1 rfl (pj_cl_nc rfl) (s8_1)
theorem q8_4 : pj_row 8 4 = some (.bipush 6, 2, 0, 0, 0) := by decide +kernel
theorem s8_4 {L : pj_Loc} {st : List Value} {M : pj_Mem}  : pj_step 8 (4, L, st, M) = some (6, L, .int 6 :: st, M) := st_bipush q8_4 (by decide +kernel)
theorem x8_4 {L : pj_Loc} {st : List Value} {M : pj_Mem}  {o9 : Option Value × pj_Mem} : pj_Ends 8 (4, L, st, M) o9 = pj_Ends 8 (6, L, .int 6 :: st, M) o9 := pj_xs (s8_4)
theorem q8_6 : pj_row 8 6 = some (.if_icmp .lt 50, 3, 56, 0, 0) := by decide +kernel
theorem s8_6 {L : pj_Loc} {st : List Value} {M : pj_Mem} {x y : Int32} : pj_step 8 (6, L, .int y :: .int x :: st, M) = some (if x < y then 56 else 9, L, st, M) := st_icmp_lt q8_6
theorem x8_6 {L : pj_Loc} {st : List Value} {M : pj_Mem} {x y : Int32} {o9 : Option Value × pj_Mem} : pj_Ends 8 (6, L, .int y :: .int x :: st, M) o9 = pj_Ends 8 (if x < y then 56 else 9, L, st, M) o9 := pj_xs (s8_6)
theorem q8_9 : pj_row 8 9 = some (.aload_n 0, 1, 0, 0, 0) := by decide +kernel
theorem s8_9 {st : List Value} {M : pj_Mem} {l : pj_Loc} {x : Nat} : pj_step 8 (9, some (.ref x) :: l, st, M) = some (10, some (.ref x) :: l, .ref x :: st, M) := st_aload_n q8_9 rfl
theorem x8_9 {st : List Value} {M : pj_Mem} {l : pj_Loc} {x : Nat} {o9 : Option Value × pj_Mem} : pj_Ends 8 (9, some (.ref x) :: l, st, M) o9 = pj_Ends 8 (10, some (.ref x) :: l, .ref x :: st, M) o9 := pj_xs (s8_9)
theorem q8_10 : pj_row 8 10 = some (.getfield 37, 3, 5, 4, 0) := by decide +kernel
theorem s8_10 {L : pj_Loc} {st : List Value} {N S : Nat} {H : pj_Heap} {o : Nat} : pj_step 8 (10, L, .ref o :: st, (N, S, H)) = pj_pv 13 L st (N, S, H) (pj_fld (H o) 5 4) := st_getfield q8_10
theorem x8_10 {L : pj_Loc} {st : List Value} {N S : Nat} {H : pj_Heap} {o : Nat} {o9 : Option Value × pj_Mem} : pj_Ends 8 (10, L, .ref o :: st, (N, S, H)) o9 = pj_then 8 o9 (pj_pv 13 L st (N, S, H) (pj_fld (H o) 5 4)) := pj_xt q8_10 rfl (pj_cl_nc rfl) (s8_10)
theorem q8_13 : pj_row 8 13 = some (.iconst 0, 1, 0, 0, 0) := by decide +kernel
theorem s8_13 {L : pj_Loc} {st : List Value} {M : pj_Mem}  : pj_step 8 (13, L, st, M) = some (14, L, .int 0 :: st, M) := st_iconst q8_13 (by decide +kernel)
theorem x8_13 {L : pj_Loc} {st : List Value} {M : pj_Mem}  {o9 : Option Value × pj_Mem} : pj_Ends 8 (13, L, st, M) o9 = pj_Ends 8 (14, L, .int 0 :: st, M) o9 := pj_xs (s8_13)
theorem q8_14 : pj_row 8 14 = some (.aaload, 1, 0, 0, 0) := by decide +kernel
theorem s8_14 {L : pj_Loc} {st : List Value} {N S : Nat} {H : pj_Heap} {o : Nat} {i : Int32} : pj_step 8 (14, L, .int i :: .ref o :: st, (N, S, H)) = pj_pv 15 L st (N, S, H) (pj_qrl (H o) i) := st_aaload q8_14
theorem x8_14 {L : pj_Loc} {st : List Value} {N S : Nat} {H : pj_Heap} {o : Nat} {i : Int32} {o9 : Option Value × pj_Mem} : pj_Ends 8 (14, L, .int i :: .ref o :: st, (N, S, H)) o9 = pj_then 8 o9 (pj_pv 15 L st (N, S, H) (pj_qrl (H o) i)) := pj_xt q8_14 rfl (pj_cl_nc rfl) (s8_14)
theorem q8_15 : pj_row 8 15 = some (.astore_n 1, 1, 0, 0, 0) := by decide +kernel
theorem s8_15 {st : List Value} {M : pj_Mem} {l : pj_Loc} {a0 a1 : Option Value} {x : Nat} (h : pj_long a0 = false) : pj_step 8 (15, a0 :: a1 :: l, .ref x :: st, M) = some (16, a0 :: some (.ref x) :: l, st, M) := st_astore_n q8_15 (pj_st_1 h)
theorem x8_15 {st : List Value} {M : pj_Mem} {l : pj_Loc} {a0 a1 : Option Value} {x : Nat} (h : pj_long a0 = false) {o9 : Option Value × pj_Mem} : pj_Ends 8 (15, a0 :: a1 :: l, .ref x :: st, M) o9 = pj_Ends 8 (16, a0 :: some (.ref x) :: l, st, M) o9 := pj_xs (s8_15 h)
theorem q8_16 : pj_row 8 16 = some (.iconst 1, 1, 0, 0, 0) := by decide +kernel
theorem s8_16 {L : pj_Loc} {st : List Value} {M : pj_Mem}  : pj_step 8 (16, L, st, M) = some (17, L, .int 1 :: st, M) := st_iconst q8_16 (by decide +kernel)
theorem x8_16 {L : pj_Loc} {st : List Value} {M : pj_Mem}  {o9 : Option Value × pj_Mem} : pj_Ends 8 (16, L, st, M) o9 = pj_Ends 8 (17, L, .int 1 :: st, M) o9 := pj_xs (s8_16)
theorem q8_17 : pj_row 8 17 = some (.istore_n 2, 1, 0, 0, 0) := by decide +kernel
theorem s8_17 {st : List Value} {M : pj_Mem} {l : pj_Loc} {a0 a1 a2 : Option Value} {x : Int32} (h : pj_long a1 = false) : pj_step 8 (17, a0 :: a1 :: a2 :: l, .int x :: st, M) = some (18, a0 :: a1 :: some (.int x) :: l, st, M) := st_istore_n q8_17 (pj_st_2 h)
theorem x8_17 {st : List Value} {M : pj_Mem} {l : pj_Loc} {a0 a1 a2 : Option Value} {x : Int32} (h : pj_long a1 = false) {o9 : Option Value × pj_Mem} : pj_Ends 8 (17, a0 :: a1 :: a2 :: l, .int x :: st, M) o9 = pj_Ends 8 (18, a0 :: a1 :: some (.int x) :: l, st, M) o9 := pj_xs (s8_17 h)
theorem q8_18 : pj_row 8 18 = some (.iload_n 2, 1, 0, 0, 0) := by decide +kernel
theorem s8_18 {st : List Value} {M : pj_Mem} {l : pj_Loc} {a0 a1 : Option Value} {x : Int32} : pj_step 8 (18, a0 :: a1 :: some (.int x) :: l, st, M) = some (19, a0 :: a1 :: some (.int x) :: l, .int x :: st, M) := st_iload_n q8_18 rfl
theorem x8_18 {st : List Value} {M : pj_Mem} {l : pj_Loc} {a0 a1 : Option Value} {x : Int32} {o9 : Option Value × pj_Mem} : pj_Ends 8 (18, a0 :: a1 :: some (.int x) :: l, st, M) o9 = pj_Ends 8 (19, a0 :: a1 :: some (.int x) :: l, .int x :: st, M) o9 := pj_xs (s8_18)
theorem q8_19 : pj_row 8 19 = some (.bipush 6, 2, 0, 0, 0) := by decide +kernel
theorem s8_19 {L : pj_Loc} {st : List Value} {M : pj_Mem}  : pj_step 8 (19, L, st, M) = some (21, L, .int 6 :: st, M) := st_bipush q8_19 (by decide +kernel)
theorem x8_19 {L : pj_Loc} {st : List Value} {M : pj_Mem}  {o9 : Option Value × pj_Mem} : pj_Ends 8 (19, L, st, M) o9 = pj_Ends 8 (21, L, .int 6 :: st, M) o9 := pj_xs (s8_19)
theorem q8_21 : pj_row 8 21 = some (.if_icmp .ge 23, 3, 44, 0, 0) := by decide +kernel
theorem s8_21 {L : pj_Loc} {st : List Value} {M : pj_Mem} {x y : Int32} : pj_step 8 (21, L, .int y :: .int x :: st, M) = some (if y ≤ x then 44 else 24, L, st, M) := st_icmp_ge q8_21
theorem x8_21 {L : pj_Loc} {st : List Value} {M : pj_Mem} {x y : Int32} {o9 : Option Value × pj_Mem} : pj_Ends 8 (21, L, .int y :: .int x :: st, M) o9 = pj_Ends 8 (if y ≤ x then 44 else 24, L, st, M) o9 := pj_xs (s8_21)
theorem q8_24 : pj_row 8 24 = some (.aload_n 0, 1, 0, 0, 0) := by decide +kernel
theorem s8_24 {st : List Value} {M : pj_Mem} {l : pj_Loc} {x : Nat} : pj_step 8 (24, some (.ref x) :: l, st, M) = some (25, some (.ref x) :: l, .ref x :: st, M) := st_aload_n q8_24 rfl
theorem x8_24 {st : List Value} {M : pj_Mem} {l : pj_Loc} {x : Nat} {o9 : Option Value × pj_Mem} : pj_Ends 8 (24, some (.ref x) :: l, st, M) o9 = pj_Ends 8 (25, some (.ref x) :: l, .ref x :: st, M) o9 := pj_xs (s8_24)
theorem q8_25 : pj_row 8 25 = some (.getfield 37, 3, 5, 4, 0) := by decide +kernel
theorem s8_25 {L : pj_Loc} {st : List Value} {N S : Nat} {H : pj_Heap} {o : Nat} : pj_step 8 (25, L, .ref o :: st, (N, S, H)) = pj_pv 28 L st (N, S, H) (pj_fld (H o) 5 4) := st_getfield q8_25
theorem x8_25 {L : pj_Loc} {st : List Value} {N S : Nat} {H : pj_Heap} {o : Nat} {o9 : Option Value × pj_Mem} : pj_Ends 8 (25, L, .ref o :: st, (N, S, H)) o9 = pj_then 8 o9 (pj_pv 28 L st (N, S, H) (pj_fld (H o) 5 4)) := pj_xt q8_25 rfl (pj_cl_nc rfl) (s8_25)
theorem q8_28 : pj_row 8 28 = some (.iload_n 2, 1, 0, 0, 0) := by decide +kernel
theorem s8_28 {st : List Value} {M : pj_Mem} {l : pj_Loc} {a0 a1 : Option Value} {x : Int32} : pj_step 8 (28, a0 :: a1 :: some (.int x) :: l, st, M) = some (29, a0 :: a1 :: some (.int x) :: l, .int x :: st, M) := st_iload_n q8_28 rfl
theorem x8_28 {st : List Value} {M : pj_Mem} {l : pj_Loc} {a0 a1 : Option Value} {x : Int32} {o9 : Option Value × pj_Mem} : pj_Ends 8 (28, a0 :: a1 :: some (.int x) :: l, st, M) o9 = pj_Ends 8 (29, a0 :: a1 :: some (.int x) :: l, .int x :: st, M) o9 := pj_xs (s8_28)
theorem q8_29 : pj_row 8 29 = some (.iconst 1, 1, 0, 0, 0) := by decide +kernel
theorem s8_29 {L : pj_Loc} {st : List Value} {M : pj_Mem}  : pj_step 8 (29, L, st, M) = some (30, L, .int 1 :: st, M) := st_iconst q8_29 (by decide +kernel)
theorem x8_29 {L : pj_Loc} {st : List Value} {M : pj_Mem}  {o9 : Option Value × pj_Mem} : pj_Ends 8 (29, L, st, M) o9 = pj_Ends 8 (30, L, .int 1 :: st, M) o9 := pj_xs (s8_29)
theorem q8_30 : pj_row 8 30 = some (.isub, 1, 0, 0, 0) := by decide +kernel
theorem s8_30 {L : pj_Loc} {st : List Value} {M : pj_Mem} {x y : Int32} : pj_step 8 (30, L, .int y :: .int x :: st, M) = some (31, L, .int (x - y) :: st, M) := st_isub q8_30
theorem x8_30 {L : pj_Loc} {st : List Value} {M : pj_Mem} {x y : Int32} {o9 : Option Value × pj_Mem} : pj_Ends 8 (30, L, .int y :: .int x :: st, M) o9 = pj_Ends 8 (31, L, .int (x - y) :: st, M) o9 := pj_xs (s8_30)
theorem q8_31 : pj_row 8 31 = some (.aload_n 0, 1, 0, 0, 0) := by decide +kernel
theorem s8_31 {st : List Value} {M : pj_Mem} {l : pj_Loc} {x : Nat} : pj_step 8 (31, some (.ref x) :: l, st, M) = some (32, some (.ref x) :: l, .ref x :: st, M) := st_aload_n q8_31 rfl
theorem x8_31 {st : List Value} {M : pj_Mem} {l : pj_Loc} {x : Nat} {o9 : Option Value × pj_Mem} : pj_Ends 8 (31, some (.ref x) :: l, st, M) o9 = pj_Ends 8 (32, some (.ref x) :: l, .ref x :: st, M) o9 := pj_xs (s8_31)
theorem q8_32 : pj_row 8 32 = some (.getfield 37, 3, 5, 4, 0) := by decide +kernel
theorem s8_32 {L : pj_Loc} {st : List Value} {N S : Nat} {H : pj_Heap} {o : Nat} : pj_step 8 (32, L, .ref o :: st, (N, S, H)) = pj_pv 35 L st (N, S, H) (pj_fld (H o) 5 4) := st_getfield q8_32
theorem x8_32 {L : pj_Loc} {st : List Value} {N S : Nat} {H : pj_Heap} {o : Nat} {o9 : Option Value × pj_Mem} : pj_Ends 8 (32, L, .ref o :: st, (N, S, H)) o9 = pj_then 8 o9 (pj_pv 35 L st (N, S, H) (pj_fld (H o) 5 4)) := pj_xt q8_32 rfl (pj_cl_nc rfl) (s8_32)
theorem q8_35 : pj_row 8 35 = some (.iload_n 2, 1, 0, 0, 0) := by decide +kernel
theorem s8_35 {st : List Value} {M : pj_Mem} {l : pj_Loc} {a0 a1 : Option Value} {x : Int32} : pj_step 8 (35, a0 :: a1 :: some (.int x) :: l, st, M) = some (36, a0 :: a1 :: some (.int x) :: l, .int x :: st, M) := st_iload_n q8_35 rfl
theorem x8_35 {st : List Value} {M : pj_Mem} {l : pj_Loc} {a0 a1 : Option Value} {x : Int32} {o9 : Option Value × pj_Mem} : pj_Ends 8 (35, a0 :: a1 :: some (.int x) :: l, st, M) o9 = pj_Ends 8 (36, a0 :: a1 :: some (.int x) :: l, .int x :: st, M) o9 := pj_xs (s8_35)
theorem q8_36 : pj_row 8 36 = some (.aaload, 1, 0, 0, 0) := by decide +kernel
theorem s8_36 {L : pj_Loc} {st : List Value} {N S : Nat} {H : pj_Heap} {o : Nat} {i : Int32} : pj_step 8 (36, L, .int i :: .ref o :: st, (N, S, H)) = pj_pv 37 L st (N, S, H) (pj_qrl (H o) i) := st_aaload q8_36
theorem x8_36 {L : pj_Loc} {st : List Value} {N S : Nat} {H : pj_Heap} {o : Nat} {i : Int32} {o9 : Option Value × pj_Mem} : pj_Ends 8 (36, L, .int i :: .ref o :: st, (N, S, H)) o9 = pj_then 8 o9 (pj_pv 37 L st (N, S, H) (pj_qrl (H o) i)) := pj_xt q8_36 rfl (pj_cl_nc rfl) (s8_36)
theorem q8_37 : pj_row 8 37 = some (.aastore, 1, 0, 0, 0) := by decide +kernel
theorem s8_37 {L : pj_Loc} {st : List Value} {N S : Nat} {H : pj_Heap} {o x : Nat} {i : Int32} (hx : pj_isU 4 (H x) = true) : pj_step 8 (37, L, .ref x :: .int i :: .ref o :: st, (N, S, H)) = pj_set 38 L st (N, S, H) o (pj_qrs (H o) i x) := st_aastore q8_37 hx
theorem x8_37 {L : pj_Loc} {st : List Value} {N S : Nat} {H : pj_Heap} {o x : Nat} {i : Int32} (hx : pj_isU 4 (H x) = true) {o9 : Option Value × pj_Mem} : pj_Ends 8 (37, L, .ref x :: .int i :: .ref o :: st, (N, S, H)) o9 = pj_then 8 o9 (pj_set 38 L st (N, S, H) o (pj_qrs (H o) i x)) := pj_xt q8_37 rfl (pj_cl_nc rfl) (s8_37 hx)
theorem q8_38 : pj_row 8 38 = some (.iinc 2 1, 3, 0, 0, 0) := by decide +kernel
theorem s8_38 {st : List Value} {M : pj_Mem} {l : pj_Loc} {a0 a1 : Option Value} {x : Int32} (h : pj_long a1 = false) : pj_step 8 (38, a0 :: a1 :: some (.int x) :: l, st, M) = some (41, a0 :: a1 :: some (.int (x + 1)) :: l, st, M) := st_iinc q8_38 rfl (congrArg (fun y => x + y) (show Int32.ofInt 1 = 1 by decide +kernel)) (pj_st_2 h)
theorem x8_38 {st : List Value} {M : pj_Mem} {l : pj_Loc} {a0 a1 : Option Value} {x : Int32} (h : pj_long a1 = false) {o9 : Option Value × pj_Mem} : pj_Ends 8 (38, a0 :: a1 :: some (.int x) :: l, st, M) o9 = pj_Ends 8 (41, a0 :: a1 :: some (.int (x + 1)) :: l, st, M) o9 := pj_xs (s8_38 h)
theorem q8_41 : pj_row 8 41 = some (.goto (-23), 3, 18, 0, 0) := by decide +kernel
theorem s8_41 {L : pj_Loc} {st : List Value} {M : pj_Mem}  : pj_step 8 (41, L, st, M) = some (18, L, st, M) := st_goto q8_41
theorem x8_41 {L : pj_Loc} {st : List Value} {M : pj_Mem}  {o9 : Option Value × pj_Mem} : pj_Ends 8 (41, L, st, M) o9 = pj_Ends 8 (18, L, st, M) o9 := pj_xs (s8_41)
theorem q8_44 : pj_row 8 44 = some (.aload_n 0, 1, 0, 0, 0) := by decide +kernel
theorem s8_44 {st : List Value} {M : pj_Mem} {l : pj_Loc} {x : Nat} : pj_step 8 (44, some (.ref x) :: l, st, M) = some (45, some (.ref x) :: l, .ref x :: st, M) := st_aload_n q8_44 rfl
theorem x8_44 {st : List Value} {M : pj_Mem} {l : pj_Loc} {x : Nat} {o9 : Option Value × pj_Mem} : pj_Ends 8 (44, some (.ref x) :: l, st, M) o9 = pj_Ends 8 (45, some (.ref x) :: l, .ref x :: st, M) o9 := pj_xs (s8_44)
theorem q8_45 : pj_row 8 45 = some (.getfield 37, 3, 5, 4, 0) := by decide +kernel
theorem s8_45 {L : pj_Loc} {st : List Value} {N S : Nat} {H : pj_Heap} {o : Nat} : pj_step 8 (45, L, .ref o :: st, (N, S, H)) = pj_pv 48 L st (N, S, H) (pj_fld (H o) 5 4) := st_getfield q8_45
theorem x8_45 {L : pj_Loc} {st : List Value} {N S : Nat} {H : pj_Heap} {o : Nat} {o9 : Option Value × pj_Mem} : pj_Ends 8 (45, L, .ref o :: st, (N, S, H)) o9 = pj_then 8 o9 (pj_pv 48 L st (N, S, H) (pj_fld (H o) 5 4)) := pj_xt q8_45 rfl (pj_cl_nc rfl) (s8_45)
theorem q8_48 : pj_row 8 48 = some (.iconst 5, 1, 0, 0, 0) := by decide +kernel
theorem s8_48 {L : pj_Loc} {st : List Value} {M : pj_Mem}  : pj_step 8 (48, L, st, M) = some (49, L, .int 5 :: st, M) := st_iconst q8_48 (by decide +kernel)
theorem x8_48 {L : pj_Loc} {st : List Value} {M : pj_Mem}  {o9 : Option Value × pj_Mem} : pj_Ends 8 (48, L, st, M) o9 = pj_Ends 8 (49, L, .int 5 :: st, M) o9 := pj_xs (s8_48)
theorem q8_49 : pj_row 8 49 = some (.aload_n 1, 1, 0, 0, 0) := by decide +kernel
theorem s8_49 {st : List Value} {M : pj_Mem} {l : pj_Loc} {a0 : Option Value} {x : Nat} : pj_step 8 (49, a0 :: some (.ref x) :: l, st, M) = some (50, a0 :: some (.ref x) :: l, .ref x :: st, M) := st_aload_n q8_49 rfl
theorem x8_49 {st : List Value} {M : pj_Mem} {l : pj_Loc} {a0 : Option Value} {x : Nat} {o9 : Option Value × pj_Mem} : pj_Ends 8 (49, a0 :: some (.ref x) :: l, st, M) o9 = pj_Ends 8 (50, a0 :: some (.ref x) :: l, .ref x :: st, M) o9 := pj_xs (s8_49)
theorem q8_50 : pj_row 8 50 = some (.aastore, 1, 0, 0, 0) := by decide +kernel
theorem s8_50 {L : pj_Loc} {st : List Value} {N S : Nat} {H : pj_Heap} {o x : Nat} {i : Int32} (hx : pj_isU 4 (H x) = true) : pj_step 8 (50, L, .ref x :: .int i :: .ref o :: st, (N, S, H)) = pj_set 51 L st (N, S, H) o (pj_qrs (H o) i x) := st_aastore q8_50 hx
theorem x8_50 {L : pj_Loc} {st : List Value} {N S : Nat} {H : pj_Heap} {o x : Nat} {i : Int32} (hx : pj_isU 4 (H x) = true) {o9 : Option Value × pj_Mem} : pj_Ends 8 (50, L, .ref x :: .int i :: .ref o :: st, (N, S, H)) o9 = pj_then 8 o9 (pj_set 51 L st (N, S, H) o (pj_qrs (H o) i x)) := pj_xt q8_50 rfl (pj_cl_nc rfl) (s8_50 hx)
theorem q8_51 : pj_row 8 51 = some (.aload_n 0, 1, 0, 0, 0) := by decide +kernel
theorem s8_51 {st : List Value} {M : pj_Mem} {l : pj_Loc} {x : Nat} : pj_step 8 (51, some (.ref x) :: l, st, M) = some (52, some (.ref x) :: l, .ref x :: st, M) := st_aload_n q8_51 rfl
theorem x8_51 {st : List Value} {M : pj_Mem} {l : pj_Loc} {x : Nat} {o9 : Option Value × pj_Mem} : pj_Ends 8 (51, some (.ref x) :: l, st, M) o9 = pj_Ends 8 (52, some (.ref x) :: l, .ref x :: st, M) o9 := pj_xs (s8_51)
theorem q8_52 : pj_row 8 52 = some (.iconst 5, 1, 0, 0, 0) := by decide +kernel
theorem s8_52 {L : pj_Loc} {st : List Value} {M : pj_Mem}  : pj_step 8 (52, L, st, M) = some (53, L, .int 5 :: st, M) := st_iconst q8_52 (by decide +kernel)
theorem x8_52 {L : pj_Loc} {st : List Value} {M : pj_Mem}  {o9 : Option Value × pj_Mem} : pj_Ends 8 (52, L, st, M) o9 = pj_Ends 8 (53, L, .int 5 :: st, M) o9 := pj_xs (s8_52)
theorem q8_53 : pj_row 8 53 = some (.putfield 148, 3, 5, 5, 0) := by decide +kernel
theorem s8_53 {L : pj_Loc} {st : List Value} {N S : Nat} {H : pj_Heap} {o : Nat} {v : Value} : pj_step 8 (53, L, v :: .ref o :: st, (N, S, H)) = pj_set 56 L st (N, S, H) o (pj_fset (H o) 5 5 v) := st_putfield q8_53
theorem x8_53 {L : pj_Loc} {st : List Value} {N S : Nat} {H : pj_Heap} {o : Nat} {v : Value} {o9 : Option Value × pj_Mem} : pj_Ends 8 (53, L, v :: .ref o :: st, (N, S, H)) o9 = pj_then 8 o9 (pj_set 56 L st (N, S, H) o (pj_fset (H o) 5 5 v)) := pj_xt q8_53 rfl (pj_cl_nc rfl) (s8_53)
theorem q8_56 : pj_row 8 56 = some (.aload_n 0, 1, 0, 0, 0) := by decide +kernel
theorem s8_56 {st : List Value} {M : pj_Mem} {l : pj_Loc} {x : Nat} : pj_step 8 (56, some (.ref x) :: l, st, M) = some (57, some (.ref x) :: l, .ref x :: st, M) := st_aload_n q8_56 rfl
theorem x8_56 {st : List Value} {M : pj_Mem} {l : pj_Loc} {x : Nat} {o9 : Option Value × pj_Mem} : pj_Ends 8 (56, some (.ref x) :: l, st, M) o9 = pj_Ends 8 (57, some (.ref x) :: l, .ref x :: st, M) o9 := pj_xs (s8_56)
theorem q8_57 : pj_row 8 57 = some (.getfield 37, 3, 5, 4, 0) := by decide +kernel
theorem s8_57 {L : pj_Loc} {st : List Value} {N S : Nat} {H : pj_Heap} {o : Nat} : pj_step 8 (57, L, .ref o :: st, (N, S, H)) = pj_pv 60 L st (N, S, H) (pj_fld (H o) 5 4) := st_getfield q8_57
theorem x8_57 {L : pj_Loc} {st : List Value} {N S : Nat} {H : pj_Heap} {o : Nat} {o9 : Option Value × pj_Mem} : pj_Ends 8 (57, L, .ref o :: st, (N, S, H)) o9 = pj_then 8 o9 (pj_pv 60 L st (N, S, H) (pj_fld (H o) 5 4)) := pj_xt q8_57 rfl (pj_cl_nc rfl) (s8_57)
theorem q8_60 : pj_row 8 60 = some (.aload_n 0, 1, 0, 0, 0) := by decide +kernel
theorem s8_60 {st : List Value} {M : pj_Mem} {l : pj_Loc} {x : Nat} : pj_step 8 (60, some (.ref x) :: l, st, M) = some (61, some (.ref x) :: l, .ref x :: st, M) := st_aload_n q8_60 rfl
theorem x8_60 {st : List Value} {M : pj_Mem} {l : pj_Loc} {x : Nat} {o9 : Option Value × pj_Mem} : pj_Ends 8 (60, some (.ref x) :: l, st, M) o9 = pj_Ends 8 (61, some (.ref x) :: l, .ref x :: st, M) o9 := pj_xs (s8_60)
theorem q8_61 : pj_row 8 61 = some (.getfield 148, 3, 5, 5, 0) := by decide +kernel
theorem s8_61 {L : pj_Loc} {st : List Value} {N S : Nat} {H : pj_Heap} {o : Nat} : pj_step 8 (61, L, .ref o :: st, (N, S, H)) = pj_pv 64 L st (N, S, H) (pj_fld (H o) 5 5) := st_getfield q8_61
theorem x8_61 {L : pj_Loc} {st : List Value} {N S : Nat} {H : pj_Heap} {o : Nat} {o9 : Option Value × pj_Mem} : pj_Ends 8 (61, L, .ref o :: st, (N, S, H)) o9 = pj_then 8 o9 (pj_pv 64 L st (N, S, H) (pj_fld (H o) 5 5)) := pj_xt q8_61 rfl (pj_cl_nc rfl) (s8_61)
theorem q8_64 : pj_row 8 64 = some (.aaload, 1, 0, 0, 0) := by decide +kernel
theorem s8_64 {L : pj_Loc} {st : List Value} {N S : Nat} {H : pj_Heap} {o : Nat} {i : Int32} : pj_step 8 (64, L, .int i :: .ref o :: st, (N, S, H)) = pj_pv 65 L st (N, S, H) (pj_qrl (H o) i) := st_aaload q8_64
theorem x8_64 {L : pj_Loc} {st : List Value} {N S : Nat} {H : pj_Heap} {o : Nat} {i : Int32} {o9 : Option Value × pj_Mem} : pj_Ends 8 (64, L, .int i :: .ref o :: st, (N, S, H)) o9 = pj_then 8 o9 (pj_pv 65 L st (N, S, H) (pj_qrl (H o) i)) := pj_xt q8_64 rfl (pj_cl_nc rfl) (s8_64)
theorem q8_65 : pj_row 8 65 = some (.aload_n 0, 1, 0, 0, 0) := by decide +kernel
theorem s8_65 {st : List Value} {M : pj_Mem} {l : pj_Loc} {x : Nat} : pj_step 8 (65, some (.ref x) :: l, st, M) = some (66, some (.ref x) :: l, .ref x :: st, M) := st_aload_n q8_65 rfl
theorem x8_65 {st : List Value} {M : pj_Mem} {l : pj_Loc} {x : Nat} {o9 : Option Value × pj_Mem} : pj_Ends 8 (65, some (.ref x) :: l, st, M) o9 = pj_Ends 8 (66, some (.ref x) :: l, .ref x :: st, M) o9 := pj_xs (s8_65)
theorem q8_66 : pj_row 8 66 = some (.getfield 10, 3, 5, 0, 0) := by decide +kernel
theorem s8_66 {L : pj_Loc} {st : List Value} {N S : Nat} {H : pj_Heap} {o : Nat} : pj_step 8 (66, L, .ref o :: st, (N, S, H)) = pj_pv 69 L st (N, S, H) (pj_fld (H o) 5 0) := st_getfield q8_66
theorem x8_66 {L : pj_Loc} {st : List Value} {N S : Nat} {H : pj_Heap} {o : Nat} {o9 : Option Value × pj_Mem} : pj_Ends 8 (66, L, .ref o :: st, (N, S, H)) o9 = pj_then 8 o9 (pj_pv 69 L st (N, S, H) (pj_fld (H o) 5 0)) := pj_xt q8_66 rfl (pj_cl_nc rfl) (s8_66)
theorem q8_69 : pj_row 8 69 = some (.invokevirtual 172, 3, 9, 2, 0) := by decide +kernel
theorem e8_69 {L : pj_Loc} {st : List Value} {N S : Nat} {H : pj_Heap} {o : Option Value × pj_Mem} {M' : pj_Mem} {x0 : Nat} {x1 : Nat} (h4 : pj_le4 st = true) (hu : pj_isU 4 (H x0) = true) (h1 : pj_Ends 9 (0, [some (.ref x0), some (.ref x1)], [], (N, S, H)) (none, M')) (h2 : pj_Ends 8 (72, L, st, M') o) : pj_Ends 8 (69, L, .ref x1 :: .ref x0 :: st, (N, S, H)) o := ec_v2 q8_69 (Or.inl rfl) h4 hu rfl h1 h2
theorem q8_72 : pj_row 8 72 = some (.aload_n 0, 1, 0, 0, 0) := by decide +kernel
theorem s8_72 {st : List Value} {M : pj_Mem} {l : pj_Loc} {x : Nat} : pj_step 8 (72, some (.ref x) :: l, st, M) = some (73, some (.ref x) :: l, .ref x :: st, M) := st_aload_n q8_72 rfl
theorem x8_72 {st : List Value} {M : pj_Mem} {l : pj_Loc} {x : Nat} {o9 : Option Value × pj_Mem} : pj_Ends 8 (72, some (.ref x) :: l, st, M) o9 = pj_Ends 8 (73, some (.ref x) :: l, .ref x :: st, M) o9 := pj_xs (s8_72)
theorem q8_73 : pj_row 8 73 = some (.dup, 1, 0, 0, 0) := by decide +kernel
theorem s8_73 {L : pj_Loc} {st : List Value} {M : pj_Mem} {x : Nat} : pj_step 8 (73, L, .ref x :: st, M) = some (74, L, .ref x :: .ref x :: st, M) := st_dup_ref q8_73
theorem x8_73 {L : pj_Loc} {st : List Value} {M : pj_Mem} {x : Nat} {o9 : Option Value × pj_Mem} : pj_Ends 8 (73, L, .ref x :: st, M) o9 = pj_Ends 8 (74, L, .ref x :: .ref x :: st, M) o9 := pj_xs (s8_73)
theorem s8_73i {L : pj_Loc} {st : List Value} {M : pj_Mem} {x : Int32} : pj_step 8 (73, L, .int x :: st, M) = some (74, L, .int x :: .int x :: st, M) := st_dup_int q8_73
theorem x8_73i {L : pj_Loc} {st : List Value} {M : pj_Mem} {x : Int32} {o9 : Option Value × pj_Mem} : pj_Ends 8 (73, L, .int x :: st, M) o9 = pj_Ends 8 (74, L, .int x :: .int x :: st, M) o9 := pj_xs (s8_73i)
theorem q8_74 : pj_row 8 74 = some (.getfield 148, 3, 5, 5, 0) := by decide +kernel
theorem s8_74 {L : pj_Loc} {st : List Value} {N S : Nat} {H : pj_Heap} {o : Nat} : pj_step 8 (74, L, .ref o :: st, (N, S, H)) = pj_pv 77 L st (N, S, H) (pj_fld (H o) 5 5) := st_getfield q8_74
theorem x8_74 {L : pj_Loc} {st : List Value} {N S : Nat} {H : pj_Heap} {o : Nat} {o9 : Option Value × pj_Mem} : pj_Ends 8 (74, L, .ref o :: st, (N, S, H)) o9 = pj_then 8 o9 (pj_pv 77 L st (N, S, H) (pj_fld (H o) 5 5)) := pj_xt q8_74 rfl (pj_cl_nc rfl) (s8_74)
theorem q8_77 : pj_row 8 77 = some (.iconst 1, 1, 0, 0, 0) := by decide +kernel
theorem s8_77 {L : pj_Loc} {st : List Value} {M : pj_Mem}  : pj_step 8 (77, L, st, M) = some (78, L, .int 1 :: st, M) := st_iconst q8_77 (by decide +kernel)
theorem x8_77 {L : pj_Loc} {st : List Value} {M : pj_Mem}  {o9 : Option Value × pj_Mem} : pj_Ends 8 (77, L, st, M) o9 = pj_Ends 8 (78, L, .int 1 :: st, M) o9 := pj_xs (s8_77)
theorem q8_78 : pj_row 8 78 = some (.iadd, 1, 0, 0, 0) := by decide +kernel
theorem s8_78 {L : pj_Loc} {st : List Value} {M : pj_Mem} {x y : Int32} : pj_step 8 (78, L, .int y :: .int x :: st, M) = some (79, L, .int (x + y) :: st, M) := st_iadd q8_78
theorem x8_78 {L : pj_Loc} {st : List Value} {M : pj_Mem} {x y : Int32} {o9 : Option Value × pj_Mem} : pj_Ends 8 (78, L, .int y :: .int x :: st, M) o9 = pj_Ends 8 (79, L, .int (x + y) :: st, M) o9 := pj_xs (s8_78)
theorem q8_79 : pj_row 8 79 = some (.putfield 148, 3, 5, 5, 0) := by decide +kernel
theorem s8_79 {L : pj_Loc} {st : List Value} {N S : Nat} {H : pj_Heap} {o : Nat} {v : Value} : pj_step 8 (79, L, v :: .ref o :: st, (N, S, H)) = pj_set 82 L st (N, S, H) o (pj_fset (H o) 5 5 v) := st_putfield q8_79
theorem x8_79 {L : pj_Loc} {st : List Value} {N S : Nat} {H : pj_Heap} {o : Nat} {v : Value} {o9 : Option Value × pj_Mem} : pj_Ends 8 (79, L, v :: .ref o :: st, (N, S, H)) o9 = pj_then 8 o9 (pj_set 82 L st (N, S, H) o (pj_fset (H o) 5 5 v)) := pj_xt q8_79 rfl (pj_cl_nc rfl) (s8_79)
theorem q8_82 : pj_row 8 82 = some (.return_, 1, 0, 0, 0) := by decide +kernel
theorem t8_82 {L : pj_Loc} {M : pj_Mem} : pj_Ends 8 (82, L, [], M) (none, M) := pj_Ends.ret q8_82 (pj_rtn_v rt8)
theorem rt9 : pj_rt 9 = none := rfl
theorem q9_0 : pj_row 9 0 = some (.aload_n 1, 1, 0, 0, 0) := by decide +kernel
theorem s9_0 {st : List Value} {M : pj_Mem} {l : pj_Loc} {a0 : Option Value} {x : Nat} : pj_step 9 (0, a0 :: some (.ref x) :: l, st, M) = some (1, a0 :: some (.ref x) :: l, .ref x :: st, M) := st_aload_n q9_0 rfl
theorem x9_0 {st : List Value} {M : pj_Mem} {l : pj_Loc} {a0 : Option Value} {x : Nat} {o9 : Option Value × pj_Mem} : pj_Ends 9 (0, a0 :: some (.ref x) :: l, st, M) o9 = pj_Ends 9 (1, a0 :: some (.ref x) :: l, .ref x :: st, M) o9 := pj_xs (s9_0)
theorem q9_1 : pj_row 9 1 = some (.getfield 9, 3, 4, 0, 0) := by decide +kernel
theorem s9_1 {L : pj_Loc} {st : List Value} {N S : Nat} {H : pj_Heap} {o : Nat} : pj_step 9 (1, L, .ref o :: st, (N, S, H)) = pj_pv 4 L st (N, S, H) (pj_fld (H o) 4 0) := st_getfield q9_1
theorem x9_1 {L : pj_Loc} {st : List Value} {N S : Nat} {H : pj_Heap} {o : Nat} {o9 : Option Value × pj_Mem} : pj_Ends 9 (1, L, .ref o :: st, (N, S, H)) o9 = pj_then 9 o9 (pj_pv 4 L st (N, S, H) (pj_fld (H o) 4 0)) := pj_xt q9_1 rfl (pj_cl_nc rfl) (s9_1)
theorem q9_4 : pj_row 9 4 = some (.iconst 0, 1, 0, 0, 0) := by decide +kernel
theorem s9_4 {L : pj_Loc} {st : List Value} {M : pj_Mem}  : pj_step 9 (4, L, st, M) = some (5, L, .int 0 :: st, M) := st_iconst q9_4 (by decide +kernel)
theorem x9_4 {L : pj_Loc} {st : List Value} {M : pj_Mem}  {o9 : Option Value × pj_Mem} : pj_Ends 9 (4, L, st, M) o9 = pj_Ends 9 (5, L, .int 0 :: st, M) o9 := pj_xs (s9_4)
theorem q9_5 : pj_row 9 5 = some (.aload_n 0, 1, 0, 0, 0) := by decide +kernel
theorem s9_5 {st : List Value} {M : pj_Mem} {l : pj_Loc} {x : Nat} : pj_step 9 (5, some (.ref x) :: l, st, M) = some (6, some (.ref x) :: l, .ref x :: st, M) := st_aload_n q9_5 rfl
theorem x9_5 {st : List Value} {M : pj_Mem} {l : pj_Loc} {x : Nat} {o9 : Option Value × pj_Mem} : pj_Ends 9 (5, some (.ref x) :: l, st, M) o9 = pj_Ends 9 (6, some (.ref x) :: l, .ref x :: st, M) o9 := pj_xs (s9_5)
theorem q9_6 : pj_row 9 6 = some (.getfield 9, 3, 4, 0, 0) := by decide +kernel
theorem s9_6 {L : pj_Loc} {st : List Value} {N S : Nat} {H : pj_Heap} {o : Nat} : pj_step 9 (6, L, .ref o :: st, (N, S, H)) = pj_pv 9 L st (N, S, H) (pj_fld (H o) 4 0) := st_getfield q9_6
theorem x9_6 {L : pj_Loc} {st : List Value} {N S : Nat} {H : pj_Heap} {o : Nat} {o9 : Option Value × pj_Mem} : pj_Ends 9 (6, L, .ref o :: st, (N, S, H)) o9 = pj_then 9 o9 (pj_pv 9 L st (N, S, H) (pj_fld (H o) 4 0)) := pj_xt q9_6 rfl (pj_cl_nc rfl) (s9_6)
theorem q9_9 : pj_row 9 9 = some (.iconst 0, 1, 0, 0, 0) := by decide +kernel
theorem s9_9 {L : pj_Loc} {st : List Value} {M : pj_Mem}  : pj_step 9 (9, L, st, M) = some (10, L, .int 0 :: st, M) := st_iconst q9_9 (by decide +kernel)
theorem x9_9 {L : pj_Loc} {st : List Value} {M : pj_Mem}  {o9 : Option Value × pj_Mem} : pj_Ends 9 (9, L, st, M) o9 = pj_Ends 9 (10, L, .int 0 :: st, M) o9 := pj_xs (s9_9)
theorem q9_10 : pj_row 9 10 = some (.bipush 6, 2, 0, 0, 0) := by decide +kernel
theorem s9_10 {L : pj_Loc} {st : List Value} {M : pj_Mem}  : pj_step 9 (10, L, st, M) = some (12, L, .int 6 :: st, M) := st_bipush q9_10 (by decide +kernel)
theorem x9_10 {L : pj_Loc} {st : List Value} {M : pj_Mem}  {o9 : Option Value × pj_Mem} : pj_Ends 9 (10, L, st, M) o9 = pj_Ends 9 (12, L, .int 6 :: st, M) o9 := pj_xs (s9_10)
theorem q9_12 : pj_row 9 12 = some (.invokestatic 44, 3, 0, 5, 3) := by decide +kernel
theorem s9_12 {L : pj_Loc} {st : List Value} {N S : Nat} {H : pj_Heap} {d o : Nat} {n dp sp : Int32} : pj_step 9 (12, L, .int n :: .int dp :: .ref d :: .int sp :: .ref o :: st, (N, S, H)) = pj_g4 st (pj_set 15 L st (N, S, H) d (pj_cas (H o) (H d) sp dp n)) := st_acp q9_12
theorem x9_12 {L : pj_Loc} {st : List Value} {N S : Nat} {H : pj_Heap} {d o : Nat} {n dp sp : Int32} {o9 : Option Value × pj_Mem} : pj_Ends 9 (12, L, .int n :: .int dp :: .ref d :: .int sp :: .ref o :: st, (N, S, H)) o9 = pj_then 9 o9 (pj_g4 st (pj_set 15 L st (N, S, H) d (pj_cas (H o) (H d) sp dp n))) := pj_xt q9_12 rfl rfl (s9_12)
theorem q9_15 : pj_row 9 15 = some (.aload_n 1, 1, 0, 0, 0) := by decide +kernel
theorem s9_15 {st : List Value} {M : pj_Mem} {l : pj_Loc} {a0 : Option Value} {x : Nat} : pj_step 9 (15, a0 :: some (.ref x) :: l, st, M) = some (16, a0 :: some (.ref x) :: l, .ref x :: st, M) := st_aload_n q9_15 rfl
theorem x9_15 {st : List Value} {M : pj_Mem} {l : pj_Loc} {a0 : Option Value} {x : Nat} {o9 : Option Value × pj_Mem} : pj_Ends 9 (15, a0 :: some (.ref x) :: l, st, M) o9 = pj_Ends 9 (16, a0 :: some (.ref x) :: l, .ref x :: st, M) o9 := pj_xs (s9_15)
theorem q9_16 : pj_row 9 16 = some (.getfield 15, 3, 4, 1, 0) := by decide +kernel
theorem s9_16 {L : pj_Loc} {st : List Value} {N S : Nat} {H : pj_Heap} {o : Nat} : pj_step 9 (16, L, .ref o :: st, (N, S, H)) = pj_pv 19 L st (N, S, H) (pj_fld (H o) 4 1) := st_getfield q9_16
theorem x9_16 {L : pj_Loc} {st : List Value} {N S : Nat} {H : pj_Heap} {o : Nat} {o9 : Option Value × pj_Mem} : pj_Ends 9 (16, L, .ref o :: st, (N, S, H)) o9 = pj_then 9 o9 (pj_pv 19 L st (N, S, H) (pj_fld (H o) 4 1)) := pj_xt q9_16 rfl (pj_cl_nc rfl) (s9_16)
theorem q9_19 : pj_row 9 19 = some (.iconst 0, 1, 0, 0, 0) := by decide +kernel
theorem s9_19 {L : pj_Loc} {st : List Value} {M : pj_Mem}  : pj_step 9 (19, L, st, M) = some (20, L, .int 0 :: st, M) := st_iconst q9_19 (by decide +kernel)
theorem x9_19 {L : pj_Loc} {st : List Value} {M : pj_Mem}  {o9 : Option Value × pj_Mem} : pj_Ends 9 (19, L, st, M) o9 = pj_Ends 9 (20, L, .int 0 :: st, M) o9 := pj_xs (s9_19)
theorem q9_20 : pj_row 9 20 = some (.aload_n 0, 1, 0, 0, 0) := by decide +kernel
theorem s9_20 {st : List Value} {M : pj_Mem} {l : pj_Loc} {x : Nat} : pj_step 9 (20, some (.ref x) :: l, st, M) = some (21, some (.ref x) :: l, .ref x :: st, M) := st_aload_n q9_20 rfl
theorem x9_20 {st : List Value} {M : pj_Mem} {l : pj_Loc} {x : Nat} {o9 : Option Value × pj_Mem} : pj_Ends 9 (20, some (.ref x) :: l, st, M) o9 = pj_Ends 9 (21, some (.ref x) :: l, .ref x :: st, M) o9 := pj_xs (s9_20)
theorem q9_21 : pj_row 9 21 = some (.getfield 15, 3, 4, 1, 0) := by decide +kernel
theorem s9_21 {L : pj_Loc} {st : List Value} {N S : Nat} {H : pj_Heap} {o : Nat} : pj_step 9 (21, L, .ref o :: st, (N, S, H)) = pj_pv 24 L st (N, S, H) (pj_fld (H o) 4 1) := st_getfield q9_21
theorem x9_21 {L : pj_Loc} {st : List Value} {N S : Nat} {H : pj_Heap} {o : Nat} {o9 : Option Value × pj_Mem} : pj_Ends 9 (21, L, .ref o :: st, (N, S, H)) o9 = pj_then 9 o9 (pj_pv 24 L st (N, S, H) (pj_fld (H o) 4 1)) := pj_xt q9_21 rfl (pj_cl_nc rfl) (s9_21)
theorem q9_24 : pj_row 9 24 = some (.iconst 0, 1, 0, 0, 0) := by decide +kernel
theorem s9_24 {L : pj_Loc} {st : List Value} {M : pj_Mem}  : pj_step 9 (24, L, st, M) = some (25, L, .int 0 :: st, M) := st_iconst q9_24 (by decide +kernel)
theorem x9_24 {L : pj_Loc} {st : List Value} {M : pj_Mem}  {o9 : Option Value × pj_Mem} : pj_Ends 9 (24, L, st, M) o9 = pj_Ends 9 (25, L, .int 0 :: st, M) o9 := pj_xs (s9_24)
theorem q9_25 : pj_row 9 25 = some (.iconst 3, 1, 0, 0, 0) := by decide +kernel
theorem s9_25 {L : pj_Loc} {st : List Value} {M : pj_Mem}  : pj_step 9 (25, L, st, M) = some (26, L, .int 3 :: st, M) := st_iconst q9_25 (by decide +kernel)
theorem x9_25 {L : pj_Loc} {st : List Value} {M : pj_Mem}  {o9 : Option Value × pj_Mem} : pj_Ends 9 (25, L, st, M) o9 = pj_Ends 9 (26, L, .int 3 :: st, M) o9 := pj_xs (s9_25)
theorem q9_26 : pj_row 9 26 = some (.invokestatic 44, 3, 0, 5, 3) := by decide +kernel
theorem s9_26 {L : pj_Loc} {st : List Value} {N S : Nat} {H : pj_Heap} {d o : Nat} {n dp sp : Int32} : pj_step 9 (26, L, .int n :: .int dp :: .ref d :: .int sp :: .ref o :: st, (N, S, H)) = pj_g4 st (pj_set 29 L st (N, S, H) d (pj_cas (H o) (H d) sp dp n)) := st_acp q9_26
theorem x9_26 {L : pj_Loc} {st : List Value} {N S : Nat} {H : pj_Heap} {d o : Nat} {n dp sp : Int32} {o9 : Option Value × pj_Mem} : pj_Ends 9 (26, L, .int n :: .int dp :: .ref d :: .int sp :: .ref o :: st, (N, S, H)) o9 = pj_then 9 o9 (pj_g4 st (pj_set 29 L st (N, S, H) d (pj_cas (H o) (H d) sp dp n))) := pj_xt q9_26 rfl rfl (s9_26)
theorem q9_29 : pj_row 9 29 = some (.aload_n 1, 1, 0, 0, 0) := by decide +kernel
theorem s9_29 {st : List Value} {M : pj_Mem} {l : pj_Loc} {a0 : Option Value} {x : Nat} : pj_step 9 (29, a0 :: some (.ref x) :: l, st, M) = some (30, a0 :: some (.ref x) :: l, .ref x :: st, M) := st_aload_n q9_29 rfl
theorem x9_29 {st : List Value} {M : pj_Mem} {l : pj_Loc} {a0 : Option Value} {x : Nat} {o9 : Option Value × pj_Mem} : pj_Ends 9 (29, a0 :: some (.ref x) :: l, st, M) o9 = pj_Ends 9 (30, a0 :: some (.ref x) :: l, .ref x :: st, M) o9 := pj_xs (s9_29)
theorem q9_30 : pj_row 9 30 = some (.getfield 18, 3, 4, 2, 0) := by decide +kernel
theorem s9_30 {L : pj_Loc} {st : List Value} {N S : Nat} {H : pj_Heap} {o : Nat} : pj_step 9 (30, L, .ref o :: st, (N, S, H)) = pj_pv 33 L st (N, S, H) (pj_fld (H o) 4 2) := st_getfield q9_30
theorem x9_30 {L : pj_Loc} {st : List Value} {N S : Nat} {H : pj_Heap} {o : Nat} {o9 : Option Value × pj_Mem} : pj_Ends 9 (30, L, .ref o :: st, (N, S, H)) o9 = pj_then 9 o9 (pj_pv 33 L st (N, S, H) (pj_fld (H o) 4 2)) := pj_xt q9_30 rfl (pj_cl_nc rfl) (s9_30)
theorem q9_33 : pj_row 9 33 = some (.iconst 0, 1, 0, 0, 0) := by decide +kernel
theorem s9_33 {L : pj_Loc} {st : List Value} {M : pj_Mem}  : pj_step 9 (33, L, st, M) = some (34, L, .int 0 :: st, M) := st_iconst q9_33 (by decide +kernel)
theorem x9_33 {L : pj_Loc} {st : List Value} {M : pj_Mem}  {o9 : Option Value × pj_Mem} : pj_Ends 9 (33, L, st, M) o9 = pj_Ends 9 (34, L, .int 0 :: st, M) o9 := pj_xs (s9_33)
theorem q9_34 : pj_row 9 34 = some (.aload_n 0, 1, 0, 0, 0) := by decide +kernel
theorem s9_34 {st : List Value} {M : pj_Mem} {l : pj_Loc} {x : Nat} : pj_step 9 (34, some (.ref x) :: l, st, M) = some (35, some (.ref x) :: l, .ref x :: st, M) := st_aload_n q9_34 rfl
theorem x9_34 {st : List Value} {M : pj_Mem} {l : pj_Loc} {x : Nat} {o9 : Option Value × pj_Mem} : pj_Ends 9 (34, some (.ref x) :: l, st, M) o9 = pj_Ends 9 (35, some (.ref x) :: l, .ref x :: st, M) o9 := pj_xs (s9_34)
theorem q9_35 : pj_row 9 35 = some (.getfield 18, 3, 4, 2, 0) := by decide +kernel
theorem s9_35 {L : pj_Loc} {st : List Value} {N S : Nat} {H : pj_Heap} {o : Nat} : pj_step 9 (35, L, .ref o :: st, (N, S, H)) = pj_pv 38 L st (N, S, H) (pj_fld (H o) 4 2) := st_getfield q9_35
theorem x9_35 {L : pj_Loc} {st : List Value} {N S : Nat} {H : pj_Heap} {o : Nat} {o9 : Option Value × pj_Mem} : pj_Ends 9 (35, L, .ref o :: st, (N, S, H)) o9 = pj_then 9 o9 (pj_pv 38 L st (N, S, H) (pj_fld (H o) 4 2)) := pj_xt q9_35 rfl (pj_cl_nc rfl) (s9_35)
theorem q9_38 : pj_row 9 38 = some (.iconst 0, 1, 0, 0, 0) := by decide +kernel
theorem s9_38 {L : pj_Loc} {st : List Value} {M : pj_Mem}  : pj_step 9 (38, L, st, M) = some (39, L, .int 0 :: st, M) := st_iconst q9_38 (by decide +kernel)
theorem x9_38 {L : pj_Loc} {st : List Value} {M : pj_Mem}  {o9 : Option Value × pj_Mem} : pj_Ends 9 (38, L, st, M) o9 = pj_Ends 9 (39, L, .int 0 :: st, M) o9 := pj_xs (s9_38)
theorem q9_39 : pj_row 9 39 = some (.iconst 3, 1, 0, 0, 0) := by decide +kernel
theorem s9_39 {L : pj_Loc} {st : List Value} {M : pj_Mem}  : pj_step 9 (39, L, st, M) = some (40, L, .int 3 :: st, M) := st_iconst q9_39 (by decide +kernel)
theorem x9_39 {L : pj_Loc} {st : List Value} {M : pj_Mem}  {o9 : Option Value × pj_Mem} : pj_Ends 9 (39, L, st, M) o9 = pj_Ends 9 (40, L, .int 3 :: st, M) o9 := pj_xs (s9_39)
theorem q9_40 : pj_row 9 40 = some (.invokestatic 44, 3, 0, 5, 3) := by decide +kernel
theorem s9_40 {L : pj_Loc} {st : List Value} {N S : Nat} {H : pj_Heap} {d o : Nat} {n dp sp : Int32} : pj_step 9 (40, L, .int n :: .int dp :: .ref d :: .int sp :: .ref o :: st, (N, S, H)) = pj_g4 st (pj_set 43 L st (N, S, H) d (pj_cas (H o) (H d) sp dp n)) := st_acp q9_40
theorem x9_40 {L : pj_Loc} {st : List Value} {N S : Nat} {H : pj_Heap} {d o : Nat} {n dp sp : Int32} {o9 : Option Value × pj_Mem} : pj_Ends 9 (40, L, .int n :: .int dp :: .ref d :: .int sp :: .ref o :: st, (N, S, H)) o9 = pj_then 9 o9 (pj_g4 st (pj_set 43 L st (N, S, H) d (pj_cas (H o) (H d) sp dp n))) := pj_xt q9_40 rfl rfl (s9_40)
theorem q9_43 : pj_row 9 43 = some (.aload_n 1, 1, 0, 0, 0) := by decide +kernel
theorem s9_43 {st : List Value} {M : pj_Mem} {l : pj_Loc} {a0 : Option Value} {x : Nat} : pj_step 9 (43, a0 :: some (.ref x) :: l, st, M) = some (44, a0 :: some (.ref x) :: l, .ref x :: st, M) := st_aload_n q9_43 rfl
theorem x9_43 {st : List Value} {M : pj_Mem} {l : pj_Loc} {a0 : Option Value} {x : Nat} {o9 : Option Value × pj_Mem} : pj_Ends 9 (43, a0 :: some (.ref x) :: l, st, M) o9 = pj_Ends 9 (44, a0 :: some (.ref x) :: l, .ref x :: st, M) o9 := pj_xs (s9_43)
theorem q9_44 : pj_row 9 44 = some (.getfield 21, 3, 4, 3, 0) := by decide +kernel
theorem s9_44 {L : pj_Loc} {st : List Value} {N S : Nat} {H : pj_Heap} {o : Nat} : pj_step 9 (44, L, .ref o :: st, (N, S, H)) = pj_pv 47 L st (N, S, H) (pj_fld (H o) 4 3) := st_getfield q9_44
theorem x9_44 {L : pj_Loc} {st : List Value} {N S : Nat} {H : pj_Heap} {o : Nat} {o9 : Option Value × pj_Mem} : pj_Ends 9 (44, L, .ref o :: st, (N, S, H)) o9 = pj_then 9 o9 (pj_pv 47 L st (N, S, H) (pj_fld (H o) 4 3)) := pj_xt q9_44 rfl (pj_cl_nc rfl) (s9_44)
theorem q9_47 : pj_row 9 47 = some (.iconst 0, 1, 0, 0, 0) := by decide +kernel
theorem s9_47 {L : pj_Loc} {st : List Value} {M : pj_Mem}  : pj_step 9 (47, L, st, M) = some (48, L, .int 0 :: st, M) := st_iconst q9_47 (by decide +kernel)
theorem x9_47 {L : pj_Loc} {st : List Value} {M : pj_Mem}  {o9 : Option Value × pj_Mem} : pj_Ends 9 (47, L, st, M) o9 = pj_Ends 9 (48, L, .int 0 :: st, M) o9 := pj_xs (s9_47)
theorem q9_48 : pj_row 9 48 = some (.aload_n 0, 1, 0, 0, 0) := by decide +kernel
theorem s9_48 {st : List Value} {M : pj_Mem} {l : pj_Loc} {x : Nat} : pj_step 9 (48, some (.ref x) :: l, st, M) = some (49, some (.ref x) :: l, .ref x :: st, M) := st_aload_n q9_48 rfl
theorem x9_48 {st : List Value} {M : pj_Mem} {l : pj_Loc} {x : Nat} {o9 : Option Value × pj_Mem} : pj_Ends 9 (48, some (.ref x) :: l, st, M) o9 = pj_Ends 9 (49, some (.ref x) :: l, .ref x :: st, M) o9 := pj_xs (s9_48)
theorem q9_49 : pj_row 9 49 = some (.getfield 21, 3, 4, 3, 0) := by decide +kernel
theorem s9_49 {L : pj_Loc} {st : List Value} {N S : Nat} {H : pj_Heap} {o : Nat} : pj_step 9 (49, L, .ref o :: st, (N, S, H)) = pj_pv 52 L st (N, S, H) (pj_fld (H o) 4 3) := st_getfield q9_49
theorem x9_49 {L : pj_Loc} {st : List Value} {N S : Nat} {H : pj_Heap} {o : Nat} {o9 : Option Value × pj_Mem} : pj_Ends 9 (49, L, .ref o :: st, (N, S, H)) o9 = pj_then 9 o9 (pj_pv 52 L st (N, S, H) (pj_fld (H o) 4 3)) := pj_xt q9_49 rfl (pj_cl_nc rfl) (s9_49)
theorem q9_52 : pj_row 9 52 = some (.iconst 0, 1, 0, 0, 0) := by decide +kernel
theorem s9_52 {L : pj_Loc} {st : List Value} {M : pj_Mem}  : pj_step 9 (52, L, st, M) = some (53, L, .int 0 :: st, M) := st_iconst q9_52 (by decide +kernel)
theorem x9_52 {L : pj_Loc} {st : List Value} {M : pj_Mem}  {o9 : Option Value × pj_Mem} : pj_Ends 9 (52, L, st, M) o9 = pj_Ends 9 (53, L, .int 0 :: st, M) o9 := pj_xs (s9_52)
theorem q9_53 : pj_row 9 53 = some (.iconst 3, 1, 0, 0, 0) := by decide +kernel
theorem s9_53 {L : pj_Loc} {st : List Value} {M : pj_Mem}  : pj_step 9 (53, L, st, M) = some (54, L, .int 3 :: st, M) := st_iconst q9_53 (by decide +kernel)
theorem x9_53 {L : pj_Loc} {st : List Value} {M : pj_Mem}  {o9 : Option Value × pj_Mem} : pj_Ends 9 (53, L, st, M) o9 = pj_Ends 9 (54, L, .int 3 :: st, M) o9 := pj_xs (s9_53)
theorem q9_54 : pj_row 9 54 = some (.invokestatic 44, 3, 0, 5, 3) := by decide +kernel
theorem s9_54 {L : pj_Loc} {st : List Value} {N S : Nat} {H : pj_Heap} {d o : Nat} {n dp sp : Int32} : pj_step 9 (54, L, .int n :: .int dp :: .ref d :: .int sp :: .ref o :: st, (N, S, H)) = pj_g4 st (pj_set 57 L st (N, S, H) d (pj_cas (H o) (H d) sp dp n)) := st_acp q9_54
theorem x9_54 {L : pj_Loc} {st : List Value} {N S : Nat} {H : pj_Heap} {d o : Nat} {n dp sp : Int32} {o9 : Option Value × pj_Mem} : pj_Ends 9 (54, L, .int n :: .int dp :: .ref d :: .int sp :: .ref o :: st, (N, S, H)) o9 = pj_then 9 o9 (pj_g4 st (pj_set 57 L st (N, S, H) d (pj_cas (H o) (H d) sp dp n))) := pj_xt q9_54 rfl rfl (s9_54)
theorem q9_57 : pj_row 9 57 = some (.aload_n 1, 1, 0, 0, 0) := by decide +kernel
theorem s9_57 {st : List Value} {M : pj_Mem} {l : pj_Loc} {a0 : Option Value} {x : Nat} : pj_step 9 (57, a0 :: some (.ref x) :: l, st, M) = some (58, a0 :: some (.ref x) :: l, .ref x :: st, M) := st_aload_n q9_57 rfl
theorem x9_57 {st : List Value} {M : pj_Mem} {l : pj_Loc} {a0 : Option Value} {x : Nat} {o9 : Option Value × pj_Mem} : pj_Ends 9 (57, a0 :: some (.ref x) :: l, st, M) o9 = pj_Ends 9 (58, a0 :: some (.ref x) :: l, .ref x :: st, M) o9 := pj_xs (s9_57)
theorem q9_58 : pj_row 9 58 = some (.getfield 24, 3, 4, 4, 0) := by decide +kernel
theorem s9_58 {L : pj_Loc} {st : List Value} {N S : Nat} {H : pj_Heap} {o : Nat} : pj_step 9 (58, L, .ref o :: st, (N, S, H)) = pj_pv 61 L st (N, S, H) (pj_fld (H o) 4 4) := st_getfield q9_58
theorem x9_58 {L : pj_Loc} {st : List Value} {N S : Nat} {H : pj_Heap} {o : Nat} {o9 : Option Value × pj_Mem} : pj_Ends 9 (58, L, .ref o :: st, (N, S, H)) o9 = pj_then 9 o9 (pj_pv 61 L st (N, S, H) (pj_fld (H o) 4 4)) := pj_xt q9_58 rfl (pj_cl_nc rfl) (s9_58)
theorem q9_61 : pj_row 9 61 = some (.iconst 0, 1, 0, 0, 0) := by decide +kernel
theorem s9_61 {L : pj_Loc} {st : List Value} {M : pj_Mem}  : pj_step 9 (61, L, st, M) = some (62, L, .int 0 :: st, M) := st_iconst q9_61 (by decide +kernel)
theorem x9_61 {L : pj_Loc} {st : List Value} {M : pj_Mem}  {o9 : Option Value × pj_Mem} : pj_Ends 9 (61, L, st, M) o9 = pj_Ends 9 (62, L, .int 0 :: st, M) o9 := pj_xs (s9_61)
theorem q9_62 : pj_row 9 62 = some (.aload_n 0, 1, 0, 0, 0) := by decide +kernel
theorem s9_62 {st : List Value} {M : pj_Mem} {l : pj_Loc} {x : Nat} : pj_step 9 (62, some (.ref x) :: l, st, M) = some (63, some (.ref x) :: l, .ref x :: st, M) := st_aload_n q9_62 rfl
theorem x9_62 {st : List Value} {M : pj_Mem} {l : pj_Loc} {x : Nat} {o9 : Option Value × pj_Mem} : pj_Ends 9 (62, some (.ref x) :: l, st, M) o9 = pj_Ends 9 (63, some (.ref x) :: l, .ref x :: st, M) o9 := pj_xs (s9_62)
theorem q9_63 : pj_row 9 63 = some (.getfield 24, 3, 4, 4, 0) := by decide +kernel
theorem s9_63 {L : pj_Loc} {st : List Value} {N S : Nat} {H : pj_Heap} {o : Nat} : pj_step 9 (63, L, .ref o :: st, (N, S, H)) = pj_pv 66 L st (N, S, H) (pj_fld (H o) 4 4) := st_getfield q9_63
theorem x9_63 {L : pj_Loc} {st : List Value} {N S : Nat} {H : pj_Heap} {o : Nat} {o9 : Option Value × pj_Mem} : pj_Ends 9 (63, L, .ref o :: st, (N, S, H)) o9 = pj_then 9 o9 (pj_pv 66 L st (N, S, H) (pj_fld (H o) 4 4)) := pj_xt q9_63 rfl (pj_cl_nc rfl) (s9_63)
theorem q9_66 : pj_row 9 66 = some (.iconst 0, 1, 0, 0, 0) := by decide +kernel
theorem s9_66 {L : pj_Loc} {st : List Value} {M : pj_Mem}  : pj_step 9 (66, L, st, M) = some (67, L, .int 0 :: st, M) := st_iconst q9_66 (by decide +kernel)
theorem x9_66 {L : pj_Loc} {st : List Value} {M : pj_Mem}  {o9 : Option Value × pj_Mem} : pj_Ends 9 (66, L, st, M) o9 = pj_Ends 9 (67, L, .int 0 :: st, M) o9 := pj_xs (s9_66)
theorem q9_67 : pj_row 9 67 = some (.iconst 3, 1, 0, 0, 0) := by decide +kernel
theorem s9_67 {L : pj_Loc} {st : List Value} {M : pj_Mem}  : pj_step 9 (67, L, st, M) = some (68, L, .int 3 :: st, M) := st_iconst q9_67 (by decide +kernel)
theorem x9_67 {L : pj_Loc} {st : List Value} {M : pj_Mem}  {o9 : Option Value × pj_Mem} : pj_Ends 9 (67, L, st, M) o9 = pj_Ends 9 (68, L, .int 3 :: st, M) o9 := pj_xs (s9_67)
theorem q9_68 : pj_row 9 68 = some (.invokestatic 44, 3, 0, 5, 3) := by decide +kernel
theorem s9_68 {L : pj_Loc} {st : List Value} {N S : Nat} {H : pj_Heap} {d o : Nat} {n dp sp : Int32} : pj_step 9 (68, L, .int n :: .int dp :: .ref d :: .int sp :: .ref o :: st, (N, S, H)) = pj_g4 st (pj_set 71 L st (N, S, H) d (pj_cas (H o) (H d) sp dp n)) := st_acp q9_68
theorem x9_68 {L : pj_Loc} {st : List Value} {N S : Nat} {H : pj_Heap} {d o : Nat} {n dp sp : Int32} {o9 : Option Value × pj_Mem} : pj_Ends 9 (68, L, .int n :: .int dp :: .ref d :: .int sp :: .ref o :: st, (N, S, H)) o9 = pj_then 9 o9 (pj_g4 st (pj_set 71 L st (N, S, H) d (pj_cas (H o) (H d) sp dp n))) := pj_xt q9_68 rfl rfl (s9_68)
theorem q9_71 : pj_row 9 71 = some (.aload_n 1, 1, 0, 0, 0) := by decide +kernel
theorem s9_71 {st : List Value} {M : pj_Mem} {l : pj_Loc} {a0 : Option Value} {x : Nat} : pj_step 9 (71, a0 :: some (.ref x) :: l, st, M) = some (72, a0 :: some (.ref x) :: l, .ref x :: st, M) := st_aload_n q9_71 rfl
theorem x9_71 {st : List Value} {M : pj_Mem} {l : pj_Loc} {a0 : Option Value} {x : Nat} {o9 : Option Value × pj_Mem} : pj_Ends 9 (71, a0 :: some (.ref x) :: l, st, M) o9 = pj_Ends 9 (72, a0 :: some (.ref x) :: l, .ref x :: st, M) o9 := pj_xs (s9_71)
theorem q9_72 : pj_row 9 72 = some (.getfield 27, 3, 4, 5, 0) := by decide +kernel
theorem s9_72 {L : pj_Loc} {st : List Value} {N S : Nat} {H : pj_Heap} {o : Nat} : pj_step 9 (72, L, .ref o :: st, (N, S, H)) = pj_pv 75 L st (N, S, H) (pj_fld (H o) 4 5) := st_getfield q9_72
theorem x9_72 {L : pj_Loc} {st : List Value} {N S : Nat} {H : pj_Heap} {o : Nat} {o9 : Option Value × pj_Mem} : pj_Ends 9 (72, L, .ref o :: st, (N, S, H)) o9 = pj_then 9 o9 (pj_pv 75 L st (N, S, H) (pj_fld (H o) 4 5)) := pj_xt q9_72 rfl (pj_cl_nc rfl) (s9_72)
theorem q9_75 : pj_row 9 75 = some (.iconst 0, 1, 0, 0, 0) := by decide +kernel
theorem s9_75 {L : pj_Loc} {st : List Value} {M : pj_Mem}  : pj_step 9 (75, L, st, M) = some (76, L, .int 0 :: st, M) := st_iconst q9_75 (by decide +kernel)
theorem x9_75 {L : pj_Loc} {st : List Value} {M : pj_Mem}  {o9 : Option Value × pj_Mem} : pj_Ends 9 (75, L, st, M) o9 = pj_Ends 9 (76, L, .int 0 :: st, M) o9 := pj_xs (s9_75)
theorem q9_76 : pj_row 9 76 = some (.aload_n 0, 1, 0, 0, 0) := by decide +kernel
theorem s9_76 {st : List Value} {M : pj_Mem} {l : pj_Loc} {x : Nat} : pj_step 9 (76, some (.ref x) :: l, st, M) = some (77, some (.ref x) :: l, .ref x :: st, M) := st_aload_n q9_76 rfl
theorem x9_76 {st : List Value} {M : pj_Mem} {l : pj_Loc} {x : Nat} {o9 : Option Value × pj_Mem} : pj_Ends 9 (76, some (.ref x) :: l, st, M) o9 = pj_Ends 9 (77, some (.ref x) :: l, .ref x :: st, M) o9 := pj_xs (s9_76)
theorem q9_77 : pj_row 9 77 = some (.getfield 27, 3, 4, 5, 0) := by decide +kernel
theorem s9_77 {L : pj_Loc} {st : List Value} {N S : Nat} {H : pj_Heap} {o : Nat} : pj_step 9 (77, L, .ref o :: st, (N, S, H)) = pj_pv 80 L st (N, S, H) (pj_fld (H o) 4 5) := st_getfield q9_77
theorem x9_77 {L : pj_Loc} {st : List Value} {N S : Nat} {H : pj_Heap} {o : Nat} {o9 : Option Value × pj_Mem} : pj_Ends 9 (77, L, .ref o :: st, (N, S, H)) o9 = pj_then 9 o9 (pj_pv 80 L st (N, S, H) (pj_fld (H o) 4 5)) := pj_xt q9_77 rfl (pj_cl_nc rfl) (s9_77)
theorem q9_80 : pj_row 9 80 = some (.iconst 0, 1, 0, 0, 0) := by decide +kernel
theorem s9_80 {L : pj_Loc} {st : List Value} {M : pj_Mem}  : pj_step 9 (80, L, st, M) = some (81, L, .int 0 :: st, M) := st_iconst q9_80 (by decide +kernel)
theorem x9_80 {L : pj_Loc} {st : List Value} {M : pj_Mem}  {o9 : Option Value × pj_Mem} : pj_Ends 9 (80, L, st, M) o9 = pj_Ends 9 (81, L, .int 0 :: st, M) o9 := pj_xs (s9_80)
theorem q9_81 : pj_row 9 81 = some (.iconst 3, 1, 0, 0, 0) := by decide +kernel
theorem s9_81 {L : pj_Loc} {st : List Value} {M : pj_Mem}  : pj_step 9 (81, L, st, M) = some (82, L, .int 3 :: st, M) := st_iconst q9_81 (by decide +kernel)
theorem x9_81 {L : pj_Loc} {st : List Value} {M : pj_Mem}  {o9 : Option Value × pj_Mem} : pj_Ends 9 (81, L, st, M) o9 = pj_Ends 9 (82, L, .int 3 :: st, M) o9 := pj_xs (s9_81)
theorem q9_82 : pj_row 9 82 = some (.invokestatic 44, 3, 0, 5, 3) := by decide +kernel
theorem s9_82 {L : pj_Loc} {st : List Value} {N S : Nat} {H : pj_Heap} {d o : Nat} {n dp sp : Int32} : pj_step 9 (82, L, .int n :: .int dp :: .ref d :: .int sp :: .ref o :: st, (N, S, H)) = pj_g4 st (pj_set 85 L st (N, S, H) d (pj_cas (H o) (H d) sp dp n)) := st_acp q9_82
theorem x9_82 {L : pj_Loc} {st : List Value} {N S : Nat} {H : pj_Heap} {d o : Nat} {n dp sp : Int32} {o9 : Option Value × pj_Mem} : pj_Ends 9 (82, L, .int n :: .int dp :: .ref d :: .int sp :: .ref o :: st, (N, S, H)) o9 = pj_then 9 o9 (pj_g4 st (pj_set 85 L st (N, S, H) d (pj_cas (H o) (H d) sp dp n))) := pj_xt q9_82 rfl rfl (s9_82)
theorem q9_85 : pj_row 9 85 = some (.aload_n 0, 1, 0, 0, 0) := by decide +kernel
theorem s9_85 {st : List Value} {M : pj_Mem} {l : pj_Loc} {x : Nat} : pj_step 9 (85, some (.ref x) :: l, st, M) = some (86, some (.ref x) :: l, .ref x :: st, M) := st_aload_n q9_85 rfl
theorem x9_85 {st : List Value} {M : pj_Mem} {l : pj_Loc} {x : Nat} {o9 : Option Value × pj_Mem} : pj_Ends 9 (85, some (.ref x) :: l, st, M) o9 = pj_Ends 9 (86, some (.ref x) :: l, .ref x :: st, M) o9 := pj_xs (s9_85)
theorem q9_86 : pj_row 9 86 = some (.getfield 33, 3, 4, 6, 0) := by decide +kernel
theorem s9_86 {L : pj_Loc} {st : List Value} {N S : Nat} {H : pj_Heap} {o : Nat} : pj_step 9 (86, L, .ref o :: st, (N, S, H)) = pj_pv 89 L st (N, S, H) (pj_fld (H o) 4 6) := st_getfield q9_86
theorem x9_86 {L : pj_Loc} {st : List Value} {N S : Nat} {H : pj_Heap} {o : Nat} {o9 : Option Value × pj_Mem} : pj_Ends 9 (86, L, .ref o :: st, (N, S, H)) o9 = pj_then 9 o9 (pj_pv 89 L st (N, S, H) (pj_fld (H o) 4 6)) := pj_xt q9_86 rfl (pj_cl_nc rfl) (s9_86)
theorem q9_89 : pj_row 9 89 = some (.aload_n 1, 1, 0, 0, 0) := by decide +kernel
theorem s9_89 {st : List Value} {M : pj_Mem} {l : pj_Loc} {a0 : Option Value} {x : Nat} : pj_step 9 (89, a0 :: some (.ref x) :: l, st, M) = some (90, a0 :: some (.ref x) :: l, .ref x :: st, M) := st_aload_n q9_89 rfl
theorem x9_89 {st : List Value} {M : pj_Mem} {l : pj_Loc} {a0 : Option Value} {x : Nat} {o9 : Option Value × pj_Mem} : pj_Ends 9 (89, a0 :: some (.ref x) :: l, st, M) o9 = pj_Ends 9 (90, a0 :: some (.ref x) :: l, .ref x :: st, M) o9 := pj_xs (s9_89)
theorem q9_90 : pj_row 9 90 = some (.getfield 33, 3, 4, 6, 0) := by decide +kernel
theorem s9_90 {L : pj_Loc} {st : List Value} {N S : Nat} {H : pj_Heap} {o : Nat} : pj_step 9 (90, L, .ref o :: st, (N, S, H)) = pj_pv 93 L st (N, S, H) (pj_fld (H o) 4 6) := st_getfield q9_90
theorem x9_90 {L : pj_Loc} {st : List Value} {N S : Nat} {H : pj_Heap} {o : Nat} {o9 : Option Value × pj_Mem} : pj_Ends 9 (90, L, .ref o :: st, (N, S, H)) o9 = pj_then 9 o9 (pj_pv 93 L st (N, S, H) (pj_fld (H o) 4 6)) := pj_xt q9_90 rfl (pj_cl_nc rfl) (s9_90)
theorem q9_93 : pj_row 9 93 = some (.invokevirtual 50, 3, 10, 2, 0) := by decide +kernel
theorem e9_93 {L : pj_Loc} {st : List Value} {N S : Nat} {H : pj_Heap} {o : Option Value × pj_Mem} {M' : pj_Mem} {x0 : Nat} {x1 : Nat} (h4 : pj_le4 st = true) (hu : pj_isU 2 (H x0) = true) (h1 : pj_Ends 10 (0, [some (.ref x0), some (.ref x1)], [], (N, S, H)) (none, M')) (h2 : pj_Ends 9 (96, L, st, M') o) : pj_Ends 9 (93, L, .ref x1 :: .ref x0 :: st, (N, S, H)) o := ec_v2 q9_93 (Or.inl rfl) h4 hu rfl h1 h2
theorem q9_96 : pj_row 9 96 = some (.aload_n 0, 1, 0, 0, 0) := by decide +kernel
theorem s9_96 {st : List Value} {M : pj_Mem} {l : pj_Loc} {x : Nat} : pj_step 9 (96, some (.ref x) :: l, st, M) = some (97, some (.ref x) :: l, .ref x :: st, M) := st_aload_n q9_96 rfl
theorem x9_96 {st : List Value} {M : pj_Mem} {l : pj_Loc} {x : Nat} {o9 : Option Value × pj_Mem} : pj_Ends 9 (96, some (.ref x) :: l, st, M) o9 = pj_Ends 9 (97, some (.ref x) :: l, .ref x :: st, M) o9 := pj_xs (s9_96)
theorem q9_97 : pj_row 9 97 = some (.aload_n 1, 1, 0, 0, 0) := by decide +kernel
theorem s9_97 {st : List Value} {M : pj_Mem} {l : pj_Loc} {a0 : Option Value} {x : Nat} : pj_step 9 (97, a0 :: some (.ref x) :: l, st, M) = some (98, a0 :: some (.ref x) :: l, .ref x :: st, M) := st_aload_n q9_97 rfl
theorem x9_97 {st : List Value} {M : pj_Mem} {l : pj_Loc} {a0 : Option Value} {x : Nat} {o9 : Option Value × pj_Mem} : pj_Ends 9 (97, a0 :: some (.ref x) :: l, st, M) o9 = pj_Ends 9 (98, a0 :: some (.ref x) :: l, .ref x :: st, M) o9 := pj_xs (s9_97)
theorem q9_98 : pj_row 9 98 = some (.getfield 37, 3, 4, 7, 0) := by decide +kernel
theorem s9_98 {L : pj_Loc} {st : List Value} {N S : Nat} {H : pj_Heap} {o : Nat} : pj_step 9 (98, L, .ref o :: st, (N, S, H)) = pj_pv 101 L st (N, S, H) (pj_fld (H o) 4 7) := st_getfield q9_98
theorem x9_98 {L : pj_Loc} {st : List Value} {N S : Nat} {H : pj_Heap} {o : Nat} {o9 : Option Value × pj_Mem} : pj_Ends 9 (98, L, .ref o :: st, (N, S, H)) o9 = pj_then 9 o9 (pj_pv 101 L st (N, S, H) (pj_fld (H o) 4 7)) := pj_xt q9_98 rfl (pj_cl_nc rfl) (s9_98)
theorem q9_101 : pj_row 9 101 = some (.putfield 37, 3, 4, 7, 0) := by decide +kernel
theorem s9_101 {L : pj_Loc} {st : List Value} {N S : Nat} {H : pj_Heap} {o : Nat} {v : Value} : pj_step 9 (101, L, v :: .ref o :: st, (N, S, H)) = pj_set 104 L st (N, S, H) o (pj_fset (H o) 4 7 v) := st_putfield q9_101
theorem x9_101 {L : pj_Loc} {st : List Value} {N S : Nat} {H : pj_Heap} {o : Nat} {v : Value} {o9 : Option Value × pj_Mem} : pj_Ends 9 (101, L, v :: .ref o :: st, (N, S, H)) o9 = pj_then 9 o9 (pj_set 104 L st (N, S, H) o (pj_fset (H o) 4 7 v)) := pj_xt q9_101 rfl (pj_cl_nc rfl) (s9_101)
theorem q9_104 : pj_row 9 104 = some (.aload_n 0, 1, 0, 0, 0) := by decide +kernel
theorem s9_104 {st : List Value} {M : pj_Mem} {l : pj_Loc} {x : Nat} : pj_step 9 (104, some (.ref x) :: l, st, M) = some (105, some (.ref x) :: l, .ref x :: st, M) := st_aload_n q9_104 rfl
theorem x9_104 {st : List Value} {M : pj_Mem} {l : pj_Loc} {x : Nat} {o9 : Option Value × pj_Mem} : pj_Ends 9 (104, some (.ref x) :: l, st, M) o9 = pj_Ends 9 (105, some (.ref x) :: l, .ref x :: st, M) o9 := pj_xs (s9_104)
theorem q9_105 : pj_row 9 105 = some (.aload_n 1, 1, 0, 0, 0) := by decide +kernel
theorem s9_105 {st : List Value} {M : pj_Mem} {l : pj_Loc} {a0 : Option Value} {x : Nat} : pj_step 9 (105, a0 :: some (.ref x) :: l, st, M) = some (106, a0 :: some (.ref x) :: l, .ref x :: st, M) := st_aload_n q9_105 rfl
theorem x9_105 {st : List Value} {M : pj_Mem} {l : pj_Loc} {a0 : Option Value} {x : Nat} {o9 : Option Value × pj_Mem} : pj_Ends 9 (105, a0 :: some (.ref x) :: l, st, M) o9 = pj_Ends 9 (106, a0 :: some (.ref x) :: l, .ref x :: st, M) o9 := pj_xs (s9_105)
theorem q9_106 : pj_row 9 106 = some (.getfield 54, 3, 4, 8, 0) := by decide +kernel
theorem s9_106 {L : pj_Loc} {st : List Value} {N S : Nat} {H : pj_Heap} {o : Nat} : pj_step 9 (106, L, .ref o :: st, (N, S, H)) = pj_pv 109 L st (N, S, H) (pj_fld (H o) 4 8) := st_getfield q9_106
theorem x9_106 {L : pj_Loc} {st : List Value} {N S : Nat} {H : pj_Heap} {o : Nat} {o9 : Option Value × pj_Mem} : pj_Ends 9 (106, L, .ref o :: st, (N, S, H)) o9 = pj_then 9 o9 (pj_pv 109 L st (N, S, H) (pj_fld (H o) 4 8)) := pj_xt q9_106 rfl (pj_cl_nc rfl) (s9_106)
theorem q9_109 : pj_row 9 109 = some (.putfield 54, 3, 4, 8, 0) := by decide +kernel
theorem s9_109 {L : pj_Loc} {st : List Value} {N S : Nat} {H : pj_Heap} {o : Nat} {v : Value} : pj_step 9 (109, L, v :: .ref o :: st, (N, S, H)) = pj_set 112 L st (N, S, H) o (pj_fset (H o) 4 8 v) := st_putfield q9_109
theorem x9_109 {L : pj_Loc} {st : List Value} {N S : Nat} {H : pj_Heap} {o : Nat} {v : Value} {o9 : Option Value × pj_Mem} : pj_Ends 9 (109, L, v :: .ref o :: st, (N, S, H)) o9 = pj_then 9 o9 (pj_set 112 L st (N, S, H) o (pj_fset (H o) 4 8 v)) := pj_xt q9_109 rfl (pj_cl_nc rfl) (s9_109)
theorem q9_112 : pj_row 9 112 = some (.aload_n 0, 1, 0, 0, 0) := by decide +kernel
theorem s9_112 {st : List Value} {M : pj_Mem} {l : pj_Loc} {x : Nat} : pj_step 9 (112, some (.ref x) :: l, st, M) = some (113, some (.ref x) :: l, .ref x :: st, M) := st_aload_n q9_112 rfl
theorem x9_112 {st : List Value} {M : pj_Mem} {l : pj_Loc} {x : Nat} {o9 : Option Value × pj_Mem} : pj_Ends 9 (112, some (.ref x) :: l, st, M) o9 = pj_Ends 9 (113, some (.ref x) :: l, .ref x :: st, M) o9 := pj_xs (s9_112)
theorem q9_113 : pj_row 9 113 = some (.aload_n 1, 1, 0, 0, 0) := by decide +kernel
theorem s9_113 {st : List Value} {M : pj_Mem} {l : pj_Loc} {a0 : Option Value} {x : Nat} : pj_step 9 (113, a0 :: some (.ref x) :: l, st, M) = some (114, a0 :: some (.ref x) :: l, .ref x :: st, M) := st_aload_n q9_113 rfl
theorem x9_113 {st : List Value} {M : pj_Mem} {l : pj_Loc} {a0 : Option Value} {x : Nat} {o9 : Option Value × pj_Mem} : pj_Ends 9 (113, a0 :: some (.ref x) :: l, st, M) o9 = pj_Ends 9 (114, a0 :: some (.ref x) :: l, .ref x :: st, M) o9 := pj_xs (s9_113)
theorem q9_114 : pj_row 9 114 = some (.getfield 57, 3, 4, 9, 0) := by decide +kernel
theorem s9_114 {L : pj_Loc} {st : List Value} {N S : Nat} {H : pj_Heap} {o : Nat} : pj_step 9 (114, L, .ref o :: st, (N, S, H)) = pj_pv 117 L st (N, S, H) (pj_fld (H o) 4 9) := st_getfield q9_114
theorem x9_114 {L : pj_Loc} {st : List Value} {N S : Nat} {H : pj_Heap} {o : Nat} {o9 : Option Value × pj_Mem} : pj_Ends 9 (114, L, .ref o :: st, (N, S, H)) o9 = pj_then 9 o9 (pj_pv 117 L st (N, S, H) (pj_fld (H o) 4 9)) := pj_xt q9_114 rfl (pj_cl_nc rfl) (s9_114)
theorem q9_117 : pj_row 9 117 = some (.putfield 57, 3, 4, 9, 0) := by decide +kernel
theorem s9_117 {L : pj_Loc} {st : List Value} {N S : Nat} {H : pj_Heap} {o : Nat} {v : Value} : pj_step 9 (117, L, v :: .ref o :: st, (N, S, H)) = pj_set 120 L st (N, S, H) o (pj_fset (H o) 4 9 v) := st_putfield q9_117
theorem x9_117 {L : pj_Loc} {st : List Value} {N S : Nat} {H : pj_Heap} {o : Nat} {v : Value} {o9 : Option Value × pj_Mem} : pj_Ends 9 (117, L, v :: .ref o :: st, (N, S, H)) o9 = pj_then 9 o9 (pj_set 120 L st (N, S, H) o (pj_fset (H o) 4 9 v)) := pj_xt q9_117 rfl (pj_cl_nc rfl) (s9_117)
theorem q9_120 : pj_row 9 120 = some (.aload_n 0, 1, 0, 0, 0) := by decide +kernel
theorem s9_120 {st : List Value} {M : pj_Mem} {l : pj_Loc} {x : Nat} : pj_step 9 (120, some (.ref x) :: l, st, M) = some (121, some (.ref x) :: l, .ref x :: st, M) := st_aload_n q9_120 rfl
theorem x9_120 {st : List Value} {M : pj_Mem} {l : pj_Loc} {x : Nat} {o9 : Option Value × pj_Mem} : pj_Ends 9 (120, some (.ref x) :: l, st, M) o9 = pj_Ends 9 (121, some (.ref x) :: l, .ref x :: st, M) o9 := pj_xs (s9_120)
theorem q9_121 : pj_row 9 121 = some (.aload_n 1, 1, 0, 0, 0) := by decide +kernel
theorem s9_121 {st : List Value} {M : pj_Mem} {l : pj_Loc} {a0 : Option Value} {x : Nat} : pj_step 9 (121, a0 :: some (.ref x) :: l, st, M) = some (122, a0 :: some (.ref x) :: l, .ref x :: st, M) := st_aload_n q9_121 rfl
theorem x9_121 {st : List Value} {M : pj_Mem} {l : pj_Loc} {a0 : Option Value} {x : Nat} {o9 : Option Value × pj_Mem} : pj_Ends 9 (121, a0 :: some (.ref x) :: l, st, M) o9 = pj_Ends 9 (122, a0 :: some (.ref x) :: l, .ref x :: st, M) o9 := pj_xs (s9_121)
theorem q9_122 : pj_row 9 122 = some (.getfield 60, 3, 4, 10, 0) := by decide +kernel
theorem s9_122 {L : pj_Loc} {st : List Value} {N S : Nat} {H : pj_Heap} {o : Nat} : pj_step 9 (122, L, .ref o :: st, (N, S, H)) = pj_pv 125 L st (N, S, H) (pj_fld (H o) 4 10) := st_getfield q9_122
theorem x9_122 {L : pj_Loc} {st : List Value} {N S : Nat} {H : pj_Heap} {o : Nat} {o9 : Option Value × pj_Mem} : pj_Ends 9 (122, L, .ref o :: st, (N, S, H)) o9 = pj_then 9 o9 (pj_pv 125 L st (N, S, H) (pj_fld (H o) 4 10)) := pj_xt q9_122 rfl (pj_cl_nc rfl) (s9_122)
theorem q9_125 : pj_row 9 125 = some (.putfield 60, 3, 4, 10, 0) := by decide +kernel
theorem s9_125 {L : pj_Loc} {st : List Value} {N S : Nat} {H : pj_Heap} {o : Nat} {v : Value} : pj_step 9 (125, L, v :: .ref o :: st, (N, S, H)) = pj_set 128 L st (N, S, H) o (pj_fset (H o) 4 10 v) := st_putfield q9_125
theorem x9_125 {L : pj_Loc} {st : List Value} {N S : Nat} {H : pj_Heap} {o : Nat} {v : Value} {o9 : Option Value × pj_Mem} : pj_Ends 9 (125, L, v :: .ref o :: st, (N, S, H)) o9 = pj_then 9 o9 (pj_set 128 L st (N, S, H) o (pj_fset (H o) 4 10 v)) := pj_xt q9_125 rfl (pj_cl_nc rfl) (s9_125)
theorem q9_128 : pj_row 9 128 = some (.return_, 1, 0, 0, 0) := by decide +kernel
theorem t9_128 {L : pj_Loc} {M : pj_Mem} : pj_Ends 9 (128, L, [], M) (none, M) := pj_Ends.ret q9_128 (pj_rtn_v rt9)
theorem rt10 : pj_rt 10 = none := rfl
theorem q10_0 : pj_row 10 0 = some (.aload_n 1, 1, 0, 0, 0) := by decide +kernel
theorem s10_0 {st : List Value} {M : pj_Mem} {l : pj_Loc} {a0 : Option Value} {x : Nat} : pj_step 10 (0, a0 :: some (.ref x) :: l, st, M) = some (1, a0 :: some (.ref x) :: l, .ref x :: st, M) := st_aload_n q10_0 rfl
theorem x10_0 {st : List Value} {M : pj_Mem} {l : pj_Loc} {a0 : Option Value} {x : Nat} {o9 : Option Value × pj_Mem} : pj_Ends 10 (0, a0 :: some (.ref x) :: l, st, M) o9 = pj_Ends 10 (1, a0 :: some (.ref x) :: l, .ref x :: st, M) o9 := pj_xs (s10_0)
theorem q10_1 : pj_row 10 1 = some (.getfield 9, 3, 2, 0, 0) := by decide +kernel
theorem s10_1 {L : pj_Loc} {st : List Value} {N S : Nat} {H : pj_Heap} {o : Nat} : pj_step 10 (1, L, .ref o :: st, (N, S, H)) = pj_pv 4 L st (N, S, H) (pj_fld (H o) 2 0) := st_getfield q10_1
theorem x10_1 {L : pj_Loc} {st : List Value} {N S : Nat} {H : pj_Heap} {o : Nat} {o9 : Option Value × pj_Mem} : pj_Ends 10 (1, L, .ref o :: st, (N, S, H)) o9 = pj_then 10 o9 (pj_pv 4 L st (N, S, H) (pj_fld (H o) 2 0)) := pj_xt q10_1 rfl (pj_cl_nc rfl) (s10_1)
theorem q10_4 : pj_row 10 4 = some (.iconst 0, 1, 0, 0, 0) := by decide +kernel
theorem s10_4 {L : pj_Loc} {st : List Value} {M : pj_Mem}  : pj_step 10 (4, L, st, M) = some (5, L, .int 0 :: st, M) := st_iconst q10_4 (by decide +kernel)
theorem x10_4 {L : pj_Loc} {st : List Value} {M : pj_Mem}  {o9 : Option Value × pj_Mem} : pj_Ends 10 (4, L, st, M) o9 = pj_Ends 10 (5, L, .int 0 :: st, M) o9 := pj_xs (s10_4)
theorem q10_5 : pj_row 10 5 = some (.aload_n 0, 1, 0, 0, 0) := by decide +kernel
theorem s10_5 {st : List Value} {M : pj_Mem} {l : pj_Loc} {x : Nat} : pj_step 10 (5, some (.ref x) :: l, st, M) = some (6, some (.ref x) :: l, .ref x :: st, M) := st_aload_n q10_5 rfl
theorem x10_5 {st : List Value} {M : pj_Mem} {l : pj_Loc} {x : Nat} {o9 : Option Value × pj_Mem} : pj_Ends 10 (5, some (.ref x) :: l, st, M) o9 = pj_Ends 10 (6, some (.ref x) :: l, .ref x :: st, M) o9 := pj_xs (s10_5)
theorem q10_6 : pj_row 10 6 = some (.getfield 9, 3, 2, 0, 0) := by decide +kernel
theorem s10_6 {L : pj_Loc} {st : List Value} {N S : Nat} {H : pj_Heap} {o : Nat} : pj_step 10 (6, L, .ref o :: st, (N, S, H)) = pj_pv 9 L st (N, S, H) (pj_fld (H o) 2 0) := st_getfield q10_6
theorem x10_6 {L : pj_Loc} {st : List Value} {N S : Nat} {H : pj_Heap} {o : Nat} {o9 : Option Value × pj_Mem} : pj_Ends 10 (6, L, .ref o :: st, (N, S, H)) o9 = pj_then 10 o9 (pj_pv 9 L st (N, S, H) (pj_fld (H o) 2 0)) := pj_xt q10_6 rfl (pj_cl_nc rfl) (s10_6)
theorem q10_9 : pj_row 10 9 = some (.iconst 0, 1, 0, 0, 0) := by decide +kernel
theorem s10_9 {L : pj_Loc} {st : List Value} {M : pj_Mem}  : pj_step 10 (9, L, st, M) = some (10, L, .int 0 :: st, M) := st_iconst q10_9 (by decide +kernel)
theorem x10_9 {L : pj_Loc} {st : List Value} {M : pj_Mem}  {o9 : Option Value × pj_Mem} : pj_Ends 10 (9, L, st, M) o9 = pj_Ends 10 (10, L, .int 0 :: st, M) o9 := pj_xs (s10_9)
theorem q10_10 : pj_row 10 10 = some (.bipush 120, 2, 0, 0, 0) := by decide +kernel
theorem s10_10 {L : pj_Loc} {st : List Value} {M : pj_Mem}  : pj_step 10 (10, L, st, M) = some (12, L, .int 120 :: st, M) := st_bipush q10_10 (by decide +kernel)
theorem x10_10 {L : pj_Loc} {st : List Value} {M : pj_Mem}  {o9 : Option Value × pj_Mem} : pj_Ends 10 (10, L, st, M) o9 = pj_Ends 10 (12, L, .int 120 :: st, M) o9 := pj_xs (s10_10)
theorem q10_12 : pj_row 10 12 = some (.invokestatic 19, 3, 0, 5, 3) := by decide +kernel
theorem s10_12 {L : pj_Loc} {st : List Value} {N S : Nat} {H : pj_Heap} {d o : Nat} {n dp sp : Int32} : pj_step 10 (12, L, .int n :: .int dp :: .ref d :: .int sp :: .ref o :: st, (N, S, H)) = pj_g4 st (pj_set 15 L st (N, S, H) d (pj_cas (H o) (H d) sp dp n)) := st_acp q10_12
theorem x10_12 {L : pj_Loc} {st : List Value} {N S : Nat} {H : pj_Heap} {d o : Nat} {n dp sp : Int32} {o9 : Option Value × pj_Mem} : pj_Ends 10 (12, L, .int n :: .int dp :: .ref d :: .int sp :: .ref o :: st, (N, S, H)) o9 = pj_then 10 o9 (pj_g4 st (pj_set 15 L st (N, S, H) d (pj_cas (H o) (H d) sp dp n))) := pj_xt q10_12 rfl rfl (s10_12)
theorem q10_15 : pj_row 10 15 = some (.aload_n 0, 1, 0, 0, 0) := by decide +kernel
theorem s10_15 {st : List Value} {M : pj_Mem} {l : pj_Loc} {x : Nat} : pj_step 10 (15, some (.ref x) :: l, st, M) = some (16, some (.ref x) :: l, .ref x :: st, M) := st_aload_n q10_15 rfl
theorem x10_15 {st : List Value} {M : pj_Mem} {l : pj_Loc} {x : Nat} {o9 : Option Value × pj_Mem} : pj_Ends 10 (15, some (.ref x) :: l, st, M) o9 = pj_Ends 10 (16, some (.ref x) :: l, .ref x :: st, M) o9 := pj_xs (s10_15)
theorem q10_16 : pj_row 10 16 = some (.aload_n 1, 1, 0, 0, 0) := by decide +kernel
theorem s10_16 {st : List Value} {M : pj_Mem} {l : pj_Loc} {a0 : Option Value} {x : Nat} : pj_step 10 (16, a0 :: some (.ref x) :: l, st, M) = some (17, a0 :: some (.ref x) :: l, .ref x :: st, M) := st_aload_n q10_16 rfl
theorem x10_16 {st : List Value} {M : pj_Mem} {l : pj_Loc} {a0 : Option Value} {x : Nat} {o9 : Option Value × pj_Mem} : pj_Ends 10 (16, a0 :: some (.ref x) :: l, st, M) o9 = pj_Ends 10 (17, a0 :: some (.ref x) :: l, .ref x :: st, M) o9 := pj_xs (s10_16)
theorem q10_17 : pj_row 10 17 = some (.getfield 25, 3, 2, 1, 0) := by decide +kernel
theorem s10_17 {L : pj_Loc} {st : List Value} {N S : Nat} {H : pj_Heap} {o : Nat} : pj_step 10 (17, L, .ref o :: st, (N, S, H)) = pj_pv 20 L st (N, S, H) (pj_fld (H o) 2 1) := st_getfield q10_17
theorem x10_17 {L : pj_Loc} {st : List Value} {N S : Nat} {H : pj_Heap} {o : Nat} {o9 : Option Value × pj_Mem} : pj_Ends 10 (17, L, .ref o :: st, (N, S, H)) o9 = pj_then 10 o9 (pj_pv 20 L st (N, S, H) (pj_fld (H o) 2 1)) := pj_xt q10_17 rfl (pj_cl_nc rfl) (s10_17)
theorem q10_20 : pj_row 10 20 = some (.putfield 25, 3, 2, 1, 0) := by decide +kernel
theorem s10_20 {L : pj_Loc} {st : List Value} {N S : Nat} {H : pj_Heap} {o : Nat} {v : Value} : pj_step 10 (20, L, v :: .ref o :: st, (N, S, H)) = pj_set 23 L st (N, S, H) o (pj_fset (H o) 2 1 v) := st_putfield q10_20
theorem x10_20 {L : pj_Loc} {st : List Value} {N S : Nat} {H : pj_Heap} {o : Nat} {v : Value} {o9 : Option Value × pj_Mem} : pj_Ends 10 (20, L, v :: .ref o :: st, (N, S, H)) o9 = pj_then 10 o9 (pj_set 23 L st (N, S, H) o (pj_fset (H o) 2 1 v)) := pj_xt q10_20 rfl (pj_cl_nc rfl) (s10_20)
theorem q10_23 : pj_row 10 23 = some (.aload_n 0, 1, 0, 0, 0) := by decide +kernel
theorem s10_23 {st : List Value} {M : pj_Mem} {l : pj_Loc} {x : Nat} : pj_step 10 (23, some (.ref x) :: l, st, M) = some (24, some (.ref x) :: l, .ref x :: st, M) := st_aload_n q10_23 rfl
theorem x10_23 {st : List Value} {M : pj_Mem} {l : pj_Loc} {x : Nat} {o9 : Option Value × pj_Mem} : pj_Ends 10 (23, some (.ref x) :: l, st, M) o9 = pj_Ends 10 (24, some (.ref x) :: l, .ref x :: st, M) o9 := pj_xs (s10_23)
theorem q10_24 : pj_row 10 24 = some (.aload_n 1, 1, 0, 0, 0) := by decide +kernel
theorem s10_24 {st : List Value} {M : pj_Mem} {l : pj_Loc} {a0 : Option Value} {x : Nat} : pj_step 10 (24, a0 :: some (.ref x) :: l, st, M) = some (25, a0 :: some (.ref x) :: l, .ref x :: st, M) := st_aload_n q10_24 rfl
theorem x10_24 {st : List Value} {M : pj_Mem} {l : pj_Loc} {a0 : Option Value} {x : Nat} {o9 : Option Value × pj_Mem} : pj_Ends 10 (24, a0 :: some (.ref x) :: l, st, M) o9 = pj_Ends 10 (25, a0 :: some (.ref x) :: l, .ref x :: st, M) o9 := pj_xs (s10_24)
theorem q10_25 : pj_row 10 25 = some (.getfield 15, 3, 2, 2, 0) := by decide +kernel
theorem s10_25 {L : pj_Loc} {st : List Value} {N S : Nat} {H : pj_Heap} {o : Nat} : pj_step 10 (25, L, .ref o :: st, (N, S, H)) = pj_pv 28 L st (N, S, H) (pj_fld (H o) 2 2) := st_getfield q10_25
theorem x10_25 {L : pj_Loc} {st : List Value} {N S : Nat} {H : pj_Heap} {o : Nat} {o9 : Option Value × pj_Mem} : pj_Ends 10 (25, L, .ref o :: st, (N, S, H)) o9 = pj_then 10 o9 (pj_pv 28 L st (N, S, H) (pj_fld (H o) 2 2)) := pj_xt q10_25 rfl (pj_cl_nc rfl) (s10_25)
theorem q10_28 : pj_row 10 28 = some (.putfield 15, 3, 2, 2, 0) := by decide +kernel
theorem s10_28 {L : pj_Loc} {st : List Value} {N S : Nat} {H : pj_Heap} {o : Nat} {v : Value} : pj_step 10 (28, L, v :: .ref o :: st, (N, S, H)) = pj_set 31 L st (N, S, H) o (pj_fset (H o) 2 2 v) := st_putfield q10_28
theorem x10_28 {L : pj_Loc} {st : List Value} {N S : Nat} {H : pj_Heap} {o : Nat} {v : Value} {o9 : Option Value × pj_Mem} : pj_Ends 10 (28, L, v :: .ref o :: st, (N, S, H)) o9 = pj_then 10 o9 (pj_set 31 L st (N, S, H) o (pj_fset (H o) 2 2 v)) := pj_xt q10_28 rfl (pj_cl_nc rfl) (s10_28)
theorem q10_31 : pj_row 10 31 = some (.return_, 1, 0, 0, 0) := by decide +kernel
theorem t10_31 {L : pj_Loc} {M : pj_Mem} : pj_Ends 10 (31, L, [], M) (none, M) := pj_Ends.ret q10_31 (pj_rtn_v rt10)
theorem rt11 : pj_rt 11 = some .int := rfl
theorem q11_0 : pj_row 11 0 = some (.iload_n 1, 1, 0, 0, 0) := by decide +kernel
theorem s11_0 {st : List Value} {M : pj_Mem} {l : pj_Loc} {a0 : Option Value} {x : Int32} : pj_step 11 (0, a0 :: some (.int x) :: l, st, M) = some (1, a0 :: some (.int x) :: l, .int x :: st, M) := st_iload_n q11_0 rfl
theorem x11_0 {st : List Value} {M : pj_Mem} {l : pj_Loc} {a0 : Option Value} {x : Int32} {o9 : Option Value × pj_Mem} : pj_Ends 11 (0, a0 :: some (.int x) :: l, st, M) o9 = pj_Ends 11 (1, a0 :: some (.int x) :: l, .int x :: st, M) o9 := pj_xs (s11_0)
theorem q11_1 : pj_row 11 1 = some (.iload_n 2, 1, 0, 0, 0) := by decide +kernel
theorem s11_1 {st : List Value} {M : pj_Mem} {l : pj_Loc} {a0 a1 : Option Value} {x : Int32} : pj_step 11 (1, a0 :: a1 :: some (.int x) :: l, st, M) = some (2, a0 :: a1 :: some (.int x) :: l, .int x :: st, M) := st_iload_n q11_1 rfl
theorem x11_1 {st : List Value} {M : pj_Mem} {l : pj_Loc} {a0 a1 : Option Value} {x : Int32} {o9 : Option Value × pj_Mem} : pj_Ends 11 (1, a0 :: a1 :: some (.int x) :: l, st, M) o9 = pj_Ends 11 (2, a0 :: a1 :: some (.int x) :: l, .int x :: st, M) o9 := pj_xs (s11_1)
theorem q11_2 : pj_row 11 2 = some (.iload_n 3, 1, 0, 0, 0) := by decide +kernel
theorem s11_2 {st : List Value} {M : pj_Mem} {l : pj_Loc} {a0 a1 a2 : Option Value} {x : Int32} : pj_step 11 (2, a0 :: a1 :: a2 :: some (.int x) :: l, st, M) = some (3, a0 :: a1 :: a2 :: some (.int x) :: l, .int x :: st, M) := st_iload_n q11_2 rfl
theorem x11_2 {st : List Value} {M : pj_Mem} {l : pj_Loc} {a0 a1 a2 : Option Value} {x : Int32} {o9 : Option Value × pj_Mem} : pj_Ends 11 (2, a0 :: a1 :: a2 :: some (.int x) :: l, st, M) o9 = pj_Ends 11 (3, a0 :: a1 :: a2 :: some (.int x) :: l, .int x :: st, M) o9 := pj_xs (s11_2)
theorem q11_3 : pj_row 11 3 = some (.invokestatic 61, 3, 12, 3, 0) := by decide +kernel
theorem e11_3 {L : pj_Loc} {st : List Value} {N S : Nat} {H : pj_Heap} {o : Option Value × pj_Mem} {M' : pj_Mem} {x0 : Int32} {x1 : Int32} {x2 : Int32} {r : Int32} (h4 : pj_le4 st = true) (h1 : pj_Ends 12 (0, [some (.int x0), some (.int x1), some (.int x2)], [], (N, S, H)) (some (.int r), M')) (h2 : pj_Ends 11 (6, L, .int r :: st, M') o) : pj_Ends 11 (3, L, .int x2 :: .int x1 :: .int x0 :: st, (N, S, H)) o := ec_s3 q11_3 (Or.inl rfl) h4 rfl h1 h2
theorem q11_6 : pj_row 11 6 = some (.ifCond .ne 6, 3, 12, 0, 0) := by decide +kernel
theorem s11_6 {L : pj_Loc} {st : List Value} {M : pj_Mem} {x : Int32} : pj_step 11 (6, L, .int x :: st, M) = some (if ¬ x = 0 then 12 else 9, L, st, M) := st_if_ne q11_6
theorem x11_6 {L : pj_Loc} {st : List Value} {M : pj_Mem} {x : Int32} {o9 : Option Value × pj_Mem} : pj_Ends 11 (6, L, .int x :: st, M) o9 = pj_Ends 11 (if ¬ x = 0 then 12 else 9, L, st, M) o9 := pj_xs (s11_6)
theorem q11_9 : pj_row 11 9 = some (.bipush (-2), 2, 0, 0, 0) := by decide +kernel
theorem s11_9 {L : pj_Loc} {st : List Value} {M : pj_Mem}  : pj_step 11 (9, L, st, M) = some (11, L, .int (-2) :: st, M) := st_bipush q11_9 (by decide +kernel)
theorem x11_9 {L : pj_Loc} {st : List Value} {M : pj_Mem}  {o9 : Option Value × pj_Mem} : pj_Ends 11 (9, L, st, M) o9 = pj_Ends 11 (11, L, .int (-2) :: st, M) o9 := pj_xs (s11_9)
theorem q11_11 : pj_row 11 11 = some (.ireturn, 1, 0, 0, 0) := by decide +kernel
theorem t11_11 {L : pj_Loc} {M : pj_Mem} {v : Int32} : pj_Ends 11 (11, L, [.int v], M) (some (.int v), M) := pj_Ends.ret q11_11 (pj_rtn_i rt11)
theorem q11_12 : pj_row 11 12 = some (.aload_n 0, 1, 0, 0, 0) := by decide +kernel
theorem s11_12 {st : List Value} {M : pj_Mem} {l : pj_Loc} {x : Nat} : pj_step 11 (12, some (.ref x) :: l, st, M) = some (13, some (.ref x) :: l, .ref x :: st, M) := st_aload_n q11_12 rfl
theorem x11_12 {st : List Value} {M : pj_Mem} {l : pj_Loc} {x : Nat} {o9 : Option Value × pj_Mem} : pj_Ends 11 (12, some (.ref x) :: l, st, M) o9 = pj_Ends 11 (13, some (.ref x) :: l, .ref x :: st, M) o9 := pj_xs (s11_12)
theorem q11_13 : pj_row 11 13 = some (.getfield 10, 3, 5, 0, 0) := by decide +kernel
theorem s11_13 {L : pj_Loc} {st : List Value} {N S : Nat} {H : pj_Heap} {o : Nat} : pj_step 11 (13, L, .ref o :: st, (N, S, H)) = pj_pv 16 L st (N, S, H) (pj_fld (H o) 5 0) := st_getfield q11_13
theorem x11_13 {L : pj_Loc} {st : List Value} {N S : Nat} {H : pj_Heap} {o : Nat} {o9 : Option Value × pj_Mem} : pj_Ends 11 (13, L, .ref o :: st, (N, S, H)) o9 = pj_then 11 o9 (pj_pv 16 L st (N, S, H) (pj_fld (H o) 5 0)) := pj_xt q11_13 rfl (pj_cl_nc rfl) (s11_13)
theorem q11_16 : pj_row 11 16 = some (.getfield 65, 3, 4, 10, 0) := by decide +kernel
theorem s11_16 {L : pj_Loc} {st : List Value} {N S : Nat} {H : pj_Heap} {o : Nat} : pj_step 11 (16, L, .ref o :: st, (N, S, H)) = pj_pv 19 L st (N, S, H) (pj_fld (H o) 4 10) := st_getfield q11_16
theorem x11_16 {L : pj_Loc} {st : List Value} {N S : Nat} {H : pj_Heap} {o : Nat} {o9 : Option Value × pj_Mem} : pj_Ends 11 (16, L, .ref o :: st, (N, S, H)) o9 = pj_then 11 o9 (pj_pv 19 L st (N, S, H) (pj_fld (H o) 4 10)) := pj_xt q11_16 rfl (pj_cl_nc rfl) (s11_16)
theorem q11_19 : pj_row 11 19 = some (.ldc 69, 2, 0, 0, 100000) := by decide +kernel
theorem s11_19 {L : pj_Loc} {st : List Value} {M : pj_Mem}  : pj_step 11 (19, L, st, M) = some (21, L, .int 100000 :: st, M) := st_ldc q11_19 (by decide +kernel)
theorem x11_19 {L : pj_Loc} {st : List Value} {M : pj_Mem}  {o9 : Option Value × pj_Mem} : pj_Ends 11 (19, L, st, M) o9 = pj_Ends 11 (21, L, .int 100000 :: st, M) o9 := pj_xs (s11_19)
theorem q11_21 : pj_row 11 21 = some (.if_icmp .lt 6, 3, 27, 0, 0) := by decide +kernel
theorem s11_21 {L : pj_Loc} {st : List Value} {M : pj_Mem} {x y : Int32} : pj_step 11 (21, L, .int y :: .int x :: st, M) = some (if x < y then 27 else 24, L, st, M) := st_icmp_lt q11_21
theorem x11_21 {L : pj_Loc} {st : List Value} {M : pj_Mem} {x y : Int32} {o9 : Option Value × pj_Mem} : pj_Ends 11 (21, L, .int y :: .int x :: st, M) o9 = pj_Ends 11 (if x < y then 27 else 24, L, st, M) o9 := pj_xs (s11_21)
theorem q11_24 : pj_row 11 24 = some (.bipush (-4), 2, 0, 0, 0) := by decide +kernel
theorem s11_24 {L : pj_Loc} {st : List Value} {M : pj_Mem}  : pj_step 11 (24, L, st, M) = some (26, L, .int (-4) :: st, M) := st_bipush q11_24 (by decide +kernel)
theorem x11_24 {L : pj_Loc} {st : List Value} {M : pj_Mem}  {o9 : Option Value × pj_Mem} : pj_Ends 11 (24, L, st, M) o9 = pj_Ends 11 (26, L, .int (-4) :: st, M) o9 := pj_xs (s11_24)
theorem q11_26 : pj_row 11 26 = some (.ireturn, 1, 0, 0, 0) := by decide +kernel
theorem t11_26 {L : pj_Loc} {M : pj_Mem} {v : Int32} : pj_Ends 11 (26, L, [.int v], M) (some (.int v), M) := pj_Ends.ret q11_26 (pj_rtn_i rt11)
theorem q11_27 : pj_row 11 27 = some (.aload_n 0, 1, 0, 0, 0) := by decide +kernel
theorem s11_27 {st : List Value} {M : pj_Mem} {l : pj_Loc} {x : Nat} : pj_step 11 (27, some (.ref x) :: l, st, M) = some (28, some (.ref x) :: l, .ref x :: st, M) := st_aload_n q11_27 rfl
theorem x11_27 {st : List Value} {M : pj_Mem} {l : pj_Loc} {x : Nat} {o9 : Option Value × pj_Mem} : pj_Ends 11 (27, some (.ref x) :: l, st, M) o9 = pj_Ends 11 (28, some (.ref x) :: l, .ref x :: st, M) o9 := pj_xs (s11_27)
theorem q11_28 : pj_row 11 28 = some (.invokevirtual 55, 3, 8, 1, 0) := by decide +kernel
theorem e11_28 {L : pj_Loc} {st : List Value} {N S : Nat} {H : pj_Heap} {o : Option Value × pj_Mem} {M' : pj_Mem} {x0 : Nat} (h4 : pj_le4 st = true) (hu : pj_isU 5 (H x0) = true) (h1 : pj_Ends 8 (0, [some (.ref x0), none, none], [], (N, S, H)) (none, M')) (h2 : pj_Ends 11 (31, L, st, M') o) : pj_Ends 11 (28, L, .ref x0 :: st, (N, S, H)) o := ec_v1 q11_28 (Or.inl rfl) h4 hu rfl h1 h2
theorem q11_31 : pj_row 11 31 = some (.aload_n 0, 1, 0, 0, 0) := by decide +kernel
theorem s11_31 {st : List Value} {M : pj_Mem} {l : pj_Loc} {x : Nat} : pj_step 11 (31, some (.ref x) :: l, st, M) = some (32, some (.ref x) :: l, .ref x :: st, M) := st_aload_n q11_31 rfl
theorem x11_31 {st : List Value} {M : pj_Mem} {l : pj_Loc} {x : Nat} {o9 : Option Value × pj_Mem} : pj_Ends 11 (31, some (.ref x) :: l, st, M) o9 = pj_Ends 11 (32, some (.ref x) :: l, .ref x :: st, M) o9 := pj_xs (s11_31)
theorem q11_32 : pj_row 11 32 = some (.aload_n 0, 1, 0, 0, 0) := by decide +kernel
theorem s11_32 {st : List Value} {M : pj_Mem} {l : pj_Loc} {x : Nat} : pj_step 11 (32, some (.ref x) :: l, st, M) = some (33, some (.ref x) :: l, .ref x :: st, M) := st_aload_n q11_32 rfl
theorem x11_32 {st : List Value} {M : pj_Mem} {l : pj_Loc} {x : Nat} {o9 : Option Value × pj_Mem} : pj_Ends 11 (32, some (.ref x) :: l, st, M) o9 = pj_Ends 11 (33, some (.ref x) :: l, .ref x :: st, M) o9 := pj_xs (s11_32)
theorem q11_33 : pj_row 11 33 = some (.getfield 10, 3, 5, 0, 0) := by decide +kernel
theorem s11_33 {L : pj_Loc} {st : List Value} {N S : Nat} {H : pj_Heap} {o : Nat} : pj_step 11 (33, L, .ref o :: st, (N, S, H)) = pj_pv 36 L st (N, S, H) (pj_fld (H o) 5 0) := st_getfield q11_33
theorem x11_33 {L : pj_Loc} {st : List Value} {N S : Nat} {H : pj_Heap} {o : Nat} {o9 : Option Value × pj_Mem} : pj_Ends 11 (33, L, .ref o :: st, (N, S, H)) o9 = pj_then 11 o9 (pj_pv 36 L st (N, S, H) (pj_fld (H o) 5 0)) := pj_xt q11_33 rfl (pj_cl_nc rfl) (s11_33)
theorem q11_36 : pj_row 11 36 = some (.iload_n 1, 1, 0, 0, 0) := by decide +kernel
theorem s11_36 {st : List Value} {M : pj_Mem} {l : pj_Loc} {a0 : Option Value} {x : Int32} : pj_step 11 (36, a0 :: some (.int x) :: l, st, M) = some (37, a0 :: some (.int x) :: l, .int x :: st, M) := st_iload_n q11_36 rfl
theorem x11_36 {st : List Value} {M : pj_Mem} {l : pj_Loc} {a0 : Option Value} {x : Int32} {o9 : Option Value × pj_Mem} : pj_Ends 11 (36, a0 :: some (.int x) :: l, st, M) o9 = pj_Ends 11 (37, a0 :: some (.int x) :: l, .int x :: st, M) o9 := pj_xs (s11_36)
theorem q11_37 : pj_row 11 37 = some (.iload_n 2, 1, 0, 0, 0) := by decide +kernel
theorem s11_37 {st : List Value} {M : pj_Mem} {l : pj_Loc} {a0 a1 : Option Value} {x : Int32} : pj_step 11 (37, a0 :: a1 :: some (.int x) :: l, st, M) = some (38, a0 :: a1 :: some (.int x) :: l, .int x :: st, M) := st_iload_n q11_37 rfl
theorem x11_37 {st : List Value} {M : pj_Mem} {l : pj_Loc} {a0 a1 : Option Value} {x : Int32} {o9 : Option Value × pj_Mem} : pj_Ends 11 (37, a0 :: a1 :: some (.int x) :: l, st, M) o9 = pj_Ends 11 (38, a0 :: a1 :: some (.int x) :: l, .int x :: st, M) o9 := pj_xs (s11_37)
theorem q11_38 : pj_row 11 38 = some (.iload_n 3, 1, 0, 0, 0) := by decide +kernel
theorem s11_38 {st : List Value} {M : pj_Mem} {l : pj_Loc} {a0 a1 a2 : Option Value} {x : Int32} : pj_step 11 (38, a0 :: a1 :: a2 :: some (.int x) :: l, st, M) = some (39, a0 :: a1 :: a2 :: some (.int x) :: l, .int x :: st, M) := st_iload_n q11_38 rfl
theorem x11_38 {st : List Value} {M : pj_Mem} {l : pj_Loc} {a0 a1 a2 : Option Value} {x : Int32} {o9 : Option Value × pj_Mem} : pj_Ends 11 (38, a0 :: a1 :: a2 :: some (.int x) :: l, st, M) o9 = pj_Ends 11 (39, a0 :: a1 :: a2 :: some (.int x) :: l, .int x :: st, M) o9 := pj_xs (s11_38)
theorem q11_39 : pj_row 11 39 = some (.iload 4, 2, 0, 0, 0) := by decide +kernel
theorem s11_39 {st : List Value} {M : pj_Mem} {l : pj_Loc} {a0 a1 a2 a3 : Option Value} {x : Int32} : pj_step 11 (39, a0 :: a1 :: a2 :: a3 :: some (.int x) :: l, st, M) = some (41, a0 :: a1 :: a2 :: a3 :: some (.int x) :: l, .int x :: st, M) := st_iload q11_39 rfl
theorem x11_39 {st : List Value} {M : pj_Mem} {l : pj_Loc} {a0 a1 a2 a3 : Option Value} {x : Int32} {o9 : Option Value × pj_Mem} : pj_Ends 11 (39, a0 :: a1 :: a2 :: a3 :: some (.int x) :: l, st, M) o9 = pj_Ends 11 (41, a0 :: a1 :: a2 :: a3 :: some (.int x) :: l, .int x :: st, M) o9 := pj_xs (s11_39)
theorem q11_41 : pj_row 11 41 = some (.invokevirtual 70, 3, 14, 6, 0) := by decide +kernel
theorem e11_41 {L : pj_Loc} {st : List Value} {N S : Nat} {H : pj_Heap} {o : Option Value × pj_Mem} {M' : pj_Mem} {x0 : Nat} {x1 : Nat} {x2 : Int32} {x3 : Int32} {x4 : Int32} {x5 : Int32} {r : Int32} (h4 : pj_le4 st = true) (hu : pj_isU 5 (H x0) = true) (h1 : pj_Ends 14 (0, [some (.ref x0), some (.ref x1), some (.int x2), some (.int x3), some (.int x4), some (.int x5)], [], (N, S, H)) (some (.int r), M')) (h2 : pj_Ends 11 (44, L, .int r :: st, M') o) : pj_Ends 11 (41, L, .int x5 :: .int x4 :: .int x3 :: .int x2 :: .ref x1 :: .ref x0 :: st, (N, S, H)) o := ec_v6 q11_41 (Or.inl rfl) h4 hu rfl h1 h2
theorem q11_44 : pj_row 11 44 = some (.ireturn, 1, 0, 0, 0) := by decide +kernel
theorem t11_44 {L : pj_Loc} {M : pj_Mem} {v : Int32} : pj_Ends 11 (44, L, [.int v], M) (some (.int v), M) := pj_Ends.ret q11_44 (pj_rtn_i rt11)
theorem rt12 : pj_rt 12 = some .boolean := rfl
theorem q12_0 : pj_row 12 0 = some (.iload_n 0, 1, 0, 0, 0) := by decide +kernel
theorem s12_0 {st : List Value} {M : pj_Mem} {l : pj_Loc} {x : Int32} : pj_step 12 (0, some (.int x) :: l, st, M) = some (1, some (.int x) :: l, .int x :: st, M) := st_iload_n q12_0 rfl
theorem x12_0 {st : List Value} {M : pj_Mem} {l : pj_Loc} {x : Int32} {o9 : Option Value × pj_Mem} : pj_Ends 12 (0, some (.int x) :: l, st, M) o9 = pj_Ends 12 (1, some (.int x) :: l, .int x :: st, M) o9 := pj_xs (s12_0)
theorem q12_1 : pj_row 12 1 = some (.invokestatic 169, 3, 13, 1, 0) := by decide +kernel
theorem e12_1 {L : pj_Loc} {st : List Value} {N S : Nat} {H : pj_Heap} {o : Option Value × pj_Mem} {M' : pj_Mem} {x0 : Int32} {r : Int32} (h4 : pj_le4 st = true) (h1 : pj_Ends 13 (0, [some (.int x0)], [], (N, S, H)) (some (.int r), M')) (h2 : pj_Ends 12 (4, L, .int r :: st, M') o) : pj_Ends 12 (1, L, .int x0 :: st, (N, S, H)) o := ec_s1 q12_1 (Or.inl rfl) h4 rfl h1 h2
theorem q12_4 : pj_row 12 4 = some (.ifCond .eq 21, 3, 25, 0, 0) := by decide +kernel
theorem s12_4 {L : pj_Loc} {st : List Value} {M : pj_Mem} {x : Int32} : pj_step 12 (4, L, .int x :: st, M) = some (if x = 0 then 25 else 7, L, st, M) := st_if_eq q12_4
theorem x12_4 {L : pj_Loc} {st : List Value} {M : pj_Mem} {x : Int32} {o9 : Option Value × pj_Mem} : pj_Ends 12 (4, L, .int x :: st, M) o9 = pj_Ends 12 (if x = 0 then 25 else 7, L, st, M) o9 := pj_xs (s12_4)
theorem q12_7 : pj_row 12 7 = some (.iload_n 1, 1, 0, 0, 0) := by decide +kernel
theorem s12_7 {st : List Value} {M : pj_Mem} {l : pj_Loc} {a0 : Option Value} {x : Int32} : pj_step 12 (7, a0 :: some (.int x) :: l, st, M) = some (8, a0 :: some (.int x) :: l, .int x :: st, M) := st_iload_n q12_7 rfl
theorem x12_7 {st : List Value} {M : pj_Mem} {l : pj_Loc} {a0 : Option Value} {x : Int32} {o9 : Option Value × pj_Mem} : pj_Ends 12 (7, a0 :: some (.int x) :: l, st, M) o9 = pj_Ends 12 (8, a0 :: some (.int x) :: l, .int x :: st, M) o9 := pj_xs (s12_7)
theorem q12_8 : pj_row 12 8 = some (.invokestatic 169, 3, 13, 1, 0) := by decide +kernel
theorem e12_8 {L : pj_Loc} {st : List Value} {N S : Nat} {H : pj_Heap} {o : Option Value × pj_Mem} {M' : pj_Mem} {x0 : Int32} {r : Int32} (h4 : pj_le4 st = true) (h1 : pj_Ends 13 (0, [some (.int x0)], [], (N, S, H)) (some (.int r), M')) (h2 : pj_Ends 12 (11, L, .int r :: st, M') o) : pj_Ends 12 (8, L, .int x0 :: st, (N, S, H)) o := ec_s1 q12_8 (Or.inl rfl) h4 rfl h1 h2
theorem q12_11 : pj_row 12 11 = some (.ifCond .eq 14, 3, 25, 0, 0) := by decide +kernel
theorem s12_11 {L : pj_Loc} {st : List Value} {M : pj_Mem} {x : Int32} : pj_step 12 (11, L, .int x :: st, M) = some (if x = 0 then 25 else 14, L, st, M) := st_if_eq q12_11
theorem x12_11 {L : pj_Loc} {st : List Value} {M : pj_Mem} {x : Int32} {o9 : Option Value × pj_Mem} : pj_Ends 12 (11, L, .int x :: st, M) o9 = pj_Ends 12 (if x = 0 then 25 else 14, L, st, M) o9 := pj_xs (s12_11)
theorem q12_14 : pj_row 12 14 = some (.iload_n 2, 1, 0, 0, 0) := by decide +kernel
theorem s12_14 {st : List Value} {M : pj_Mem} {l : pj_Loc} {a0 a1 : Option Value} {x : Int32} : pj_step 12 (14, a0 :: a1 :: some (.int x) :: l, st, M) = some (15, a0 :: a1 :: some (.int x) :: l, .int x :: st, M) := st_iload_n q12_14 rfl
theorem x12_14 {st : List Value} {M : pj_Mem} {l : pj_Loc} {a0 a1 : Option Value} {x : Int32} {o9 : Option Value × pj_Mem} : pj_Ends 12 (14, a0 :: a1 :: some (.int x) :: l, st, M) o9 = pj_Ends 12 (15, a0 :: a1 :: some (.int x) :: l, .int x :: st, M) o9 := pj_xs (s12_14)
theorem q12_15 : pj_row 12 15 = some (.invokestatic 169, 3, 13, 1, 0) := by decide +kernel
theorem e12_15 {L : pj_Loc} {st : List Value} {N S : Nat} {H : pj_Heap} {o : Option Value × pj_Mem} {M' : pj_Mem} {x0 : Int32} {r : Int32} (h4 : pj_le4 st = true) (h1 : pj_Ends 13 (0, [some (.int x0)], [], (N, S, H)) (some (.int r), M')) (h2 : pj_Ends 12 (18, L, .int r :: st, M') o) : pj_Ends 12 (15, L, .int x0 :: st, (N, S, H)) o := ec_s1 q12_15 (Or.inl rfl) h4 rfl h1 h2
theorem q12_18 : pj_row 12 18 = some (.ifCond .eq 7, 3, 25, 0, 0) := by decide +kernel
theorem s12_18 {L : pj_Loc} {st : List Value} {M : pj_Mem} {x : Int32} : pj_step 12 (18, L, .int x :: st, M) = some (if x = 0 then 25 else 21, L, st, M) := st_if_eq q12_18
theorem x12_18 {L : pj_Loc} {st : List Value} {M : pj_Mem} {x : Int32} {o9 : Option Value × pj_Mem} : pj_Ends 12 (18, L, .int x :: st, M) o9 = pj_Ends 12 (if x = 0 then 25 else 21, L, st, M) o9 := pj_xs (s12_18)
theorem q12_21 : pj_row 12 21 = some (.iconst 1, 1, 0, 0, 0) := by decide +kernel
theorem s12_21 {L : pj_Loc} {st : List Value} {M : pj_Mem}  : pj_step 12 (21, L, st, M) = some (22, L, .int 1 :: st, M) := st_iconst q12_21 (by decide +kernel)
theorem x12_21 {L : pj_Loc} {st : List Value} {M : pj_Mem}  {o9 : Option Value × pj_Mem} : pj_Ends 12 (21, L, st, M) o9 = pj_Ends 12 (22, L, .int 1 :: st, M) o9 := pj_xs (s12_21)
theorem q12_22 : pj_row 12 22 = some (.goto 4, 3, 26, 0, 0) := by decide +kernel
theorem s12_22 {L : pj_Loc} {st : List Value} {M : pj_Mem}  : pj_step 12 (22, L, st, M) = some (26, L, st, M) := st_goto q12_22
theorem x12_22 {L : pj_Loc} {st : List Value} {M : pj_Mem}  {o9 : Option Value × pj_Mem} : pj_Ends 12 (22, L, st, M) o9 = pj_Ends 12 (26, L, st, M) o9 := pj_xs (s12_22)
theorem q12_25 : pj_row 12 25 = some (.iconst 0, 1, 0, 0, 0) := by decide +kernel
theorem s12_25 {L : pj_Loc} {st : List Value} {M : pj_Mem}  : pj_step 12 (25, L, st, M) = some (26, L, .int 0 :: st, M) := st_iconst q12_25 (by decide +kernel)
theorem x12_25 {L : pj_Loc} {st : List Value} {M : pj_Mem}  {o9 : Option Value × pj_Mem} : pj_Ends 12 (25, L, st, M) o9 = pj_Ends 12 (26, L, .int 0 :: st, M) o9 := pj_xs (s12_25)
theorem q12_26 : pj_row 12 26 = some (.ireturn, 1, 0, 0, 0) := by decide +kernel
theorem t12_26 {L : pj_Loc} {M : pj_Mem} {v : Int32} (hv : v = 0 ∨ v = 1) : pj_Ends 12 (26, L, [.int v], M) (some (.int v), M) := pj_Ends.ret q12_26 (pj_rtn_z rt12 hv)
theorem rt13 : pj_rt 13 = some .boolean := rfl
theorem q13_0 : pj_row 13 0 = some (.iload_n 0, 1, 0, 0, 0) := by decide +kernel
theorem s13_0 {st : List Value} {M : pj_Mem} {l : pj_Loc} {x : Int32} : pj_step 13 (0, some (.int x) :: l, st, M) = some (1, some (.int x) :: l, .int x :: st, M) := st_iload_n q13_0 rfl
theorem x13_0 {st : List Value} {M : pj_Mem} {l : pj_Loc} {x : Int32} {o9 : Option Value × pj_Mem} : pj_Ends 13 (0, some (.int x) :: l, st, M) o9 = pj_Ends 13 (1, some (.int x) :: l, .int x :: st, M) o9 := pj_xs (s13_0)
theorem q13_1 : pj_row 13 1 = some (.sipush (-500), 3, 0, 0, 0) := by decide +kernel
theorem s13_1 {L : pj_Loc} {st : List Value} {M : pj_Mem}  : pj_step 13 (1, L, st, M) = some (4, L, .int (-500) :: st, M) := st_sipush q13_1 (by decide +kernel)
theorem x13_1 {L : pj_Loc} {st : List Value} {M : pj_Mem}  {o9 : Option Value × pj_Mem} : pj_Ends 13 (1, L, st, M) o9 = pj_Ends 13 (4, L, .int (-500) :: st, M) o9 := pj_xs (s13_1)
theorem q13_4 : pj_row 13 4 = some (.if_icmp .lt 14, 3, 18, 0, 0) := by decide +kernel
theorem s13_4 {L : pj_Loc} {st : List Value} {M : pj_Mem} {x y : Int32} : pj_step 13 (4, L, .int y :: .int x :: st, M) = some (if x < y then 18 else 7, L, st, M) := st_icmp_lt q13_4
theorem x13_4 {L : pj_Loc} {st : List Value} {M : pj_Mem} {x y : Int32} {o9 : Option Value × pj_Mem} : pj_Ends 13 (4, L, .int y :: .int x :: st, M) o9 = pj_Ends 13 (if x < y then 18 else 7, L, st, M) o9 := pj_xs (s13_4)
theorem q13_7 : pj_row 13 7 = some (.iload_n 0, 1, 0, 0, 0) := by decide +kernel
theorem s13_7 {st : List Value} {M : pj_Mem} {l : pj_Loc} {x : Int32} : pj_step 13 (7, some (.int x) :: l, st, M) = some (8, some (.int x) :: l, .int x :: st, M) := st_iload_n q13_7 rfl
theorem x13_7 {st : List Value} {M : pj_Mem} {l : pj_Loc} {x : Int32} {o9 : Option Value × pj_Mem} : pj_Ends 13 (7, some (.int x) :: l, st, M) o9 = pj_Ends 13 (8, some (.int x) :: l, .int x :: st, M) o9 := pj_xs (s13_7)
theorem q13_8 : pj_row 13 8 = some (.sipush 500, 3, 0, 0, 0) := by decide +kernel
theorem s13_8 {L : pj_Loc} {st : List Value} {M : pj_Mem}  : pj_step 13 (8, L, st, M) = some (11, L, .int 500 :: st, M) := st_sipush q13_8 (by decide +kernel)
theorem x13_8 {L : pj_Loc} {st : List Value} {M : pj_Mem}  {o9 : Option Value × pj_Mem} : pj_Ends 13 (8, L, st, M) o9 = pj_Ends 13 (11, L, .int 500 :: st, M) o9 := pj_xs (s13_8)
theorem q13_11 : pj_row 13 11 = some (.if_icmp .gt 7, 3, 18, 0, 0) := by decide +kernel
theorem s13_11 {L : pj_Loc} {st : List Value} {M : pj_Mem} {x y : Int32} : pj_step 13 (11, L, .int y :: .int x :: st, M) = some (if y < x then 18 else 14, L, st, M) := st_icmp_gt q13_11
theorem x13_11 {L : pj_Loc} {st : List Value} {M : pj_Mem} {x y : Int32} {o9 : Option Value × pj_Mem} : pj_Ends 13 (11, L, .int y :: .int x :: st, M) o9 = pj_Ends 13 (if y < x then 18 else 14, L, st, M) o9 := pj_xs (s13_11)
theorem q13_14 : pj_row 13 14 = some (.iconst 1, 1, 0, 0, 0) := by decide +kernel
theorem s13_14 {L : pj_Loc} {st : List Value} {M : pj_Mem}  : pj_step 13 (14, L, st, M) = some (15, L, .int 1 :: st, M) := st_iconst q13_14 (by decide +kernel)
theorem x13_14 {L : pj_Loc} {st : List Value} {M : pj_Mem}  {o9 : Option Value × pj_Mem} : pj_Ends 13 (14, L, st, M) o9 = pj_Ends 13 (15, L, .int 1 :: st, M) o9 := pj_xs (s13_14)
theorem q13_15 : pj_row 13 15 = some (.goto 4, 3, 19, 0, 0) := by decide +kernel
theorem s13_15 {L : pj_Loc} {st : List Value} {M : pj_Mem}  : pj_step 13 (15, L, st, M) = some (19, L, st, M) := st_goto q13_15
theorem x13_15 {L : pj_Loc} {st : List Value} {M : pj_Mem}  {o9 : Option Value × pj_Mem} : pj_Ends 13 (15, L, st, M) o9 = pj_Ends 13 (19, L, st, M) o9 := pj_xs (s13_15)
theorem q13_18 : pj_row 13 18 = some (.iconst 0, 1, 0, 0, 0) := by decide +kernel
theorem s13_18 {L : pj_Loc} {st : List Value} {M : pj_Mem}  : pj_step 13 (18, L, st, M) = some (19, L, .int 0 :: st, M) := st_iconst q13_18 (by decide +kernel)
theorem x13_18 {L : pj_Loc} {st : List Value} {M : pj_Mem}  {o9 : Option Value × pj_Mem} : pj_Ends 13 (18, L, st, M) o9 = pj_Ends 13 (19, L, .int 0 :: st, M) o9 := pj_xs (s13_18)
theorem q13_19 : pj_row 13 19 = some (.ireturn, 1, 0, 0, 0) := by decide +kernel
theorem t13_19 {L : pj_Loc} {M : pj_Mem} {v : Int32} (hv : v = 0 ∨ v = 1) : pj_Ends 13 (19, L, [.int v], M) (some (.int v), M) := pj_Ends.ret q13_19 (pj_rtn_z rt13 hv)
theorem rt14 : pj_rt 14 = some .int := rfl
theorem q14_0 : pj_row 14 0 = some (.aload_n 0, 1, 0, 0, 0) := by decide +kernel
theorem s14_0 {st : List Value} {M : pj_Mem} {l : pj_Loc} {x : Nat} : pj_step 14 (0, some (.ref x) :: l, st, M) = some (1, some (.ref x) :: l, .ref x :: st, M) := st_aload_n q14_0 rfl
theorem x14_0 {st : List Value} {M : pj_Mem} {l : pj_Loc} {x : Nat} {o9 : Option Value × pj_Mem} : pj_Ends 14 (0, some (.ref x) :: l, st, M) o9 = pj_Ends 14 (1, some (.ref x) :: l, .ref x :: st, M) o9 := pj_xs (s14_0)
theorem q14_1 : pj_row 14 1 = some (.getfield 22, 3, 5, 2, 0) := by decide +kernel
theorem s14_1 {L : pj_Loc} {st : List Value} {N S : Nat} {H : pj_Heap} {o : Nat} : pj_step 14 (1, L, .ref o :: st, (N, S, H)) = pj_pv 4 L st (N, S, H) (pj_fld (H o) 5 2) := st_getfield q14_1
theorem x14_1 {L : pj_Loc} {st : List Value} {N S : Nat} {H : pj_Heap} {o : Nat} {o9 : Option Value × pj_Mem} : pj_Ends 14 (1, L, .ref o :: st, (N, S, H)) o9 = pj_then 14 o9 (pj_pv 4 L st (N, S, H) (pj_fld (H o) 5 2)) := pj_xt q14_1 rfl (pj_cl_nc rfl) (s14_1)
theorem q14_4 : pj_row 14 4 = some (.aload_n 1, 1, 0, 0, 0) := by decide +kernel
theorem s14_4 {st : List Value} {M : pj_Mem} {l : pj_Loc} {a0 : Option Value} {x : Nat} : pj_step 14 (4, a0 :: some (.ref x) :: l, st, M) = some (5, a0 :: some (.ref x) :: l, .ref x :: st, M) := st_aload_n q14_4 rfl
theorem x14_4 {st : List Value} {M : pj_Mem} {l : pj_Loc} {a0 : Option Value} {x : Nat} {o9 : Option Value × pj_Mem} : pj_Ends 14 (4, a0 :: some (.ref x) :: l, st, M) o9 = pj_Ends 14 (5, a0 :: some (.ref x) :: l, .ref x :: st, M) o9 := pj_xs (s14_4)
theorem q14_5 : pj_row 14 5 = some (.iload_n 2, 1, 0, 0, 0) := by decide +kernel
theorem s14_5 {st : List Value} {M : pj_Mem} {l : pj_Loc} {a0 a1 : Option Value} {x : Int32} : pj_step 14 (5, a0 :: a1 :: some (.int x) :: l, st, M) = some (6, a0 :: a1 :: some (.int x) :: l, .int x :: st, M) := st_iload_n q14_5 rfl
theorem x14_5 {st : List Value} {M : pj_Mem} {l : pj_Loc} {a0 a1 : Option Value} {x : Int32} {o9 : Option Value × pj_Mem} : pj_Ends 14 (5, a0 :: a1 :: some (.int x) :: l, st, M) o9 = pj_Ends 14 (6, a0 :: a1 :: some (.int x) :: l, .int x :: st, M) o9 := pj_xs (s14_5)
theorem q14_6 : pj_row 14 6 = some (.iload_n 3, 1, 0, 0, 0) := by decide +kernel
theorem s14_6 {st : List Value} {M : pj_Mem} {l : pj_Loc} {a0 a1 a2 : Option Value} {x : Int32} : pj_step 14 (6, a0 :: a1 :: a2 :: some (.int x) :: l, st, M) = some (7, a0 :: a1 :: a2 :: some (.int x) :: l, .int x :: st, M) := st_iload_n q14_6 rfl
theorem x14_6 {st : List Value} {M : pj_Mem} {l : pj_Loc} {a0 a1 a2 : Option Value} {x : Int32} {o9 : Option Value × pj_Mem} : pj_Ends 14 (6, a0 :: a1 :: a2 :: some (.int x) :: l, st, M) o9 = pj_Ends 14 (7, a0 :: a1 :: a2 :: some (.int x) :: l, .int x :: st, M) o9 := pj_xs (s14_6)
theorem q14_7 : pj_row 14 7 = some (.iload 4, 2, 0, 0, 0) := by decide +kernel
theorem s14_7 {st : List Value} {M : pj_Mem} {l : pj_Loc} {a0 a1 a2 a3 : Option Value} {x : Int32} : pj_step 14 (7, a0 :: a1 :: a2 :: a3 :: some (.int x) :: l, st, M) = some (9, a0 :: a1 :: a2 :: a3 :: some (.int x) :: l, .int x :: st, M) := st_iload q14_7 rfl
theorem x14_7 {st : List Value} {M : pj_Mem} {l : pj_Loc} {a0 a1 a2 a3 : Option Value} {x : Int32} {o9 : Option Value × pj_Mem} : pj_Ends 14 (7, a0 :: a1 :: a2 :: a3 :: some (.int x) :: l, st, M) o9 = pj_Ends 14 (9, a0 :: a1 :: a2 :: a3 :: some (.int x) :: l, .int x :: st, M) o9 := pj_xs (s14_7)
theorem q14_9 : pj_row 14 9 = some (.iload 5, 2, 0, 0, 0) := by decide +kernel
theorem s14_9 {st : List Value} {M : pj_Mem} {l : pj_Loc} {a0 a1 a2 a3 a4 : Option Value} {x : Int32} : pj_step 14 (9, a0 :: a1 :: a2 :: a3 :: a4 :: some (.int x) :: l, st, M) = some (11, a0 :: a1 :: a2 :: a3 :: a4 :: some (.int x) :: l, .int x :: st, M) := st_iload q14_9 rfl
theorem x14_9 {st : List Value} {M : pj_Mem} {l : pj_Loc} {a0 a1 a2 a3 a4 : Option Value} {x : Int32} {o9 : Option Value × pj_Mem} : pj_Ends 14 (9, a0 :: a1 :: a2 :: a3 :: a4 :: some (.int x) :: l, st, M) o9 = pj_Ends 14 (11, a0 :: a1 :: a2 :: a3 :: a4 :: some (.int x) :: l, .int x :: st, M) o9 := pj_xs (s14_9)
theorem q14_11 : pj_row 14 11 = some (.invokevirtual 151, 3, 15, 6, 0) := by decide +kernel
theorem e14_11 {L : pj_Loc} {st : List Value} {N S : Nat} {H : pj_Heap} {o : Option Value × pj_Mem} {M' : pj_Mem} {x0 : Nat} {x1 : Nat} {x2 : Int32} {x3 : Int32} {x4 : Int32} {x5 : Int32} (h4 : pj_le4 st = true) (hu : pj_isU 3 (H x0) = true) (h1 : pj_Ends 15 (0, [some (.ref x0), some (.ref x1), some (.int x2), some (.int x3), some (.int x4), some (.int x5)], [], (N, S, H)) (none, M')) (h2 : pj_Ends 14 (14, L, st, M') o) : pj_Ends 14 (11, L, .int x5 :: .int x4 :: .int x3 :: .int x2 :: .ref x1 :: .ref x0 :: st, (N, S, H)) o := ec_v6 q14_11 (Or.inl rfl) h4 hu rfl h1 h2
theorem q14_14 : pj_row 14 14 = some (.aload_n 1, 1, 0, 0, 0) := by decide +kernel
theorem s14_14 {st : List Value} {M : pj_Mem} {l : pj_Loc} {a0 : Option Value} {x : Nat} : pj_step 14 (14, a0 :: some (.ref x) :: l, st, M) = some (15, a0 :: some (.ref x) :: l, .ref x :: st, M) := st_aload_n q14_14 rfl
theorem x14_14 {st : List Value} {M : pj_Mem} {l : pj_Loc} {a0 : Option Value} {x : Nat} {o9 : Option Value × pj_Mem} : pj_Ends 14 (14, a0 :: some (.ref x) :: l, st, M) o9 = pj_Ends 14 (15, a0 :: some (.ref x) :: l, .ref x :: st, M) o9 := pj_xs (s14_14)
theorem q14_15 : pj_row 14 15 = some (.aload_n 0, 1, 0, 0, 0) := by decide +kernel
theorem s14_15 {st : List Value} {M : pj_Mem} {l : pj_Loc} {x : Nat} : pj_step 14 (15, some (.ref x) :: l, st, M) = some (16, some (.ref x) :: l, .ref x :: st, M) := st_aload_n q14_15 rfl
theorem x14_15 {st : List Value} {M : pj_Mem} {l : pj_Loc} {x : Nat} {o9 : Option Value × pj_Mem} : pj_Ends 14 (15, some (.ref x) :: l, st, M) o9 = pj_Ends 14 (16, some (.ref x) :: l, .ref x :: st, M) o9 := pj_xs (s14_15)
theorem q14_16 : pj_row 14 16 = some (.getfield 22, 3, 5, 2, 0) := by decide +kernel
theorem s14_16 {L : pj_Loc} {st : List Value} {N S : Nat} {H : pj_Heap} {o : Nat} : pj_step 14 (16, L, .ref o :: st, (N, S, H)) = pj_pv 19 L st (N, S, H) (pj_fld (H o) 5 2) := st_getfield q14_16
theorem x14_16 {L : pj_Loc} {st : List Value} {N S : Nat} {H : pj_Heap} {o : Nat} {o9 : Option Value × pj_Mem} : pj_Ends 14 (16, L, .ref o :: st, (N, S, H)) o9 = pj_then 14 o9 (pj_pv 19 L st (N, S, H) (pj_fld (H o) 5 2)) := pj_xt q14_16 rfl (pj_cl_nc rfl) (s14_16)
theorem q14_19 : pj_row 14 19 = some (.invokevirtual 215, 3, 32, 2, 0) := by decide +kernel
theorem e14_19 {L : pj_Loc} {st : List Value} {N S : Nat} {H : pj_Heap} {o : Option Value × pj_Mem} {M' : pj_Mem} {x0 : Nat} {x1 : Nat} (h4 : pj_le4 st = true) (hu : pj_isU 4 (H x0) = true) (h1 : pj_Ends 32 (0, [some (.ref x0), some (.ref x1)], [], (N, S, H)) (none, M')) (h2 : pj_Ends 14 (22, L, st, M') o) : pj_Ends 14 (19, L, .ref x1 :: .ref x0 :: st, (N, S, H)) o := ec_v2 q14_19 (Or.inl rfl) h4 hu rfl h1 h2
theorem q14_22 : pj_row 14 22 = some (.aload_n 0, 1, 0, 0, 0) := by decide +kernel
theorem s14_22 {st : List Value} {M : pj_Mem} {l : pj_Loc} {x : Nat} : pj_step 14 (22, some (.ref x) :: l, st, M) = some (23, some (.ref x) :: l, .ref x :: st, M) := st_aload_n q14_22 rfl
theorem x14_22 {st : List Value} {M : pj_Mem} {l : pj_Loc} {x : Nat} {o9 : Option Value × pj_Mem} : pj_Ends 14 (22, some (.ref x) :: l, st, M) o9 = pj_Ends 14 (23, some (.ref x) :: l, .ref x :: st, M) o9 := pj_xs (s14_22)
theorem q14_23 : pj_row 14 23 = some (.getfield 22, 3, 5, 2, 0) := by decide +kernel
theorem s14_23 {L : pj_Loc} {st : List Value} {N S : Nat} {H : pj_Heap} {o : Nat} : pj_step 14 (23, L, .ref o :: st, (N, S, H)) = pj_pv 26 L st (N, S, H) (pj_fld (H o) 5 2) := st_getfield q14_23
theorem x14_23 {L : pj_Loc} {st : List Value} {N S : Nat} {H : pj_Heap} {o : Nat} {o9 : Option Value × pj_Mem} : pj_Ends 14 (23, L, .ref o :: st, (N, S, H)) o9 = pj_then 14 o9 (pj_pv 26 L st (N, S, H) (pj_fld (H o) 5 2)) := pj_xt q14_23 rfl (pj_cl_nc rfl) (s14_23)
theorem q14_26 : pj_row 14 26 = some (.getfield 155, 3, 3, 13, 0) := by decide +kernel
theorem s14_26 {L : pj_Loc} {st : List Value} {N S : Nat} {H : pj_Heap} {o : Nat} : pj_step 14 (26, L, .ref o :: st, (N, S, H)) = pj_pv 29 L st (N, S, H) (pj_fld (H o) 3 13) := st_getfield q14_26
theorem x14_26 {L : pj_Loc} {st : List Value} {N S : Nat} {H : pj_Heap} {o : Nat} {o9 : Option Value × pj_Mem} : pj_Ends 14 (26, L, .ref o :: st, (N, S, H)) o9 = pj_then 14 o9 (pj_pv 29 L st (N, S, H) (pj_fld (H o) 3 13)) := pj_xt q14_26 rfl (pj_cl_nc rfl) (s14_26)
theorem q14_29 : pj_row 14 29 = some (.ireturn, 1, 0, 0, 0) := by decide +kernel
theorem t14_29 {L : pj_Loc} {M : pj_Mem} {v : Int32} : pj_Ends 14 (29, L, [.int v], M) (some (.int v), M) := pj_Ends.ret q14_29 (pj_rtn_i rt14)
theorem rt15 : pj_rt 15 = none := rfl
theorem q15_0 : pj_row 15 0 = some (.aload_n 0, 1, 0, 0, 0) := by decide +kernel
theorem s15_0 {st : List Value} {M : pj_Mem} {l : pj_Loc} {x : Nat} : pj_step 15 (0, some (.ref x) :: l, st, M) = some (1, some (.ref x) :: l, .ref x :: st, M) := st_aload_n q15_0 rfl
theorem x15_0 {st : List Value} {M : pj_Mem} {l : pj_Loc} {x : Nat} {o9 : Option Value × pj_Mem} : pj_Ends 15 (0, some (.ref x) :: l, st, M) o9 = pj_Ends 15 (1, some (.ref x) :: l, .ref x :: st, M) o9 := pj_xs (s15_0)
theorem q15_1 : pj_row 15 1 = some (.aload_n 1, 1, 0, 0, 0) := by decide +kernel
theorem s15_1 {st : List Value} {M : pj_Mem} {l : pj_Loc} {a0 : Option Value} {x : Nat} : pj_step 15 (1, a0 :: some (.ref x) :: l, st, M) = some (2, a0 :: some (.ref x) :: l, .ref x :: st, M) := st_aload_n q15_1 rfl
theorem x15_1 {st : List Value} {M : pj_Mem} {l : pj_Loc} {a0 : Option Value} {x : Nat} {o9 : Option Value × pj_Mem} : pj_Ends 15 (1, a0 :: some (.ref x) :: l, st, M) o9 = pj_Ends 15 (2, a0 :: some (.ref x) :: l, .ref x :: st, M) o9 := pj_xs (s15_1)
theorem q15_2 : pj_row 15 2 = some (.getfield 30, 3, 4, 10, 0) := by decide +kernel
theorem s15_2 {L : pj_Loc} {st : List Value} {N S : Nat} {H : pj_Heap} {o : Nat} : pj_step 15 (2, L, .ref o :: st, (N, S, H)) = pj_pv 5 L st (N, S, H) (pj_fld (H o) 4 10) := st_getfield q15_2
theorem x15_2 {L : pj_Loc} {st : List Value} {N S : Nat} {H : pj_Heap} {o : Nat} {o9 : Option Value × pj_Mem} : pj_Ends 15 (2, L, .ref o :: st, (N, S, H)) o9 = pj_then 15 o9 (pj_pv 5 L st (N, S, H) (pj_fld (H o) 4 10)) := pj_xt q15_2 rfl (pj_cl_nc rfl) (s15_2)
theorem q15_5 : pj_row 15 5 = some (.putfield 36, 3, 3, 7, 0) := by decide +kernel
theorem s15_5 {L : pj_Loc} {st : List Value} {N S : Nat} {H : pj_Heap} {o : Nat} {v : Value} : pj_step 15 (5, L, v :: .ref o :: st, (N, S, H)) = pj_set 8 L st (N, S, H) o (pj_fset (H o) 3 7 v) := st_putfield q15_5
theorem x15_5 {L : pj_Loc} {st : List Value} {N S : Nat} {H : pj_Heap} {o : Nat} {v : Value} {o9 : Option Value × pj_Mem} : pj_Ends 15 (5, L, v :: .ref o :: st, (N, S, H)) o9 = pj_then 15 o9 (pj_set 8 L st (N, S, H) o (pj_fset (H o) 3 7 v)) := pj_xt q15_5 rfl (pj_cl_nc rfl) (s15_5)
theorem q15_8 : pj_row 15 8 = some (.aload_n 0, 1, 0, 0, 0) := by decide +kernel
theorem s15_8 {st : List Value} {M : pj_Mem} {l : pj_Loc} {x : Nat} : pj_step 15 (8, some (.ref x) :: l, st, M) = some (9, some (.ref x) :: l, .ref x :: st, M) := st_aload_n q15_8 rfl
theorem x15_8 {st : List Value} {M : pj_Mem} {l : pj_Loc} {x : Nat} {o9 : Option Value × pj_Mem} : pj_Ends 15 (8, some (.ref x) :: l, st, M) o9 = pj_Ends 15 (9, some (.ref x) :: l, .ref x :: st, M) o9 := pj_xs (s15_8)
theorem q15_9 : pj_row 15 9 = some (.getfield 9, 3, 3, 0, 0) := by decide +kernel
theorem s15_9 {L : pj_Loc} {st : List Value} {N S : Nat} {H : pj_Heap} {o : Nat} : pj_step 15 (9, L, .ref o :: st, (N, S, H)) = pj_pv 12 L st (N, S, H) (pj_fld (H o) 3 0) := st_getfield q15_9
theorem x15_9 {L : pj_Loc} {st : List Value} {N S : Nat} {H : pj_Heap} {o : Nat} {o9 : Option Value × pj_Mem} : pj_Ends 15 (9, L, .ref o :: st, (N, S, H)) o9 = pj_then 15 o9 (pj_pv 12 L st (N, S, H) (pj_fld (H o) 3 0)) := pj_xt q15_9 rfl (pj_cl_nc rfl) (s15_9)
theorem q15_12 : pj_row 15 12 = some (.iconst 0, 1, 0, 0, 0) := by decide +kernel
theorem s15_12 {L : pj_Loc} {st : List Value} {M : pj_Mem}  : pj_step 15 (12, L, st, M) = some (13, L, .int 0 :: st, M) := st_iconst q15_12 (by decide +kernel)
theorem x15_12 {L : pj_Loc} {st : List Value} {M : pj_Mem}  {o9 : Option Value × pj_Mem} : pj_Ends 15 (12, L, st, M) o9 = pj_Ends 15 (13, L, .int 0 :: st, M) o9 := pj_xs (s15_12)
theorem q15_13 : pj_row 15 13 = some (.iload_n 2, 1, 0, 0, 0) := by decide +kernel
theorem s15_13 {st : List Value} {M : pj_Mem} {l : pj_Loc} {a0 a1 : Option Value} {x : Int32} : pj_step 15 (13, a0 :: a1 :: some (.int x) :: l, st, M) = some (14, a0 :: a1 :: some (.int x) :: l, .int x :: st, M) := st_iload_n q15_13 rfl
theorem x15_13 {st : List Value} {M : pj_Mem} {l : pj_Loc} {a0 a1 : Option Value} {x : Int32} {o9 : Option Value × pj_Mem} : pj_Ends 15 (13, a0 :: a1 :: some (.int x) :: l, st, M) o9 = pj_Ends 15 (14, a0 :: a1 :: some (.int x) :: l, .int x :: st, M) o9 := pj_xs (s15_13)
theorem q15_14 : pj_row 15 14 = some (.iastore, 1, 0, 0, 0) := by decide +kernel
theorem s15_14 {L : pj_Loc} {st : List Value} {N S : Nat} {H : pj_Heap} {o : Nat} {i x : Int32} : pj_step 15 (14, L, .int x :: .int i :: .ref o :: st, (N, S, H)) = pj_set 15 L st (N, S, H) o (pj_ars (H o) 0 i x) := st_iastore q15_14
theorem x15_14 {L : pj_Loc} {st : List Value} {N S : Nat} {H : pj_Heap} {o : Nat} {i x : Int32} {o9 : Option Value × pj_Mem} : pj_Ends 15 (14, L, .int x :: .int i :: .ref o :: st, (N, S, H)) o9 = pj_then 15 o9 (pj_set 15 L st (N, S, H) o (pj_ars (H o) 0 i x)) := pj_xt q15_14 rfl (pj_cl_nc rfl) (s15_14)
theorem q15_15 : pj_row 15 15 = some (.aload_n 0, 1, 0, 0, 0) := by decide +kernel
theorem s15_15 {st : List Value} {M : pj_Mem} {l : pj_Loc} {x : Nat} : pj_step 15 (15, some (.ref x) :: l, st, M) = some (16, some (.ref x) :: l, .ref x :: st, M) := st_aload_n q15_15 rfl
theorem x15_15 {st : List Value} {M : pj_Mem} {l : pj_Loc} {x : Nat} {o9 : Option Value × pj_Mem} : pj_Ends 15 (15, some (.ref x) :: l, st, M) o9 = pj_Ends 15 (16, some (.ref x) :: l, .ref x :: st, M) o9 := pj_xs (s15_15)
theorem q15_16 : pj_row 15 16 = some (.getfield 9, 3, 3, 0, 0) := by decide +kernel
theorem s15_16 {L : pj_Loc} {st : List Value} {N S : Nat} {H : pj_Heap} {o : Nat} : pj_step 15 (16, L, .ref o :: st, (N, S, H)) = pj_pv 19 L st (N, S, H) (pj_fld (H o) 3 0) := st_getfield q15_16
theorem x15_16 {L : pj_Loc} {st : List Value} {N S : Nat} {H : pj_Heap} {o : Nat} {o9 : Option Value × pj_Mem} : pj_Ends 15 (16, L, .ref o :: st, (N, S, H)) o9 = pj_then 15 o9 (pj_pv 19 L st (N, S, H) (pj_fld (H o) 3 0)) := pj_xt q15_16 rfl (pj_cl_nc rfl) (s15_16)
theorem q15_19 : pj_row 15 19 = some (.iconst 1, 1, 0, 0, 0) := by decide +kernel
theorem s15_19 {L : pj_Loc} {st : List Value} {M : pj_Mem}  : pj_step 15 (19, L, st, M) = some (20, L, .int 1 :: st, M) := st_iconst q15_19 (by decide +kernel)
theorem x15_19 {L : pj_Loc} {st : List Value} {M : pj_Mem}  {o9 : Option Value × pj_Mem} : pj_Ends 15 (19, L, st, M) o9 = pj_Ends 15 (20, L, .int 1 :: st, M) o9 := pj_xs (s15_19)
theorem q15_20 : pj_row 15 20 = some (.iload_n 3, 1, 0, 0, 0) := by decide +kernel
theorem s15_20 {st : List Value} {M : pj_Mem} {l : pj_Loc} {a0 a1 a2 : Option Value} {x : Int32} : pj_step 15 (20, a0 :: a1 :: a2 :: some (.int x) :: l, st, M) = some (21, a0 :: a1 :: a2 :: some (.int x) :: l, .int x :: st, M) := st_iload_n q15_20 rfl
theorem x15_20 {st : List Value} {M : pj_Mem} {l : pj_Loc} {a0 a1 a2 : Option Value} {x : Int32} {o9 : Option Value × pj_Mem} : pj_Ends 15 (20, a0 :: a1 :: a2 :: some (.int x) :: l, st, M) o9 = pj_Ends 15 (21, a0 :: a1 :: a2 :: some (.int x) :: l, .int x :: st, M) o9 := pj_xs (s15_20)
theorem q15_21 : pj_row 15 21 = some (.iastore, 1, 0, 0, 0) := by decide +kernel
theorem s15_21 {L : pj_Loc} {st : List Value} {N S : Nat} {H : pj_Heap} {o : Nat} {i x : Int32} : pj_step 15 (21, L, .int x :: .int i :: .ref o :: st, (N, S, H)) = pj_set 22 L st (N, S, H) o (pj_ars (H o) 0 i x) := st_iastore q15_21
theorem x15_21 {L : pj_Loc} {st : List Value} {N S : Nat} {H : pj_Heap} {o : Nat} {i x : Int32} {o9 : Option Value × pj_Mem} : pj_Ends 15 (21, L, .int x :: .int i :: .ref o :: st, (N, S, H)) o9 = pj_then 15 o9 (pj_set 22 L st (N, S, H) o (pj_ars (H o) 0 i x)) := pj_xt q15_21 rfl (pj_cl_nc rfl) (s15_21)
theorem q15_22 : pj_row 15 22 = some (.aload_n 0, 1, 0, 0, 0) := by decide +kernel
theorem s15_22 {st : List Value} {M : pj_Mem} {l : pj_Loc} {x : Nat} : pj_step 15 (22, some (.ref x) :: l, st, M) = some (23, some (.ref x) :: l, .ref x :: st, M) := st_aload_n q15_22 rfl
theorem x15_22 {st : List Value} {M : pj_Mem} {l : pj_Loc} {x : Nat} {o9 : Option Value × pj_Mem} : pj_Ends 15 (22, some (.ref x) :: l, st, M) o9 = pj_Ends 15 (23, some (.ref x) :: l, .ref x :: st, M) o9 := pj_xs (s15_22)
theorem q15_23 : pj_row 15 23 = some (.getfield 9, 3, 3, 0, 0) := by decide +kernel
theorem s15_23 {L : pj_Loc} {st : List Value} {N S : Nat} {H : pj_Heap} {o : Nat} : pj_step 15 (23, L, .ref o :: st, (N, S, H)) = pj_pv 26 L st (N, S, H) (pj_fld (H o) 3 0) := st_getfield q15_23
theorem x15_23 {L : pj_Loc} {st : List Value} {N S : Nat} {H : pj_Heap} {o : Nat} {o9 : Option Value × pj_Mem} : pj_Ends 15 (23, L, .ref o :: st, (N, S, H)) o9 = pj_then 15 o9 (pj_pv 26 L st (N, S, H) (pj_fld (H o) 3 0)) := pj_xt q15_23 rfl (pj_cl_nc rfl) (s15_23)
theorem q15_26 : pj_row 15 26 = some (.iconst 2, 1, 0, 0, 0) := by decide +kernel
theorem s15_26 {L : pj_Loc} {st : List Value} {M : pj_Mem}  : pj_step 15 (26, L, st, M) = some (27, L, .int 2 :: st, M) := st_iconst q15_26 (by decide +kernel)
theorem x15_26 {L : pj_Loc} {st : List Value} {M : pj_Mem}  {o9 : Option Value × pj_Mem} : pj_Ends 15 (26, L, st, M) o9 = pj_Ends 15 (27, L, .int 2 :: st, M) o9 := pj_xs (s15_26)
theorem q15_27 : pj_row 15 27 = some (.iload 4, 2, 0, 0, 0) := by decide +kernel
theorem s15_27 {st : List Value} {M : pj_Mem} {l : pj_Loc} {a0 a1 a2 a3 : Option Value} {x : Int32} : pj_step 15 (27, a0 :: a1 :: a2 :: a3 :: some (.int x) :: l, st, M) = some (29, a0 :: a1 :: a2 :: a3 :: some (.int x) :: l, .int x :: st, M) := st_iload q15_27 rfl
theorem x15_27 {st : List Value} {M : pj_Mem} {l : pj_Loc} {a0 a1 a2 a3 : Option Value} {x : Int32} {o9 : Option Value × pj_Mem} : pj_Ends 15 (27, a0 :: a1 :: a2 :: a3 :: some (.int x) :: l, st, M) o9 = pj_Ends 15 (29, a0 :: a1 :: a2 :: a3 :: some (.int x) :: l, .int x :: st, M) o9 := pj_xs (s15_27)
theorem q15_29 : pj_row 15 29 = some (.iastore, 1, 0, 0, 0) := by decide +kernel
theorem s15_29 {L : pj_Loc} {st : List Value} {N S : Nat} {H : pj_Heap} {o : Nat} {i x : Int32} : pj_step 15 (29, L, .int x :: .int i :: .ref o :: st, (N, S, H)) = pj_set 30 L st (N, S, H) o (pj_ars (H o) 0 i x) := st_iastore q15_29
theorem x15_29 {L : pj_Loc} {st : List Value} {N S : Nat} {H : pj_Heap} {o : Nat} {i x : Int32} {o9 : Option Value × pj_Mem} : pj_Ends 15 (29, L, .int x :: .int i :: .ref o :: st, (N, S, H)) o9 = pj_then 15 o9 (pj_set 30 L st (N, S, H) o (pj_ars (H o) 0 i x)) := pj_xt q15_29 rfl (pj_cl_nc rfl) (s15_29)
theorem q15_30 : pj_row 15 30 = some (.aload_n 0, 1, 0, 0, 0) := by decide +kernel
theorem s15_30 {st : List Value} {M : pj_Mem} {l : pj_Loc} {x : Nat} : pj_step 15 (30, some (.ref x) :: l, st, M) = some (31, some (.ref x) :: l, .ref x :: st, M) := st_aload_n q15_30 rfl
theorem x15_30 {st : List Value} {M : pj_Mem} {l : pj_Loc} {x : Nat} {o9 : Option Value × pj_Mem} : pj_Ends 15 (30, some (.ref x) :: l, st, M) o9 = pj_Ends 15 (31, some (.ref x) :: l, .ref x :: st, M) o9 := pj_xs (s15_30)
theorem q15_31 : pj_row 15 31 = some (.iload 5, 2, 0, 0, 0) := by decide +kernel
theorem s15_31 {st : List Value} {M : pj_Mem} {l : pj_Loc} {a0 a1 a2 a3 a4 : Option Value} {x : Int32} : pj_step 15 (31, a0 :: a1 :: a2 :: a3 :: a4 :: some (.int x) :: l, st, M) = some (33, a0 :: a1 :: a2 :: a3 :: a4 :: some (.int x) :: l, .int x :: st, M) := st_iload q15_31 rfl
theorem x15_31 {st : List Value} {M : pj_Mem} {l : pj_Loc} {a0 a1 a2 a3 a4 : Option Value} {x : Int32} {o9 : Option Value × pj_Mem} : pj_Ends 15 (31, a0 :: a1 :: a2 :: a3 :: a4 :: some (.int x) :: l, st, M) o9 = pj_Ends 15 (33, a0 :: a1 :: a2 :: a3 :: a4 :: some (.int x) :: l, .int x :: st, M) o9 := pj_xs (s15_31)
theorem q15_33 : pj_row 15 33 = some (.putfield 39, 3, 3, 6, 0) := by decide +kernel
theorem s15_33 {L : pj_Loc} {st : List Value} {N S : Nat} {H : pj_Heap} {o : Nat} {v : Value} : pj_step 15 (33, L, v :: .ref o :: st, (N, S, H)) = pj_set 36 L st (N, S, H) o (pj_fset (H o) 3 6 v) := st_putfield q15_33
theorem x15_33 {L : pj_Loc} {st : List Value} {N S : Nat} {H : pj_Heap} {o : Nat} {v : Value} {o9 : Option Value × pj_Mem} : pj_Ends 15 (33, L, v :: .ref o :: st, (N, S, H)) o9 = pj_then 15 o9 (pj_set 36 L st (N, S, H) o (pj_fset (H o) 3 6 v)) := pj_xt q15_33 rfl (pj_cl_nc rfl) (s15_33)
theorem q15_36 : pj_row 15 36 = some (.aload_n 0, 1, 0, 0, 0) := by decide +kernel
theorem s15_36 {st : List Value} {M : pj_Mem} {l : pj_Loc} {x : Nat} : pj_step 15 (36, some (.ref x) :: l, st, M) = some (37, some (.ref x) :: l, .ref x :: st, M) := st_aload_n q15_36 rfl
theorem x15_36 {st : List Value} {M : pj_Mem} {l : pj_Loc} {x : Nat} {o9 : Option Value × pj_Mem} : pj_Ends 15 (36, some (.ref x) :: l, st, M) o9 = pj_Ends 15 (37, some (.ref x) :: l, .ref x :: st, M) o9 := pj_xs (s15_36)
theorem q15_37 : pj_row 15 37 = some (.aload_n 1, 1, 0, 0, 0) := by decide +kernel
theorem s15_37 {st : List Value} {M : pj_Mem} {l : pj_Loc} {a0 : Option Value} {x : Nat} : pj_step 15 (37, a0 :: some (.ref x) :: l, st, M) = some (38, a0 :: some (.ref x) :: l, .ref x :: st, M) := st_aload_n q15_37 rfl
theorem x15_37 {st : List Value} {M : pj_Mem} {l : pj_Loc} {a0 : Option Value} {x : Nat} {o9 : Option Value × pj_Mem} : pj_Ends 15 (37, a0 :: some (.ref x) :: l, st, M) o9 = pj_Ends 15 (38, a0 :: some (.ref x) :: l, .ref x :: st, M) o9 := pj_xs (s15_37)
theorem q15_38 : pj_row 15 38 = some (.invokevirtual 43, 3, 16, 2, 0) := by decide +kernel
theorem e15_38 {L : pj_Loc} {st : List Value} {N S : Nat} {H : pj_Heap} {o : Option Value × pj_Mem} {M' : pj_Mem} {x0 : Nat} {x1 : Nat} (h4 : pj_le4 st = true) (hu : pj_isU 3 (H x0) = true) (h1 : pj_Ends 16 (0, [some (.ref x0), some (.ref x1), none], [], (N, S, H)) (none, M')) (h2 : pj_Ends 15 (41, L, st, M') o) : pj_Ends 15 (38, L, .ref x1 :: .ref x0 :: st, (N, S, H)) o := ec_v2 q15_38 (Or.inl rfl) h4 hu rfl h1 h2
theorem q15_41 : pj_row 15 41 = some (.aload_n 0, 1, 0, 0, 0) := by decide +kernel
theorem s15_41 {st : List Value} {M : pj_Mem} {l : pj_Loc} {x : Nat} : pj_step 15 (41, some (.ref x) :: l, st, M) = some (42, some (.ref x) :: l, .ref x :: st, M) := st_aload_n q15_41 rfl
theorem x15_41 {st : List Value} {M : pj_Mem} {l : pj_Loc} {x : Nat} {o9 : Option Value × pj_Mem} : pj_Ends 15 (41, some (.ref x) :: l, st, M) o9 = pj_Ends 15 (42, some (.ref x) :: l, .ref x :: st, M) o9 := pj_xs (s15_41)
theorem q15_42 : pj_row 15 42 = some (.aload_n 1, 1, 0, 0, 0) := by decide +kernel
theorem s15_42 {st : List Value} {M : pj_Mem} {l : pj_Loc} {a0 : Option Value} {x : Nat} : pj_step 15 (42, a0 :: some (.ref x) :: l, st, M) = some (43, a0 :: some (.ref x) :: l, .ref x :: st, M) := st_aload_n q15_42 rfl
theorem x15_42 {st : List Value} {M : pj_Mem} {l : pj_Loc} {a0 : Option Value} {x : Nat} {o9 : Option Value × pj_Mem} : pj_Ends 15 (42, a0 :: some (.ref x) :: l, st, M) o9 = pj_Ends 15 (43, a0 :: some (.ref x) :: l, .ref x :: st, M) o9 := pj_xs (s15_42)
theorem q15_43 : pj_row 15 43 = some (.invokevirtual 47, 3, 18, 2, 0) := by decide +kernel
theorem e15_43 {L : pj_Loc} {st : List Value} {N S : Nat} {H : pj_Heap} {o : Option Value × pj_Mem} {M' : pj_Mem} {x0 : Nat} {x1 : Nat} (h4 : pj_le4 st = true) (hu : pj_isU 3 (H x0) = true) (h1 : pj_Ends 18 (0, [some (.ref x0), some (.ref x1), none], [], (N, S, H)) (none, M')) (h2 : pj_Ends 15 (46, L, st, M') o) : pj_Ends 15 (43, L, .ref x1 :: .ref x0 :: st, (N, S, H)) o := ec_v2 q15_43 (Or.inl rfl) h4 hu rfl h1 h2
theorem q15_46 : pj_row 15 46 = some (.aload_n 0, 1, 0, 0, 0) := by decide +kernel
theorem s15_46 {st : List Value} {M : pj_Mem} {l : pj_Loc} {x : Nat} : pj_step 15 (46, some (.ref x) :: l, st, M) = some (47, some (.ref x) :: l, .ref x :: st, M) := st_aload_n q15_46 rfl
theorem x15_46 {st : List Value} {M : pj_Mem} {l : pj_Loc} {x : Nat} {o9 : Option Value × pj_Mem} : pj_Ends 15 (46, some (.ref x) :: l, st, M) o9 = pj_Ends 15 (47, some (.ref x) :: l, .ref x :: st, M) o9 := pj_xs (s15_46)
theorem q15_47 : pj_row 15 47 = some (.aload_n 1, 1, 0, 0, 0) := by decide +kernel
theorem s15_47 {st : List Value} {M : pj_Mem} {l : pj_Loc} {a0 : Option Value} {x : Nat} : pj_step 15 (47, a0 :: some (.ref x) :: l, st, M) = some (48, a0 :: some (.ref x) :: l, .ref x :: st, M) := st_aload_n q15_47 rfl
theorem x15_47 {st : List Value} {M : pj_Mem} {l : pj_Loc} {a0 : Option Value} {x : Nat} {o9 : Option Value × pj_Mem} : pj_Ends 15 (47, a0 :: some (.ref x) :: l, st, M) o9 = pj_Ends 15 (48, a0 :: some (.ref x) :: l, .ref x :: st, M) o9 := pj_xs (s15_47)
theorem q15_48 : pj_row 15 48 = some (.getfield 50, 3, 4, 0, 0) := by decide +kernel
theorem s15_48 {L : pj_Loc} {st : List Value} {N S : Nat} {H : pj_Heap} {o : Nat} : pj_step 15 (48, L, .ref o :: st, (N, S, H)) = pj_pv 51 L st (N, S, H) (pj_fld (H o) 4 0) := st_getfield q15_48
theorem x15_48 {L : pj_Loc} {st : List Value} {N S : Nat} {H : pj_Heap} {o : Nat} {o9 : Option Value × pj_Mem} : pj_Ends 15 (48, L, .ref o :: st, (N, S, H)) o9 = pj_then 15 o9 (pj_pv 51 L st (N, S, H) (pj_fld (H o) 4 0)) := pj_xt q15_48 rfl (pj_cl_nc rfl) (s15_48)
theorem q15_51 : pj_row 15 51 = some (.iconst 4, 1, 0, 0, 0) := by decide +kernel
theorem s15_51 {L : pj_Loc} {st : List Value} {M : pj_Mem}  : pj_step 15 (51, L, st, M) = some (52, L, .int 4 :: st, M) := st_iconst q15_51 (by decide +kernel)
theorem x15_51 {L : pj_Loc} {st : List Value} {M : pj_Mem}  {o9 : Option Value × pj_Mem} : pj_Ends 15 (51, L, st, M) o9 = pj_Ends 15 (52, L, .int 4 :: st, M) o9 := pj_xs (s15_51)
theorem q15_52 : pj_row 15 52 = some (.iaload, 1, 0, 0, 0) := by decide +kernel
theorem s15_52 {L : pj_Loc} {st : List Value} {N S : Nat} {H : pj_Heap} {o : Nat} {i : Int32} : pj_step 15 (52, L, .int i :: .ref o :: st, (N, S, H)) = pj_pi 53 L st (N, S, H) (pj_arl (H o) 0 i) := st_iaload q15_52
theorem x15_52 {L : pj_Loc} {st : List Value} {N S : Nat} {H : pj_Heap} {o : Nat} {i : Int32} {o9 : Option Value × pj_Mem} : pj_Ends 15 (52, L, .int i :: .ref o :: st, (N, S, H)) o9 = pj_then 15 o9 (pj_pi 53 L st (N, S, H) (pj_arl (H o) 0 i)) := pj_xt q15_52 rfl (pj_cl_nc rfl) (s15_52)
theorem q15_53 : pj_row 15 53 = some (.invokevirtual 53, 3, 22, 2, 0) := by decide +kernel
theorem e15_53 {L : pj_Loc} {st : List Value} {N S : Nat} {H : pj_Heap} {o : Option Value × pj_Mem} {M' : pj_Mem} {x0 : Nat} {x1 : Int32} (h4 : pj_le4 st = true) (hu : pj_isU 3 (H x0) = true) (h1 : pj_Ends 22 (0, [some (.ref x0), some (.int x1), none], [], (N, S, H)) (none, M')) (h2 : pj_Ends 15 (56, L, st, M') o) : pj_Ends 15 (53, L, .int x1 :: .ref x0 :: st, (N, S, H)) o := ec_v2 q15_53 (Or.inl rfl) h4 hu rfl h1 h2
theorem q15_56 : pj_row 15 56 = some (.aload_n 0, 1, 0, 0, 0) := by decide +kernel
theorem s15_56 {st : List Value} {M : pj_Mem} {l : pj_Loc} {x : Nat} : pj_step 15 (56, some (.ref x) :: l, st, M) = some (57, some (.ref x) :: l, .ref x :: st, M) := st_aload_n q15_56 rfl
theorem x15_56 {st : List Value} {M : pj_Mem} {l : pj_Loc} {x : Nat} {o9 : Option Value × pj_Mem} : pj_Ends 15 (56, some (.ref x) :: l, st, M) o9 = pj_Ends 15 (57, some (.ref x) :: l, .ref x :: st, M) o9 := pj_xs (s15_56)
theorem q15_57 : pj_row 15 57 = some (.aload_n 1, 1, 0, 0, 0) := by decide +kernel
theorem s15_57 {st : List Value} {M : pj_Mem} {l : pj_Loc} {a0 : Option Value} {x : Nat} : pj_step 15 (57, a0 :: some (.ref x) :: l, st, M) = some (58, a0 :: some (.ref x) :: l, .ref x :: st, M) := st_aload_n q15_57 rfl
theorem x15_57 {st : List Value} {M : pj_Mem} {l : pj_Loc} {a0 : Option Value} {x : Nat} {o9 : Option Value × pj_Mem} : pj_Ends 15 (57, a0 :: some (.ref x) :: l, st, M) o9 = pj_Ends 15 (58, a0 :: some (.ref x) :: l, .ref x :: st, M) o9 := pj_xs (s15_57)
theorem q15_58 : pj_row 15 58 = some (.invokevirtual 57, 3, 23, 2, 0) := by decide +kernel
theorem e15_58 {L : pj_Loc} {st : List Value} {N S : Nat} {H : pj_Heap} {o : Option Value × pj_Mem} {M' : pj_Mem} {x0 : Nat} {x1 : Nat} (h4 : pj_le4 st = true) (hu : pj_isU 3 (H x0) = true) (h1 : pj_Ends 23 (0, [some (.ref x0), some (.ref x1), none, none, none], [], (N, S, H)) (none, M')) (h2 : pj_Ends 15 (61, L, st, M') o) : pj_Ends 15 (58, L, .ref x1 :: .ref x0 :: st, (N, S, H)) o := ec_v2 q15_58 (Or.inl rfl) h4 hu rfl h1 h2
theorem q15_61 : pj_row 15 61 = some (.aload_n 0, 1, 0, 0, 0) := by decide +kernel
theorem s15_61 {st : List Value} {M : pj_Mem} {l : pj_Loc} {x : Nat} : pj_step 15 (61, some (.ref x) :: l, st, M) = some (62, some (.ref x) :: l, .ref x :: st, M) := st_aload_n q15_61 rfl
theorem x15_61 {st : List Value} {M : pj_Mem} {l : pj_Loc} {x : Nat} {o9 : Option Value × pj_Mem} : pj_Ends 15 (61, some (.ref x) :: l, st, M) o9 = pj_Ends 15 (62, some (.ref x) :: l, .ref x :: st, M) o9 := pj_xs (s15_61)
theorem q15_62 : pj_row 15 62 = some (.aload_n 1, 1, 0, 0, 0) := by decide +kernel
theorem s15_62 {st : List Value} {M : pj_Mem} {l : pj_Loc} {a0 : Option Value} {x : Nat} : pj_step 15 (62, a0 :: some (.ref x) :: l, st, M) = some (63, a0 :: some (.ref x) :: l, .ref x :: st, M) := st_aload_n q15_62 rfl
theorem x15_62 {st : List Value} {M : pj_Mem} {l : pj_Loc} {a0 : Option Value} {x : Nat} {o9 : Option Value × pj_Mem} : pj_Ends 15 (62, a0 :: some (.ref x) :: l, st, M) o9 = pj_Ends 15 (63, a0 :: some (.ref x) :: l, .ref x :: st, M) o9 := pj_xs (s15_62)
theorem q15_63 : pj_row 15 63 = some (.invokevirtual 60, 3, 25, 2, 0) := by decide +kernel
theorem e15_63 {L : pj_Loc} {st : List Value} {N S : Nat} {H : pj_Heap} {o : Option Value × pj_Mem} {M' : pj_Mem} {x0 : Nat} {x1 : Nat} (h4 : pj_le4 st = true) (hu : pj_isU 3 (H x0) = true) (h1 : pj_Ends 25 (0, [some (.ref x0), some (.ref x1), none, none], [], (N, S, H)) (none, M')) (h2 : pj_Ends 15 (66, L, st, M') o) : pj_Ends 15 (63, L, .ref x1 :: .ref x0 :: st, (N, S, H)) o := ec_v2 q15_63 (Or.inl rfl) h4 hu rfl h1 h2
theorem q15_66 : pj_row 15 66 = some (.aload_n 0, 1, 0, 0, 0) := by decide +kernel
theorem s15_66 {st : List Value} {M : pj_Mem} {l : pj_Loc} {x : Nat} : pj_step 15 (66, some (.ref x) :: l, st, M) = some (67, some (.ref x) :: l, .ref x :: st, M) := st_aload_n q15_66 rfl
theorem x15_66 {st : List Value} {M : pj_Mem} {l : pj_Loc} {x : Nat} {o9 : Option Value × pj_Mem} : pj_Ends 15 (66, some (.ref x) :: l, st, M) o9 = pj_Ends 15 (67, some (.ref x) :: l, .ref x :: st, M) o9 := pj_xs (s15_66)
theorem q15_67 : pj_row 15 67 = some (.iload 5, 2, 0, 0, 0) := by decide +kernel
theorem s15_67 {st : List Value} {M : pj_Mem} {l : pj_Loc} {a0 a1 a2 a3 a4 : Option Value} {x : Int32} : pj_step 15 (67, a0 :: a1 :: a2 :: a3 :: a4 :: some (.int x) :: l, st, M) = some (69, a0 :: a1 :: a2 :: a3 :: a4 :: some (.int x) :: l, .int x :: st, M) := st_iload q15_67 rfl
theorem x15_67 {st : List Value} {M : pj_Mem} {l : pj_Loc} {a0 a1 a2 a3 a4 : Option Value} {x : Int32} {o9 : Option Value × pj_Mem} : pj_Ends 15 (67, a0 :: a1 :: a2 :: a3 :: a4 :: some (.int x) :: l, st, M) o9 = pj_Ends 15 (69, a0 :: a1 :: a2 :: a3 :: a4 :: some (.int x) :: l, .int x :: st, M) o9 := pj_xs (s15_67)
theorem q15_69 : pj_row 15 69 = some (.ifCond .eq 12, 3, 81, 0, 0) := by decide +kernel
theorem s15_69 {L : pj_Loc} {st : List Value} {M : pj_Mem} {x : Int32} : pj_step 15 (69, L, .int x :: st, M) = some (if x = 0 then 81 else 72, L, st, M) := st_if_eq q15_69
theorem x15_69 {L : pj_Loc} {st : List Value} {M : pj_Mem} {x : Int32} {o9 : Option Value × pj_Mem} : pj_Ends 15 (69, L, .int x :: st, M) o9 = pj_Ends 15 (if x = 0 then 81 else 72, L, st, M) o9 := pj_xs (s15_69)
theorem q15_72 : pj_row 15 72 = some (.aload_n 1, 1, 0, 0, 0) := by decide +kernel
theorem s15_72 {st : List Value} {M : pj_Mem} {l : pj_Loc} {a0 : Option Value} {x : Nat} : pj_step 15 (72, a0 :: some (.ref x) :: l, st, M) = some (73, a0 :: some (.ref x) :: l, .ref x :: st, M) := st_aload_n q15_72 rfl
theorem x15_72 {st : List Value} {M : pj_Mem} {l : pj_Loc} {a0 : Option Value} {x : Nat} {o9 : Option Value × pj_Mem} : pj_Ends 15 (72, a0 :: some (.ref x) :: l, st, M) o9 = pj_Ends 15 (73, a0 :: some (.ref x) :: l, .ref x :: st, M) o9 := pj_xs (s15_72)
theorem q15_73 : pj_row 15 73 = some (.getfield 50, 3, 4, 0, 0) := by decide +kernel
theorem s15_73 {L : pj_Loc} {st : List Value} {N S : Nat} {H : pj_Heap} {o : Nat} : pj_step 15 (73, L, .ref o :: st, (N, S, H)) = pj_pv 76 L st (N, S, H) (pj_fld (H o) 4 0) := st_getfield q15_73
theorem x15_73 {L : pj_Loc} {st : List Value} {N S : Nat} {H : pj_Heap} {o : Nat} {o9 : Option Value × pj_Mem} : pj_Ends 15 (73, L, .ref o :: st, (N, S, H)) o9 = pj_then 15 o9 (pj_pv 76 L st (N, S, H) (pj_fld (H o) 4 0)) := pj_xt q15_73 rfl (pj_cl_nc rfl) (s15_73)
theorem q15_76 : pj_row 15 76 = some (.iconst 2, 1, 0, 0, 0) := by decide +kernel
theorem s15_76 {L : pj_Loc} {st : List Value} {M : pj_Mem}  : pj_step 15 (76, L, st, M) = some (77, L, .int 2 :: st, M) := st_iconst q15_76 (by decide +kernel)
theorem x15_76 {L : pj_Loc} {st : List Value} {M : pj_Mem}  {o9 : Option Value × pj_Mem} : pj_Ends 15 (76, L, st, M) o9 = pj_Ends 15 (77, L, .int 2 :: st, M) o9 := pj_xs (s15_76)
theorem q15_77 : pj_row 15 77 = some (.iaload, 1, 0, 0, 0) := by decide +kernel
theorem s15_77 {L : pj_Loc} {st : List Value} {N S : Nat} {H : pj_Heap} {o : Nat} {i : Int32} : pj_step 15 (77, L, .int i :: .ref o :: st, (N, S, H)) = pj_pi 78 L st (N, S, H) (pj_arl (H o) 0 i) := st_iaload q15_77
theorem x15_77 {L : pj_Loc} {st : List Value} {N S : Nat} {H : pj_Heap} {o : Nat} {i : Int32} {o9 : Option Value × pj_Mem} : pj_Ends 15 (77, L, .int i :: .ref o :: st, (N, S, H)) o9 = pj_then 15 o9 (pj_pi 78 L st (N, S, H) (pj_arl (H o) 0 i)) := pj_xt q15_77 rfl (pj_cl_nc rfl) (s15_77)
theorem q15_78 : pj_row 15 78 = some (.goto 13, 3, 91, 0, 0) := by decide +kernel
theorem s15_78 {L : pj_Loc} {st : List Value} {M : pj_Mem}  : pj_step 15 (78, L, st, M) = some (91, L, st, M) := st_goto q15_78
theorem x15_78 {L : pj_Loc} {st : List Value} {M : pj_Mem}  {o9 : Option Value × pj_Mem} : pj_Ends 15 (78, L, st, M) o9 = pj_Ends 15 (91, L, st, M) o9 := pj_xs (s15_78)
theorem q15_81 : pj_row 15 81 = some (.aload_n 1, 1, 0, 0, 0) := by decide +kernel
theorem s15_81 {st : List Value} {M : pj_Mem} {l : pj_Loc} {a0 : Option Value} {x : Nat} : pj_step 15 (81, a0 :: some (.ref x) :: l, st, M) = some (82, a0 :: some (.ref x) :: l, .ref x :: st, M) := st_aload_n q15_81 rfl
theorem x15_81 {st : List Value} {M : pj_Mem} {l : pj_Loc} {a0 : Option Value} {x : Nat} {o9 : Option Value × pj_Mem} : pj_Ends 15 (81, a0 :: some (.ref x) :: l, st, M) o9 = pj_Ends 15 (82, a0 :: some (.ref x) :: l, .ref x :: st, M) o9 := pj_xs (s15_81)
theorem q15_82 : pj_row 15 82 = some (.getfield 63, 3, 4, 9, 0) := by decide +kernel
theorem s15_82 {L : pj_Loc} {st : List Value} {N S : Nat} {H : pj_Heap} {o : Nat} : pj_step 15 (82, L, .ref o :: st, (N, S, H)) = pj_pv 85 L st (N, S, H) (pj_fld (H o) 4 9) := st_getfield q15_82
theorem x15_82 {L : pj_Loc} {st : List Value} {N S : Nat} {H : pj_Heap} {o : Nat} {o9 : Option Value × pj_Mem} : pj_Ends 15 (82, L, .ref o :: st, (N, S, H)) o9 = pj_then 15 o9 (pj_pv 85 L st (N, S, H) (pj_fld (H o) 4 9)) := pj_xt q15_82 rfl (pj_cl_nc rfl) (s15_82)
theorem q15_85 : pj_row 15 85 = some (.iconst 1, 1, 0, 0, 0) := by decide +kernel
theorem s15_85 {L : pj_Loc} {st : List Value} {M : pj_Mem}  : pj_step 15 (85, L, st, M) = some (86, L, .int 1 :: st, M) := st_iconst q15_85 (by decide +kernel)
theorem x15_85 {L : pj_Loc} {st : List Value} {M : pj_Mem}  {o9 : Option Value × pj_Mem} : pj_Ends 15 (85, L, st, M) o9 = pj_Ends 15 (86, L, .int 1 :: st, M) o9 := pj_xs (s15_85)
theorem q15_86 : pj_row 15 86 = some (.isub, 1, 0, 0, 0) := by decide +kernel
theorem s15_86 {L : pj_Loc} {st : List Value} {M : pj_Mem} {x y : Int32} : pj_step 15 (86, L, .int y :: .int x :: st, M) = some (87, L, .int (x - y) :: st, M) := st_isub q15_86
theorem x15_86 {L : pj_Loc} {st : List Value} {M : pj_Mem} {x y : Int32} {o9 : Option Value × pj_Mem} : pj_Ends 15 (86, L, .int y :: .int x :: st, M) o9 = pj_Ends 15 (87, L, .int (x - y) :: st, M) o9 := pj_xs (s15_86)
theorem q15_87 : pj_row 15 87 = some (.iconst 0, 1, 0, 0, 0) := by decide +kernel
theorem s15_87 {L : pj_Loc} {st : List Value} {M : pj_Mem}  : pj_step 15 (87, L, st, M) = some (88, L, .int 0 :: st, M) := st_iconst q15_87 (by decide +kernel)
theorem x15_87 {L : pj_Loc} {st : List Value} {M : pj_Mem}  {o9 : Option Value × pj_Mem} : pj_Ends 15 (87, L, st, M) o9 = pj_Ends 15 (88, L, .int 0 :: st, M) o9 := pj_xs (s15_87)
theorem q15_88 : pj_row 15 88 = some (.invokestatic 66, 3, 0, 2, 4) := by decide +kernel
theorem s15_88 {L : pj_Loc} {st : List Value} {M : pj_Mem} {x y : Int32} : pj_step 15 (88, L, .int y :: .int x :: st, M) = pj_g4 st (some (91, L, .int (if x < y then y else x) :: st, M)) := st_max q15_88
theorem x15_88 {L : pj_Loc} {st : List Value} {M : pj_Mem} {x y : Int32} {o9 : Option Value × pj_Mem} : pj_Ends 15 (88, L, .int y :: .int x :: st, M) o9 = pj_then 15 o9 (pj_g4 st (some (91, L, .int (if x < y then y else x) :: st, M))) := pj_xt q15_88 rfl rfl (s15_88)
theorem q15_91 : pj_row 15 91 = some (.putfield 72, 3, 3, 10, 0) := by decide +kernel
theorem s15_91 {L : pj_Loc} {st : List Value} {N S : Nat} {H : pj_Heap} {o : Nat} {v : Value} : pj_step 15 (91, L, v :: .ref o :: st, (N, S, H)) = pj_set 94 L st (N, S, H) o (pj_fset (H o) 3 10 v) := st_putfield q15_91
theorem x15_91 {L : pj_Loc} {st : List Value} {N S : Nat} {H : pj_Heap} {o : Nat} {v : Value} {o9 : Option Value × pj_Mem} : pj_Ends 15 (91, L, v :: .ref o :: st, (N, S, H)) o9 = pj_then 15 o9 (pj_set 94 L st (N, S, H) o (pj_fset (H o) 3 10 v)) := pj_xt q15_91 rfl (pj_cl_nc rfl) (s15_91)
theorem q15_94 : pj_row 15 94 = some (.aload_n 0, 1, 0, 0, 0) := by decide +kernel
theorem s15_94 {st : List Value} {M : pj_Mem} {l : pj_Loc} {x : Nat} : pj_step 15 (94, some (.ref x) :: l, st, M) = some (95, some (.ref x) :: l, .ref x :: st, M) := st_aload_n q15_94 rfl
theorem x15_94 {st : List Value} {M : pj_Mem} {l : pj_Loc} {x : Nat} {o9 : Option Value × pj_Mem} : pj_Ends 15 (94, some (.ref x) :: l, st, M) o9 = pj_Ends 15 (95, some (.ref x) :: l, .ref x :: st, M) o9 := pj_xs (s15_94)
theorem q15_95 : pj_row 15 95 = some (.aload_n 0, 1, 0, 0, 0) := by decide +kernel
theorem s15_95 {st : List Value} {M : pj_Mem} {l : pj_Loc} {x : Nat} : pj_step 15 (95, some (.ref x) :: l, st, M) = some (96, some (.ref x) :: l, .ref x :: st, M) := st_aload_n q15_95 rfl
theorem x15_95 {st : List Value} {M : pj_Mem} {l : pj_Loc} {x : Nat} {o9 : Option Value × pj_Mem} : pj_Ends 15 (95, some (.ref x) :: l, st, M) o9 = pj_Ends 15 (96, some (.ref x) :: l, .ref x :: st, M) o9 := pj_xs (s15_95)
theorem q15_96 : pj_row 15 96 = some (.aload_n 1, 1, 0, 0, 0) := by decide +kernel
theorem s15_96 {st : List Value} {M : pj_Mem} {l : pj_Loc} {a0 : Option Value} {x : Nat} : pj_step 15 (96, a0 :: some (.ref x) :: l, st, M) = some (97, a0 :: some (.ref x) :: l, .ref x :: st, M) := st_aload_n q15_96 rfl
theorem x15_96 {st : List Value} {M : pj_Mem} {l : pj_Loc} {a0 : Option Value} {x : Nat} {o9 : Option Value × pj_Mem} : pj_Ends 15 (96, a0 :: some (.ref x) :: l, st, M) o9 = pj_Ends 15 (97, a0 :: some (.ref x) :: l, .ref x :: st, M) o9 := pj_xs (s15_96)
theorem q15_97 : pj_row 15 97 = some (.getfield 50, 3, 4, 0, 0) := by decide +kernel
theorem s15_97 {L : pj_Loc} {st : List Value} {N S : Nat} {H : pj_Heap} {o : Nat} : pj_step 15 (97, L, .ref o :: st, (N, S, H)) = pj_pv 100 L st (N, S, H) (pj_fld (H o) 4 0) := st_getfield q15_97
theorem x15_97 {L : pj_Loc} {st : List Value} {N S : Nat} {H : pj_Heap} {o : Nat} {o9 : Option Value × pj_Mem} : pj_Ends 15 (97, L, .ref o :: st, (N, S, H)) o9 = pj_then 15 o9 (pj_pv 100 L st (N, S, H) (pj_fld (H o) 4 0)) := pj_xt q15_97 rfl (pj_cl_nc rfl) (s15_97)
theorem q15_100 : pj_row 15 100 = some (.iconst 0, 1, 0, 0, 0) := by decide +kernel
theorem s15_100 {L : pj_Loc} {st : List Value} {M : pj_Mem}  : pj_step 15 (100, L, st, M) = some (101, L, .int 0 :: st, M) := st_iconst q15_100 (by decide +kernel)
theorem x15_100 {L : pj_Loc} {st : List Value} {M : pj_Mem}  {o9 : Option Value × pj_Mem} : pj_Ends 15 (100, L, st, M) o9 = pj_Ends 15 (101, L, .int 0 :: st, M) o9 := pj_xs (s15_100)
theorem q15_101 : pj_row 15 101 = some (.iaload, 1, 0, 0, 0) := by decide +kernel
theorem s15_101 {L : pj_Loc} {st : List Value} {N S : Nat} {H : pj_Heap} {o : Nat} {i : Int32} : pj_step 15 (101, L, .int i :: .ref o :: st, (N, S, H)) = pj_pi 102 L st (N, S, H) (pj_arl (H o) 0 i) := st_iaload q15_101
theorem x15_101 {L : pj_Loc} {st : List Value} {N S : Nat} {H : pj_Heap} {o : Nat} {i : Int32} {o9 : Option Value × pj_Mem} : pj_Ends 15 (101, L, .int i :: .ref o :: st, (N, S, H)) o9 = pj_then 15 o9 (pj_pi 102 L st (N, S, H) (pj_arl (H o) 0 i)) := pj_xt q15_101 rfl (pj_cl_nc rfl) (s15_101)
theorem q15_102 : pj_row 15 102 = some (.invokevirtual 73, 3, 26, 2, 0) := by decide +kernel
theorem e15_102 {L : pj_Loc} {st : List Value} {N S : Nat} {H : pj_Heap} {o : Option Value × pj_Mem} {M' : pj_Mem} {x0 : Nat} {x1 : Int32} {r : Int32} (h4 : pj_le4 st = true) (hu : pj_isU 3 (H x0) = true) (h1 : pj_Ends 26 (0, [some (.ref x0), some (.int x1), none, none], [], (N, S, H)) (some (.int r), M')) (h2 : pj_Ends 15 (105, L, .int r :: st, M') o) : pj_Ends 15 (102, L, .int x1 :: .ref x0 :: st, (N, S, H)) o := ec_v2 q15_102 (Or.inl rfl) h4 hu rfl h1 h2
theorem q15_105 : pj_row 15 105 = some (.putfield 77, 3, 3, 11, 0) := by decide +kernel
theorem s15_105 {L : pj_Loc} {st : List Value} {N S : Nat} {H : pj_Heap} {o : Nat} {v : Value} : pj_step 15 (105, L, v :: .ref o :: st, (N, S, H)) = pj_set 108 L st (N, S, H) o (pj_fset (H o) 3 11 v) := st_putfield q15_105
theorem x15_105 {L : pj_Loc} {st : List Value} {N S : Nat} {H : pj_Heap} {o : Nat} {v : Value} {o9 : Option Value × pj_Mem} : pj_Ends 15 (105, L, v :: .ref o :: st, (N, S, H)) o9 = pj_then 15 o9 (pj_set 108 L st (N, S, H) o (pj_fset (H o) 3 11 v)) := pj_xt q15_105 rfl (pj_cl_nc rfl) (s15_105)
theorem q15_108 : pj_row 15 108 = some (.aload_n 0, 1, 0, 0, 0) := by decide +kernel
theorem s15_108 {st : List Value} {M : pj_Mem} {l : pj_Loc} {x : Nat} : pj_step 15 (108, some (.ref x) :: l, st, M) = some (109, some (.ref x) :: l, .ref x :: st, M) := st_aload_n q15_108 rfl
theorem x15_108 {st : List Value} {M : pj_Mem} {l : pj_Loc} {x : Nat} {o9 : Option Value × pj_Mem} : pj_Ends 15 (108, some (.ref x) :: l, st, M) o9 = pj_Ends 15 (109, some (.ref x) :: l, .ref x :: st, M) o9 := pj_xs (s15_108)
theorem q15_109 : pj_row 15 109 = some (.aload_n 0, 1, 0, 0, 0) := by decide +kernel
theorem s15_109 {st : List Value} {M : pj_Mem} {l : pj_Loc} {x : Nat} : pj_step 15 (109, some (.ref x) :: l, st, M) = some (110, some (.ref x) :: l, .ref x :: st, M) := st_aload_n q15_109 rfl
theorem x15_109 {st : List Value} {M : pj_Mem} {l : pj_Loc} {x : Nat} {o9 : Option Value × pj_Mem} : pj_Ends 15 (109, some (.ref x) :: l, st, M) o9 = pj_Ends 15 (110, some (.ref x) :: l, .ref x :: st, M) o9 := pj_xs (s15_109)
theorem q15_110 : pj_row 15 110 = some (.aload_n 1, 1, 0, 0, 0) := by decide +kernel
theorem s15_110 {st : List Value} {M : pj_Mem} {l : pj_Loc} {a0 : Option Value} {x : Nat} : pj_step 15 (110, a0 :: some (.ref x) :: l, st, M) = some (111, a0 :: some (.ref x) :: l, .ref x :: st, M) := st_aload_n q15_110 rfl
theorem x15_110 {st : List Value} {M : pj_Mem} {l : pj_Loc} {a0 : Option Value} {x : Nat} {o9 : Option Value × pj_Mem} : pj_Ends 15 (110, a0 :: some (.ref x) :: l, st, M) o9 = pj_Ends 15 (111, a0 :: some (.ref x) :: l, .ref x :: st, M) o9 := pj_xs (s15_110)
theorem q15_111 : pj_row 15 111 = some (.getfield 50, 3, 4, 0, 0) := by decide +kernel
theorem s15_111 {L : pj_Loc} {st : List Value} {N S : Nat} {H : pj_Heap} {o : Nat} : pj_step 15 (111, L, .ref o :: st, (N, S, H)) = pj_pv 114 L st (N, S, H) (pj_fld (H o) 4 0) := st_getfield q15_111
theorem x15_111 {L : pj_Loc} {st : List Value} {N S : Nat} {H : pj_Heap} {o : Nat} {o9 : Option Value × pj_Mem} : pj_Ends 15 (111, L, .ref o :: st, (N, S, H)) o9 = pj_then 15 o9 (pj_pv 114 L st (N, S, H) (pj_fld (H o) 4 0)) := pj_xt q15_111 rfl (pj_cl_nc rfl) (s15_111)
theorem q15_114 : pj_row 15 114 = some (.iconst 1, 1, 0, 0, 0) := by decide +kernel
theorem s15_114 {L : pj_Loc} {st : List Value} {M : pj_Mem}  : pj_step 15 (114, L, st, M) = some (115, L, .int 1 :: st, M) := st_iconst q15_114 (by decide +kernel)
theorem x15_114 {L : pj_Loc} {st : List Value} {M : pj_Mem}  {o9 : Option Value × pj_Mem} : pj_Ends 15 (114, L, st, M) o9 = pj_Ends 15 (115, L, .int 1 :: st, M) o9 := pj_xs (s15_114)
theorem q15_115 : pj_row 15 115 = some (.iaload, 1, 0, 0, 0) := by decide +kernel
theorem s15_115 {L : pj_Loc} {st : List Value} {N S : Nat} {H : pj_Heap} {o : Nat} {i : Int32} : pj_step 15 (115, L, .int i :: .ref o :: st, (N, S, H)) = pj_pi 116 L st (N, S, H) (pj_arl (H o) 0 i) := st_iaload q15_115
theorem x15_115 {L : pj_Loc} {st : List Value} {N S : Nat} {H : pj_Heap} {o : Nat} {i : Int32} {o9 : Option Value × pj_Mem} : pj_Ends 15 (115, L, .int i :: .ref o :: st, (N, S, H)) o9 = pj_then 15 o9 (pj_pi 116 L st (N, S, H) (pj_arl (H o) 0 i)) := pj_xt q15_115 rfl (pj_cl_nc rfl) (s15_115)
theorem q15_116 : pj_row 15 116 = some (.invokevirtual 73, 3, 26, 2, 0) := by decide +kernel
theorem e15_116 {L : pj_Loc} {st : List Value} {N S : Nat} {H : pj_Heap} {o : Option Value × pj_Mem} {M' : pj_Mem} {x0 : Nat} {x1 : Int32} {r : Int32} (h4 : pj_le4 st = true) (hu : pj_isU 3 (H x0) = true) (h1 : pj_Ends 26 (0, [some (.ref x0), some (.int x1), none, none], [], (N, S, H)) (some (.int r), M')) (h2 : pj_Ends 15 (119, L, .int r :: st, M') o) : pj_Ends 15 (116, L, .int x1 :: .ref x0 :: st, (N, S, H)) o := ec_v2 q15_116 (Or.inl rfl) h4 hu rfl h1 h2
theorem q15_119 : pj_row 15 119 = some (.putfield 80, 3, 3, 12, 0) := by decide +kernel
theorem s15_119 {L : pj_Loc} {st : List Value} {N S : Nat} {H : pj_Heap} {o : Nat} {v : Value} : pj_step 15 (119, L, v :: .ref o :: st, (N, S, H)) = pj_set 122 L st (N, S, H) o (pj_fset (H o) 3 12 v) := st_putfield q15_119
theorem x15_119 {L : pj_Loc} {st : List Value} {N S : Nat} {H : pj_Heap} {o : Nat} {v : Value} {o9 : Option Value × pj_Mem} : pj_Ends 15 (119, L, v :: .ref o :: st, (N, S, H)) o9 = pj_then 15 o9 (pj_set 122 L st (N, S, H) o (pj_fset (H o) 3 12 v)) := pj_xt q15_119 rfl (pj_cl_nc rfl) (s15_119)
theorem q15_122 : pj_row 15 122 = some (.aload_n 0, 1, 0, 0, 0) := by decide +kernel
theorem s15_122 {st : List Value} {M : pj_Mem} {l : pj_Loc} {x : Nat} : pj_step 15 (122, some (.ref x) :: l, st, M) = some (123, some (.ref x) :: l, .ref x :: st, M) := st_aload_n q15_122 rfl
theorem x15_122 {st : List Value} {M : pj_Mem} {l : pj_Loc} {x : Nat} {o9 : Option Value × pj_Mem} : pj_Ends 15 (122, some (.ref x) :: l, st, M) o9 = pj_Ends 15 (123, some (.ref x) :: l, .ref x :: st, M) o9 := pj_xs (s15_122)
theorem q15_123 : pj_row 15 123 = some (.aload_n 1, 1, 0, 0, 0) := by decide +kernel
theorem s15_123 {st : List Value} {M : pj_Mem} {l : pj_Loc} {a0 : Option Value} {x : Nat} : pj_step 15 (123, a0 :: some (.ref x) :: l, st, M) = some (124, a0 :: some (.ref x) :: l, .ref x :: st, M) := st_aload_n q15_123 rfl
theorem x15_123 {st : List Value} {M : pj_Mem} {l : pj_Loc} {a0 : Option Value} {x : Nat} {o9 : Option Value × pj_Mem} : pj_Ends 15 (123, a0 :: some (.ref x) :: l, st, M) o9 = pj_Ends 15 (124, a0 :: some (.ref x) :: l, .ref x :: st, M) o9 := pj_xs (s15_123)
theorem q15_124 : pj_row 15 124 = some (.invokevirtual 83, 3, 28, 2, 0) := by decide +kernel
theorem e15_124 {L : pj_Loc} {st : List Value} {N S : Nat} {H : pj_Heap} {o : Option Value × pj_Mem} {M' : pj_Mem} {x0 : Nat} {x1 : Nat} (h4 : pj_le4 st = true) (hu : pj_isU 3 (H x0) = true) (h1 : pj_Ends 28 (0, [some (.ref x0), some (.ref x1), none], [], (N, S, H)) (none, M')) (h2 : pj_Ends 15 (127, L, st, M') o) : pj_Ends 15 (124, L, .ref x1 :: .ref x0 :: st, (N, S, H)) o := ec_v2 q15_124 (Or.inl rfl) h4 hu rfl h1 h2
theorem q15_127 : pj_row 15 127 = some (.return_, 1, 0, 0, 0) := by decide +kernel
theorem t15_127 {L : pj_Loc} {M : pj_Mem} : pj_Ends 15 (127, L, [], M) (none, M) := pj_Ends.ret q15_127 (pj_rtn_v rt15)
theorem rt16 : pj_rt 16 = none := rfl
theorem q16_0 : pj_row 16 0 = some (.aload_n 0, 1, 0, 0, 0) := by decide +kernel
theorem s16_0 {st : List Value} {M : pj_Mem} {l : pj_Loc} {x : Nat} : pj_step 16 (0, some (.ref x) :: l, st, M) = some (1, some (.ref x) :: l, .ref x :: st, M) := st_aload_n q16_0 rfl
theorem x16_0 {st : List Value} {M : pj_Mem} {l : pj_Loc} {x : Nat} {o9 : Option Value × pj_Mem} : pj_Ends 16 (0, some (.ref x) :: l, st, M) o9 = pj_Ends 16 (1, some (.ref x) :: l, .ref x :: st, M) o9 := pj_xs (s16_0)
theorem q16_1 : pj_row 16 1 = some (.aload_n 1, 1, 0, 0, 0) := by decide +kernel
theorem s16_1 {st : List Value} {M : pj_Mem} {l : pj_Loc} {a0 : Option Value} {x : Nat} : pj_step 16 (1, a0 :: some (.ref x) :: l, st, M) = some (2, a0 :: some (.ref x) :: l, .ref x :: st, M) := st_aload_n q16_1 rfl
theorem x16_1 {st : List Value} {M : pj_Mem} {l : pj_Loc} {a0 : Option Value} {x : Nat} {o9 : Option Value × pj_Mem} : pj_Ends 16 (1, a0 :: some (.ref x) :: l, st, M) o9 = pj_Ends 16 (2, a0 :: some (.ref x) :: l, .ref x :: st, M) o9 := pj_xs (s16_1)
theorem q16_2 : pj_row 16 2 = some (.getfield 86, 3, 4, 7, 0) := by decide +kernel
theorem s16_2 {L : pj_Loc} {st : List Value} {N S : Nat} {H : pj_Heap} {o : Nat} : pj_step 16 (2, L, .ref o :: st, (N, S, H)) = pj_pv 5 L st (N, S, H) (pj_fld (H o) 4 7) := st_getfield q16_2
theorem x16_2 {L : pj_Loc} {st : List Value} {N S : Nat} {H : pj_Heap} {o : Nat} {o9 : Option Value × pj_Mem} : pj_Ends 16 (2, L, .ref o :: st, (N, S, H)) o9 = pj_then 16 o9 (pj_pv 5 L st (N, S, H) (pj_fld (H o) 4 7)) := pj_xt q16_2 rfl (pj_cl_nc rfl) (s16_2)
theorem q16_5 : pj_row 16 5 = some (.putfield 89, 3, 3, 8, 0) := by decide +kernel
theorem s16_5 {L : pj_Loc} {st : List Value} {N S : Nat} {H : pj_Heap} {o : Nat} {v : Value} : pj_step 16 (5, L, v :: .ref o :: st, (N, S, H)) = pj_set 8 L st (N, S, H) o (pj_fset (H o) 3 8 v) := st_putfield q16_5
theorem x16_5 {L : pj_Loc} {st : List Value} {N S : Nat} {H : pj_Heap} {o : Nat} {v : Value} {o9 : Option Value × pj_Mem} : pj_Ends 16 (5, L, v :: .ref o :: st, (N, S, H)) o9 = pj_then 16 o9 (pj_set 8 L st (N, S, H) o (pj_fset (H o) 3 8 v)) := pj_xt q16_5 rfl (pj_cl_nc rfl) (s16_5)
theorem q16_8 : pj_row 16 8 = some (.iconst 0, 1, 0, 0, 0) := by decide +kernel
theorem s16_8 {L : pj_Loc} {st : List Value} {M : pj_Mem}  : pj_step 16 (8, L, st, M) = some (9, L, .int 0 :: st, M) := st_iconst q16_8 (by decide +kernel)
theorem x16_8 {L : pj_Loc} {st : List Value} {M : pj_Mem}  {o9 : Option Value × pj_Mem} : pj_Ends 16 (8, L, st, M) o9 = pj_Ends 16 (9, L, .int 0 :: st, M) o9 := pj_xs (s16_8)
theorem q16_9 : pj_row 16 9 = some (.istore_n 2, 1, 0, 0, 0) := by decide +kernel
theorem s16_9 {st : List Value} {M : pj_Mem} {l : pj_Loc} {a0 a1 a2 : Option Value} {x : Int32} (h : pj_long a1 = false) : pj_step 16 (9, a0 :: a1 :: a2 :: l, .int x :: st, M) = some (10, a0 :: a1 :: some (.int x) :: l, st, M) := st_istore_n q16_9 (pj_st_2 h)
theorem x16_9 {st : List Value} {M : pj_Mem} {l : pj_Loc} {a0 a1 a2 : Option Value} {x : Int32} (h : pj_long a1 = false) {o9 : Option Value × pj_Mem} : pj_Ends 16 (9, a0 :: a1 :: a2 :: l, .int x :: st, M) o9 = pj_Ends 16 (10, a0 :: a1 :: some (.int x) :: l, st, M) o9 := pj_xs (s16_9 h)
theorem q16_10 : pj_row 16 10 = some (.iload_n 2, 1, 0, 0, 0) := by decide +kernel
theorem s16_10 {st : List Value} {M : pj_Mem} {l : pj_Loc} {a0 a1 : Option Value} {x : Int32} : pj_step 16 (10, a0 :: a1 :: some (.int x) :: l, st, M) = some (11, a0 :: a1 :: some (.int x) :: l, .int x :: st, M) := st_iload_n q16_10 rfl
theorem x16_10 {st : List Value} {M : pj_Mem} {l : pj_Loc} {a0 a1 : Option Value} {x : Int32} {o9 : Option Value × pj_Mem} : pj_Ends 16 (10, a0 :: a1 :: some (.int x) :: l, st, M) o9 = pj_Ends 16 (11, a0 :: a1 :: some (.int x) :: l, .int x :: st, M) o9 := pj_xs (s16_10)
theorem q16_11 : pj_row 16 11 = some (.iconst 3, 1, 0, 0, 0) := by decide +kernel
theorem s16_11 {L : pj_Loc} {st : List Value} {M : pj_Mem}  : pj_step 16 (11, L, st, M) = some (12, L, .int 3 :: st, M) := st_iconst q16_11 (by decide +kernel)
theorem x16_11 {L : pj_Loc} {st : List Value} {M : pj_Mem}  {o9 : Option Value × pj_Mem} : pj_Ends 16 (11, L, st, M) o9 = pj_Ends 16 (12, L, .int 3 :: st, M) o9 := pj_xs (s16_11)
theorem q16_12 : pj_row 16 12 = some (.if_icmp .ge 69, 3, 81, 0, 0) := by decide +kernel
theorem s16_12 {L : pj_Loc} {st : List Value} {M : pj_Mem} {x y : Int32} : pj_step 16 (12, L, .int y :: .int x :: st, M) = some (if y ≤ x then 81 else 15, L, st, M) := st_icmp_ge q16_12
theorem x16_12 {L : pj_Loc} {st : List Value} {M : pj_Mem} {x y : Int32} {o9 : Option Value × pj_Mem} : pj_Ends 16 (12, L, .int y :: .int x :: st, M) o9 = pj_Ends 16 (if y ≤ x then 81 else 15, L, st, M) o9 := pj_xs (s16_12)
theorem q16_15 : pj_row 16 15 = some (.aload_n 0, 1, 0, 0, 0) := by decide +kernel
theorem s16_15 {st : List Value} {M : pj_Mem} {l : pj_Loc} {x : Nat} : pj_step 16 (15, some (.ref x) :: l, st, M) = some (16, some (.ref x) :: l, .ref x :: st, M) := st_aload_n q16_15 rfl
theorem x16_15 {st : List Value} {M : pj_Mem} {l : pj_Loc} {x : Nat} {o9 : Option Value × pj_Mem} : pj_Ends 16 (15, some (.ref x) :: l, st, M) o9 = pj_Ends 16 (16, some (.ref x) :: l, .ref x :: st, M) o9 := pj_xs (s16_15)
theorem q16_16 : pj_row 16 16 = some (.getfield 24, 3, 3, 4, 0) := by decide +kernel
theorem s16_16 {L : pj_Loc} {st : List Value} {N S : Nat} {H : pj_Heap} {o : Nat} : pj_step 16 (16, L, .ref o :: st, (N, S, H)) = pj_pv 19 L st (N, S, H) (pj_fld (H o) 3 4) := st_getfield q16_16
theorem x16_16 {L : pj_Loc} {st : List Value} {N S : Nat} {H : pj_Heap} {o : Nat} {o9 : Option Value × pj_Mem} : pj_Ends 16 (16, L, .ref o :: st, (N, S, H)) o9 = pj_then 16 o9 (pj_pv 19 L st (N, S, H) (pj_fld (H o) 3 4)) := pj_xt q16_16 rfl (pj_cl_nc rfl) (s16_16)
theorem q16_19 : pj_row 16 19 = some (.iload_n 2, 1, 0, 0, 0) := by decide +kernel
theorem s16_19 {st : List Value} {M : pj_Mem} {l : pj_Loc} {a0 a1 : Option Value} {x : Int32} : pj_step 16 (19, a0 :: a1 :: some (.int x) :: l, st, M) = some (20, a0 :: a1 :: some (.int x) :: l, .int x :: st, M) := st_iload_n q16_19 rfl
theorem x16_19 {st : List Value} {M : pj_Mem} {l : pj_Loc} {a0 a1 : Option Value} {x : Int32} {o9 : Option Value × pj_Mem} : pj_Ends 16 (19, a0 :: a1 :: some (.int x) :: l, st, M) o9 = pj_Ends 16 (20, a0 :: a1 :: some (.int x) :: l, .int x :: st, M) o9 := pj_xs (s16_19)
theorem q16_20 : pj_row 16 20 = some (.aload_n 1, 1, 0, 0, 0) := by decide +kernel
theorem s16_20 {st : List Value} {M : pj_Mem} {l : pj_Loc} {a0 : Option Value} {x : Nat} : pj_step 16 (20, a0 :: some (.ref x) :: l, st, M) = some (21, a0 :: some (.ref x) :: l, .ref x :: st, M) := st_aload_n q16_20 rfl
theorem x16_20 {st : List Value} {M : pj_Mem} {l : pj_Loc} {a0 : Option Value} {x : Nat} {o9 : Option Value × pj_Mem} : pj_Ends 16 (20, a0 :: some (.ref x) :: l, st, M) o9 = pj_Ends 16 (21, a0 :: some (.ref x) :: l, .ref x :: st, M) o9 := pj_xs (s16_20)
theorem q16_21 : pj_row 16 21 = some (.getfield 90, 3, 4, 4, 0) := by decide +kernel
theorem s16_21 {L : pj_Loc} {st : List Value} {N S : Nat} {H : pj_Heap} {o : Nat} : pj_step 16 (21, L, .ref o :: st, (N, S, H)) = pj_pv 24 L st (N, S, H) (pj_fld (H o) 4 4) := st_getfield q16_21
theorem x16_21 {L : pj_Loc} {st : List Value} {N S : Nat} {H : pj_Heap} {o : Nat} {o9 : Option Value × pj_Mem} : pj_Ends 16 (21, L, .ref o :: st, (N, S, H)) o9 = pj_then 16 o9 (pj_pv 24 L st (N, S, H) (pj_fld (H o) 4 4)) := pj_xt q16_21 rfl (pj_cl_nc rfl) (s16_21)
theorem q16_24 : pj_row 16 24 = some (.iload_n 2, 1, 0, 0, 0) := by decide +kernel
theorem s16_24 {st : List Value} {M : pj_Mem} {l : pj_Loc} {a0 a1 : Option Value} {x : Int32} : pj_step 16 (24, a0 :: a1 :: some (.int x) :: l, st, M) = some (25, a0 :: a1 :: some (.int x) :: l, .int x :: st, M) := st_iload_n q16_24 rfl
theorem x16_24 {st : List Value} {M : pj_Mem} {l : pj_Loc} {a0 a1 : Option Value} {x : Int32} {o9 : Option Value × pj_Mem} : pj_Ends 16 (24, a0 :: a1 :: some (.int x) :: l, st, M) o9 = pj_Ends 16 (25, a0 :: a1 :: some (.int x) :: l, .int x :: st, M) o9 := pj_xs (s16_24)
theorem q16_25 : pj_row 16 25 = some (.iaload, 1, 0, 0, 0) := by decide +kernel
theorem s16_25 {L : pj_Loc} {st : List Value} {N S : Nat} {H : pj_Heap} {o : Nat} {i : Int32} : pj_step 16 (25, L, .int i :: .ref o :: st, (N, S, H)) = pj_pi 26 L st (N, S, H) (pj_arl (H o) 0 i) := st_iaload q16_25
theorem x16_25 {L : pj_Loc} {st : List Value} {N S : Nat} {H : pj_Heap} {o : Nat} {i : Int32} {o9 : Option Value × pj_Mem} : pj_Ends 16 (25, L, .int i :: .ref o :: st, (N, S, H)) o9 = pj_then 16 o9 (pj_pi 26 L st (N, S, H) (pj_arl (H o) 0 i)) := pj_xt q16_25 rfl (pj_cl_nc rfl) (s16_25)
theorem q16_26 : pj_row 16 26 = some (.aload_n 0, 1, 0, 0, 0) := by decide +kernel
theorem s16_26 {st : List Value} {M : pj_Mem} {l : pj_Loc} {x : Nat} : pj_step 16 (26, some (.ref x) :: l, st, M) = some (27, some (.ref x) :: l, .ref x :: st, M) := st_aload_n q16_26 rfl
theorem x16_26 {st : List Value} {M : pj_Mem} {l : pj_Loc} {x : Nat} {o9 : Option Value × pj_Mem} : pj_Ends 16 (26, some (.ref x) :: l, st, M) o9 = pj_Ends 16 (27, some (.ref x) :: l, .ref x :: st, M) o9 := pj_xs (s16_26)
theorem q16_27 : pj_row 16 27 = some (.getfield 9, 3, 3, 0, 0) := by decide +kernel
theorem s16_27 {L : pj_Loc} {st : List Value} {N S : Nat} {H : pj_Heap} {o : Nat} : pj_step 16 (27, L, .ref o :: st, (N, S, H)) = pj_pv 30 L st (N, S, H) (pj_fld (H o) 3 0) := st_getfield q16_27
theorem x16_27 {L : pj_Loc} {st : List Value} {N S : Nat} {H : pj_Heap} {o : Nat} {o9 : Option Value × pj_Mem} : pj_Ends 16 (27, L, .ref o :: st, (N, S, H)) o9 = pj_then 16 o9 (pj_pv 30 L st (N, S, H) (pj_fld (H o) 3 0)) := pj_xt q16_27 rfl (pj_cl_nc rfl) (s16_27)
theorem q16_30 : pj_row 16 30 = some (.iload_n 2, 1, 0, 0, 0) := by decide +kernel
theorem s16_30 {st : List Value} {M : pj_Mem} {l : pj_Loc} {a0 a1 : Option Value} {x : Int32} : pj_step 16 (30, a0 :: a1 :: some (.int x) :: l, st, M) = some (31, a0 :: a1 :: some (.int x) :: l, .int x :: st, M) := st_iload_n q16_30 rfl
theorem x16_30 {st : List Value} {M : pj_Mem} {l : pj_Loc} {a0 a1 : Option Value} {x : Int32} {o9 : Option Value × pj_Mem} : pj_Ends 16 (30, a0 :: a1 :: some (.int x) :: l, st, M) o9 = pj_Ends 16 (31, a0 :: a1 :: some (.int x) :: l, .int x :: st, M) o9 := pj_xs (s16_30)
theorem q16_31 : pj_row 16 31 = some (.iaload, 1, 0, 0, 0) := by decide +kernel
theorem s16_31 {L : pj_Loc} {st : List Value} {N S : Nat} {H : pj_Heap} {o : Nat} {i : Int32} : pj_step 16 (31, L, .int i :: .ref o :: st, (N, S, H)) = pj_pi 32 L st (N, S, H) (pj_arl (H o) 0 i) := st_iaload q16_31
theorem x16_31 {L : pj_Loc} {st : List Value} {N S : Nat} {H : pj_Heap} {o : Nat} {i : Int32} {o9 : Option Value × pj_Mem} : pj_Ends 16 (31, L, .int i :: .ref o :: st, (N, S, H)) o9 = pj_then 16 o9 (pj_pi 32 L st (N, S, H) (pj_arl (H o) 0 i)) := pj_xt q16_31 rfl (pj_cl_nc rfl) (s16_31)
theorem q16_32 : pj_row 16 32 = some (.if_icmp .ne 14, 3, 46, 0, 0) := by decide +kernel
theorem s16_32 {L : pj_Loc} {st : List Value} {M : pj_Mem} {x y : Int32} : pj_step 16 (32, L, .int y :: .int x :: st, M) = some (if ¬ x = y then 46 else 35, L, st, M) := st_icmp_ne q16_32
theorem x16_32 {L : pj_Loc} {st : List Value} {M : pj_Mem} {x y : Int32} {o9 : Option Value × pj_Mem} : pj_Ends 16 (32, L, .int y :: .int x :: st, M) o9 = pj_Ends 16 (if ¬ x = y then 46 else 35, L, st, M) o9 := pj_xs (s16_32)
theorem q16_35 : pj_row 16 35 = some (.aload_n 1, 1, 0, 0, 0) := by decide +kernel
theorem s16_35 {st : List Value} {M : pj_Mem} {l : pj_Loc} {a0 : Option Value} {x : Nat} : pj_step 16 (35, a0 :: some (.ref x) :: l, st, M) = some (36, a0 :: some (.ref x) :: l, .ref x :: st, M) := st_aload_n q16_35 rfl
theorem x16_35 {st : List Value} {M : pj_Mem} {l : pj_Loc} {a0 : Option Value} {x : Nat} {o9 : Option Value × pj_Mem} : pj_Ends 16 (35, a0 :: some (.ref x) :: l, st, M) o9 = pj_Ends 16 (36, a0 :: some (.ref x) :: l, .ref x :: st, M) o9 := pj_xs (s16_35)
theorem q16_36 : pj_row 16 36 = some (.getfield 91, 3, 4, 3, 0) := by decide +kernel
theorem s16_36 {L : pj_Loc} {st : List Value} {N S : Nat} {H : pj_Heap} {o : Nat} : pj_step 16 (36, L, .ref o :: st, (N, S, H)) = pj_pv 39 L st (N, S, H) (pj_fld (H o) 4 3) := st_getfield q16_36
theorem x16_36 {L : pj_Loc} {st : List Value} {N S : Nat} {H : pj_Heap} {o : Nat} {o9 : Option Value × pj_Mem} : pj_Ends 16 (36, L, .ref o :: st, (N, S, H)) o9 = pj_then 16 o9 (pj_pv 39 L st (N, S, H) (pj_fld (H o) 4 3)) := pj_xt q16_36 rfl (pj_cl_nc rfl) (s16_36)
theorem q16_39 : pj_row 16 39 = some (.iload_n 2, 1, 0, 0, 0) := by decide +kernel
theorem s16_39 {st : List Value} {M : pj_Mem} {l : pj_Loc} {a0 a1 : Option Value} {x : Int32} : pj_step 16 (39, a0 :: a1 :: some (.int x) :: l, st, M) = some (40, a0 :: a1 :: some (.int x) :: l, .int x :: st, M) := st_iload_n q16_39 rfl
theorem x16_39 {st : List Value} {M : pj_Mem} {l : pj_Loc} {a0 a1 : Option Value} {x : Int32} {o9 : Option Value × pj_Mem} : pj_Ends 16 (39, a0 :: a1 :: some (.int x) :: l, st, M) o9 = pj_Ends 16 (40, a0 :: a1 :: some (.int x) :: l, .int x :: st, M) o9 := pj_xs (s16_39)
theorem q16_40 : pj_row 16 40 = some (.iaload, 1, 0, 0, 0) := by decide +kernel
theorem s16_40 {L : pj_Loc} {st : List Value} {N S : Nat} {H : pj_Heap} {o : Nat} {i : Int32} : pj_step 16 (40, L, .int i :: .ref o :: st, (N, S, H)) = pj_pi 41 L st (N, S, H) (pj_arl (H o) 0 i) := st_iaload q16_40
theorem x16_40 {L : pj_Loc} {st : List Value} {N S : Nat} {H : pj_Heap} {o : Nat} {i : Int32} {o9 : Option Value × pj_Mem} : pj_Ends 16 (40, L, .int i :: .ref o :: st, (N, S, H)) o9 = pj_then 16 o9 (pj_pi 41 L st (N, S, H) (pj_arl (H o) 0 i)) := pj_xt q16_40 rfl (pj_cl_nc rfl) (s16_40)
theorem q16_41 : pj_row 16 41 = some (.iconst 1, 1, 0, 0, 0) := by decide +kernel
theorem s16_41 {L : pj_Loc} {st : List Value} {M : pj_Mem}  : pj_step 16 (41, L, st, M) = some (42, L, .int 1 :: st, M) := st_iconst q16_41 (by decide +kernel)
theorem x16_41 {L : pj_Loc} {st : List Value} {M : pj_Mem}  {o9 : Option Value × pj_Mem} : pj_Ends 16 (41, L, st, M) o9 = pj_Ends 16 (42, L, .int 1 :: st, M) o9 := pj_xs (s16_41)
theorem q16_42 : pj_row 16 42 = some (.iadd, 1, 0, 0, 0) := by decide +kernel
theorem s16_42 {L : pj_Loc} {st : List Value} {M : pj_Mem} {x y : Int32} : pj_step 16 (42, L, .int y :: .int x :: st, M) = some (43, L, .int (x + y) :: st, M) := st_iadd q16_42
theorem x16_42 {L : pj_Loc} {st : List Value} {M : pj_Mem} {x y : Int32} {o9 : Option Value × pj_Mem} : pj_Ends 16 (42, L, .int y :: .int x :: st, M) o9 = pj_Ends 16 (43, L, .int (x + y) :: st, M) o9 := pj_xs (s16_42)
theorem q16_43 : pj_row 16 43 = some (.goto 4, 3, 47, 0, 0) := by decide +kernel
theorem s16_43 {L : pj_Loc} {st : List Value} {M : pj_Mem}  : pj_step 16 (43, L, st, M) = some (47, L, st, M) := st_goto q16_43
theorem x16_43 {L : pj_Loc} {st : List Value} {M : pj_Mem}  {o9 : Option Value × pj_Mem} : pj_Ends 16 (43, L, st, M) o9 = pj_Ends 16 (47, L, st, M) o9 := pj_xs (s16_43)
theorem q16_46 : pj_row 16 46 = some (.iconst 1, 1, 0, 0, 0) := by decide +kernel
theorem s16_46 {L : pj_Loc} {st : List Value} {M : pj_Mem}  : pj_step 16 (46, L, st, M) = some (47, L, .int 1 :: st, M) := st_iconst q16_46 (by decide +kernel)
theorem x16_46 {L : pj_Loc} {st : List Value} {M : pj_Mem}  {o9 : Option Value × pj_Mem} : pj_Ends 16 (46, L, st, M) o9 = pj_Ends 16 (47, L, .int 1 :: st, M) o9 := pj_xs (s16_46)
theorem q16_47 : pj_row 16 47 = some (.iastore, 1, 0, 0, 0) := by decide +kernel
theorem s16_47 {L : pj_Loc} {st : List Value} {N S : Nat} {H : pj_Heap} {o : Nat} {i x : Int32} : pj_step 16 (47, L, .int x :: .int i :: .ref o :: st, (N, S, H)) = pj_set 48 L st (N, S, H) o (pj_ars (H o) 0 i x) := st_iastore q16_47
theorem x16_47 {L : pj_Loc} {st : List Value} {N S : Nat} {H : pj_Heap} {o : Nat} {i x : Int32} {o9 : Option Value × pj_Mem} : pj_Ends 16 (47, L, .int x :: .int i :: .ref o :: st, (N, S, H)) o9 = pj_then 16 o9 (pj_set 48 L st (N, S, H) o (pj_ars (H o) 0 i x)) := pj_xt q16_47 rfl (pj_cl_nc rfl) (s16_47)
theorem q16_48 : pj_row 16 48 = some (.aload_n 0, 1, 0, 0, 0) := by decide +kernel
theorem s16_48 {st : List Value} {M : pj_Mem} {l : pj_Loc} {x : Nat} : pj_step 16 (48, some (.ref x) :: l, st, M) = some (49, some (.ref x) :: l, .ref x :: st, M) := st_aload_n q16_48 rfl
theorem x16_48 {st : List Value} {M : pj_Mem} {l : pj_Loc} {x : Nat} {o9 : Option Value × pj_Mem} : pj_Ends 16 (48, some (.ref x) :: l, st, M) o9 = pj_Ends 16 (49, some (.ref x) :: l, .ref x :: st, M) o9 := pj_xs (s16_48)
theorem q16_49 : pj_row 16 49 = some (.getfield 24, 3, 3, 4, 0) := by decide +kernel
theorem s16_49 {L : pj_Loc} {st : List Value} {N S : Nat} {H : pj_Heap} {o : Nat} : pj_step 16 (49, L, .ref o :: st, (N, S, H)) = pj_pv 52 L st (N, S, H) (pj_fld (H o) 3 4) := st_getfield q16_49
theorem x16_49 {L : pj_Loc} {st : List Value} {N S : Nat} {H : pj_Heap} {o : Nat} {o9 : Option Value × pj_Mem} : pj_Ends 16 (49, L, .ref o :: st, (N, S, H)) o9 = pj_then 16 o9 (pj_pv 52 L st (N, S, H) (pj_fld (H o) 3 4)) := pj_xt q16_49 rfl (pj_cl_nc rfl) (s16_49)
theorem q16_52 : pj_row 16 52 = some (.iload_n 2, 1, 0, 0, 0) := by decide +kernel
theorem s16_52 {st : List Value} {M : pj_Mem} {l : pj_Loc} {a0 a1 : Option Value} {x : Int32} : pj_step 16 (52, a0 :: a1 :: some (.int x) :: l, st, M) = some (53, a0 :: a1 :: some (.int x) :: l, .int x :: st, M) := st_iload_n q16_52 rfl
theorem x16_52 {st : List Value} {M : pj_Mem} {l : pj_Loc} {a0 a1 : Option Value} {x : Int32} {o9 : Option Value × pj_Mem} : pj_Ends 16 (52, a0 :: a1 :: some (.int x) :: l, st, M) o9 = pj_Ends 16 (53, a0 :: a1 :: some (.int x) :: l, .int x :: st, M) o9 := pj_xs (s16_52)
theorem q16_53 : pj_row 16 53 = some (.iaload, 1, 0, 0, 0) := by decide +kernel
theorem s16_53 {L : pj_Loc} {st : List Value} {N S : Nat} {H : pj_Heap} {o : Nat} {i : Int32} : pj_step 16 (53, L, .int i :: .ref o :: st, (N, S, H)) = pj_pi 54 L st (N, S, H) (pj_arl (H o) 0 i) := st_iaload q16_53
theorem x16_53 {L : pj_Loc} {st : List Value} {N S : Nat} {H : pj_Heap} {o : Nat} {i : Int32} {o9 : Option Value × pj_Mem} : pj_Ends 16 (53, L, .int i :: .ref o :: st, (N, S, H)) o9 = pj_then 16 o9 (pj_pi 54 L st (N, S, H) (pj_arl (H o) 0 i)) := pj_xt q16_53 rfl (pj_cl_nc rfl) (s16_53)
theorem q16_54 : pj_row 16 54 = some (.aload_n 1, 1, 0, 0, 0) := by decide +kernel
theorem s16_54 {st : List Value} {M : pj_Mem} {l : pj_Loc} {a0 : Option Value} {x : Nat} : pj_step 16 (54, a0 :: some (.ref x) :: l, st, M) = some (55, a0 :: some (.ref x) :: l, .ref x :: st, M) := st_aload_n q16_54 rfl
theorem x16_54 {st : List Value} {M : pj_Mem} {l : pj_Loc} {a0 : Option Value} {x : Nat} {o9 : Option Value × pj_Mem} : pj_Ends 16 (54, a0 :: some (.ref x) :: l, st, M) o9 = pj_Ends 16 (55, a0 :: some (.ref x) :: l, .ref x :: st, M) o9 := pj_xs (s16_54)
theorem q16_55 : pj_row 16 55 = some (.getfield 50, 3, 4, 0, 0) := by decide +kernel
theorem s16_55 {L : pj_Loc} {st : List Value} {N S : Nat} {H : pj_Heap} {o : Nat} : pj_step 16 (55, L, .ref o :: st, (N, S, H)) = pj_pv 58 L st (N, S, H) (pj_fld (H o) 4 0) := st_getfield q16_55
theorem x16_55 {L : pj_Loc} {st : List Value} {N S : Nat} {H : pj_Heap} {o : Nat} {o9 : Option Value × pj_Mem} : pj_Ends 16 (55, L, .ref o :: st, (N, S, H)) o9 = pj_then 16 o9 (pj_pv 58 L st (N, S, H) (pj_fld (H o) 4 0)) := pj_xt q16_55 rfl (pj_cl_nc rfl) (s16_55)
theorem q16_58 : pj_row 16 58 = some (.iconst 3, 1, 0, 0, 0) := by decide +kernel
theorem s16_58 {L : pj_Loc} {st : List Value} {M : pj_Mem}  : pj_step 16 (58, L, st, M) = some (59, L, .int 3 :: st, M) := st_iconst q16_58 (by decide +kernel)
theorem x16_58 {L : pj_Loc} {st : List Value} {M : pj_Mem}  {o9 : Option Value × pj_Mem} : pj_Ends 16 (58, L, st, M) o9 = pj_Ends 16 (59, L, .int 3 :: st, M) o9 := pj_xs (s16_58)
theorem q16_59 : pj_row 16 59 = some (.iaload, 1, 0, 0, 0) := by decide +kernel
theorem s16_59 {L : pj_Loc} {st : List Value} {N S : Nat} {H : pj_Heap} {o : Nat} {i : Int32} : pj_step 16 (59, L, .int i :: .ref o :: st, (N, S, H)) = pj_pi 60 L st (N, S, H) (pj_arl (H o) 0 i) := st_iaload q16_59
theorem x16_59 {L : pj_Loc} {st : List Value} {N S : Nat} {H : pj_Heap} {o : Nat} {i : Int32} {o9 : Option Value × pj_Mem} : pj_Ends 16 (59, L, .int i :: .ref o :: st, (N, S, H)) o9 = pj_then 16 o9 (pj_pi 60 L st (N, S, H) (pj_arl (H o) 0 i)) := pj_xt q16_59 rfl (pj_cl_nc rfl) (s16_59)
theorem q16_60 : pj_row 16 60 = some (.if_icmp .lt 15, 3, 75, 0, 0) := by decide +kernel
theorem s16_60 {L : pj_Loc} {st : List Value} {M : pj_Mem} {x y : Int32} : pj_step 16 (60, L, .int y :: .int x :: st, M) = some (if x < y then 75 else 63, L, st, M) := st_icmp_lt q16_60
theorem x16_60 {L : pj_Loc} {st : List Value} {M : pj_Mem} {x y : Int32} {o9 : Option Value × pj_Mem} : pj_Ends 16 (60, L, .int y :: .int x :: st, M) o9 = pj_Ends 16 (if x < y then 75 else 63, L, st, M) o9 := pj_xs (s16_60)
theorem q16_63 : pj_row 16 63 = some (.aload_n 0, 1, 0, 0, 0) := by decide +kernel
theorem s16_63 {st : List Value} {M : pj_Mem} {l : pj_Loc} {x : Nat} : pj_step 16 (63, some (.ref x) :: l, st, M) = some (64, some (.ref x) :: l, .ref x :: st, M) := st_aload_n q16_63 rfl
theorem x16_63 {st : List Value} {M : pj_Mem} {l : pj_Loc} {x : Nat} {o9 : Option Value × pj_Mem} : pj_Ends 16 (63, some (.ref x) :: l, st, M) o9 = pj_Ends 16 (64, some (.ref x) :: l, .ref x :: st, M) o9 := pj_xs (s16_63)
theorem q16_64 : pj_row 16 64 = some (.aload_n 0, 1, 0, 0, 0) := by decide +kernel
theorem s16_64 {st : List Value} {M : pj_Mem} {l : pj_Loc} {x : Nat} : pj_step 16 (64, some (.ref x) :: l, st, M) = some (65, some (.ref x) :: l, .ref x :: st, M) := st_aload_n q16_64 rfl
theorem x16_64 {st : List Value} {M : pj_Mem} {l : pj_Loc} {x : Nat} {o9 : Option Value × pj_Mem} : pj_Ends 16 (64, some (.ref x) :: l, st, M) o9 = pj_Ends 16 (65, some (.ref x) :: l, .ref x :: st, M) o9 := pj_xs (s16_64)
theorem q16_65 : pj_row 16 65 = some (.getfield 89, 3, 3, 8, 0) := by decide +kernel
theorem s16_65 {L : pj_Loc} {st : List Value} {N S : Nat} {H : pj_Heap} {o : Nat} : pj_step 16 (65, L, .ref o :: st, (N, S, H)) = pj_pv 68 L st (N, S, H) (pj_fld (H o) 3 8) := st_getfield q16_65
theorem x16_65 {L : pj_Loc} {st : List Value} {N S : Nat} {H : pj_Heap} {o : Nat} {o9 : Option Value × pj_Mem} : pj_Ends 16 (65, L, .ref o :: st, (N, S, H)) o9 = pj_then 16 o9 (pj_pv 68 L st (N, S, H) (pj_fld (H o) 3 8)) := pj_xt q16_65 rfl (pj_cl_nc rfl) (s16_65)
theorem q16_68 : pj_row 16 68 = some (.iload_n 2, 1, 0, 0, 0) := by decide +kernel
theorem s16_68 {st : List Value} {M : pj_Mem} {l : pj_Loc} {a0 a1 : Option Value} {x : Int32} : pj_step 16 (68, a0 :: a1 :: some (.int x) :: l, st, M) = some (69, a0 :: a1 :: some (.int x) :: l, .int x :: st, M) := st_iload_n q16_68 rfl
theorem x16_68 {st : List Value} {M : pj_Mem} {l : pj_Loc} {a0 a1 : Option Value} {x : Int32} {o9 : Option Value × pj_Mem} : pj_Ends 16 (68, a0 :: a1 :: some (.int x) :: l, st, M) o9 = pj_Ends 16 (69, a0 :: a1 :: some (.int x) :: l, .int x :: st, M) o9 := pj_xs (s16_68)
theorem q16_69 : pj_row 16 69 = some (.invokestatic 92, 3, 17, 2, 1) := by decide +kernel
theorem e16_69 {L : pj_Loc} {st : List Value} {N S : Nat} {H : pj_Heap} {o : Option Value × pj_Mem} {M' : pj_Mem} {x0 : Int32} {x1 : Int32} {r : Int32} (h4 : pj_le4 st = true) (h1 : pj_Ends 17 (0, [some (.int x0), some (.int x1)], [], (N, S, H)) (some (.int r), M')) (h2 : pj_Ends 16 (72, L, .int r :: st, M') o) : pj_Ends 16 (69, L, .int x1 :: .int x0 :: st, (N, S, H)) o := ec_s2 q16_69 (Or.inr rfl) h4 rfl h1 h2
theorem q16_72 : pj_row 16 72 = some (.putfield 89, 3, 3, 8, 0) := by decide +kernel
theorem s16_72 {L : pj_Loc} {st : List Value} {N S : Nat} {H : pj_Heap} {o : Nat} {v : Value} : pj_step 16 (72, L, v :: .ref o :: st, (N, S, H)) = pj_set 75 L st (N, S, H) o (pj_fset (H o) 3 8 v) := st_putfield q16_72
theorem x16_72 {L : pj_Loc} {st : List Value} {N S : Nat} {H : pj_Heap} {o : Nat} {v : Value} {o9 : Option Value × pj_Mem} : pj_Ends 16 (72, L, v :: .ref o :: st, (N, S, H)) o9 = pj_then 16 o9 (pj_set 75 L st (N, S, H) o (pj_fset (H o) 3 8 v)) := pj_xt q16_72 rfl (pj_cl_nc rfl) (s16_72)
theorem q16_75 : pj_row 16 75 = some (.iinc 2 1, 3, 0, 0, 0) := by decide +kernel
theorem s16_75 {st : List Value} {M : pj_Mem} {l : pj_Loc} {a0 a1 : Option Value} {x : Int32} (h : pj_long a1 = false) : pj_step 16 (75, a0 :: a1 :: some (.int x) :: l, st, M) = some (78, a0 :: a1 :: some (.int (x + 1)) :: l, st, M) := st_iinc q16_75 rfl (congrArg (fun y => x + y) (show Int32.ofInt 1 = 1 by decide +kernel)) (pj_st_2 h)
theorem x16_75 {st : List Value} {M : pj_Mem} {l : pj_Loc} {a0 a1 : Option Value} {x : Int32} (h : pj_long a1 = false) {o9 : Option Value × pj_Mem} : pj_Ends 16 (75, a0 :: a1 :: some (.int x) :: l, st, M) o9 = pj_Ends 16 (78, a0 :: a1 :: some (.int (x + 1)) :: l, st, M) o9 := pj_xs (s16_75 h)
theorem q16_78 : pj_row 16 78 = some (.goto (-68), 3, 10, 0, 0) := by decide +kernel
theorem s16_78 {L : pj_Loc} {st : List Value} {M : pj_Mem}  : pj_step 16 (78, L, st, M) = some (10, L, st, M) := st_goto q16_78
theorem x16_78 {L : pj_Loc} {st : List Value} {M : pj_Mem}  {o9 : Option Value × pj_Mem} : pj_Ends 16 (78, L, st, M) o9 = pj_Ends 16 (10, L, st, M) o9 := pj_xs (s16_78)
theorem q16_81 : pj_row 16 81 = some (.return_, 1, 0, 0, 0) := by decide +kernel
theorem t16_81 {L : pj_Loc} {M : pj_Mem} : pj_Ends 16 (81, L, [], M) (none, M) := pj_Ends.ret q16_81 (pj_rtn_v rt16)
theorem rt17 : pj_rt 17 = some .int := rfl
theorem q17_0 : pj_row 17 0 = some (.iload_n 0, 1, 0, 0, 0) := by decide +kernel
theorem s17_0 {st : List Value} {M : pj_Mem} {l : pj_Loc} {x : Int32} : pj_step 17 (0, some (.int x) :: l, st, M) = some (1, some (.int x) :: l, .int x :: st, M) := st_iload_n q17_0 rfl
theorem x17_0 {st : List Value} {M : pj_Mem} {l : pj_Loc} {x : Int32} {o9 : Option Value × pj_Mem} : pj_Ends 17 (0, some (.int x) :: l, st, M) o9 = pj_Ends 17 (1, some (.int x) :: l, .int x :: st, M) o9 := pj_xs (s17_0)
theorem q17_1 : pj_row 17 1 = some (.iconst 1, 1, 0, 0, 0) := by decide +kernel
theorem s17_1 {L : pj_Loc} {st : List Value} {M : pj_Mem}  : pj_step 17 (1, L, st, M) = some (2, L, .int 1 :: st, M) := st_iconst q17_1 (by decide +kernel)
theorem x17_1 {L : pj_Loc} {st : List Value} {M : pj_Mem}  {o9 : Option Value × pj_Mem} : pj_Ends 17 (1, L, st, M) o9 = pj_Ends 17 (2, L, .int 1 :: st, M) o9 := pj_xs (s17_1)
theorem q17_2 : pj_row 17 2 = some (.iload_n 1, 1, 0, 0, 0) := by decide +kernel
theorem s17_2 {st : List Value} {M : pj_Mem} {l : pj_Loc} {a0 : Option Value} {x : Int32} : pj_step 17 (2, a0 :: some (.int x) :: l, st, M) = some (3, a0 :: some (.int x) :: l, .int x :: st, M) := st_iload_n q17_2 rfl
theorem x17_2 {st : List Value} {M : pj_Mem} {l : pj_Loc} {a0 : Option Value} {x : Int32} {o9 : Option Value × pj_Mem} : pj_Ends 17 (2, a0 :: some (.int x) :: l, st, M) o9 = pj_Ends 17 (3, a0 :: some (.int x) :: l, .int x :: st, M) o9 := pj_xs (s17_2)
theorem q17_3 : pj_row 17 3 = some (.ishl, 1, 0, 0, 0) := by decide +kernel
theorem s17_3 {L : pj_Loc} {st : List Value} {M : pj_Mem} {x y : Int32} : pj_step 17 (3, L, .int y :: .int x :: st, M) = some (4, L, .int (x <<< (y &&& 31)) :: st, M) := st_ishl q17_3
theorem x17_3 {L : pj_Loc} {st : List Value} {M : pj_Mem} {x y : Int32} {o9 : Option Value × pj_Mem} : pj_Ends 17 (3, L, .int y :: .int x :: st, M) o9 = pj_Ends 17 (4, L, .int (x <<< (y &&& 31)) :: st, M) o9 := pj_xs (s17_3)
theorem q17_4 : pj_row 17 4 = some (.iconst (-1), 1, 0, 0, 0) := by decide +kernel
theorem s17_4 {L : pj_Loc} {st : List Value} {M : pj_Mem}  : pj_step 17 (4, L, st, M) = some (5, L, .int (-1) :: st, M) := st_iconst q17_4 (by decide +kernel)
theorem x17_4 {L : pj_Loc} {st : List Value} {M : pj_Mem}  {o9 : Option Value × pj_Mem} : pj_Ends 17 (4, L, st, M) o9 = pj_Ends 17 (5, L, .int (-1) :: st, M) o9 := pj_xs (s17_4)
theorem q17_5 : pj_row 17 5 = some (.ixor, 1, 0, 0, 0) := by decide +kernel
theorem s17_5 {L : pj_Loc} {st : List Value} {M : pj_Mem} {x y : Int32} : pj_step 17 (5, L, .int y :: .int x :: st, M) = some (6, L, .int (x ^^^ y) :: st, M) := st_ixor q17_5
theorem x17_5 {L : pj_Loc} {st : List Value} {M : pj_Mem} {x y : Int32} {o9 : Option Value × pj_Mem} : pj_Ends 17 (5, L, .int y :: .int x :: st, M) o9 = pj_Ends 17 (6, L, .int (x ^^^ y) :: st, M) o9 := pj_xs (s17_5)
theorem q17_6 : pj_row 17 6 = some (.iand, 1, 0, 0, 0) := by decide +kernel
theorem s17_6 {L : pj_Loc} {st : List Value} {M : pj_Mem} {x y : Int32} : pj_step 17 (6, L, .int y :: .int x :: st, M) = some (7, L, .int (x &&& y) :: st, M) := st_iand q17_6
theorem x17_6 {L : pj_Loc} {st : List Value} {M : pj_Mem} {x y : Int32} {o9 : Option Value × pj_Mem} : pj_Ends 17 (6, L, .int y :: .int x :: st, M) o9 = pj_Ends 17 (7, L, .int (x &&& y) :: st, M) o9 := pj_xs (s17_6)
theorem q17_7 : pj_row 17 7 = some (.ireturn, 1, 0, 0, 0) := by decide +kernel
theorem t17_7 {L : pj_Loc} {M : pj_Mem} {v : Int32} : pj_Ends 17 (7, L, [.int v], M) (some (.int v), M) := pj_Ends.ret q17_7 (pj_rtn_i rt17)
theorem rt18 : pj_rt 18 = none := rfl
theorem q18_0 : pj_row 18 0 = some (.iconst 0, 1, 0, 0, 0) := by decide +kernel
theorem s18_0 {L : pj_Loc} {st : List Value} {M : pj_Mem}  : pj_step 18 (0, L, st, M) = some (1, L, .int 0 :: st, M) := st_iconst q18_0 (by decide +kernel)
theorem x18_0 {L : pj_Loc} {st : List Value} {M : pj_Mem}  {o9 : Option Value × pj_Mem} : pj_Ends 18 (0, L, st, M) o9 = pj_Ends 18 (1, L, .int 0 :: st, M) o9 := pj_xs (s18_0)
theorem q18_1 : pj_row 18 1 = some (.istore_n 2, 1, 0, 0, 0) := by decide +kernel
theorem s18_1 {st : List Value} {M : pj_Mem} {l : pj_Loc} {a0 a1 a2 : Option Value} {x : Int32} (h : pj_long a1 = false) : pj_step 18 (1, a0 :: a1 :: a2 :: l, .int x :: st, M) = some (2, a0 :: a1 :: some (.int x) :: l, st, M) := st_istore_n q18_1 (pj_st_2 h)
theorem x18_1 {st : List Value} {M : pj_Mem} {l : pj_Loc} {a0 a1 a2 : Option Value} {x : Int32} (h : pj_long a1 = false) {o9 : Option Value × pj_Mem} : pj_Ends 18 (1, a0 :: a1 :: a2 :: l, .int x :: st, M) o9 = pj_Ends 18 (2, a0 :: a1 :: some (.int x) :: l, st, M) o9 := pj_xs (s18_1 h)
theorem q18_2 : pj_row 18 2 = some (.iload_n 2, 1, 0, 0, 0) := by decide +kernel
theorem s18_2 {st : List Value} {M : pj_Mem} {l : pj_Loc} {a0 a1 : Option Value} {x : Int32} : pj_step 18 (2, a0 :: a1 :: some (.int x) :: l, st, M) = some (3, a0 :: a1 :: some (.int x) :: l, .int x :: st, M) := st_iload_n q18_2 rfl
theorem x18_2 {st : List Value} {M : pj_Mem} {l : pj_Loc} {a0 a1 : Option Value} {x : Int32} {o9 : Option Value × pj_Mem} : pj_Ends 18 (2, a0 :: a1 :: some (.int x) :: l, st, M) o9 = pj_Ends 18 (3, a0 :: a1 :: some (.int x) :: l, .int x :: st, M) o9 := pj_xs (s18_2)
theorem q18_3 : pj_row 18 3 = some (.iconst 3, 1, 0, 0, 0) := by decide +kernel
theorem s18_3 {L : pj_Loc} {st : List Value} {M : pj_Mem}  : pj_step 18 (3, L, st, M) = some (4, L, .int 3 :: st, M) := st_iconst q18_3 (by decide +kernel)
theorem x18_3 {L : pj_Loc} {st : List Value} {M : pj_Mem}  {o9 : Option Value × pj_Mem} : pj_Ends 18 (3, L, st, M) o9 = pj_Ends 18 (4, L, .int 3 :: st, M) o9 := pj_xs (s18_3)
theorem q18_4 : pj_row 18 4 = some (.if_icmp .ge 28, 3, 32, 0, 0) := by decide +kernel
theorem s18_4 {L : pj_Loc} {st : List Value} {M : pj_Mem} {x y : Int32} : pj_step 18 (4, L, .int y :: .int x :: st, M) = some (if y ≤ x then 32 else 7, L, st, M) := st_icmp_ge q18_4
theorem x18_4 {L : pj_Loc} {st : List Value} {M : pj_Mem} {x y : Int32} {o9 : Option Value × pj_Mem} : pj_Ends 18 (4, L, .int y :: .int x :: st, M) o9 = pj_Ends 18 (if y ≤ x then 32 else 7, L, st, M) o9 := pj_xs (s18_4)
theorem q18_7 : pj_row 18 7 = some (.aload_n 0, 1, 0, 0, 0) := by decide +kernel
theorem s18_7 {st : List Value} {M : pj_Mem} {l : pj_Loc} {x : Nat} : pj_step 18 (7, some (.ref x) :: l, st, M) = some (8, some (.ref x) :: l, .ref x :: st, M) := st_aload_n q18_7 rfl
theorem x18_7 {st : List Value} {M : pj_Mem} {l : pj_Loc} {x : Nat} {o9 : Option Value × pj_Mem} : pj_Ends 18 (7, some (.ref x) :: l, st, M) o9 = pj_Ends 18 (8, some (.ref x) :: l, .ref x :: st, M) o9 := pj_xs (s18_7)
theorem q18_8 : pj_row 18 8 = some (.getfield 15, 3, 3, 1, 0) := by decide +kernel
theorem s18_8 {L : pj_Loc} {st : List Value} {N S : Nat} {H : pj_Heap} {o : Nat} : pj_step 18 (8, L, .ref o :: st, (N, S, H)) = pj_pv 11 L st (N, S, H) (pj_fld (H o) 3 1) := st_getfield q18_8
theorem x18_8 {L : pj_Loc} {st : List Value} {N S : Nat} {H : pj_Heap} {o : Nat} {o9 : Option Value × pj_Mem} : pj_Ends 18 (8, L, .ref o :: st, (N, S, H)) o9 = pj_then 18 o9 (pj_pv 11 L st (N, S, H) (pj_fld (H o) 3 1)) := pj_xt q18_8 rfl (pj_cl_nc rfl) (s18_8)
theorem q18_11 : pj_row 18 11 = some (.iload_n 2, 1, 0, 0, 0) := by decide +kernel
theorem s18_11 {st : List Value} {M : pj_Mem} {l : pj_Loc} {a0 a1 : Option Value} {x : Int32} : pj_step 18 (11, a0 :: a1 :: some (.int x) :: l, st, M) = some (12, a0 :: a1 :: some (.int x) :: l, .int x :: st, M) := st_iload_n q18_11 rfl
theorem x18_11 {st : List Value} {M : pj_Mem} {l : pj_Loc} {a0 a1 : Option Value} {x : Int32} {o9 : Option Value × pj_Mem} : pj_Ends 18 (11, a0 :: a1 :: some (.int x) :: l, st, M) o9 = pj_Ends 18 (12, a0 :: a1 :: some (.int x) :: l, .int x :: st, M) o9 := pj_xs (s18_11)
theorem q18_12 : pj_row 18 12 = some (.aload_n 0, 1, 0, 0, 0) := by decide +kernel
theorem s18_12 {st : List Value} {M : pj_Mem} {l : pj_Loc} {x : Nat} : pj_step 18 (12, some (.ref x) :: l, st, M) = some (13, some (.ref x) :: l, .ref x :: st, M) := st_aload_n q18_12 rfl
theorem x18_12 {st : List Value} {M : pj_Mem} {l : pj_Loc} {x : Nat} {o9 : Option Value × pj_Mem} : pj_Ends 18 (12, some (.ref x) :: l, st, M) o9 = pj_Ends 18 (13, some (.ref x) :: l, .ref x :: st, M) o9 := pj_xs (s18_12)
theorem q18_13 : pj_row 18 13 = some (.getfield 9, 3, 3, 0, 0) := by decide +kernel
theorem s18_13 {L : pj_Loc} {st : List Value} {N S : Nat} {H : pj_Heap} {o : Nat} : pj_step 18 (13, L, .ref o :: st, (N, S, H)) = pj_pv 16 L st (N, S, H) (pj_fld (H o) 3 0) := st_getfield q18_13
theorem x18_13 {L : pj_Loc} {st : List Value} {N S : Nat} {H : pj_Heap} {o : Nat} {o9 : Option Value × pj_Mem} : pj_Ends 18 (13, L, .ref o :: st, (N, S, H)) o9 = pj_then 18 o9 (pj_pv 16 L st (N, S, H) (pj_fld (H o) 3 0)) := pj_xt q18_13 rfl (pj_cl_nc rfl) (s18_13)
theorem q18_16 : pj_row 18 16 = some (.iload_n 2, 1, 0, 0, 0) := by decide +kernel
theorem s18_16 {st : List Value} {M : pj_Mem} {l : pj_Loc} {a0 a1 : Option Value} {x : Int32} : pj_step 18 (16, a0 :: a1 :: some (.int x) :: l, st, M) = some (17, a0 :: a1 :: some (.int x) :: l, .int x :: st, M) := st_iload_n q18_16 rfl
theorem x18_16 {st : List Value} {M : pj_Mem} {l : pj_Loc} {a0 a1 : Option Value} {x : Int32} {o9 : Option Value × pj_Mem} : pj_Ends 18 (16, a0 :: a1 :: some (.int x) :: l, st, M) o9 = pj_Ends 18 (17, a0 :: a1 :: some (.int x) :: l, .int x :: st, M) o9 := pj_xs (s18_16)
theorem q18_17 : pj_row 18 17 = some (.iaload, 1, 0, 0, 0) := by decide +kernel
theorem s18_17 {L : pj_Loc} {st : List Value} {N S : Nat} {H : pj_Heap} {o : Nat} {i : Int32} : pj_step 18 (17, L, .int i :: .ref o :: st, (N, S, H)) = pj_pi 18 L st (N, S, H) (pj_arl (H o) 0 i) := st_iaload q18_17
theorem x18_17 {L : pj_Loc} {st : List Value} {N S : Nat} {H : pj_Heap} {o : Nat} {i : Int32} {o9 : Option Value × pj_Mem} : pj_Ends 18 (17, L, .int i :: .ref o :: st, (N, S, H)) o9 = pj_then 18 o9 (pj_pi 18 L st (N, S, H) (pj_arl (H o) 0 i)) := pj_xt q18_17 rfl (pj_cl_nc rfl) (s18_17)
theorem q18_18 : pj_row 18 18 = some (.aload_n 1, 1, 0, 0, 0) := by decide +kernel
theorem s18_18 {st : List Value} {M : pj_Mem} {l : pj_Loc} {a0 : Option Value} {x : Nat} : pj_step 18 (18, a0 :: some (.ref x) :: l, st, M) = some (19, a0 :: some (.ref x) :: l, .ref x :: st, M) := st_aload_n q18_18 rfl
theorem x18_18 {st : List Value} {M : pj_Mem} {l : pj_Loc} {a0 : Option Value} {x : Nat} {o9 : Option Value × pj_Mem} : pj_Ends 18 (18, a0 :: some (.ref x) :: l, st, M) o9 = pj_Ends 18 (19, a0 :: some (.ref x) :: l, .ref x :: st, M) o9 := pj_xs (s18_18)
theorem q18_19 : pj_row 18 19 = some (.getfield 95, 3, 4, 1, 0) := by decide +kernel
theorem s18_19 {L : pj_Loc} {st : List Value} {N S : Nat} {H : pj_Heap} {o : Nat} : pj_step 18 (19, L, .ref o :: st, (N, S, H)) = pj_pv 22 L st (N, S, H) (pj_fld (H o) 4 1) := st_getfield q18_19
theorem x18_19 {L : pj_Loc} {st : List Value} {N S : Nat} {H : pj_Heap} {o : Nat} {o9 : Option Value × pj_Mem} : pj_Ends 18 (19, L, .ref o :: st, (N, S, H)) o9 = pj_then 18 o9 (pj_pv 22 L st (N, S, H) (pj_fld (H o) 4 1)) := pj_xt q18_19 rfl (pj_cl_nc rfl) (s18_19)
theorem q18_22 : pj_row 18 22 = some (.iload_n 2, 1, 0, 0, 0) := by decide +kernel
theorem s18_22 {st : List Value} {M : pj_Mem} {l : pj_Loc} {a0 a1 : Option Value} {x : Int32} : pj_step 18 (22, a0 :: a1 :: some (.int x) :: l, st, M) = some (23, a0 :: a1 :: some (.int x) :: l, .int x :: st, M) := st_iload_n q18_22 rfl
theorem x18_22 {st : List Value} {M : pj_Mem} {l : pj_Loc} {a0 a1 : Option Value} {x : Int32} {o9 : Option Value × pj_Mem} : pj_Ends 18 (22, a0 :: a1 :: some (.int x) :: l, st, M) o9 = pj_Ends 18 (23, a0 :: a1 :: some (.int x) :: l, .int x :: st, M) o9 := pj_xs (s18_22)
theorem q18_23 : pj_row 18 23 = some (.iaload, 1, 0, 0, 0) := by decide +kernel
theorem s18_23 {L : pj_Loc} {st : List Value} {N S : Nat} {H : pj_Heap} {o : Nat} {i : Int32} : pj_step 18 (23, L, .int i :: .ref o :: st, (N, S, H)) = pj_pi 24 L st (N, S, H) (pj_arl (H o) 0 i) := st_iaload q18_23
theorem x18_23 {L : pj_Loc} {st : List Value} {N S : Nat} {H : pj_Heap} {o : Nat} {i : Int32} {o9 : Option Value × pj_Mem} : pj_Ends 18 (23, L, .int i :: .ref o :: st, (N, S, H)) o9 = pj_then 18 o9 (pj_pi 24 L st (N, S, H) (pj_arl (H o) 0 i)) := pj_xt q18_23 rfl (pj_cl_nc rfl) (s18_23)
theorem q18_24 : pj_row 18 24 = some (.isub, 1, 0, 0, 0) := by decide +kernel
theorem s18_24 {L : pj_Loc} {st : List Value} {M : pj_Mem} {x y : Int32} : pj_step 18 (24, L, .int y :: .int x :: st, M) = some (25, L, .int (x - y) :: st, M) := st_isub q18_24
theorem x18_24 {L : pj_Loc} {st : List Value} {M : pj_Mem} {x y : Int32} {o9 : Option Value × pj_Mem} : pj_Ends 18 (24, L, .int y :: .int x :: st, M) o9 = pj_Ends 18 (25, L, .int (x - y) :: st, M) o9 := pj_xs (s18_24)
theorem q18_25 : pj_row 18 25 = some (.iastore, 1, 0, 0, 0) := by decide +kernel
theorem s18_25 {L : pj_Loc} {st : List Value} {N S : Nat} {H : pj_Heap} {o : Nat} {i x : Int32} : pj_step 18 (25, L, .int x :: .int i :: .ref o :: st, (N, S, H)) = pj_set 26 L st (N, S, H) o (pj_ars (H o) 0 i x) := st_iastore q18_25
theorem x18_25 {L : pj_Loc} {st : List Value} {N S : Nat} {H : pj_Heap} {o : Nat} {i x : Int32} {o9 : Option Value × pj_Mem} : pj_Ends 18 (25, L, .int x :: .int i :: .ref o :: st, (N, S, H)) o9 = pj_then 18 o9 (pj_set 26 L st (N, S, H) o (pj_ars (H o) 0 i x)) := pj_xt q18_25 rfl (pj_cl_nc rfl) (s18_25)
theorem q18_26 : pj_row 18 26 = some (.iinc 2 1, 3, 0, 0, 0) := by decide +kernel
theorem s18_26 {st : List Value} {M : pj_Mem} {l : pj_Loc} {a0 a1 : Option Value} {x : Int32} (h : pj_long a1 = false) : pj_step 18 (26, a0 :: a1 :: some (.int x) :: l, st, M) = some (29, a0 :: a1 :: some (.int (x + 1)) :: l, st, M) := st_iinc q18_26 rfl (congrArg (fun y => x + y) (show Int32.ofInt 1 = 1 by decide +kernel)) (pj_st_2 h)
theorem x18_26 {st : List Value} {M : pj_Mem} {l : pj_Loc} {a0 a1 : Option Value} {x : Int32} (h : pj_long a1 = false) {o9 : Option Value × pj_Mem} : pj_Ends 18 (26, a0 :: a1 :: some (.int x) :: l, st, M) o9 = pj_Ends 18 (29, a0 :: a1 :: some (.int (x + 1)) :: l, st, M) o9 := pj_xs (s18_26 h)
theorem q18_29 : pj_row 18 29 = some (.goto (-27), 3, 2, 0, 0) := by decide +kernel
theorem s18_29 {L : pj_Loc} {st : List Value} {M : pj_Mem}  : pj_step 18 (29, L, st, M) = some (2, L, st, M) := st_goto q18_29
theorem x18_29 {L : pj_Loc} {st : List Value} {M : pj_Mem}  {o9 : Option Value × pj_Mem} : pj_Ends 18 (29, L, st, M) o9 = pj_Ends 18 (2, L, st, M) o9 := pj_xs (s18_29)
theorem q18_32 : pj_row 18 32 = some (.aload_n 0, 1, 0, 0, 0) := by decide +kernel
theorem s18_32 {st : List Value} {M : pj_Mem} {l : pj_Loc} {x : Nat} : pj_step 18 (32, some (.ref x) :: l, st, M) = some (33, some (.ref x) :: l, .ref x :: st, M) := st_aload_n q18_32 rfl
theorem x18_32 {st : List Value} {M : pj_Mem} {l : pj_Loc} {x : Nat} {o9 : Option Value × pj_Mem} : pj_Ends 18 (32, some (.ref x) :: l, st, M) o9 = pj_Ends 18 (33, some (.ref x) :: l, .ref x :: st, M) o9 := pj_xs (s18_32)
theorem q18_33 : pj_row 18 33 = some (.aload_n 0, 1, 0, 0, 0) := by decide +kernel
theorem s18_33 {st : List Value} {M : pj_Mem} {l : pj_Loc} {x : Nat} : pj_step 18 (33, some (.ref x) :: l, st, M) = some (34, some (.ref x) :: l, .ref x :: st, M) := st_aload_n q18_33 rfl
theorem x18_33 {st : List Value} {M : pj_Mem} {l : pj_Loc} {x : Nat} {o9 : Option Value × pj_Mem} : pj_Ends 18 (33, some (.ref x) :: l, st, M) o9 = pj_Ends 18 (34, some (.ref x) :: l, .ref x :: st, M) o9 := pj_xs (s18_33)
theorem q18_34 : pj_row 18 34 = some (.getfield 89, 3, 3, 8, 0) := by decide +kernel
theorem s18_34 {L : pj_Loc} {st : List Value} {N S : Nat} {H : pj_Heap} {o : Nat} : pj_step 18 (34, L, .ref o :: st, (N, S, H)) = pj_pv 37 L st (N, S, H) (pj_fld (H o) 3 8) := st_getfield q18_34
theorem x18_34 {L : pj_Loc} {st : List Value} {N S : Nat} {H : pj_Heap} {o : Nat} {o9 : Option Value × pj_Mem} : pj_Ends 18 (34, L, .ref o :: st, (N, S, H)) o9 = pj_then 18 o9 (pj_pv 37 L st (N, S, H) (pj_fld (H o) 3 8)) := pj_xt q18_34 rfl (pj_cl_nc rfl) (s18_34)
theorem q18_37 : pj_row 18 37 = some (.bipush 7, 2, 0, 0, 0) := by decide +kernel
theorem s18_37 {L : pj_Loc} {st : List Value} {M : pj_Mem}  : pj_step 18 (37, L, st, M) = some (39, L, .int 7 :: st, M) := st_bipush q18_37 (by decide +kernel)
theorem x18_37 {L : pj_Loc} {st : List Value} {M : pj_Mem}  {o9 : Option Value × pj_Mem} : pj_Ends 18 (37, L, st, M) o9 = pj_Ends 18 (39, L, .int 7 :: st, M) o9 := pj_xs (s18_37)
theorem q18_39 : pj_row 18 39 = some (.if_icmp .ne 10, 3, 49, 0, 0) := by decide +kernel
theorem s18_39 {L : pj_Loc} {st : List Value} {M : pj_Mem} {x y : Int32} : pj_step 18 (39, L, .int y :: .int x :: st, M) = some (if ¬ x = y then 49 else 42, L, st, M) := st_icmp_ne q18_39
theorem x18_39 {L : pj_Loc} {st : List Value} {M : pj_Mem} {x y : Int32} {o9 : Option Value × pj_Mem} : pj_Ends 18 (39, L, .int y :: .int x :: st, M) o9 = pj_Ends 18 (if ¬ x = y then 49 else 42, L, st, M) o9 := pj_xs (s18_39)
theorem q18_42 : pj_row 18 42 = some (.aload_n 0, 1, 0, 0, 0) := by decide +kernel
theorem s18_42 {st : List Value} {M : pj_Mem} {l : pj_Loc} {x : Nat} : pj_step 18 (42, some (.ref x) :: l, st, M) = some (43, some (.ref x) :: l, .ref x :: st, M) := st_aload_n q18_42 rfl
theorem x18_42 {st : List Value} {M : pj_Mem} {l : pj_Loc} {x : Nat} {o9 : Option Value × pj_Mem} : pj_Ends 18 (42, some (.ref x) :: l, st, M) o9 = pj_Ends 18 (43, some (.ref x) :: l, .ref x :: st, M) o9 := pj_xs (s18_42)
theorem q18_43 : pj_row 18 43 = some (.invokevirtual 96, 3, 19, 1, 0) := by decide +kernel
theorem e18_43 {L : pj_Loc} {st : List Value} {N S : Nat} {H : pj_Heap} {o : Option Value × pj_Mem} {M' : pj_Mem} {x0 : Nat} {r : Int32} (h4 : pj_le4 st = true) (hu : pj_isU 3 (H x0) = true) (h1 : pj_Ends 19 (0, [some (.ref x0), none, none], [], (N, S, H)) (some (.int r), M')) (h2 : pj_Ends 18 (46, L, .int r :: st, M') o) : pj_Ends 18 (43, L, .ref x0 :: st, (N, S, H)) o := ec_v1 q18_43 (Or.inl rfl) h4 hu rfl h1 h2
theorem q18_46 : pj_row 18 46 = some (.goto 7, 3, 53, 0, 0) := by decide +kernel
theorem s18_46 {L : pj_Loc} {st : List Value} {M : pj_Mem}  : pj_step 18 (46, L, st, M) = some (53, L, st, M) := st_goto q18_46
theorem x18_46 {L : pj_Loc} {st : List Value} {M : pj_Mem}  {o9 : Option Value × pj_Mem} : pj_Ends 18 (46, L, st, M) o9 = pj_Ends 18 (53, L, st, M) o9 := pj_xs (s18_46)
theorem q18_49 : pj_row 18 49 = some (.aload_n 0, 1, 0, 0, 0) := by decide +kernel
theorem s18_49 {st : List Value} {M : pj_Mem} {l : pj_Loc} {x : Nat} : pj_step 18 (49, some (.ref x) :: l, st, M) = some (50, some (.ref x) :: l, .ref x :: st, M) := st_aload_n q18_49 rfl
theorem x18_49 {st : List Value} {M : pj_Mem} {l : pj_Loc} {x : Nat} {o9 : Option Value × pj_Mem} : pj_Ends 18 (49, some (.ref x) :: l, st, M) o9 = pj_Ends 18 (50, some (.ref x) :: l, .ref x :: st, M) o9 := pj_xs (s18_49)
theorem q18_50 : pj_row 18 50 = some (.invokevirtual 100, 3, 20, 1, 0) := by decide +kernel
theorem e18_50 {L : pj_Loc} {st : List Value} {N S : Nat} {H : pj_Heap} {o : Option Value × pj_Mem} {M' : pj_Mem} {x0 : Nat} {r : Int32} (h4 : pj_le4 st = true) (hu : pj_isU 3 (H x0) = true) (h1 : pj_Ends 20 (0, [some (.ref x0), none, none, none], [], (N, S, H)) (some (.int r), M')) (h2 : pj_Ends 18 (53, L, .int r :: st, M') o) : pj_Ends 18 (50, L, .ref x0 :: st, (N, S, H)) o := ec_v1 q18_50 (Or.inl rfl) h4 hu rfl h1 h2
theorem q18_53 : pj_row 18 53 = some (.putfield 103, 3, 3, 9, 0) := by decide +kernel
theorem s18_53 {L : pj_Loc} {st : List Value} {N S : Nat} {H : pj_Heap} {o : Nat} {v : Value} : pj_step 18 (53, L, v :: .ref o :: st, (N, S, H)) = pj_set 56 L st (N, S, H) o (pj_fset (H o) 3 9 v) := st_putfield q18_53
theorem x18_53 {L : pj_Loc} {st : List Value} {N S : Nat} {H : pj_Heap} {o : Nat} {v : Value} {o9 : Option Value × pj_Mem} : pj_Ends 18 (53, L, v :: .ref o :: st, (N, S, H)) o9 = pj_then 18 o9 (pj_set 56 L st (N, S, H) o (pj_fset (H o) 3 9 v)) := pj_xt q18_53 rfl (pj_cl_nc rfl) (s18_53)
theorem q18_56 : pj_row 18 56 = some (.return_, 1, 0, 0, 0) := by decide +kernel
theorem t18_56 {L : pj_Loc} {M : pj_Mem} : pj_Ends 18 (56, L, [], M) (none, M) := pj_Ends.ret q18_56 (pj_rtn_v rt18)
theorem rt19 : pj_rt 19 = some .int := rfl
theorem q19_0 : pj_row 19 0 = some (.aload_n 0, 1, 0, 0, 0) := by decide +kernel
theorem s19_0 {st : List Value} {M : pj_Mem} {l : pj_Loc} {x : Nat} : pj_step 19 (0, some (.ref x) :: l, st, M) = some (1, some (.ref x) :: l, .ref x :: st, M) := st_aload_n q19_0 rfl
theorem x19_0 {st : List Value} {M : pj_Mem} {l : pj_Loc} {x : Nat} {o9 : Option Value × pj_Mem} : pj_Ends 19 (0, some (.ref x) :: l, st, M) o9 = pj_Ends 19 (1, some (.ref x) :: l, .ref x :: st, M) o9 := pj_xs (s19_0)
theorem q19_1 : pj_row 19 1 = some (.getfield 15, 3, 3, 1, 0) := by decide +kernel
theorem s19_1 {L : pj_Loc} {st : List Value} {N S : Nat} {H : pj_Heap} {o : Nat} : pj_step 19 (1, L, .ref o :: st, (N, S, H)) = pj_pv 4 L st (N, S, H) (pj_fld (H o) 3 1) := st_getfield q19_1
theorem x19_1 {L : pj_Loc} {st : List Value} {N S : Nat} {H : pj_Heap} {o : Nat} {o9 : Option Value × pj_Mem} : pj_Ends 19 (1, L, .ref o :: st, (N, S, H)) o9 = pj_then 19 o9 (pj_pv 4 L st (N, S, H) (pj_fld (H o) 3 1)) := pj_xt q19_1 rfl (pj_cl_nc rfl) (s19_1)
theorem q19_4 : pj_row 19 4 = some (.iconst 0, 1, 0, 0, 0) := by decide +kernel
theorem s19_4 {L : pj_Loc} {st : List Value} {M : pj_Mem}  : pj_step 19 (4, L, st, M) = some (5, L, .int 0 :: st, M) := st_iconst q19_4 (by decide +kernel)
theorem x19_4 {L : pj_Loc} {st : List Value} {M : pj_Mem}  {o9 : Option Value × pj_Mem} : pj_Ends 19 (4, L, st, M) o9 = pj_Ends 19 (5, L, .int 0 :: st, M) o9 := pj_xs (s19_4)
theorem q19_5 : pj_row 19 5 = some (.iaload, 1, 0, 0, 0) := by decide +kernel
theorem s19_5 {L : pj_Loc} {st : List Value} {N S : Nat} {H : pj_Heap} {o : Nat} {i : Int32} : pj_step 19 (5, L, .int i :: .ref o :: st, (N, S, H)) = pj_pi 6 L st (N, S, H) (pj_arl (H o) 0 i) := st_iaload q19_5
theorem x19_5 {L : pj_Loc} {st : List Value} {N S : Nat} {H : pj_Heap} {o : Nat} {i : Int32} {o9 : Option Value × pj_Mem} : pj_Ends 19 (5, L, .int i :: .ref o :: st, (N, S, H)) o9 = pj_then 19 o9 (pj_pi 6 L st (N, S, H) (pj_arl (H o) 0 i)) := pj_xt q19_5 rfl (pj_cl_nc rfl) (s19_5)
theorem q19_6 : pj_row 19 6 = some (.aload_n 0, 1, 0, 0, 0) := by decide +kernel
theorem s19_6 {st : List Value} {M : pj_Mem} {l : pj_Loc} {x : Nat} : pj_step 19 (6, some (.ref x) :: l, st, M) = some (7, some (.ref x) :: l, .ref x :: st, M) := st_aload_n q19_6 rfl
theorem x19_6 {st : List Value} {M : pj_Mem} {l : pj_Loc} {x : Nat} {o9 : Option Value × pj_Mem} : pj_Ends 19 (6, some (.ref x) :: l, st, M) o9 = pj_Ends 19 (7, some (.ref x) :: l, .ref x :: st, M) o9 := pj_xs (s19_6)
theorem q19_7 : pj_row 19 7 = some (.getfield 15, 3, 3, 1, 0) := by decide +kernel
theorem s19_7 {L : pj_Loc} {st : List Value} {N S : Nat} {H : pj_Heap} {o : Nat} : pj_step 19 (7, L, .ref o :: st, (N, S, H)) = pj_pv 10 L st (N, S, H) (pj_fld (H o) 3 1) := st_getfield q19_7
theorem x19_7 {L : pj_Loc} {st : List Value} {N S : Nat} {H : pj_Heap} {o : Nat} {o9 : Option Value × pj_Mem} : pj_Ends 19 (7, L, .ref o :: st, (N, S, H)) o9 = pj_then 19 o9 (pj_pv 10 L st (N, S, H) (pj_fld (H o) 3 1)) := pj_xt q19_7 rfl (pj_cl_nc rfl) (s19_7)
theorem q19_10 : pj_row 19 10 = some (.iconst 1, 1, 0, 0, 0) := by decide +kernel
theorem s19_10 {L : pj_Loc} {st : List Value} {M : pj_Mem}  : pj_step 19 (10, L, st, M) = some (11, L, .int 1 :: st, M) := st_iconst q19_10 (by decide +kernel)
theorem x19_10 {L : pj_Loc} {st : List Value} {M : pj_Mem}  {o9 : Option Value × pj_Mem} : pj_Ends 19 (10, L, st, M) o9 = pj_Ends 19 (11, L, .int 1 :: st, M) o9 := pj_xs (s19_10)
theorem q19_11 : pj_row 19 11 = some (.iaload, 1, 0, 0, 0) := by decide +kernel
theorem s19_11 {L : pj_Loc} {st : List Value} {N S : Nat} {H : pj_Heap} {o : Nat} {i : Int32} : pj_step 19 (11, L, .int i :: .ref o :: st, (N, S, H)) = pj_pi 12 L st (N, S, H) (pj_arl (H o) 0 i) := st_iaload q19_11
theorem x19_11 {L : pj_Loc} {st : List Value} {N S : Nat} {H : pj_Heap} {o : Nat} {i : Int32} {o9 : Option Value × pj_Mem} : pj_Ends 19 (11, L, .int i :: .ref o :: st, (N, S, H)) o9 = pj_then 19 o9 (pj_pi 12 L st (N, S, H) (pj_arl (H o) 0 i)) := pj_xt q19_11 rfl (pj_cl_nc rfl) (s19_11)
theorem q19_12 : pj_row 19 12 = some (.invokestatic 106, 3, 0, 2, 5) := by decide +kernel
theorem s19_12 {L : pj_Loc} {st : List Value} {M : pj_Mem} {x y : Int32} : pj_step 19 (12, L, .int y :: .int x :: st, M) = pj_g4 st (some (15, L, .int (if y < x then y else x) :: st, M)) := st_min q19_12
theorem x19_12 {L : pj_Loc} {st : List Value} {M : pj_Mem} {x y : Int32} {o9 : Option Value × pj_Mem} : pj_Ends 19 (12, L, .int y :: .int x :: st, M) o9 = pj_then 19 o9 (pj_g4 st (some (15, L, .int (if y < x then y else x) :: st, M))) := pj_xt q19_12 rfl rfl (s19_12)
theorem q19_15 : pj_row 19 15 = some (.istore_n 1, 1, 0, 0, 0) := by decide +kernel
theorem s19_15 {st : List Value} {M : pj_Mem} {l : pj_Loc} {a0 a1 : Option Value} {x : Int32} (h : pj_long a0 = false) : pj_step 19 (15, a0 :: a1 :: l, .int x :: st, M) = some (16, a0 :: some (.int x) :: l, st, M) := st_istore_n q19_15 (pj_st_1 h)
theorem x19_15 {st : List Value} {M : pj_Mem} {l : pj_Loc} {a0 a1 : Option Value} {x : Int32} (h : pj_long a0 = false) {o9 : Option Value × pj_Mem} : pj_Ends 19 (15, a0 :: a1 :: l, .int x :: st, M) o9 = pj_Ends 19 (16, a0 :: some (.int x) :: l, st, M) o9 := pj_xs (s19_15 h)
theorem q19_16 : pj_row 19 16 = some (.aload_n 0, 1, 0, 0, 0) := by decide +kernel
theorem s19_16 {st : List Value} {M : pj_Mem} {l : pj_Loc} {x : Nat} : pj_step 19 (16, some (.ref x) :: l, st, M) = some (17, some (.ref x) :: l, .ref x :: st, M) := st_aload_n q19_16 rfl
theorem x19_16 {st : List Value} {M : pj_Mem} {l : pj_Loc} {x : Nat} {o9 : Option Value × pj_Mem} : pj_Ends 19 (16, some (.ref x) :: l, st, M) o9 = pj_Ends 19 (17, some (.ref x) :: l, .ref x :: st, M) o9 := pj_xs (s19_16)
theorem q19_17 : pj_row 19 17 = some (.getfield 15, 3, 3, 1, 0) := by decide +kernel
theorem s19_17 {L : pj_Loc} {st : List Value} {N S : Nat} {H : pj_Heap} {o : Nat} : pj_step 19 (17, L, .ref o :: st, (N, S, H)) = pj_pv 20 L st (N, S, H) (pj_fld (H o) 3 1) := st_getfield q19_17
theorem x19_17 {L : pj_Loc} {st : List Value} {N S : Nat} {H : pj_Heap} {o : Nat} {o9 : Option Value × pj_Mem} : pj_Ends 19 (17, L, .ref o :: st, (N, S, H)) o9 = pj_then 19 o9 (pj_pv 20 L st (N, S, H) (pj_fld (H o) 3 1)) := pj_xt q19_17 rfl (pj_cl_nc rfl) (s19_17)
theorem q19_20 : pj_row 19 20 = some (.iconst 0, 1, 0, 0, 0) := by decide +kernel
theorem s19_20 {L : pj_Loc} {st : List Value} {M : pj_Mem}  : pj_step 19 (20, L, st, M) = some (21, L, .int 0 :: st, M) := st_iconst q19_20 (by decide +kernel)
theorem x19_20 {L : pj_Loc} {st : List Value} {M : pj_Mem}  {o9 : Option Value × pj_Mem} : pj_Ends 19 (20, L, st, M) o9 = pj_Ends 19 (21, L, .int 0 :: st, M) o9 := pj_xs (s19_20)
theorem q19_21 : pj_row 19 21 = some (.iaload, 1, 0, 0, 0) := by decide +kernel
theorem s19_21 {L : pj_Loc} {st : List Value} {N S : Nat} {H : pj_Heap} {o : Nat} {i : Int32} : pj_step 19 (21, L, .int i :: .ref o :: st, (N, S, H)) = pj_pi 22 L st (N, S, H) (pj_arl (H o) 0 i) := st_iaload q19_21
theorem x19_21 {L : pj_Loc} {st : List Value} {N S : Nat} {H : pj_Heap} {o : Nat} {i : Int32} {o9 : Option Value × pj_Mem} : pj_Ends 19 (21, L, .int i :: .ref o :: st, (N, S, H)) o9 = pj_then 19 o9 (pj_pi 22 L st (N, S, H) (pj_arl (H o) 0 i)) := pj_xt q19_21 rfl (pj_cl_nc rfl) (s19_21)
theorem q19_22 : pj_row 19 22 = some (.aload_n 0, 1, 0, 0, 0) := by decide +kernel
theorem s19_22 {st : List Value} {M : pj_Mem} {l : pj_Loc} {x : Nat} : pj_step 19 (22, some (.ref x) :: l, st, M) = some (23, some (.ref x) :: l, .ref x :: st, M) := st_aload_n q19_22 rfl
theorem x19_22 {st : List Value} {M : pj_Mem} {l : pj_Loc} {x : Nat} {o9 : Option Value × pj_Mem} : pj_Ends 19 (22, some (.ref x) :: l, st, M) o9 = pj_Ends 19 (23, some (.ref x) :: l, .ref x :: st, M) o9 := pj_xs (s19_22)
theorem q19_23 : pj_row 19 23 = some (.getfield 15, 3, 3, 1, 0) := by decide +kernel
theorem s19_23 {L : pj_Loc} {st : List Value} {N S : Nat} {H : pj_Heap} {o : Nat} : pj_step 19 (23, L, .ref o :: st, (N, S, H)) = pj_pv 26 L st (N, S, H) (pj_fld (H o) 3 1) := st_getfield q19_23
theorem x19_23 {L : pj_Loc} {st : List Value} {N S : Nat} {H : pj_Heap} {o : Nat} {o9 : Option Value × pj_Mem} : pj_Ends 19 (23, L, .ref o :: st, (N, S, H)) o9 = pj_then 19 o9 (pj_pv 26 L st (N, S, H) (pj_fld (H o) 3 1)) := pj_xt q19_23 rfl (pj_cl_nc rfl) (s19_23)
theorem q19_26 : pj_row 19 26 = some (.iconst 1, 1, 0, 0, 0) := by decide +kernel
theorem s19_26 {L : pj_Loc} {st : List Value} {M : pj_Mem}  : pj_step 19 (26, L, st, M) = some (27, L, .int 1 :: st, M) := st_iconst q19_26 (by decide +kernel)
theorem x19_26 {L : pj_Loc} {st : List Value} {M : pj_Mem}  {o9 : Option Value × pj_Mem} : pj_Ends 19 (26, L, st, M) o9 = pj_Ends 19 (27, L, .int 1 :: st, M) o9 := pj_xs (s19_26)
theorem q19_27 : pj_row 19 27 = some (.iaload, 1, 0, 0, 0) := by decide +kernel
theorem s19_27 {L : pj_Loc} {st : List Value} {N S : Nat} {H : pj_Heap} {o : Nat} {i : Int32} : pj_step 19 (27, L, .int i :: .ref o :: st, (N, S, H)) = pj_pi 28 L st (N, S, H) (pj_arl (H o) 0 i) := st_iaload q19_27
theorem x19_27 {L : pj_Loc} {st : List Value} {N S : Nat} {H : pj_Heap} {o : Nat} {i : Int32} {o9 : Option Value × pj_Mem} : pj_Ends 19 (27, L, .int i :: .ref o :: st, (N, S, H)) o9 = pj_then 19 o9 (pj_pi 28 L st (N, S, H) (pj_arl (H o) 0 i)) := pj_xt q19_27 rfl (pj_cl_nc rfl) (s19_27)
theorem q19_28 : pj_row 19 28 = some (.invokestatic 66, 3, 0, 2, 4) := by decide +kernel
theorem s19_28 {L : pj_Loc} {st : List Value} {M : pj_Mem} {x y : Int32} : pj_step 19 (28, L, .int y :: .int x :: st, M) = pj_g4 st (some (31, L, .int (if x < y then y else x) :: st, M)) := st_max q19_28
theorem x19_28 {L : pj_Loc} {st : List Value} {M : pj_Mem} {x y : Int32} {o9 : Option Value × pj_Mem} : pj_Ends 19 (28, L, .int y :: .int x :: st, M) o9 = pj_then 19 o9 (pj_g4 st (some (31, L, .int (if x < y then y else x) :: st, M))) := pj_xt q19_28 rfl rfl (s19_28)
theorem q19_31 : pj_row 19 31 = some (.istore_n 2, 1, 0, 0, 0) := by decide +kernel
theorem s19_31 {st : List Value} {M : pj_Mem} {l : pj_Loc} {a0 a1 a2 : Option Value} {x : Int32} (h : pj_long a1 = false) : pj_step 19 (31, a0 :: a1 :: a2 :: l, .int x :: st, M) = some (32, a0 :: a1 :: some (.int x) :: l, st, M) := st_istore_n q19_31 (pj_st_2 h)
theorem x19_31 {st : List Value} {M : pj_Mem} {l : pj_Loc} {a0 a1 a2 : Option Value} {x : Int32} (h : pj_long a1 = false) {o9 : Option Value × pj_Mem} : pj_Ends 19 (31, a0 :: a1 :: a2 :: l, .int x :: st, M) o9 = pj_Ends 19 (32, a0 :: a1 :: some (.int x) :: l, st, M) o9 := pj_xs (s19_31 h)
theorem q19_32 : pj_row 19 32 = some (.iload_n 1, 1, 0, 0, 0) := by decide +kernel
theorem s19_32 {st : List Value} {M : pj_Mem} {l : pj_Loc} {a0 : Option Value} {x : Int32} : pj_step 19 (32, a0 :: some (.int x) :: l, st, M) = some (33, a0 :: some (.int x) :: l, .int x :: st, M) := st_iload_n q19_32 rfl
theorem x19_32 {st : List Value} {M : pj_Mem} {l : pj_Loc} {a0 : Option Value} {x : Int32} {o9 : Option Value × pj_Mem} : pj_Ends 19 (32, a0 :: some (.int x) :: l, st, M) o9 = pj_Ends 19 (33, a0 :: some (.int x) :: l, .int x :: st, M) o9 := pj_xs (s19_32)
theorem q19_33 : pj_row 19 33 = some (.iload_n 2, 1, 0, 0, 0) := by decide +kernel
theorem s19_33 {st : List Value} {M : pj_Mem} {l : pj_Loc} {a0 a1 : Option Value} {x : Int32} : pj_step 19 (33, a0 :: a1 :: some (.int x) :: l, st, M) = some (34, a0 :: a1 :: some (.int x) :: l, .int x :: st, M) := st_iload_n q19_33 rfl
theorem x19_33 {st : List Value} {M : pj_Mem} {l : pj_Loc} {a0 a1 : Option Value} {x : Int32} {o9 : Option Value × pj_Mem} : pj_Ends 19 (33, a0 :: a1 :: some (.int x) :: l, st, M) o9 = pj_Ends 19 (34, a0 :: a1 :: some (.int x) :: l, .int x :: st, M) o9 := pj_xs (s19_33)
theorem q19_34 : pj_row 19 34 = some (.aload_n 0, 1, 0, 0, 0) := by decide +kernel
theorem s19_34 {st : List Value} {M : pj_Mem} {l : pj_Loc} {x : Nat} : pj_step 19 (34, some (.ref x) :: l, st, M) = some (35, some (.ref x) :: l, .ref x :: st, M) := st_aload_n q19_34 rfl
theorem x19_34 {st : List Value} {M : pj_Mem} {l : pj_Loc} {x : Nat} {o9 : Option Value × pj_Mem} : pj_Ends 19 (34, some (.ref x) :: l, st, M) o9 = pj_Ends 19 (35, some (.ref x) :: l, .ref x :: st, M) o9 := pj_xs (s19_34)
theorem q19_35 : pj_row 19 35 = some (.getfield 15, 3, 3, 1, 0) := by decide +kernel
theorem s19_35 {L : pj_Loc} {st : List Value} {N S : Nat} {H : pj_Heap} {o : Nat} : pj_step 19 (35, L, .ref o :: st, (N, S, H)) = pj_pv 38 L st (N, S, H) (pj_fld (H o) 3 1) := st_getfield q19_35
theorem x19_35 {L : pj_Loc} {st : List Value} {N S : Nat} {H : pj_Heap} {o : Nat} {o9 : Option Value × pj_Mem} : pj_Ends 19 (35, L, .ref o :: st, (N, S, H)) o9 = pj_then 19 o9 (pj_pv 38 L st (N, S, H) (pj_fld (H o) 3 1)) := pj_xt q19_35 rfl (pj_cl_nc rfl) (s19_35)
theorem q19_38 : pj_row 19 38 = some (.iconst 2, 1, 0, 0, 0) := by decide +kernel
theorem s19_38 {L : pj_Loc} {st : List Value} {M : pj_Mem}  : pj_step 19 (38, L, st, M) = some (39, L, .int 2 :: st, M) := st_iconst q19_38 (by decide +kernel)
theorem x19_38 {L : pj_Loc} {st : List Value} {M : pj_Mem}  {o9 : Option Value × pj_Mem} : pj_Ends 19 (38, L, st, M) o9 = pj_Ends 19 (39, L, .int 2 :: st, M) o9 := pj_xs (s19_38)
theorem q19_39 : pj_row 19 39 = some (.iaload, 1, 0, 0, 0) := by decide +kernel
theorem s19_39 {L : pj_Loc} {st : List Value} {N S : Nat} {H : pj_Heap} {o : Nat} {i : Int32} : pj_step 19 (39, L, .int i :: .ref o :: st, (N, S, H)) = pj_pi 40 L st (N, S, H) (pj_arl (H o) 0 i) := st_iaload q19_39
theorem x19_39 {L : pj_Loc} {st : List Value} {N S : Nat} {H : pj_Heap} {o : Nat} {i : Int32} {o9 : Option Value × pj_Mem} : pj_Ends 19 (39, L, .int i :: .ref o :: st, (N, S, H)) o9 = pj_then 19 o9 (pj_pi 40 L st (N, S, H) (pj_arl (H o) 0 i)) := pj_xt q19_39 rfl (pj_cl_nc rfl) (s19_39)
theorem q19_40 : pj_row 19 40 = some (.invokestatic 106, 3, 0, 2, 5) := by decide +kernel
theorem s19_40 {L : pj_Loc} {st : List Value} {M : pj_Mem} {x y : Int32} : pj_step 19 (40, L, .int y :: .int x :: st, M) = pj_g4 st (some (43, L, .int (if y < x then y else x) :: st, M)) := st_min q19_40
theorem x19_40 {L : pj_Loc} {st : List Value} {M : pj_Mem} {x y : Int32} {o9 : Option Value × pj_Mem} : pj_Ends 19 (40, L, .int y :: .int x :: st, M) o9 = pj_then 19 o9 (pj_g4 st (some (43, L, .int (if y < x then y else x) :: st, M))) := pj_xt q19_40 rfl rfl (s19_40)
theorem q19_43 : pj_row 19 43 = some (.invokestatic 66, 3, 0, 2, 4) := by decide +kernel
theorem s19_43 {L : pj_Loc} {st : List Value} {M : pj_Mem} {x y : Int32} : pj_step 19 (43, L, .int y :: .int x :: st, M) = pj_g4 st (some (46, L, .int (if x < y then y else x) :: st, M)) := st_max q19_43
theorem x19_43 {L : pj_Loc} {st : List Value} {M : pj_Mem} {x y : Int32} {o9 : Option Value × pj_Mem} : pj_Ends 19 (43, L, .int y :: .int x :: st, M) o9 = pj_then 19 o9 (pj_g4 st (some (46, L, .int (if x < y then y else x) :: st, M))) := pj_xt q19_43 rfl rfl (s19_43)
theorem q19_46 : pj_row 19 46 = some (.ireturn, 1, 0, 0, 0) := by decide +kernel
theorem t19_46 {L : pj_Loc} {M : pj_Mem} {v : Int32} : pj_Ends 19 (46, L, [.int v], M) (some (.int v), M) := pj_Ends.ret q19_46 (pj_rtn_i rt19)
theorem rt20 : pj_rt 20 = some .int := rfl
theorem q20_0 : pj_row 20 0 = some (.iconst 0, 1, 0, 0, 0) := by decide +kernel
theorem s20_0 {L : pj_Loc} {st : List Value} {M : pj_Mem}  : pj_step 20 (0, L, st, M) = some (1, L, .int 0 :: st, M) := st_iconst q20_0 (by decide +kernel)
theorem x20_0 {L : pj_Loc} {st : List Value} {M : pj_Mem}  {o9 : Option Value × pj_Mem} : pj_Ends 20 (0, L, st, M) o9 = pj_Ends 20 (1, L, .int 0 :: st, M) o9 := pj_xs (s20_0)
theorem q20_1 : pj_row 20 1 = some (.istore_n 1, 1, 0, 0, 0) := by decide +kernel
theorem s20_1 {st : List Value} {M : pj_Mem} {l : pj_Loc} {a0 a1 : Option Value} {x : Int32} (h : pj_long a0 = false) : pj_step 20 (1, a0 :: a1 :: l, .int x :: st, M) = some (2, a0 :: some (.int x) :: l, st, M) := st_istore_n q20_1 (pj_st_1 h)
theorem x20_1 {st : List Value} {M : pj_Mem} {l : pj_Loc} {a0 a1 : Option Value} {x : Int32} (h : pj_long a0 = false) {o9 : Option Value × pj_Mem} : pj_Ends 20 (1, a0 :: a1 :: l, .int x :: st, M) o9 = pj_Ends 20 (2, a0 :: some (.int x) :: l, st, M) o9 := pj_xs (s20_1 h)
theorem q20_2 : pj_row 20 2 = some (.iconst 0, 1, 0, 0, 0) := by decide +kernel
theorem s20_2 {L : pj_Loc} {st : List Value} {M : pj_Mem}  : pj_step 20 (2, L, st, M) = some (3, L, .int 0 :: st, M) := st_iconst q20_2 (by decide +kernel)
theorem x20_2 {L : pj_Loc} {st : List Value} {M : pj_Mem}  {o9 : Option Value × pj_Mem} : pj_Ends 20 (2, L, st, M) o9 = pj_Ends 20 (3, L, .int 0 :: st, M) o9 := pj_xs (s20_2)
theorem q20_3 : pj_row 20 3 = some (.istore_n 2, 1, 0, 0, 0) := by decide +kernel
theorem s20_3 {st : List Value} {M : pj_Mem} {l : pj_Loc} {a0 a1 a2 : Option Value} {x : Int32} (h : pj_long a1 = false) : pj_step 20 (3, a0 :: a1 :: a2 :: l, .int x :: st, M) = some (4, a0 :: a1 :: some (.int x) :: l, st, M) := st_istore_n q20_3 (pj_st_2 h)
theorem x20_3 {st : List Value} {M : pj_Mem} {l : pj_Loc} {a0 a1 a2 : Option Value} {x : Int32} (h : pj_long a1 = false) {o9 : Option Value × pj_Mem} : pj_Ends 20 (3, a0 :: a1 :: a2 :: l, .int x :: st, M) o9 = pj_Ends 20 (4, a0 :: a1 :: some (.int x) :: l, st, M) o9 := pj_xs (s20_3 h)
theorem q20_4 : pj_row 20 4 = some (.iconst 0, 1, 0, 0, 0) := by decide +kernel
theorem s20_4 {L : pj_Loc} {st : List Value} {M : pj_Mem}  : pj_step 20 (4, L, st, M) = some (5, L, .int 0 :: st, M) := st_iconst q20_4 (by decide +kernel)
theorem x20_4 {L : pj_Loc} {st : List Value} {M : pj_Mem}  {o9 : Option Value × pj_Mem} : pj_Ends 20 (4, L, st, M) o9 = pj_Ends 20 (5, L, .int 0 :: st, M) o9 := pj_xs (s20_4)
theorem q20_5 : pj_row 20 5 = some (.istore_n 3, 1, 0, 0, 0) := by decide +kernel
theorem s20_5 {st : List Value} {M : pj_Mem} {l : pj_Loc} {a0 a1 a2 a3 : Option Value} {x : Int32} (h : pj_long a2 = false) : pj_step 20 (5, a0 :: a1 :: a2 :: a3 :: l, .int x :: st, M) = some (6, a0 :: a1 :: a2 :: some (.int x) :: l, st, M) := st_istore_n q20_5 (pj_st_3 h)
theorem x20_5 {st : List Value} {M : pj_Mem} {l : pj_Loc} {a0 a1 a2 a3 : Option Value} {x : Int32} (h : pj_long a2 = false) {o9 : Option Value × pj_Mem} : pj_Ends 20 (5, a0 :: a1 :: a2 :: a3 :: l, .int x :: st, M) o9 = pj_Ends 20 (6, a0 :: a1 :: a2 :: some (.int x) :: l, st, M) o9 := pj_xs (s20_5 h)
theorem q20_6 : pj_row 20 6 = some (.iload_n 3, 1, 0, 0, 0) := by decide +kernel
theorem s20_6 {st : List Value} {M : pj_Mem} {l : pj_Loc} {a0 a1 a2 : Option Value} {x : Int32} : pj_step 20 (6, a0 :: a1 :: a2 :: some (.int x) :: l, st, M) = some (7, a0 :: a1 :: a2 :: some (.int x) :: l, .int x :: st, M) := st_iload_n q20_6 rfl
theorem x20_6 {st : List Value} {M : pj_Mem} {l : pj_Loc} {a0 a1 a2 : Option Value} {x : Int32} {o9 : Option Value × pj_Mem} : pj_Ends 20 (6, a0 :: a1 :: a2 :: some (.int x) :: l, st, M) o9 = pj_Ends 20 (7, a0 :: a1 :: a2 :: some (.int x) :: l, .int x :: st, M) o9 := pj_xs (s20_6)
theorem q20_7 : pj_row 20 7 = some (.iconst 3, 1, 0, 0, 0) := by decide +kernel
theorem s20_7 {L : pj_Loc} {st : List Value} {M : pj_Mem}  : pj_step 20 (7, L, st, M) = some (8, L, .int 3 :: st, M) := st_iconst q20_7 (by decide +kernel)
theorem x20_7 {L : pj_Loc} {st : List Value} {M : pj_Mem}  {o9 : Option Value × pj_Mem} : pj_Ends 20 (7, L, st, M) o9 = pj_Ends 20 (8, L, .int 3 :: st, M) o9 := pj_xs (s20_7)
theorem q20_8 : pj_row 20 8 = some (.if_icmp .ge 46, 3, 54, 0, 0) := by decide +kernel
theorem s20_8 {L : pj_Loc} {st : List Value} {M : pj_Mem} {x y : Int32} : pj_step 20 (8, L, .int y :: .int x :: st, M) = some (if y ≤ x then 54 else 11, L, st, M) := st_icmp_ge q20_8
theorem x20_8 {L : pj_Loc} {st : List Value} {M : pj_Mem} {x y : Int32} {o9 : Option Value × pj_Mem} : pj_Ends 20 (8, L, .int y :: .int x :: st, M) o9 = pj_Ends 20 (if y ≤ x then 54 else 11, L, st, M) o9 := pj_xs (s20_8)
theorem q20_11 : pj_row 20 11 = some (.aload_n 0, 1, 0, 0, 0) := by decide +kernel
theorem s20_11 {st : List Value} {M : pj_Mem} {l : pj_Loc} {x : Nat} : pj_step 20 (11, some (.ref x) :: l, st, M) = some (12, some (.ref x) :: l, .ref x :: st, M) := st_aload_n q20_11 rfl
theorem x20_11 {st : List Value} {M : pj_Mem} {l : pj_Loc} {x : Nat} {o9 : Option Value × pj_Mem} : pj_Ends 20 (11, some (.ref x) :: l, st, M) o9 = pj_Ends 20 (12, some (.ref x) :: l, .ref x :: st, M) o9 := pj_xs (s20_11)
theorem q20_12 : pj_row 20 12 = some (.getfield 89, 3, 3, 8, 0) := by decide +kernel
theorem s20_12 {L : pj_Loc} {st : List Value} {N S : Nat} {H : pj_Heap} {o : Nat} : pj_step 20 (12, L, .ref o :: st, (N, S, H)) = pj_pv 15 L st (N, S, H) (pj_fld (H o) 3 8) := st_getfield q20_12
theorem x20_12 {L : pj_Loc} {st : List Value} {N S : Nat} {H : pj_Heap} {o : Nat} {o9 : Option Value × pj_Mem} : pj_Ends 20 (12, L, .ref o :: st, (N, S, H)) o9 = pj_then 20 o9 (pj_pv 15 L st (N, S, H) (pj_fld (H o) 3 8)) := pj_xt q20_12 rfl (pj_cl_nc rfl) (s20_12)
theorem q20_15 : pj_row 20 15 = some (.iload_n 3, 1, 0, 0, 0) := by decide +kernel
theorem s20_15 {st : List Value} {M : pj_Mem} {l : pj_Loc} {a0 a1 a2 : Option Value} {x : Int32} : pj_step 20 (15, a0 :: a1 :: a2 :: some (.int x) :: l, st, M) = some (16, a0 :: a1 :: a2 :: some (.int x) :: l, .int x :: st, M) := st_iload_n q20_15 rfl
theorem x20_15 {st : List Value} {M : pj_Mem} {l : pj_Loc} {a0 a1 a2 : Option Value} {x : Int32} {o9 : Option Value × pj_Mem} : pj_Ends 20 (15, a0 :: a1 :: a2 :: some (.int x) :: l, st, M) o9 = pj_Ends 20 (16, a0 :: a1 :: a2 :: some (.int x) :: l, .int x :: st, M) o9 := pj_xs (s20_15)
theorem q20_16 : pj_row 20 16 = some (.invokestatic 109, 3, 21, 2, 1) := by decide +kernel
theorem e20_16 {L : pj_Loc} {st : List Value} {N S : Nat} {H : pj_Heap} {o : Option Value × pj_Mem} {M' : pj_Mem} {x0 : Int32} {x1 : Int32} {r : Int32} (h4 : pj_le4 st = true) (h1 : pj_Ends 21 (0, [some (.int x0), some (.int x1)], [], (N, S, H)) (some (.int r), M')) (h2 : pj_Ends 20 (19, L, .int r :: st, M') o) : pj_Ends 20 (16, L, .int x1 :: .int x0 :: st, (N, S, H)) o := ec_s2 q20_16 (Or.inr rfl) h4 rfl h1 h2
theorem q20_19 : pj_row 20 19 = some (.ifCond .eq 29, 3, 48, 0, 0) := by decide +kernel
theorem s20_19 {L : pj_Loc} {st : List Value} {M : pj_Mem} {x : Int32} : pj_step 20 (19, L, .int x :: st, M) = some (if x = 0 then 48 else 22, L, st, M) := st_if_eq q20_19
theorem x20_19 {L : pj_Loc} {st : List Value} {M : pj_Mem} {x : Int32} {o9 : Option Value × pj_Mem} : pj_Ends 20 (19, L, .int x :: st, M) o9 = pj_Ends 20 (if x = 0 then 48 else 22, L, st, M) o9 := pj_xs (s20_19)
theorem q20_22 : pj_row 20 22 = some (.iload_n 2, 1, 0, 0, 0) := by decide +kernel
theorem s20_22 {st : List Value} {M : pj_Mem} {l : pj_Loc} {a0 a1 : Option Value} {x : Int32} : pj_step 20 (22, a0 :: a1 :: some (.int x) :: l, st, M) = some (23, a0 :: a1 :: some (.int x) :: l, .int x :: st, M) := st_iload_n q20_22 rfl
theorem x20_22 {st : List Value} {M : pj_Mem} {l : pj_Loc} {a0 a1 : Option Value} {x : Int32} {o9 : Option Value × pj_Mem} : pj_Ends 20 (22, a0 :: a1 :: some (.int x) :: l, st, M) o9 = pj_Ends 20 (23, a0 :: a1 :: some (.int x) :: l, .int x :: st, M) o9 := pj_xs (s20_22)
theorem q20_23 : pj_row 20 23 = some (.ifCond .eq 16, 3, 39, 0, 0) := by decide +kernel
theorem s20_23 {L : pj_Loc} {st : List Value} {M : pj_Mem} {x : Int32} : pj_step 20 (23, L, .int x :: st, M) = some (if x = 0 then 39 else 26, L, st, M) := st_if_eq q20_23
theorem x20_23 {L : pj_Loc} {st : List Value} {M : pj_Mem} {x : Int32} {o9 : Option Value × pj_Mem} : pj_Ends 20 (23, L, .int x :: st, M) o9 = pj_Ends 20 (if x = 0 then 39 else 26, L, st, M) o9 := pj_xs (s20_23)
theorem q20_26 : pj_row 20 26 = some (.iload_n 1, 1, 0, 0, 0) := by decide +kernel
theorem s20_26 {st : List Value} {M : pj_Mem} {l : pj_Loc} {a0 : Option Value} {x : Int32} : pj_step 20 (26, a0 :: some (.int x) :: l, st, M) = some (27, a0 :: some (.int x) :: l, .int x :: st, M) := st_iload_n q20_26 rfl
theorem x20_26 {st : List Value} {M : pj_Mem} {l : pj_Loc} {a0 : Option Value} {x : Int32} {o9 : Option Value × pj_Mem} : pj_Ends 20 (26, a0 :: some (.int x) :: l, st, M) o9 = pj_Ends 20 (27, a0 :: some (.int x) :: l, .int x :: st, M) o9 := pj_xs (s20_26)
theorem q20_27 : pj_row 20 27 = some (.aload_n 0, 1, 0, 0, 0) := by decide +kernel
theorem s20_27 {st : List Value} {M : pj_Mem} {l : pj_Loc} {x : Nat} : pj_step 20 (27, some (.ref x) :: l, st, M) = some (28, some (.ref x) :: l, .ref x :: st, M) := st_aload_n q20_27 rfl
theorem x20_27 {st : List Value} {M : pj_Mem} {l : pj_Loc} {x : Nat} {o9 : Option Value × pj_Mem} : pj_Ends 20 (27, some (.ref x) :: l, st, M) o9 = pj_Ends 20 (28, some (.ref x) :: l, .ref x :: st, M) o9 := pj_xs (s20_27)
theorem q20_28 : pj_row 20 28 = some (.getfield 15, 3, 3, 1, 0) := by decide +kernel
theorem s20_28 {L : pj_Loc} {st : List Value} {N S : Nat} {H : pj_Heap} {o : Nat} : pj_step 20 (28, L, .ref o :: st, (N, S, H)) = pj_pv 31 L st (N, S, H) (pj_fld (H o) 3 1) := st_getfield q20_28
theorem x20_28 {L : pj_Loc} {st : List Value} {N S : Nat} {H : pj_Heap} {o : Nat} {o9 : Option Value × pj_Mem} : pj_Ends 20 (28, L, .ref o :: st, (N, S, H)) o9 = pj_then 20 o9 (pj_pv 31 L st (N, S, H) (pj_fld (H o) 3 1)) := pj_xt q20_28 rfl (pj_cl_nc rfl) (s20_28)
theorem q20_31 : pj_row 20 31 = some (.iload_n 3, 1, 0, 0, 0) := by decide +kernel
theorem s20_31 {st : List Value} {M : pj_Mem} {l : pj_Loc} {a0 a1 a2 : Option Value} {x : Int32} : pj_step 20 (31, a0 :: a1 :: a2 :: some (.int x) :: l, st, M) = some (32, a0 :: a1 :: a2 :: some (.int x) :: l, .int x :: st, M) := st_iload_n q20_31 rfl
theorem x20_31 {st : List Value} {M : pj_Mem} {l : pj_Loc} {a0 a1 a2 : Option Value} {x : Int32} {o9 : Option Value × pj_Mem} : pj_Ends 20 (31, a0 :: a1 :: a2 :: some (.int x) :: l, st, M) o9 = pj_Ends 20 (32, a0 :: a1 :: a2 :: some (.int x) :: l, .int x :: st, M) o9 := pj_xs (s20_31)
theorem q20_32 : pj_row 20 32 = some (.iaload, 1, 0, 0, 0) := by decide +kernel
theorem s20_32 {L : pj_Loc} {st : List Value} {N S : Nat} {H : pj_Heap} {o : Nat} {i : Int32} : pj_step 20 (32, L, .int i :: .ref o :: st, (N, S, H)) = pj_pi 33 L st (N, S, H) (pj_arl (H o) 0 i) := st_iaload q20_32
theorem x20_32 {L : pj_Loc} {st : List Value} {N S : Nat} {H : pj_Heap} {o : Nat} {i : Int32} {o9 : Option Value × pj_Mem} : pj_Ends 20 (32, L, .int i :: .ref o :: st, (N, S, H)) o9 = pj_then 20 o9 (pj_pi 33 L st (N, S, H) (pj_arl (H o) 0 i)) := pj_xt q20_32 rfl (pj_cl_nc rfl) (s20_32)
theorem q20_33 : pj_row 20 33 = some (.invokestatic 106, 3, 0, 2, 5) := by decide +kernel
theorem s20_33 {L : pj_Loc} {st : List Value} {M : pj_Mem} {x y : Int32} : pj_step 20 (33, L, .int y :: .int x :: st, M) = pj_g4 st (some (36, L, .int (if y < x then y else x) :: st, M)) := st_min q20_33
theorem x20_33 {L : pj_Loc} {st : List Value} {M : pj_Mem} {x y : Int32} {o9 : Option Value × pj_Mem} : pj_Ends 20 (33, L, .int y :: .int x :: st, M) o9 = pj_then 20 o9 (pj_g4 st (some (36, L, .int (if y < x then y else x) :: st, M))) := pj_xt q20_33 rfl rfl (s20_33)
theorem q20_36 : pj_row 20 36 = some (.goto 9, 3, 45, 0, 0) := by decide +kernel
theorem s20_36 {L : pj_Loc} {st : List Value} {M : pj_Mem}  : pj_step 20 (36, L, st, M) = some (45, L, st, M) := st_goto q20_36
theorem x20_36 {L : pj_Loc} {st : List Value} {M : pj_Mem}  {o9 : Option Value × pj_Mem} : pj_Ends 20 (36, L, st, M) o9 = pj_Ends 20 (45, L, st, M) o9 := pj_xs (s20_36)
theorem q20_39 : pj_row 20 39 = some (.aload_n 0, 1, 0, 0, 0) := by decide +kernel
theorem s20_39 {st : List Value} {M : pj_Mem} {l : pj_Loc} {x : Nat} : pj_step 20 (39, some (.ref x) :: l, st, M) = some (40, some (.ref x) :: l, .ref x :: st, M) := st_aload_n q20_39 rfl
theorem x20_39 {st : List Value} {M : pj_Mem} {l : pj_Loc} {x : Nat} {o9 : Option Value × pj_Mem} : pj_Ends 20 (39, some (.ref x) :: l, st, M) o9 = pj_Ends 20 (40, some (.ref x) :: l, .ref x :: st, M) o9 := pj_xs (s20_39)
theorem q20_40 : pj_row 20 40 = some (.getfield 15, 3, 3, 1, 0) := by decide +kernel
theorem s20_40 {L : pj_Loc} {st : List Value} {N S : Nat} {H : pj_Heap} {o : Nat} : pj_step 20 (40, L, .ref o :: st, (N, S, H)) = pj_pv 43 L st (N, S, H) (pj_fld (H o) 3 1) := st_getfield q20_40
theorem x20_40 {L : pj_Loc} {st : List Value} {N S : Nat} {H : pj_Heap} {o : Nat} {o9 : Option Value × pj_Mem} : pj_Ends 20 (40, L, .ref o :: st, (N, S, H)) o9 = pj_then 20 o9 (pj_pv 43 L st (N, S, H) (pj_fld (H o) 3 1)) := pj_xt q20_40 rfl (pj_cl_nc rfl) (s20_40)
theorem q20_43 : pj_row 20 43 = some (.iload_n 3, 1, 0, 0, 0) := by decide +kernel
theorem s20_43 {st : List Value} {M : pj_Mem} {l : pj_Loc} {a0 a1 a2 : Option Value} {x : Int32} : pj_step 20 (43, a0 :: a1 :: a2 :: some (.int x) :: l, st, M) = some (44, a0 :: a1 :: a2 :: some (.int x) :: l, .int x :: st, M) := st_iload_n q20_43 rfl
theorem x20_43 {st : List Value} {M : pj_Mem} {l : pj_Loc} {a0 a1 a2 : Option Value} {x : Int32} {o9 : Option Value × pj_Mem} : pj_Ends 20 (43, a0 :: a1 :: a2 :: some (.int x) :: l, st, M) o9 = pj_Ends 20 (44, a0 :: a1 :: a2 :: some (.int x) :: l, .int x :: st, M) o9 := pj_xs (s20_43)
theorem q20_44 : pj_row 20 44 = some (.iaload, 1, 0, 0, 0) := by decide +kernel
theorem s20_44 {L : pj_Loc} {st : List Value} {N S : Nat} {H : pj_Heap} {o : Nat} {i : Int32} : pj_step 20 (44, L, .int i :: .ref o :: st, (N, S, H)) = pj_pi 45 L st (N, S, H) (pj_arl (H o) 0 i) := st_iaload q20_44
theorem x20_44 {L : pj_Loc} {st : List Value} {N S : Nat} {H : pj_Heap} {o : Nat} {i : Int32} {o9 : Option Value × pj_Mem} : pj_Ends 20 (44, L, .int i :: .ref o :: st, (N, S, H)) o9 = pj_then 20 o9 (pj_pi 45 L st (N, S, H) (pj_arl (H o) 0 i)) := pj_xt q20_44 rfl (pj_cl_nc rfl) (s20_44)
theorem q20_45 : pj_row 20 45 = some (.istore_n 1, 1, 0, 0, 0) := by decide +kernel
theorem s20_45 {st : List Value} {M : pj_Mem} {l : pj_Loc} {a0 a1 : Option Value} {x : Int32} (h : pj_long a0 = false) : pj_step 20 (45, a0 :: a1 :: l, .int x :: st, M) = some (46, a0 :: some (.int x) :: l, st, M) := st_istore_n q20_45 (pj_st_1 h)
theorem x20_45 {st : List Value} {M : pj_Mem} {l : pj_Loc} {a0 a1 : Option Value} {x : Int32} (h : pj_long a0 = false) {o9 : Option Value × pj_Mem} : pj_Ends 20 (45, a0 :: a1 :: l, .int x :: st, M) o9 = pj_Ends 20 (46, a0 :: some (.int x) :: l, st, M) o9 := pj_xs (s20_45 h)
theorem q20_46 : pj_row 20 46 = some (.iconst 1, 1, 0, 0, 0) := by decide +kernel
theorem s20_46 {L : pj_Loc} {st : List Value} {M : pj_Mem}  : pj_step 20 (46, L, st, M) = some (47, L, .int 1 :: st, M) := st_iconst q20_46 (by decide +kernel)
theorem x20_46 {L : pj_Loc} {st : List Value} {M : pj_Mem}  {o9 : Option Value × pj_Mem} : pj_Ends 20 (46, L, st, M) o9 = pj_Ends 20 (47, L, .int 1 :: st, M) o9 := pj_xs (s20_46)
theorem q20_47 : pj_row 20 47 = some (.istore_n 2, 1, 0, 0, 0) := by decide +kernel
theorem s20_47 {st : List Value} {M : pj_Mem} {l : pj_Loc} {a0 a1 a2 : Option Value} {x : Int32} (h : pj_long a1 = false) : pj_step 20 (47, a0 :: a1 :: a2 :: l, .int x :: st, M) = some (48, a0 :: a1 :: some (.int x) :: l, st, M) := st_istore_n q20_47 (pj_st_2 h)
theorem x20_47 {st : List Value} {M : pj_Mem} {l : pj_Loc} {a0 a1 a2 : Option Value} {x : Int32} (h : pj_long a1 = false) {o9 : Option Value × pj_Mem} : pj_Ends 20 (47, a0 :: a1 :: a2 :: l, .int x :: st, M) o9 = pj_Ends 20 (48, a0 :: a1 :: some (.int x) :: l, st, M) o9 := pj_xs (s20_47 h)
theorem q20_48 : pj_row 20 48 = some (.iinc 3 1, 3, 0, 0, 0) := by decide +kernel
theorem s20_48 {st : List Value} {M : pj_Mem} {l : pj_Loc} {a0 a1 a2 : Option Value} {x : Int32} (h : pj_long a2 = false) : pj_step 20 (48, a0 :: a1 :: a2 :: some (.int x) :: l, st, M) = some (51, a0 :: a1 :: a2 :: some (.int (x + 1)) :: l, st, M) := st_iinc q20_48 rfl (congrArg (fun y => x + y) (show Int32.ofInt 1 = 1 by decide +kernel)) (pj_st_3 h)
theorem x20_48 {st : List Value} {M : pj_Mem} {l : pj_Loc} {a0 a1 a2 : Option Value} {x : Int32} (h : pj_long a2 = false) {o9 : Option Value × pj_Mem} : pj_Ends 20 (48, a0 :: a1 :: a2 :: some (.int x) :: l, st, M) o9 = pj_Ends 20 (51, a0 :: a1 :: a2 :: some (.int (x + 1)) :: l, st, M) o9 := pj_xs (s20_48 h)
theorem q20_51 : pj_row 20 51 = some (.goto (-45), 3, 6, 0, 0) := by decide +kernel
theorem s20_51 {L : pj_Loc} {st : List Value} {M : pj_Mem}  : pj_step 20 (51, L, st, M) = some (6, L, st, M) := st_goto q20_51
theorem x20_51 {L : pj_Loc} {st : List Value} {M : pj_Mem}  {o9 : Option Value × pj_Mem} : pj_Ends 20 (51, L, st, M) o9 = pj_Ends 20 (6, L, st, M) o9 := pj_xs (s20_51)
theorem q20_54 : pj_row 20 54 = some (.iload_n 1, 1, 0, 0, 0) := by decide +kernel
theorem s20_54 {st : List Value} {M : pj_Mem} {l : pj_Loc} {a0 : Option Value} {x : Int32} : pj_step 20 (54, a0 :: some (.int x) :: l, st, M) = some (55, a0 :: some (.int x) :: l, .int x :: st, M) := st_iload_n q20_54 rfl
theorem x20_54 {st : List Value} {M : pj_Mem} {l : pj_Loc} {a0 : Option Value} {x : Int32} {o9 : Option Value × pj_Mem} : pj_Ends 20 (54, a0 :: some (.int x) :: l, st, M) o9 = pj_Ends 20 (55, a0 :: some (.int x) :: l, .int x :: st, M) o9 := pj_xs (s20_54)
theorem q20_55 : pj_row 20 55 = some (.ireturn, 1, 0, 0, 0) := by decide +kernel
theorem t20_55 {L : pj_Loc} {M : pj_Mem} {v : Int32} : pj_Ends 20 (55, L, [.int v], M) (some (.int v), M) := pj_Ends.ret q20_55 (pj_rtn_i rt20)
theorem rt21 : pj_rt 21 = some .boolean := rfl
theorem q21_0 : pj_row 21 0 = some (.iload_n 0, 1, 0, 0, 0) := by decide +kernel
theorem s21_0 {st : List Value} {M : pj_Mem} {l : pj_Loc} {x : Int32} : pj_step 21 (0, some (.int x) :: l, st, M) = some (1, some (.int x) :: l, .int x :: st, M) := st_iload_n q21_0 rfl
theorem x21_0 {st : List Value} {M : pj_Mem} {l : pj_Loc} {x : Int32} {o9 : Option Value × pj_Mem} : pj_Ends 21 (0, some (.int x) :: l, st, M) o9 = pj_Ends 21 (1, some (.int x) :: l, .int x :: st, M) o9 := pj_xs (s21_0)
theorem q21_1 : pj_row 21 1 = some (.iload_n 1, 1, 0, 0, 0) := by decide +kernel
theorem s21_1 {st : List Value} {M : pj_Mem} {l : pj_Loc} {a0 : Option Value} {x : Int32} : pj_step 21 (1, a0 :: some (.int x) :: l, st, M) = some (2, a0 :: some (.int x) :: l, .int x :: st, M) := st_iload_n q21_1 rfl
theorem x21_1 {st : List Value} {M : pj_Mem} {l : pj_Loc} {a0 : Option Value} {x : Int32} {o9 : Option Value × pj_Mem} : pj_Ends 21 (1, a0 :: some (.int x) :: l, st, M) o9 = pj_Ends 21 (2, a0 :: some (.int x) :: l, .int x :: st, M) o9 := pj_xs (s21_1)
theorem q21_2 : pj_row 21 2 = some (.ishr, 1, 0, 0, 0) := by decide +kernel
theorem s21_2 {L : pj_Loc} {st : List Value} {M : pj_Mem} {x y : Int32} : pj_step 21 (2, L, .int y :: .int x :: st, M) = some (3, L, .int (x >>> (y &&& 31)) :: st, M) := st_ishr q21_2
theorem x21_2 {L : pj_Loc} {st : List Value} {M : pj_Mem} {x y : Int32} {o9 : Option Value × pj_Mem} : pj_Ends 21 (2, L, .int y :: .int x :: st, M) o9 = pj_Ends 21 (3, L, .int (x >>> (y &&& 31)) :: st, M) o9 := pj_xs (s21_2)
theorem q21_3 : pj_row 21 3 = some (.iconst 1, 1, 0, 0, 0) := by decide +kernel
theorem s21_3 {L : pj_Loc} {st : List Value} {M : pj_Mem}  : pj_step 21 (3, L, st, M) = some (4, L, .int 1 :: st, M) := st_iconst q21_3 (by decide +kernel)
theorem x21_3 {L : pj_Loc} {st : List Value} {M : pj_Mem}  {o9 : Option Value × pj_Mem} : pj_Ends 21 (3, L, st, M) o9 = pj_Ends 21 (4, L, .int 1 :: st, M) o9 := pj_xs (s21_3)
theorem q21_4 : pj_row 21 4 = some (.iand, 1, 0, 0, 0) := by decide +kernel
theorem s21_4 {L : pj_Loc} {st : List Value} {M : pj_Mem} {x y : Int32} : pj_step 21 (4, L, .int y :: .int x :: st, M) = some (5, L, .int (x &&& y) :: st, M) := st_iand q21_4
theorem x21_4 {L : pj_Loc} {st : List Value} {M : pj_Mem} {x y : Int32} {o9 : Option Value × pj_Mem} : pj_Ends 21 (4, L, .int y :: .int x :: st, M) o9 = pj_Ends 21 (5, L, .int (x &&& y) :: st, M) o9 := pj_xs (s21_4)
theorem q21_5 : pj_row 21 5 = some (.iconst 1, 1, 0, 0, 0) := by decide +kernel
theorem s21_5 {L : pj_Loc} {st : List Value} {M : pj_Mem}  : pj_step 21 (5, L, st, M) = some (6, L, .int 1 :: st, M) := st_iconst q21_5 (by decide +kernel)
theorem x21_5 {L : pj_Loc} {st : List Value} {M : pj_Mem}  {o9 : Option Value × pj_Mem} : pj_Ends 21 (5, L, st, M) o9 = pj_Ends 21 (6, L, .int 1 :: st, M) o9 := pj_xs (s21_5)
theorem q21_6 : pj_row 21 6 = some (.if_icmp .ne 7, 3, 13, 0, 0) := by decide +kernel
theorem s21_6 {L : pj_Loc} {st : List Value} {M : pj_Mem} {x y : Int32} : pj_step 21 (6, L, .int y :: .int x :: st, M) = some (if ¬ x = y then 13 else 9, L, st, M) := st_icmp_ne q21_6
theorem x21_6 {L : pj_Loc} {st : List Value} {M : pj_Mem} {x y : Int32} {o9 : Option Value × pj_Mem} : pj_Ends 21 (6, L, .int y :: .int x :: st, M) o9 = pj_Ends 21 (if ¬ x = y then 13 else 9, L, st, M) o9 := pj_xs (s21_6)
theorem q21_9 : pj_row 21 9 = some (.iconst 1, 1, 0, 0, 0) := by decide +kernel
theorem s21_9 {L : pj_Loc} {st : List Value} {M : pj_Mem}  : pj_step 21 (9, L, st, M) = some (10, L, .int 1 :: st, M) := st_iconst q21_9 (by decide +kernel)
theorem x21_9 {L : pj_Loc} {st : List Value} {M : pj_Mem}  {o9 : Option Value × pj_Mem} : pj_Ends 21 (9, L, st, M) o9 = pj_Ends 21 (10, L, .int 1 :: st, M) o9 := pj_xs (s21_9)
theorem q21_10 : pj_row 21 10 = some (.goto 4, 3, 14, 0, 0) := by decide +kernel
theorem s21_10 {L : pj_Loc} {st : List Value} {M : pj_Mem}  : pj_step 21 (10, L, st, M) = some (14, L, st, M) := st_goto q21_10
theorem x21_10 {L : pj_Loc} {st : List Value} {M : pj_Mem}  {o9 : Option Value × pj_Mem} : pj_Ends 21 (10, L, st, M) o9 = pj_Ends 21 (14, L, st, M) o9 := pj_xs (s21_10)
theorem q21_13 : pj_row 21 13 = some (.iconst 0, 1, 0, 0, 0) := by decide +kernel
theorem s21_13 {L : pj_Loc} {st : List Value} {M : pj_Mem}  : pj_step 21 (13, L, st, M) = some (14, L, .int 0 :: st, M) := st_iconst q21_13 (by decide +kernel)
theorem x21_13 {L : pj_Loc} {st : List Value} {M : pj_Mem}  {o9 : Option Value × pj_Mem} : pj_Ends 21 (13, L, st, M) o9 = pj_Ends 21 (14, L, .int 0 :: st, M) o9 := pj_xs (s21_13)
theorem q21_14 : pj_row 21 14 = some (.ireturn, 1, 0, 0, 0) := by decide +kernel
theorem t21_14 {L : pj_Loc} {M : pj_Mem} {v : Int32} (hv : v = 0 ∨ v = 1) : pj_Ends 21 (14, L, [.int v], M) (some (.int v), M) := pj_Ends.ret q21_14 (pj_rtn_z rt21 hv)
theorem rt22 : pj_rt 22 = none := rfl
theorem q22_0 : pj_row 22 0 = some (.aload_n 0, 1, 0, 0, 0) := by decide +kernel
theorem s22_0 {st : List Value} {M : pj_Mem} {l : pj_Loc} {x : Nat} : pj_step 22 (0, some (.ref x) :: l, st, M) = some (1, some (.ref x) :: l, .ref x :: st, M) := st_aload_n q22_0 rfl
theorem x22_0 {st : List Value} {M : pj_Mem} {l : pj_Loc} {x : Nat} {o9 : Option Value × pj_Mem} : pj_Ends 22 (0, some (.ref x) :: l, st, M) o9 = pj_Ends 22 (1, some (.ref x) :: l, .ref x :: st, M) o9 := pj_xs (s22_0)
theorem q22_1 : pj_row 22 1 = some (.getfield 89, 3, 3, 8, 0) := by decide +kernel
theorem s22_1 {L : pj_Loc} {st : List Value} {N S : Nat} {H : pj_Heap} {o : Nat} : pj_step 22 (1, L, .ref o :: st, (N, S, H)) = pj_pv 4 L st (N, S, H) (pj_fld (H o) 3 8) := st_getfield q22_1
theorem x22_1 {L : pj_Loc} {st : List Value} {N S : Nat} {H : pj_Heap} {o : Nat} {o9 : Option Value × pj_Mem} : pj_Ends 22 (1, L, .ref o :: st, (N, S, H)) o9 = pj_then 22 o9 (pj_pv 4 L st (N, S, H) (pj_fld (H o) 3 8)) := pj_xt q22_1 rfl (pj_cl_nc rfl) (s22_1)
theorem q22_4 : pj_row 22 4 = some (.bipush 7, 2, 0, 0, 0) := by decide +kernel
theorem s22_4 {L : pj_Loc} {st : List Value} {M : pj_Mem}  : pj_step 22 (4, L, st, M) = some (6, L, .int 7 :: st, M) := st_bipush q22_4 (by decide +kernel)
theorem x22_4 {L : pj_Loc} {st : List Value} {M : pj_Mem}  {o9 : Option Value × pj_Mem} : pj_Ends 22 (4, L, st, M) o9 = pj_Ends 22 (6, L, .int 7 :: st, M) o9 := pj_xs (s22_4)
theorem q22_6 : pj_row 22 6 = some (.if_icmp .eq 4, 3, 10, 0, 0) := by decide +kernel
theorem s22_6 {L : pj_Loc} {st : List Value} {M : pj_Mem} {x y : Int32} : pj_step 22 (6, L, .int y :: .int x :: st, M) = some (if x = y then 10 else 9, L, st, M) := st_icmp_eq q22_6
theorem x22_6 {L : pj_Loc} {st : List Value} {M : pj_Mem} {x y : Int32} {o9 : Option Value × pj_Mem} : pj_Ends 22 (6, L, .int y :: .int x :: st, M) o9 = pj_Ends 22 (if x = y then 10 else 9, L, st, M) o9 := pj_xs (s22_6)
theorem q22_9 : pj_row 22 9 = some (.return_, 1, 0, 0, 0) := by decide +kernel
theorem t22_9 {L : pj_Loc} {M : pj_Mem} : pj_Ends 22 (9, L, [], M) (none, M) := pj_Ends.ret q22_9 (pj_rtn_v rt22)
theorem q22_10 : pj_row 22 10 = some (.iconst 0, 1, 0, 0, 0) := by decide +kernel
theorem s22_10 {L : pj_Loc} {st : List Value} {M : pj_Mem}  : pj_step 22 (10, L, st, M) = some (11, L, .int 0 :: st, M) := st_iconst q22_10 (by decide +kernel)
theorem x22_10 {L : pj_Loc} {st : List Value} {M : pj_Mem}  {o9 : Option Value × pj_Mem} : pj_Ends 22 (10, L, st, M) o9 = pj_Ends 22 (11, L, .int 0 :: st, M) o9 := pj_xs (s22_10)
theorem q22_11 : pj_row 22 11 = some (.istore_n 2, 1, 0, 0, 0) := by decide +kernel
theorem s22_11 {st : List Value} {M : pj_Mem} {l : pj_Loc} {a0 a1 a2 : Option Value} {x : Int32} (h : pj_long a1 = false) : pj_step 22 (11, a0 :: a1 :: a2 :: l, .int x :: st, M) = some (12, a0 :: a1 :: some (.int x) :: l, st, M) := st_istore_n q22_11 (pj_st_2 h)
theorem x22_11 {st : List Value} {M : pj_Mem} {l : pj_Loc} {a0 a1 a2 : Option Value} {x : Int32} (h : pj_long a1 = false) {o9 : Option Value × pj_Mem} : pj_Ends 22 (11, a0 :: a1 :: a2 :: l, .int x :: st, M) o9 = pj_Ends 22 (12, a0 :: a1 :: some (.int x) :: l, st, M) o9 := pj_xs (s22_11 h)
theorem q22_12 : pj_row 22 12 = some (.iload_n 2, 1, 0, 0, 0) := by decide +kernel
theorem s22_12 {st : List Value} {M : pj_Mem} {l : pj_Loc} {a0 a1 : Option Value} {x : Int32} : pj_step 22 (12, a0 :: a1 :: some (.int x) :: l, st, M) = some (13, a0 :: a1 :: some (.int x) :: l, .int x :: st, M) := st_iload_n q22_12 rfl
theorem x22_12 {st : List Value} {M : pj_Mem} {l : pj_Loc} {a0 a1 : Option Value} {x : Int32} {o9 : Option Value × pj_Mem} : pj_Ends 22 (12, a0 :: a1 :: some (.int x) :: l, st, M) o9 = pj_Ends 22 (13, a0 :: a1 :: some (.int x) :: l, .int x :: st, M) o9 := pj_xs (s22_12)
theorem q22_13 : pj_row 22 13 = some (.iconst 3, 1, 0, 0, 0) := by decide +kernel
theorem s22_13 {L : pj_Loc} {st : List Value} {M : pj_Mem}  : pj_step 22 (13, L, st, M) = some (14, L, .int 3 :: st, M) := st_iconst q22_13 (by decide +kernel)
theorem x22_13 {L : pj_Loc} {st : List Value} {M : pj_Mem}  {o9 : Option Value × pj_Mem} : pj_Ends 22 (13, L, st, M) o9 = pj_Ends 22 (14, L, .int 3 :: st, M) o9 := pj_xs (s22_13)
theorem q22_14 : pj_row 22 14 = some (.if_icmp .ge 39, 3, 53, 0, 0) := by decide +kernel
theorem s22_14 {L : pj_Loc} {st : List Value} {M : pj_Mem} {x y : Int32} : pj_step 22 (14, L, .int y :: .int x :: st, M) = some (if y ≤ x then 53 else 17, L, st, M) := st_icmp_ge q22_14
theorem x22_14 {L : pj_Loc} {st : List Value} {M : pj_Mem} {x y : Int32} {o9 : Option Value × pj_Mem} : pj_Ends 22 (14, L, .int y :: .int x :: st, M) o9 = pj_Ends 22 (if y ≤ x then 53 else 17, L, st, M) o9 := pj_xs (s22_14)
theorem q22_17 : pj_row 22 17 = some (.aload_n 0, 1, 0, 0, 0) := by decide +kernel
theorem s22_17 {st : List Value} {M : pj_Mem} {l : pj_Loc} {x : Nat} : pj_step 22 (17, some (.ref x) :: l, st, M) = some (18, some (.ref x) :: l, .ref x :: st, M) := st_aload_n q22_17 rfl
theorem x22_17 {st : List Value} {M : pj_Mem} {l : pj_Loc} {x : Nat} {o9 : Option Value × pj_Mem} : pj_Ends 22 (17, some (.ref x) :: l, st, M) o9 = pj_Ends 22 (18, some (.ref x) :: l, .ref x :: st, M) o9 := pj_xs (s22_17)
theorem q22_18 : pj_row 22 18 = some (.getfield 15, 3, 3, 1, 0) := by decide +kernel
theorem s22_18 {L : pj_Loc} {st : List Value} {N S : Nat} {H : pj_Heap} {o : Nat} : pj_step 22 (18, L, .ref o :: st, (N, S, H)) = pj_pv 21 L st (N, S, H) (pj_fld (H o) 3 1) := st_getfield q22_18
theorem x22_18 {L : pj_Loc} {st : List Value} {N S : Nat} {H : pj_Heap} {o : Nat} {o9 : Option Value × pj_Mem} : pj_Ends 22 (18, L, .ref o :: st, (N, S, H)) o9 = pj_then 22 o9 (pj_pv 21 L st (N, S, H) (pj_fld (H o) 3 1)) := pj_xt q22_18 rfl (pj_cl_nc rfl) (s22_18)
theorem q22_21 : pj_row 22 21 = some (.iload_n 2, 1, 0, 0, 0) := by decide +kernel
theorem s22_21 {st : List Value} {M : pj_Mem} {l : pj_Loc} {a0 a1 : Option Value} {x : Int32} : pj_step 22 (21, a0 :: a1 :: some (.int x) :: l, st, M) = some (22, a0 :: a1 :: some (.int x) :: l, .int x :: st, M) := st_iload_n q22_21 rfl
theorem x22_21 {st : List Value} {M : pj_Mem} {l : pj_Loc} {a0 a1 : Option Value} {x : Int32} {o9 : Option Value × pj_Mem} : pj_Ends 22 (21, a0 :: a1 :: some (.int x) :: l, st, M) o9 = pj_Ends 22 (22, a0 :: a1 :: some (.int x) :: l, .int x :: st, M) o9 := pj_xs (s22_21)
theorem q22_22 : pj_row 22 22 = some (.iaload, 1, 0, 0, 0) := by decide +kernel
theorem s22_22 {L : pj_Loc} {st : List Value} {N S : Nat} {H : pj_Heap} {o : Nat} {i : Int32} : pj_step 22 (22, L, .int i :: .ref o :: st, (N, S, H)) = pj_pi 23 L st (N, S, H) (pj_arl (H o) 0 i) := st_iaload q22_22
theorem x22_22 {L : pj_Loc} {st : List Value} {N S : Nat} {H : pj_Heap} {o : Nat} {i : Int32} {o9 : Option Value × pj_Mem} : pj_Ends 22 (22, L, .int i :: .ref o :: st, (N, S, H)) o9 = pj_then 22 o9 (pj_pi 23 L st (N, S, H) (pj_arl (H o) 0 i)) := pj_xt q22_22 rfl (pj_cl_nc rfl) (s22_22)
theorem q22_23 : pj_row 22 23 = some (.aload_n 0, 1, 0, 0, 0) := by decide +kernel
theorem s22_23 {st : List Value} {M : pj_Mem} {l : pj_Loc} {x : Nat} : pj_step 22 (23, some (.ref x) :: l, st, M) = some (24, some (.ref x) :: l, .ref x :: st, M) := st_aload_n q22_23 rfl
theorem x22_23 {st : List Value} {M : pj_Mem} {l : pj_Loc} {x : Nat} {o9 : Option Value × pj_Mem} : pj_Ends 22 (23, some (.ref x) :: l, st, M) o9 = pj_Ends 22 (24, some (.ref x) :: l, .ref x :: st, M) o9 := pj_xs (s22_23)
theorem q22_24 : pj_row 22 24 = some (.getfield 103, 3, 3, 9, 0) := by decide +kernel
theorem s22_24 {L : pj_Loc} {st : List Value} {N S : Nat} {H : pj_Heap} {o : Nat} : pj_step 22 (24, L, .ref o :: st, (N, S, H)) = pj_pv 27 L st (N, S, H) (pj_fld (H o) 3 9) := st_getfield q22_24
theorem x22_24 {L : pj_Loc} {st : List Value} {N S : Nat} {H : pj_Heap} {o : Nat} {o9 : Option Value × pj_Mem} : pj_Ends 22 (24, L, .ref o :: st, (N, S, H)) o9 = pj_then 22 o9 (pj_pv 27 L st (N, S, H) (pj_fld (H o) 3 9)) := pj_xt q22_24 rfl (pj_cl_nc rfl) (s22_24)
theorem q22_27 : pj_row 22 27 = some (.isub, 1, 0, 0, 0) := by decide +kernel
theorem s22_27 {L : pj_Loc} {st : List Value} {M : pj_Mem} {x y : Int32} : pj_step 22 (27, L, .int y :: .int x :: st, M) = some (28, L, .int (x - y) :: st, M) := st_isub q22_27
theorem x22_27 {L : pj_Loc} {st : List Value} {M : pj_Mem} {x y : Int32} {o9 : Option Value × pj_Mem} : pj_Ends 22 (27, L, .int y :: .int x :: st, M) o9 = pj_Ends 22 (28, L, .int (x - y) :: st, M) o9 := pj_xs (s22_27)
theorem q22_28 : pj_row 22 28 = some (.invokestatic 113, 3, 0, 1, 6) := by decide +kernel
theorem s22_28 {L : pj_Loc} {st : List Value} {M : pj_Mem} {x : Int32} : pj_step 22 (28, L, .int x :: st, M) = pj_g4 st (some (31, L, .int (if 0 ≤ x then x else 0 - x) :: st, M)) := st_abs q22_28
theorem x22_28 {L : pj_Loc} {st : List Value} {M : pj_Mem} {x : Int32} {o9 : Option Value × pj_Mem} : pj_Ends 22 (28, L, .int x :: st, M) o9 = pj_then 22 o9 (pj_g4 st (some (31, L, .int (if 0 ≤ x then x else 0 - x) :: st, M))) := pj_xt q22_28 rfl rfl (s22_28)
theorem q22_31 : pj_row 22 31 = some (.iload_n 1, 1, 0, 0, 0) := by decide +kernel
theorem s22_31 {st : List Value} {M : pj_Mem} {l : pj_Loc} {a0 : Option Value} {x : Int32} : pj_step 22 (31, a0 :: some (.int x) :: l, st, M) = some (32, a0 :: some (.int x) :: l, .int x :: st, M) := st_iload_n q22_31 rfl
theorem x22_31 {st : List Value} {M : pj_Mem} {l : pj_Loc} {a0 : Option Value} {x : Int32} {o9 : Option Value × pj_Mem} : pj_Ends 22 (31, a0 :: some (.int x) :: l, st, M) o9 = pj_Ends 22 (32, a0 :: some (.int x) :: l, .int x :: st, M) o9 := pj_xs (s22_31)
theorem q22_32 : pj_row 22 32 = some (.if_icmp .le 15, 3, 47, 0, 0) := by decide +kernel
theorem s22_32 {L : pj_Loc} {st : List Value} {M : pj_Mem} {x y : Int32} : pj_step 22 (32, L, .int y :: .int x :: st, M) = some (if x ≤ y then 47 else 35, L, st, M) := st_icmp_le q22_32
theorem x22_32 {L : pj_Loc} {st : List Value} {M : pj_Mem} {x y : Int32} {o9 : Option Value × pj_Mem} : pj_Ends 22 (32, L, .int y :: .int x :: st, M) o9 = pj_Ends 22 (if x ≤ y then 47 else 35, L, st, M) o9 := pj_xs (s22_32)
theorem q22_35 : pj_row 22 35 = some (.aload_n 0, 1, 0, 0, 0) := by decide +kernel
theorem s22_35 {st : List Value} {M : pj_Mem} {l : pj_Loc} {x : Nat} : pj_step 22 (35, some (.ref x) :: l, st, M) = some (36, some (.ref x) :: l, .ref x :: st, M) := st_aload_n q22_35 rfl
theorem x22_35 {st : List Value} {M : pj_Mem} {l : pj_Loc} {x : Nat} {o9 : Option Value × pj_Mem} : pj_Ends 22 (35, some (.ref x) :: l, st, M) o9 = pj_Ends 22 (36, some (.ref x) :: l, .ref x :: st, M) o9 := pj_xs (s22_35)
theorem q22_36 : pj_row 22 36 = some (.aload_n 0, 1, 0, 0, 0) := by decide +kernel
theorem s22_36 {st : List Value} {M : pj_Mem} {l : pj_Loc} {x : Nat} : pj_step 22 (36, some (.ref x) :: l, st, M) = some (37, some (.ref x) :: l, .ref x :: st, M) := st_aload_n q22_36 rfl
theorem x22_36 {st : List Value} {M : pj_Mem} {l : pj_Loc} {x : Nat} {o9 : Option Value × pj_Mem} : pj_Ends 22 (36, some (.ref x) :: l, st, M) o9 = pj_Ends 22 (37, some (.ref x) :: l, .ref x :: st, M) o9 := pj_xs (s22_36)
theorem q22_37 : pj_row 22 37 = some (.getfield 89, 3, 3, 8, 0) := by decide +kernel
theorem s22_37 {L : pj_Loc} {st : List Value} {N S : Nat} {H : pj_Heap} {o : Nat} : pj_step 22 (37, L, .ref o :: st, (N, S, H)) = pj_pv 40 L st (N, S, H) (pj_fld (H o) 3 8) := st_getfield q22_37
theorem x22_37 {L : pj_Loc} {st : List Value} {N S : Nat} {H : pj_Heap} {o : Nat} {o9 : Option Value × pj_Mem} : pj_Ends 22 (37, L, .ref o :: st, (N, S, H)) o9 = pj_then 22 o9 (pj_pv 40 L st (N, S, H) (pj_fld (H o) 3 8)) := pj_xt q22_37 rfl (pj_cl_nc rfl) (s22_37)
theorem q22_40 : pj_row 22 40 = some (.iload_n 2, 1, 0, 0, 0) := by decide +kernel
theorem s22_40 {st : List Value} {M : pj_Mem} {l : pj_Loc} {a0 a1 : Option Value} {x : Int32} : pj_step 22 (40, a0 :: a1 :: some (.int x) :: l, st, M) = some (41, a0 :: a1 :: some (.int x) :: l, .int x :: st, M) := st_iload_n q22_40 rfl
theorem x22_40 {st : List Value} {M : pj_Mem} {l : pj_Loc} {a0 a1 : Option Value} {x : Int32} {o9 : Option Value × pj_Mem} : pj_Ends 22 (40, a0 :: a1 :: some (.int x) :: l, st, M) o9 = pj_Ends 22 (41, a0 :: a1 :: some (.int x) :: l, .int x :: st, M) o9 := pj_xs (s22_40)
theorem q22_41 : pj_row 22 41 = some (.invokestatic 92, 3, 17, 2, 1) := by decide +kernel
theorem e22_41 {L : pj_Loc} {st : List Value} {N S : Nat} {H : pj_Heap} {o : Option Value × pj_Mem} {M' : pj_Mem} {x0 : Int32} {x1 : Int32} {r : Int32} (h4 : pj_le4 st = true) (h1 : pj_Ends 17 (0, [some (.int x0), some (.int x1)], [], (N, S, H)) (some (.int r), M')) (h2 : pj_Ends 22 (44, L, .int r :: st, M') o) : pj_Ends 22 (41, L, .int x1 :: .int x0 :: st, (N, S, H)) o := ec_s2 q22_41 (Or.inr rfl) h4 rfl h1 h2
theorem q22_44 : pj_row 22 44 = some (.putfield 89, 3, 3, 8, 0) := by decide +kernel
theorem s22_44 {L : pj_Loc} {st : List Value} {N S : Nat} {H : pj_Heap} {o : Nat} {v : Value} : pj_step 22 (44, L, v :: .ref o :: st, (N, S, H)) = pj_set 47 L st (N, S, H) o (pj_fset (H o) 3 8 v) := st_putfield q22_44
theorem x22_44 {L : pj_Loc} {st : List Value} {N S : Nat} {H : pj_Heap} {o : Nat} {v : Value} {o9 : Option Value × pj_Mem} : pj_Ends 22 (44, L, v :: .ref o :: st, (N, S, H)) o9 = pj_then 22 o9 (pj_set 47 L st (N, S, H) o (pj_fset (H o) 3 8 v)) := pj_xt q22_44 rfl (pj_cl_nc rfl) (s22_44)
theorem q22_47 : pj_row 22 47 = some (.iinc 2 1, 3, 0, 0, 0) := by decide +kernel
theorem s22_47 {st : List Value} {M : pj_Mem} {l : pj_Loc} {a0 a1 : Option Value} {x : Int32} (h : pj_long a1 = false) : pj_step 22 (47, a0 :: a1 :: some (.int x) :: l, st, M) = some (50, a0 :: a1 :: some (.int (x + 1)) :: l, st, M) := st_iinc q22_47 rfl (congrArg (fun y => x + y) (show Int32.ofInt 1 = 1 by decide +kernel)) (pj_st_2 h)
theorem x22_47 {st : List Value} {M : pj_Mem} {l : pj_Loc} {a0 a1 : Option Value} {x : Int32} (h : pj_long a1 = false) {o9 : Option Value × pj_Mem} : pj_Ends 22 (47, a0 :: a1 :: some (.int x) :: l, st, M) o9 = pj_Ends 22 (50, a0 :: a1 :: some (.int (x + 1)) :: l, st, M) o9 := pj_xs (s22_47 h)
theorem q22_50 : pj_row 22 50 = some (.goto (-38), 3, 12, 0, 0) := by decide +kernel
theorem s22_50 {L : pj_Loc} {st : List Value} {M : pj_Mem}  : pj_step 22 (50, L, st, M) = some (12, L, st, M) := st_goto q22_50
theorem x22_50 {L : pj_Loc} {st : List Value} {M : pj_Mem}  {o9 : Option Value × pj_Mem} : pj_Ends 22 (50, L, st, M) o9 = pj_Ends 22 (12, L, st, M) o9 := pj_xs (s22_50)
theorem q22_53 : pj_row 22 53 = some (.return_, 1, 0, 0, 0) := by decide +kernel
theorem t22_53 {L : pj_Loc} {M : pj_Mem} : pj_Ends 22 (53, L, [], M) (none, M) := pj_Ends.ret q22_53 (pj_rtn_v rt22)
theorem rt23 : pj_rt 23 = none := rfl
theorem q23_0 : pj_row 23 0 = some (.aload_n 0, 1, 0, 0, 0) := by decide +kernel
theorem s23_0 {st : List Value} {M : pj_Mem} {l : pj_Loc} {x : Nat} : pj_step 23 (0, some (.ref x) :: l, st, M) = some (1, some (.ref x) :: l, .ref x :: st, M) := st_aload_n q23_0 rfl
theorem x23_0 {st : List Value} {M : pj_Mem} {l : pj_Loc} {x : Nat} {o9 : Option Value × pj_Mem} : pj_Ends 23 (0, some (.ref x) :: l, st, M) o9 = pj_Ends 23 (1, some (.ref x) :: l, .ref x :: st, M) o9 := pj_xs (s23_0)
theorem q23_1 : pj_row 23 1 = some (.getfield 103, 3, 3, 9, 0) := by decide +kernel
theorem s23_1 {L : pj_Loc} {st : List Value} {N S : Nat} {H : pj_Heap} {o : Nat} : pj_step 23 (1, L, .ref o :: st, (N, S, H)) = pj_pv 4 L st (N, S, H) (pj_fld (H o) 3 9) := st_getfield q23_1
theorem x23_1 {L : pj_Loc} {st : List Value} {N S : Nat} {H : pj_Heap} {o : Nat} {o9 : Option Value × pj_Mem} : pj_Ends 23 (1, L, .ref o :: st, (N, S, H)) o9 = pj_then 23 o9 (pj_pv 4 L st (N, S, H) (pj_fld (H o) 3 9)) := pj_xt q23_1 rfl (pj_cl_nc rfl) (s23_1)
theorem q23_4 : pj_row 23 4 = some (.invokestatic 113, 3, 0, 1, 6) := by decide +kernel
theorem s23_4 {L : pj_Loc} {st : List Value} {M : pj_Mem} {x : Int32} : pj_step 23 (4, L, .int x :: st, M) = pj_g4 st (some (7, L, .int (if 0 ≤ x then x else 0 - x) :: st, M)) := st_abs q23_4
theorem x23_4 {L : pj_Loc} {st : List Value} {M : pj_Mem} {x : Int32} {o9 : Option Value × pj_Mem} : pj_Ends 23 (4, L, .int x :: st, M) o9 = pj_then 23 o9 (pj_g4 st (some (7, L, .int (if 0 ≤ x then x else 0 - x) :: st, M))) := pj_xt q23_4 rfl rfl (s23_4)
theorem q23_7 : pj_row 23 7 = some (.iconst 3, 1, 0, 0, 0) := by decide +kernel
theorem s23_7 {L : pj_Loc} {st : List Value} {M : pj_Mem}  : pj_step 23 (7, L, st, M) = some (8, L, .int 3 :: st, M) := st_iconst q23_7 (by decide +kernel)
theorem x23_7 {L : pj_Loc} {st : List Value} {M : pj_Mem}  {o9 : Option Value × pj_Mem} : pj_Ends 23 (7, L, st, M) o9 = pj_Ends 23 (8, L, .int 3 :: st, M) o9 := pj_xs (s23_7)
theorem q23_8 : pj_row 23 8 = some (.if_icmp .gt 14, 3, 22, 0, 0) := by decide +kernel
theorem s23_8 {L : pj_Loc} {st : List Value} {M : pj_Mem} {x y : Int32} : pj_step 23 (8, L, .int y :: .int x :: st, M) = some (if y < x then 22 else 11, L, st, M) := st_icmp_gt q23_8
theorem x23_8 {L : pj_Loc} {st : List Value} {M : pj_Mem} {x y : Int32} {o9 : Option Value × pj_Mem} : pj_Ends 23 (8, L, .int y :: .int x :: st, M) o9 = pj_Ends 23 (if y < x then 22 else 11, L, st, M) o9 := pj_xs (s23_8)
theorem q23_11 : pj_row 23 11 = some (.aload_n 0, 1, 0, 0, 0) := by decide +kernel
theorem s23_11 {st : List Value} {M : pj_Mem} {l : pj_Loc} {x : Nat} : pj_step 23 (11, some (.ref x) :: l, st, M) = some (12, some (.ref x) :: l, .ref x :: st, M) := st_aload_n q23_11 rfl
theorem x23_11 {st : List Value} {M : pj_Mem} {l : pj_Loc} {x : Nat} {o9 : Option Value × pj_Mem} : pj_Ends 23 (11, some (.ref x) :: l, st, M) o9 = pj_Ends 23 (12, some (.ref x) :: l, .ref x :: st, M) o9 := pj_xs (s23_11)
theorem q23_12 : pj_row 23 12 = some (.getfield 39, 3, 3, 6, 0) := by decide +kernel
theorem s23_12 {L : pj_Loc} {st : List Value} {N S : Nat} {H : pj_Heap} {o : Nat} : pj_step 23 (12, L, .ref o :: st, (N, S, H)) = pj_pv 15 L st (N, S, H) (pj_fld (H o) 3 6) := st_getfield q23_12
theorem x23_12 {L : pj_Loc} {st : List Value} {N S : Nat} {H : pj_Heap} {o : Nat} {o9 : Option Value × pj_Mem} : pj_Ends 23 (12, L, .ref o :: st, (N, S, H)) o9 = pj_then 23 o9 (pj_pv 15 L st (N, S, H) (pj_fld (H o) 3 6)) := pj_xt q23_12 rfl (pj_cl_nc rfl) (s23_12)
theorem q23_15 : pj_row 23 15 = some (.ifCond .ne 7, 3, 22, 0, 0) := by decide +kernel
theorem s23_15 {L : pj_Loc} {st : List Value} {M : pj_Mem} {x : Int32} : pj_step 23 (15, L, .int x :: st, M) = some (if ¬ x = 0 then 22 else 18, L, st, M) := st_if_ne q23_15
theorem x23_15 {L : pj_Loc} {st : List Value} {M : pj_Mem} {x : Int32} {o9 : Option Value × pj_Mem} : pj_Ends 23 (15, L, .int x :: st, M) o9 = pj_Ends 23 (if ¬ x = 0 then 22 else 18, L, st, M) o9 := pj_xs (s23_15)
theorem q23_18 : pj_row 23 18 = some (.iconst 1, 1, 0, 0, 0) := by decide +kernel
theorem s23_18 {L : pj_Loc} {st : List Value} {M : pj_Mem}  : pj_step 23 (18, L, st, M) = some (19, L, .int 1 :: st, M) := st_iconst q23_18 (by decide +kernel)
theorem x23_18 {L : pj_Loc} {st : List Value} {M : pj_Mem}  {o9 : Option Value × pj_Mem} : pj_Ends 23 (18, L, st, M) o9 = pj_Ends 23 (19, L, .int 1 :: st, M) o9 := pj_xs (s23_18)
theorem q23_19 : pj_row 23 19 = some (.goto 4, 3, 23, 0, 0) := by decide +kernel
theorem s23_19 {L : pj_Loc} {st : List Value} {M : pj_Mem}  : pj_step 23 (19, L, st, M) = some (23, L, st, M) := st_goto q23_19
theorem x23_19 {L : pj_Loc} {st : List Value} {M : pj_Mem}  {o9 : Option Value × pj_Mem} : pj_Ends 23 (19, L, st, M) o9 = pj_Ends 23 (23, L, st, M) o9 := pj_xs (s23_19)
theorem q23_22 : pj_row 23 22 = some (.iconst 0, 1, 0, 0, 0) := by decide +kernel
theorem s23_22 {L : pj_Loc} {st : List Value} {M : pj_Mem}  : pj_step 23 (22, L, st, M) = some (23, L, .int 0 :: st, M) := st_iconst q23_22 (by decide +kernel)
theorem x23_22 {L : pj_Loc} {st : List Value} {M : pj_Mem}  {o9 : Option Value × pj_Mem} : pj_Ends 23 (22, L, st, M) o9 = pj_Ends 23 (23, L, .int 0 :: st, M) o9 := pj_xs (s23_22)
theorem q23_23 : pj_row 23 23 = some (.istore_n 2, 1, 0, 0, 0) := by decide +kernel
theorem s23_23 {st : List Value} {M : pj_Mem} {l : pj_Loc} {a0 a1 a2 : Option Value} {x : Int32} (h : pj_long a1 = false) : pj_step 23 (23, a0 :: a1 :: a2 :: l, .int x :: st, M) = some (24, a0 :: a1 :: some (.int x) :: l, st, M) := st_istore_n q23_23 (pj_st_2 h)
theorem x23_23 {st : List Value} {M : pj_Mem} {l : pj_Loc} {a0 a1 a2 : Option Value} {x : Int32} (h : pj_long a1 = false) {o9 : Option Value × pj_Mem} : pj_Ends 23 (23, a0 :: a1 :: a2 :: l, .int x :: st, M) o9 = pj_Ends 23 (24, a0 :: a1 :: some (.int x) :: l, st, M) o9 := pj_xs (s23_23 h)
theorem q23_24 : pj_row 23 24 = some (.iconst 0, 1, 0, 0, 0) := by decide +kernel
theorem s23_24 {L : pj_Loc} {st : List Value} {M : pj_Mem}  : pj_step 23 (24, L, st, M) = some (25, L, .int 0 :: st, M) := st_iconst q23_24 (by decide +kernel)
theorem x23_24 {L : pj_Loc} {st : List Value} {M : pj_Mem}  {o9 : Option Value × pj_Mem} : pj_Ends 23 (24, L, st, M) o9 = pj_Ends 23 (25, L, .int 0 :: st, M) o9 := pj_xs (s23_24)
theorem q23_25 : pj_row 23 25 = some (.istore_n 3, 1, 0, 0, 0) := by decide +kernel
theorem s23_25 {st : List Value} {M : pj_Mem} {l : pj_Loc} {a0 a1 a2 a3 : Option Value} {x : Int32} (h : pj_long a2 = false) : pj_step 23 (25, a0 :: a1 :: a2 :: a3 :: l, .int x :: st, M) = some (26, a0 :: a1 :: a2 :: some (.int x) :: l, st, M) := st_istore_n q23_25 (pj_st_3 h)
theorem x23_25 {st : List Value} {M : pj_Mem} {l : pj_Loc} {a0 a1 a2 a3 : Option Value} {x : Int32} (h : pj_long a2 = false) {o9 : Option Value × pj_Mem} : pj_Ends 23 (25, a0 :: a1 :: a2 :: a3 :: l, .int x :: st, M) o9 = pj_Ends 23 (26, a0 :: a1 :: a2 :: some (.int x) :: l, st, M) o9 := pj_xs (s23_25 h)
theorem q23_26 : pj_row 23 26 = some (.iload_n 3, 1, 0, 0, 0) := by decide +kernel
theorem s23_26 {st : List Value} {M : pj_Mem} {l : pj_Loc} {a0 a1 a2 : Option Value} {x : Int32} : pj_step 23 (26, a0 :: a1 :: a2 :: some (.int x) :: l, st, M) = some (27, a0 :: a1 :: a2 :: some (.int x) :: l, .int x :: st, M) := st_iload_n q23_26 rfl
theorem x23_26 {st : List Value} {M : pj_Mem} {l : pj_Loc} {a0 a1 a2 : Option Value} {x : Int32} {o9 : Option Value × pj_Mem} : pj_Ends 23 (26, a0 :: a1 :: a2 :: some (.int x) :: l, st, M) o9 = pj_Ends 23 (27, a0 :: a1 :: a2 :: some (.int x) :: l, .int x :: st, M) o9 := pj_xs (s23_26)
theorem q23_27 : pj_row 23 27 = some (.iconst 3, 1, 0, 0, 0) := by decide +kernel
theorem s23_27 {L : pj_Loc} {st : List Value} {M : pj_Mem}  : pj_step 23 (27, L, st, M) = some (28, L, .int 3 :: st, M) := st_iconst q23_27 (by decide +kernel)
theorem x23_27 {L : pj_Loc} {st : List Value} {M : pj_Mem}  {o9 : Option Value × pj_Mem} : pj_Ends 23 (27, L, st, M) o9 = pj_Ends 23 (28, L, .int 3 :: st, M) o9 := pj_xs (s23_27)
theorem q23_28 : pj_row 23 28 = some (.if_icmp .ge 66, 3, 94, 0, 0) := by decide +kernel
theorem s23_28 {L : pj_Loc} {st : List Value} {M : pj_Mem} {x y : Int32} : pj_step 23 (28, L, .int y :: .int x :: st, M) = some (if y ≤ x then 94 else 31, L, st, M) := st_icmp_ge q23_28
theorem x23_28 {L : pj_Loc} {st : List Value} {M : pj_Mem} {x y : Int32} {o9 : Option Value × pj_Mem} : pj_Ends 23 (28, L, .int y :: .int x :: st, M) o9 = pj_Ends 23 (if y ≤ x then 94 else 31, L, st, M) o9 := pj_xs (s23_28)
theorem q23_31 : pj_row 23 31 = some (.iload_n 2, 1, 0, 0, 0) := by decide +kernel
theorem s23_31 {st : List Value} {M : pj_Mem} {l : pj_Loc} {a0 a1 : Option Value} {x : Int32} : pj_step 23 (31, a0 :: a1 :: some (.int x) :: l, st, M) = some (32, a0 :: a1 :: some (.int x) :: l, .int x :: st, M) := st_iload_n q23_31 rfl
theorem x23_31 {st : List Value} {M : pj_Mem} {l : pj_Loc} {a0 a1 : Option Value} {x : Int32} {o9 : Option Value × pj_Mem} : pj_Ends 23 (31, a0 :: a1 :: some (.int x) :: l, st, M) o9 = pj_Ends 23 (32, a0 :: a1 :: some (.int x) :: l, .int x :: st, M) o9 := pj_xs (s23_31)
theorem q23_32 : pj_row 23 32 = some (.ifCond .eq 18, 3, 50, 0, 0) := by decide +kernel
theorem s23_32 {L : pj_Loc} {st : List Value} {M : pj_Mem} {x : Int32} : pj_step 23 (32, L, .int x :: st, M) = some (if x = 0 then 50 else 35, L, st, M) := st_if_eq q23_32
theorem x23_32 {L : pj_Loc} {st : List Value} {M : pj_Mem} {x : Int32} {o9 : Option Value × pj_Mem} : pj_Ends 23 (32, L, .int x :: st, M) o9 = pj_Ends 23 (if x = 0 then 50 else 35, L, st, M) o9 := pj_xs (s23_32)
theorem q23_35 : pj_row 23 35 = some (.aload_n 0, 1, 0, 0, 0) := by decide +kernel
theorem s23_35 {st : List Value} {M : pj_Mem} {l : pj_Loc} {x : Nat} : pj_step 23 (35, some (.ref x) :: l, st, M) = some (36, some (.ref x) :: l, .ref x :: st, M) := st_aload_n q23_35 rfl
theorem x23_35 {st : List Value} {M : pj_Mem} {l : pj_Loc} {x : Nat} {o9 : Option Value × pj_Mem} : pj_Ends 23 (35, some (.ref x) :: l, st, M) o9 = pj_Ends 23 (36, some (.ref x) :: l, .ref x :: st, M) o9 := pj_xs (s23_35)
theorem q23_36 : pj_row 23 36 = some (.getfield 89, 3, 3, 8, 0) := by decide +kernel
theorem s23_36 {L : pj_Loc} {st : List Value} {N S : Nat} {H : pj_Heap} {o : Nat} : pj_step 23 (36, L, .ref o :: st, (N, S, H)) = pj_pv 39 L st (N, S, H) (pj_fld (H o) 3 8) := st_getfield q23_36
theorem x23_36 {L : pj_Loc} {st : List Value} {N S : Nat} {H : pj_Heap} {o : Nat} {o9 : Option Value × pj_Mem} : pj_Ends 23 (36, L, .ref o :: st, (N, S, H)) o9 = pj_then 23 o9 (pj_pv 39 L st (N, S, H) (pj_fld (H o) 3 8)) := pj_xt q23_36 rfl (pj_cl_nc rfl) (s23_36)
theorem q23_39 : pj_row 23 39 = some (.iload_n 3, 1, 0, 0, 0) := by decide +kernel
theorem s23_39 {st : List Value} {M : pj_Mem} {l : pj_Loc} {a0 a1 a2 : Option Value} {x : Int32} : pj_step 23 (39, a0 :: a1 :: a2 :: some (.int x) :: l, st, M) = some (40, a0 :: a1 :: a2 :: some (.int x) :: l, .int x :: st, M) := st_iload_n q23_39 rfl
theorem x23_39 {st : List Value} {M : pj_Mem} {l : pj_Loc} {a0 a1 a2 : Option Value} {x : Int32} {o9 : Option Value × pj_Mem} : pj_Ends 23 (39, a0 :: a1 :: a2 :: some (.int x) :: l, st, M) o9 = pj_Ends 23 (40, a0 :: a1 :: a2 :: some (.int x) :: l, .int x :: st, M) o9 := pj_xs (s23_39)
theorem q23_40 : pj_row 23 40 = some (.invokestatic 109, 3, 21, 2, 1) := by decide +kernel
theorem e23_40 {L : pj_Loc} {st : List Value} {N S : Nat} {H : pj_Heap} {o : Option Value × pj_Mem} {M' : pj_Mem} {x0 : Int32} {x1 : Int32} {r : Int32} (h4 : pj_le4 st = true) (h1 : pj_Ends 21 (0, [some (.int x0), some (.int x1)], [], (N, S, H)) (some (.int r), M')) (h2 : pj_Ends 23 (43, L, .int r :: st, M') o) : pj_Ends 23 (40, L, .int x1 :: .int x0 :: st, (N, S, H)) o := ec_s2 q23_40 (Or.inr rfl) h4 rfl h1 h2
theorem q23_43 : pj_row 23 43 = some (.ifCond .eq 7, 3, 50, 0, 0) := by decide +kernel
theorem s23_43 {L : pj_Loc} {st : List Value} {M : pj_Mem} {x : Int32} : pj_step 23 (43, L, .int x :: st, M) = some (if x = 0 then 50 else 46, L, st, M) := st_if_eq q23_43
theorem x23_43 {L : pj_Loc} {st : List Value} {M : pj_Mem} {x : Int32} {o9 : Option Value × pj_Mem} : pj_Ends 23 (43, L, .int x :: st, M) o9 = pj_Ends 23 (if x = 0 then 50 else 46, L, st, M) o9 := pj_xs (s23_43)
theorem q23_46 : pj_row 23 46 = some (.iconst 1, 1, 0, 0, 0) := by decide +kernel
theorem s23_46 {L : pj_Loc} {st : List Value} {M : pj_Mem}  : pj_step 23 (46, L, st, M) = some (47, L, .int 1 :: st, M) := st_iconst q23_46 (by decide +kernel)
theorem x23_46 {L : pj_Loc} {st : List Value} {M : pj_Mem}  {o9 : Option Value × pj_Mem} : pj_Ends 23 (46, L, st, M) o9 = pj_Ends 23 (47, L, .int 1 :: st, M) o9 := pj_xs (s23_46)
theorem q23_47 : pj_row 23 47 = some (.goto 4, 3, 51, 0, 0) := by decide +kernel
theorem s23_47 {L : pj_Loc} {st : List Value} {M : pj_Mem}  : pj_step 23 (47, L, st, M) = some (51, L, st, M) := st_goto q23_47
theorem x23_47 {L : pj_Loc} {st : List Value} {M : pj_Mem}  {o9 : Option Value × pj_Mem} : pj_Ends 23 (47, L, st, M) o9 = pj_Ends 23 (51, L, st, M) o9 := pj_xs (s23_47)
theorem q23_50 : pj_row 23 50 = some (.iconst 0, 1, 0, 0, 0) := by decide +kernel
theorem s23_50 {L : pj_Loc} {st : List Value} {M : pj_Mem}  : pj_step 23 (50, L, st, M) = some (51, L, .int 0 :: st, M) := st_iconst q23_50 (by decide +kernel)
theorem x23_50 {L : pj_Loc} {st : List Value} {M : pj_Mem}  {o9 : Option Value × pj_Mem} : pj_Ends 23 (50, L, st, M) o9 = pj_Ends 23 (51, L, .int 0 :: st, M) o9 := pj_xs (s23_50)
theorem q23_51 : pj_row 23 51 = some (.istore 4, 2, 0, 0, 0) := by decide +kernel
theorem s23_51 {st : List Value} {M : pj_Mem} {l : pj_Loc} {a0 a1 a2 a3 a4 : Option Value} {x : Int32} (h : pj_long a3 = false) : pj_step 23 (51, a0 :: a1 :: a2 :: a3 :: a4 :: l, .int x :: st, M) = some (53, a0 :: a1 :: a2 :: a3 :: some (.int x) :: l, st, M) := st_istore q23_51 (pj_st_4 h)
theorem x23_51 {st : List Value} {M : pj_Mem} {l : pj_Loc} {a0 a1 a2 a3 a4 : Option Value} {x : Int32} (h : pj_long a3 = false) {o9 : Option Value × pj_Mem} : pj_Ends 23 (51, a0 :: a1 :: a2 :: a3 :: a4 :: l, .int x :: st, M) o9 = pj_Ends 23 (53, a0 :: a1 :: a2 :: a3 :: some (.int x) :: l, st, M) o9 := pj_xs (s23_51 h)
theorem q23_53 : pj_row 23 53 = some (.aload_n 0, 1, 0, 0, 0) := by decide +kernel
theorem s23_53 {st : List Value} {M : pj_Mem} {l : pj_Loc} {x : Nat} : pj_step 23 (53, some (.ref x) :: l, st, M) = some (54, some (.ref x) :: l, .ref x :: st, M) := st_aload_n q23_53 rfl
theorem x23_53 {st : List Value} {M : pj_Mem} {l : pj_Loc} {x : Nat} {o9 : Option Value × pj_Mem} : pj_Ends 23 (53, some (.ref x) :: l, st, M) o9 = pj_Ends 23 (54, some (.ref x) :: l, .ref x :: st, M) o9 := pj_xs (s23_53)
theorem q23_54 : pj_row 23 54 = some (.getfield 18, 3, 3, 2, 0) := by decide +kernel
theorem s23_54 {L : pj_Loc} {st : List Value} {N S : Nat} {H : pj_Heap} {o : Nat} : pj_step 23 (54, L, .ref o :: st, (N, S, H)) = pj_pv 57 L st (N, S, H) (pj_fld (H o) 3 2) := st_getfield q23_54
theorem x23_54 {L : pj_Loc} {st : List Value} {N S : Nat} {H : pj_Heap} {o : Nat} {o9 : Option Value × pj_Mem} : pj_Ends 23 (54, L, .ref o :: st, (N, S, H)) o9 = pj_then 23 o9 (pj_pv 57 L st (N, S, H) (pj_fld (H o) 3 2)) := pj_xt q23_54 rfl (pj_cl_nc rfl) (s23_54)
theorem q23_57 : pj_row 23 57 = some (.iload_n 3, 1, 0, 0, 0) := by decide +kernel
theorem s23_57 {st : List Value} {M : pj_Mem} {l : pj_Loc} {a0 a1 a2 : Option Value} {x : Int32} : pj_step 23 (57, a0 :: a1 :: a2 :: some (.int x) :: l, st, M) = some (58, a0 :: a1 :: a2 :: some (.int x) :: l, .int x :: st, M) := st_iload_n q23_57 rfl
theorem x23_57 {st : List Value} {M : pj_Mem} {l : pj_Loc} {a0 a1 a2 : Option Value} {x : Int32} {o9 : Option Value × pj_Mem} : pj_Ends 23 (57, a0 :: a1 :: a2 :: some (.int x) :: l, st, M) o9 = pj_Ends 23 (58, a0 :: a1 :: a2 :: some (.int x) :: l, .int x :: st, M) o9 := pj_xs (s23_57)
theorem q23_58 : pj_row 23 58 = some (.iload 4, 2, 0, 0, 0) := by decide +kernel
theorem s23_58 {st : List Value} {M : pj_Mem} {l : pj_Loc} {a0 a1 a2 a3 : Option Value} {x : Int32} : pj_step 23 (58, a0 :: a1 :: a2 :: a3 :: some (.int x) :: l, st, M) = some (60, a0 :: a1 :: a2 :: a3 :: some (.int x) :: l, .int x :: st, M) := st_iload q23_58 rfl
theorem x23_58 {st : List Value} {M : pj_Mem} {l : pj_Loc} {a0 a1 a2 a3 : Option Value} {x : Int32} {o9 : Option Value × pj_Mem} : pj_Ends 23 (58, a0 :: a1 :: a2 :: a3 :: some (.int x) :: l, st, M) o9 = pj_Ends 23 (60, a0 :: a1 :: a2 :: a3 :: some (.int x) :: l, .int x :: st, M) o9 := pj_xs (s23_58)
theorem q23_60 : pj_row 23 60 = some (.ifCond .eq 21, 3, 81, 0, 0) := by decide +kernel
theorem s23_60 {L : pj_Loc} {st : List Value} {M : pj_Mem} {x : Int32} : pj_step 23 (60, L, .int x :: st, M) = some (if x = 0 then 81 else 63, L, st, M) := st_if_eq q23_60
theorem x23_60 {L : pj_Loc} {st : List Value} {M : pj_Mem} {x : Int32} {o9 : Option Value × pj_Mem} : pj_Ends 23 (60, L, .int x :: st, M) o9 = pj_Ends 23 (if x = 0 then 81 else 63, L, st, M) o9 := pj_xs (s23_60)
theorem q23_63 : pj_row 23 63 = some (.aload_n 1, 1, 0, 0, 0) := by decide +kernel
theorem s23_63 {st : List Value} {M : pj_Mem} {l : pj_Loc} {a0 : Option Value} {x : Nat} : pj_step 23 (63, a0 :: some (.ref x) :: l, st, M) = some (64, a0 :: some (.ref x) :: l, .ref x :: st, M) := st_aload_n q23_63 rfl
theorem x23_63 {st : List Value} {M : pj_Mem} {l : pj_Loc} {a0 : Option Value} {x : Nat} {o9 : Option Value × pj_Mem} : pj_Ends 23 (63, a0 :: some (.ref x) :: l, st, M) o9 = pj_Ends 23 (64, a0 :: some (.ref x) :: l, .ref x :: st, M) o9 := pj_xs (s23_63)
theorem q23_64 : pj_row 23 64 = some (.getfield 95, 3, 4, 1, 0) := by decide +kernel
theorem s23_64 {L : pj_Loc} {st : List Value} {N S : Nat} {H : pj_Heap} {o : Nat} : pj_step 23 (64, L, .ref o :: st, (N, S, H)) = pj_pv 67 L st (N, S, H) (pj_fld (H o) 4 1) := st_getfield q23_64
theorem x23_64 {L : pj_Loc} {st : List Value} {N S : Nat} {H : pj_Heap} {o : Nat} {o9 : Option Value × pj_Mem} : pj_Ends 23 (64, L, .ref o :: st, (N, S, H)) o9 = pj_then 23 o9 (pj_pv 67 L st (N, S, H) (pj_fld (H o) 4 1)) := pj_xt q23_64 rfl (pj_cl_nc rfl) (s23_64)
theorem q23_67 : pj_row 23 67 = some (.iload_n 3, 1, 0, 0, 0) := by decide +kernel
theorem s23_67 {st : List Value} {M : pj_Mem} {l : pj_Loc} {a0 a1 a2 : Option Value} {x : Int32} : pj_step 23 (67, a0 :: a1 :: a2 :: some (.int x) :: l, st, M) = some (68, a0 :: a1 :: a2 :: some (.int x) :: l, .int x :: st, M) := st_iload_n q23_67 rfl
theorem x23_67 {st : List Value} {M : pj_Mem} {l : pj_Loc} {a0 a1 a2 : Option Value} {x : Int32} {o9 : Option Value × pj_Mem} : pj_Ends 23 (67, a0 :: a1 :: a2 :: some (.int x) :: l, st, M) o9 = pj_Ends 23 (68, a0 :: a1 :: a2 :: some (.int x) :: l, .int x :: st, M) o9 := pj_xs (s23_67)
theorem q23_68 : pj_row 23 68 = some (.iaload, 1, 0, 0, 0) := by decide +kernel
theorem s23_68 {L : pj_Loc} {st : List Value} {N S : Nat} {H : pj_Heap} {o : Nat} {i : Int32} : pj_step 23 (68, L, .int i :: .ref o :: st, (N, S, H)) = pj_pi 69 L st (N, S, H) (pj_arl (H o) 0 i) := st_iaload q23_68
theorem x23_68 {L : pj_Loc} {st : List Value} {N S : Nat} {H : pj_Heap} {o : Nat} {i : Int32} {o9 : Option Value × pj_Mem} : pj_Ends 23 (68, L, .int i :: .ref o :: st, (N, S, H)) o9 = pj_then 23 o9 (pj_pi 69 L st (N, S, H) (pj_arl (H o) 0 i)) := pj_xt q23_68 rfl (pj_cl_nc rfl) (s23_68)
theorem q23_69 : pj_row 23 69 = some (.aload_n 0, 1, 0, 0, 0) := by decide +kernel
theorem s23_69 {st : List Value} {M : pj_Mem} {l : pj_Loc} {x : Nat} : pj_step 23 (69, some (.ref x) :: l, st, M) = some (70, some (.ref x) :: l, .ref x :: st, M) := st_aload_n q23_69 rfl
theorem x23_69 {st : List Value} {M : pj_Mem} {l : pj_Loc} {x : Nat} {o9 : Option Value × pj_Mem} : pj_Ends 23 (69, some (.ref x) :: l, st, M) o9 = pj_Ends 23 (70, some (.ref x) :: l, .ref x :: st, M) o9 := pj_xs (s23_69)
theorem q23_70 : pj_row 23 70 = some (.getfield 9, 3, 3, 0, 0) := by decide +kernel
theorem s23_70 {L : pj_Loc} {st : List Value} {N S : Nat} {H : pj_Heap} {o : Nat} : pj_step 23 (70, L, .ref o :: st, (N, S, H)) = pj_pv 73 L st (N, S, H) (pj_fld (H o) 3 0) := st_getfield q23_70
theorem x23_70 {L : pj_Loc} {st : List Value} {N S : Nat} {H : pj_Heap} {o : Nat} {o9 : Option Value × pj_Mem} : pj_Ends 23 (70, L, .ref o :: st, (N, S, H)) o9 = pj_then 23 o9 (pj_pv 73 L st (N, S, H) (pj_fld (H o) 3 0)) := pj_xt q23_70 rfl (pj_cl_nc rfl) (s23_70)
theorem q23_73 : pj_row 23 73 = some (.iload_n 3, 1, 0, 0, 0) := by decide +kernel
theorem s23_73 {st : List Value} {M : pj_Mem} {l : pj_Loc} {a0 a1 a2 : Option Value} {x : Int32} : pj_step 23 (73, a0 :: a1 :: a2 :: some (.int x) :: l, st, M) = some (74, a0 :: a1 :: a2 :: some (.int x) :: l, .int x :: st, M) := st_iload_n q23_73 rfl
theorem x23_73 {st : List Value} {M : pj_Mem} {l : pj_Loc} {a0 a1 a2 : Option Value} {x : Int32} {o9 : Option Value × pj_Mem} : pj_Ends 23 (73, a0 :: a1 :: a2 :: some (.int x) :: l, st, M) o9 = pj_Ends 23 (74, a0 :: a1 :: a2 :: some (.int x) :: l, .int x :: st, M) o9 := pj_xs (s23_73)
theorem q23_74 : pj_row 23 74 = some (.iaload, 1, 0, 0, 0) := by decide +kernel
theorem s23_74 {L : pj_Loc} {st : List Value} {N S : Nat} {H : pj_Heap} {o : Nat} {i : Int32} : pj_step 23 (74, L, .int i :: .ref o :: st, (N, S, H)) = pj_pi 75 L st (N, S, H) (pj_arl (H o) 0 i) := st_iaload q23_74
theorem x23_74 {L : pj_Loc} {st : List Value} {N S : Nat} {H : pj_Heap} {o : Nat} {i : Int32} {o9 : Option Value × pj_Mem} : pj_Ends 23 (74, L, .int i :: .ref o :: st, (N, S, H)) o9 = pj_then 23 o9 (pj_pi 75 L st (N, S, H) (pj_arl (H o) 0 i)) := pj_xt q23_74 rfl (pj_cl_nc rfl) (s23_74)
theorem q23_75 : pj_row 23 75 = some (.invokestatic 116, 3, 24, 2, 0) := by decide +kernel
theorem e23_75 {L : pj_Loc} {st : List Value} {N S : Nat} {H : pj_Heap} {o : Option Value × pj_Mem} {M' : pj_Mem} {x0 : Int32} {x1 : Int32} {r : Int32} (h4 : pj_le4 st = true) (h1 : pj_Ends 24 (0, [some (.int x0), some (.int x1)], [], (N, S, H)) (some (.int r), M')) (h2 : pj_Ends 23 (78, L, .int r :: st, M') o) : pj_Ends 23 (75, L, .int x1 :: .int x0 :: st, (N, S, H)) o := ec_s2 q23_75 (Or.inl rfl) h4 rfl h1 h2
theorem q23_78 : pj_row 23 78 = some (.goto 9, 3, 87, 0, 0) := by decide +kernel
theorem s23_78 {L : pj_Loc} {st : List Value} {M : pj_Mem}  : pj_step 23 (78, L, st, M) = some (87, L, st, M) := st_goto q23_78
theorem x23_78 {L : pj_Loc} {st : List Value} {M : pj_Mem}  {o9 : Option Value × pj_Mem} : pj_Ends 23 (78, L, st, M) o9 = pj_Ends 23 (87, L, st, M) o9 := pj_xs (s23_78)
theorem q23_81 : pj_row 23 81 = some (.aload_n 1, 1, 0, 0, 0) := by decide +kernel
theorem s23_81 {st : List Value} {M : pj_Mem} {l : pj_Loc} {a0 : Option Value} {x : Nat} : pj_step 23 (81, a0 :: some (.ref x) :: l, st, M) = some (82, a0 :: some (.ref x) :: l, .ref x :: st, M) := st_aload_n q23_81 rfl
theorem x23_81 {st : List Value} {M : pj_Mem} {l : pj_Loc} {a0 : Option Value} {x : Nat} {o9 : Option Value × pj_Mem} : pj_Ends 23 (81, a0 :: some (.ref x) :: l, st, M) o9 = pj_Ends 23 (82, a0 :: some (.ref x) :: l, .ref x :: st, M) o9 := pj_xs (s23_81)
theorem q23_82 : pj_row 23 82 = some (.getfield 95, 3, 4, 1, 0) := by decide +kernel
theorem s23_82 {L : pj_Loc} {st : List Value} {N S : Nat} {H : pj_Heap} {o : Nat} : pj_step 23 (82, L, .ref o :: st, (N, S, H)) = pj_pv 85 L st (N, S, H) (pj_fld (H o) 4 1) := st_getfield q23_82
theorem x23_82 {L : pj_Loc} {st : List Value} {N S : Nat} {H : pj_Heap} {o : Nat} {o9 : Option Value × pj_Mem} : pj_Ends 23 (82, L, .ref o :: st, (N, S, H)) o9 = pj_then 23 o9 (pj_pv 85 L st (N, S, H) (pj_fld (H o) 4 1)) := pj_xt q23_82 rfl (pj_cl_nc rfl) (s23_82)
theorem q23_85 : pj_row 23 85 = some (.iload_n 3, 1, 0, 0, 0) := by decide +kernel
theorem s23_85 {st : List Value} {M : pj_Mem} {l : pj_Loc} {a0 a1 a2 : Option Value} {x : Int32} : pj_step 23 (85, a0 :: a1 :: a2 :: some (.int x) :: l, st, M) = some (86, a0 :: a1 :: a2 :: some (.int x) :: l, .int x :: st, M) := st_iload_n q23_85 rfl
theorem x23_85 {st : List Value} {M : pj_Mem} {l : pj_Loc} {a0 a1 a2 : Option Value} {x : Int32} {o9 : Option Value × pj_Mem} : pj_Ends 23 (85, a0 :: a1 :: a2 :: some (.int x) :: l, st, M) o9 = pj_Ends 23 (86, a0 :: a1 :: a2 :: some (.int x) :: l, .int x :: st, M) o9 := pj_xs (s23_85)
theorem q23_86 : pj_row 23 86 = some (.iaload, 1, 0, 0, 0) := by decide +kernel
theorem s23_86 {L : pj_Loc} {st : List Value} {N S : Nat} {H : pj_Heap} {o : Nat} {i : Int32} : pj_step 23 (86, L, .int i :: .ref o :: st, (N, S, H)) = pj_pi 87 L st (N, S, H) (pj_arl (H o) 0 i) := st_iaload q23_86
theorem x23_86 {L : pj_Loc} {st : List Value} {N S : Nat} {H : pj_Heap} {o : Nat} {i : Int32} {o9 : Option Value × pj_Mem} : pj_Ends 23 (86, L, .int i :: .ref o :: st, (N, S, H)) o9 = pj_then 23 o9 (pj_pi 87 L st (N, S, H) (pj_arl (H o) 0 i)) := pj_xt q23_86 rfl (pj_cl_nc rfl) (s23_86)
theorem q23_87 : pj_row 23 87 = some (.iastore, 1, 0, 0, 0) := by decide +kernel
theorem s23_87 {L : pj_Loc} {st : List Value} {N S : Nat} {H : pj_Heap} {o : Nat} {i x : Int32} : pj_step 23 (87, L, .int x :: .int i :: .ref o :: st, (N, S, H)) = pj_set 88 L st (N, S, H) o (pj_ars (H o) 0 i x) := st_iastore q23_87
theorem x23_87 {L : pj_Loc} {st : List Value} {N S : Nat} {H : pj_Heap} {o : Nat} {i x : Int32} {o9 : Option Value × pj_Mem} : pj_Ends 23 (87, L, .int x :: .int i :: .ref o :: st, (N, S, H)) o9 = pj_then 23 o9 (pj_set 88 L st (N, S, H) o (pj_ars (H o) 0 i x)) := pj_xt q23_87 rfl (pj_cl_nc rfl) (s23_87)
theorem q23_88 : pj_row 23 88 = some (.iinc 3 1, 3, 0, 0, 0) := by decide +kernel
theorem s23_88 {st : List Value} {M : pj_Mem} {l : pj_Loc} {a0 a1 a2 : Option Value} {x : Int32} (h : pj_long a2 = false) : pj_step 23 (88, a0 :: a1 :: a2 :: some (.int x) :: l, st, M) = some (91, a0 :: a1 :: a2 :: some (.int (x + 1)) :: l, st, M) := st_iinc q23_88 rfl (congrArg (fun y => x + y) (show Int32.ofInt 1 = 1 by decide +kernel)) (pj_st_3 h)
theorem x23_88 {st : List Value} {M : pj_Mem} {l : pj_Loc} {a0 a1 a2 : Option Value} {x : Int32} (h : pj_long a2 = false) {o9 : Option Value × pj_Mem} : pj_Ends 23 (88, a0 :: a1 :: a2 :: some (.int x) :: l, st, M) o9 = pj_Ends 23 (91, a0 :: a1 :: a2 :: some (.int (x + 1)) :: l, st, M) o9 := pj_xs (s23_88 h)
theorem q23_91 : pj_row 23 91 = some (.goto (-65), 3, 26, 0, 0) := by decide +kernel
theorem s23_91 {L : pj_Loc} {st : List Value} {M : pj_Mem}  : pj_step 23 (91, L, st, M) = some (26, L, st, M) := st_goto q23_91
theorem x23_91 {L : pj_Loc} {st : List Value} {M : pj_Mem}  {o9 : Option Value × pj_Mem} : pj_Ends 23 (91, L, st, M) o9 = pj_Ends 23 (26, L, st, M) o9 := pj_xs (s23_91)
theorem q23_94 : pj_row 23 94 = some (.return_, 1, 0, 0, 0) := by decide +kernel
theorem t23_94 {L : pj_Loc} {M : pj_Mem} : pj_Ends 23 (94, L, [], M) (none, M) := pj_Ends.ret q23_94 (pj_rtn_v rt23)
theorem rt24 : pj_rt 24 = some .int := rfl
theorem q24_0 : pj_row 24 0 = some (.iload_n 0, 1, 0, 0, 0) := by decide +kernel
theorem s24_0 {st : List Value} {M : pj_Mem} {l : pj_Loc} {x : Int32} : pj_step 24 (0, some (.int x) :: l, st, M) = some (1, some (.int x) :: l, .int x :: st, M) := st_iload_n q24_0 rfl
theorem x24_0 {st : List Value} {M : pj_Mem} {l : pj_Loc} {x : Int32} {o9 : Option Value × pj_Mem} : pj_Ends 24 (0, some (.int x) :: l, st, M) o9 = pj_Ends 24 (1, some (.int x) :: l, .int x :: st, M) o9 := pj_xs (s24_0)
theorem q24_1 : pj_row 24 1 = some (.iload_n 1, 1, 0, 0, 0) := by decide +kernel
theorem s24_1 {st : List Value} {M : pj_Mem} {l : pj_Loc} {a0 : Option Value} {x : Int32} : pj_step 24 (1, a0 :: some (.int x) :: l, st, M) = some (2, a0 :: some (.int x) :: l, .int x :: st, M) := st_iload_n q24_1 rfl
theorem x24_1 {st : List Value} {M : pj_Mem} {l : pj_Loc} {a0 : Option Value} {x : Int32} {o9 : Option Value × pj_Mem} : pj_Ends 24 (1, a0 :: some (.int x) :: l, st, M) o9 = pj_Ends 24 (2, a0 :: some (.int x) :: l, .int x :: st, M) o9 := pj_xs (s24_1)
theorem q24_2 : pj_row 24 2 = some (.if_icmp .ge 7, 3, 9, 0, 0) := by decide +kernel
theorem s24_2 {L : pj_Loc} {st : List Value} {M : pj_Mem} {x y : Int32} : pj_step 24 (2, L, .int y :: .int x :: st, M) = some (if y ≤ x then 9 else 5, L, st, M) := st_icmp_ge q24_2
theorem x24_2 {L : pj_Loc} {st : List Value} {M : pj_Mem} {x y : Int32} {o9 : Option Value × pj_Mem} : pj_Ends 24 (2, L, .int y :: .int x :: st, M) o9 = pj_Ends 24 (if y ≤ x then 9 else 5, L, st, M) o9 := pj_xs (s24_2)
theorem q24_5 : pj_row 24 5 = some (.iload_n 0, 1, 0, 0, 0) := by decide +kernel
theorem s24_5 {st : List Value} {M : pj_Mem} {l : pj_Loc} {x : Int32} : pj_step 24 (5, some (.int x) :: l, st, M) = some (6, some (.int x) :: l, .int x :: st, M) := st_iload_n q24_5 rfl
theorem x24_5 {st : List Value} {M : pj_Mem} {l : pj_Loc} {x : Int32} {o9 : Option Value × pj_Mem} : pj_Ends 24 (5, some (.int x) :: l, st, M) o9 = pj_Ends 24 (6, some (.int x) :: l, .int x :: st, M) o9 := pj_xs (s24_5)
theorem q24_6 : pj_row 24 6 = some (.iconst 1, 1, 0, 0, 0) := by decide +kernel
theorem s24_6 {L : pj_Loc} {st : List Value} {M : pj_Mem}  : pj_step 24 (6, L, st, M) = some (7, L, .int 1 :: st, M) := st_iconst q24_6 (by decide +kernel)
theorem x24_6 {L : pj_Loc} {st : List Value} {M : pj_Mem}  {o9 : Option Value × pj_Mem} : pj_Ends 24 (6, L, st, M) o9 = pj_Ends 24 (7, L, .int 1 :: st, M) o9 := pj_xs (s24_6)
theorem q24_7 : pj_row 24 7 = some (.iadd, 1, 0, 0, 0) := by decide +kernel
theorem s24_7 {L : pj_Loc} {st : List Value} {M : pj_Mem} {x y : Int32} : pj_step 24 (7, L, .int y :: .int x :: st, M) = some (8, L, .int (x + y) :: st, M) := st_iadd q24_7
theorem x24_7 {L : pj_Loc} {st : List Value} {M : pj_Mem} {x y : Int32} {o9 : Option Value × pj_Mem} : pj_Ends 24 (7, L, .int y :: .int x :: st, M) o9 = pj_Ends 24 (8, L, .int (x + y) :: st, M) o9 := pj_xs (s24_7)
theorem q24_8 : pj_row 24 8 = some (.ireturn, 1, 0, 0, 0) := by decide +kernel
theorem t24_8 {L : pj_Loc} {M : pj_Mem} {v : Int32} : pj_Ends 24 (8, L, [.int v], M) (some (.int v), M) := pj_Ends.ret q24_8 (pj_rtn_i rt24)
theorem q24_9 : pj_row 24 9 = some (.iload_n 0, 1, 0, 0, 0) := by decide +kernel
theorem s24_9 {st : List Value} {M : pj_Mem} {l : pj_Loc} {x : Int32} : pj_step 24 (9, some (.int x) :: l, st, M) = some (10, some (.int x) :: l, .int x :: st, M) := st_iload_n q24_9 rfl
theorem x24_9 {st : List Value} {M : pj_Mem} {l : pj_Loc} {x : Int32} {o9 : Option Value × pj_Mem} : pj_Ends 24 (9, some (.int x) :: l, st, M) o9 = pj_Ends 24 (10, some (.int x) :: l, .int x :: st, M) o9 := pj_xs (s24_9)
theorem q24_10 : pj_row 24 10 = some (.iload_n 1, 1, 0, 0, 0) := by decide +kernel
theorem s24_10 {st : List Value} {M : pj_Mem} {l : pj_Loc} {a0 : Option Value} {x : Int32} : pj_step 24 (10, a0 :: some (.int x) :: l, st, M) = some (11, a0 :: some (.int x) :: l, .int x :: st, M) := st_iload_n q24_10 rfl
theorem x24_10 {st : List Value} {M : pj_Mem} {l : pj_Loc} {a0 : Option Value} {x : Int32} {o9 : Option Value × pj_Mem} : pj_Ends 24 (10, a0 :: some (.int x) :: l, st, M) o9 = pj_Ends 24 (11, a0 :: some (.int x) :: l, .int x :: st, M) o9 := pj_xs (s24_10)
theorem q24_11 : pj_row 24 11 = some (.if_icmp .le 9, 3, 20, 0, 0) := by decide +kernel
theorem s24_11 {L : pj_Loc} {st : List Value} {M : pj_Mem} {x y : Int32} : pj_step 24 (11, L, .int y :: .int x :: st, M) = some (if x ≤ y then 20 else 14, L, st, M) := st_icmp_le q24_11
theorem x24_11 {L : pj_Loc} {st : List Value} {M : pj_Mem} {x y : Int32} {o9 : Option Value × pj_Mem} : pj_Ends 24 (11, L, .int y :: .int x :: st, M) o9 = pj_Ends 24 (if x ≤ y then 20 else 14, L, st, M) o9 := pj_xs (s24_11)
theorem q24_14 : pj_row 24 14 = some (.iload_n 0, 1, 0, 0, 0) := by decide +kernel
theorem s24_14 {st : List Value} {M : pj_Mem} {l : pj_Loc} {x : Int32} : pj_step 24 (14, some (.int x) :: l, st, M) = some (15, some (.int x) :: l, .int x :: st, M) := st_iload_n q24_14 rfl
theorem x24_14 {st : List Value} {M : pj_Mem} {l : pj_Loc} {x : Int32} {o9 : Option Value × pj_Mem} : pj_Ends 24 (14, some (.int x) :: l, st, M) o9 = pj_Ends 24 (15, some (.int x) :: l, .int x :: st, M) o9 := pj_xs (s24_14)
theorem q24_15 : pj_row 24 15 = some (.iconst 1, 1, 0, 0, 0) := by decide +kernel
theorem s24_15 {L : pj_Loc} {st : List Value} {M : pj_Mem}  : pj_step 24 (15, L, st, M) = some (16, L, .int 1 :: st, M) := st_iconst q24_15 (by decide +kernel)
theorem x24_15 {L : pj_Loc} {st : List Value} {M : pj_Mem}  {o9 : Option Value × pj_Mem} : pj_Ends 24 (15, L, st, M) o9 = pj_Ends 24 (16, L, .int 1 :: st, M) o9 := pj_xs (s24_15)
theorem q24_16 : pj_row 24 16 = some (.isub, 1, 0, 0, 0) := by decide +kernel
theorem s24_16 {L : pj_Loc} {st : List Value} {M : pj_Mem} {x y : Int32} : pj_step 24 (16, L, .int y :: .int x :: st, M) = some (17, L, .int (x - y) :: st, M) := st_isub q24_16
theorem x24_16 {L : pj_Loc} {st : List Value} {M : pj_Mem} {x y : Int32} {o9 : Option Value × pj_Mem} : pj_Ends 24 (16, L, .int y :: .int x :: st, M) o9 = pj_Ends 24 (17, L, .int (x - y) :: st, M) o9 := pj_xs (s24_16)
theorem q24_17 : pj_row 24 17 = some (.goto 4, 3, 21, 0, 0) := by decide +kernel
theorem s24_17 {L : pj_Loc} {st : List Value} {M : pj_Mem}  : pj_step 24 (17, L, st, M) = some (21, L, st, M) := st_goto q24_17
theorem x24_17 {L : pj_Loc} {st : List Value} {M : pj_Mem}  {o9 : Option Value × pj_Mem} : pj_Ends 24 (17, L, st, M) o9 = pj_Ends 24 (21, L, st, M) o9 := pj_xs (s24_17)
theorem q24_20 : pj_row 24 20 = some (.iload_n 0, 1, 0, 0, 0) := by decide +kernel
theorem s24_20 {st : List Value} {M : pj_Mem} {l : pj_Loc} {x : Int32} : pj_step 24 (20, some (.int x) :: l, st, M) = some (21, some (.int x) :: l, .int x :: st, M) := st_iload_n q24_20 rfl
theorem x24_20 {st : List Value} {M : pj_Mem} {l : pj_Loc} {x : Int32} {o9 : Option Value × pj_Mem} : pj_Ends 24 (20, some (.int x) :: l, st, M) o9 = pj_Ends 24 (21, some (.int x) :: l, .int x :: st, M) o9 := pj_xs (s24_20)
theorem q24_21 : pj_row 24 21 = some (.ireturn, 1, 0, 0, 0) := by decide +kernel
theorem t24_21 {L : pj_Loc} {M : pj_Mem} {v : Int32} : pj_Ends 24 (21, L, [.int v], M) (some (.int v), M) := pj_Ends.ret q24_21 (pj_rtn_i rt24)
theorem rt25 : pj_rt 25 = none := rfl
theorem q25_0 : pj_row 25 0 = some (.iconst 0, 1, 0, 0, 0) := by decide +kernel
theorem s25_0 {L : pj_Loc} {st : List Value} {M : pj_Mem}  : pj_step 25 (0, L, st, M) = some (1, L, .int 0 :: st, M) := st_iconst q25_0 (by decide +kernel)
theorem x25_0 {L : pj_Loc} {st : List Value} {M : pj_Mem}  {o9 : Option Value × pj_Mem} : pj_Ends 25 (0, L, st, M) o9 = pj_Ends 25 (1, L, .int 0 :: st, M) o9 := pj_xs (s25_0)
theorem q25_1 : pj_row 25 1 = some (.istore_n 2, 1, 0, 0, 0) := by decide +kernel
theorem s25_1 {st : List Value} {M : pj_Mem} {l : pj_Loc} {a0 a1 a2 : Option Value} {x : Int32} (h : pj_long a1 = false) : pj_step 25 (1, a0 :: a1 :: a2 :: l, .int x :: st, M) = some (2, a0 :: a1 :: some (.int x) :: l, st, M) := st_istore_n q25_1 (pj_st_2 h)
theorem x25_1 {st : List Value} {M : pj_Mem} {l : pj_Loc} {a0 a1 a2 : Option Value} {x : Int32} (h : pj_long a1 = false) {o9 : Option Value × pj_Mem} : pj_Ends 25 (1, a0 :: a1 :: a2 :: l, .int x :: st, M) o9 = pj_Ends 25 (2, a0 :: a1 :: some (.int x) :: l, st, M) o9 := pj_xs (s25_1 h)
theorem q25_2 : pj_row 25 2 = some (.iload_n 2, 1, 0, 0, 0) := by decide +kernel
theorem s25_2 {st : List Value} {M : pj_Mem} {l : pj_Loc} {a0 a1 : Option Value} {x : Int32} : pj_step 25 (2, a0 :: a1 :: some (.int x) :: l, st, M) = some (3, a0 :: a1 :: some (.int x) :: l, .int x :: st, M) := st_iload_n q25_2 rfl
theorem x25_2 {st : List Value} {M : pj_Mem} {l : pj_Loc} {a0 a1 : Option Value} {x : Int32} {o9 : Option Value × pj_Mem} : pj_Ends 25 (2, a0 :: a1 :: some (.int x) :: l, st, M) o9 = pj_Ends 25 (3, a0 :: a1 :: some (.int x) :: l, .int x :: st, M) o9 := pj_xs (s25_2)
theorem q25_3 : pj_row 25 3 = some (.iconst 3, 1, 0, 0, 0) := by decide +kernel
theorem s25_3 {L : pj_Loc} {st : List Value} {M : pj_Mem}  : pj_step 25 (3, L, st, M) = some (4, L, .int 3 :: st, M) := st_iconst q25_3 (by decide +kernel)
theorem x25_3 {L : pj_Loc} {st : List Value} {M : pj_Mem}  {o9 : Option Value × pj_Mem} : pj_Ends 25 (3, L, st, M) o9 = pj_Ends 25 (4, L, .int 3 :: st, M) o9 := pj_xs (s25_3)
theorem q25_4 : pj_row 25 4 = some (.if_icmp .ge 61, 3, 65, 0, 0) := by decide +kernel
theorem s25_4 {L : pj_Loc} {st : List Value} {M : pj_Mem} {x y : Int32} : pj_step 25 (4, L, .int y :: .int x :: st, M) = some (if y ≤ x then 65 else 7, L, st, M) := st_icmp_ge q25_4
theorem x25_4 {L : pj_Loc} {st : List Value} {M : pj_Mem} {x y : Int32} {o9 : Option Value × pj_Mem} : pj_Ends 25 (4, L, .int y :: .int x :: st, M) o9 = pj_Ends 25 (if y ≤ x then 65 else 7, L, st, M) o9 := pj_xs (s25_4)
theorem q25_7 : pj_row 25 7 = some (.aload_n 0, 1, 0, 0, 0) := by decide +kernel
theorem s25_7 {st : List Value} {M : pj_Mem} {l : pj_Loc} {x : Nat} : pj_step 25 (7, some (.ref x) :: l, st, M) = some (8, some (.ref x) :: l, .ref x :: st, M) := st_aload_n q25_7 rfl
theorem x25_7 {st : List Value} {M : pj_Mem} {l : pj_Loc} {x : Nat} {o9 : Option Value × pj_Mem} : pj_Ends 25 (7, some (.ref x) :: l, st, M) o9 = pj_Ends 25 (8, some (.ref x) :: l, .ref x :: st, M) o9 := pj_xs (s25_7)
theorem q25_8 : pj_row 25 8 = some (.getfield 15, 3, 3, 1, 0) := by decide +kernel
theorem s25_8 {L : pj_Loc} {st : List Value} {N S : Nat} {H : pj_Heap} {o : Nat} : pj_step 25 (8, L, .ref o :: st, (N, S, H)) = pj_pv 11 L st (N, S, H) (pj_fld (H o) 3 1) := st_getfield q25_8
theorem x25_8 {L : pj_Loc} {st : List Value} {N S : Nat} {H : pj_Heap} {o : Nat} {o9 : Option Value × pj_Mem} : pj_Ends 25 (8, L, .ref o :: st, (N, S, H)) o9 = pj_then 25 o9 (pj_pv 11 L st (N, S, H) (pj_fld (H o) 3 1)) := pj_xt q25_8 rfl (pj_cl_nc rfl) (s25_8)
theorem q25_11 : pj_row 25 11 = some (.iload_n 2, 1, 0, 0, 0) := by decide +kernel
theorem s25_11 {st : List Value} {M : pj_Mem} {l : pj_Loc} {a0 a1 : Option Value} {x : Int32} : pj_step 25 (11, a0 :: a1 :: some (.int x) :: l, st, M) = some (12, a0 :: a1 :: some (.int x) :: l, .int x :: st, M) := st_iload_n q25_11 rfl
theorem x25_11 {st : List Value} {M : pj_Mem} {l : pj_Loc} {a0 a1 : Option Value} {x : Int32} {o9 : Option Value × pj_Mem} : pj_Ends 25 (11, a0 :: a1 :: some (.int x) :: l, st, M) o9 = pj_Ends 25 (12, a0 :: a1 :: some (.int x) :: l, .int x :: st, M) o9 := pj_xs (s25_11)
theorem q25_12 : pj_row 25 12 = some (.iaload, 1, 0, 0, 0) := by decide +kernel
theorem s25_12 {L : pj_Loc} {st : List Value} {N S : Nat} {H : pj_Heap} {o : Nat} {i : Int32} : pj_step 25 (12, L, .int i :: .ref o :: st, (N, S, H)) = pj_pi 13 L st (N, S, H) (pj_arl (H o) 0 i) := st_iaload q25_12
theorem x25_12 {L : pj_Loc} {st : List Value} {N S : Nat} {H : pj_Heap} {o : Nat} {i : Int32} {o9 : Option Value × pj_Mem} : pj_Ends 25 (12, L, .int i :: .ref o :: st, (N, S, H)) o9 = pj_then 25 o9 (pj_pi 13 L st (N, S, H) (pj_arl (H o) 0 i)) := pj_xt q25_12 rfl (pj_cl_nc rfl) (s25_12)
theorem q25_13 : pj_row 25 13 = some (.invokestatic 113, 3, 0, 1, 6) := by decide +kernel
theorem s25_13 {L : pj_Loc} {st : List Value} {M : pj_Mem} {x : Int32} : pj_step 25 (13, L, .int x :: st, M) = pj_g4 st (some (16, L, .int (if 0 ≤ x then x else 0 - x) :: st, M)) := st_abs q25_13
theorem x25_13 {L : pj_Loc} {st : List Value} {M : pj_Mem} {x : Int32} {o9 : Option Value × pj_Mem} : pj_Ends 25 (13, L, .int x :: st, M) o9 = pj_then 25 o9 (pj_g4 st (some (16, L, .int (if 0 ≤ x then x else 0 - x) :: st, M))) := pj_xt q25_13 rfl rfl (s25_13)
theorem q25_16 : pj_row 25 16 = some (.iconst 4, 1, 0, 0, 0) := by decide +kernel
theorem s25_16 {L : pj_Loc} {st : List Value} {M : pj_Mem}  : pj_step 25 (16, L, st, M) = some (17, L, .int 4 :: st, M) := st_iconst q25_16 (by decide +kernel)
theorem x25_16 {L : pj_Loc} {st : List Value} {M : pj_Mem}  {o9 : Option Value × pj_Mem} : pj_Ends 25 (16, L, st, M) o9 = pj_Ends 25 (17, L, .int 4 :: st, M) o9 := pj_xs (s25_16)
theorem q25_17 : pj_row 25 17 = some (.if_icmp .le 7, 3, 24, 0, 0) := by decide +kernel
theorem s25_17 {L : pj_Loc} {st : List Value} {M : pj_Mem} {x y : Int32} : pj_step 25 (17, L, .int y :: .int x :: st, M) = some (if x ≤ y then 24 else 20, L, st, M) := st_icmp_le q25_17
theorem x25_17 {L : pj_Loc} {st : List Value} {M : pj_Mem} {x y : Int32} {o9 : Option Value × pj_Mem} : pj_Ends 25 (17, L, .int y :: .int x :: st, M) o9 = pj_Ends 25 (if x ≤ y then 24 else 20, L, st, M) o9 := pj_xs (s25_17)
theorem q25_20 : pj_row 25 20 = some (.iconst 1, 1, 0, 0, 0) := by decide +kernel
theorem s25_20 {L : pj_Loc} {st : List Value} {M : pj_Mem}  : pj_step 25 (20, L, st, M) = some (21, L, .int 1 :: st, M) := st_iconst q25_20 (by decide +kernel)
theorem x25_20 {L : pj_Loc} {st : List Value} {M : pj_Mem}  {o9 : Option Value × pj_Mem} : pj_Ends 25 (20, L, st, M) o9 = pj_Ends 25 (21, L, .int 1 :: st, M) o9 := pj_xs (s25_20)
theorem q25_21 : pj_row 25 21 = some (.goto 4, 3, 25, 0, 0) := by decide +kernel
theorem s25_21 {L : pj_Loc} {st : List Value} {M : pj_Mem}  : pj_step 25 (21, L, st, M) = some (25, L, st, M) := st_goto q25_21
theorem x25_21 {L : pj_Loc} {st : List Value} {M : pj_Mem}  {o9 : Option Value × pj_Mem} : pj_Ends 25 (21, L, st, M) o9 = pj_Ends 25 (25, L, st, M) o9 := pj_xs (s25_21)
theorem q25_24 : pj_row 25 24 = some (.iconst 0, 1, 0, 0, 0) := by decide +kernel
theorem s25_24 {L : pj_Loc} {st : List Value} {M : pj_Mem}  : pj_step 25 (24, L, st, M) = some (25, L, .int 0 :: st, M) := st_iconst q25_24 (by decide +kernel)
theorem x25_24 {L : pj_Loc} {st : List Value} {M : pj_Mem}  {o9 : Option Value × pj_Mem} : pj_Ends 25 (24, L, st, M) o9 = pj_Ends 25 (25, L, .int 0 :: st, M) o9 := pj_xs (s25_24)
theorem q25_25 : pj_row 25 25 = some (.istore_n 3, 1, 0, 0, 0) := by decide +kernel
theorem s25_25 {st : List Value} {M : pj_Mem} {l : pj_Loc} {a0 a1 a2 a3 : Option Value} {x : Int32} (h : pj_long a2 = false) : pj_step 25 (25, a0 :: a1 :: a2 :: a3 :: l, .int x :: st, M) = some (26, a0 :: a1 :: a2 :: some (.int x) :: l, st, M) := st_istore_n q25_25 (pj_st_3 h)
theorem x25_25 {st : List Value} {M : pj_Mem} {l : pj_Loc} {a0 a1 a2 a3 : Option Value} {x : Int32} (h : pj_long a2 = false) {o9 : Option Value × pj_Mem} : pj_Ends 25 (25, a0 :: a1 :: a2 :: a3 :: l, .int x :: st, M) o9 = pj_Ends 25 (26, a0 :: a1 :: a2 :: some (.int x) :: l, st, M) o9 := pj_xs (s25_25 h)
theorem q25_26 : pj_row 25 26 = some (.aload_n 0, 1, 0, 0, 0) := by decide +kernel
theorem s25_26 {st : List Value} {M : pj_Mem} {l : pj_Loc} {x : Nat} : pj_step 25 (26, some (.ref x) :: l, st, M) = some (27, some (.ref x) :: l, .ref x :: st, M) := st_aload_n q25_26 rfl
theorem x25_26 {st : List Value} {M : pj_Mem} {l : pj_Loc} {x : Nat} {o9 : Option Value × pj_Mem} : pj_Ends 25 (26, some (.ref x) :: l, st, M) o9 = pj_Ends 25 (27, some (.ref x) :: l, .ref x :: st, M) o9 := pj_xs (s25_26)
theorem q25_27 : pj_row 25 27 = some (.getfield 21, 3, 3, 3, 0) := by decide +kernel
theorem s25_27 {L : pj_Loc} {st : List Value} {N S : Nat} {H : pj_Heap} {o : Nat} : pj_step 25 (27, L, .ref o :: st, (N, S, H)) = pj_pv 30 L st (N, S, H) (pj_fld (H o) 3 3) := st_getfield q25_27
theorem x25_27 {L : pj_Loc} {st : List Value} {N S : Nat} {H : pj_Heap} {o : Nat} {o9 : Option Value × pj_Mem} : pj_Ends 25 (27, L, .ref o :: st, (N, S, H)) o9 = pj_then 25 o9 (pj_pv 30 L st (N, S, H) (pj_fld (H o) 3 3)) := pj_xt q25_27 rfl (pj_cl_nc rfl) (s25_27)
theorem q25_30 : pj_row 25 30 = some (.iload_n 2, 1, 0, 0, 0) := by decide +kernel
theorem s25_30 {st : List Value} {M : pj_Mem} {l : pj_Loc} {a0 a1 : Option Value} {x : Int32} : pj_step 25 (30, a0 :: a1 :: some (.int x) :: l, st, M) = some (31, a0 :: a1 :: some (.int x) :: l, .int x :: st, M) := st_iload_n q25_30 rfl
theorem x25_30 {st : List Value} {M : pj_Mem} {l : pj_Loc} {a0 a1 : Option Value} {x : Int32} {o9 : Option Value × pj_Mem} : pj_Ends 25 (30, a0 :: a1 :: some (.int x) :: l, st, M) o9 = pj_Ends 25 (31, a0 :: a1 :: some (.int x) :: l, .int x :: st, M) o9 := pj_xs (s25_30)
theorem q25_31 : pj_row 25 31 = some (.aload_n 1, 1, 0, 0, 0) := by decide +kernel
theorem s25_31 {st : List Value} {M : pj_Mem} {l : pj_Loc} {a0 : Option Value} {x : Nat} : pj_step 25 (31, a0 :: some (.ref x) :: l, st, M) = some (32, a0 :: some (.ref x) :: l, .ref x :: st, M) := st_aload_n q25_31 rfl
theorem x25_31 {st : List Value} {M : pj_Mem} {l : pj_Loc} {a0 : Option Value} {x : Nat} {o9 : Option Value × pj_Mem} : pj_Ends 25 (31, a0 :: some (.ref x) :: l, st, M) o9 = pj_Ends 25 (32, a0 :: some (.ref x) :: l, .ref x :: st, M) o9 := pj_xs (s25_31)
theorem q25_32 : pj_row 25 32 = some (.getfield 119, 3, 4, 2, 0) := by decide +kernel
theorem s25_32 {L : pj_Loc} {st : List Value} {N S : Nat} {H : pj_Heap} {o : Nat} : pj_step 25 (32, L, .ref o :: st, (N, S, H)) = pj_pv 35 L st (N, S, H) (pj_fld (H o) 4 2) := st_getfield q25_32
theorem x25_32 {L : pj_Loc} {st : List Value} {N S : Nat} {H : pj_Heap} {o : Nat} {o9 : Option Value × pj_Mem} : pj_Ends 25 (32, L, .ref o :: st, (N, S, H)) o9 = pj_then 25 o9 (pj_pv 35 L st (N, S, H) (pj_fld (H o) 4 2)) := pj_xt q25_32 rfl (pj_cl_nc rfl) (s25_32)
theorem q25_35 : pj_row 25 35 = some (.iload_n 2, 1, 0, 0, 0) := by decide +kernel
theorem s25_35 {st : List Value} {M : pj_Mem} {l : pj_Loc} {a0 a1 : Option Value} {x : Int32} : pj_step 25 (35, a0 :: a1 :: some (.int x) :: l, st, M) = some (36, a0 :: a1 :: some (.int x) :: l, .int x :: st, M) := st_iload_n q25_35 rfl
theorem x25_35 {st : List Value} {M : pj_Mem} {l : pj_Loc} {a0 a1 : Option Value} {x : Int32} {o9 : Option Value × pj_Mem} : pj_Ends 25 (35, a0 :: a1 :: some (.int x) :: l, st, M) o9 = pj_Ends 25 (36, a0 :: a1 :: some (.int x) :: l, .int x :: st, M) o9 := pj_xs (s25_35)
theorem q25_36 : pj_row 25 36 = some (.iaload, 1, 0, 0, 0) := by decide +kernel
theorem s25_36 {L : pj_Loc} {st : List Value} {N S : Nat} {H : pj_Heap} {o : Nat} {i : Int32} : pj_step 25 (36, L, .int i :: .ref o :: st, (N, S, H)) = pj_pi 37 L st (N, S, H) (pj_arl (H o) 0 i) := st_iaload q25_36
theorem x25_36 {L : pj_Loc} {st : List Value} {N S : Nat} {H : pj_Heap} {o : Nat} {i : Int32} {o9 : Option Value × pj_Mem} : pj_Ends 25 (36, L, .int i :: .ref o :: st, (N, S, H)) o9 = pj_then 25 o9 (pj_pi 37 L st (N, S, H) (pj_arl (H o) 0 i)) := pj_xt q25_36 rfl (pj_cl_nc rfl) (s25_36)
theorem q25_37 : pj_row 25 37 = some (.bipush 7, 2, 0, 0, 0) := by decide +kernel
theorem s25_37 {L : pj_Loc} {st : List Value} {M : pj_Mem}  : pj_step 25 (37, L, st, M) = some (39, L, .int 7 :: st, M) := st_bipush q25_37 (by decide +kernel)
theorem x25_37 {L : pj_Loc} {st : List Value} {M : pj_Mem}  {o9 : Option Value × pj_Mem} : pj_Ends 25 (37, L, st, M) o9 = pj_Ends 25 (39, L, .int 7 :: st, M) o9 := pj_xs (s25_37)
theorem q25_39 : pj_row 25 39 = some (.imul, 1, 0, 0, 0) := by decide +kernel
theorem s25_39 {L : pj_Loc} {st : List Value} {M : pj_Mem} {x y : Int32} : pj_step 25 (39, L, .int y :: .int x :: st, M) = some (40, L, .int (x * y) :: st, M) := st_imul q25_39
theorem x25_39 {L : pj_Loc} {st : List Value} {M : pj_Mem} {x y : Int32} {o9 : Option Value × pj_Mem} : pj_Ends 25 (39, L, .int y :: .int x :: st, M) o9 = pj_Ends 25 (40, L, .int (x * y) :: st, M) o9 := pj_xs (s25_39)
theorem q25_40 : pj_row 25 40 = some (.bipush 8, 2, 0, 0, 0) := by decide +kernel
theorem s25_40 {L : pj_Loc} {st : List Value} {M : pj_Mem}  : pj_step 25 (40, L, st, M) = some (42, L, .int 8 :: st, M) := st_bipush q25_40 (by decide +kernel)
theorem x25_40 {L : pj_Loc} {st : List Value} {M : pj_Mem}  {o9 : Option Value × pj_Mem} : pj_Ends 25 (40, L, st, M) o9 = pj_Ends 25 (42, L, .int 8 :: st, M) o9 := pj_xs (s25_40)
theorem q25_42 : pj_row 25 42 = some (.idiv, 1, 0, 0, 0) := by decide +kernel
theorem s25_42 {L : pj_Loc} {st : List Value} {M : pj_Mem} {x y : Int32} (hy : ¬ y = 0) : pj_step 25 (42, L, .int y :: .int x :: st, M) = some (43, L, .int (x / y) :: st, M) := st_idiv q25_42 hy
theorem x25_42 {L : pj_Loc} {st : List Value} {M : pj_Mem} {x y : Int32} (hy : ¬ y = 0) {o9 : Option Value × pj_Mem} : pj_Ends 25 (42, L, .int y :: .int x :: st, M) o9 = pj_Ends 25 (43, L, .int (x / y) :: st, M) o9 := pj_xs (s25_42 hy)
theorem q25_43 : pj_row 25 43 = some (.iload_n 3, 1, 0, 0, 0) := by decide +kernel
theorem s25_43 {st : List Value} {M : pj_Mem} {l : pj_Loc} {a0 a1 a2 : Option Value} {x : Int32} : pj_step 25 (43, a0 :: a1 :: a2 :: some (.int x) :: l, st, M) = some (44, a0 :: a1 :: a2 :: some (.int x) :: l, .int x :: st, M) := st_iload_n q25_43 rfl
theorem x25_43 {st : List Value} {M : pj_Mem} {l : pj_Loc} {a0 a1 a2 : Option Value} {x : Int32} {o9 : Option Value × pj_Mem} : pj_Ends 25 (43, a0 :: a1 :: a2 :: some (.int x) :: l, st, M) o9 = pj_Ends 25 (44, a0 :: a1 :: a2 :: some (.int x) :: l, .int x :: st, M) o9 := pj_xs (s25_43)
theorem q25_44 : pj_row 25 44 = some (.ifCond .eq 12, 3, 56, 0, 0) := by decide +kernel
theorem s25_44 {L : pj_Loc} {st : List Value} {M : pj_Mem} {x : Int32} : pj_step 25 (44, L, .int x :: st, M) = some (if x = 0 then 56 else 47, L, st, M) := st_if_eq q25_44
theorem x25_44 {L : pj_Loc} {st : List Value} {M : pj_Mem} {x : Int32} {o9 : Option Value × pj_Mem} : pj_Ends 25 (44, L, .int x :: st, M) o9 = pj_Ends 25 (if x = 0 then 56 else 47, L, st, M) o9 := pj_xs (s25_44)
theorem q25_47 : pj_row 25 47 = some (.aload_n 0, 1, 0, 0, 0) := by decide +kernel
theorem s25_47 {st : List Value} {M : pj_Mem} {l : pj_Loc} {x : Nat} : pj_step 25 (47, some (.ref x) :: l, st, M) = some (48, some (.ref x) :: l, .ref x :: st, M) := st_aload_n q25_47 rfl
theorem x25_47 {st : List Value} {M : pj_Mem} {l : pj_Loc} {x : Nat} {o9 : Option Value × pj_Mem} : pj_Ends 25 (47, some (.ref x) :: l, st, M) o9 = pj_Ends 25 (48, some (.ref x) :: l, .ref x :: st, M) o9 := pj_xs (s25_47)
theorem q25_48 : pj_row 25 48 = some (.getfield 15, 3, 3, 1, 0) := by decide +kernel
theorem s25_48 {L : pj_Loc} {st : List Value} {N S : Nat} {H : pj_Heap} {o : Nat} : pj_step 25 (48, L, .ref o :: st, (N, S, H)) = pj_pv 51 L st (N, S, H) (pj_fld (H o) 3 1) := st_getfield q25_48
theorem x25_48 {L : pj_Loc} {st : List Value} {N S : Nat} {H : pj_Heap} {o : Nat} {o9 : Option Value × pj_Mem} : pj_Ends 25 (48, L, .ref o :: st, (N, S, H)) o9 = pj_then 25 o9 (pj_pv 51 L st (N, S, H) (pj_fld (H o) 3 1)) := pj_xt q25_48 rfl (pj_cl_nc rfl) (s25_48)
theorem q25_51 : pj_row 25 51 = some (.iload_n 2, 1, 0, 0, 0) := by decide +kernel
theorem s25_51 {st : List Value} {M : pj_Mem} {l : pj_Loc} {a0 a1 : Option Value} {x : Int32} : pj_step 25 (51, a0 :: a1 :: some (.int x) :: l, st, M) = some (52, a0 :: a1 :: some (.int x) :: l, .int x :: st, M) := st_iload_n q25_51 rfl
theorem x25_51 {st : List Value} {M : pj_Mem} {l : pj_Loc} {a0 a1 : Option Value} {x : Int32} {o9 : Option Value × pj_Mem} : pj_Ends 25 (51, a0 :: a1 :: some (.int x) :: l, st, M) o9 = pj_Ends 25 (52, a0 :: a1 :: some (.int x) :: l, .int x :: st, M) o9 := pj_xs (s25_51)
theorem q25_52 : pj_row 25 52 = some (.iaload, 1, 0, 0, 0) := by decide +kernel
theorem s25_52 {L : pj_Loc} {st : List Value} {N S : Nat} {H : pj_Heap} {o : Nat} {i : Int32} : pj_step 25 (52, L, .int i :: .ref o :: st, (N, S, H)) = pj_pi 53 L st (N, S, H) (pj_arl (H o) 0 i) := st_iaload q25_52
theorem x25_52 {L : pj_Loc} {st : List Value} {N S : Nat} {H : pj_Heap} {o : Nat} {i : Int32} {o9 : Option Value × pj_Mem} : pj_Ends 25 (52, L, .int i :: .ref o :: st, (N, S, H)) o9 = pj_then 25 o9 (pj_pi 53 L st (N, S, H) (pj_arl (H o) 0 i)) := pj_xt q25_52 rfl (pj_cl_nc rfl) (s25_52)
theorem q25_53 : pj_row 25 53 = some (.goto 4, 3, 57, 0, 0) := by decide +kernel
theorem s25_53 {L : pj_Loc} {st : List Value} {M : pj_Mem}  : pj_step 25 (53, L, st, M) = some (57, L, st, M) := st_goto q25_53
theorem x25_53 {L : pj_Loc} {st : List Value} {M : pj_Mem}  {o9 : Option Value × pj_Mem} : pj_Ends 25 (53, L, st, M) o9 = pj_Ends 25 (57, L, st, M) o9 := pj_xs (s25_53)
theorem q25_56 : pj_row 25 56 = some (.iconst 0, 1, 0, 0, 0) := by decide +kernel
theorem s25_56 {L : pj_Loc} {st : List Value} {M : pj_Mem}  : pj_step 25 (56, L, st, M) = some (57, L, .int 0 :: st, M) := st_iconst q25_56 (by decide +kernel)
theorem x25_56 {L : pj_Loc} {st : List Value} {M : pj_Mem}  {o9 : Option Value × pj_Mem} : pj_Ends 25 (56, L, st, M) o9 = pj_Ends 25 (57, L, .int 0 :: st, M) o9 := pj_xs (s25_56)
theorem q25_57 : pj_row 25 57 = some (.iadd, 1, 0, 0, 0) := by decide +kernel
theorem s25_57 {L : pj_Loc} {st : List Value} {M : pj_Mem} {x y : Int32} : pj_step 25 (57, L, .int y :: .int x :: st, M) = some (58, L, .int (x + y) :: st, M) := st_iadd q25_57
theorem x25_57 {L : pj_Loc} {st : List Value} {M : pj_Mem} {x y : Int32} {o9 : Option Value × pj_Mem} : pj_Ends 25 (57, L, .int y :: .int x :: st, M) o9 = pj_Ends 25 (58, L, .int (x + y) :: st, M) o9 := pj_xs (s25_57)
theorem q25_58 : pj_row 25 58 = some (.iastore, 1, 0, 0, 0) := by decide +kernel
theorem s25_58 {L : pj_Loc} {st : List Value} {N S : Nat} {H : pj_Heap} {o : Nat} {i x : Int32} : pj_step 25 (58, L, .int x :: .int i :: .ref o :: st, (N, S, H)) = pj_set 59 L st (N, S, H) o (pj_ars (H o) 0 i x) := st_iastore q25_58
theorem x25_58 {L : pj_Loc} {st : List Value} {N S : Nat} {H : pj_Heap} {o : Nat} {i x : Int32} {o9 : Option Value × pj_Mem} : pj_Ends 25 (58, L, .int x :: .int i :: .ref o :: st, (N, S, H)) o9 = pj_then 25 o9 (pj_set 59 L st (N, S, H) o (pj_ars (H o) 0 i x)) := pj_xt q25_58 rfl (pj_cl_nc rfl) (s25_58)
theorem q25_59 : pj_row 25 59 = some (.iinc 2 1, 3, 0, 0, 0) := by decide +kernel
theorem s25_59 {st : List Value} {M : pj_Mem} {l : pj_Loc} {a0 a1 : Option Value} {x : Int32} (h : pj_long a1 = false) : pj_step 25 (59, a0 :: a1 :: some (.int x) :: l, st, M) = some (62, a0 :: a1 :: some (.int (x + 1)) :: l, st, M) := st_iinc q25_59 rfl (congrArg (fun y => x + y) (show Int32.ofInt 1 = 1 by decide +kernel)) (pj_st_2 h)
theorem x25_59 {st : List Value} {M : pj_Mem} {l : pj_Loc} {a0 a1 : Option Value} {x : Int32} (h : pj_long a1 = false) {o9 : Option Value × pj_Mem} : pj_Ends 25 (59, a0 :: a1 :: some (.int x) :: l, st, M) o9 = pj_Ends 25 (62, a0 :: a1 :: some (.int (x + 1)) :: l, st, M) o9 := pj_xs (s25_59 h)
theorem q25_62 : pj_row 25 62 = some (.goto (-60), 3, 2, 0, 0) := by decide +kernel
theorem s25_62 {L : pj_Loc} {st : List Value} {M : pj_Mem}  : pj_step 25 (62, L, st, M) = some (2, L, st, M) := st_goto q25_62
theorem x25_62 {L : pj_Loc} {st : List Value} {M : pj_Mem}  {o9 : Option Value × pj_Mem} : pj_Ends 25 (62, L, st, M) o9 = pj_Ends 25 (2, L, st, M) o9 := pj_xs (s25_62)
theorem q25_65 : pj_row 25 65 = some (.return_, 1, 0, 0, 0) := by decide +kernel
theorem t25_65 {L : pj_Loc} {M : pj_Mem} : pj_Ends 25 (65, L, [], M) (none, M) := pj_Ends.ret q25_65 (pj_rtn_v rt25)
theorem rt26 : pj_rt 26 = some .int := rfl
theorem q26_0 : pj_row 26 0 = some (.iconst 0, 1, 0, 0, 0) := by decide +kernel
theorem s26_0 {L : pj_Loc} {st : List Value} {M : pj_Mem}  : pj_step 26 (0, L, st, M) = some (1, L, .int 0 :: st, M) := st_iconst q26_0 (by decide +kernel)
theorem x26_0 {L : pj_Loc} {st : List Value} {M : pj_Mem}  {o9 : Option Value × pj_Mem} : pj_Ends 26 (0, L, st, M) o9 = pj_Ends 26 (1, L, .int 0 :: st, M) o9 := pj_xs (s26_0)
theorem q26_1 : pj_row 26 1 = some (.istore_n 2, 1, 0, 0, 0) := by decide +kernel
theorem s26_1 {st : List Value} {M : pj_Mem} {l : pj_Loc} {a0 a1 a2 : Option Value} {x : Int32} (h : pj_long a1 = false) : pj_step 26 (1, a0 :: a1 :: a2 :: l, .int x :: st, M) = some (2, a0 :: a1 :: some (.int x) :: l, st, M) := st_istore_n q26_1 (pj_st_2 h)
theorem x26_1 {st : List Value} {M : pj_Mem} {l : pj_Loc} {a0 a1 a2 : Option Value} {x : Int32} (h : pj_long a1 = false) {o9 : Option Value × pj_Mem} : pj_Ends 26 (1, a0 :: a1 :: a2 :: l, .int x :: st, M) o9 = pj_Ends 26 (2, a0 :: a1 :: some (.int x) :: l, st, M) o9 := pj_xs (s26_1 h)
theorem q26_2 : pj_row 26 2 = some (.iconst 0, 1, 0, 0, 0) := by decide +kernel
theorem s26_2 {L : pj_Loc} {st : List Value} {M : pj_Mem}  : pj_step 26 (2, L, st, M) = some (3, L, .int 0 :: st, M) := st_iconst q26_2 (by decide +kernel)
theorem x26_2 {L : pj_Loc} {st : List Value} {M : pj_Mem}  {o9 : Option Value × pj_Mem} : pj_Ends 26 (2, L, st, M) o9 = pj_Ends 26 (3, L, .int 0 :: st, M) o9 := pj_xs (s26_2)
theorem q26_3 : pj_row 26 3 = some (.istore_n 3, 1, 0, 0, 0) := by decide +kernel
theorem s26_3 {st : List Value} {M : pj_Mem} {l : pj_Loc} {a0 a1 a2 a3 : Option Value} {x : Int32} (h : pj_long a2 = false) : pj_step 26 (3, a0 :: a1 :: a2 :: a3 :: l, .int x :: st, M) = some (4, a0 :: a1 :: a2 :: some (.int x) :: l, st, M) := st_istore_n q26_3 (pj_st_3 h)
theorem x26_3 {st : List Value} {M : pj_Mem} {l : pj_Loc} {a0 a1 a2 a3 : Option Value} {x : Int32} (h : pj_long a2 = false) {o9 : Option Value × pj_Mem} : pj_Ends 26 (3, a0 :: a1 :: a2 :: a3 :: l, .int x :: st, M) o9 = pj_Ends 26 (4, a0 :: a1 :: a2 :: some (.int x) :: l, st, M) o9 := pj_xs (s26_3 h)
theorem q26_4 : pj_row 26 4 = some (.iload_n 3, 1, 0, 0, 0) := by decide +kernel
theorem s26_4 {st : List Value} {M : pj_Mem} {l : pj_Loc} {a0 a1 a2 : Option Value} {x : Int32} : pj_step 26 (4, a0 :: a1 :: a2 :: some (.int x) :: l, st, M) = some (5, a0 :: a1 :: a2 :: some (.int x) :: l, .int x :: st, M) := st_iload_n q26_4 rfl
theorem x26_4 {st : List Value} {M : pj_Mem} {l : pj_Loc} {a0 a1 a2 : Option Value} {x : Int32} {o9 : Option Value × pj_Mem} : pj_Ends 26 (4, a0 :: a1 :: a2 :: some (.int x) :: l, st, M) o9 = pj_Ends 26 (5, a0 :: a1 :: a2 :: some (.int x) :: l, .int x :: st, M) o9 := pj_xs (s26_4)
theorem q26_5 : pj_row 26 5 = some (.iconst 3, 1, 0, 0, 0) := by decide +kernel
theorem s26_5 {L : pj_Loc} {st : List Value} {M : pj_Mem}  : pj_step 26 (5, L, st, M) = some (6, L, .int 3 :: st, M) := st_iconst q26_5 (by decide +kernel)
theorem x26_5 {L : pj_Loc} {st : List Value} {M : pj_Mem}  {o9 : Option Value × pj_Mem} : pj_Ends 26 (5, L, st, M) o9 = pj_Ends 26 (6, L, .int 3 :: st, M) o9 := pj_xs (s26_5)
theorem q26_6 : pj_row 26 6 = some (.if_icmp .ge 36, 3, 42, 0, 0) := by decide +kernel
theorem s26_6 {L : pj_Loc} {st : List Value} {M : pj_Mem} {x y : Int32} : pj_step 26 (6, L, .int y :: .int x :: st, M) = some (if y ≤ x then 42 else 9, L, st, M) := st_icmp_ge q26_6
theorem x26_6 {L : pj_Loc} {st : List Value} {M : pj_Mem} {x y : Int32} {o9 : Option Value × pj_Mem} : pj_Ends 26 (6, L, .int y :: .int x :: st, M) o9 = pj_Ends 26 (if y ≤ x then 42 else 9, L, st, M) o9 := pj_xs (s26_6)
theorem q26_9 : pj_row 26 9 = some (.aload_n 0, 1, 0, 0, 0) := by decide +kernel
theorem s26_9 {st : List Value} {M : pj_Mem} {l : pj_Loc} {x : Nat} : pj_step 26 (9, some (.ref x) :: l, st, M) = some (10, some (.ref x) :: l, .ref x :: st, M) := st_aload_n q26_9 rfl
theorem x26_9 {st : List Value} {M : pj_Mem} {l : pj_Loc} {x : Nat} {o9 : Option Value × pj_Mem} : pj_Ends 26 (9, some (.ref x) :: l, st, M) o9 = pj_Ends 26 (10, some (.ref x) :: l, .ref x :: st, M) o9 := pj_xs (s26_9)
theorem q26_10 : pj_row 26 10 = some (.getfield 89, 3, 3, 8, 0) := by decide +kernel
theorem s26_10 {L : pj_Loc} {st : List Value} {N S : Nat} {H : pj_Heap} {o : Nat} : pj_step 26 (10, L, .ref o :: st, (N, S, H)) = pj_pv 13 L st (N, S, H) (pj_fld (H o) 3 8) := st_getfield q26_10
theorem x26_10 {L : pj_Loc} {st : List Value} {N S : Nat} {H : pj_Heap} {o : Nat} {o9 : Option Value × pj_Mem} : pj_Ends 26 (10, L, .ref o :: st, (N, S, H)) o9 = pj_then 26 o9 (pj_pv 13 L st (N, S, H) (pj_fld (H o) 3 8)) := pj_xt q26_10 rfl (pj_cl_nc rfl) (s26_10)
theorem q26_13 : pj_row 26 13 = some (.iload_n 3, 1, 0, 0, 0) := by decide +kernel
theorem s26_13 {st : List Value} {M : pj_Mem} {l : pj_Loc} {a0 a1 a2 : Option Value} {x : Int32} : pj_step 26 (13, a0 :: a1 :: a2 :: some (.int x) :: l, st, M) = some (14, a0 :: a1 :: a2 :: some (.int x) :: l, .int x :: st, M) := st_iload_n q26_13 rfl
theorem x26_13 {st : List Value} {M : pj_Mem} {l : pj_Loc} {a0 a1 a2 : Option Value} {x : Int32} {o9 : Option Value × pj_Mem} : pj_Ends 26 (13, a0 :: a1 :: a2 :: some (.int x) :: l, st, M) o9 = pj_Ends 26 (14, a0 :: a1 :: a2 :: some (.int x) :: l, .int x :: st, M) o9 := pj_xs (s26_13)
theorem q26_14 : pj_row 26 14 = some (.invokestatic 109, 3, 21, 2, 1) := by decide +kernel
theorem e26_14 {L : pj_Loc} {st : List Value} {N S : Nat} {H : pj_Heap} {o : Option Value × pj_Mem} {M' : pj_Mem} {x0 : Int32} {x1 : Int32} {r : Int32} (h4 : pj_le4 st = true) (h1 : pj_Ends 21 (0, [some (.int x0), some (.int x1)], [], (N, S, H)) (some (.int r), M')) (h2 : pj_Ends 26 (17, L, .int r :: st, M') o) : pj_Ends 26 (14, L, .int x1 :: .int x0 :: st, (N, S, H)) o := ec_s2 q26_14 (Or.inr rfl) h4 rfl h1 h2
theorem q26_17 : pj_row 26 17 = some (.ifCond .eq 19, 3, 36, 0, 0) := by decide +kernel
theorem s26_17 {L : pj_Loc} {st : List Value} {M : pj_Mem} {x : Int32} : pj_step 26 (17, L, .int x :: st, M) = some (if x = 0 then 36 else 20, L, st, M) := st_if_eq q26_17
theorem x26_17 {L : pj_Loc} {st : List Value} {M : pj_Mem} {x : Int32} {o9 : Option Value × pj_Mem} : pj_Ends 26 (17, L, .int x :: st, M) o9 = pj_Ends 26 (if x = 0 then 36 else 20, L, st, M) o9 := pj_xs (s26_17)
theorem q26_20 : pj_row 26 20 = some (.aload_n 0, 1, 0, 0, 0) := by decide +kernel
theorem s26_20 {st : List Value} {M : pj_Mem} {l : pj_Loc} {x : Nat} : pj_step 26 (20, some (.ref x) :: l, st, M) = some (21, some (.ref x) :: l, .ref x :: st, M) := st_aload_n q26_20 rfl
theorem x26_20 {st : List Value} {M : pj_Mem} {l : pj_Loc} {x : Nat} {o9 : Option Value × pj_Mem} : pj_Ends 26 (20, some (.ref x) :: l, st, M) o9 = pj_Ends 26 (21, some (.ref x) :: l, .ref x :: st, M) o9 := pj_xs (s26_20)
theorem q26_21 : pj_row 26 21 = some (.getfield 21, 3, 3, 3, 0) := by decide +kernel
theorem s26_21 {L : pj_Loc} {st : List Value} {N S : Nat} {H : pj_Heap} {o : Nat} : pj_step 26 (21, L, .ref o :: st, (N, S, H)) = pj_pv 24 L st (N, S, H) (pj_fld (H o) 3 3) := st_getfield q26_21
theorem x26_21 {L : pj_Loc} {st : List Value} {N S : Nat} {H : pj_Heap} {o : Nat} {o9 : Option Value × pj_Mem} : pj_Ends 26 (21, L, .ref o :: st, (N, S, H)) o9 = pj_then 26 o9 (pj_pv 24 L st (N, S, H) (pj_fld (H o) 3 3)) := pj_xt q26_21 rfl (pj_cl_nc rfl) (s26_21)
theorem q26_24 : pj_row 26 24 = some (.iload_n 3, 1, 0, 0, 0) := by decide +kernel
theorem s26_24 {st : List Value} {M : pj_Mem} {l : pj_Loc} {a0 a1 a2 : Option Value} {x : Int32} : pj_step 26 (24, a0 :: a1 :: a2 :: some (.int x) :: l, st, M) = some (25, a0 :: a1 :: a2 :: some (.int x) :: l, .int x :: st, M) := st_iload_n q26_24 rfl
theorem x26_24 {st : List Value} {M : pj_Mem} {l : pj_Loc} {a0 a1 a2 : Option Value} {x : Int32} {o9 : Option Value × pj_Mem} : pj_Ends 26 (24, a0 :: a1 :: a2 :: some (.int x) :: l, st, M) o9 = pj_Ends 26 (25, a0 :: a1 :: a2 :: some (.int x) :: l, .int x :: st, M) o9 := pj_xs (s26_24)
theorem q26_25 : pj_row 26 25 = some (.iaload, 1, 0, 0, 0) := by decide +kernel
theorem s26_25 {L : pj_Loc} {st : List Value} {N S : Nat} {H : pj_Heap} {o : Nat} {i : Int32} : pj_step 26 (25, L, .int i :: .ref o :: st, (N, S, H)) = pj_pi 26 L st (N, S, H) (pj_arl (H o) 0 i) := st_iaload q26_25
theorem x26_25 {L : pj_Loc} {st : List Value} {N S : Nat} {H : pj_Heap} {o : Nat} {i : Int32} {o9 : Option Value × pj_Mem} : pj_Ends 26 (25, L, .int i :: .ref o :: st, (N, S, H)) o9 = pj_then 26 o9 (pj_pi 26 L st (N, S, H) (pj_arl (H o) 0 i)) := pj_xt q26_25 rfl (pj_cl_nc rfl) (s26_25)
theorem q26_26 : pj_row 26 26 = some (.iload_n 1, 1, 0, 0, 0) := by decide +kernel
theorem s26_26 {st : List Value} {M : pj_Mem} {l : pj_Loc} {a0 : Option Value} {x : Int32} : pj_step 26 (26, a0 :: some (.int x) :: l, st, M) = some (27, a0 :: some (.int x) :: l, .int x :: st, M) := st_iload_n q26_26 rfl
theorem x26_26 {st : List Value} {M : pj_Mem} {l : pj_Loc} {a0 : Option Value} {x : Int32} {o9 : Option Value × pj_Mem} : pj_Ends 26 (26, a0 :: some (.int x) :: l, st, M) o9 = pj_Ends 26 (27, a0 :: some (.int x) :: l, .int x :: st, M) o9 := pj_xs (s26_26)
theorem q26_27 : pj_row 26 27 = some (.if_icmp .lt 9, 3, 36, 0, 0) := by decide +kernel
theorem s26_27 {L : pj_Loc} {st : List Value} {M : pj_Mem} {x y : Int32} : pj_step 26 (27, L, .int y :: .int x :: st, M) = some (if x < y then 36 else 30, L, st, M) := st_icmp_lt q26_27
theorem x26_27 {L : pj_Loc} {st : List Value} {M : pj_Mem} {x y : Int32} {o9 : Option Value × pj_Mem} : pj_Ends 26 (27, L, .int y :: .int x :: st, M) o9 = pj_Ends 26 (if x < y then 36 else 30, L, st, M) o9 := pj_xs (s26_27)
theorem q26_30 : pj_row 26 30 = some (.iload_n 2, 1, 0, 0, 0) := by decide +kernel
theorem s26_30 {st : List Value} {M : pj_Mem} {l : pj_Loc} {a0 a1 : Option Value} {x : Int32} : pj_step 26 (30, a0 :: a1 :: some (.int x) :: l, st, M) = some (31, a0 :: a1 :: some (.int x) :: l, .int x :: st, M) := st_iload_n q26_30 rfl
theorem x26_30 {st : List Value} {M : pj_Mem} {l : pj_Loc} {a0 a1 : Option Value} {x : Int32} {o9 : Option Value × pj_Mem} : pj_Ends 26 (30, a0 :: a1 :: some (.int x) :: l, st, M) o9 = pj_Ends 26 (31, a0 :: a1 :: some (.int x) :: l, .int x :: st, M) o9 := pj_xs (s26_30)
theorem q26_31 : pj_row 26 31 = some (.iload_n 3, 1, 0, 0, 0) := by decide +kernel
theorem s26_31 {st : List Value} {M : pj_Mem} {l : pj_Loc} {a0 a1 a2 : Option Value} {x : Int32} : pj_step 26 (31, a0 :: a1 :: a2 :: some (.int x) :: l, st, M) = some (32, a0 :: a1 :: a2 :: some (.int x) :: l, .int x :: st, M) := st_iload_n q26_31 rfl
theorem x26_31 {st : List Value} {M : pj_Mem} {l : pj_Loc} {a0 a1 a2 : Option Value} {x : Int32} {o9 : Option Value × pj_Mem} : pj_Ends 26 (31, a0 :: a1 :: a2 :: some (.int x) :: l, st, M) o9 = pj_Ends 26 (32, a0 :: a1 :: a2 :: some (.int x) :: l, .int x :: st, M) o9 := pj_xs (s26_31)
theorem q26_32 : pj_row 26 32 = some (.invokestatic 120, 3, 27, 2, 1) := by decide +kernel
theorem e26_32 {L : pj_Loc} {st : List Value} {N S : Nat} {H : pj_Heap} {o : Option Value × pj_Mem} {M' : pj_Mem} {x0 : Int32} {x1 : Int32} {r : Int32} (h4 : pj_le4 st = true) (h1 : pj_Ends 27 (0, [some (.int x0), some (.int x1)], [], (N, S, H)) (some (.int r), M')) (h2 : pj_Ends 26 (35, L, .int r :: st, M') o) : pj_Ends 26 (32, L, .int x1 :: .int x0 :: st, (N, S, H)) o := ec_s2 q26_32 (Or.inr rfl) h4 rfl h1 h2
theorem q26_35 : pj_row 26 35 = some (.istore_n 2, 1, 0, 0, 0) := by decide +kernel
theorem s26_35 {st : List Value} {M : pj_Mem} {l : pj_Loc} {a0 a1 a2 : Option Value} {x : Int32} (h : pj_long a1 = false) : pj_step 26 (35, a0 :: a1 :: a2 :: l, .int x :: st, M) = some (36, a0 :: a1 :: some (.int x) :: l, st, M) := st_istore_n q26_35 (pj_st_2 h)
theorem x26_35 {st : List Value} {M : pj_Mem} {l : pj_Loc} {a0 a1 a2 : Option Value} {x : Int32} (h : pj_long a1 = false) {o9 : Option Value × pj_Mem} : pj_Ends 26 (35, a0 :: a1 :: a2 :: l, .int x :: st, M) o9 = pj_Ends 26 (36, a0 :: a1 :: some (.int x) :: l, st, M) o9 := pj_xs (s26_35 h)
theorem q26_36 : pj_row 26 36 = some (.iinc 3 1, 3, 0, 0, 0) := by decide +kernel
theorem s26_36 {st : List Value} {M : pj_Mem} {l : pj_Loc} {a0 a1 a2 : Option Value} {x : Int32} (h : pj_long a2 = false) : pj_step 26 (36, a0 :: a1 :: a2 :: some (.int x) :: l, st, M) = some (39, a0 :: a1 :: a2 :: some (.int (x + 1)) :: l, st, M) := st_iinc q26_36 rfl (congrArg (fun y => x + y) (show Int32.ofInt 1 = 1 by decide +kernel)) (pj_st_3 h)
theorem x26_36 {st : List Value} {M : pj_Mem} {l : pj_Loc} {a0 a1 a2 : Option Value} {x : Int32} (h : pj_long a2 = false) {o9 : Option Value × pj_Mem} : pj_Ends 26 (36, a0 :: a1 :: a2 :: some (.int x) :: l, st, M) o9 = pj_Ends 26 (39, a0 :: a1 :: a2 :: some (.int (x + 1)) :: l, st, M) o9 := pj_xs (s26_36 h)
theorem q26_39 : pj_row 26 39 = some (.goto (-35), 3, 4, 0, 0) := by decide +kernel
theorem s26_39 {L : pj_Loc} {st : List Value} {M : pj_Mem}  : pj_step 26 (39, L, st, M) = some (4, L, st, M) := st_goto q26_39
theorem x26_39 {L : pj_Loc} {st : List Value} {M : pj_Mem}  {o9 : Option Value × pj_Mem} : pj_Ends 26 (39, L, st, M) o9 = pj_Ends 26 (4, L, st, M) o9 := pj_xs (s26_39)
theorem q26_42 : pj_row 26 42 = some (.iload_n 2, 1, 0, 0, 0) := by decide +kernel
theorem s26_42 {st : List Value} {M : pj_Mem} {l : pj_Loc} {a0 a1 : Option Value} {x : Int32} : pj_step 26 (42, a0 :: a1 :: some (.int x) :: l, st, M) = some (43, a0 :: a1 :: some (.int x) :: l, .int x :: st, M) := st_iload_n q26_42 rfl
theorem x26_42 {st : List Value} {M : pj_Mem} {l : pj_Loc} {a0 a1 : Option Value} {x : Int32} {o9 : Option Value × pj_Mem} : pj_Ends 26 (42, a0 :: a1 :: some (.int x) :: l, st, M) o9 = pj_Ends 26 (43, a0 :: a1 :: some (.int x) :: l, .int x :: st, M) o9 := pj_xs (s26_42)
theorem q26_43 : pj_row 26 43 = some (.ireturn, 1, 0, 0, 0) := by decide +kernel
theorem t26_43 {L : pj_Loc} {M : pj_Mem} {v : Int32} : pj_Ends 26 (43, L, [.int v], M) (some (.int v), M) := pj_Ends.ret q26_43 (pj_rtn_i rt26)
theorem rt27 : pj_rt 27 = some .int := rfl
theorem q27_0 : pj_row 27 0 = some (.iload_n 0, 1, 0, 0, 0) := by decide +kernel
theorem s27_0 {st : List Value} {M : pj_Mem} {l : pj_Loc} {x : Int32} : pj_step 27 (0, some (.int x) :: l, st, M) = some (1, some (.int x) :: l, .int x :: st, M) := st_iload_n q27_0 rfl
theorem x27_0 {st : List Value} {M : pj_Mem} {l : pj_Loc} {x : Int32} {o9 : Option Value × pj_Mem} : pj_Ends 27 (0, some (.int x) :: l, st, M) o9 = pj_Ends 27 (1, some (.int x) :: l, .int x :: st, M) o9 := pj_xs (s27_0)
theorem q27_1 : pj_row 27 1 = some (.iconst 1, 1, 0, 0, 0) := by decide +kernel
theorem s27_1 {L : pj_Loc} {st : List Value} {M : pj_Mem}  : pj_step 27 (1, L, st, M) = some (2, L, .int 1 :: st, M) := st_iconst q27_1 (by decide +kernel)
theorem x27_1 {L : pj_Loc} {st : List Value} {M : pj_Mem}  {o9 : Option Value × pj_Mem} : pj_Ends 27 (1, L, st, M) o9 = pj_Ends 27 (2, L, .int 1 :: st, M) o9 := pj_xs (s27_1)
theorem q27_2 : pj_row 27 2 = some (.iload_n 1, 1, 0, 0, 0) := by decide +kernel
theorem s27_2 {st : List Value} {M : pj_Mem} {l : pj_Loc} {a0 : Option Value} {x : Int32} : pj_step 27 (2, a0 :: some (.int x) :: l, st, M) = some (3, a0 :: some (.int x) :: l, .int x :: st, M) := st_iload_n q27_2 rfl
theorem x27_2 {st : List Value} {M : pj_Mem} {l : pj_Loc} {a0 : Option Value} {x : Int32} {o9 : Option Value × pj_Mem} : pj_Ends 27 (2, a0 :: some (.int x) :: l, st, M) o9 = pj_Ends 27 (3, a0 :: some (.int x) :: l, .int x :: st, M) o9 := pj_xs (s27_2)
theorem q27_3 : pj_row 27 3 = some (.ishl, 1, 0, 0, 0) := by decide +kernel
theorem s27_3 {L : pj_Loc} {st : List Value} {M : pj_Mem} {x y : Int32} : pj_step 27 (3, L, .int y :: .int x :: st, M) = some (4, L, .int (x <<< (y &&& 31)) :: st, M) := st_ishl q27_3
theorem x27_3 {L : pj_Loc} {st : List Value} {M : pj_Mem} {x y : Int32} {o9 : Option Value × pj_Mem} : pj_Ends 27 (3, L, .int y :: .int x :: st, M) o9 = pj_Ends 27 (4, L, .int (x <<< (y &&& 31)) :: st, M) o9 := pj_xs (s27_3)
theorem q27_4 : pj_row 27 4 = some (.ior, 1, 0, 0, 0) := by decide +kernel
theorem s27_4 {L : pj_Loc} {st : List Value} {M : pj_Mem} {x y : Int32} : pj_step 27 (4, L, .int y :: .int x :: st, M) = some (5, L, .int (x ||| y) :: st, M) := st_ior q27_4
theorem x27_4 {L : pj_Loc} {st : List Value} {M : pj_Mem} {x y : Int32} {o9 : Option Value × pj_Mem} : pj_Ends 27 (4, L, .int y :: .int x :: st, M) o9 = pj_Ends 27 (5, L, .int (x ||| y) :: st, M) o9 := pj_xs (s27_4)
theorem q27_5 : pj_row 27 5 = some (.ireturn, 1, 0, 0, 0) := by decide +kernel
theorem t27_5 {L : pj_Loc} {M : pj_Mem} {v : Int32} : pj_Ends 27 (5, L, [.int v], M) (some (.int v), M) := pj_Ends.ret q27_5 (pj_rtn_i rt27)
theorem rt28 : pj_rt 28 = none := rfl
theorem q28_0 : pj_row 28 0 = some (.aload_n 1, 1, 0, 0, 0) := by decide +kernel
theorem s28_0 {st : List Value} {M : pj_Mem} {l : pj_Loc} {a0 : Option Value} {x : Nat} : pj_step 28 (0, a0 :: some (.ref x) :: l, st, M) = some (1, a0 :: some (.ref x) :: l, .ref x :: st, M) := st_aload_n q28_0 rfl
theorem x28_0 {st : List Value} {M : pj_Mem} {l : pj_Loc} {a0 : Option Value} {x : Nat} {o9 : Option Value × pj_Mem} : pj_Ends 28 (0, a0 :: some (.ref x) :: l, st, M) o9 = pj_Ends 28 (1, a0 :: some (.ref x) :: l, .ref x :: st, M) o9 := pj_xs (s28_0)
theorem q28_1 : pj_row 28 1 = some (.getfield 123, 3, 4, 5, 0) := by decide +kernel
theorem s28_1 {L : pj_Loc} {st : List Value} {N S : Nat} {H : pj_Heap} {o : Nat} : pj_step 28 (1, L, .ref o :: st, (N, S, H)) = pj_pv 4 L st (N, S, H) (pj_fld (H o) 4 5) := st_getfield q28_1
theorem x28_1 {L : pj_Loc} {st : List Value} {N S : Nat} {H : pj_Heap} {o : Nat} {o9 : Option Value × pj_Mem} : pj_Ends 28 (1, L, .ref o :: st, (N, S, H)) o9 = pj_then 28 o9 (pj_pv 4 L st (N, S, H) (pj_fld (H o) 4 5)) := pj_xt q28_1 rfl (pj_cl_nc rfl) (s28_1)
theorem q28_4 : pj_row 28 4 = some (.iconst 0, 1, 0, 0, 0) := by decide +kernel
theorem s28_4 {L : pj_Loc} {st : List Value} {M : pj_Mem}  : pj_step 28 (4, L, st, M) = some (5, L, .int 0 :: st, M) := st_iconst q28_4 (by decide +kernel)
theorem x28_4 {L : pj_Loc} {st : List Value} {M : pj_Mem}  {o9 : Option Value × pj_Mem} : pj_Ends 28 (4, L, st, M) o9 = pj_Ends 28 (5, L, .int 0 :: st, M) o9 := pj_xs (s28_4)
theorem q28_5 : pj_row 28 5 = some (.aload_n 0, 1, 0, 0, 0) := by decide +kernel
theorem s28_5 {st : List Value} {M : pj_Mem} {l : pj_Loc} {x : Nat} : pj_step 28 (5, some (.ref x) :: l, st, M) = some (6, some (.ref x) :: l, .ref x :: st, M) := st_aload_n q28_5 rfl
theorem x28_5 {st : List Value} {M : pj_Mem} {l : pj_Loc} {x : Nat} {o9 : Option Value × pj_Mem} : pj_Ends 28 (5, some (.ref x) :: l, st, M) o9 = pj_Ends 28 (6, some (.ref x) :: l, .ref x :: st, M) o9 := pj_xs (s28_5)
theorem q28_6 : pj_row 28 6 = some (.getfield 27, 3, 3, 5, 0) := by decide +kernel
theorem s28_6 {L : pj_Loc} {st : List Value} {N S : Nat} {H : pj_Heap} {o : Nat} : pj_step 28 (6, L, .ref o :: st, (N, S, H)) = pj_pv 9 L st (N, S, H) (pj_fld (H o) 3 5) := st_getfield q28_6
theorem x28_6 {L : pj_Loc} {st : List Value} {N S : Nat} {H : pj_Heap} {o : Nat} {o9 : Option Value × pj_Mem} : pj_Ends 28 (6, L, .ref o :: st, (N, S, H)) o9 = pj_then 28 o9 (pj_pv 9 L st (N, S, H) (pj_fld (H o) 3 5)) := pj_xt q28_6 rfl (pj_cl_nc rfl) (s28_6)
theorem q28_9 : pj_row 28 9 = some (.iconst 0, 1, 0, 0, 0) := by decide +kernel
theorem s28_9 {L : pj_Loc} {st : List Value} {M : pj_Mem}  : pj_step 28 (9, L, st, M) = some (10, L, .int 0 :: st, M) := st_iconst q28_9 (by decide +kernel)
theorem x28_9 {L : pj_Loc} {st : List Value} {M : pj_Mem}  {o9 : Option Value × pj_Mem} : pj_Ends 28 (9, L, st, M) o9 = pj_Ends 28 (10, L, .int 0 :: st, M) o9 := pj_xs (s28_9)
theorem q28_10 : pj_row 28 10 = some (.iconst 3, 1, 0, 0, 0) := by decide +kernel
theorem s28_10 {L : pj_Loc} {st : List Value} {M : pj_Mem}  : pj_step 28 (10, L, st, M) = some (11, L, .int 3 :: st, M) := st_iconst q28_10 (by decide +kernel)
theorem x28_10 {L : pj_Loc} {st : List Value} {M : pj_Mem}  {o9 : Option Value × pj_Mem} : pj_Ends 28 (10, L, st, M) o9 = pj_Ends 28 (11, L, .int 3 :: st, M) o9 := pj_xs (s28_10)
theorem q28_11 : pj_row 28 11 = some (.invokestatic 124, 3, 0, 5, 3) := by decide +kernel
theorem s28_11 {L : pj_Loc} {st : List Value} {N S : Nat} {H : pj_Heap} {d o : Nat} {n dp sp : Int32} : pj_step 28 (11, L, .int n :: .int dp :: .ref d :: .int sp :: .ref o :: st, (N, S, H)) = pj_g4 st (pj_set 14 L st (N, S, H) d (pj_cas (H o) (H d) sp dp n)) := st_acp q28_11
theorem x28_11 {L : pj_Loc} {st : List Value} {N S : Nat} {H : pj_Heap} {d o : Nat} {n dp sp : Int32} {o9 : Option Value × pj_Mem} : pj_Ends 28 (11, L, .int n :: .int dp :: .ref d :: .int sp :: .ref o :: st, (N, S, H)) o9 = pj_then 28 o9 (pj_g4 st (pj_set 14 L st (N, S, H) d (pj_cas (H o) (H d) sp dp n))) := pj_xt q28_11 rfl rfl (s28_11)
theorem q28_14 : pj_row 28 14 = some (.aload_n 0, 1, 0, 0, 0) := by decide +kernel
theorem s28_14 {st : List Value} {M : pj_Mem} {l : pj_Loc} {x : Nat} : pj_step 28 (14, some (.ref x) :: l, st, M) = some (15, some (.ref x) :: l, .ref x :: st, M) := st_aload_n q28_14 rfl
theorem x28_14 {st : List Value} {M : pj_Mem} {l : pj_Loc} {x : Nat} {o9 : Option Value × pj_Mem} : pj_Ends 28 (14, some (.ref x) :: l, st, M) o9 = pj_Ends 28 (15, some (.ref x) :: l, .ref x :: st, M) o9 := pj_xs (s28_14)
theorem q28_15 : pj_row 28 15 = some (.iconst 0, 1, 0, 0, 0) := by decide +kernel
theorem s28_15 {L : pj_Loc} {st : List Value} {M : pj_Mem}  : pj_step 28 (15, L, st, M) = some (16, L, .int 0 :: st, M) := st_iconst q28_15 (by decide +kernel)
theorem x28_15 {L : pj_Loc} {st : List Value} {M : pj_Mem}  {o9 : Option Value × pj_Mem} : pj_Ends 28 (15, L, st, M) o9 = pj_Ends 28 (16, L, .int 0 :: st, M) o9 := pj_xs (s28_15)
theorem q28_16 : pj_row 28 16 = some (.putfield 130, 3, 3, 13, 0) := by decide +kernel
theorem s28_16 {L : pj_Loc} {st : List Value} {N S : Nat} {H : pj_Heap} {o : Nat} {v : Value} : pj_step 28 (16, L, v :: .ref o :: st, (N, S, H)) = pj_set 19 L st (N, S, H) o (pj_fset (H o) 3 13 v) := st_putfield q28_16
theorem x28_16 {L : pj_Loc} {st : List Value} {N S : Nat} {H : pj_Heap} {o : Nat} {v : Value} {o9 : Option Value × pj_Mem} : pj_Ends 28 (16, L, v :: .ref o :: st, (N, S, H)) o9 = pj_then 28 o9 (pj_set 19 L st (N, S, H) o (pj_fset (H o) 3 13 v)) := pj_xt q28_16 rfl (pj_cl_nc rfl) (s28_16)
theorem q28_19 : pj_row 28 19 = some (.aload_n 0, 1, 0, 0, 0) := by decide +kernel
theorem s28_19 {st : List Value} {M : pj_Mem} {l : pj_Loc} {x : Nat} : pj_step 28 (19, some (.ref x) :: l, st, M) = some (20, some (.ref x) :: l, .ref x :: st, M) := st_aload_n q28_19 rfl
theorem x28_19 {st : List Value} {M : pj_Mem} {l : pj_Loc} {x : Nat} {o9 : Option Value × pj_Mem} : pj_Ends 28 (19, some (.ref x) :: l, st, M) o9 = pj_Ends 28 (20, some (.ref x) :: l, .ref x :: st, M) o9 := pj_xs (s28_19)
theorem q28_20 : pj_row 28 20 = some (.getfield 72, 3, 3, 10, 0) := by decide +kernel
theorem s28_20 {L : pj_Loc} {st : List Value} {N S : Nat} {H : pj_Heap} {o : Nat} : pj_step 28 (20, L, .ref o :: st, (N, S, H)) = pj_pv 23 L st (N, S, H) (pj_fld (H o) 3 10) := st_getfield q28_20
theorem x28_20 {L : pj_Loc} {st : List Value} {N S : Nat} {H : pj_Heap} {o : Nat} {o9 : Option Value × pj_Mem} : pj_Ends 28 (20, L, .ref o :: st, (N, S, H)) o9 = pj_then 28 o9 (pj_pv 23 L st (N, S, H) (pj_fld (H o) 3 10)) := pj_xt q28_20 rfl (pj_cl_nc rfl) (s28_20)
theorem q28_23 : pj_row 28 23 = some (.ifCond .gt 4, 3, 27, 0, 0) := by decide +kernel
theorem s28_23 {L : pj_Loc} {st : List Value} {M : pj_Mem} {x : Int32} : pj_step 28 (23, L, .int x :: st, M) = some (if 0 < x then 27 else 26, L, st, M) := st_if_gt q28_23
theorem x28_23 {L : pj_Loc} {st : List Value} {M : pj_Mem} {x : Int32} {o9 : Option Value × pj_Mem} : pj_Ends 28 (23, L, .int x :: st, M) o9 = pj_Ends 28 (if 0 < x then 27 else 26, L, st, M) o9 := pj_xs (s28_23)
theorem q28_26 : pj_row 28 26 = some (.return_, 1, 0, 0, 0) := by decide +kernel
theorem t28_26 {L : pj_Loc} {M : pj_Mem} : pj_Ends 28 (26, L, [], M) (none, M) := pj_Ends.ret q28_26 (pj_rtn_v rt28)
theorem q28_27 : pj_row 28 27 = some (.iconst 0, 1, 0, 0, 0) := by decide +kernel
theorem s28_27 {L : pj_Loc} {st : List Value} {M : pj_Mem}  : pj_step 28 (27, L, st, M) = some (28, L, .int 0 :: st, M) := st_iconst q28_27 (by decide +kernel)
theorem x28_27 {L : pj_Loc} {st : List Value} {M : pj_Mem}  {o9 : Option Value × pj_Mem} : pj_Ends 28 (27, L, st, M) o9 = pj_Ends 28 (28, L, .int 0 :: st, M) o9 := pj_xs (s28_27)
theorem q28_28 : pj_row 28 28 = some (.istore_n 2, 1, 0, 0, 0) := by decide +kernel
theorem s28_28 {st : List Value} {M : pj_Mem} {l : pj_Loc} {a0 a1 a2 : Option Value} {x : Int32} (h : pj_long a1 = false) : pj_step 28 (28, a0 :: a1 :: a2 :: l, .int x :: st, M) = some (29, a0 :: a1 :: some (.int x) :: l, st, M) := st_istore_n q28_28 (pj_st_2 h)
theorem x28_28 {st : List Value} {M : pj_Mem} {l : pj_Loc} {a0 a1 a2 : Option Value} {x : Int32} (h : pj_long a1 = false) {o9 : Option Value × pj_Mem} : pj_Ends 28 (28, a0 :: a1 :: a2 :: l, .int x :: st, M) o9 = pj_Ends 28 (29, a0 :: a1 :: some (.int x) :: l, st, M) o9 := pj_xs (s28_28 h)
theorem q28_29 : pj_row 28 29 = some (.iload_n 2, 1, 0, 0, 0) := by decide +kernel
theorem s28_29 {st : List Value} {M : pj_Mem} {l : pj_Loc} {a0 a1 : Option Value} {x : Int32} : pj_step 28 (29, a0 :: a1 :: some (.int x) :: l, st, M) = some (30, a0 :: a1 :: some (.int x) :: l, .int x :: st, M) := st_iload_n q28_29 rfl
theorem x28_29 {st : List Value} {M : pj_Mem} {l : pj_Loc} {a0 a1 : Option Value} {x : Int32} {o9 : Option Value × pj_Mem} : pj_Ends 28 (29, a0 :: a1 :: some (.int x) :: l, st, M) o9 = pj_Ends 28 (30, a0 :: a1 :: some (.int x) :: l, .int x :: st, M) o9 := pj_xs (s28_29)
theorem q28_30 : pj_row 28 30 = some (.iconst 3, 1, 0, 0, 0) := by decide +kernel
theorem s28_30 {L : pj_Loc} {st : List Value} {M : pj_Mem}  : pj_step 28 (30, L, st, M) = some (31, L, .int 3 :: st, M) := st_iconst q28_30 (by decide +kernel)
theorem x28_30 {L : pj_Loc} {st : List Value} {M : pj_Mem}  {o9 : Option Value × pj_Mem} : pj_Ends 28 (30, L, st, M) o9 = pj_Ends 28 (31, L, .int 3 :: st, M) o9 := pj_xs (s28_30)
theorem q28_31 : pj_row 28 31 = some (.if_icmp .ge 62, 3, 93, 0, 0) := by decide +kernel
theorem s28_31 {L : pj_Loc} {st : List Value} {M : pj_Mem} {x y : Int32} : pj_step 28 (31, L, .int y :: .int x :: st, M) = some (if y ≤ x then 93 else 34, L, st, M) := st_icmp_ge q28_31
theorem x28_31 {L : pj_Loc} {st : List Value} {M : pj_Mem} {x y : Int32} {o9 : Option Value × pj_Mem} : pj_Ends 28 (31, L, .int y :: .int x :: st, M) o9 = pj_Ends 28 (if y ≤ x then 93 else 34, L, st, M) o9 := pj_xs (s28_31)
theorem q28_34 : pj_row 28 34 = some (.aload_n 0, 1, 0, 0, 0) := by decide +kernel
theorem s28_34 {st : List Value} {M : pj_Mem} {l : pj_Loc} {x : Nat} : pj_step 28 (34, some (.ref x) :: l, st, M) = some (35, some (.ref x) :: l, .ref x :: st, M) := st_aload_n q28_34 rfl
theorem x28_34 {st : List Value} {M : pj_Mem} {l : pj_Loc} {x : Nat} {o9 : Option Value × pj_Mem} : pj_Ends 28 (34, some (.ref x) :: l, st, M) o9 = pj_Ends 28 (35, some (.ref x) :: l, .ref x :: st, M) o9 := pj_xs (s28_34)
theorem q28_35 : pj_row 28 35 = some (.getfield 27, 3, 3, 5, 0) := by decide +kernel
theorem s28_35 {L : pj_Loc} {st : List Value} {N S : Nat} {H : pj_Heap} {o : Nat} : pj_step 28 (35, L, .ref o :: st, (N, S, H)) = pj_pv 38 L st (N, S, H) (pj_fld (H o) 3 5) := st_getfield q28_35
theorem x28_35 {L : pj_Loc} {st : List Value} {N S : Nat} {H : pj_Heap} {o : Nat} {o9 : Option Value × pj_Mem} : pj_Ends 28 (35, L, .ref o :: st, (N, S, H)) o9 = pj_then 28 o9 (pj_pv 38 L st (N, S, H) (pj_fld (H o) 3 5)) := pj_xt q28_35 rfl (pj_cl_nc rfl) (s28_35)
theorem q28_38 : pj_row 28 38 = some (.iload_n 2, 1, 0, 0, 0) := by decide +kernel
theorem s28_38 {st : List Value} {M : pj_Mem} {l : pj_Loc} {a0 a1 : Option Value} {x : Int32} : pj_step 28 (38, a0 :: a1 :: some (.int x) :: l, st, M) = some (39, a0 :: a1 :: some (.int x) :: l, .int x :: st, M) := st_iload_n q28_38 rfl
theorem x28_38 {st : List Value} {M : pj_Mem} {l : pj_Loc} {a0 a1 : Option Value} {x : Int32} {o9 : Option Value × pj_Mem} : pj_Ends 28 (38, a0 :: a1 :: some (.int x) :: l, st, M) o9 = pj_Ends 28 (39, a0 :: a1 :: some (.int x) :: l, .int x :: st, M) o9 := pj_xs (s28_38)
theorem q28_39 : pj_row 28 39 = some (.iaload, 1, 0, 0, 0) := by decide +kernel
theorem s28_39 {L : pj_Loc} {st : List Value} {N S : Nat} {H : pj_Heap} {o : Nat} {i : Int32} : pj_step 28 (39, L, .int i :: .ref o :: st, (N, S, H)) = pj_pi 40 L st (N, S, H) (pj_arl (H o) 0 i) := st_iaload q28_39
theorem x28_39 {L : pj_Loc} {st : List Value} {N S : Nat} {H : pj_Heap} {o : Nat} {i : Int32} {o9 : Option Value × pj_Mem} : pj_Ends 28 (39, L, .int i :: .ref o :: st, (N, S, H)) o9 = pj_then 28 o9 (pj_pi 40 L st (N, S, H) (pj_arl (H o) 0 i)) := pj_xt q28_39 rfl (pj_cl_nc rfl) (s28_39)
theorem q28_40 : pj_row 28 40 = some (.bipush (-6), 2, 0, 0, 0) := by decide +kernel
theorem s28_40 {L : pj_Loc} {st : List Value} {M : pj_Mem}  : pj_step 28 (40, L, st, M) = some (42, L, .int (-6) :: st, M) := st_bipush q28_40 (by decide +kernel)
theorem x28_40 {L : pj_Loc} {st : List Value} {M : pj_Mem}  {o9 : Option Value × pj_Mem} : pj_Ends 28 (40, L, st, M) o9 = pj_Ends 28 (42, L, .int (-6) :: st, M) o9 := pj_xs (s28_40)
theorem q28_42 : pj_row 28 42 = some (.if_icmp .ne 45, 3, 87, 0, 0) := by decide +kernel
theorem s28_42 {L : pj_Loc} {st : List Value} {M : pj_Mem} {x y : Int32} : pj_step 28 (42, L, .int y :: .int x :: st, M) = some (if ¬ x = y then 87 else 45, L, st, M) := st_icmp_ne q28_42
theorem x28_42 {L : pj_Loc} {st : List Value} {M : pj_Mem} {x y : Int32} {o9 : Option Value × pj_Mem} : pj_Ends 28 (42, L, .int y :: .int x :: st, M) o9 = pj_Ends 28 (if ¬ x = y then 87 else 45, L, st, M) o9 := pj_xs (s28_42)
theorem q28_45 : pj_row 28 45 = some (.aload_n 1, 1, 0, 0, 0) := by decide +kernel
theorem s28_45 {st : List Value} {M : pj_Mem} {l : pj_Loc} {a0 : Option Value} {x : Nat} : pj_step 28 (45, a0 :: some (.ref x) :: l, st, M) = some (46, a0 :: some (.ref x) :: l, .ref x :: st, M) := st_aload_n q28_45 rfl
theorem x28_45 {st : List Value} {M : pj_Mem} {l : pj_Loc} {a0 : Option Value} {x : Nat} {o9 : Option Value × pj_Mem} : pj_Ends 28 (45, a0 :: some (.ref x) :: l, st, M) o9 = pj_Ends 28 (46, a0 :: some (.ref x) :: l, .ref x :: st, M) o9 := pj_xs (s28_45)
theorem q28_46 : pj_row 28 46 = some (.getfield 133, 3, 4, 8, 0) := by decide +kernel
theorem s28_46 {L : pj_Loc} {st : List Value} {N S : Nat} {H : pj_Heap} {o : Nat} : pj_step 28 (46, L, .ref o :: st, (N, S, H)) = pj_pv 49 L st (N, S, H) (pj_fld (H o) 4 8) := st_getfield q28_46
theorem x28_46 {L : pj_Loc} {st : List Value} {N S : Nat} {H : pj_Heap} {o : Nat} {o9 : Option Value × pj_Mem} : pj_Ends 28 (46, L, .ref o :: st, (N, S, H)) o9 = pj_then 28 o9 (pj_pv 49 L st (N, S, H) (pj_fld (H o) 4 8)) := pj_xt q28_46 rfl (pj_cl_nc rfl) (s28_46)
theorem q28_49 : pj_row 28 49 = some (.iload_n 2, 1, 0, 0, 0) := by decide +kernel
theorem s28_49 {st : List Value} {M : pj_Mem} {l : pj_Loc} {a0 a1 : Option Value} {x : Int32} : pj_step 28 (49, a0 :: a1 :: some (.int x) :: l, st, M) = some (50, a0 :: a1 :: some (.int x) :: l, .int x :: st, M) := st_iload_n q28_49 rfl
theorem x28_49 {st : List Value} {M : pj_Mem} {l : pj_Loc} {a0 a1 : Option Value} {x : Int32} {o9 : Option Value × pj_Mem} : pj_Ends 28 (49, a0 :: a1 :: some (.int x) :: l, st, M) o9 = pj_Ends 28 (50, a0 :: a1 :: some (.int x) :: l, .int x :: st, M) o9 := pj_xs (s28_49)
theorem q28_50 : pj_row 28 50 = some (.invokestatic 109, 3, 21, 2, 1) := by decide +kernel
theorem e28_50 {L : pj_Loc} {st : List Value} {N S : Nat} {H : pj_Heap} {o : Option Value × pj_Mem} {M' : pj_Mem} {x0 : Int32} {x1 : Int32} {r : Int32} (h4 : pj_le4 st = true) (h1 : pj_Ends 21 (0, [some (.int x0), some (.int x1)], [], (N, S, H)) (some (.int r), M')) (h2 : pj_Ends 28 (53, L, .int r :: st, M') o) : pj_Ends 28 (50, L, .int x1 :: .int x0 :: st, (N, S, H)) o := ec_s2 q28_50 (Or.inr rfl) h4 rfl h1 h2
theorem q28_53 : pj_row 28 53 = some (.ifCond .ne 34, 3, 87, 0, 0) := by decide +kernel
theorem s28_53 {L : pj_Loc} {st : List Value} {M : pj_Mem} {x : Int32} : pj_step 28 (53, L, .int x :: st, M) = some (if ¬ x = 0 then 87 else 56, L, st, M) := st_if_ne q28_53
theorem x28_53 {L : pj_Loc} {st : List Value} {M : pj_Mem} {x : Int32} {o9 : Option Value × pj_Mem} : pj_Ends 28 (53, L, .int x :: st, M) o9 = pj_Ends 28 (if ¬ x = 0 then 87 else 56, L, st, M) o9 := pj_xs (s28_53)
theorem q28_56 : pj_row 28 56 = some (.aload_n 0, 1, 0, 0, 0) := by decide +kernel
theorem s28_56 {st : List Value} {M : pj_Mem} {l : pj_Loc} {x : Nat} : pj_step 28 (56, some (.ref x) :: l, st, M) = some (57, some (.ref x) :: l, .ref x :: st, M) := st_aload_n q28_56 rfl
theorem x28_56 {st : List Value} {M : pj_Mem} {l : pj_Loc} {x : Nat} {o9 : Option Value × pj_Mem} : pj_Ends 28 (56, some (.ref x) :: l, st, M) o9 = pj_Ends 28 (57, some (.ref x) :: l, .ref x :: st, M) o9 := pj_xs (s28_56)
theorem q28_57 : pj_row 28 57 = some (.aload_n 1, 1, 0, 0, 0) := by decide +kernel
theorem s28_57 {st : List Value} {M : pj_Mem} {l : pj_Loc} {a0 : Option Value} {x : Nat} : pj_step 28 (57, a0 :: some (.ref x) :: l, st, M) = some (58, a0 :: some (.ref x) :: l, .ref x :: st, M) := st_aload_n q28_57 rfl
theorem x28_57 {st : List Value} {M : pj_Mem} {l : pj_Loc} {a0 : Option Value} {x : Nat} {o9 : Option Value × pj_Mem} : pj_Ends 28 (57, a0 :: some (.ref x) :: l, st, M) o9 = pj_Ends 28 (58, a0 :: some (.ref x) :: l, .ref x :: st, M) o9 := pj_xs (s28_57)
theorem q28_58 : pj_row 28 58 = some (.iload_n 2, 1, 0, 0, 0) := by decide +kernel
theorem s28_58 {st : List Value} {M : pj_Mem} {l : pj_Loc} {a0 a1 : Option Value} {x : Int32} : pj_step 28 (58, a0 :: a1 :: some (.int x) :: l, st, M) = some (59, a0 :: a1 :: some (.int x) :: l, .int x :: st, M) := st_iload_n q28_58 rfl
theorem x28_58 {st : List Value} {M : pj_Mem} {l : pj_Loc} {a0 a1 : Option Value} {x : Int32} {o9 : Option Value × pj_Mem} : pj_Ends 28 (58, a0 :: a1 :: some (.int x) :: l, st, M) o9 = pj_Ends 28 (59, a0 :: a1 :: some (.int x) :: l, .int x :: st, M) o9 := pj_xs (s28_58)
theorem q28_59 : pj_row 28 59 = some (.invokevirtual 136, 3, 29, 3, 0) := by decide +kernel
theorem e28_59 {L : pj_Loc} {st : List Value} {N S : Nat} {H : pj_Heap} {o : Option Value × pj_Mem} {M' : pj_Mem} {x0 : Nat} {x1 : Nat} {x2 : Int32} {r : Int32} (h4 : pj_le4 st = true) (hu : pj_isU 3 (H x0) = true) (h1 : pj_Ends 29 (0, [some (.ref x0), some (.ref x1), some (.int x2), none, none, none], [], (N, S, H)) (some (.int r), M')) (h2 : pj_Ends 28 (62, L, .int r :: st, M') o) : pj_Ends 28 (59, L, .int x2 :: .ref x1 :: .ref x0 :: st, (N, S, H)) o := ec_v3 q28_59 (Or.inl rfl) h4 hu rfl h1 h2
theorem q28_62 : pj_row 28 62 = some (.ifCond .eq 25, 3, 87, 0, 0) := by decide +kernel
theorem s28_62 {L : pj_Loc} {st : List Value} {M : pj_Mem} {x : Int32} : pj_step 28 (62, L, .int x :: st, M) = some (if x = 0 then 87 else 65, L, st, M) := st_if_eq q28_62
theorem x28_62 {L : pj_Loc} {st : List Value} {M : pj_Mem} {x : Int32} {o9 : Option Value × pj_Mem} : pj_Ends 28 (62, L, .int x :: st, M) o9 = pj_Ends 28 (if x = 0 then 87 else 65, L, st, M) o9 := pj_xs (s28_62)
theorem q28_65 : pj_row 28 65 = some (.aload_n 0, 1, 0, 0, 0) := by decide +kernel
theorem s28_65 {st : List Value} {M : pj_Mem} {l : pj_Loc} {x : Nat} : pj_step 28 (65, some (.ref x) :: l, st, M) = some (66, some (.ref x) :: l, .ref x :: st, M) := st_aload_n q28_65 rfl
theorem x28_65 {st : List Value} {M : pj_Mem} {l : pj_Loc} {x : Nat} {o9 : Option Value × pj_Mem} : pj_Ends 28 (65, some (.ref x) :: l, st, M) o9 = pj_Ends 28 (66, some (.ref x) :: l, .ref x :: st, M) o9 := pj_xs (s28_65)
theorem q28_66 : pj_row 28 66 = some (.getfield 27, 3, 3, 5, 0) := by decide +kernel
theorem s28_66 {L : pj_Loc} {st : List Value} {N S : Nat} {H : pj_Heap} {o : Nat} : pj_step 28 (66, L, .ref o :: st, (N, S, H)) = pj_pv 69 L st (N, S, H) (pj_fld (H o) 3 5) := st_getfield q28_66
theorem x28_66 {L : pj_Loc} {st : List Value} {N S : Nat} {H : pj_Heap} {o : Nat} {o9 : Option Value × pj_Mem} : pj_Ends 28 (66, L, .ref o :: st, (N, S, H)) o9 = pj_then 28 o9 (pj_pv 69 L st (N, S, H) (pj_fld (H o) 3 5)) := pj_xt q28_66 rfl (pj_cl_nc rfl) (s28_66)
theorem q28_69 : pj_row 28 69 = some (.iload_n 2, 1, 0, 0, 0) := by decide +kernel
theorem s28_69 {st : List Value} {M : pj_Mem} {l : pj_Loc} {a0 a1 : Option Value} {x : Int32} : pj_step 28 (69, a0 :: a1 :: some (.int x) :: l, st, M) = some (70, a0 :: a1 :: some (.int x) :: l, .int x :: st, M) := st_iload_n q28_69 rfl
theorem x28_69 {st : List Value} {M : pj_Mem} {l : pj_Loc} {a0 a1 : Option Value} {x : Int32} {o9 : Option Value × pj_Mem} : pj_Ends 28 (69, a0 :: a1 :: some (.int x) :: l, st, M) o9 = pj_Ends 28 (70, a0 :: a1 :: some (.int x) :: l, .int x :: st, M) o9 := pj_xs (s28_69)
theorem q28_70 : pj_row 28 70 = some (.aload_n 0, 1, 0, 0, 0) := by decide +kernel
theorem s28_70 {st : List Value} {M : pj_Mem} {l : pj_Loc} {x : Nat} : pj_step 28 (70, some (.ref x) :: l, st, M) = some (71, some (.ref x) :: l, .ref x :: st, M) := st_aload_n q28_70 rfl
theorem x28_70 {st : List Value} {M : pj_Mem} {l : pj_Loc} {x : Nat} {o9 : Option Value × pj_Mem} : pj_Ends 28 (70, some (.ref x) :: l, st, M) o9 = pj_Ends 28 (71, some (.ref x) :: l, .ref x :: st, M) o9 := pj_xs (s28_70)
theorem q28_71 : pj_row 28 71 = some (.getfield 36, 3, 3, 7, 0) := by decide +kernel
theorem s28_71 {L : pj_Loc} {st : List Value} {N S : Nat} {H : pj_Heap} {o : Nat} : pj_step 28 (71, L, .ref o :: st, (N, S, H)) = pj_pv 74 L st (N, S, H) (pj_fld (H o) 3 7) := st_getfield q28_71
theorem x28_71 {L : pj_Loc} {st : List Value} {N S : Nat} {H : pj_Heap} {o : Nat} {o9 : Option Value × pj_Mem} : pj_Ends 28 (71, L, .ref o :: st, (N, S, H)) o9 = pj_then 28 o9 (pj_pv 74 L st (N, S, H) (pj_fld (H o) 3 7)) := pj_xt q28_71 rfl (pj_cl_nc rfl) (s28_71)
theorem q28_74 : pj_row 28 74 = some (.iastore, 1, 0, 0, 0) := by decide +kernel
theorem s28_74 {L : pj_Loc} {st : List Value} {N S : Nat} {H : pj_Heap} {o : Nat} {i x : Int32} : pj_step 28 (74, L, .int x :: .int i :: .ref o :: st, (N, S, H)) = pj_set 75 L st (N, S, H) o (pj_ars (H o) 0 i x) := st_iastore q28_74
theorem x28_74 {L : pj_Loc} {st : List Value} {N S : Nat} {H : pj_Heap} {o : Nat} {i x : Int32} {o9 : Option Value × pj_Mem} : pj_Ends 28 (74, L, .int x :: .int i :: .ref o :: st, (N, S, H)) o9 = pj_then 28 o9 (pj_set 75 L st (N, S, H) o (pj_ars (H o) 0 i x)) := pj_xt q28_74 rfl (pj_cl_nc rfl) (s28_74)
theorem q28_75 : pj_row 28 75 = some (.aload_n 0, 1, 0, 0, 0) := by decide +kernel
theorem s28_75 {st : List Value} {M : pj_Mem} {l : pj_Loc} {x : Nat} : pj_step 28 (75, some (.ref x) :: l, st, M) = some (76, some (.ref x) :: l, .ref x :: st, M) := st_aload_n q28_75 rfl
theorem x28_75 {st : List Value} {M : pj_Mem} {l : pj_Loc} {x : Nat} {o9 : Option Value × pj_Mem} : pj_Ends 28 (75, some (.ref x) :: l, st, M) o9 = pj_Ends 28 (76, some (.ref x) :: l, .ref x :: st, M) o9 := pj_xs (s28_75)
theorem q28_76 : pj_row 28 76 = some (.aload_n 0, 1, 0, 0, 0) := by decide +kernel
theorem s28_76 {st : List Value} {M : pj_Mem} {l : pj_Loc} {x : Nat} : pj_step 28 (76, some (.ref x) :: l, st, M) = some (77, some (.ref x) :: l, .ref x :: st, M) := st_aload_n q28_76 rfl
theorem x28_76 {st : List Value} {M : pj_Mem} {l : pj_Loc} {x : Nat} {o9 : Option Value × pj_Mem} : pj_Ends 28 (76, some (.ref x) :: l, st, M) o9 = pj_Ends 28 (77, some (.ref x) :: l, .ref x :: st, M) o9 := pj_xs (s28_76)
theorem q28_77 : pj_row 28 77 = some (.getfield 130, 3, 3, 13, 0) := by decide +kernel
theorem s28_77 {L : pj_Loc} {st : List Value} {N S : Nat} {H : pj_Heap} {o : Nat} : pj_step 28 (77, L, .ref o :: st, (N, S, H)) = pj_pv 80 L st (N, S, H) (pj_fld (H o) 3 13) := st_getfield q28_77
theorem x28_77 {L : pj_Loc} {st : List Value} {N S : Nat} {H : pj_Heap} {o : Nat} {o9 : Option Value × pj_Mem} : pj_Ends 28 (77, L, .ref o :: st, (N, S, H)) o9 = pj_then 28 o9 (pj_pv 80 L st (N, S, H) (pj_fld (H o) 3 13)) := pj_xt q28_77 rfl (pj_cl_nc rfl) (s28_77)
theorem q28_80 : pj_row 28 80 = some (.iload_n 2, 1, 0, 0, 0) := by decide +kernel
theorem s28_80 {st : List Value} {M : pj_Mem} {l : pj_Loc} {a0 a1 : Option Value} {x : Int32} : pj_step 28 (80, a0 :: a1 :: some (.int x) :: l, st, M) = some (81, a0 :: a1 :: some (.int x) :: l, .int x :: st, M) := st_iload_n q28_80 rfl
theorem x28_80 {st : List Value} {M : pj_Mem} {l : pj_Loc} {a0 a1 : Option Value} {x : Int32} {o9 : Option Value × pj_Mem} : pj_Ends 28 (80, a0 :: a1 :: some (.int x) :: l, st, M) o9 = pj_Ends 28 (81, a0 :: a1 :: some (.int x) :: l, .int x :: st, M) o9 := pj_xs (s28_80)
theorem q28_81 : pj_row 28 81 = some (.invokestatic 120, 3, 27, 2, 1) := by decide +kernel
theorem e28_81 {L : pj_Loc} {st : List Value} {N S : Nat} {H : pj_Heap} {o : Option Value × pj_Mem} {M' : pj_Mem} {x0 : Int32} {x1 : Int32} {r : Int32} (h4 : pj_le4 st = true) (h1 : pj_Ends 27 (0, [some (.int x0), some (.int x1)], [], (N, S, H)) (some (.int r), M')) (h2 : pj_Ends 28 (84, L, .int r :: st, M') o) : pj_Ends 28 (81, L, .int x1 :: .int x0 :: st, (N, S, H)) o := ec_s2 q28_81 (Or.inr rfl) h4 rfl h1 h2
theorem q28_84 : pj_row 28 84 = some (.putfield 130, 3, 3, 13, 0) := by decide +kernel
theorem s28_84 {L : pj_Loc} {st : List Value} {N S : Nat} {H : pj_Heap} {o : Nat} {v : Value} : pj_step 28 (84, L, v :: .ref o :: st, (N, S, H)) = pj_set 87 L st (N, S, H) o (pj_fset (H o) 3 13 v) := st_putfield q28_84
theorem x28_84 {L : pj_Loc} {st : List Value} {N S : Nat} {H : pj_Heap} {o : Nat} {v : Value} {o9 : Option Value × pj_Mem} : pj_Ends 28 (84, L, v :: .ref o :: st, (N, S, H)) o9 = pj_then 28 o9 (pj_set 87 L st (N, S, H) o (pj_fset (H o) 3 13 v)) := pj_xt q28_84 rfl (pj_cl_nc rfl) (s28_84)
theorem q28_87 : pj_row 28 87 = some (.iinc 2 1, 3, 0, 0, 0) := by decide +kernel
theorem s28_87 {st : List Value} {M : pj_Mem} {l : pj_Loc} {a0 a1 : Option Value} {x : Int32} (h : pj_long a1 = false) : pj_step 28 (87, a0 :: a1 :: some (.int x) :: l, st, M) = some (90, a0 :: a1 :: some (.int (x + 1)) :: l, st, M) := st_iinc q28_87 rfl (congrArg (fun y => x + y) (show Int32.ofInt 1 = 1 by decide +kernel)) (pj_st_2 h)
theorem x28_87 {st : List Value} {M : pj_Mem} {l : pj_Loc} {a0 a1 : Option Value} {x : Int32} (h : pj_long a1 = false) {o9 : Option Value × pj_Mem} : pj_Ends 28 (87, a0 :: a1 :: some (.int x) :: l, st, M) o9 = pj_Ends 28 (90, a0 :: a1 :: some (.int (x + 1)) :: l, st, M) o9 := pj_xs (s28_87 h)
theorem q28_90 : pj_row 28 90 = some (.goto (-61), 3, 29, 0, 0) := by decide +kernel
theorem s28_90 {L : pj_Loc} {st : List Value} {M : pj_Mem}  : pj_step 28 (90, L, st, M) = some (29, L, st, M) := st_goto q28_90
theorem x28_90 {L : pj_Loc} {st : List Value} {M : pj_Mem}  {o9 : Option Value × pj_Mem} : pj_Ends 28 (90, L, st, M) o9 = pj_Ends 28 (29, L, st, M) o9 := pj_xs (s28_90)
theorem q28_93 : pj_row 28 93 = some (.return_, 1, 0, 0, 0) := by decide +kernel
theorem t28_93 {L : pj_Loc} {M : pj_Mem} : pj_Ends 28 (93, L, [], M) (none, M) := pj_Ends.ret q28_93 (pj_rtn_v rt28)
theorem rt29 : pj_rt 29 = some .boolean := rfl
theorem q29_0 : pj_row 29 0 = some (.aload_n 1, 1, 0, 0, 0) := by decide +kernel
theorem s29_0 {st : List Value} {M : pj_Mem} {l : pj_Loc} {a0 : Option Value} {x : Nat} : pj_step 29 (0, a0 :: some (.ref x) :: l, st, M) = some (1, a0 :: some (.ref x) :: l, .ref x :: st, M) := st_aload_n q29_0 rfl
theorem x29_0 {st : List Value} {M : pj_Mem} {l : pj_Loc} {a0 : Option Value} {x : Nat} {o9 : Option Value × pj_Mem} : pj_Ends 29 (0, a0 :: some (.ref x) :: l, st, M) o9 = pj_Ends 29 (1, a0 :: some (.ref x) :: l, .ref x :: st, M) o9 := pj_xs (s29_0)
theorem q29_1 : pj_row 29 1 = some (.getfield 50, 3, 4, 0, 0) := by decide +kernel
theorem s29_1 {L : pj_Loc} {st : List Value} {N S : Nat} {H : pj_Heap} {o : Nat} : pj_step 29 (1, L, .ref o :: st, (N, S, H)) = pj_pv 4 L st (N, S, H) (pj_fld (H o) 4 0) := st_getfield q29_1
theorem x29_1 {L : pj_Loc} {st : List Value} {N S : Nat} {H : pj_Heap} {o : Nat} {o9 : Option Value × pj_Mem} : pj_Ends 29 (1, L, .ref o :: st, (N, S, H)) o9 = pj_then 29 o9 (pj_pv 4 L st (N, S, H) (pj_fld (H o) 4 0)) := pj_xt q29_1 rfl (pj_cl_nc rfl) (s29_1)
theorem q29_4 : pj_row 29 4 = some (.iconst 5, 1, 0, 0, 0) := by decide +kernel
theorem s29_4 {L : pj_Loc} {st : List Value} {M : pj_Mem}  : pj_step 29 (4, L, st, M) = some (5, L, .int 5 :: st, M) := st_iconst q29_4 (by decide +kernel)
theorem x29_4 {L : pj_Loc} {st : List Value} {M : pj_Mem}  {o9 : Option Value × pj_Mem} : pj_Ends 29 (4, L, st, M) o9 = pj_Ends 29 (5, L, .int 5 :: st, M) o9 := pj_xs (s29_4)
theorem q29_5 : pj_row 29 5 = some (.iaload, 1, 0, 0, 0) := by decide +kernel
theorem s29_5 {L : pj_Loc} {st : List Value} {N S : Nat} {H : pj_Heap} {o : Nat} {i : Int32} : pj_step 29 (5, L, .int i :: .ref o :: st, (N, S, H)) = pj_pi 6 L st (N, S, H) (pj_arl (H o) 0 i) := st_iaload q29_5
theorem x29_5 {L : pj_Loc} {st : List Value} {N S : Nat} {H : pj_Heap} {o : Nat} {i : Int32} {o9 : Option Value × pj_Mem} : pj_Ends 29 (5, L, .int i :: .ref o :: st, (N, S, H)) o9 = pj_then 29 o9 (pj_pi 6 L st (N, S, H) (pj_arl (H o) 0 i)) := pj_xt q29_5 rfl (pj_cl_nc rfl) (s29_5)
theorem q29_6 : pj_row 29 6 = some (.istore_n 3, 1, 0, 0, 0) := by decide +kernel
theorem s29_6 {st : List Value} {M : pj_Mem} {l : pj_Loc} {a0 a1 a2 a3 : Option Value} {x : Int32} (h : pj_long a2 = false) : pj_step 29 (6, a0 :: a1 :: a2 :: a3 :: l, .int x :: st, M) = some (7, a0 :: a1 :: a2 :: some (.int x) :: l, st, M) := st_istore_n q29_6 (pj_st_3 h)
theorem x29_6 {st : List Value} {M : pj_Mem} {l : pj_Loc} {a0 a1 a2 a3 : Option Value} {x : Int32} (h : pj_long a2 = false) {o9 : Option Value × pj_Mem} : pj_Ends 29 (6, a0 :: a1 :: a2 :: a3 :: l, .int x :: st, M) o9 = pj_Ends 29 (7, a0 :: a1 :: a2 :: some (.int x) :: l, st, M) o9 := pj_xs (s29_6 h)
theorem q29_7 : pj_row 29 7 = some (.aload_n 0, 1, 0, 0, 0) := by decide +kernel
theorem s29_7 {st : List Value} {M : pj_Mem} {l : pj_Loc} {x : Nat} : pj_step 29 (7, some (.ref x) :: l, st, M) = some (8, some (.ref x) :: l, .ref x :: st, M) := st_aload_n q29_7 rfl
theorem x29_7 {st : List Value} {M : pj_Mem} {l : pj_Loc} {x : Nat} {o9 : Option Value × pj_Mem} : pj_Ends 29 (7, some (.ref x) :: l, st, M) o9 = pj_Ends 29 (8, some (.ref x) :: l, .ref x :: st, M) o9 := pj_xs (s29_7)
theorem q29_8 : pj_row 29 8 = some (.getfield 77, 3, 3, 11, 0) := by decide +kernel
theorem s29_8 {L : pj_Loc} {st : List Value} {N S : Nat} {H : pj_Heap} {o : Nat} : pj_step 29 (8, L, .ref o :: st, (N, S, H)) = pj_pv 11 L st (N, S, H) (pj_fld (H o) 3 11) := st_getfield q29_8
theorem x29_8 {L : pj_Loc} {st : List Value} {N S : Nat} {H : pj_Heap} {o : Nat} {o9 : Option Value × pj_Mem} : pj_Ends 29 (8, L, .ref o :: st, (N, S, H)) o9 = pj_then 29 o9 (pj_pv 11 L st (N, S, H) (pj_fld (H o) 3 11)) := pj_xt q29_8 rfl (pj_cl_nc rfl) (s29_8)
theorem q29_11 : pj_row 29 11 = some (.invokestatic 140, 3, 30, 1, 0) := by decide +kernel
theorem e29_11 {L : pj_Loc} {st : List Value} {N S : Nat} {H : pj_Heap} {o : Option Value × pj_Mem} {M' : pj_Mem} {x0 : Int32} {r : Int32} (h4 : pj_le4 st = true) (h1 : pj_Ends 30 (0, [some (.int x0)], [], (N, S, H)) (some (.int r), M')) (h2 : pj_Ends 29 (14, L, .int r :: st, M') o) : pj_Ends 29 (11, L, .int x0 :: st, (N, S, H)) o := ec_s1 q29_11 (Or.inl rfl) h4 rfl h1 h2
theorem q29_14 : pj_row 29 14 = some (.iconst 2, 1, 0, 0, 0) := by decide +kernel
theorem s29_14 {L : pj_Loc} {st : List Value} {M : pj_Mem}  : pj_step 29 (14, L, st, M) = some (15, L, .int 2 :: st, M) := st_iconst q29_14 (by decide +kernel)
theorem x29_14 {L : pj_Loc} {st : List Value} {M : pj_Mem}  {o9 : Option Value × pj_Mem} : pj_Ends 29 (14, L, st, M) o9 = pj_Ends 29 (15, L, .int 2 :: st, M) o9 := pj_xs (s29_14)
theorem q29_15 : pj_row 29 15 = some (.if_icmp .lt 7, 3, 22, 0, 0) := by decide +kernel
theorem s29_15 {L : pj_Loc} {st : List Value} {M : pj_Mem} {x y : Int32} : pj_step 29 (15, L, .int y :: .int x :: st, M) = some (if x < y then 22 else 18, L, st, M) := st_icmp_lt q29_15
theorem x29_15 {L : pj_Loc} {st : List Value} {M : pj_Mem} {x y : Int32} {o9 : Option Value × pj_Mem} : pj_Ends 29 (15, L, .int y :: .int x :: st, M) o9 = pj_Ends 29 (if x < y then 22 else 18, L, st, M) o9 := pj_xs (s29_15)
theorem q29_18 : pj_row 29 18 = some (.iconst 1, 1, 0, 0, 0) := by decide +kernel
theorem s29_18 {L : pj_Loc} {st : List Value} {M : pj_Mem}  : pj_step 29 (18, L, st, M) = some (19, L, .int 1 :: st, M) := st_iconst q29_18 (by decide +kernel)
theorem x29_18 {L : pj_Loc} {st : List Value} {M : pj_Mem}  {o9 : Option Value × pj_Mem} : pj_Ends 29 (18, L, st, M) o9 = pj_Ends 29 (19, L, .int 1 :: st, M) o9 := pj_xs (s29_18)
theorem q29_19 : pj_row 29 19 = some (.goto 4, 3, 23, 0, 0) := by decide +kernel
theorem s29_19 {L : pj_Loc} {st : List Value} {M : pj_Mem}  : pj_step 29 (19, L, st, M) = some (23, L, st, M) := st_goto q29_19
theorem x29_19 {L : pj_Loc} {st : List Value} {M : pj_Mem}  {o9 : Option Value × pj_Mem} : pj_Ends 29 (19, L, st, M) o9 = pj_Ends 29 (23, L, st, M) o9 := pj_xs (s29_19)
theorem q29_22 : pj_row 29 22 = some (.iconst 0, 1, 0, 0, 0) := by decide +kernel
theorem s29_22 {L : pj_Loc} {st : List Value} {M : pj_Mem}  : pj_step 29 (22, L, st, M) = some (23, L, .int 0 :: st, M) := st_iconst q29_22 (by decide +kernel)
theorem x29_22 {L : pj_Loc} {st : List Value} {M : pj_Mem}  {o9 : Option Value × pj_Mem} : pj_Ends 29 (22, L, st, M) o9 = pj_Ends 29 (23, L, .int 0 :: st, M) o9 := pj_xs (s29_22)
theorem q29_23 : pj_row 29 23 = some (.istore 4, 2, 0, 0, 0) := by decide +kernel
theorem s29_23 {st : List Value} {M : pj_Mem} {l : pj_Loc} {a0 a1 a2 a3 a4 : Option Value} {x : Int32} (h : pj_long a3 = false) : pj_step 29 (23, a0 :: a1 :: a2 :: a3 :: a4 :: l, .int x :: st, M) = some (25, a0 :: a1 :: a2 :: a3 :: some (.int x) :: l, st, M) := st_istore q29_23 (pj_st_4 h)
theorem x29_23 {st : List Value} {M : pj_Mem} {l : pj_Loc} {a0 a1 a2 a3 a4 : Option Value} {x : Int32} (h : pj_long a3 = false) {o9 : Option Value × pj_Mem} : pj_Ends 29 (23, a0 :: a1 :: a2 :: a3 :: a4 :: l, .int x :: st, M) o9 = pj_Ends 29 (25, a0 :: a1 :: a2 :: a3 :: some (.int x) :: l, st, M) o9 := pj_xs (s29_23 h)
theorem q29_25 : pj_row 29 25 = some (.aload_n 0, 1, 0, 0, 0) := by decide +kernel
theorem s29_25 {st : List Value} {M : pj_Mem} {l : pj_Loc} {x : Nat} : pj_step 29 (25, some (.ref x) :: l, st, M) = some (26, some (.ref x) :: l, .ref x :: st, M) := st_aload_n q29_25 rfl
theorem x29_25 {st : List Value} {M : pj_Mem} {l : pj_Loc} {x : Nat} {o9 : Option Value × pj_Mem} : pj_Ends 29 (25, some (.ref x) :: l, st, M) o9 = pj_Ends 29 (26, some (.ref x) :: l, .ref x :: st, M) o9 := pj_xs (s29_25)
theorem q29_26 : pj_row 29 26 = some (.getfield 80, 3, 3, 12, 0) := by decide +kernel
theorem s29_26 {L : pj_Loc} {st : List Value} {N S : Nat} {H : pj_Heap} {o : Nat} : pj_step 29 (26, L, .ref o :: st, (N, S, H)) = pj_pv 29 L st (N, S, H) (pj_fld (H o) 3 12) := st_getfield q29_26
theorem x29_26 {L : pj_Loc} {st : List Value} {N S : Nat} {H : pj_Heap} {o : Nat} {o9 : Option Value × pj_Mem} : pj_Ends 29 (26, L, .ref o :: st, (N, S, H)) o9 = pj_then 29 o9 (pj_pv 29 L st (N, S, H) (pj_fld (H o) 3 12)) := pj_xt q29_26 rfl (pj_cl_nc rfl) (s29_26)
theorem q29_29 : pj_row 29 29 = some (.invokestatic 140, 3, 30, 1, 0) := by decide +kernel
theorem e29_29 {L : pj_Loc} {st : List Value} {N S : Nat} {H : pj_Heap} {o : Option Value × pj_Mem} {M' : pj_Mem} {x0 : Int32} {r : Int32} (h4 : pj_le4 st = true) (h1 : pj_Ends 30 (0, [some (.int x0)], [], (N, S, H)) (some (.int r), M')) (h2 : pj_Ends 29 (32, L, .int r :: st, M') o) : pj_Ends 29 (29, L, .int x0 :: st, (N, S, H)) o := ec_s1 q29_29 (Or.inl rfl) h4 rfl h1 h2
theorem q29_32 : pj_row 29 32 = some (.iconst 2, 1, 0, 0, 0) := by decide +kernel
theorem s29_32 {L : pj_Loc} {st : List Value} {M : pj_Mem}  : pj_step 29 (32, L, st, M) = some (33, L, .int 2 :: st, M) := st_iconst q29_32 (by decide +kernel)
theorem x29_32 {L : pj_Loc} {st : List Value} {M : pj_Mem}  {o9 : Option Value × pj_Mem} : pj_Ends 29 (32, L, st, M) o9 = pj_Ends 29 (33, L, .int 2 :: st, M) o9 := pj_xs (s29_32)
theorem q29_33 : pj_row 29 33 = some (.if_icmp .lt 7, 3, 40, 0, 0) := by decide +kernel
theorem s29_33 {L : pj_Loc} {st : List Value} {M : pj_Mem} {x y : Int32} : pj_step 29 (33, L, .int y :: .int x :: st, M) = some (if x < y then 40 else 36, L, st, M) := st_icmp_lt q29_33
theorem x29_33 {L : pj_Loc} {st : List Value} {M : pj_Mem} {x y : Int32} {o9 : Option Value × pj_Mem} : pj_Ends 29 (33, L, .int y :: .int x :: st, M) o9 = pj_Ends 29 (if x < y then 40 else 36, L, st, M) o9 := pj_xs (s29_33)
theorem q29_36 : pj_row 29 36 = some (.iconst 1, 1, 0, 0, 0) := by decide +kernel
theorem s29_36 {L : pj_Loc} {st : List Value} {M : pj_Mem}  : pj_step 29 (36, L, st, M) = some (37, L, .int 1 :: st, M) := st_iconst q29_36 (by decide +kernel)
theorem x29_36 {L : pj_Loc} {st : List Value} {M : pj_Mem}  {o9 : Option Value × pj_Mem} : pj_Ends 29 (36, L, st, M) o9 = pj_Ends 29 (37, L, .int 1 :: st, M) o9 := pj_xs (s29_36)
theorem q29_37 : pj_row 29 37 = some (.goto 4, 3, 41, 0, 0) := by decide +kernel
theorem s29_37 {L : pj_Loc} {st : List Value} {M : pj_Mem}  : pj_step 29 (37, L, st, M) = some (41, L, st, M) := st_goto q29_37
theorem x29_37 {L : pj_Loc} {st : List Value} {M : pj_Mem}  {o9 : Option Value × pj_Mem} : pj_Ends 29 (37, L, st, M) o9 = pj_Ends 29 (41, L, st, M) o9 := pj_xs (s29_37)
theorem q29_40 : pj_row 29 40 = some (.iconst 0, 1, 0, 0, 0) := by decide +kernel
theorem s29_40 {L : pj_Loc} {st : List Value} {M : pj_Mem}  : pj_step 29 (40, L, st, M) = some (41, L, .int 0 :: st, M) := st_iconst q29_40 (by decide +kernel)
theorem x29_40 {L : pj_Loc} {st : List Value} {M : pj_Mem}  {o9 : Option Value × pj_Mem} : pj_Ends 29 (40, L, st, M) o9 = pj_Ends 29 (41, L, .int 0 :: st, M) o9 := pj_xs (s29_40)
theorem q29_41 : pj_row 29 41 = some (.istore 5, 2, 0, 0, 0) := by decide +kernel
theorem s29_41 {st : List Value} {M : pj_Mem} {l : pj_Loc} {a0 a1 a2 a3 a4 a5 : Option Value} {x : Int32} (h : pj_long a4 = false) : pj_step 29 (41, a0 :: a1 :: a2 :: a3 :: a4 :: a5 :: l, .int x :: st, M) = some (43, a0 :: a1 :: a2 :: a3 :: a4 :: some (.int x) :: l, st, M) := st_istore q29_41 (pj_st_5 h)
theorem x29_41 {st : List Value} {M : pj_Mem} {l : pj_Loc} {a0 a1 a2 a3 a4 a5 : Option Value} {x : Int32} (h : pj_long a4 = false) {o9 : Option Value × pj_Mem} : pj_Ends 29 (41, a0 :: a1 :: a2 :: a3 :: a4 :: a5 :: l, .int x :: st, M) o9 = pj_Ends 29 (43, a0 :: a1 :: a2 :: a3 :: a4 :: some (.int x) :: l, st, M) o9 := pj_xs (s29_41 h)
theorem q29_43 : pj_row 29 43 = some (.iload_n 2, 1, 0, 0, 0) := by decide +kernel
theorem s29_43 {st : List Value} {M : pj_Mem} {l : pj_Loc} {a0 a1 : Option Value} {x : Int32} : pj_step 29 (43, a0 :: a1 :: some (.int x) :: l, st, M) = some (44, a0 :: a1 :: some (.int x) :: l, .int x :: st, M) := st_iload_n q29_43 rfl
theorem x29_43 {st : List Value} {M : pj_Mem} {l : pj_Loc} {a0 a1 : Option Value} {x : Int32} {o9 : Option Value × pj_Mem} : pj_Ends 29 (43, a0 :: a1 :: some (.int x) :: l, st, M) o9 = pj_Ends 29 (44, a0 :: a1 :: some (.int x) :: l, .int x :: st, M) o9 := pj_xs (s29_43)
theorem q29_44 : pj_row 29 44 = some (.tableswitch 82 0 2 #[28, 31, 62], 28, 0, 0, 0) := by decide +kernel
theorem s29_44 {L : pj_Loc} {st : List Value} {M : pj_Mem} {x : Int32} : pj_step 29 (44, L, .int x :: st, M) = some (if x = 0 then 72 else if x = 1 then 75 else if x = 2 then 106 else 126, L, st, M) := by
  rw [st_tsw q29_44]
  unfold pj_tsw
  by_cases hr : x.toInt < 0 ∨ 2 < x.toInt
  · simp only
    rw [if_pos hr]
    rw [if_neg (show ¬ x = 0 from fun e => by rw [e] at hr; revert hr; decide)]
    rw [if_neg (show ¬ x = 1 from fun e => by rw [e] at hr; revert hr; decide)]
    rw [if_neg (show ¬ x = 2 from fun e => by rw [e] at hr; revert hr; decide)]
    rfl
  · have h3 : x.toInt = 0 ∨ x.toInt = 1 ∨ x.toInt = 2 := by omega
    rcases h3 with h3 | h3 | h3
    · have e : x = 0 := Int32.toInt_inj.mp (h3.trans (by decide))
      subst e
      rfl
    · have e : x = 1 := Int32.toInt_inj.mp (h3.trans (by decide))
      subst e
      rfl
    · have e : x = 2 := Int32.toInt_inj.mp (h3.trans (by decide))
      subst e
      rfl
theorem x29_44 {L : pj_Loc} {st : List Value} {M : pj_Mem} {x : Int32} {o9 : Option Value × pj_Mem} : pj_Ends 29 (44, L, .int x :: st, M) o9 = pj_Ends 29 (if x = 0 then 72 else if x = 1 then 75 else if x = 2 then 106 else 126, L, st, M) o9 := pj_xs (s29_44)
theorem q29_72 : pj_row 29 72 = some (.iload 4, 2, 0, 0, 0) := by decide +kernel
theorem s29_72 {st : List Value} {M : pj_Mem} {l : pj_Loc} {a0 a1 a2 a3 : Option Value} {x : Int32} : pj_step 29 (72, a0 :: a1 :: a2 :: a3 :: some (.int x) :: l, st, M) = some (74, a0 :: a1 :: a2 :: a3 :: some (.int x) :: l, .int x :: st, M) := st_iload q29_72 rfl
theorem x29_72 {st : List Value} {M : pj_Mem} {l : pj_Loc} {a0 a1 a2 a3 : Option Value} {x : Int32} {o9 : Option Value × pj_Mem} : pj_Ends 29 (72, a0 :: a1 :: a2 :: a3 :: some (.int x) :: l, st, M) o9 = pj_Ends 29 (74, a0 :: a1 :: a2 :: a3 :: some (.int x) :: l, .int x :: st, M) o9 := pj_xs (s29_72)
theorem q29_74 : pj_row 29 74 = some (.ireturn, 1, 0, 0, 0) := by decide +kernel
theorem t29_74 {L : pj_Loc} {M : pj_Mem} {v : Int32} (hv : v = 0 ∨ v = 1) : pj_Ends 29 (74, L, [.int v], M) (some (.int v), M) := pj_Ends.ret q29_74 (pj_rtn_z rt29 hv)
theorem q29_75 : pj_row 29 75 = some (.iload 4, 2, 0, 0, 0) := by decide +kernel
theorem s29_75 {st : List Value} {M : pj_Mem} {l : pj_Loc} {a0 a1 a2 a3 : Option Value} {x : Int32} : pj_step 29 (75, a0 :: a1 :: a2 :: a3 :: some (.int x) :: l, st, M) = some (77, a0 :: a1 :: a2 :: a3 :: some (.int x) :: l, .int x :: st, M) := st_iload q29_75 rfl
theorem x29_75 {st : List Value} {M : pj_Mem} {l : pj_Loc} {a0 a1 a2 a3 : Option Value} {x : Int32} {o9 : Option Value × pj_Mem} : pj_Ends 29 (75, a0 :: a1 :: a2 :: a3 :: some (.int x) :: l, st, M) o9 = pj_Ends 29 (77, a0 :: a1 :: a2 :: a3 :: some (.int x) :: l, .int x :: st, M) o9 := pj_xs (s29_75)
theorem q29_77 : pj_row 29 77 = some (.ifCond .eq 27, 3, 104, 0, 0) := by decide +kernel
theorem s29_77 {L : pj_Loc} {st : List Value} {M : pj_Mem} {x : Int32} : pj_step 29 (77, L, .int x :: st, M) = some (if x = 0 then 104 else 80, L, st, M) := st_if_eq q29_77
theorem x29_77 {L : pj_Loc} {st : List Value} {M : pj_Mem} {x : Int32} {o9 : Option Value × pj_Mem} : pj_Ends 29 (77, L, .int x :: st, M) o9 = pj_Ends 29 (if x = 0 then 104 else 80, L, st, M) o9 := pj_xs (s29_77)
theorem q29_80 : pj_row 29 80 = some (.aload_n 0, 1, 0, 0, 0) := by decide +kernel
theorem s29_80 {st : List Value} {M : pj_Mem} {l : pj_Loc} {x : Nat} : pj_step 29 (80, some (.ref x) :: l, st, M) = some (81, some (.ref x) :: l, .ref x :: st, M) := st_aload_n q29_80 rfl
theorem x29_80 {st : List Value} {M : pj_Mem} {l : pj_Loc} {x : Nat} {o9 : Option Value × pj_Mem} : pj_Ends 29 (80, some (.ref x) :: l, st, M) o9 = pj_Ends 29 (81, some (.ref x) :: l, .ref x :: st, M) o9 := pj_xs (s29_80)
theorem q29_81 : pj_row 29 81 = some (.iconst 0, 1, 0, 0, 0) := by decide +kernel
theorem s29_81 {L : pj_Loc} {st : List Value} {M : pj_Mem}  : pj_step 29 (81, L, st, M) = some (82, L, .int 0 :: st, M) := st_iconst q29_81 (by decide +kernel)
theorem x29_81 {L : pj_Loc} {st : List Value} {M : pj_Mem}  {o9 : Option Value × pj_Mem} : pj_Ends 29 (81, L, st, M) o9 = pj_Ends 29 (82, L, .int 0 :: st, M) o9 := pj_xs (s29_81)
theorem q29_82 : pj_row 29 82 = some (.iload_n 3, 1, 0, 0, 0) := by decide +kernel
theorem s29_82 {st : List Value} {M : pj_Mem} {l : pj_Loc} {a0 a1 a2 : Option Value} {x : Int32} : pj_step 29 (82, a0 :: a1 :: a2 :: some (.int x) :: l, st, M) = some (83, a0 :: a1 :: a2 :: some (.int x) :: l, .int x :: st, M) := st_iload_n q29_82 rfl
theorem x29_82 {st : List Value} {M : pj_Mem} {l : pj_Loc} {a0 a1 a2 : Option Value} {x : Int32} {o9 : Option Value × pj_Mem} : pj_Ends 29 (82, a0 :: a1 :: a2 :: some (.int x) :: l, st, M) o9 = pj_Ends 29 (83, a0 :: a1 :: a2 :: some (.int x) :: l, .int x :: st, M) o9 := pj_xs (s29_82)
theorem q29_83 : pj_row 29 83 = some (.invokevirtual 145, 3, 31, 3, 0) := by decide +kernel
theorem e29_83 {L : pj_Loc} {st : List Value} {N S : Nat} {H : pj_Heap} {o : Option Value × pj_Mem} {M' : pj_Mem} {x0 : Nat} {x1 : Int32} {x2 : Int32} {r : Int32} (h4 : pj_le4 st = true) (hu : pj_isU 3 (H x0) = true) (h1 : pj_Ends 31 (0, [some (.ref x0), some (.int x1), some (.int x2)], [], (N, S, H)) (some (.int r), M')) (h2 : pj_Ends 29 (86, L, .int r :: st, M') o) : pj_Ends 29 (83, L, .int x2 :: .int x1 :: .ref x0 :: st, (N, S, H)) o := ec_v3 q29_83 (Or.inl rfl) h4 hu rfl h1 h2
theorem q29_86 : pj_row 29 86 = some (.ifCond .ne 14, 3, 100, 0, 0) := by decide +kernel
theorem s29_86 {L : pj_Loc} {st : List Value} {M : pj_Mem} {x : Int32} : pj_step 29 (86, L, .int x :: st, M) = some (if ¬ x = 0 then 100 else 89, L, st, M) := st_if_ne q29_86
theorem x29_86 {L : pj_Loc} {st : List Value} {M : pj_Mem} {x : Int32} {o9 : Option Value × pj_Mem} : pj_Ends 29 (86, L, .int x :: st, M) o9 = pj_Ends 29 (if ¬ x = 0 then 100 else 89, L, st, M) o9 := pj_xs (s29_86)
theorem q29_89 : pj_row 29 89 = some (.aload_n 1, 1, 0, 0, 0) := by decide +kernel
theorem s29_89 {st : List Value} {M : pj_Mem} {l : pj_Loc} {a0 : Option Value} {x : Nat} : pj_step 29 (89, a0 :: some (.ref x) :: l, st, M) = some (90, a0 :: some (.ref x) :: l, .ref x :: st, M) := st_aload_n q29_89 rfl
theorem x29_89 {st : List Value} {M : pj_Mem} {l : pj_Loc} {a0 : Option Value} {x : Nat} {o9 : Option Value × pj_Mem} : pj_Ends 29 (89, a0 :: some (.ref x) :: l, st, M) o9 = pj_Ends 29 (90, a0 :: some (.ref x) :: l, .ref x :: st, M) o9 := pj_xs (s29_89)
theorem q29_90 : pj_row 29 90 = some (.getfield 133, 3, 4, 8, 0) := by decide +kernel
theorem s29_90 {L : pj_Loc} {st : List Value} {N S : Nat} {H : pj_Heap} {o : Nat} : pj_step 29 (90, L, .ref o :: st, (N, S, H)) = pj_pv 93 L st (N, S, H) (pj_fld (H o) 4 8) := st_getfield q29_90
theorem x29_90 {L : pj_Loc} {st : List Value} {N S : Nat} {H : pj_Heap} {o : Nat} {o9 : Option Value × pj_Mem} : pj_Ends 29 (90, L, .ref o :: st, (N, S, H)) o9 = pj_then 29 o9 (pj_pv 93 L st (N, S, H) (pj_fld (H o) 4 8)) := pj_xt q29_90 rfl (pj_cl_nc rfl) (s29_90)
theorem q29_93 : pj_row 29 93 = some (.iconst 0, 1, 0, 0, 0) := by decide +kernel
theorem s29_93 {L : pj_Loc} {st : List Value} {M : pj_Mem}  : pj_step 29 (93, L, st, M) = some (94, L, .int 0 :: st, M) := st_iconst q29_93 (by decide +kernel)
theorem x29_93 {L : pj_Loc} {st : List Value} {M : pj_Mem}  {o9 : Option Value × pj_Mem} : pj_Ends 29 (93, L, st, M) o9 = pj_Ends 29 (94, L, .int 0 :: st, M) o9 := pj_xs (s29_93)
theorem q29_94 : pj_row 29 94 = some (.invokestatic 109, 3, 21, 2, 1) := by decide +kernel
theorem e29_94 {L : pj_Loc} {st : List Value} {N S : Nat} {H : pj_Heap} {o : Option Value × pj_Mem} {M' : pj_Mem} {x0 : Int32} {x1 : Int32} {r : Int32} (h4 : pj_le4 st = true) (h1 : pj_Ends 21 (0, [some (.int x0), some (.int x1)], [], (N, S, H)) (some (.int r), M')) (h2 : pj_Ends 29 (97, L, .int r :: st, M') o) : pj_Ends 29 (94, L, .int x1 :: .int x0 :: st, (N, S, H)) o := ec_s2 q29_94 (Or.inr rfl) h4 rfl h1 h2
theorem q29_97 : pj_row 29 97 = some (.ifCond .eq 7, 3, 104, 0, 0) := by decide +kernel
theorem s29_97 {L : pj_Loc} {st : List Value} {M : pj_Mem} {x : Int32} : pj_step 29 (97, L, .int x :: st, M) = some (if x = 0 then 104 else 100, L, st, M) := st_if_eq q29_97
theorem x29_97 {L : pj_Loc} {st : List Value} {M : pj_Mem} {x : Int32} {o9 : Option Value × pj_Mem} : pj_Ends 29 (97, L, .int x :: st, M) o9 = pj_Ends 29 (if x = 0 then 104 else 100, L, st, M) o9 := pj_xs (s29_97)
theorem q29_100 : pj_row 29 100 = some (.iconst 1, 1, 0, 0, 0) := by decide +kernel
theorem s29_100 {L : pj_Loc} {st : List Value} {M : pj_Mem}  : pj_step 29 (100, L, st, M) = some (101, L, .int 1 :: st, M) := st_iconst q29_100 (by decide +kernel)
theorem x29_100 {L : pj_Loc} {st : List Value} {M : pj_Mem}  {o9 : Option Value × pj_Mem} : pj_Ends 29 (100, L, st, M) o9 = pj_Ends 29 (101, L, .int 1 :: st, M) o9 := pj_xs (s29_100)
theorem q29_101 : pj_row 29 101 = some (.goto 4, 3, 105, 0, 0) := by decide +kernel
theorem s29_101 {L : pj_Loc} {st : List Value} {M : pj_Mem}  : pj_step 29 (101, L, st, M) = some (105, L, st, M) := st_goto q29_101
theorem x29_101 {L : pj_Loc} {st : List Value} {M : pj_Mem}  {o9 : Option Value × pj_Mem} : pj_Ends 29 (101, L, st, M) o9 = pj_Ends 29 (105, L, st, M) o9 := pj_xs (s29_101)
theorem q29_104 : pj_row 29 104 = some (.iconst 0, 1, 0, 0, 0) := by decide +kernel
theorem s29_104 {L : pj_Loc} {st : List Value} {M : pj_Mem}  : pj_step 29 (104, L, st, M) = some (105, L, .int 0 :: st, M) := st_iconst q29_104 (by decide +kernel)
theorem x29_104 {L : pj_Loc} {st : List Value} {M : pj_Mem}  {o9 : Option Value × pj_Mem} : pj_Ends 29 (104, L, st, M) o9 = pj_Ends 29 (105, L, .int 0 :: st, M) o9 := pj_xs (s29_104)
theorem q29_105 : pj_row 29 105 = some (.ireturn, 1, 0, 0, 0) := by decide +kernel
theorem t29_105 {L : pj_Loc} {M : pj_Mem} {v : Int32} (hv : v = 0 ∨ v = 1) : pj_Ends 29 (105, L, [.int v], M) (some (.int v), M) := pj_Ends.ret q29_105 (pj_rtn_z rt29 hv)
theorem q29_106 : pj_row 29 106 = some (.iload 5, 2, 0, 0, 0) := by decide +kernel
theorem s29_106 {st : List Value} {M : pj_Mem} {l : pj_Loc} {a0 a1 a2 a3 a4 : Option Value} {x : Int32} : pj_step 29 (106, a0 :: a1 :: a2 :: a3 :: a4 :: some (.int x) :: l, st, M) = some (108, a0 :: a1 :: a2 :: a3 :: a4 :: some (.int x) :: l, .int x :: st, M) := st_iload q29_106 rfl
theorem x29_106 {st : List Value} {M : pj_Mem} {l : pj_Loc} {a0 a1 a2 a3 a4 : Option Value} {x : Int32} {o9 : Option Value × pj_Mem} : pj_Ends 29 (106, a0 :: a1 :: a2 :: a3 :: a4 :: some (.int x) :: l, st, M) o9 = pj_Ends 29 (108, a0 :: a1 :: a2 :: a3 :: a4 :: some (.int x) :: l, .int x :: st, M) o9 := pj_xs (s29_106)
theorem q29_108 : pj_row 29 108 = some (.ifCond .eq 16, 3, 124, 0, 0) := by decide +kernel
theorem s29_108 {L : pj_Loc} {st : List Value} {M : pj_Mem} {x : Int32} : pj_step 29 (108, L, .int x :: st, M) = some (if x = 0 then 124 else 111, L, st, M) := st_if_eq q29_108
theorem x29_108 {L : pj_Loc} {st : List Value} {M : pj_Mem} {x : Int32} {o9 : Option Value × pj_Mem} : pj_Ends 29 (108, L, .int x :: st, M) o9 = pj_Ends 29 (if x = 0 then 124 else 111, L, st, M) o9 := pj_xs (s29_108)
theorem q29_111 : pj_row 29 111 = some (.aload_n 0, 1, 0, 0, 0) := by decide +kernel
theorem s29_111 {st : List Value} {M : pj_Mem} {l : pj_Loc} {x : Nat} : pj_step 29 (111, some (.ref x) :: l, st, M) = some (112, some (.ref x) :: l, .ref x :: st, M) := st_aload_n q29_111 rfl
theorem x29_111 {st : List Value} {M : pj_Mem} {l : pj_Loc} {x : Nat} {o9 : Option Value × pj_Mem} : pj_Ends 29 (111, some (.ref x) :: l, st, M) o9 = pj_Ends 29 (112, some (.ref x) :: l, .ref x :: st, M) o9 := pj_xs (s29_111)
theorem q29_112 : pj_row 29 112 = some (.iconst 1, 1, 0, 0, 0) := by decide +kernel
theorem s29_112 {L : pj_Loc} {st : List Value} {M : pj_Mem}  : pj_step 29 (112, L, st, M) = some (113, L, .int 1 :: st, M) := st_iconst q29_112 (by decide +kernel)
theorem x29_112 {L : pj_Loc} {st : List Value} {M : pj_Mem}  {o9 : Option Value × pj_Mem} : pj_Ends 29 (112, L, st, M) o9 = pj_Ends 29 (113, L, .int 1 :: st, M) o9 := pj_xs (s29_112)
theorem q29_113 : pj_row 29 113 = some (.iload_n 3, 1, 0, 0, 0) := by decide +kernel
theorem s29_113 {st : List Value} {M : pj_Mem} {l : pj_Loc} {a0 a1 a2 : Option Value} {x : Int32} : pj_step 29 (113, a0 :: a1 :: a2 :: some (.int x) :: l, st, M) = some (114, a0 :: a1 :: a2 :: some (.int x) :: l, .int x :: st, M) := st_iload_n q29_113 rfl
theorem x29_113 {st : List Value} {M : pj_Mem} {l : pj_Loc} {a0 a1 a2 : Option Value} {x : Int32} {o9 : Option Value × pj_Mem} : pj_Ends 29 (113, a0 :: a1 :: a2 :: some (.int x) :: l, st, M) o9 = pj_Ends 29 (114, a0 :: a1 :: a2 :: some (.int x) :: l, .int x :: st, M) o9 := pj_xs (s29_113)
theorem q29_114 : pj_row 29 114 = some (.invokevirtual 145, 3, 31, 3, 0) := by decide +kernel
theorem e29_114 {L : pj_Loc} {st : List Value} {N S : Nat} {H : pj_Heap} {o : Option Value × pj_Mem} {M' : pj_Mem} {x0 : Nat} {x1 : Int32} {x2 : Int32} {r : Int32} (h4 : pj_le4 st = true) (hu : pj_isU 3 (H x0) = true) (h1 : pj_Ends 31 (0, [some (.ref x0), some (.int x1), some (.int x2)], [], (N, S, H)) (some (.int r), M')) (h2 : pj_Ends 29 (117, L, .int r :: st, M') o) : pj_Ends 29 (114, L, .int x2 :: .int x1 :: .ref x0 :: st, (N, S, H)) o := ec_v3 q29_114 (Or.inl rfl) h4 hu rfl h1 h2
theorem q29_117 : pj_row 29 117 = some (.ifCond .eq 7, 3, 124, 0, 0) := by decide +kernel
theorem s29_117 {L : pj_Loc} {st : List Value} {M : pj_Mem} {x : Int32} : pj_step 29 (117, L, .int x :: st, M) = some (if x = 0 then 124 else 120, L, st, M) := st_if_eq q29_117
theorem x29_117 {L : pj_Loc} {st : List Value} {M : pj_Mem} {x : Int32} {o9 : Option Value × pj_Mem} : pj_Ends 29 (117, L, .int x :: st, M) o9 = pj_Ends 29 (if x = 0 then 124 else 120, L, st, M) o9 := pj_xs (s29_117)
theorem q29_120 : pj_row 29 120 = some (.iconst 1, 1, 0, 0, 0) := by decide +kernel
theorem s29_120 {L : pj_Loc} {st : List Value} {M : pj_Mem}  : pj_step 29 (120, L, st, M) = some (121, L, .int 1 :: st, M) := st_iconst q29_120 (by decide +kernel)
theorem x29_120 {L : pj_Loc} {st : List Value} {M : pj_Mem}  {o9 : Option Value × pj_Mem} : pj_Ends 29 (120, L, st, M) o9 = pj_Ends 29 (121, L, .int 1 :: st, M) o9 := pj_xs (s29_120)
theorem q29_121 : pj_row 29 121 = some (.goto 4, 3, 125, 0, 0) := by decide +kernel
theorem s29_121 {L : pj_Loc} {st : List Value} {M : pj_Mem}  : pj_step 29 (121, L, st, M) = some (125, L, st, M) := st_goto q29_121
theorem x29_121 {L : pj_Loc} {st : List Value} {M : pj_Mem}  {o9 : Option Value × pj_Mem} : pj_Ends 29 (121, L, st, M) o9 = pj_Ends 29 (125, L, st, M) o9 := pj_xs (s29_121)
theorem q29_124 : pj_row 29 124 = some (.iconst 0, 1, 0, 0, 0) := by decide +kernel
theorem s29_124 {L : pj_Loc} {st : List Value} {M : pj_Mem}  : pj_step 29 (124, L, st, M) = some (125, L, .int 0 :: st, M) := st_iconst q29_124 (by decide +kernel)
theorem x29_124 {L : pj_Loc} {st : List Value} {M : pj_Mem}  {o9 : Option Value × pj_Mem} : pj_Ends 29 (124, L, st, M) o9 = pj_Ends 29 (125, L, .int 0 :: st, M) o9 := pj_xs (s29_124)
theorem q29_125 : pj_row 29 125 = some (.ireturn, 1, 0, 0, 0) := by decide +kernel
theorem t29_125 {L : pj_Loc} {M : pj_Mem} {v : Int32} (hv : v = 0 ∨ v = 1) : pj_Ends 29 (125, L, [.int v], M) (some (.int v), M) := pj_Ends.ret q29_125 (pj_rtn_z rt29 hv)
theorem q29_126 : pj_row 29 126 = some (.iconst 0, 1, 0, 0, 0) := by decide +kernel
theorem s29_126 {L : pj_Loc} {st : List Value} {M : pj_Mem}  : pj_step 29 (126, L, st, M) = some (127, L, .int 0 :: st, M) := st_iconst q29_126 (by decide +kernel)
theorem x29_126 {L : pj_Loc} {st : List Value} {M : pj_Mem}  {o9 : Option Value × pj_Mem} : pj_Ends 29 (126, L, st, M) o9 = pj_Ends 29 (127, L, .int 0 :: st, M) o9 := pj_xs (s29_126)
theorem q29_127 : pj_row 29 127 = some (.ireturn, 1, 0, 0, 0) := by decide +kernel
theorem t29_127 {L : pj_Loc} {M : pj_Mem} {v : Int32} (hv : v = 0 ∨ v = 1) : pj_Ends 29 (127, L, [.int v], M) (some (.int v), M) := pj_Ends.ret q29_127 (pj_rtn_z rt29 hv)
theorem rt30 : pj_rt 30 = some .int := rfl
theorem q30_0 : pj_row 30 0 = some (.iload_n 0, 1, 0, 0, 0) := by decide +kernel
theorem s30_0 {st : List Value} {M : pj_Mem} {l : pj_Loc} {x : Int32} : pj_step 30 (0, some (.int x) :: l, st, M) = some (1, some (.int x) :: l, .int x :: st, M) := st_iload_n q30_0 rfl
theorem x30_0 {st : List Value} {M : pj_Mem} {l : pj_Loc} {x : Int32} {o9 : Option Value × pj_Mem} : pj_Ends 30 (0, some (.int x) :: l, st, M) o9 = pj_Ends 30 (1, some (.int x) :: l, .int x :: st, M) o9 := pj_xs (s30_0)
theorem q30_1 : pj_row 30 1 = some (.iload_n 0, 1, 0, 0, 0) := by decide +kernel
theorem s30_1 {st : List Value} {M : pj_Mem} {l : pj_Loc} {x : Int32} : pj_step 30 (1, some (.int x) :: l, st, M) = some (2, some (.int x) :: l, .int x :: st, M) := st_iload_n q30_1 rfl
theorem x30_1 {st : List Value} {M : pj_Mem} {l : pj_Loc} {x : Int32} {o9 : Option Value × pj_Mem} : pj_Ends 30 (1, some (.int x) :: l, st, M) o9 = pj_Ends 30 (2, some (.int x) :: l, .int x :: st, M) o9 := pj_xs (s30_1)
theorem q30_2 : pj_row 30 2 = some (.iconst 1, 1, 0, 0, 0) := by decide +kernel
theorem s30_2 {L : pj_Loc} {st : List Value} {M : pj_Mem}  : pj_step 30 (2, L, st, M) = some (3, L, .int 1 :: st, M) := st_iconst q30_2 (by decide +kernel)
theorem x30_2 {L : pj_Loc} {st : List Value} {M : pj_Mem}  {o9 : Option Value × pj_Mem} : pj_Ends 30 (2, L, st, M) o9 = pj_Ends 30 (3, L, .int 1 :: st, M) o9 := pj_xs (s30_2)
theorem q30_3 : pj_row 30 3 = some (.iushr, 1, 0, 0, 0) := by decide +kernel
theorem s30_3 {L : pj_Loc} {st : List Value} {M : pj_Mem} {x y : Int32} : pj_step 30 (3, L, .int y :: .int x :: st, M) = some (4, L, .int ((x.toUInt32 >>> (y.toUInt32 &&& Int32.toUInt32 31)).toInt32) :: st, M) := st_iushr q30_3
theorem x30_3 {L : pj_Loc} {st : List Value} {M : pj_Mem} {x y : Int32} {o9 : Option Value × pj_Mem} : pj_Ends 30 (3, L, .int y :: .int x :: st, M) o9 = pj_Ends 30 (4, L, .int ((x.toUInt32 >>> (y.toUInt32 &&& Int32.toUInt32 31)).toInt32) :: st, M) o9 := pj_xs (s30_3)
theorem q30_4 : pj_row 30 4 = some (.ldc_w 265, 3, 0, 0, 1431655765) := by decide +kernel
theorem s30_4 {L : pj_Loc} {st : List Value} {M : pj_Mem}  : pj_step 30 (4, L, st, M) = some (7, L, .int 1431655765 :: st, M) := st_ldc_w q30_4 (by decide +kernel)
theorem x30_4 {L : pj_Loc} {st : List Value} {M : pj_Mem}  {o9 : Option Value × pj_Mem} : pj_Ends 30 (4, L, st, M) o9 = pj_Ends 30 (7, L, .int 1431655765 :: st, M) o9 := pj_xs (s30_4)
theorem q30_7 : pj_row 30 7 = some (.iand, 1, 0, 0, 0) := by decide +kernel
theorem s30_7 {L : pj_Loc} {st : List Value} {M : pj_Mem} {x y : Int32} : pj_step 30 (7, L, .int y :: .int x :: st, M) = some (8, L, .int (x &&& y) :: st, M) := st_iand q30_7
theorem x30_7 {L : pj_Loc} {st : List Value} {M : pj_Mem} {x y : Int32} {o9 : Option Value × pj_Mem} : pj_Ends 30 (7, L, .int y :: .int x :: st, M) o9 = pj_Ends 30 (8, L, .int (x &&& y) :: st, M) o9 := pj_xs (s30_7)
theorem q30_8 : pj_row 30 8 = some (.isub, 1, 0, 0, 0) := by decide +kernel
theorem s30_8 {L : pj_Loc} {st : List Value} {M : pj_Mem} {x y : Int32} : pj_step 30 (8, L, .int y :: .int x :: st, M) = some (9, L, .int (x - y) :: st, M) := st_isub q30_8
theorem x30_8 {L : pj_Loc} {st : List Value} {M : pj_Mem} {x y : Int32} {o9 : Option Value × pj_Mem} : pj_Ends 30 (8, L, .int y :: .int x :: st, M) o9 = pj_Ends 30 (9, L, .int (x - y) :: st, M) o9 := pj_xs (s30_8)
theorem q30_9 : pj_row 30 9 = some (.istore_n 0, 1, 0, 0, 0) := by decide +kernel
theorem s30_9 {st : List Value} {M : pj_Mem} {l : pj_Loc} {a0 : Option Value} {x : Int32} : pj_step 30 (9, a0 :: l, .int x :: st, M) = some (10, some (.int x) :: l, st, M) := st_istore_n q30_9 (pj_st_0)
theorem x30_9 {st : List Value} {M : pj_Mem} {l : pj_Loc} {a0 : Option Value} {x : Int32} {o9 : Option Value × pj_Mem} : pj_Ends 30 (9, a0 :: l, .int x :: st, M) o9 = pj_Ends 30 (10, some (.int x) :: l, st, M) o9 := pj_xs (s30_9)
theorem q30_10 : pj_row 30 10 = some (.iload_n 0, 1, 0, 0, 0) := by decide +kernel
theorem s30_10 {st : List Value} {M : pj_Mem} {l : pj_Loc} {x : Int32} : pj_step 30 (10, some (.int x) :: l, st, M) = some (11, some (.int x) :: l, .int x :: st, M) := st_iload_n q30_10 rfl
theorem x30_10 {st : List Value} {M : pj_Mem} {l : pj_Loc} {x : Int32} {o9 : Option Value × pj_Mem} : pj_Ends 30 (10, some (.int x) :: l, st, M) o9 = pj_Ends 30 (11, some (.int x) :: l, .int x :: st, M) o9 := pj_xs (s30_10)
theorem q30_11 : pj_row 30 11 = some (.ldc_w 266, 3, 0, 0, 858993459) := by decide +kernel
theorem s30_11 {L : pj_Loc} {st : List Value} {M : pj_Mem}  : pj_step 30 (11, L, st, M) = some (14, L, .int 858993459 :: st, M) := st_ldc_w q30_11 (by decide +kernel)
theorem x30_11 {L : pj_Loc} {st : List Value} {M : pj_Mem}  {o9 : Option Value × pj_Mem} : pj_Ends 30 (11, L, st, M) o9 = pj_Ends 30 (14, L, .int 858993459 :: st, M) o9 := pj_xs (s30_11)
theorem q30_14 : pj_row 30 14 = some (.iand, 1, 0, 0, 0) := by decide +kernel
theorem s30_14 {L : pj_Loc} {st : List Value} {M : pj_Mem} {x y : Int32} : pj_step 30 (14, L, .int y :: .int x :: st, M) = some (15, L, .int (x &&& y) :: st, M) := st_iand q30_14
theorem x30_14 {L : pj_Loc} {st : List Value} {M : pj_Mem} {x y : Int32} {o9 : Option Value × pj_Mem} : pj_Ends 30 (14, L, .int y :: .int x :: st, M) o9 = pj_Ends 30 (15, L, .int (x &&& y) :: st, M) o9 := pj_xs (s30_14)
theorem q30_15 : pj_row 30 15 = some (.iload_n 0, 1, 0, 0, 0) := by decide +kernel
theorem s30_15 {st : List Value} {M : pj_Mem} {l : pj_Loc} {x : Int32} : pj_step 30 (15, some (.int x) :: l, st, M) = some (16, some (.int x) :: l, .int x :: st, M) := st_iload_n q30_15 rfl
theorem x30_15 {st : List Value} {M : pj_Mem} {l : pj_Loc} {x : Int32} {o9 : Option Value × pj_Mem} : pj_Ends 30 (15, some (.int x) :: l, st, M) o9 = pj_Ends 30 (16, some (.int x) :: l, .int x :: st, M) o9 := pj_xs (s30_15)
theorem q30_16 : pj_row 30 16 = some (.iconst 2, 1, 0, 0, 0) := by decide +kernel
theorem s30_16 {L : pj_Loc} {st : List Value} {M : pj_Mem}  : pj_step 30 (16, L, st, M) = some (17, L, .int 2 :: st, M) := st_iconst q30_16 (by decide +kernel)
theorem x30_16 {L : pj_Loc} {st : List Value} {M : pj_Mem}  {o9 : Option Value × pj_Mem} : pj_Ends 30 (16, L, st, M) o9 = pj_Ends 30 (17, L, .int 2 :: st, M) o9 := pj_xs (s30_16)
theorem q30_17 : pj_row 30 17 = some (.iushr, 1, 0, 0, 0) := by decide +kernel
theorem s30_17 {L : pj_Loc} {st : List Value} {M : pj_Mem} {x y : Int32} : pj_step 30 (17, L, .int y :: .int x :: st, M) = some (18, L, .int ((x.toUInt32 >>> (y.toUInt32 &&& Int32.toUInt32 31)).toInt32) :: st, M) := st_iushr q30_17
theorem x30_17 {L : pj_Loc} {st : List Value} {M : pj_Mem} {x y : Int32} {o9 : Option Value × pj_Mem} : pj_Ends 30 (17, L, .int y :: .int x :: st, M) o9 = pj_Ends 30 (18, L, .int ((x.toUInt32 >>> (y.toUInt32 &&& Int32.toUInt32 31)).toInt32) :: st, M) o9 := pj_xs (s30_17)
theorem q30_18 : pj_row 30 18 = some (.ldc_w 266, 3, 0, 0, 858993459) := by decide +kernel
theorem s30_18 {L : pj_Loc} {st : List Value} {M : pj_Mem}  : pj_step 30 (18, L, st, M) = some (21, L, .int 858993459 :: st, M) := st_ldc_w q30_18 (by decide +kernel)
theorem x30_18 {L : pj_Loc} {st : List Value} {M : pj_Mem}  {o9 : Option Value × pj_Mem} : pj_Ends 30 (18, L, st, M) o9 = pj_Ends 30 (21, L, .int 858993459 :: st, M) o9 := pj_xs (s30_18)
theorem q30_21 : pj_row 30 21 = some (.iand, 1, 0, 0, 0) := by decide +kernel
theorem s30_21 {L : pj_Loc} {st : List Value} {M : pj_Mem} {x y : Int32} : pj_step 30 (21, L, .int y :: .int x :: st, M) = some (22, L, .int (x &&& y) :: st, M) := st_iand q30_21
theorem x30_21 {L : pj_Loc} {st : List Value} {M : pj_Mem} {x y : Int32} {o9 : Option Value × pj_Mem} : pj_Ends 30 (21, L, .int y :: .int x :: st, M) o9 = pj_Ends 30 (22, L, .int (x &&& y) :: st, M) o9 := pj_xs (s30_21)
theorem q30_22 : pj_row 30 22 = some (.iadd, 1, 0, 0, 0) := by decide +kernel
theorem s30_22 {L : pj_Loc} {st : List Value} {M : pj_Mem} {x y : Int32} : pj_step 30 (22, L, .int y :: .int x :: st, M) = some (23, L, .int (x + y) :: st, M) := st_iadd q30_22
theorem x30_22 {L : pj_Loc} {st : List Value} {M : pj_Mem} {x y : Int32} {o9 : Option Value × pj_Mem} : pj_Ends 30 (22, L, .int y :: .int x :: st, M) o9 = pj_Ends 30 (23, L, .int (x + y) :: st, M) o9 := pj_xs (s30_22)
theorem q30_23 : pj_row 30 23 = some (.istore_n 0, 1, 0, 0, 0) := by decide +kernel
theorem s30_23 {st : List Value} {M : pj_Mem} {l : pj_Loc} {a0 : Option Value} {x : Int32} : pj_step 30 (23, a0 :: l, .int x :: st, M) = some (24, some (.int x) :: l, st, M) := st_istore_n q30_23 (pj_st_0)
theorem x30_23 {st : List Value} {M : pj_Mem} {l : pj_Loc} {a0 : Option Value} {x : Int32} {o9 : Option Value × pj_Mem} : pj_Ends 30 (23, a0 :: l, .int x :: st, M) o9 = pj_Ends 30 (24, some (.int x) :: l, st, M) o9 := pj_xs (s30_23)
theorem q30_24 : pj_row 30 24 = some (.iload_n 0, 1, 0, 0, 0) := by decide +kernel
theorem s30_24 {st : List Value} {M : pj_Mem} {l : pj_Loc} {x : Int32} : pj_step 30 (24, some (.int x) :: l, st, M) = some (25, some (.int x) :: l, .int x :: st, M) := st_iload_n q30_24 rfl
theorem x30_24 {st : List Value} {M : pj_Mem} {l : pj_Loc} {x : Int32} {o9 : Option Value × pj_Mem} : pj_Ends 30 (24, some (.int x) :: l, st, M) o9 = pj_Ends 30 (25, some (.int x) :: l, .int x :: st, M) o9 := pj_xs (s30_24)
theorem q30_25 : pj_row 30 25 = some (.iload_n 0, 1, 0, 0, 0) := by decide +kernel
theorem s30_25 {st : List Value} {M : pj_Mem} {l : pj_Loc} {x : Int32} : pj_step 30 (25, some (.int x) :: l, st, M) = some (26, some (.int x) :: l, .int x :: st, M) := st_iload_n q30_25 rfl
theorem x30_25 {st : List Value} {M : pj_Mem} {l : pj_Loc} {x : Int32} {o9 : Option Value × pj_Mem} : pj_Ends 30 (25, some (.int x) :: l, st, M) o9 = pj_Ends 30 (26, some (.int x) :: l, .int x :: st, M) o9 := pj_xs (s30_25)
theorem q30_26 : pj_row 30 26 = some (.iconst 4, 1, 0, 0, 0) := by decide +kernel
theorem s30_26 {L : pj_Loc} {st : List Value} {M : pj_Mem}  : pj_step 30 (26, L, st, M) = some (27, L, .int 4 :: st, M) := st_iconst q30_26 (by decide +kernel)
theorem x30_26 {L : pj_Loc} {st : List Value} {M : pj_Mem}  {o9 : Option Value × pj_Mem} : pj_Ends 30 (26, L, st, M) o9 = pj_Ends 30 (27, L, .int 4 :: st, M) o9 := pj_xs (s30_26)
theorem q30_27 : pj_row 30 27 = some (.iushr, 1, 0, 0, 0) := by decide +kernel
theorem s30_27 {L : pj_Loc} {st : List Value} {M : pj_Mem} {x y : Int32} : pj_step 30 (27, L, .int y :: .int x :: st, M) = some (28, L, .int ((x.toUInt32 >>> (y.toUInt32 &&& Int32.toUInt32 31)).toInt32) :: st, M) := st_iushr q30_27
theorem x30_27 {L : pj_Loc} {st : List Value} {M : pj_Mem} {x y : Int32} {o9 : Option Value × pj_Mem} : pj_Ends 30 (27, L, .int y :: .int x :: st, M) o9 = pj_Ends 30 (28, L, .int ((x.toUInt32 >>> (y.toUInt32 &&& Int32.toUInt32 31)).toInt32) :: st, M) o9 := pj_xs (s30_27)
theorem q30_28 : pj_row 30 28 = some (.iadd, 1, 0, 0, 0) := by decide +kernel
theorem s30_28 {L : pj_Loc} {st : List Value} {M : pj_Mem} {x y : Int32} : pj_step 30 (28, L, .int y :: .int x :: st, M) = some (29, L, .int (x + y) :: st, M) := st_iadd q30_28
theorem x30_28 {L : pj_Loc} {st : List Value} {M : pj_Mem} {x y : Int32} {o9 : Option Value × pj_Mem} : pj_Ends 30 (28, L, .int y :: .int x :: st, M) o9 = pj_Ends 30 (29, L, .int (x + y) :: st, M) o9 := pj_xs (s30_28)
theorem q30_29 : pj_row 30 29 = some (.ldc_w 267, 3, 0, 0, 252645135) := by decide +kernel
theorem s30_29 {L : pj_Loc} {st : List Value} {M : pj_Mem}  : pj_step 30 (29, L, st, M) = some (32, L, .int 252645135 :: st, M) := st_ldc_w q30_29 (by decide +kernel)
theorem x30_29 {L : pj_Loc} {st : List Value} {M : pj_Mem}  {o9 : Option Value × pj_Mem} : pj_Ends 30 (29, L, st, M) o9 = pj_Ends 30 (32, L, .int 252645135 :: st, M) o9 := pj_xs (s30_29)
theorem q30_32 : pj_row 30 32 = some (.iand, 1, 0, 0, 0) := by decide +kernel
theorem s30_32 {L : pj_Loc} {st : List Value} {M : pj_Mem} {x y : Int32} : pj_step 30 (32, L, .int y :: .int x :: st, M) = some (33, L, .int (x &&& y) :: st, M) := st_iand q30_32
theorem x30_32 {L : pj_Loc} {st : List Value} {M : pj_Mem} {x y : Int32} {o9 : Option Value × pj_Mem} : pj_Ends 30 (32, L, .int y :: .int x :: st, M) o9 = pj_Ends 30 (33, L, .int (x &&& y) :: st, M) o9 := pj_xs (s30_32)
theorem q30_33 : pj_row 30 33 = some (.istore_n 0, 1, 0, 0, 0) := by decide +kernel
theorem s30_33 {st : List Value} {M : pj_Mem} {l : pj_Loc} {a0 : Option Value} {x : Int32} : pj_step 30 (33, a0 :: l, .int x :: st, M) = some (34, some (.int x) :: l, st, M) := st_istore_n q30_33 (pj_st_0)
theorem x30_33 {st : List Value} {M : pj_Mem} {l : pj_Loc} {a0 : Option Value} {x : Int32} {o9 : Option Value × pj_Mem} : pj_Ends 30 (33, a0 :: l, .int x :: st, M) o9 = pj_Ends 30 (34, some (.int x) :: l, st, M) o9 := pj_xs (s30_33)
theorem q30_34 : pj_row 30 34 = some (.iload_n 0, 1, 0, 0, 0) := by decide +kernel
theorem s30_34 {st : List Value} {M : pj_Mem} {l : pj_Loc} {x : Int32} : pj_step 30 (34, some (.int x) :: l, st, M) = some (35, some (.int x) :: l, .int x :: st, M) := st_iload_n q30_34 rfl
theorem x30_34 {st : List Value} {M : pj_Mem} {l : pj_Loc} {x : Int32} {o9 : Option Value × pj_Mem} : pj_Ends 30 (34, some (.int x) :: l, st, M) o9 = pj_Ends 30 (35, some (.int x) :: l, .int x :: st, M) o9 := pj_xs (s30_34)
theorem q30_35 : pj_row 30 35 = some (.iload_n 0, 1, 0, 0, 0) := by decide +kernel
theorem s30_35 {st : List Value} {M : pj_Mem} {l : pj_Loc} {x : Int32} : pj_step 30 (35, some (.int x) :: l, st, M) = some (36, some (.int x) :: l, .int x :: st, M) := st_iload_n q30_35 rfl
theorem x30_35 {st : List Value} {M : pj_Mem} {l : pj_Loc} {x : Int32} {o9 : Option Value × pj_Mem} : pj_Ends 30 (35, some (.int x) :: l, st, M) o9 = pj_Ends 30 (36, some (.int x) :: l, .int x :: st, M) o9 := pj_xs (s30_35)
theorem q30_36 : pj_row 30 36 = some (.bipush 8, 2, 0, 0, 0) := by decide +kernel
theorem s30_36 {L : pj_Loc} {st : List Value} {M : pj_Mem}  : pj_step 30 (36, L, st, M) = some (38, L, .int 8 :: st, M) := st_bipush q30_36 (by decide +kernel)
theorem x30_36 {L : pj_Loc} {st : List Value} {M : pj_Mem}  {o9 : Option Value × pj_Mem} : pj_Ends 30 (36, L, st, M) o9 = pj_Ends 30 (38, L, .int 8 :: st, M) o9 := pj_xs (s30_36)
theorem q30_38 : pj_row 30 38 = some (.iushr, 1, 0, 0, 0) := by decide +kernel
theorem s30_38 {L : pj_Loc} {st : List Value} {M : pj_Mem} {x y : Int32} : pj_step 30 (38, L, .int y :: .int x :: st, M) = some (39, L, .int ((x.toUInt32 >>> (y.toUInt32 &&& Int32.toUInt32 31)).toInt32) :: st, M) := st_iushr q30_38
theorem x30_38 {L : pj_Loc} {st : List Value} {M : pj_Mem} {x y : Int32} {o9 : Option Value × pj_Mem} : pj_Ends 30 (38, L, .int y :: .int x :: st, M) o9 = pj_Ends 30 (39, L, .int ((x.toUInt32 >>> (y.toUInt32 &&& Int32.toUInt32 31)).toInt32) :: st, M) o9 := pj_xs (s30_38)
theorem q30_39 : pj_row 30 39 = some (.iadd, 1, 0, 0, 0) := by decide +kernel
theorem s30_39 {L : pj_Loc} {st : List Value} {M : pj_Mem} {x y : Int32} : pj_step 30 (39, L, .int y :: .int x :: st, M) = some (40, L, .int (x + y) :: st, M) := st_iadd q30_39
theorem x30_39 {L : pj_Loc} {st : List Value} {M : pj_Mem} {x y : Int32} {o9 : Option Value × pj_Mem} : pj_Ends 30 (39, L, .int y :: .int x :: st, M) o9 = pj_Ends 30 (40, L, .int (x + y) :: st, M) o9 := pj_xs (s30_39)
theorem q30_40 : pj_row 30 40 = some (.istore_n 0, 1, 0, 0, 0) := by decide +kernel
theorem s30_40 {st : List Value} {M : pj_Mem} {l : pj_Loc} {a0 : Option Value} {x : Int32} : pj_step 30 (40, a0 :: l, .int x :: st, M) = some (41, some (.int x) :: l, st, M) := st_istore_n q30_40 (pj_st_0)
theorem x30_40 {st : List Value} {M : pj_Mem} {l : pj_Loc} {a0 : Option Value} {x : Int32} {o9 : Option Value × pj_Mem} : pj_Ends 30 (40, a0 :: l, .int x :: st, M) o9 = pj_Ends 30 (41, some (.int x) :: l, st, M) o9 := pj_xs (s30_40)
theorem q30_41 : pj_row 30 41 = some (.iload_n 0, 1, 0, 0, 0) := by decide +kernel
theorem s30_41 {st : List Value} {M : pj_Mem} {l : pj_Loc} {x : Int32} : pj_step 30 (41, some (.int x) :: l, st, M) = some (42, some (.int x) :: l, .int x :: st, M) := st_iload_n q30_41 rfl
theorem x30_41 {st : List Value} {M : pj_Mem} {l : pj_Loc} {x : Int32} {o9 : Option Value × pj_Mem} : pj_Ends 30 (41, some (.int x) :: l, st, M) o9 = pj_Ends 30 (42, some (.int x) :: l, .int x :: st, M) o9 := pj_xs (s30_41)
theorem q30_42 : pj_row 30 42 = some (.iload_n 0, 1, 0, 0, 0) := by decide +kernel
theorem s30_42 {st : List Value} {M : pj_Mem} {l : pj_Loc} {x : Int32} : pj_step 30 (42, some (.int x) :: l, st, M) = some (43, some (.int x) :: l, .int x :: st, M) := st_iload_n q30_42 rfl
theorem x30_42 {st : List Value} {M : pj_Mem} {l : pj_Loc} {x : Int32} {o9 : Option Value × pj_Mem} : pj_Ends 30 (42, some (.int x) :: l, st, M) o9 = pj_Ends 30 (43, some (.int x) :: l, .int x :: st, M) o9 := pj_xs (s30_42)
theorem q30_43 : pj_row 30 43 = some (.bipush 16, 2, 0, 0, 0) := by decide +kernel
theorem s30_43 {L : pj_Loc} {st : List Value} {M : pj_Mem}  : pj_step 30 (43, L, st, M) = some (45, L, .int 16 :: st, M) := st_bipush q30_43 (by decide +kernel)
theorem x30_43 {L : pj_Loc} {st : List Value} {M : pj_Mem}  {o9 : Option Value × pj_Mem} : pj_Ends 30 (43, L, st, M) o9 = pj_Ends 30 (45, L, .int 16 :: st, M) o9 := pj_xs (s30_43)
theorem q30_45 : pj_row 30 45 = some (.iushr, 1, 0, 0, 0) := by decide +kernel
theorem s30_45 {L : pj_Loc} {st : List Value} {M : pj_Mem} {x y : Int32} : pj_step 30 (45, L, .int y :: .int x :: st, M) = some (46, L, .int ((x.toUInt32 >>> (y.toUInt32 &&& Int32.toUInt32 31)).toInt32) :: st, M) := st_iushr q30_45
theorem x30_45 {L : pj_Loc} {st : List Value} {M : pj_Mem} {x y : Int32} {o9 : Option Value × pj_Mem} : pj_Ends 30 (45, L, .int y :: .int x :: st, M) o9 = pj_Ends 30 (46, L, .int ((x.toUInt32 >>> (y.toUInt32 &&& Int32.toUInt32 31)).toInt32) :: st, M) o9 := pj_xs (s30_45)
theorem q30_46 : pj_row 30 46 = some (.iadd, 1, 0, 0, 0) := by decide +kernel
theorem s30_46 {L : pj_Loc} {st : List Value} {M : pj_Mem} {x y : Int32} : pj_step 30 (46, L, .int y :: .int x :: st, M) = some (47, L, .int (x + y) :: st, M) := st_iadd q30_46
theorem x30_46 {L : pj_Loc} {st : List Value} {M : pj_Mem} {x y : Int32} {o9 : Option Value × pj_Mem} : pj_Ends 30 (46, L, .int y :: .int x :: st, M) o9 = pj_Ends 30 (47, L, .int (x + y) :: st, M) o9 := pj_xs (s30_46)
theorem q30_47 : pj_row 30 47 = some (.istore_n 0, 1, 0, 0, 0) := by decide +kernel
theorem s30_47 {st : List Value} {M : pj_Mem} {l : pj_Loc} {a0 : Option Value} {x : Int32} : pj_step 30 (47, a0 :: l, .int x :: st, M) = some (48, some (.int x) :: l, st, M) := st_istore_n q30_47 (pj_st_0)
theorem x30_47 {st : List Value} {M : pj_Mem} {l : pj_Loc} {a0 : Option Value} {x : Int32} {o9 : Option Value × pj_Mem} : pj_Ends 30 (47, a0 :: l, .int x :: st, M) o9 = pj_Ends 30 (48, some (.int x) :: l, st, M) o9 := pj_xs (s30_47)
theorem q30_48 : pj_row 30 48 = some (.iload_n 0, 1, 0, 0, 0) := by decide +kernel
theorem s30_48 {st : List Value} {M : pj_Mem} {l : pj_Loc} {x : Int32} : pj_step 30 (48, some (.int x) :: l, st, M) = some (49, some (.int x) :: l, .int x :: st, M) := st_iload_n q30_48 rfl
theorem x30_48 {st : List Value} {M : pj_Mem} {l : pj_Loc} {x : Int32} {o9 : Option Value × pj_Mem} : pj_Ends 30 (48, some (.int x) :: l, st, M) o9 = pj_Ends 30 (49, some (.int x) :: l, .int x :: st, M) o9 := pj_xs (s30_48)
theorem q30_49 : pj_row 30 49 = some (.bipush 63, 2, 0, 0, 0) := by decide +kernel
theorem s30_49 {L : pj_Loc} {st : List Value} {M : pj_Mem}  : pj_step 30 (49, L, st, M) = some (51, L, .int 63 :: st, M) := st_bipush q30_49 (by decide +kernel)
theorem x30_49 {L : pj_Loc} {st : List Value} {M : pj_Mem}  {o9 : Option Value × pj_Mem} : pj_Ends 30 (49, L, st, M) o9 = pj_Ends 30 (51, L, .int 63 :: st, M) o9 := pj_xs (s30_49)
theorem q30_51 : pj_row 30 51 = some (.iand, 1, 0, 0, 0) := by decide +kernel
theorem s30_51 {L : pj_Loc} {st : List Value} {M : pj_Mem} {x y : Int32} : pj_step 30 (51, L, .int y :: .int x :: st, M) = some (52, L, .int (x &&& y) :: st, M) := st_iand q30_51
theorem x30_51 {L : pj_Loc} {st : List Value} {M : pj_Mem} {x y : Int32} {o9 : Option Value × pj_Mem} : pj_Ends 30 (51, L, .int y :: .int x :: st, M) o9 = pj_Ends 30 (52, L, .int (x &&& y) :: st, M) o9 := pj_xs (s30_51)
theorem q30_52 : pj_row 30 52 = some (.ireturn, 1, 0, 0, 0) := by decide +kernel
theorem t30_52 {L : pj_Loc} {M : pj_Mem} {v : Int32} : pj_Ends 30 (52, L, [.int v], M) (some (.int v), M) := pj_Ends.ret q30_52 (pj_rtn_i rt30)
theorem rt31 : pj_rt 31 = some .boolean := rfl
theorem q31_0 : pj_row 31 0 = some (.aload_n 0, 1, 0, 0, 0) := by decide +kernel
theorem s31_0 {st : List Value} {M : pj_Mem} {l : pj_Loc} {x : Nat} : pj_step 31 (0, some (.ref x) :: l, st, M) = some (1, some (.ref x) :: l, .ref x :: st, M) := st_aload_n q31_0 rfl
theorem x31_0 {st : List Value} {M : pj_Mem} {l : pj_Loc} {x : Nat} {o9 : Option Value × pj_Mem} : pj_Ends 31 (0, some (.ref x) :: l, st, M) o9 = pj_Ends 31 (1, some (.ref x) :: l, .ref x :: st, M) o9 := pj_xs (s31_0)
theorem q31_1 : pj_row 31 1 = some (.getfield 27, 3, 3, 5, 0) := by decide +kernel
theorem s31_1 {L : pj_Loc} {st : List Value} {N S : Nat} {H : pj_Heap} {o : Nat} : pj_step 31 (1, L, .ref o :: st, (N, S, H)) = pj_pv 4 L st (N, S, H) (pj_fld (H o) 3 5) := st_getfield q31_1
theorem x31_1 {L : pj_Loc} {st : List Value} {N S : Nat} {H : pj_Heap} {o : Nat} {o9 : Option Value × pj_Mem} : pj_Ends 31 (1, L, .ref o :: st, (N, S, H)) o9 = pj_then 31 o9 (pj_pv 4 L st (N, S, H) (pj_fld (H o) 3 5)) := pj_xt q31_1 rfl (pj_cl_nc rfl) (s31_1)
theorem q31_4 : pj_row 31 4 = some (.iload_n 1, 1, 0, 0, 0) := by decide +kernel
theorem s31_4 {st : List Value} {M : pj_Mem} {l : pj_Loc} {a0 : Option Value} {x : Int32} : pj_step 31 (4, a0 :: some (.int x) :: l, st, M) = some (5, a0 :: some (.int x) :: l, .int x :: st, M) := st_iload_n q31_4 rfl
theorem x31_4 {st : List Value} {M : pj_Mem} {l : pj_Loc} {a0 : Option Value} {x : Int32} {o9 : Option Value × pj_Mem} : pj_Ends 31 (4, a0 :: some (.int x) :: l, st, M) o9 = pj_Ends 31 (5, a0 :: some (.int x) :: l, .int x :: st, M) o9 := pj_xs (s31_4)
theorem q31_5 : pj_row 31 5 = some (.iaload, 1, 0, 0, 0) := by decide +kernel
theorem s31_5 {L : pj_Loc} {st : List Value} {N S : Nat} {H : pj_Heap} {o : Nat} {i : Int32} : pj_step 31 (5, L, .int i :: .ref o :: st, (N, S, H)) = pj_pi 6 L st (N, S, H) (pj_arl (H o) 0 i) := st_iaload q31_5
theorem x31_5 {L : pj_Loc} {st : List Value} {N S : Nat} {H : pj_Heap} {o : Nat} {i : Int32} {o9 : Option Value × pj_Mem} : pj_Ends 31 (5, L, .int i :: .ref o :: st, (N, S, H)) o9 = pj_then 31 o9 (pj_pi 6 L st (N, S, H) (pj_arl (H o) 0 i)) := pj_xt q31_5 rfl (pj_cl_nc rfl) (s31_5)
theorem q31_6 : pj_row 31 6 = some (.bipush (-6), 2, 0, 0, 0) := by decide +kernel
theorem s31_6 {L : pj_Loc} {st : List Value} {M : pj_Mem}  : pj_step 31 (6, L, st, M) = some (8, L, .int (-6) :: st, M) := st_bipush q31_6 (by decide +kernel)
theorem x31_6 {L : pj_Loc} {st : List Value} {M : pj_Mem}  {o9 : Option Value × pj_Mem} : pj_Ends 31 (6, L, st, M) o9 = pj_Ends 31 (8, L, .int (-6) :: st, M) o9 := pj_xs (s31_6)
theorem q31_8 : pj_row 31 8 = some (.if_icmp .eq 22, 3, 30, 0, 0) := by decide +kernel
theorem s31_8 {L : pj_Loc} {st : List Value} {M : pj_Mem} {x y : Int32} : pj_step 31 (8, L, .int y :: .int x :: st, M) = some (if x = y then 30 else 11, L, st, M) := st_icmp_eq q31_8
theorem x31_8 {L : pj_Loc} {st : List Value} {M : pj_Mem} {x y : Int32} {o9 : Option Value × pj_Mem} : pj_Ends 31 (8, L, .int y :: .int x :: st, M) o9 = pj_Ends 31 (if x = y then 30 else 11, L, st, M) o9 := pj_xs (s31_8)
theorem q31_11 : pj_row 31 11 = some (.aload_n 0, 1, 0, 0, 0) := by decide +kernel
theorem s31_11 {st : List Value} {M : pj_Mem} {l : pj_Loc} {x : Nat} : pj_step 31 (11, some (.ref x) :: l, st, M) = some (12, some (.ref x) :: l, .ref x :: st, M) := st_aload_n q31_11 rfl
theorem x31_11 {st : List Value} {M : pj_Mem} {l : pj_Loc} {x : Nat} {o9 : Option Value × pj_Mem} : pj_Ends 31 (11, some (.ref x) :: l, st, M) o9 = pj_Ends 31 (12, some (.ref x) :: l, .ref x :: st, M) o9 := pj_xs (s31_11)
theorem q31_12 : pj_row 31 12 = some (.getfield 36, 3, 3, 7, 0) := by decide +kernel
theorem s31_12 {L : pj_Loc} {st : List Value} {N S : Nat} {H : pj_Heap} {o : Nat} : pj_step 31 (12, L, .ref o :: st, (N, S, H)) = pj_pv 15 L st (N, S, H) (pj_fld (H o) 3 7) := st_getfield q31_12
theorem x31_12 {L : pj_Loc} {st : List Value} {N S : Nat} {H : pj_Heap} {o : Nat} {o9 : Option Value × pj_Mem} : pj_Ends 31 (12, L, .ref o :: st, (N, S, H)) o9 = pj_then 31 o9 (pj_pv 15 L st (N, S, H) (pj_fld (H o) 3 7)) := pj_xt q31_12 rfl (pj_cl_nc rfl) (s31_12)
theorem q31_15 : pj_row 31 15 = some (.aload_n 0, 1, 0, 0, 0) := by decide +kernel
theorem s31_15 {st : List Value} {M : pj_Mem} {l : pj_Loc} {x : Nat} : pj_step 31 (15, some (.ref x) :: l, st, M) = some (16, some (.ref x) :: l, .ref x :: st, M) := st_aload_n q31_15 rfl
theorem x31_15 {st : List Value} {M : pj_Mem} {l : pj_Loc} {x : Nat} {o9 : Option Value × pj_Mem} : pj_Ends 31 (15, some (.ref x) :: l, st, M) o9 = pj_Ends 31 (16, some (.ref x) :: l, .ref x :: st, M) o9 := pj_xs (s31_15)
theorem q31_16 : pj_row 31 16 = some (.getfield 27, 3, 3, 5, 0) := by decide +kernel
theorem s31_16 {L : pj_Loc} {st : List Value} {N S : Nat} {H : pj_Heap} {o : Nat} : pj_step 31 (16, L, .ref o :: st, (N, S, H)) = pj_pv 19 L st (N, S, H) (pj_fld (H o) 3 5) := st_getfield q31_16
theorem x31_16 {L : pj_Loc} {st : List Value} {N S : Nat} {H : pj_Heap} {o : Nat} {o9 : Option Value × pj_Mem} : pj_Ends 31 (16, L, .ref o :: st, (N, S, H)) o9 = pj_then 31 o9 (pj_pv 19 L st (N, S, H) (pj_fld (H o) 3 5)) := pj_xt q31_16 rfl (pj_cl_nc rfl) (s31_16)
theorem q31_19 : pj_row 31 19 = some (.iload_n 1, 1, 0, 0, 0) := by decide +kernel
theorem s31_19 {st : List Value} {M : pj_Mem} {l : pj_Loc} {a0 : Option Value} {x : Int32} : pj_step 31 (19, a0 :: some (.int x) :: l, st, M) = some (20, a0 :: some (.int x) :: l, .int x :: st, M) := st_iload_n q31_19 rfl
theorem x31_19 {st : List Value} {M : pj_Mem} {l : pj_Loc} {a0 : Option Value} {x : Int32} {o9 : Option Value × pj_Mem} : pj_Ends 31 (19, a0 :: some (.int x) :: l, st, M) o9 = pj_Ends 31 (20, a0 :: some (.int x) :: l, .int x :: st, M) o9 := pj_xs (s31_19)
theorem q31_20 : pj_row 31 20 = some (.iaload, 1, 0, 0, 0) := by decide +kernel
theorem s31_20 {L : pj_Loc} {st : List Value} {N S : Nat} {H : pj_Heap} {o : Nat} {i : Int32} : pj_step 31 (20, L, .int i :: .ref o :: st, (N, S, H)) = pj_pi 21 L st (N, S, H) (pj_arl (H o) 0 i) := st_iaload q31_20
theorem x31_20 {L : pj_Loc} {st : List Value} {N S : Nat} {H : pj_Heap} {o : Nat} {i : Int32} {o9 : Option Value × pj_Mem} : pj_Ends 31 (20, L, .int i :: .ref o :: st, (N, S, H)) o9 = pj_then 31 o9 (pj_pi 21 L st (N, S, H) (pj_arl (H o) 0 i)) := pj_xt q31_20 rfl (pj_cl_nc rfl) (s31_20)
theorem q31_21 : pj_row 31 21 = some (.isub, 1, 0, 0, 0) := by decide +kernel
theorem s31_21 {L : pj_Loc} {st : List Value} {M : pj_Mem} {x y : Int32} : pj_step 31 (21, L, .int y :: .int x :: st, M) = some (22, L, .int (x - y) :: st, M) := st_isub q31_21
theorem x31_21 {L : pj_Loc} {st : List Value} {M : pj_Mem} {x y : Int32} {o9 : Option Value × pj_Mem} : pj_Ends 31 (21, L, .int y :: .int x :: st, M) o9 = pj_Ends 31 (22, L, .int (x - y) :: st, M) o9 := pj_xs (s31_21)
theorem q31_22 : pj_row 31 22 = some (.iload_n 2, 1, 0, 0, 0) := by decide +kernel
theorem s31_22 {st : List Value} {M : pj_Mem} {l : pj_Loc} {a0 a1 : Option Value} {x : Int32} : pj_step 31 (22, a0 :: a1 :: some (.int x) :: l, st, M) = some (23, a0 :: a1 :: some (.int x) :: l, .int x :: st, M) := st_iload_n q31_22 rfl
theorem x31_22 {st : List Value} {M : pj_Mem} {l : pj_Loc} {a0 a1 : Option Value} {x : Int32} {o9 : Option Value × pj_Mem} : pj_Ends 31 (22, a0 :: a1 :: some (.int x) :: l, st, M) o9 = pj_Ends 31 (23, a0 :: a1 :: some (.int x) :: l, .int x :: st, M) o9 := pj_xs (s31_22)
theorem q31_23 : pj_row 31 23 = some (.if_icmp .lt 7, 3, 30, 0, 0) := by decide +kernel
theorem s31_23 {L : pj_Loc} {st : List Value} {M : pj_Mem} {x y : Int32} : pj_step 31 (23, L, .int y :: .int x :: st, M) = some (if x < y then 30 else 26, L, st, M) := st_icmp_lt q31_23
theorem x31_23 {L : pj_Loc} {st : List Value} {M : pj_Mem} {x y : Int32} {o9 : Option Value × pj_Mem} : pj_Ends 31 (23, L, .int y :: .int x :: st, M) o9 = pj_Ends 31 (if x < y then 30 else 26, L, st, M) o9 := pj_xs (s31_23)
theorem q31_26 : pj_row 31 26 = some (.iconst 1, 1, 0, 0, 0) := by decide +kernel
theorem s31_26 {L : pj_Loc} {st : List Value} {M : pj_Mem}  : pj_step 31 (26, L, st, M) = some (27, L, .int 1 :: st, M) := st_iconst q31_26 (by decide +kernel)
theorem x31_26 {L : pj_Loc} {st : List Value} {M : pj_Mem}  {o9 : Option Value × pj_Mem} : pj_Ends 31 (26, L, st, M) o9 = pj_Ends 31 (27, L, .int 1 :: st, M) o9 := pj_xs (s31_26)
theorem q31_27 : pj_row 31 27 = some (.goto 4, 3, 31, 0, 0) := by decide +kernel
theorem s31_27 {L : pj_Loc} {st : List Value} {M : pj_Mem}  : pj_step 31 (27, L, st, M) = some (31, L, st, M) := st_goto q31_27
theorem x31_27 {L : pj_Loc} {st : List Value} {M : pj_Mem}  {o9 : Option Value × pj_Mem} : pj_Ends 31 (27, L, st, M) o9 = pj_Ends 31 (31, L, st, M) o9 := pj_xs (s31_27)
theorem q31_30 : pj_row 31 30 = some (.iconst 0, 1, 0, 0, 0) := by decide +kernel
theorem s31_30 {L : pj_Loc} {st : List Value} {M : pj_Mem}  : pj_step 31 (30, L, st, M) = some (31, L, .int 0 :: st, M) := st_iconst q31_30 (by decide +kernel)
theorem x31_30 {L : pj_Loc} {st : List Value} {M : pj_Mem}  {o9 : Option Value × pj_Mem} : pj_Ends 31 (30, L, st, M) o9 = pj_Ends 31 (31, L, .int 0 :: st, M) o9 := pj_xs (s31_30)
theorem q31_31 : pj_row 31 31 = some (.ireturn, 1, 0, 0, 0) := by decide +kernel
theorem t31_31 {L : pj_Loc} {M : pj_Mem} {v : Int32} (hv : v = 0 ∨ v = 1) : pj_Ends 31 (31, L, [.int v], M) (some (.int v), M) := pj_Ends.ret q31_31 (pj_rtn_z rt31 hv)
theorem rt32 : pj_rt 32 = none := rfl
theorem q32_0 : pj_row 32 0 = some (.aload_n 1, 1, 0, 0, 0) := by decide +kernel
theorem s32_0 {st : List Value} {M : pj_Mem} {l : pj_Loc} {a0 : Option Value} {x : Nat} : pj_step 32 (0, a0 :: some (.ref x) :: l, st, M) = some (1, a0 :: some (.ref x) :: l, .ref x :: st, M) := st_aload_n q32_0 rfl
theorem x32_0 {st : List Value} {M : pj_Mem} {l : pj_Loc} {a0 : Option Value} {x : Nat} {o9 : Option Value × pj_Mem} : pj_Ends 32 (0, a0 :: some (.ref x) :: l, st, M) o9 = pj_Ends 32 (1, a0 :: some (.ref x) :: l, .ref x :: st, M) o9 := pj_xs (s32_0)
theorem q32_1 : pj_row 32 1 = some (.getfield 63, 3, 3, 2, 0) := by decide +kernel
theorem s32_1 {L : pj_Loc} {st : List Value} {N S : Nat} {H : pj_Heap} {o : Nat} : pj_step 32 (1, L, .ref o :: st, (N, S, H)) = pj_pv 4 L st (N, S, H) (pj_fld (H o) 3 2) := st_getfield q32_1
theorem x32_1 {L : pj_Loc} {st : List Value} {N S : Nat} {H : pj_Heap} {o : Nat} {o9 : Option Value × pj_Mem} : pj_Ends 32 (1, L, .ref o :: st, (N, S, H)) o9 = pj_then 32 o9 (pj_pv 4 L st (N, S, H) (pj_fld (H o) 3 2)) := pj_xt q32_1 rfl (pj_cl_nc rfl) (s32_1)
theorem q32_4 : pj_row 32 4 = some (.iconst 0, 1, 0, 0, 0) := by decide +kernel
theorem s32_4 {L : pj_Loc} {st : List Value} {M : pj_Mem}  : pj_step 32 (4, L, st, M) = some (5, L, .int 0 :: st, M) := st_iconst q32_4 (by decide +kernel)
theorem x32_4 {L : pj_Loc} {st : List Value} {M : pj_Mem}  {o9 : Option Value × pj_Mem} : pj_Ends 32 (4, L, st, M) o9 = pj_Ends 32 (5, L, .int 0 :: st, M) o9 := pj_xs (s32_4)
theorem q32_5 : pj_row 32 5 = some (.aload_n 0, 1, 0, 0, 0) := by decide +kernel
theorem s32_5 {st : List Value} {M : pj_Mem} {l : pj_Loc} {x : Nat} : pj_step 32 (5, some (.ref x) :: l, st, M) = some (6, some (.ref x) :: l, .ref x :: st, M) := st_aload_n q32_5 rfl
theorem x32_5 {st : List Value} {M : pj_Mem} {l : pj_Loc} {x : Nat} {o9 : Option Value × pj_Mem} : pj_Ends 32 (5, some (.ref x) :: l, st, M) o9 = pj_Ends 32 (6, some (.ref x) :: l, .ref x :: st, M) o9 := pj_xs (s32_5)
theorem q32_6 : pj_row 32 6 = some (.getfield 15, 3, 4, 1, 0) := by decide +kernel
theorem s32_6 {L : pj_Loc} {st : List Value} {N S : Nat} {H : pj_Heap} {o : Nat} : pj_step 32 (6, L, .ref o :: st, (N, S, H)) = pj_pv 9 L st (N, S, H) (pj_fld (H o) 4 1) := st_getfield q32_6
theorem x32_6 {L : pj_Loc} {st : List Value} {N S : Nat} {H : pj_Heap} {o : Nat} {o9 : Option Value × pj_Mem} : pj_Ends 32 (6, L, .ref o :: st, (N, S, H)) o9 = pj_then 32 o9 (pj_pv 9 L st (N, S, H) (pj_fld (H o) 4 1)) := pj_xt q32_6 rfl (pj_cl_nc rfl) (s32_6)
theorem q32_9 : pj_row 32 9 = some (.iconst 0, 1, 0, 0, 0) := by decide +kernel
theorem s32_9 {L : pj_Loc} {st : List Value} {M : pj_Mem}  : pj_step 32 (9, L, st, M) = some (10, L, .int 0 :: st, M) := st_iconst q32_9 (by decide +kernel)
theorem x32_9 {L : pj_Loc} {st : List Value} {M : pj_Mem}  {o9 : Option Value × pj_Mem} : pj_Ends 32 (9, L, st, M) o9 = pj_Ends 32 (10, L, .int 0 :: st, M) o9 := pj_xs (s32_9)
theorem q32_10 : pj_row 32 10 = some (.iconst 3, 1, 0, 0, 0) := by decide +kernel
theorem s32_10 {L : pj_Loc} {st : List Value} {M : pj_Mem}  : pj_step 32 (10, L, st, M) = some (11, L, .int 3 :: st, M) := st_iconst q32_10 (by decide +kernel)
theorem x32_10 {L : pj_Loc} {st : List Value} {M : pj_Mem}  {o9 : Option Value × pj_Mem} : pj_Ends 32 (10, L, st, M) o9 = pj_Ends 32 (11, L, .int 3 :: st, M) o9 := pj_xs (s32_10)
theorem q32_11 : pj_row 32 11 = some (.invokestatic 44, 3, 0, 5, 3) := by decide +kernel
theorem s32_11 {L : pj_Loc} {st : List Value} {N S : Nat} {H : pj_Heap} {d o : Nat} {n dp sp : Int32} : pj_step 32 (11, L, .int n :: .int dp :: .ref d :: .int sp :: .ref o :: st, (N, S, H)) = pj_g4 st (pj_set 14 L st (N, S, H) d (pj_cas (H o) (H d) sp dp n)) := st_acp q32_11
theorem x32_11 {L : pj_Loc} {st : List Value} {N S : Nat} {H : pj_Heap} {d o : Nat} {n dp sp : Int32} {o9 : Option Value × pj_Mem} : pj_Ends 32 (11, L, .int n :: .int dp :: .ref d :: .int sp :: .ref o :: st, (N, S, H)) o9 = pj_then 32 o9 (pj_g4 st (pj_set 14 L st (N, S, H) d (pj_cas (H o) (H d) sp dp n))) := pj_xt q32_11 rfl rfl (s32_11)
theorem q32_14 : pj_row 32 14 = some (.aload_n 1, 1, 0, 0, 0) := by decide +kernel
theorem s32_14 {st : List Value} {M : pj_Mem} {l : pj_Loc} {a0 : Option Value} {x : Nat} : pj_step 32 (14, a0 :: some (.ref x) :: l, st, M) = some (15, a0 :: some (.ref x) :: l, .ref x :: st, M) := st_aload_n q32_14 rfl
theorem x32_14 {st : List Value} {M : pj_Mem} {l : pj_Loc} {a0 : Option Value} {x : Nat} {o9 : Option Value × pj_Mem} : pj_Ends 32 (14, a0 :: some (.ref x) :: l, st, M) o9 = pj_Ends 32 (15, a0 :: some (.ref x) :: l, .ref x :: st, M) o9 := pj_xs (s32_14)
theorem q32_15 : pj_row 32 15 = some (.getfield 66, 3, 3, 3, 0) := by decide +kernel
theorem s32_15 {L : pj_Loc} {st : List Value} {N S : Nat} {H : pj_Heap} {o : Nat} : pj_step 32 (15, L, .ref o :: st, (N, S, H)) = pj_pv 18 L st (N, S, H) (pj_fld (H o) 3 3) := st_getfield q32_15
theorem x32_15 {L : pj_Loc} {st : List Value} {N S : Nat} {H : pj_Heap} {o : Nat} {o9 : Option Value × pj_Mem} : pj_Ends 32 (15, L, .ref o :: st, (N, S, H)) o9 = pj_then 32 o9 (pj_pv 18 L st (N, S, H) (pj_fld (H o) 3 3)) := pj_xt q32_15 rfl (pj_cl_nc rfl) (s32_15)
theorem q32_18 : pj_row 32 18 = some (.iconst 0, 1, 0, 0, 0) := by decide +kernel
theorem s32_18 {L : pj_Loc} {st : List Value} {M : pj_Mem}  : pj_step 32 (18, L, st, M) = some (19, L, .int 0 :: st, M) := st_iconst q32_18 (by decide +kernel)
theorem x32_18 {L : pj_Loc} {st : List Value} {M : pj_Mem}  {o9 : Option Value × pj_Mem} : pj_Ends 32 (18, L, st, M) o9 = pj_Ends 32 (19, L, .int 0 :: st, M) o9 := pj_xs (s32_18)
theorem q32_19 : pj_row 32 19 = some (.aload_n 0, 1, 0, 0, 0) := by decide +kernel
theorem s32_19 {st : List Value} {M : pj_Mem} {l : pj_Loc} {x : Nat} : pj_step 32 (19, some (.ref x) :: l, st, M) = some (20, some (.ref x) :: l, .ref x :: st, M) := st_aload_n q32_19 rfl
theorem x32_19 {st : List Value} {M : pj_Mem} {l : pj_Loc} {x : Nat} {o9 : Option Value × pj_Mem} : pj_Ends 32 (19, some (.ref x) :: l, st, M) o9 = pj_Ends 32 (20, some (.ref x) :: l, .ref x :: st, M) o9 := pj_xs (s32_19)
theorem q32_20 : pj_row 32 20 = some (.getfield 18, 3, 4, 2, 0) := by decide +kernel
theorem s32_20 {L : pj_Loc} {st : List Value} {N S : Nat} {H : pj_Heap} {o : Nat} : pj_step 32 (20, L, .ref o :: st, (N, S, H)) = pj_pv 23 L st (N, S, H) (pj_fld (H o) 4 2) := st_getfield q32_20
theorem x32_20 {L : pj_Loc} {st : List Value} {N S : Nat} {H : pj_Heap} {o : Nat} {o9 : Option Value × pj_Mem} : pj_Ends 32 (20, L, .ref o :: st, (N, S, H)) o9 = pj_then 32 o9 (pj_pv 23 L st (N, S, H) (pj_fld (H o) 4 2)) := pj_xt q32_20 rfl (pj_cl_nc rfl) (s32_20)
theorem q32_23 : pj_row 32 23 = some (.iconst 0, 1, 0, 0, 0) := by decide +kernel
theorem s32_23 {L : pj_Loc} {st : List Value} {M : pj_Mem}  : pj_step 32 (23, L, st, M) = some (24, L, .int 0 :: st, M) := st_iconst q32_23 (by decide +kernel)
theorem x32_23 {L : pj_Loc} {st : List Value} {M : pj_Mem}  {o9 : Option Value × pj_Mem} : pj_Ends 32 (23, L, st, M) o9 = pj_Ends 32 (24, L, .int 0 :: st, M) o9 := pj_xs (s32_23)
theorem q32_24 : pj_row 32 24 = some (.iconst 3, 1, 0, 0, 0) := by decide +kernel
theorem s32_24 {L : pj_Loc} {st : List Value} {M : pj_Mem}  : pj_step 32 (24, L, st, M) = some (25, L, .int 3 :: st, M) := st_iconst q32_24 (by decide +kernel)
theorem x32_24 {L : pj_Loc} {st : List Value} {M : pj_Mem}  {o9 : Option Value × pj_Mem} : pj_Ends 32 (24, L, st, M) o9 = pj_Ends 32 (25, L, .int 3 :: st, M) o9 := pj_xs (s32_24)
theorem q32_25 : pj_row 32 25 = some (.invokestatic 44, 3, 0, 5, 3) := by decide +kernel
theorem s32_25 {L : pj_Loc} {st : List Value} {N S : Nat} {H : pj_Heap} {d o : Nat} {n dp sp : Int32} : pj_step 32 (25, L, .int n :: .int dp :: .ref d :: .int sp :: .ref o :: st, (N, S, H)) = pj_g4 st (pj_set 28 L st (N, S, H) d (pj_cas (H o) (H d) sp dp n)) := st_acp q32_25
theorem x32_25 {L : pj_Loc} {st : List Value} {N S : Nat} {H : pj_Heap} {d o : Nat} {n dp sp : Int32} {o9 : Option Value × pj_Mem} : pj_Ends 32 (25, L, .int n :: .int dp :: .ref d :: .int sp :: .ref o :: st, (N, S, H)) o9 = pj_then 32 o9 (pj_g4 st (pj_set 28 L st (N, S, H) d (pj_cas (H o) (H d) sp dp n))) := pj_xt q32_25 rfl rfl (s32_25)
theorem q32_28 : pj_row 32 28 = some (.aload_n 1, 1, 0, 0, 0) := by decide +kernel
theorem s32_28 {st : List Value} {M : pj_Mem} {l : pj_Loc} {a0 : Option Value} {x : Nat} : pj_step 32 (28, a0 :: some (.ref x) :: l, st, M) = some (29, a0 :: some (.ref x) :: l, .ref x :: st, M) := st_aload_n q32_28 rfl
theorem x32_28 {st : List Value} {M : pj_Mem} {l : pj_Loc} {a0 : Option Value} {x : Nat} {o9 : Option Value × pj_Mem} : pj_Ends 32 (28, a0 :: some (.ref x) :: l, st, M) o9 = pj_Ends 32 (29, a0 :: some (.ref x) :: l, .ref x :: st, M) o9 := pj_xs (s32_28)
theorem q32_29 : pj_row 32 29 = some (.getfield 67, 3, 3, 4, 0) := by decide +kernel
theorem s32_29 {L : pj_Loc} {st : List Value} {N S : Nat} {H : pj_Heap} {o : Nat} : pj_step 32 (29, L, .ref o :: st, (N, S, H)) = pj_pv 32 L st (N, S, H) (pj_fld (H o) 3 4) := st_getfield q32_29
theorem x32_29 {L : pj_Loc} {st : List Value} {N S : Nat} {H : pj_Heap} {o : Nat} {o9 : Option Value × pj_Mem} : pj_Ends 32 (29, L, .ref o :: st, (N, S, H)) o9 = pj_then 32 o9 (pj_pv 32 L st (N, S, H) (pj_fld (H o) 3 4)) := pj_xt q32_29 rfl (pj_cl_nc rfl) (s32_29)
theorem q32_32 : pj_row 32 32 = some (.iconst 0, 1, 0, 0, 0) := by decide +kernel
theorem s32_32 {L : pj_Loc} {st : List Value} {M : pj_Mem}  : pj_step 32 (32, L, st, M) = some (33, L, .int 0 :: st, M) := st_iconst q32_32 (by decide +kernel)
theorem x32_32 {L : pj_Loc} {st : List Value} {M : pj_Mem}  {o9 : Option Value × pj_Mem} : pj_Ends 32 (32, L, st, M) o9 = pj_Ends 32 (33, L, .int 0 :: st, M) o9 := pj_xs (s32_32)
theorem q32_33 : pj_row 32 33 = some (.aload_n 0, 1, 0, 0, 0) := by decide +kernel
theorem s32_33 {st : List Value} {M : pj_Mem} {l : pj_Loc} {x : Nat} : pj_step 32 (33, some (.ref x) :: l, st, M) = some (34, some (.ref x) :: l, .ref x :: st, M) := st_aload_n q32_33 rfl
theorem x32_33 {st : List Value} {M : pj_Mem} {l : pj_Loc} {x : Nat} {o9 : Option Value × pj_Mem} : pj_Ends 32 (33, some (.ref x) :: l, st, M) o9 = pj_Ends 32 (34, some (.ref x) :: l, .ref x :: st, M) o9 := pj_xs (s32_33)
theorem q32_34 : pj_row 32 34 = some (.getfield 21, 3, 4, 3, 0) := by decide +kernel
theorem s32_34 {L : pj_Loc} {st : List Value} {N S : Nat} {H : pj_Heap} {o : Nat} : pj_step 32 (34, L, .ref o :: st, (N, S, H)) = pj_pv 37 L st (N, S, H) (pj_fld (H o) 4 3) := st_getfield q32_34
theorem x32_34 {L : pj_Loc} {st : List Value} {N S : Nat} {H : pj_Heap} {o : Nat} {o9 : Option Value × pj_Mem} : pj_Ends 32 (34, L, .ref o :: st, (N, S, H)) o9 = pj_then 32 o9 (pj_pv 37 L st (N, S, H) (pj_fld (H o) 4 3)) := pj_xt q32_34 rfl (pj_cl_nc rfl) (s32_34)
theorem q32_37 : pj_row 32 37 = some (.iconst 0, 1, 0, 0, 0) := by decide +kernel
theorem s32_37 {L : pj_Loc} {st : List Value} {M : pj_Mem}  : pj_step 32 (37, L, st, M) = some (38, L, .int 0 :: st, M) := st_iconst q32_37 (by decide +kernel)
theorem x32_37 {L : pj_Loc} {st : List Value} {M : pj_Mem}  {o9 : Option Value × pj_Mem} : pj_Ends 32 (37, L, st, M) o9 = pj_Ends 32 (38, L, .int 0 :: st, M) o9 := pj_xs (s32_37)
theorem q32_38 : pj_row 32 38 = some (.iconst 3, 1, 0, 0, 0) := by decide +kernel
theorem s32_38 {L : pj_Loc} {st : List Value} {M : pj_Mem}  : pj_step 32 (38, L, st, M) = some (39, L, .int 3 :: st, M) := st_iconst q32_38 (by decide +kernel)
theorem x32_38 {L : pj_Loc} {st : List Value} {M : pj_Mem}  {o9 : Option Value × pj_Mem} : pj_Ends 32 (38, L, st, M) o9 = pj_Ends 32 (39, L, .int 3 :: st, M) o9 := pj_xs (s32_38)
theorem q32_39 : pj_row 32 39 = some (.invokestatic 44, 3, 0, 5, 3) := by decide +kernel
theorem s32_39 {L : pj_Loc} {st : List Value} {N S : Nat} {H : pj_Heap} {d o : Nat} {n dp sp : Int32} : pj_step 32 (39, L, .int n :: .int dp :: .ref d :: .int sp :: .ref o :: st, (N, S, H)) = pj_g4 st (pj_set 42 L st (N, S, H) d (pj_cas (H o) (H d) sp dp n)) := st_acp q32_39
theorem x32_39 {L : pj_Loc} {st : List Value} {N S : Nat} {H : pj_Heap} {d o : Nat} {n dp sp : Int32} {o9 : Option Value × pj_Mem} : pj_Ends 32 (39, L, .int n :: .int dp :: .ref d :: .int sp :: .ref o :: st, (N, S, H)) o9 = pj_then 32 o9 (pj_g4 st (pj_set 42 L st (N, S, H) d (pj_cas (H o) (H d) sp dp n))) := pj_xt q32_39 rfl rfl (s32_39)
theorem q32_42 : pj_row 32 42 = some (.aload_n 1, 1, 0, 0, 0) := by decide +kernel
theorem s32_42 {st : List Value} {M : pj_Mem} {l : pj_Loc} {a0 : Option Value} {x : Nat} : pj_step 32 (42, a0 :: some (.ref x) :: l, st, M) = some (43, a0 :: some (.ref x) :: l, .ref x :: st, M) := st_aload_n q32_42 rfl
theorem x32_42 {st : List Value} {M : pj_Mem} {l : pj_Loc} {a0 : Option Value} {x : Nat} {o9 : Option Value × pj_Mem} : pj_Ends 32 (42, a0 :: some (.ref x) :: l, st, M) o9 = pj_Ends 32 (43, a0 :: some (.ref x) :: l, .ref x :: st, M) o9 := pj_xs (s32_42)
theorem q32_43 : pj_row 32 43 = some (.getfield 68, 3, 3, 0, 0) := by decide +kernel
theorem s32_43 {L : pj_Loc} {st : List Value} {N S : Nat} {H : pj_Heap} {o : Nat} : pj_step 32 (43, L, .ref o :: st, (N, S, H)) = pj_pv 46 L st (N, S, H) (pj_fld (H o) 3 0) := st_getfield q32_43
theorem x32_43 {L : pj_Loc} {st : List Value} {N S : Nat} {H : pj_Heap} {o : Nat} {o9 : Option Value × pj_Mem} : pj_Ends 32 (43, L, .ref o :: st, (N, S, H)) o9 = pj_then 32 o9 (pj_pv 46 L st (N, S, H) (pj_fld (H o) 3 0)) := pj_xt q32_43 rfl (pj_cl_nc rfl) (s32_43)
theorem q32_46 : pj_row 32 46 = some (.iconst 0, 1, 0, 0, 0) := by decide +kernel
theorem s32_46 {L : pj_Loc} {st : List Value} {M : pj_Mem}  : pj_step 32 (46, L, st, M) = some (47, L, .int 0 :: st, M) := st_iconst q32_46 (by decide +kernel)
theorem x32_46 {L : pj_Loc} {st : List Value} {M : pj_Mem}  {o9 : Option Value × pj_Mem} : pj_Ends 32 (46, L, st, M) o9 = pj_Ends 32 (47, L, .int 0 :: st, M) o9 := pj_xs (s32_46)
theorem q32_47 : pj_row 32 47 = some (.aload_n 0, 1, 0, 0, 0) := by decide +kernel
theorem s32_47 {st : List Value} {M : pj_Mem} {l : pj_Loc} {x : Nat} : pj_step 32 (47, some (.ref x) :: l, st, M) = some (48, some (.ref x) :: l, .ref x :: st, M) := st_aload_n q32_47 rfl
theorem x32_47 {st : List Value} {M : pj_Mem} {l : pj_Loc} {x : Nat} {o9 : Option Value × pj_Mem} : pj_Ends 32 (47, some (.ref x) :: l, st, M) o9 = pj_Ends 32 (48, some (.ref x) :: l, .ref x :: st, M) o9 := pj_xs (s32_47)
theorem q32_48 : pj_row 32 48 = some (.getfield 24, 3, 4, 4, 0) := by decide +kernel
theorem s32_48 {L : pj_Loc} {st : List Value} {N S : Nat} {H : pj_Heap} {o : Nat} : pj_step 32 (48, L, .ref o :: st, (N, S, H)) = pj_pv 51 L st (N, S, H) (pj_fld (H o) 4 4) := st_getfield q32_48
theorem x32_48 {L : pj_Loc} {st : List Value} {N S : Nat} {H : pj_Heap} {o : Nat} {o9 : Option Value × pj_Mem} : pj_Ends 32 (48, L, .ref o :: st, (N, S, H)) o9 = pj_then 32 o9 (pj_pv 51 L st (N, S, H) (pj_fld (H o) 4 4)) := pj_xt q32_48 rfl (pj_cl_nc rfl) (s32_48)
theorem q32_51 : pj_row 32 51 = some (.iconst 0, 1, 0, 0, 0) := by decide +kernel
theorem s32_51 {L : pj_Loc} {st : List Value} {M : pj_Mem}  : pj_step 32 (51, L, st, M) = some (52, L, .int 0 :: st, M) := st_iconst q32_51 (by decide +kernel)
theorem x32_51 {L : pj_Loc} {st : List Value} {M : pj_Mem}  {o9 : Option Value × pj_Mem} : pj_Ends 32 (51, L, st, M) o9 = pj_Ends 32 (52, L, .int 0 :: st, M) o9 := pj_xs (s32_51)
theorem q32_52 : pj_row 32 52 = some (.iconst 3, 1, 0, 0, 0) := by decide +kernel
theorem s32_52 {L : pj_Loc} {st : List Value} {M : pj_Mem}  : pj_step 32 (52, L, st, M) = some (53, L, .int 3 :: st, M) := st_iconst q32_52 (by decide +kernel)
theorem x32_52 {L : pj_Loc} {st : List Value} {M : pj_Mem}  {o9 : Option Value × pj_Mem} : pj_Ends 32 (52, L, st, M) o9 = pj_Ends 32 (53, L, .int 3 :: st, M) o9 := pj_xs (s32_52)
theorem q32_53 : pj_row 32 53 = some (.invokestatic 44, 3, 0, 5, 3) := by decide +kernel
theorem s32_53 {L : pj_Loc} {st : List Value} {N S : Nat} {H : pj_Heap} {d o : Nat} {n dp sp : Int32} : pj_step 32 (53, L, .int n :: .int dp :: .ref d :: .int sp :: .ref o :: st, (N, S, H)) = pj_g4 st (pj_set 56 L st (N, S, H) d (pj_cas (H o) (H d) sp dp n)) := st_acp q32_53
theorem x32_53 {L : pj_Loc} {st : List Value} {N S : Nat} {H : pj_Heap} {d o : Nat} {n dp sp : Int32} {o9 : Option Value × pj_Mem} : pj_Ends 32 (53, L, .int n :: .int dp :: .ref d :: .int sp :: .ref o :: st, (N, S, H)) o9 = pj_then 32 o9 (pj_g4 st (pj_set 56 L st (N, S, H) d (pj_cas (H o) (H d) sp dp n))) := pj_xt q32_53 rfl rfl (s32_53)
theorem q32_56 : pj_row 32 56 = some (.aload_n 1, 1, 0, 0, 0) := by decide +kernel
theorem s32_56 {st : List Value} {M : pj_Mem} {l : pj_Loc} {a0 : Option Value} {x : Nat} : pj_step 32 (56, a0 :: some (.ref x) :: l, st, M) = some (57, a0 :: some (.ref x) :: l, .ref x :: st, M) := st_aload_n q32_56 rfl
theorem x32_56 {st : List Value} {M : pj_Mem} {l : pj_Loc} {a0 : Option Value} {x : Nat} {o9 : Option Value × pj_Mem} : pj_Ends 32 (56, a0 :: some (.ref x) :: l, st, M) o9 = pj_Ends 32 (57, a0 :: some (.ref x) :: l, .ref x :: st, M) o9 := pj_xs (s32_56)
theorem q32_57 : pj_row 32 57 = some (.getfield 69, 3, 3, 5, 0) := by decide +kernel
theorem s32_57 {L : pj_Loc} {st : List Value} {N S : Nat} {H : pj_Heap} {o : Nat} : pj_step 32 (57, L, .ref o :: st, (N, S, H)) = pj_pv 60 L st (N, S, H) (pj_fld (H o) 3 5) := st_getfield q32_57
theorem x32_57 {L : pj_Loc} {st : List Value} {N S : Nat} {H : pj_Heap} {o : Nat} {o9 : Option Value × pj_Mem} : pj_Ends 32 (57, L, .ref o :: st, (N, S, H)) o9 = pj_then 32 o9 (pj_pv 60 L st (N, S, H) (pj_fld (H o) 3 5)) := pj_xt q32_57 rfl (pj_cl_nc rfl) (s32_57)
theorem q32_60 : pj_row 32 60 = some (.iconst 0, 1, 0, 0, 0) := by decide +kernel
theorem s32_60 {L : pj_Loc} {st : List Value} {M : pj_Mem}  : pj_step 32 (60, L, st, M) = some (61, L, .int 0 :: st, M) := st_iconst q32_60 (by decide +kernel)
theorem x32_60 {L : pj_Loc} {st : List Value} {M : pj_Mem}  {o9 : Option Value × pj_Mem} : pj_Ends 32 (60, L, st, M) o9 = pj_Ends 32 (61, L, .int 0 :: st, M) o9 := pj_xs (s32_60)
theorem q32_61 : pj_row 32 61 = some (.aload_n 0, 1, 0, 0, 0) := by decide +kernel
theorem s32_61 {st : List Value} {M : pj_Mem} {l : pj_Loc} {x : Nat} : pj_step 32 (61, some (.ref x) :: l, st, M) = some (62, some (.ref x) :: l, .ref x :: st, M) := st_aload_n q32_61 rfl
theorem x32_61 {st : List Value} {M : pj_Mem} {l : pj_Loc} {x : Nat} {o9 : Option Value × pj_Mem} : pj_Ends 32 (61, some (.ref x) :: l, st, M) o9 = pj_Ends 32 (62, some (.ref x) :: l, .ref x :: st, M) o9 := pj_xs (s32_61)
theorem q32_62 : pj_row 32 62 = some (.getfield 27, 3, 4, 5, 0) := by decide +kernel
theorem s32_62 {L : pj_Loc} {st : List Value} {N S : Nat} {H : pj_Heap} {o : Nat} : pj_step 32 (62, L, .ref o :: st, (N, S, H)) = pj_pv 65 L st (N, S, H) (pj_fld (H o) 4 5) := st_getfield q32_62
theorem x32_62 {L : pj_Loc} {st : List Value} {N S : Nat} {H : pj_Heap} {o : Nat} {o9 : Option Value × pj_Mem} : pj_Ends 32 (62, L, .ref o :: st, (N, S, H)) o9 = pj_then 32 o9 (pj_pv 65 L st (N, S, H) (pj_fld (H o) 4 5)) := pj_xt q32_62 rfl (pj_cl_nc rfl) (s32_62)
theorem q32_65 : pj_row 32 65 = some (.iconst 0, 1, 0, 0, 0) := by decide +kernel
theorem s32_65 {L : pj_Loc} {st : List Value} {M : pj_Mem}  : pj_step 32 (65, L, st, M) = some (66, L, .int 0 :: st, M) := st_iconst q32_65 (by decide +kernel)
theorem x32_65 {L : pj_Loc} {st : List Value} {M : pj_Mem}  {o9 : Option Value × pj_Mem} : pj_Ends 32 (65, L, st, M) o9 = pj_Ends 32 (66, L, .int 0 :: st, M) o9 := pj_xs (s32_65)
theorem q32_66 : pj_row 32 66 = some (.iconst 3, 1, 0, 0, 0) := by decide +kernel
theorem s32_66 {L : pj_Loc} {st : List Value} {M : pj_Mem}  : pj_step 32 (66, L, st, M) = some (67, L, .int 3 :: st, M) := st_iconst q32_66 (by decide +kernel)
theorem x32_66 {L : pj_Loc} {st : List Value} {M : pj_Mem}  {o9 : Option Value × pj_Mem} : pj_Ends 32 (66, L, st, M) o9 = pj_Ends 32 (67, L, .int 3 :: st, M) o9 := pj_xs (s32_66)
theorem q32_67 : pj_row 32 67 = some (.invokestatic 44, 3, 0, 5, 3) := by decide +kernel
theorem s32_67 {L : pj_Loc} {st : List Value} {N S : Nat} {H : pj_Heap} {d o : Nat} {n dp sp : Int32} : pj_step 32 (67, L, .int n :: .int dp :: .ref d :: .int sp :: .ref o :: st, (N, S, H)) = pj_g4 st (pj_set 70 L st (N, S, H) d (pj_cas (H o) (H d) sp dp n)) := st_acp q32_67
theorem x32_67 {L : pj_Loc} {st : List Value} {N S : Nat} {H : pj_Heap} {d o : Nat} {n dp sp : Int32} {o9 : Option Value × pj_Mem} : pj_Ends 32 (67, L, .int n :: .int dp :: .ref d :: .int sp :: .ref o :: st, (N, S, H)) o9 = pj_then 32 o9 (pj_g4 st (pj_set 70 L st (N, S, H) d (pj_cas (H o) (H d) sp dp n))) := pj_xt q32_67 rfl rfl (s32_67)
theorem q32_70 : pj_row 32 70 = some (.aload_n 0, 1, 0, 0, 0) := by decide +kernel
theorem s32_70 {st : List Value} {M : pj_Mem} {l : pj_Loc} {x : Nat} : pj_step 32 (70, some (.ref x) :: l, st, M) = some (71, some (.ref x) :: l, .ref x :: st, M) := st_aload_n q32_70 rfl
theorem x32_70 {st : List Value} {M : pj_Mem} {l : pj_Loc} {x : Nat} {o9 : Option Value × pj_Mem} : pj_Ends 32 (70, some (.ref x) :: l, st, M) o9 = pj_Ends 32 (71, some (.ref x) :: l, .ref x :: st, M) o9 := pj_xs (s32_70)
theorem q32_71 : pj_row 32 71 = some (.aload_n 1, 1, 0, 0, 0) := by decide +kernel
theorem s32_71 {st : List Value} {M : pj_Mem} {l : pj_Loc} {a0 : Option Value} {x : Nat} : pj_step 32 (71, a0 :: some (.ref x) :: l, st, M) = some (72, a0 :: some (.ref x) :: l, .ref x :: st, M) := st_aload_n q32_71 rfl
theorem x32_71 {st : List Value} {M : pj_Mem} {l : pj_Loc} {a0 : Option Value} {x : Nat} {o9 : Option Value × pj_Mem} : pj_Ends 32 (71, a0 :: some (.ref x) :: l, st, M) o9 = pj_Ends 32 (72, a0 :: some (.ref x) :: l, .ref x :: st, M) o9 := pj_xs (s32_71)
theorem q32_72 : pj_row 32 72 = some (.getfield 70, 3, 3, 8, 0) := by decide +kernel
theorem s32_72 {L : pj_Loc} {st : List Value} {N S : Nat} {H : pj_Heap} {o : Nat} : pj_step 32 (72, L, .ref o :: st, (N, S, H)) = pj_pv 75 L st (N, S, H) (pj_fld (H o) 3 8) := st_getfield q32_72
theorem x32_72 {L : pj_Loc} {st : List Value} {N S : Nat} {H : pj_Heap} {o : Nat} {o9 : Option Value × pj_Mem} : pj_Ends 32 (72, L, .ref o :: st, (N, S, H)) o9 = pj_then 32 o9 (pj_pv 75 L st (N, S, H) (pj_fld (H o) 3 8)) := pj_xt q32_72 rfl (pj_cl_nc rfl) (s32_72)
theorem q32_75 : pj_row 32 75 = some (.putfield 37, 3, 4, 7, 0) := by decide +kernel
theorem s32_75 {L : pj_Loc} {st : List Value} {N S : Nat} {H : pj_Heap} {o : Nat} {v : Value} : pj_step 32 (75, L, v :: .ref o :: st, (N, S, H)) = pj_set 78 L st (N, S, H) o (pj_fset (H o) 4 7 v) := st_putfield q32_75
theorem x32_75 {L : pj_Loc} {st : List Value} {N S : Nat} {H : pj_Heap} {o : Nat} {v : Value} {o9 : Option Value × pj_Mem} : pj_Ends 32 (75, L, v :: .ref o :: st, (N, S, H)) o9 = pj_then 32 o9 (pj_set 78 L st (N, S, H) o (pj_fset (H o) 4 7 v)) := pj_xt q32_75 rfl (pj_cl_nc rfl) (s32_75)
theorem q32_78 : pj_row 32 78 = some (.aload_n 0, 1, 0, 0, 0) := by decide +kernel
theorem s32_78 {st : List Value} {M : pj_Mem} {l : pj_Loc} {x : Nat} : pj_step 32 (78, some (.ref x) :: l, st, M) = some (79, some (.ref x) :: l, .ref x :: st, M) := st_aload_n q32_78 rfl
theorem x32_78 {st : List Value} {M : pj_Mem} {l : pj_Loc} {x : Nat} {o9 : Option Value × pj_Mem} : pj_Ends 32 (78, some (.ref x) :: l, st, M) o9 = pj_Ends 32 (79, some (.ref x) :: l, .ref x :: st, M) o9 := pj_xs (s32_78)
theorem q32_79 : pj_row 32 79 = some (.aload_n 1, 1, 0, 0, 0) := by decide +kernel
theorem s32_79 {st : List Value} {M : pj_Mem} {l : pj_Loc} {a0 : Option Value} {x : Nat} : pj_step 32 (79, a0 :: some (.ref x) :: l, st, M) = some (80, a0 :: some (.ref x) :: l, .ref x :: st, M) := st_aload_n q32_79 rfl
theorem x32_79 {st : List Value} {M : pj_Mem} {l : pj_Loc} {a0 : Option Value} {x : Nat} {o9 : Option Value × pj_Mem} : pj_Ends 32 (79, a0 :: some (.ref x) :: l, st, M) o9 = pj_Ends 32 (80, a0 :: some (.ref x) :: l, .ref x :: st, M) o9 := pj_xs (s32_79)
theorem q32_80 : pj_row 32 80 = some (.getfield 71, 3, 3, 10, 0) := by decide +kernel
theorem s32_80 {L : pj_Loc} {st : List Value} {N S : Nat} {H : pj_Heap} {o : Nat} : pj_step 32 (80, L, .ref o :: st, (N, S, H)) = pj_pv 83 L st (N, S, H) (pj_fld (H o) 3 10) := st_getfield q32_80
theorem x32_80 {L : pj_Loc} {st : List Value} {N S : Nat} {H : pj_Heap} {o : Nat} {o9 : Option Value × pj_Mem} : pj_Ends 32 (80, L, .ref o :: st, (N, S, H)) o9 = pj_then 32 o9 (pj_pv 83 L st (N, S, H) (pj_fld (H o) 3 10)) := pj_xt q32_80 rfl (pj_cl_nc rfl) (s32_80)
theorem q32_83 : pj_row 32 83 = some (.putfield 57, 3, 4, 9, 0) := by decide +kernel
theorem s32_83 {L : pj_Loc} {st : List Value} {N S : Nat} {H : pj_Heap} {o : Nat} {v : Value} : pj_step 32 (83, L, v :: .ref o :: st, (N, S, H)) = pj_set 86 L st (N, S, H) o (pj_fset (H o) 4 9 v) := st_putfield q32_83
theorem x32_83 {L : pj_Loc} {st : List Value} {N S : Nat} {H : pj_Heap} {o : Nat} {v : Value} {o9 : Option Value × pj_Mem} : pj_Ends 32 (83, L, v :: .ref o :: st, (N, S, H)) o9 = pj_then 32 o9 (pj_set 86 L st (N, S, H) o (pj_fset (H o) 4 9 v)) := pj_xt q32_83 rfl (pj_cl_nc rfl) (s32_83)
theorem q32_86 : pj_row 32 86 = some (.aload_n 0, 1, 0, 0, 0) := by decide +kernel
theorem s32_86 {st : List Value} {M : pj_Mem} {l : pj_Loc} {x : Nat} : pj_step 32 (86, some (.ref x) :: l, st, M) = some (87, some (.ref x) :: l, .ref x :: st, M) := st_aload_n q32_86 rfl
theorem x32_86 {st : List Value} {M : pj_Mem} {l : pj_Loc} {x : Nat} {o9 : Option Value × pj_Mem} : pj_Ends 32 (86, some (.ref x) :: l, st, M) o9 = pj_Ends 32 (87, some (.ref x) :: l, .ref x :: st, M) o9 := pj_xs (s32_86)
theorem q32_87 : pj_row 32 87 = some (.getfield 33, 3, 4, 6, 0) := by decide +kernel
theorem s32_87 {L : pj_Loc} {st : List Value} {N S : Nat} {H : pj_Heap} {o : Nat} : pj_step 32 (87, L, .ref o :: st, (N, S, H)) = pj_pv 90 L st (N, S, H) (pj_fld (H o) 4 6) := st_getfield q32_87
theorem x32_87 {L : pj_Loc} {st : List Value} {N S : Nat} {H : pj_Heap} {o : Nat} {o9 : Option Value × pj_Mem} : pj_Ends 32 (87, L, .ref o :: st, (N, S, H)) o9 = pj_then 32 o9 (pj_pv 90 L st (N, S, H) (pj_fld (H o) 4 6)) := pj_xt q32_87 rfl (pj_cl_nc rfl) (s32_87)
theorem q32_90 : pj_row 32 90 = some (.aload_n 1, 1, 0, 0, 0) := by decide +kernel
theorem s32_90 {st : List Value} {M : pj_Mem} {l : pj_Loc} {a0 : Option Value} {x : Nat} : pj_step 32 (90, a0 :: some (.ref x) :: l, st, M) = some (91, a0 :: some (.ref x) :: l, .ref x :: st, M) := st_aload_n q32_90 rfl
theorem x32_90 {st : List Value} {M : pj_Mem} {l : pj_Loc} {a0 : Option Value} {x : Nat} {o9 : Option Value × pj_Mem} : pj_Ends 32 (90, a0 :: some (.ref x) :: l, st, M) o9 = pj_Ends 32 (91, a0 :: some (.ref x) :: l, .ref x :: st, M) o9 := pj_xs (s32_90)
theorem q32_91 : pj_row 32 91 = some (.invokevirtual 72, 3, 33, 2, 0) := by decide +kernel
theorem e32_91 {L : pj_Loc} {st : List Value} {N S : Nat} {H : pj_Heap} {o : Option Value × pj_Mem} {M' : pj_Mem} {x0 : Nat} {x1 : Nat} (h4 : pj_le4 st = true) (hu : pj_isU 2 (H x0) = true) (h1 : pj_Ends 33 (0, [some (.ref x0), some (.ref x1)], [], (N, S, H)) (none, M')) (h2 : pj_Ends 32 (94, L, st, M') o) : pj_Ends 32 (91, L, .ref x1 :: .ref x0 :: st, (N, S, H)) o := ec_v2 q32_91 (Or.inl rfl) h4 hu rfl h1 h2
theorem q32_94 : pj_row 32 94 = some (.aload_n 0, 1, 0, 0, 0) := by decide +kernel
theorem s32_94 {st : List Value} {M : pj_Mem} {l : pj_Loc} {x : Nat} : pj_step 32 (94, some (.ref x) :: l, st, M) = some (95, some (.ref x) :: l, .ref x :: st, M) := st_aload_n q32_94 rfl
theorem x32_94 {st : List Value} {M : pj_Mem} {l : pj_Loc} {x : Nat} {o9 : Option Value × pj_Mem} : pj_Ends 32 (94, some (.ref x) :: l, st, M) o9 = pj_Ends 32 (95, some (.ref x) :: l, .ref x :: st, M) o9 := pj_xs (s32_94)
theorem q32_95 : pj_row 32 95 = some (.dup, 1, 0, 0, 0) := by decide +kernel
theorem s32_95 {L : pj_Loc} {st : List Value} {M : pj_Mem} {x : Nat} : pj_step 32 (95, L, .ref x :: st, M) = some (96, L, .ref x :: .ref x :: st, M) := st_dup_ref q32_95
theorem x32_95 {L : pj_Loc} {st : List Value} {M : pj_Mem} {x : Nat} {o9 : Option Value × pj_Mem} : pj_Ends 32 (95, L, .ref x :: st, M) o9 = pj_Ends 32 (96, L, .ref x :: .ref x :: st, M) o9 := pj_xs (s32_95)
theorem s32_95i {L : pj_Loc} {st : List Value} {M : pj_Mem} {x : Int32} : pj_step 32 (95, L, .int x :: st, M) = some (96, L, .int x :: .int x :: st, M) := st_dup_int q32_95
theorem x32_95i {L : pj_Loc} {st : List Value} {M : pj_Mem} {x : Int32} {o9 : Option Value × pj_Mem} : pj_Ends 32 (95, L, .int x :: st, M) o9 = pj_Ends 32 (96, L, .int x :: .int x :: st, M) o9 := pj_xs (s32_95i)
theorem q32_96 : pj_row 32 96 = some (.getfield 60, 3, 4, 10, 0) := by decide +kernel
theorem s32_96 {L : pj_Loc} {st : List Value} {N S : Nat} {H : pj_Heap} {o : Nat} : pj_step 32 (96, L, .ref o :: st, (N, S, H)) = pj_pv 99 L st (N, S, H) (pj_fld (H o) 4 10) := st_getfield q32_96
theorem x32_96 {L : pj_Loc} {st : List Value} {N S : Nat} {H : pj_Heap} {o : Nat} {o9 : Option Value × pj_Mem} : pj_Ends 32 (96, L, .ref o :: st, (N, S, H)) o9 = pj_then 32 o9 (pj_pv 99 L st (N, S, H) (pj_fld (H o) 4 10)) := pj_xt q32_96 rfl (pj_cl_nc rfl) (s32_96)
theorem q32_99 : pj_row 32 99 = some (.iconst 1, 1, 0, 0, 0) := by decide +kernel
theorem s32_99 {L : pj_Loc} {st : List Value} {M : pj_Mem}  : pj_step 32 (99, L, st, M) = some (100, L, .int 1 :: st, M) := st_iconst q32_99 (by decide +kernel)
theorem x32_99 {L : pj_Loc} {st : List Value} {M : pj_Mem}  {o9 : Option Value × pj_Mem} : pj_Ends 32 (99, L, st, M) o9 = pj_Ends 32 (100, L, .int 1 :: st, M) o9 := pj_xs (s32_99)
theorem q32_100 : pj_row 32 100 = some (.iadd, 1, 0, 0, 0) := by decide +kernel
theorem s32_100 {L : pj_Loc} {st : List Value} {M : pj_Mem} {x y : Int32} : pj_step 32 (100, L, .int y :: .int x :: st, M) = some (101, L, .int (x + y) :: st, M) := st_iadd q32_100
theorem x32_100 {L : pj_Loc} {st : List Value} {M : pj_Mem} {x y : Int32} {o9 : Option Value × pj_Mem} : pj_Ends 32 (100, L, .int y :: .int x :: st, M) o9 = pj_Ends 32 (101, L, .int (x + y) :: st, M) o9 := pj_xs (s32_100)
theorem q32_101 : pj_row 32 101 = some (.putfield 60, 3, 4, 10, 0) := by decide +kernel
theorem s32_101 {L : pj_Loc} {st : List Value} {N S : Nat} {H : pj_Heap} {o : Nat} {v : Value} : pj_step 32 (101, L, v :: .ref o :: st, (N, S, H)) = pj_set 104 L st (N, S, H) o (pj_fset (H o) 4 10 v) := st_putfield q32_101
theorem x32_101 {L : pj_Loc} {st : List Value} {N S : Nat} {H : pj_Heap} {o : Nat} {v : Value} {o9 : Option Value × pj_Mem} : pj_Ends 32 (101, L, v :: .ref o :: st, (N, S, H)) o9 = pj_then 32 o9 (pj_set 104 L st (N, S, H) o (pj_fset (H o) 4 10 v)) := pj_xt q32_101 rfl (pj_cl_nc rfl) (s32_101)
theorem q32_104 : pj_row 32 104 = some (.return_, 1, 0, 0, 0) := by decide +kernel
theorem t32_104 {L : pj_Loc} {M : pj_Mem} : pj_Ends 32 (104, L, [], M) (none, M) := pj_Ends.ret q32_104 (pj_rtn_v rt32)
theorem rt33 : pj_rt 33 = none := rfl
theorem q33_0 : pj_row 33 0 = some (.aload_n 0, 1, 0, 0, 0) := by decide +kernel
theorem s33_0 {st : List Value} {M : pj_Mem} {l : pj_Loc} {x : Nat} : pj_step 33 (0, some (.ref x) :: l, st, M) = some (1, some (.ref x) :: l, .ref x :: st, M) := st_aload_n q33_0 rfl
theorem x33_0 {st : List Value} {M : pj_Mem} {l : pj_Loc} {x : Nat} {o9 : Option Value × pj_Mem} : pj_Ends 33 (0, some (.ref x) :: l, st, M) o9 = pj_Ends 33 (1, some (.ref x) :: l, .ref x :: st, M) o9 := pj_xs (s33_0)
theorem q33_1 : pj_row 33 1 = some (.aload_n 1, 1, 0, 0, 0) := by decide +kernel
theorem s33_1 {st : List Value} {M : pj_Mem} {l : pj_Loc} {a0 : Option Value} {x : Nat} : pj_step 33 (1, a0 :: some (.ref x) :: l, st, M) = some (2, a0 :: some (.ref x) :: l, .ref x :: st, M) := st_aload_n q33_1 rfl
theorem x33_1 {st : List Value} {M : pj_Mem} {l : pj_Loc} {a0 : Option Value} {x : Nat} {o9 : Option Value × pj_Mem} : pj_Ends 33 (1, a0 :: some (.ref x) :: l, st, M) o9 = pj_Ends 33 (2, a0 :: some (.ref x) :: l, .ref x :: st, M) o9 := pj_xs (s33_1)
theorem q33_2 : pj_row 33 2 = some (.getfield 28, 3, 3, 7, 0) := by decide +kernel
theorem s33_2 {L : pj_Loc} {st : List Value} {N S : Nat} {H : pj_Heap} {o : Nat} : pj_step 33 (2, L, .ref o :: st, (N, S, H)) = pj_pv 5 L st (N, S, H) (pj_fld (H o) 3 7) := st_getfield q33_2
theorem x33_2 {L : pj_Loc} {st : List Value} {N S : Nat} {H : pj_Heap} {o : Nat} {o9 : Option Value × pj_Mem} : pj_Ends 33 (2, L, .ref o :: st, (N, S, H)) o9 = pj_then 33 o9 (pj_pv 5 L st (N, S, H) (pj_fld (H o) 3 7)) := pj_xt q33_2 rfl (pj_cl_nc rfl) (s33_2)
theorem q33_5 : pj_row 33 5 = some (.invokevirtual 33, 3, 34, 2, 0) := by decide +kernel
theorem e33_5 {L : pj_Loc} {st : List Value} {N S : Nat} {H : pj_Heap} {o : Option Value × pj_Mem} {M' : pj_Mem} {x0 : Nat} {x1 : Int32} {r : Int32} (h4 : pj_le4 st = true) (hu : pj_isU 2 (H x0) = true) (h1 : pj_Ends 34 (0, [some (.ref x0), some (.int x1)], [], (N, S, H)) (some (.int r), M')) (h2 : pj_Ends 33 (8, L, .int r :: st, M') o) : pj_Ends 33 (5, L, .int x1 :: .ref x0 :: st, (N, S, H)) o := ec_v2 q33_5 (Or.inl rfl) h4 hu rfl h1 h2
theorem q33_8 : pj_row 33 8 = some (.ifCond .ne 4, 3, 12, 0, 0) := by decide +kernel
theorem s33_8 {L : pj_Loc} {st : List Value} {M : pj_Mem} {x : Int32} : pj_step 33 (8, L, .int x :: st, M) = some (if ¬ x = 0 then 12 else 11, L, st, M) := st_if_ne q33_8
theorem x33_8 {L : pj_Loc} {st : List Value} {M : pj_Mem} {x : Int32} {o9 : Option Value × pj_Mem} : pj_Ends 33 (8, L, .int x :: st, M) o9 = pj_Ends 33 (if ¬ x = 0 then 12 else 11, L, st, M) o9 := pj_xs (s33_8)
theorem q33_11 : pj_row 33 11 = some (.return_, 1, 0, 0, 0) := by decide +kernel
theorem t33_11 {L : pj_Loc} {M : pj_Mem} : pj_Ends 33 (11, L, [], M) (none, M) := pj_Ends.ret q33_11 (pj_rtn_v rt33)
theorem q33_12 : pj_row 33 12 = some (.aload_n 0, 1, 0, 0, 0) := by decide +kernel
theorem s33_12 {st : List Value} {M : pj_Mem} {l : pj_Loc} {x : Nat} : pj_step 33 (12, some (.ref x) :: l, st, M) = some (13, some (.ref x) :: l, .ref x :: st, M) := st_aload_n q33_12 rfl
theorem x33_12 {st : List Value} {M : pj_Mem} {l : pj_Loc} {x : Nat} {o9 : Option Value × pj_Mem} : pj_Ends 33 (12, some (.ref x) :: l, st, M) o9 = pj_Ends 33 (13, some (.ref x) :: l, .ref x :: st, M) o9 := pj_xs (s33_12)
theorem q33_13 : pj_row 33 13 = some (.getfield 25, 3, 2, 1, 0) := by decide +kernel
theorem s33_13 {L : pj_Loc} {st : List Value} {N S : Nat} {H : pj_Heap} {o : Nat} : pj_step 33 (13, L, .ref o :: st, (N, S, H)) = pj_pv 16 L st (N, S, H) (pj_fld (H o) 2 1) := st_getfield q33_13
theorem x33_13 {L : pj_Loc} {st : List Value} {N S : Nat} {H : pj_Heap} {o : Nat} {o9 : Option Value × pj_Mem} : pj_Ends 33 (13, L, .ref o :: st, (N, S, H)) o9 = pj_then 33 o9 (pj_pv 16 L st (N, S, H) (pj_fld (H o) 2 1)) := pj_xt q33_13 rfl (pj_cl_nc rfl) (s33_13)
theorem q33_16 : pj_row 33 16 = some (.bipush 12, 2, 0, 0, 0) := by decide +kernel
theorem s33_16 {L : pj_Loc} {st : List Value} {M : pj_Mem}  : pj_step 33 (16, L, st, M) = some (18, L, .int 12 :: st, M) := st_bipush q33_16 (by decide +kernel)
theorem x33_16 {L : pj_Loc} {st : List Value} {M : pj_Mem}  {o9 : Option Value × pj_Mem} : pj_Ends 33 (16, L, st, M) o9 = pj_Ends 33 (18, L, .int 12 :: st, M) o9 := pj_xs (s33_16)
theorem q33_18 : pj_row 33 18 = some (.if_icmp .lt 7, 3, 25, 0, 0) := by decide +kernel
theorem s33_18 {L : pj_Loc} {st : List Value} {M : pj_Mem} {x y : Int32} : pj_step 33 (18, L, .int y :: .int x :: st, M) = some (if x < y then 25 else 21, L, st, M) := st_icmp_lt q33_18
theorem x33_18 {L : pj_Loc} {st : List Value} {M : pj_Mem} {x y : Int32} {o9 : Option Value × pj_Mem} : pj_Ends 33 (18, L, .int y :: .int x :: st, M) o9 = pj_Ends 33 (if x < y then 25 else 21, L, st, M) o9 := pj_xs (s33_18)
theorem q33_21 : pj_row 33 21 = some (.aload_n 0, 1, 0, 0, 0) := by decide +kernel
theorem s33_21 {st : List Value} {M : pj_Mem} {l : pj_Loc} {x : Nat} : pj_step 33 (21, some (.ref x) :: l, st, M) = some (22, some (.ref x) :: l, .ref x :: st, M) := st_aload_n q33_21 rfl
theorem x33_21 {st : List Value} {M : pj_Mem} {l : pj_Loc} {x : Nat} {o9 : Option Value × pj_Mem} : pj_Ends 33 (21, some (.ref x) :: l, st, M) o9 = pj_Ends 33 (22, some (.ref x) :: l, .ref x :: st, M) o9 := pj_xs (s33_21)
theorem q33_22 : pj_row 33 22 = some (.invokevirtual 37, 3, 35, 1, 0) := by decide +kernel
theorem e33_22 {L : pj_Loc} {st : List Value} {N S : Nat} {H : pj_Heap} {o : Option Value × pj_Mem} {M' : pj_Mem} {x0 : Nat} (h4 : pj_le4 st = true) (hu : pj_isU 2 (H x0) = true) (h1 : pj_Ends 35 (0, [some (.ref x0)], [], (N, S, H)) (none, M')) (h2 : pj_Ends 33 (25, L, st, M') o) : pj_Ends 33 (22, L, .ref x0 :: st, (N, S, H)) o := ec_v1 q33_22 (Or.inl rfl) h4 hu rfl h1 h2
theorem q33_25 : pj_row 33 25 = some (.aload_n 0, 1, 0, 0, 0) := by decide +kernel
theorem s33_25 {st : List Value} {M : pj_Mem} {l : pj_Loc} {x : Nat} : pj_step 33 (25, some (.ref x) :: l, st, M) = some (26, some (.ref x) :: l, .ref x :: st, M) := st_aload_n q33_25 rfl
theorem x33_25 {st : List Value} {M : pj_Mem} {l : pj_Loc} {x : Nat} {o9 : Option Value × pj_Mem} : pj_Ends 33 (25, some (.ref x) :: l, st, M) o9 = pj_Ends 33 (26, some (.ref x) :: l, .ref x :: st, M) o9 := pj_xs (s33_25)
theorem q33_26 : pj_row 33 26 = some (.aload_n 1, 1, 0, 0, 0) := by decide +kernel
theorem s33_26 {st : List Value} {M : pj_Mem} {l : pj_Loc} {a0 : Option Value} {x : Nat} : pj_step 33 (26, a0 :: some (.ref x) :: l, st, M) = some (27, a0 :: some (.ref x) :: l, .ref x :: st, M) := st_aload_n q33_26 rfl
theorem x33_26 {st : List Value} {M : pj_Mem} {l : pj_Loc} {a0 : Option Value} {x : Nat} {o9 : Option Value × pj_Mem} : pj_Ends 33 (26, a0 :: some (.ref x) :: l, st, M) o9 = pj_Ends 33 (27, a0 :: some (.ref x) :: l, .ref x :: st, M) o9 := pj_xs (s33_26)
theorem q33_27 : pj_row 33 27 = some (.aload_n 0, 1, 0, 0, 0) := by decide +kernel
theorem s33_27 {st : List Value} {M : pj_Mem} {l : pj_Loc} {x : Nat} : pj_step 33 (27, some (.ref x) :: l, st, M) = some (28, some (.ref x) :: l, .ref x :: st, M) := st_aload_n q33_27 rfl
theorem x33_27 {st : List Value} {M : pj_Mem} {l : pj_Loc} {x : Nat} {o9 : Option Value × pj_Mem} : pj_Ends 33 (27, some (.ref x) :: l, st, M) o9 = pj_Ends 33 (28, some (.ref x) :: l, .ref x :: st, M) o9 := pj_xs (s33_27)
theorem q33_28 : pj_row 33 28 = some (.getfield 25, 3, 2, 1, 0) := by decide +kernel
theorem s33_28 {L : pj_Loc} {st : List Value} {N S : Nat} {H : pj_Heap} {o : Nat} : pj_step 33 (28, L, .ref o :: st, (N, S, H)) = pj_pv 31 L st (N, S, H) (pj_fld (H o) 2 1) := st_getfield q33_28
theorem x33_28 {L : pj_Loc} {st : List Value} {N S : Nat} {H : pj_Heap} {o : Nat} {o9 : Option Value × pj_Mem} : pj_Ends 33 (28, L, .ref o :: st, (N, S, H)) o9 = pj_then 33 o9 (pj_pv 31 L st (N, S, H) (pj_fld (H o) 2 1)) := pj_xt q33_28 rfl (pj_cl_nc rfl) (s33_28)
theorem q33_31 : pj_row 33 31 = some (.bipush 10, 2, 0, 0, 0) := by decide +kernel
theorem s33_31 {L : pj_Loc} {st : List Value} {M : pj_Mem}  : pj_step 33 (31, L, st, M) = some (33, L, .int 10 :: st, M) := st_bipush q33_31 (by decide +kernel)
theorem x33_31 {L : pj_Loc} {st : List Value} {M : pj_Mem}  {o9 : Option Value × pj_Mem} : pj_Ends 33 (31, L, st, M) o9 = pj_Ends 33 (33, L, .int 10 :: st, M) o9 := pj_xs (s33_31)
theorem q33_33 : pj_row 33 33 = some (.imul, 1, 0, 0, 0) := by decide +kernel
theorem s33_33 {L : pj_Loc} {st : List Value} {M : pj_Mem} {x y : Int32} : pj_step 33 (33, L, .int y :: .int x :: st, M) = some (34, L, .int (x * y) :: st, M) := st_imul q33_33
theorem x33_33 {L : pj_Loc} {st : List Value} {M : pj_Mem} {x y : Int32} {o9 : Option Value × pj_Mem} : pj_Ends 33 (33, L, .int y :: .int x :: st, M) o9 = pj_Ends 33 (34, L, .int (x * y) :: st, M) o9 := pj_xs (s33_33)
theorem q33_34 : pj_row 33 34 = some (.invokevirtual 40, 3, 36, 3, 0) := by decide +kernel
theorem e33_34 {L : pj_Loc} {st : List Value} {N S : Nat} {H : pj_Heap} {o : Option Value × pj_Mem} {M' : pj_Mem} {x0 : Nat} {x1 : Nat} {x2 : Int32} (h4 : pj_le4 st = true) (hu : pj_isU 2 (H x0) = true) (h1 : pj_Ends 36 (0, [some (.ref x0), some (.ref x1), some (.int x2), none], [], (N, S, H)) (none, M')) (h2 : pj_Ends 33 (37, L, st, M') o) : pj_Ends 33 (34, L, .int x2 :: .ref x1 :: .ref x0 :: st, (N, S, H)) o := ec_v3 q33_34 (Or.inl rfl) h4 hu rfl h1 h2
theorem q33_37 : pj_row 33 37 = some (.aload_n 0, 1, 0, 0, 0) := by decide +kernel
theorem s33_37 {st : List Value} {M : pj_Mem} {l : pj_Loc} {x : Nat} : pj_step 33 (37, some (.ref x) :: l, st, M) = some (38, some (.ref x) :: l, .ref x :: st, M) := st_aload_n q33_37 rfl
theorem x33_37 {st : List Value} {M : pj_Mem} {l : pj_Loc} {x : Nat} {o9 : Option Value × pj_Mem} : pj_Ends 33 (37, some (.ref x) :: l, st, M) o9 = pj_Ends 33 (38, some (.ref x) :: l, .ref x :: st, M) o9 := pj_xs (s33_37)
theorem q33_38 : pj_row 33 38 = some (.dup, 1, 0, 0, 0) := by decide +kernel
theorem s33_38 {L : pj_Loc} {st : List Value} {M : pj_Mem} {x : Nat} : pj_step 33 (38, L, .ref x :: st, M) = some (39, L, .ref x :: .ref x :: st, M) := st_dup_ref q33_38
theorem x33_38 {L : pj_Loc} {st : List Value} {M : pj_Mem} {x : Nat} {o9 : Option Value × pj_Mem} : pj_Ends 33 (38, L, .ref x :: st, M) o9 = pj_Ends 33 (39, L, .ref x :: .ref x :: st, M) o9 := pj_xs (s33_38)
theorem s33_38i {L : pj_Loc} {st : List Value} {M : pj_Mem} {x : Int32} : pj_step 33 (38, L, .int x :: st, M) = some (39, L, .int x :: .int x :: st, M) := st_dup_int q33_38
theorem x33_38i {L : pj_Loc} {st : List Value} {M : pj_Mem} {x : Int32} {o9 : Option Value × pj_Mem} : pj_Ends 33 (38, L, .int x :: st, M) o9 = pj_Ends 33 (39, L, .int x :: .int x :: st, M) o9 := pj_xs (s33_38i)
theorem q33_39 : pj_row 33 39 = some (.getfield 25, 3, 2, 1, 0) := by decide +kernel
theorem s33_39 {L : pj_Loc} {st : List Value} {N S : Nat} {H : pj_Heap} {o : Nat} : pj_step 33 (39, L, .ref o :: st, (N, S, H)) = pj_pv 42 L st (N, S, H) (pj_fld (H o) 2 1) := st_getfield q33_39
theorem x33_39 {L : pj_Loc} {st : List Value} {N S : Nat} {H : pj_Heap} {o : Nat} {o9 : Option Value × pj_Mem} : pj_Ends 33 (39, L, .ref o :: st, (N, S, H)) o9 = pj_then 33 o9 (pj_pv 42 L st (N, S, H) (pj_fld (H o) 2 1)) := pj_xt q33_39 rfl (pj_cl_nc rfl) (s33_39)
theorem q33_42 : pj_row 33 42 = some (.iconst 1, 1, 0, 0, 0) := by decide +kernel
theorem s33_42 {L : pj_Loc} {st : List Value} {M : pj_Mem}  : pj_step 33 (42, L, st, M) = some (43, L, .int 1 :: st, M) := st_iconst q33_42 (by decide +kernel)
theorem x33_42 {L : pj_Loc} {st : List Value} {M : pj_Mem}  {o9 : Option Value × pj_Mem} : pj_Ends 33 (42, L, st, M) o9 = pj_Ends 33 (43, L, .int 1 :: st, M) o9 := pj_xs (s33_42)
theorem q33_43 : pj_row 33 43 = some (.iadd, 1, 0, 0, 0) := by decide +kernel
theorem s33_43 {L : pj_Loc} {st : List Value} {M : pj_Mem} {x y : Int32} : pj_step 33 (43, L, .int y :: .int x :: st, M) = some (44, L, .int (x + y) :: st, M) := st_iadd q33_43
theorem x33_43 {L : pj_Loc} {st : List Value} {M : pj_Mem} {x y : Int32} {o9 : Option Value × pj_Mem} : pj_Ends 33 (43, L, .int y :: .int x :: st, M) o9 = pj_Ends 33 (44, L, .int (x + y) :: st, M) o9 := pj_xs (s33_43)
theorem q33_44 : pj_row 33 44 = some (.putfield 25, 3, 2, 1, 0) := by decide +kernel
theorem s33_44 {L : pj_Loc} {st : List Value} {N S : Nat} {H : pj_Heap} {o : Nat} {v : Value} : pj_step 33 (44, L, v :: .ref o :: st, (N, S, H)) = pj_set 47 L st (N, S, H) o (pj_fset (H o) 2 1 v) := st_putfield q33_44
theorem x33_44 {L : pj_Loc} {st : List Value} {N S : Nat} {H : pj_Heap} {o : Nat} {v : Value} {o9 : Option Value × pj_Mem} : pj_Ends 33 (44, L, v :: .ref o :: st, (N, S, H)) o9 = pj_then 33 o9 (pj_set 47 L st (N, S, H) o (pj_fset (H o) 2 1 v)) := pj_xt q33_44 rfl (pj_cl_nc rfl) (s33_44)
theorem q33_47 : pj_row 33 47 = some (.aload_n 0, 1, 0, 0, 0) := by decide +kernel
theorem s33_47 {st : List Value} {M : pj_Mem} {l : pj_Loc} {x : Nat} : pj_step 33 (47, some (.ref x) :: l, st, M) = some (48, some (.ref x) :: l, .ref x :: st, M) := st_aload_n q33_47 rfl
theorem x33_47 {st : List Value} {M : pj_Mem} {l : pj_Loc} {x : Nat} {o9 : Option Value × pj_Mem} : pj_Ends 33 (47, some (.ref x) :: l, st, M) o9 = pj_Ends 33 (48, some (.ref x) :: l, .ref x :: st, M) o9 := pj_xs (s33_47)
theorem q33_48 : pj_row 33 48 = some (.getfield 15, 3, 2, 2, 0) := by decide +kernel
theorem s33_48 {L : pj_Loc} {st : List Value} {N S : Nat} {H : pj_Heap} {o : Nat} : pj_step 33 (48, L, .ref o :: st, (N, S, H)) = pj_pv 51 L st (N, S, H) (pj_fld (H o) 2 2) := st_getfield q33_48
theorem x33_48 {L : pj_Loc} {st : List Value} {N S : Nat} {H : pj_Heap} {o : Nat} {o9 : Option Value × pj_Mem} : pj_Ends 33 (48, L, .ref o :: st, (N, S, H)) o9 = pj_then 33 o9 (pj_pv 51 L st (N, S, H) (pj_fld (H o) 2 2)) := pj_xt q33_48 rfl (pj_cl_nc rfl) (s33_48)
theorem q33_51 : pj_row 33 51 = some (.bipush (-6), 2, 0, 0, 0) := by decide +kernel
theorem s33_51 {L : pj_Loc} {st : List Value} {M : pj_Mem}  : pj_step 33 (51, L, st, M) = some (53, L, .int (-6) :: st, M) := st_bipush q33_51 (by decide +kernel)
theorem x33_51 {L : pj_Loc} {st : List Value} {M : pj_Mem}  {o9 : Option Value × pj_Mem} : pj_Ends 33 (51, L, st, M) o9 = pj_Ends 33 (53, L, .int (-6) :: st, M) o9 := pj_xs (s33_51)
theorem q33_53 : pj_row 33 53 = some (.if_icmp .ne 18, 3, 71, 0, 0) := by decide +kernel
theorem s33_53 {L : pj_Loc} {st : List Value} {M : pj_Mem} {x y : Int32} : pj_step 33 (53, L, .int y :: .int x :: st, M) = some (if ¬ x = y then 71 else 56, L, st, M) := st_icmp_ne q33_53
theorem x33_53 {L : pj_Loc} {st : List Value} {M : pj_Mem} {x y : Int32} {o9 : Option Value × pj_Mem} : pj_Ends 33 (53, L, .int y :: .int x :: st, M) o9 = pj_Ends 33 (if ¬ x = y then 71 else 56, L, st, M) o9 := pj_xs (s33_53)
theorem q33_56 : pj_row 33 56 = some (.aload_n 1, 1, 0, 0, 0) := by decide +kernel
theorem s33_56 {st : List Value} {M : pj_Mem} {l : pj_Loc} {a0 : Option Value} {x : Nat} : pj_step 33 (56, a0 :: some (.ref x) :: l, st, M) = some (57, a0 :: some (.ref x) :: l, .ref x :: st, M) := st_aload_n q33_56 rfl
theorem x33_56 {st : List Value} {M : pj_Mem} {l : pj_Loc} {a0 : Option Value} {x : Nat} {o9 : Option Value × pj_Mem} : pj_Ends 33 (56, a0 :: some (.ref x) :: l, st, M) o9 = pj_Ends 33 (57, a0 :: some (.ref x) :: l, .ref x :: st, M) o9 := pj_xs (s33_56)
theorem q33_57 : pj_row 33 57 = some (.getfield 44, 3, 3, 13, 0) := by decide +kernel
theorem s33_57 {L : pj_Loc} {st : List Value} {N S : Nat} {H : pj_Heap} {o : Nat} : pj_step 33 (57, L, .ref o :: st, (N, S, H)) = pj_pv 60 L st (N, S, H) (pj_fld (H o) 3 13) := st_getfield q33_57
theorem x33_57 {L : pj_Loc} {st : List Value} {N S : Nat} {H : pj_Heap} {o : Nat} {o9 : Option Value × pj_Mem} : pj_Ends 33 (57, L, .ref o :: st, (N, S, H)) o9 = pj_then 33 o9 (pj_pv 60 L st (N, S, H) (pj_fld (H o) 3 13)) := pj_xt q33_57 rfl (pj_cl_nc rfl) (s33_57)
theorem q33_60 : pj_row 33 60 = some (.ifCond .eq 11, 3, 71, 0, 0) := by decide +kernel
theorem s33_60 {L : pj_Loc} {st : List Value} {M : pj_Mem} {x : Int32} : pj_step 33 (60, L, .int x :: st, M) = some (if x = 0 then 71 else 63, L, st, M) := st_if_eq q33_60
theorem x33_60 {L : pj_Loc} {st : List Value} {M : pj_Mem} {x : Int32} {o9 : Option Value × pj_Mem} : pj_Ends 33 (60, L, .int x :: st, M) o9 = pj_Ends 33 (if x = 0 then 71 else 63, L, st, M) o9 := pj_xs (s33_60)
theorem q33_63 : pj_row 33 63 = some (.aload_n 0, 1, 0, 0, 0) := by decide +kernel
theorem s33_63 {st : List Value} {M : pj_Mem} {l : pj_Loc} {x : Nat} : pj_step 33 (63, some (.ref x) :: l, st, M) = some (64, some (.ref x) :: l, .ref x :: st, M) := st_aload_n q33_63 rfl
theorem x33_63 {st : List Value} {M : pj_Mem} {l : pj_Loc} {x : Nat} {o9 : Option Value × pj_Mem} : pj_Ends 33 (63, some (.ref x) :: l, st, M) o9 = pj_Ends 33 (64, some (.ref x) :: l, .ref x :: st, M) o9 := pj_xs (s33_63)
theorem q33_64 : pj_row 33 64 = some (.aload_n 1, 1, 0, 0, 0) := by decide +kernel
theorem s33_64 {st : List Value} {M : pj_Mem} {l : pj_Loc} {a0 : Option Value} {x : Nat} : pj_step 33 (64, a0 :: some (.ref x) :: l, st, M) = some (65, a0 :: some (.ref x) :: l, .ref x :: st, M) := st_aload_n q33_64 rfl
theorem x33_64 {st : List Value} {M : pj_Mem} {l : pj_Loc} {a0 : Option Value} {x : Nat} {o9 : Option Value × pj_Mem} : pj_Ends 33 (64, a0 :: some (.ref x) :: l, st, M) o9 = pj_Ends 33 (65, a0 :: some (.ref x) :: l, .ref x :: st, M) o9 := pj_xs (s33_64)
theorem q33_65 : pj_row 33 65 = some (.getfield 28, 3, 3, 7, 0) := by decide +kernel
theorem s33_65 {L : pj_Loc} {st : List Value} {N S : Nat} {H : pj_Heap} {o : Nat} : pj_step 33 (65, L, .ref o :: st, (N, S, H)) = pj_pv 68 L st (N, S, H) (pj_fld (H o) 3 7) := st_getfield q33_65
theorem x33_65 {L : pj_Loc} {st : List Value} {N S : Nat} {H : pj_Heap} {o : Nat} {o9 : Option Value × pj_Mem} : pj_Ends 33 (65, L, .ref o :: st, (N, S, H)) o9 = pj_then 33 o9 (pj_pv 68 L st (N, S, H) (pj_fld (H o) 3 7)) := pj_xt q33_65 rfl (pj_cl_nc rfl) (s33_65)
theorem q33_68 : pj_row 33 68 = some (.putfield 15, 3, 2, 2, 0) := by decide +kernel
theorem s33_68 {L : pj_Loc} {st : List Value} {N S : Nat} {H : pj_Heap} {o : Nat} {v : Value} : pj_step 33 (68, L, v :: .ref o :: st, (N, S, H)) = pj_set 71 L st (N, S, H) o (pj_fset (H o) 2 2 v) := st_putfield q33_68
theorem x33_68 {L : pj_Loc} {st : List Value} {N S : Nat} {H : pj_Heap} {o : Nat} {v : Value} {o9 : Option Value × pj_Mem} : pj_Ends 33 (68, L, v :: .ref o :: st, (N, S, H)) o9 = pj_then 33 o9 (pj_set 71 L st (N, S, H) o (pj_fset (H o) 2 2 v)) := pj_xt q33_68 rfl (pj_cl_nc rfl) (s33_68)
theorem q33_71 : pj_row 33 71 = some (.return_, 1, 0, 0, 0) := by decide +kernel
theorem t33_71 {L : pj_Loc} {M : pj_Mem} : pj_Ends 33 (71, L, [], M) (none, M) := pj_Ends.ret q33_71 (pj_rtn_v rt33)
theorem rt34 : pj_rt 34 = some .boolean := rfl
theorem q34_0 : pj_row 34 0 = some (.aload_n 0, 1, 0, 0, 0) := by decide +kernel
theorem s34_0 {st : List Value} {M : pj_Mem} {l : pj_Loc} {x : Nat} : pj_step 34 (0, some (.ref x) :: l, st, M) = some (1, some (.ref x) :: l, .ref x :: st, M) := st_aload_n q34_0 rfl
theorem x34_0 {st : List Value} {M : pj_Mem} {l : pj_Loc} {x : Nat} {o9 : Option Value × pj_Mem} : pj_Ends 34 (0, some (.ref x) :: l, st, M) o9 = pj_Ends 34 (1, some (.ref x) :: l, .ref x :: st, M) o9 := pj_xs (s34_0)
theorem q34_1 : pj_row 34 1 = some (.getfield 15, 3, 2, 2, 0) := by decide +kernel
theorem s34_1 {L : pj_Loc} {st : List Value} {N S : Nat} {H : pj_Heap} {o : Nat} : pj_step 34 (1, L, .ref o :: st, (N, S, H)) = pj_pv 4 L st (N, S, H) (pj_fld (H o) 2 2) := st_getfield q34_1
theorem x34_1 {L : pj_Loc} {st : List Value} {N S : Nat} {H : pj_Heap} {o : Nat} {o9 : Option Value × pj_Mem} : pj_Ends 34 (1, L, .ref o :: st, (N, S, H)) o9 = pj_then 34 o9 (pj_pv 4 L st (N, S, H) (pj_fld (H o) 2 2)) := pj_xt q34_1 rfl (pj_cl_nc rfl) (s34_1)
theorem q34_4 : pj_row 34 4 = some (.bipush (-6), 2, 0, 0, 0) := by decide +kernel
theorem s34_4 {L : pj_Loc} {st : List Value} {M : pj_Mem}  : pj_step 34 (4, L, st, M) = some (6, L, .int (-6) :: st, M) := st_bipush q34_4 (by decide +kernel)
theorem x34_4 {L : pj_Loc} {st : List Value} {M : pj_Mem}  {o9 : Option Value × pj_Mem} : pj_Ends 34 (4, L, st, M) o9 = pj_Ends 34 (6, L, .int (-6) :: st, M) o9 := pj_xs (s34_4)
theorem q34_6 : pj_row 34 6 = some (.if_icmp .eq 14, 3, 20, 0, 0) := by decide +kernel
theorem s34_6 {L : pj_Loc} {st : List Value} {M : pj_Mem} {x y : Int32} : pj_step 34 (6, L, .int y :: .int x :: st, M) = some (if x = y then 20 else 9, L, st, M) := st_icmp_eq q34_6
theorem x34_6 {L : pj_Loc} {st : List Value} {M : pj_Mem} {x y : Int32} {o9 : Option Value × pj_Mem} : pj_Ends 34 (6, L, .int y :: .int x :: st, M) o9 = pj_Ends 34 (if x = y then 20 else 9, L, st, M) o9 := pj_xs (s34_6)
theorem q34_9 : pj_row 34 9 = some (.iload_n 1, 1, 0, 0, 0) := by decide +kernel
theorem s34_9 {st : List Value} {M : pj_Mem} {l : pj_Loc} {a0 : Option Value} {x : Int32} : pj_step 34 (9, a0 :: some (.int x) :: l, st, M) = some (10, a0 :: some (.int x) :: l, .int x :: st, M) := st_iload_n q34_9 rfl
theorem x34_9 {st : List Value} {M : pj_Mem} {l : pj_Loc} {a0 : Option Value} {x : Int32} {o9 : Option Value × pj_Mem} : pj_Ends 34 (9, a0 :: some (.int x) :: l, st, M) o9 = pj_Ends 34 (10, a0 :: some (.int x) :: l, .int x :: st, M) o9 := pj_xs (s34_9)
theorem q34_10 : pj_row 34 10 = some (.aload_n 0, 1, 0, 0, 0) := by decide +kernel
theorem s34_10 {st : List Value} {M : pj_Mem} {l : pj_Loc} {x : Nat} : pj_step 34 (10, some (.ref x) :: l, st, M) = some (11, some (.ref x) :: l, .ref x :: st, M) := st_aload_n q34_10 rfl
theorem x34_10 {st : List Value} {M : pj_Mem} {l : pj_Loc} {x : Nat} {o9 : Option Value × pj_Mem} : pj_Ends 34 (10, some (.ref x) :: l, st, M) o9 = pj_Ends 34 (11, some (.ref x) :: l, .ref x :: st, M) o9 := pj_xs (s34_10)
theorem q34_11 : pj_row 34 11 = some (.getfield 15, 3, 2, 2, 0) := by decide +kernel
theorem s34_11 {L : pj_Loc} {st : List Value} {N S : Nat} {H : pj_Heap} {o : Nat} : pj_step 34 (11, L, .ref o :: st, (N, S, H)) = pj_pv 14 L st (N, S, H) (pj_fld (H o) 2 2) := st_getfield q34_11
theorem x34_11 {L : pj_Loc} {st : List Value} {N S : Nat} {H : pj_Heap} {o : Nat} {o9 : Option Value × pj_Mem} : pj_Ends 34 (11, L, .ref o :: st, (N, S, H)) o9 = pj_then 34 o9 (pj_pv 14 L st (N, S, H) (pj_fld (H o) 2 2)) := pj_xt q34_11 rfl (pj_cl_nc rfl) (s34_11)
theorem q34_14 : pj_row 34 14 = some (.isub, 1, 0, 0, 0) := by decide +kernel
theorem s34_14 {L : pj_Loc} {st : List Value} {M : pj_Mem} {x y : Int32} : pj_step 34 (14, L, .int y :: .int x :: st, M) = some (15, L, .int (x - y) :: st, M) := st_isub q34_14
theorem x34_14 {L : pj_Loc} {st : List Value} {M : pj_Mem} {x y : Int32} {o9 : Option Value × pj_Mem} : pj_Ends 34 (14, L, .int y :: .int x :: st, M) o9 = pj_Ends 34 (15, L, .int (x - y) :: st, M) o9 := pj_xs (s34_14)
theorem q34_15 : pj_row 34 15 = some (.bipush 6, 2, 0, 0, 0) := by decide +kernel
theorem s34_15 {L : pj_Loc} {st : List Value} {M : pj_Mem}  : pj_step 34 (15, L, st, M) = some (17, L, .int 6 :: st, M) := st_bipush q34_15 (by decide +kernel)
theorem x34_15 {L : pj_Loc} {st : List Value} {M : pj_Mem}  {o9 : Option Value × pj_Mem} : pj_Ends 34 (15, L, st, M) o9 = pj_Ends 34 (17, L, .int 6 :: st, M) o9 := pj_xs (s34_15)
theorem q34_17 : pj_row 34 17 = some (.if_icmp .gt 7, 3, 24, 0, 0) := by decide +kernel
theorem s34_17 {L : pj_Loc} {st : List Value} {M : pj_Mem} {x y : Int32} : pj_step 34 (17, L, .int y :: .int x :: st, M) = some (if y < x then 24 else 20, L, st, M) := st_icmp_gt q34_17
theorem x34_17 {L : pj_Loc} {st : List Value} {M : pj_Mem} {x y : Int32} {o9 : Option Value × pj_Mem} : pj_Ends 34 (17, L, .int y :: .int x :: st, M) o9 = pj_Ends 34 (if y < x then 24 else 20, L, st, M) o9 := pj_xs (s34_17)
theorem q34_20 : pj_row 34 20 = some (.iconst 1, 1, 0, 0, 0) := by decide +kernel
theorem s34_20 {L : pj_Loc} {st : List Value} {M : pj_Mem}  : pj_step 34 (20, L, st, M) = some (21, L, .int 1 :: st, M) := st_iconst q34_20 (by decide +kernel)
theorem x34_20 {L : pj_Loc} {st : List Value} {M : pj_Mem}  {o9 : Option Value × pj_Mem} : pj_Ends 34 (20, L, st, M) o9 = pj_Ends 34 (21, L, .int 1 :: st, M) o9 := pj_xs (s34_20)
theorem q34_21 : pj_row 34 21 = some (.goto 4, 3, 25, 0, 0) := by decide +kernel
theorem s34_21 {L : pj_Loc} {st : List Value} {M : pj_Mem}  : pj_step 34 (21, L, st, M) = some (25, L, st, M) := st_goto q34_21
theorem x34_21 {L : pj_Loc} {st : List Value} {M : pj_Mem}  {o9 : Option Value × pj_Mem} : pj_Ends 34 (21, L, st, M) o9 = pj_Ends 34 (25, L, st, M) o9 := pj_xs (s34_21)
theorem q34_24 : pj_row 34 24 = some (.iconst 0, 1, 0, 0, 0) := by decide +kernel
theorem s34_24 {L : pj_Loc} {st : List Value} {M : pj_Mem}  : pj_step 34 (24, L, st, M) = some (25, L, .int 0 :: st, M) := st_iconst q34_24 (by decide +kernel)
theorem x34_24 {L : pj_Loc} {st : List Value} {M : pj_Mem}  {o9 : Option Value × pj_Mem} : pj_Ends 34 (24, L, st, M) o9 = pj_Ends 34 (25, L, .int 0 :: st, M) o9 := pj_xs (s34_24)
theorem q34_25 : pj_row 34 25 = some (.ireturn, 1, 0, 0, 0) := by decide +kernel
theorem t34_25 {L : pj_Loc} {M : pj_Mem} {v : Int32} (hv : v = 0 ∨ v = 1) : pj_Ends 34 (25, L, [.int v], M) (some (.int v), M) := pj_Ends.ret q34_25 (pj_rtn_z rt34 hv)
theorem rt35 : pj_rt 35 = none := rfl
theorem q35_0 : pj_row 35 0 = some (.aload_n 0, 1, 0, 0, 0) := by decide +kernel
theorem s35_0 {st : List Value} {M : pj_Mem} {l : pj_Loc} {x : Nat} : pj_step 35 (0, some (.ref x) :: l, st, M) = some (1, some (.ref x) :: l, .ref x :: st, M) := st_aload_n q35_0 rfl
theorem x35_0 {st : List Value} {M : pj_Mem} {l : pj_Loc} {x : Nat} {o9 : Option Value × pj_Mem} : pj_Ends 35 (0, some (.ref x) :: l, st, M) o9 = pj_Ends 35 (1, some (.ref x) :: l, .ref x :: st, M) o9 := pj_xs (s35_0)
theorem q35_1 : pj_row 35 1 = some (.bipush 11, 2, 0, 0, 0) := by decide +kernel
theorem s35_1 {L : pj_Loc} {st : List Value} {M : pj_Mem}  : pj_step 35 (1, L, st, M) = some (3, L, .int 11 :: st, M) := st_bipush q35_1 (by decide +kernel)
theorem x35_1 {L : pj_Loc} {st : List Value} {M : pj_Mem}  {o9 : Option Value × pj_Mem} : pj_Ends 35 (1, L, st, M) o9 = pj_Ends 35 (3, L, .int 11 :: st, M) o9 := pj_xs (s35_1)
theorem q35_3 : pj_row 35 3 = some (.putfield 25, 3, 2, 1, 0) := by decide +kernel
theorem s35_3 {L : pj_Loc} {st : List Value} {N S : Nat} {H : pj_Heap} {o : Nat} {v : Value} : pj_step 35 (3, L, v :: .ref o :: st, (N, S, H)) = pj_set 6 L st (N, S, H) o (pj_fset (H o) 2 1 v) := st_putfield q35_3
theorem x35_3 {L : pj_Loc} {st : List Value} {N S : Nat} {H : pj_Heap} {o : Nat} {v : Value} {o9 : Option Value × pj_Mem} : pj_Ends 35 (3, L, v :: .ref o :: st, (N, S, H)) o9 = pj_then 35 o9 (pj_set 6 L st (N, S, H) o (pj_fset (H o) 2 1 v)) := pj_xt q35_3 rfl (pj_cl_nc rfl) (s35_3)
theorem q35_6 : pj_row 35 6 = some (.aload_n 0, 1, 0, 0, 0) := by decide +kernel
theorem s35_6 {st : List Value} {M : pj_Mem} {l : pj_Loc} {x : Nat} : pj_step 35 (6, some (.ref x) :: l, st, M) = some (7, some (.ref x) :: l, .ref x :: st, M) := st_aload_n q35_6 rfl
theorem x35_6 {st : List Value} {M : pj_Mem} {l : pj_Loc} {x : Nat} {o9 : Option Value × pj_Mem} : pj_Ends 35 (6, some (.ref x) :: l, st, M) o9 = pj_Ends 35 (7, some (.ref x) :: l, .ref x :: st, M) o9 := pj_xs (s35_6)
theorem q35_7 : pj_row 35 7 = some (.getfield 9, 3, 2, 0, 0) := by decide +kernel
theorem s35_7 {L : pj_Loc} {st : List Value} {N S : Nat} {H : pj_Heap} {o : Nat} : pj_step 35 (7, L, .ref o :: st, (N, S, H)) = pj_pv 10 L st (N, S, H) (pj_fld (H o) 2 0) := st_getfield q35_7
theorem x35_7 {L : pj_Loc} {st : List Value} {N S : Nat} {H : pj_Heap} {o : Nat} {o9 : Option Value × pj_Mem} : pj_Ends 35 (7, L, .ref o :: st, (N, S, H)) o9 = pj_then 35 o9 (pj_pv 10 L st (N, S, H) (pj_fld (H o) 2 0)) := pj_xt q35_7 rfl (pj_cl_nc rfl) (s35_7)
theorem q35_10 : pj_row 35 10 = some (.bipush 10, 2, 0, 0, 0) := by decide +kernel
theorem s35_10 {L : pj_Loc} {st : List Value} {M : pj_Mem}  : pj_step 35 (10, L, st, M) = some (12, L, .int 10 :: st, M) := st_bipush q35_10 (by decide +kernel)
theorem x35_10 {L : pj_Loc} {st : List Value} {M : pj_Mem}  {o9 : Option Value × pj_Mem} : pj_Ends 35 (10, L, st, M) o9 = pj_Ends 35 (12, L, .int 10 :: st, M) o9 := pj_xs (s35_10)
theorem q35_12 : pj_row 35 12 = some (.aload_n 0, 1, 0, 0, 0) := by decide +kernel
theorem s35_12 {st : List Value} {M : pj_Mem} {l : pj_Loc} {x : Nat} : pj_step 35 (12, some (.ref x) :: l, st, M) = some (13, some (.ref x) :: l, .ref x :: st, M) := st_aload_n q35_12 rfl
theorem x35_12 {st : List Value} {M : pj_Mem} {l : pj_Loc} {x : Nat} {o9 : Option Value × pj_Mem} : pj_Ends 35 (12, some (.ref x) :: l, st, M) o9 = pj_Ends 35 (13, some (.ref x) :: l, .ref x :: st, M) o9 := pj_xs (s35_12)
theorem q35_13 : pj_row 35 13 = some (.getfield 9, 3, 2, 0, 0) := by decide +kernel
theorem s35_13 {L : pj_Loc} {st : List Value} {N S : Nat} {H : pj_Heap} {o : Nat} : pj_step 35 (13, L, .ref o :: st, (N, S, H)) = pj_pv 16 L st (N, S, H) (pj_fld (H o) 2 0) := st_getfield q35_13
theorem x35_13 {L : pj_Loc} {st : List Value} {N S : Nat} {H : pj_Heap} {o : Nat} {o9 : Option Value × pj_Mem} : pj_Ends 35 (13, L, .ref o :: st, (N, S, H)) o9 = pj_then 35 o9 (pj_pv 16 L st (N, S, H) (pj_fld (H o) 2 0)) := pj_xt q35_13 rfl (pj_cl_nc rfl) (s35_13)
theorem q35_16 : pj_row 35 16 = some (.iconst 0, 1, 0, 0, 0) := by decide +kernel
theorem s35_16 {L : pj_Loc} {st : List Value} {M : pj_Mem}  : pj_step 35 (16, L, st, M) = some (17, L, .int 0 :: st, M) := st_iconst q35_16 (by decide +kernel)
theorem x35_16 {L : pj_Loc} {st : List Value} {M : pj_Mem}  {o9 : Option Value × pj_Mem} : pj_Ends 35 (16, L, st, M) o9 = pj_Ends 35 (17, L, .int 0 :: st, M) o9 := pj_xs (s35_16)
theorem q35_17 : pj_row 35 17 = some (.aload_n 0, 1, 0, 0, 0) := by decide +kernel
theorem s35_17 {st : List Value} {M : pj_Mem} {l : pj_Loc} {x : Nat} : pj_step 35 (17, some (.ref x) :: l, st, M) = some (18, some (.ref x) :: l, .ref x :: st, M) := st_aload_n q35_17 rfl
theorem x35_17 {st : List Value} {M : pj_Mem} {l : pj_Loc} {x : Nat} {o9 : Option Value × pj_Mem} : pj_Ends 35 (17, some (.ref x) :: l, st, M) o9 = pj_Ends 35 (18, some (.ref x) :: l, .ref x :: st, M) o9 := pj_xs (s35_17)
theorem q35_18 : pj_row 35 18 = some (.getfield 25, 3, 2, 1, 0) := by decide +kernel
theorem s35_18 {L : pj_Loc} {st : List Value} {N S : Nat} {H : pj_Heap} {o : Nat} : pj_step 35 (18, L, .ref o :: st, (N, S, H)) = pj_pv 21 L st (N, S, H) (pj_fld (H o) 2 1) := st_getfield q35_18
theorem x35_18 {L : pj_Loc} {st : List Value} {N S : Nat} {H : pj_Heap} {o : Nat} {o9 : Option Value × pj_Mem} : pj_Ends 35 (18, L, .ref o :: st, (N, S, H)) o9 = pj_then 35 o9 (pj_pv 21 L st (N, S, H) (pj_fld (H o) 2 1)) := pj_xt q35_18 rfl (pj_cl_nc rfl) (s35_18)
theorem q35_21 : pj_row 35 21 = some (.bipush 10, 2, 0, 0, 0) := by decide +kernel
theorem s35_21 {L : pj_Loc} {st : List Value} {M : pj_Mem}  : pj_step 35 (21, L, st, M) = some (23, L, .int 10 :: st, M) := st_bipush q35_21 (by decide +kernel)
theorem x35_21 {L : pj_Loc} {st : List Value} {M : pj_Mem}  {o9 : Option Value × pj_Mem} : pj_Ends 35 (21, L, st, M) o9 = pj_Ends 35 (23, L, .int 10 :: st, M) o9 := pj_xs (s35_21)
theorem q35_23 : pj_row 35 23 = some (.imul, 1, 0, 0, 0) := by decide +kernel
theorem s35_23 {L : pj_Loc} {st : List Value} {M : pj_Mem} {x y : Int32} : pj_step 35 (23, L, .int y :: .int x :: st, M) = some (24, L, .int (x * y) :: st, M) := st_imul q35_23
theorem x35_23 {L : pj_Loc} {st : List Value} {M : pj_Mem} {x y : Int32} {o9 : Option Value × pj_Mem} : pj_Ends 35 (23, L, .int y :: .int x :: st, M) o9 = pj_Ends 35 (24, L, .int (x * y) :: st, M) o9 := pj_xs (s35_23)
theorem q35_24 : pj_row 35 24 = some (.invokestatic 19, 3, 0, 5, 3) := by decide +kernel
theorem s35_24 {L : pj_Loc} {st : List Value} {N S : Nat} {H : pj_Heap} {d o : Nat} {n dp sp : Int32} : pj_step 35 (24, L, .int n :: .int dp :: .ref d :: .int sp :: .ref o :: st, (N, S, H)) = pj_g4 st (pj_set 27 L st (N, S, H) d (pj_cas (H o) (H d) sp dp n)) := st_acp q35_24
theorem x35_24 {L : pj_Loc} {st : List Value} {N S : Nat} {H : pj_Heap} {d o : Nat} {n dp sp : Int32} {o9 : Option Value × pj_Mem} : pj_Ends 35 (24, L, .int n :: .int dp :: .ref d :: .int sp :: .ref o :: st, (N, S, H)) o9 = pj_then 35 o9 (pj_g4 st (pj_set 27 L st (N, S, H) d (pj_cas (H o) (H d) sp dp n))) := pj_xt q35_24 rfl rfl (s35_24)
theorem q35_27 : pj_row 35 27 = some (.return_, 1, 0, 0, 0) := by decide +kernel
theorem t35_27 {L : pj_Loc} {M : pj_Mem} : pj_Ends 35 (27, L, [], M) (none, M) := pj_Ends.ret q35_27 (pj_rtn_v rt35)
theorem rt36 : pj_rt 36 = none := rfl
theorem q36_0 : pj_row 36 0 = some (.aload_n 0, 1, 0, 0, 0) := by decide +kernel
theorem s36_0 {st : List Value} {M : pj_Mem} {l : pj_Loc} {x : Nat} : pj_step 36 (0, some (.ref x) :: l, st, M) = some (1, some (.ref x) :: l, .ref x :: st, M) := st_aload_n q36_0 rfl
theorem x36_0 {st : List Value} {M : pj_Mem} {l : pj_Loc} {x : Nat} {o9 : Option Value × pj_Mem} : pj_Ends 36 (0, some (.ref x) :: l, st, M) o9 = pj_Ends 36 (1, some (.ref x) :: l, .ref x :: st, M) o9 := pj_xs (s36_0)
theorem q36_1 : pj_row 36 1 = some (.getfield 9, 3, 2, 0, 0) := by decide +kernel
theorem s36_1 {L : pj_Loc} {st : List Value} {N S : Nat} {H : pj_Heap} {o : Nat} : pj_step 36 (1, L, .ref o :: st, (N, S, H)) = pj_pv 4 L st (N, S, H) (pj_fld (H o) 2 0) := st_getfield q36_1
theorem x36_1 {L : pj_Loc} {st : List Value} {N S : Nat} {H : pj_Heap} {o : Nat} {o9 : Option Value × pj_Mem} : pj_Ends 36 (1, L, .ref o :: st, (N, S, H)) o9 = pj_then 36 o9 (pj_pv 4 L st (N, S, H) (pj_fld (H o) 2 0)) := pj_xt q36_1 rfl (pj_cl_nc rfl) (s36_1)
theorem q36_4 : pj_row 36 4 = some (.iload_n 2, 1, 0, 0, 0) := by decide +kernel
theorem s36_4 {st : List Value} {M : pj_Mem} {l : pj_Loc} {a0 a1 : Option Value} {x : Int32} : pj_step 36 (4, a0 :: a1 :: some (.int x) :: l, st, M) = some (5, a0 :: a1 :: some (.int x) :: l, .int x :: st, M) := st_iload_n q36_4 rfl
theorem x36_4 {st : List Value} {M : pj_Mem} {l : pj_Loc} {a0 a1 : Option Value} {x : Int32} {o9 : Option Value × pj_Mem} : pj_Ends 36 (4, a0 :: a1 :: some (.int x) :: l, st, M) o9 = pj_Ends 36 (5, a0 :: a1 :: some (.int x) :: l, .int x :: st, M) o9 := pj_xs (s36_4)
theorem q36_5 : pj_row 36 5 = some (.aload_n 1, 1, 0, 0, 0) := by decide +kernel
theorem s36_5 {st : List Value} {M : pj_Mem} {l : pj_Loc} {a0 : Option Value} {x : Nat} : pj_step 36 (5, a0 :: some (.ref x) :: l, st, M) = some (6, a0 :: some (.ref x) :: l, .ref x :: st, M) := st_aload_n q36_5 rfl
theorem x36_5 {st : List Value} {M : pj_Mem} {l : pj_Loc} {a0 : Option Value} {x : Nat} {o9 : Option Value × pj_Mem} : pj_Ends 36 (5, a0 :: some (.ref x) :: l, st, M) o9 = pj_Ends 36 (6, a0 :: some (.ref x) :: l, .ref x :: st, M) o9 := pj_xs (s36_5)
theorem q36_6 : pj_row 36 6 = some (.getfield 28, 3, 3, 7, 0) := by decide +kernel
theorem s36_6 {L : pj_Loc} {st : List Value} {N S : Nat} {H : pj_Heap} {o : Nat} : pj_step 36 (6, L, .ref o :: st, (N, S, H)) = pj_pv 9 L st (N, S, H) (pj_fld (H o) 3 7) := st_getfield q36_6
theorem x36_6 {L : pj_Loc} {st : List Value} {N S : Nat} {H : pj_Heap} {o : Nat} {o9 : Option Value × pj_Mem} : pj_Ends 36 (6, L, .ref o :: st, (N, S, H)) o9 = pj_then 36 o9 (pj_pv 9 L st (N, S, H) (pj_fld (H o) 3 7)) := pj_xt q36_6 rfl (pj_cl_nc rfl) (s36_6)
theorem q36_9 : pj_row 36 9 = some (.iastore, 1, 0, 0, 0) := by decide +kernel
theorem s36_9 {L : pj_Loc} {st : List Value} {N S : Nat} {H : pj_Heap} {o : Nat} {i x : Int32} : pj_step 36 (9, L, .int x :: .int i :: .ref o :: st, (N, S, H)) = pj_set 10 L st (N, S, H) o (pj_ars (H o) 0 i x) := st_iastore q36_9
theorem x36_9 {L : pj_Loc} {st : List Value} {N S : Nat} {H : pj_Heap} {o : Nat} {i x : Int32} {o9 : Option Value × pj_Mem} : pj_Ends 36 (9, L, .int x :: .int i :: .ref o :: st, (N, S, H)) o9 = pj_then 36 o9 (pj_set 10 L st (N, S, H) o (pj_ars (H o) 0 i x)) := pj_xt q36_9 rfl (pj_cl_nc rfl) (s36_9)
theorem q36_10 : pj_row 36 10 = some (.iconst 0, 1, 0, 0, 0) := by decide +kernel
theorem s36_10 {L : pj_Loc} {st : List Value} {M : pj_Mem}  : pj_step 36 (10, L, st, M) = some (11, L, .int 0 :: st, M) := st_iconst q36_10 (by decide +kernel)
theorem x36_10 {L : pj_Loc} {st : List Value} {M : pj_Mem}  {o9 : Option Value × pj_Mem} : pj_Ends 36 (10, L, st, M) o9 = pj_Ends 36 (11, L, .int 0 :: st, M) o9 := pj_xs (s36_10)
theorem q36_11 : pj_row 36 11 = some (.istore_n 3, 1, 0, 0, 0) := by decide +kernel
theorem s36_11 {st : List Value} {M : pj_Mem} {l : pj_Loc} {a0 a1 a2 a3 : Option Value} {x : Int32} (h : pj_long a2 = false) : pj_step 36 (11, a0 :: a1 :: a2 :: a3 :: l, .int x :: st, M) = some (12, a0 :: a1 :: a2 :: some (.int x) :: l, st, M) := st_istore_n q36_11 (pj_st_3 h)
theorem x36_11 {st : List Value} {M : pj_Mem} {l : pj_Loc} {a0 a1 a2 a3 : Option Value} {x : Int32} (h : pj_long a2 = false) {o9 : Option Value × pj_Mem} : pj_Ends 36 (11, a0 :: a1 :: a2 :: a3 :: l, .int x :: st, M) o9 = pj_Ends 36 (12, a0 :: a1 :: a2 :: some (.int x) :: l, st, M) o9 := pj_xs (s36_11 h)
theorem q36_12 : pj_row 36 12 = some (.iload_n 3, 1, 0, 0, 0) := by decide +kernel
theorem s36_12 {st : List Value} {M : pj_Mem} {l : pj_Loc} {a0 a1 a2 : Option Value} {x : Int32} : pj_step 36 (12, a0 :: a1 :: a2 :: some (.int x) :: l, st, M) = some (13, a0 :: a1 :: a2 :: some (.int x) :: l, .int x :: st, M) := st_iload_n q36_12 rfl
theorem x36_12 {st : List Value} {M : pj_Mem} {l : pj_Loc} {a0 a1 a2 : Option Value} {x : Int32} {o9 : Option Value × pj_Mem} : pj_Ends 36 (12, a0 :: a1 :: a2 :: some (.int x) :: l, st, M) o9 = pj_Ends 36 (13, a0 :: a1 :: a2 :: some (.int x) :: l, .int x :: st, M) o9 := pj_xs (s36_12)
theorem q36_13 : pj_row 36 13 = some (.iconst 3, 1, 0, 0, 0) := by decide +kernel
theorem s36_13 {L : pj_Loc} {st : List Value} {M : pj_Mem}  : pj_step 36 (13, L, st, M) = some (14, L, .int 3 :: st, M) := st_iconst q36_13 (by decide +kernel)
theorem x36_13 {L : pj_Loc} {st : List Value} {M : pj_Mem}  {o9 : Option Value × pj_Mem} : pj_Ends 36 (13, L, st, M) o9 = pj_Ends 36 (14, L, .int 3 :: st, M) o9 := pj_xs (s36_13)
theorem q36_14 : pj_row 36 14 = some (.if_icmp .ge 28, 3, 42, 0, 0) := by decide +kernel
theorem s36_14 {L : pj_Loc} {st : List Value} {M : pj_Mem} {x y : Int32} : pj_step 36 (14, L, .int y :: .int x :: st, M) = some (if y ≤ x then 42 else 17, L, st, M) := st_icmp_ge q36_14
theorem x36_14 {L : pj_Loc} {st : List Value} {M : pj_Mem} {x y : Int32} {o9 : Option Value × pj_Mem} : pj_Ends 36 (14, L, .int y :: .int x :: st, M) o9 = pj_Ends 36 (if y ≤ x then 42 else 17, L, st, M) o9 := pj_xs (s36_14)
theorem q36_17 : pj_row 36 17 = some (.aload_n 0, 1, 0, 0, 0) := by decide +kernel
theorem s36_17 {st : List Value} {M : pj_Mem} {l : pj_Loc} {x : Nat} : pj_step 36 (17, some (.ref x) :: l, st, M) = some (18, some (.ref x) :: l, .ref x :: st, M) := st_aload_n q36_17 rfl
theorem x36_17 {st : List Value} {M : pj_Mem} {l : pj_Loc} {x : Nat} {o9 : Option Value × pj_Mem} : pj_Ends 36 (17, some (.ref x) :: l, st, M) o9 = pj_Ends 36 (18, some (.ref x) :: l, .ref x :: st, M) o9 := pj_xs (s36_17)
theorem q36_18 : pj_row 36 18 = some (.getfield 9, 3, 2, 0, 0) := by decide +kernel
theorem s36_18 {L : pj_Loc} {st : List Value} {N S : Nat} {H : pj_Heap} {o : Nat} : pj_step 36 (18, L, .ref o :: st, (N, S, H)) = pj_pv 21 L st (N, S, H) (pj_fld (H o) 2 0) := st_getfield q36_18
theorem x36_18 {L : pj_Loc} {st : List Value} {N S : Nat} {H : pj_Heap} {o : Nat} {o9 : Option Value × pj_Mem} : pj_Ends 36 (18, L, .ref o :: st, (N, S, H)) o9 = pj_then 36 o9 (pj_pv 21 L st (N, S, H) (pj_fld (H o) 2 0)) := pj_xt q36_18 rfl (pj_cl_nc rfl) (s36_18)
theorem q36_21 : pj_row 36 21 = some (.iload_n 2, 1, 0, 0, 0) := by decide +kernel
theorem s36_21 {st : List Value} {M : pj_Mem} {l : pj_Loc} {a0 a1 : Option Value} {x : Int32} : pj_step 36 (21, a0 :: a1 :: some (.int x) :: l, st, M) = some (22, a0 :: a1 :: some (.int x) :: l, .int x :: st, M) := st_iload_n q36_21 rfl
theorem x36_21 {st : List Value} {M : pj_Mem} {l : pj_Loc} {a0 a1 : Option Value} {x : Int32} {o9 : Option Value × pj_Mem} : pj_Ends 36 (21, a0 :: a1 :: some (.int x) :: l, st, M) o9 = pj_Ends 36 (22, a0 :: a1 :: some (.int x) :: l, .int x :: st, M) o9 := pj_xs (s36_21)
theorem q36_22 : pj_row 36 22 = some (.iconst 1, 1, 0, 0, 0) := by decide +kernel
theorem s36_22 {L : pj_Loc} {st : List Value} {M : pj_Mem}  : pj_step 36 (22, L, st, M) = some (23, L, .int 1 :: st, M) := st_iconst q36_22 (by decide +kernel)
theorem x36_22 {L : pj_Loc} {st : List Value} {M : pj_Mem}  {o9 : Option Value × pj_Mem} : pj_Ends 36 (22, L, st, M) o9 = pj_Ends 36 (23, L, .int 1 :: st, M) o9 := pj_xs (s36_22)
theorem q36_23 : pj_row 36 23 = some (.iadd, 1, 0, 0, 0) := by decide +kernel
theorem s36_23 {L : pj_Loc} {st : List Value} {M : pj_Mem} {x y : Int32} : pj_step 36 (23, L, .int y :: .int x :: st, M) = some (24, L, .int (x + y) :: st, M) := st_iadd q36_23
theorem x36_23 {L : pj_Loc} {st : List Value} {M : pj_Mem} {x y : Int32} {o9 : Option Value × pj_Mem} : pj_Ends 36 (23, L, .int y :: .int x :: st, M) o9 = pj_Ends 36 (24, L, .int (x + y) :: st, M) o9 := pj_xs (s36_23)
theorem q36_24 : pj_row 36 24 = some (.iload_n 3, 1, 0, 0, 0) := by decide +kernel
theorem s36_24 {st : List Value} {M : pj_Mem} {l : pj_Loc} {a0 a1 a2 : Option Value} {x : Int32} : pj_step 36 (24, a0 :: a1 :: a2 :: some (.int x) :: l, st, M) = some (25, a0 :: a1 :: a2 :: some (.int x) :: l, .int x :: st, M) := st_iload_n q36_24 rfl
theorem x36_24 {st : List Value} {M : pj_Mem} {l : pj_Loc} {a0 a1 a2 : Option Value} {x : Int32} {o9 : Option Value × pj_Mem} : pj_Ends 36 (24, a0 :: a1 :: a2 :: some (.int x) :: l, st, M) o9 = pj_Ends 36 (25, a0 :: a1 :: a2 :: some (.int x) :: l, .int x :: st, M) o9 := pj_xs (s36_24)
theorem q36_25 : pj_row 36 25 = some (.iadd, 1, 0, 0, 0) := by decide +kernel
theorem s36_25 {L : pj_Loc} {st : List Value} {M : pj_Mem} {x y : Int32} : pj_step 36 (25, L, .int y :: .int x :: st, M) = some (26, L, .int (x + y) :: st, M) := st_iadd q36_25
theorem x36_25 {L : pj_Loc} {st : List Value} {M : pj_Mem} {x y : Int32} {o9 : Option Value × pj_Mem} : pj_Ends 36 (25, L, .int y :: .int x :: st, M) o9 = pj_Ends 36 (26, L, .int (x + y) :: st, M) o9 := pj_xs (s36_25)
theorem q36_26 : pj_row 36 26 = some (.aload_n 1, 1, 0, 0, 0) := by decide +kernel
theorem s36_26 {st : List Value} {M : pj_Mem} {l : pj_Loc} {a0 : Option Value} {x : Nat} : pj_step 36 (26, a0 :: some (.ref x) :: l, st, M) = some (27, a0 :: some (.ref x) :: l, .ref x :: st, M) := st_aload_n q36_26 rfl
theorem x36_26 {st : List Value} {M : pj_Mem} {l : pj_Loc} {a0 : Option Value} {x : Nat} {o9 : Option Value × pj_Mem} : pj_Ends 36 (26, a0 :: some (.ref x) :: l, st, M) o9 = pj_Ends 36 (27, a0 :: some (.ref x) :: l, .ref x :: st, M) o9 := pj_xs (s36_26)
theorem q36_27 : pj_row 36 27 = some (.getfield 47, 3, 3, 0, 0) := by decide +kernel
theorem s36_27 {L : pj_Loc} {st : List Value} {N S : Nat} {H : pj_Heap} {o : Nat} : pj_step 36 (27, L, .ref o :: st, (N, S, H)) = pj_pv 30 L st (N, S, H) (pj_fld (H o) 3 0) := st_getfield q36_27
theorem x36_27 {L : pj_Loc} {st : List Value} {N S : Nat} {H : pj_Heap} {o : Nat} {o9 : Option Value × pj_Mem} : pj_Ends 36 (27, L, .ref o :: st, (N, S, H)) o9 = pj_then 36 o9 (pj_pv 30 L st (N, S, H) (pj_fld (H o) 3 0)) := pj_xt q36_27 rfl (pj_cl_nc rfl) (s36_27)
theorem q36_30 : pj_row 36 30 = some (.iload_n 3, 1, 0, 0, 0) := by decide +kernel
theorem s36_30 {st : List Value} {M : pj_Mem} {l : pj_Loc} {a0 a1 a2 : Option Value} {x : Int32} : pj_step 36 (30, a0 :: a1 :: a2 :: some (.int x) :: l, st, M) = some (31, a0 :: a1 :: a2 :: some (.int x) :: l, .int x :: st, M) := st_iload_n q36_30 rfl
theorem x36_30 {st : List Value} {M : pj_Mem} {l : pj_Loc} {a0 a1 a2 : Option Value} {x : Int32} {o9 : Option Value × pj_Mem} : pj_Ends 36 (30, a0 :: a1 :: a2 :: some (.int x) :: l, st, M) o9 = pj_Ends 36 (31, a0 :: a1 :: a2 :: some (.int x) :: l, .int x :: st, M) o9 := pj_xs (s36_30)
theorem q36_31 : pj_row 36 31 = some (.iaload, 1, 0, 0, 0) := by decide +kernel
theorem s36_31 {L : pj_Loc} {st : List Value} {N S : Nat} {H : pj_Heap} {o : Nat} {i : Int32} : pj_step 36 (31, L, .int i :: .ref o :: st, (N, S, H)) = pj_pi 32 L st (N, S, H) (pj_arl (H o) 0 i) := st_iaload q36_31
theorem x36_31 {L : pj_Loc} {st : List Value} {N S : Nat} {H : pj_Heap} {o : Nat} {i : Int32} {o9 : Option Value × pj_Mem} : pj_Ends 36 (31, L, .int i :: .ref o :: st, (N, S, H)) o9 = pj_then 36 o9 (pj_pi 32 L st (N, S, H) (pj_arl (H o) 0 i)) := pj_xt q36_31 rfl (pj_cl_nc rfl) (s36_31)
theorem q36_32 : pj_row 36 32 = some (.ldc 50, 2, 0, 0, 100000) := by decide +kernel
theorem s36_32 {L : pj_Loc} {st : List Value} {M : pj_Mem}  : pj_step 36 (32, L, st, M) = some (34, L, .int 100000 :: st, M) := st_ldc q36_32 (by decide +kernel)
theorem x36_32 {L : pj_Loc} {st : List Value} {M : pj_Mem}  {o9 : Option Value × pj_Mem} : pj_Ends 36 (32, L, st, M) o9 = pj_Ends 36 (34, L, .int 100000 :: st, M) o9 := pj_xs (s36_32)
theorem q36_34 : pj_row 36 34 = some (.iadd, 1, 0, 0, 0) := by decide +kernel
theorem s36_34 {L : pj_Loc} {st : List Value} {M : pj_Mem} {x y : Int32} : pj_step 36 (34, L, .int y :: .int x :: st, M) = some (35, L, .int (x + y) :: st, M) := st_iadd q36_34
theorem x36_34 {L : pj_Loc} {st : List Value} {M : pj_Mem} {x y : Int32} {o9 : Option Value × pj_Mem} : pj_Ends 36 (34, L, .int y :: .int x :: st, M) o9 = pj_Ends 36 (35, L, .int (x + y) :: st, M) o9 := pj_xs (s36_34)
theorem q36_35 : pj_row 36 35 = some (.iastore, 1, 0, 0, 0) := by decide +kernel
theorem s36_35 {L : pj_Loc} {st : List Value} {N S : Nat} {H : pj_Heap} {o : Nat} {i x : Int32} : pj_step 36 (35, L, .int x :: .int i :: .ref o :: st, (N, S, H)) = pj_set 36 L st (N, S, H) o (pj_ars (H o) 0 i x) := st_iastore q36_35
theorem x36_35 {L : pj_Loc} {st : List Value} {N S : Nat} {H : pj_Heap} {o : Nat} {i x : Int32} {o9 : Option Value × pj_Mem} : pj_Ends 36 (35, L, .int x :: .int i :: .ref o :: st, (N, S, H)) o9 = pj_then 36 o9 (pj_set 36 L st (N, S, H) o (pj_ars (H o) 0 i x)) := pj_xt q36_35 rfl (pj_cl_nc rfl) (s36_35)
theorem q36_36 : pj_row 36 36 = some (.iinc 3 1, 3, 0, 0, 0) := by decide +kernel
theorem s36_36 {st : List Value} {M : pj_Mem} {l : pj_Loc} {a0 a1 a2 : Option Value} {x : Int32} (h : pj_long a2 = false) : pj_step 36 (36, a0 :: a1 :: a2 :: some (.int x) :: l, st, M) = some (39, a0 :: a1 :: a2 :: some (.int (x + 1)) :: l, st, M) := st_iinc q36_36 rfl (congrArg (fun y => x + y) (show Int32.ofInt 1 = 1 by decide +kernel)) (pj_st_3 h)
theorem x36_36 {st : List Value} {M : pj_Mem} {l : pj_Loc} {a0 a1 a2 : Option Value} {x : Int32} (h : pj_long a2 = false) {o9 : Option Value × pj_Mem} : pj_Ends 36 (36, a0 :: a1 :: a2 :: some (.int x) :: l, st, M) o9 = pj_Ends 36 (39, a0 :: a1 :: a2 :: some (.int (x + 1)) :: l, st, M) o9 := pj_xs (s36_36 h)
theorem q36_39 : pj_row 36 39 = some (.goto (-27), 3, 12, 0, 0) := by decide +kernel
theorem s36_39 {L : pj_Loc} {st : List Value} {M : pj_Mem}  : pj_step 36 (39, L, st, M) = some (12, L, st, M) := st_goto q36_39
theorem x36_39 {L : pj_Loc} {st : List Value} {M : pj_Mem}  {o9 : Option Value × pj_Mem} : pj_Ends 36 (39, L, st, M) o9 = pj_Ends 36 (12, L, st, M) o9 := pj_xs (s36_39)
theorem q36_42 : pj_row 36 42 = some (.aload_n 0, 1, 0, 0, 0) := by decide +kernel
theorem s36_42 {st : List Value} {M : pj_Mem} {l : pj_Loc} {x : Nat} : pj_step 36 (42, some (.ref x) :: l, st, M) = some (43, some (.ref x) :: l, .ref x :: st, M) := st_aload_n q36_42 rfl
theorem x36_42 {st : List Value} {M : pj_Mem} {l : pj_Loc} {x : Nat} {o9 : Option Value × pj_Mem} : pj_Ends 36 (42, some (.ref x) :: l, st, M) o9 = pj_Ends 36 (43, some (.ref x) :: l, .ref x :: st, M) o9 := pj_xs (s36_42)
theorem q36_43 : pj_row 36 43 = some (.getfield 9, 3, 2, 0, 0) := by decide +kernel
theorem s36_43 {L : pj_Loc} {st : List Value} {N S : Nat} {H : pj_Heap} {o : Nat} : pj_step 36 (43, L, .ref o :: st, (N, S, H)) = pj_pv 46 L st (N, S, H) (pj_fld (H o) 2 0) := st_getfield q36_43
theorem x36_43 {L : pj_Loc} {st : List Value} {N S : Nat} {H : pj_Heap} {o : Nat} {o9 : Option Value × pj_Mem} : pj_Ends 36 (43, L, .ref o :: st, (N, S, H)) o9 = pj_then 36 o9 (pj_pv 46 L st (N, S, H) (pj_fld (H o) 2 0)) := pj_xt q36_43 rfl (pj_cl_nc rfl) (s36_43)
theorem q36_46 : pj_row 36 46 = some (.iload_n 2, 1, 0, 0, 0) := by decide +kernel
theorem s36_46 {st : List Value} {M : pj_Mem} {l : pj_Loc} {a0 a1 : Option Value} {x : Int32} : pj_step 36 (46, a0 :: a1 :: some (.int x) :: l, st, M) = some (47, a0 :: a1 :: some (.int x) :: l, .int x :: st, M) := st_iload_n q36_46 rfl
theorem x36_46 {st : List Value} {M : pj_Mem} {l : pj_Loc} {a0 a1 : Option Value} {x : Int32} {o9 : Option Value × pj_Mem} : pj_Ends 36 (46, a0 :: a1 :: some (.int x) :: l, st, M) o9 = pj_Ends 36 (47, a0 :: a1 :: some (.int x) :: l, .int x :: st, M) o9 := pj_xs (s36_46)
theorem q36_47 : pj_row 36 47 = some (.iconst 4, 1, 0, 0, 0) := by decide +kernel
theorem s36_47 {L : pj_Loc} {st : List Value} {M : pj_Mem}  : pj_step 36 (47, L, st, M) = some (48, L, .int 4 :: st, M) := st_iconst q36_47 (by decide +kernel)
theorem x36_47 {L : pj_Loc} {st : List Value} {M : pj_Mem}  {o9 : Option Value × pj_Mem} : pj_Ends 36 (47, L, st, M) o9 = pj_Ends 36 (48, L, .int 4 :: st, M) o9 := pj_xs (s36_47)
theorem q36_48 : pj_row 36 48 = some (.iadd, 1, 0, 0, 0) := by decide +kernel
theorem s36_48 {L : pj_Loc} {st : List Value} {M : pj_Mem} {x y : Int32} : pj_step 36 (48, L, .int y :: .int x :: st, M) = some (49, L, .int (x + y) :: st, M) := st_iadd q36_48
theorem x36_48 {L : pj_Loc} {st : List Value} {M : pj_Mem} {x y : Int32} {o9 : Option Value × pj_Mem} : pj_Ends 36 (48, L, .int y :: .int x :: st, M) o9 = pj_Ends 36 (49, L, .int (x + y) :: st, M) o9 := pj_xs (s36_48)
theorem q36_49 : pj_row 36 49 = some (.aload_n 1, 1, 0, 0, 0) := by decide +kernel
theorem s36_49 {st : List Value} {M : pj_Mem} {l : pj_Loc} {a0 : Option Value} {x : Nat} : pj_step 36 (49, a0 :: some (.ref x) :: l, st, M) = some (50, a0 :: some (.ref x) :: l, .ref x :: st, M) := st_aload_n q36_49 rfl
theorem x36_49 {st : List Value} {M : pj_Mem} {l : pj_Loc} {a0 : Option Value} {x : Nat} {o9 : Option Value × pj_Mem} : pj_Ends 36 (49, a0 :: some (.ref x) :: l, st, M) o9 = pj_Ends 36 (50, a0 :: some (.ref x) :: l, .ref x :: st, M) o9 := pj_xs (s36_49)
theorem q36_50 : pj_row 36 50 = some (.getfield 51, 3, 3, 6, 0) := by decide +kernel
theorem s36_50 {L : pj_Loc} {st : List Value} {N S : Nat} {H : pj_Heap} {o : Nat} : pj_step 36 (50, L, .ref o :: st, (N, S, H)) = pj_pv 53 L st (N, S, H) (pj_fld (H o) 3 6) := st_getfield q36_50
theorem x36_50 {L : pj_Loc} {st : List Value} {N S : Nat} {H : pj_Heap} {o : Nat} {o9 : Option Value × pj_Mem} : pj_Ends 36 (50, L, .ref o :: st, (N, S, H)) o9 = pj_then 36 o9 (pj_pv 53 L st (N, S, H) (pj_fld (H o) 3 6)) := pj_xt q36_50 rfl (pj_cl_nc rfl) (s36_50)
theorem q36_53 : pj_row 36 53 = some (.invokestatic 55, 3, 37, 1, 1) := by decide +kernel
theorem e36_53 {L : pj_Loc} {st : List Value} {N S : Nat} {H : pj_Heap} {o : Option Value × pj_Mem} {M' : pj_Mem} {x0 : Int32} {r : Int32} (h4 : pj_le4 st = true) (h1 : pj_Ends 37 (0, [some (.int x0)], [], (N, S, H)) (some (.int r), M')) (h2 : pj_Ends 36 (56, L, .int r :: st, M') o) : pj_Ends 36 (53, L, .int x0 :: st, (N, S, H)) o := ec_s1 q36_53 (Or.inr rfl) h4 rfl h1 h2
theorem q36_56 : pj_row 36 56 = some (.iastore, 1, 0, 0, 0) := by decide +kernel
theorem s36_56 {L : pj_Loc} {st : List Value} {N S : Nat} {H : pj_Heap} {o : Nat} {i x : Int32} : pj_step 36 (56, L, .int x :: .int i :: .ref o :: st, (N, S, H)) = pj_set 57 L st (N, S, H) o (pj_ars (H o) 0 i x) := st_iastore q36_56
theorem x36_56 {L : pj_Loc} {st : List Value} {N S : Nat} {H : pj_Heap} {o : Nat} {i x : Int32} {o9 : Option Value × pj_Mem} : pj_Ends 36 (56, L, .int x :: .int i :: .ref o :: st, (N, S, H)) o9 = pj_then 36 o9 (pj_set 57 L st (N, S, H) o (pj_ars (H o) 0 i x)) := pj_xt q36_56 rfl (pj_cl_nc rfl) (s36_56)
theorem q36_57 : pj_row 36 57 = some (.aload_n 0, 1, 0, 0, 0) := by decide +kernel
theorem s36_57 {st : List Value} {M : pj_Mem} {l : pj_Loc} {x : Nat} : pj_step 36 (57, some (.ref x) :: l, st, M) = some (58, some (.ref x) :: l, .ref x :: st, M) := st_aload_n q36_57 rfl
theorem x36_57 {st : List Value} {M : pj_Mem} {l : pj_Loc} {x : Nat} {o9 : Option Value × pj_Mem} : pj_Ends 36 (57, some (.ref x) :: l, st, M) o9 = pj_Ends 36 (58, some (.ref x) :: l, .ref x :: st, M) o9 := pj_xs (s36_57)
theorem q36_58 : pj_row 36 58 = some (.getfield 9, 3, 2, 0, 0) := by decide +kernel
theorem s36_58 {L : pj_Loc} {st : List Value} {N S : Nat} {H : pj_Heap} {o : Nat} : pj_step 36 (58, L, .ref o :: st, (N, S, H)) = pj_pv 61 L st (N, S, H) (pj_fld (H o) 2 0) := st_getfield q36_58
theorem x36_58 {L : pj_Loc} {st : List Value} {N S : Nat} {H : pj_Heap} {o : Nat} {o9 : Option Value × pj_Mem} : pj_Ends 36 (58, L, .ref o :: st, (N, S, H)) o9 = pj_then 36 o9 (pj_pv 61 L st (N, S, H) (pj_fld (H o) 2 0)) := pj_xt q36_58 rfl (pj_cl_nc rfl) (s36_58)
theorem q36_61 : pj_row 36 61 = some (.iload_n 2, 1, 0, 0, 0) := by decide +kernel
theorem s36_61 {st : List Value} {M : pj_Mem} {l : pj_Loc} {a0 a1 : Option Value} {x : Int32} : pj_step 36 (61, a0 :: a1 :: some (.int x) :: l, st, M) = some (62, a0 :: a1 :: some (.int x) :: l, .int x :: st, M) := st_iload_n q36_61 rfl
theorem x36_61 {st : List Value} {M : pj_Mem} {l : pj_Loc} {a0 a1 : Option Value} {x : Int32} {o9 : Option Value × pj_Mem} : pj_Ends 36 (61, a0 :: a1 :: some (.int x) :: l, st, M) o9 = pj_Ends 36 (62, a0 :: a1 :: some (.int x) :: l, .int x :: st, M) o9 := pj_xs (s36_61)
theorem q36_62 : pj_row 36 62 = some (.iconst 5, 1, 0, 0, 0) := by decide +kernel
theorem s36_62 {L : pj_Loc} {st : List Value} {M : pj_Mem}  : pj_step 36 (62, L, st, M) = some (63, L, .int 5 :: st, M) := st_iconst q36_62 (by decide +kernel)
theorem x36_62 {L : pj_Loc} {st : List Value} {M : pj_Mem}  {o9 : Option Value × pj_Mem} : pj_Ends 36 (62, L, st, M) o9 = pj_Ends 36 (63, L, .int 5 :: st, M) o9 := pj_xs (s36_62)
theorem q36_63 : pj_row 36 63 = some (.iadd, 1, 0, 0, 0) := by decide +kernel
theorem s36_63 {L : pj_Loc} {st : List Value} {M : pj_Mem} {x y : Int32} : pj_step 36 (63, L, .int y :: .int x :: st, M) = some (64, L, .int (x + y) :: st, M) := st_iadd q36_63
theorem x36_63 {L : pj_Loc} {st : List Value} {M : pj_Mem} {x y : Int32} {o9 : Option Value × pj_Mem} : pj_Ends 36 (63, L, .int y :: .int x :: st, M) o9 = pj_Ends 36 (64, L, .int (x + y) :: st, M) o9 := pj_xs (s36_63)
theorem q36_64 : pj_row 36 64 = some (.aload_n 1, 1, 0, 0, 0) := by decide +kernel
theorem s36_64 {st : List Value} {M : pj_Mem} {l : pj_Loc} {a0 : Option Value} {x : Nat} : pj_step 36 (64, a0 :: some (.ref x) :: l, st, M) = some (65, a0 :: some (.ref x) :: l, .ref x :: st, M) := st_aload_n q36_64 rfl
theorem x36_64 {st : List Value} {M : pj_Mem} {l : pj_Loc} {a0 : Option Value} {x : Nat} {o9 : Option Value × pj_Mem} : pj_Ends 36 (64, a0 :: some (.ref x) :: l, st, M) o9 = pj_Ends 36 (65, a0 :: some (.ref x) :: l, .ref x :: st, M) o9 := pj_xs (s36_64)
theorem q36_65 : pj_row 36 65 = some (.getfield 59, 3, 3, 9, 0) := by decide +kernel
theorem s36_65 {L : pj_Loc} {st : List Value} {N S : Nat} {H : pj_Heap} {o : Nat} : pj_step 36 (65, L, .ref o :: st, (N, S, H)) = pj_pv 68 L st (N, S, H) (pj_fld (H o) 3 9) := st_getfield q36_65
theorem x36_65 {L : pj_Loc} {st : List Value} {N S : Nat} {H : pj_Heap} {o : Nat} {o9 : Option Value × pj_Mem} : pj_Ends 36 (65, L, .ref o :: st, (N, S, H)) o9 = pj_then 36 o9 (pj_pv 68 L st (N, S, H) (pj_fld (H o) 3 9)) := pj_xt q36_65 rfl (pj_cl_nc rfl) (s36_65)
theorem q36_68 : pj_row 36 68 = some (.ldc 50, 2, 0, 0, 100000) := by decide +kernel
theorem s36_68 {L : pj_Loc} {st : List Value} {M : pj_Mem}  : pj_step 36 (68, L, st, M) = some (70, L, .int 100000 :: st, M) := st_ldc q36_68 (by decide +kernel)
theorem x36_68 {L : pj_Loc} {st : List Value} {M : pj_Mem}  {o9 : Option Value × pj_Mem} : pj_Ends 36 (68, L, st, M) o9 = pj_Ends 36 (70, L, .int 100000 :: st, M) o9 := pj_xs (s36_68)
theorem q36_70 : pj_row 36 70 = some (.iadd, 1, 0, 0, 0) := by decide +kernel
theorem s36_70 {L : pj_Loc} {st : List Value} {M : pj_Mem} {x y : Int32} : pj_step 36 (70, L, .int y :: .int x :: st, M) = some (71, L, .int (x + y) :: st, M) := st_iadd q36_70
theorem x36_70 {L : pj_Loc} {st : List Value} {M : pj_Mem} {x y : Int32} {o9 : Option Value × pj_Mem} : pj_Ends 36 (70, L, .int y :: .int x :: st, M) o9 = pj_Ends 36 (71, L, .int (x + y) :: st, M) o9 := pj_xs (s36_70)
theorem q36_71 : pj_row 36 71 = some (.iastore, 1, 0, 0, 0) := by decide +kernel
theorem s36_71 {L : pj_Loc} {st : List Value} {N S : Nat} {H : pj_Heap} {o : Nat} {i x : Int32} : pj_step 36 (71, L, .int x :: .int i :: .ref o :: st, (N, S, H)) = pj_set 72 L st (N, S, H) o (pj_ars (H o) 0 i x) := st_iastore q36_71
theorem x36_71 {L : pj_Loc} {st : List Value} {N S : Nat} {H : pj_Heap} {o : Nat} {i x : Int32} {o9 : Option Value × pj_Mem} : pj_Ends 36 (71, L, .int x :: .int i :: .ref o :: st, (N, S, H)) o9 = pj_then 36 o9 (pj_set 72 L st (N, S, H) o (pj_ars (H o) 0 i x)) := pj_xt q36_71 rfl (pj_cl_nc rfl) (s36_71)
theorem q36_72 : pj_row 36 72 = some (.aload_n 0, 1, 0, 0, 0) := by decide +kernel
theorem s36_72 {st : List Value} {M : pj_Mem} {l : pj_Loc} {x : Nat} : pj_step 36 (72, some (.ref x) :: l, st, M) = some (73, some (.ref x) :: l, .ref x :: st, M) := st_aload_n q36_72 rfl
theorem x36_72 {st : List Value} {M : pj_Mem} {l : pj_Loc} {x : Nat} {o9 : Option Value × pj_Mem} : pj_Ends 36 (72, some (.ref x) :: l, st, M) o9 = pj_Ends 36 (73, some (.ref x) :: l, .ref x :: st, M) o9 := pj_xs (s36_72)
theorem q36_73 : pj_row 36 73 = some (.getfield 9, 3, 2, 0, 0) := by decide +kernel
theorem s36_73 {L : pj_Loc} {st : List Value} {N S : Nat} {H : pj_Heap} {o : Nat} : pj_step 36 (73, L, .ref o :: st, (N, S, H)) = pj_pv 76 L st (N, S, H) (pj_fld (H o) 2 0) := st_getfield q36_73
theorem x36_73 {L : pj_Loc} {st : List Value} {N S : Nat} {H : pj_Heap} {o : Nat} {o9 : Option Value × pj_Mem} : pj_Ends 36 (73, L, .ref o :: st, (N, S, H)) o9 = pj_then 36 o9 (pj_pv 76 L st (N, S, H) (pj_fld (H o) 2 0)) := pj_xt q36_73 rfl (pj_cl_nc rfl) (s36_73)
theorem q36_76 : pj_row 36 76 = some (.iload_n 2, 1, 0, 0, 0) := by decide +kernel
theorem s36_76 {st : List Value} {M : pj_Mem} {l : pj_Loc} {a0 a1 : Option Value} {x : Int32} : pj_step 36 (76, a0 :: a1 :: some (.int x) :: l, st, M) = some (77, a0 :: a1 :: some (.int x) :: l, .int x :: st, M) := st_iload_n q36_76 rfl
theorem x36_76 {st : List Value} {M : pj_Mem} {l : pj_Loc} {a0 a1 : Option Value} {x : Int32} {o9 : Option Value × pj_Mem} : pj_Ends 36 (76, a0 :: a1 :: some (.int x) :: l, st, M) o9 = pj_Ends 36 (77, a0 :: a1 :: some (.int x) :: l, .int x :: st, M) o9 := pj_xs (s36_76)
theorem q36_77 : pj_row 36 77 = some (.bipush 6, 2, 0, 0, 0) := by decide +kernel
theorem s36_77 {L : pj_Loc} {st : List Value} {M : pj_Mem}  : pj_step 36 (77, L, st, M) = some (79, L, .int 6 :: st, M) := st_bipush q36_77 (by decide +kernel)
theorem x36_77 {L : pj_Loc} {st : List Value} {M : pj_Mem}  {o9 : Option Value × pj_Mem} : pj_Ends 36 (77, L, st, M) o9 = pj_Ends 36 (79, L, .int 6 :: st, M) o9 := pj_xs (s36_77)
theorem q36_79 : pj_row 36 79 = some (.iadd, 1, 0, 0, 0) := by decide +kernel
theorem s36_79 {L : pj_Loc} {st : List Value} {M : pj_Mem} {x y : Int32} : pj_step 36 (79, L, .int y :: .int x :: st, M) = some (80, L, .int (x + y) :: st, M) := st_iadd q36_79
theorem x36_79 {L : pj_Loc} {st : List Value} {M : pj_Mem} {x y : Int32} {o9 : Option Value × pj_Mem} : pj_Ends 36 (79, L, .int y :: .int x :: st, M) o9 = pj_Ends 36 (80, L, .int (x + y) :: st, M) o9 := pj_xs (s36_79)
theorem q36_80 : pj_row 36 80 = some (.aload_n 1, 1, 0, 0, 0) := by decide +kernel
theorem s36_80 {st : List Value} {M : pj_Mem} {l : pj_Loc} {a0 : Option Value} {x : Nat} : pj_step 36 (80, a0 :: some (.ref x) :: l, st, M) = some (81, a0 :: some (.ref x) :: l, .ref x :: st, M) := st_aload_n q36_80 rfl
theorem x36_80 {st : List Value} {M : pj_Mem} {l : pj_Loc} {a0 : Option Value} {x : Nat} {o9 : Option Value × pj_Mem} : pj_Ends 36 (80, a0 :: some (.ref x) :: l, st, M) o9 = pj_Ends 36 (81, a0 :: some (.ref x) :: l, .ref x :: st, M) o9 := pj_xs (s36_80)
theorem q36_81 : pj_row 36 81 = some (.getfield 62, 3, 3, 11, 0) := by decide +kernel
theorem s36_81 {L : pj_Loc} {st : List Value} {N S : Nat} {H : pj_Heap} {o : Nat} : pj_step 36 (81, L, .ref o :: st, (N, S, H)) = pj_pv 84 L st (N, S, H) (pj_fld (H o) 3 11) := st_getfield q36_81
theorem x36_81 {L : pj_Loc} {st : List Value} {N S : Nat} {H : pj_Heap} {o : Nat} {o9 : Option Value × pj_Mem} : pj_Ends 36 (81, L, .ref o :: st, (N, S, H)) o9 = pj_then 36 o9 (pj_pv 84 L st (N, S, H) (pj_fld (H o) 3 11)) := pj_xt q36_81 rfl (pj_cl_nc rfl) (s36_81)
theorem q36_84 : pj_row 36 84 = some (.iastore, 1, 0, 0, 0) := by decide +kernel
theorem s36_84 {L : pj_Loc} {st : List Value} {N S : Nat} {H : pj_Heap} {o : Nat} {i x : Int32} : pj_step 36 (84, L, .int x :: .int i :: .ref o :: st, (N, S, H)) = pj_set 85 L st (N, S, H) o (pj_ars (H o) 0 i x) := st_iastore q36_84
theorem x36_84 {L : pj_Loc} {st : List Value} {N S : Nat} {H : pj_Heap} {o : Nat} {i x : Int32} {o9 : Option Value × pj_Mem} : pj_Ends 36 (84, L, .int x :: .int i :: .ref o :: st, (N, S, H)) o9 = pj_then 36 o9 (pj_set 85 L st (N, S, H) o (pj_ars (H o) 0 i x)) := pj_xt q36_84 rfl (pj_cl_nc rfl) (s36_84)
theorem q36_85 : pj_row 36 85 = some (.aload_n 0, 1, 0, 0, 0) := by decide +kernel
theorem s36_85 {st : List Value} {M : pj_Mem} {l : pj_Loc} {x : Nat} : pj_step 36 (85, some (.ref x) :: l, st, M) = some (86, some (.ref x) :: l, .ref x :: st, M) := st_aload_n q36_85 rfl
theorem x36_85 {st : List Value} {M : pj_Mem} {l : pj_Loc} {x : Nat} {o9 : Option Value × pj_Mem} : pj_Ends 36 (85, some (.ref x) :: l, st, M) o9 = pj_Ends 36 (86, some (.ref x) :: l, .ref x :: st, M) o9 := pj_xs (s36_85)
theorem q36_86 : pj_row 36 86 = some (.getfield 9, 3, 2, 0, 0) := by decide +kernel
theorem s36_86 {L : pj_Loc} {st : List Value} {N S : Nat} {H : pj_Heap} {o : Nat} : pj_step 36 (86, L, .ref o :: st, (N, S, H)) = pj_pv 89 L st (N, S, H) (pj_fld (H o) 2 0) := st_getfield q36_86
theorem x36_86 {L : pj_Loc} {st : List Value} {N S : Nat} {H : pj_Heap} {o : Nat} {o9 : Option Value × pj_Mem} : pj_Ends 36 (86, L, .ref o :: st, (N, S, H)) o9 = pj_then 36 o9 (pj_pv 89 L st (N, S, H) (pj_fld (H o) 2 0)) := pj_xt q36_86 rfl (pj_cl_nc rfl) (s36_86)
theorem q36_89 : pj_row 36 89 = some (.iload_n 2, 1, 0, 0, 0) := by decide +kernel
theorem s36_89 {st : List Value} {M : pj_Mem} {l : pj_Loc} {a0 a1 : Option Value} {x : Int32} : pj_step 36 (89, a0 :: a1 :: some (.int x) :: l, st, M) = some (90, a0 :: a1 :: some (.int x) :: l, .int x :: st, M) := st_iload_n q36_89 rfl
theorem x36_89 {st : List Value} {M : pj_Mem} {l : pj_Loc} {a0 a1 : Option Value} {x : Int32} {o9 : Option Value × pj_Mem} : pj_Ends 36 (89, a0 :: a1 :: some (.int x) :: l, st, M) o9 = pj_Ends 36 (90, a0 :: a1 :: some (.int x) :: l, .int x :: st, M) o9 := pj_xs (s36_89)
theorem q36_90 : pj_row 36 90 = some (.bipush 7, 2, 0, 0, 0) := by decide +kernel
theorem s36_90 {L : pj_Loc} {st : List Value} {M : pj_Mem}  : pj_step 36 (90, L, st, M) = some (92, L, .int 7 :: st, M) := st_bipush q36_90 (by decide +kernel)
theorem x36_90 {L : pj_Loc} {st : List Value} {M : pj_Mem}  {o9 : Option Value × pj_Mem} : pj_Ends 36 (90, L, st, M) o9 = pj_Ends 36 (92, L, .int 7 :: st, M) o9 := pj_xs (s36_90)
theorem q36_92 : pj_row 36 92 = some (.iadd, 1, 0, 0, 0) := by decide +kernel
theorem s36_92 {L : pj_Loc} {st : List Value} {M : pj_Mem} {x y : Int32} : pj_step 36 (92, L, .int y :: .int x :: st, M) = some (93, L, .int (x + y) :: st, M) := st_iadd q36_92
theorem x36_92 {L : pj_Loc} {st : List Value} {M : pj_Mem} {x y : Int32} {o9 : Option Value × pj_Mem} : pj_Ends 36 (92, L, .int y :: .int x :: st, M) o9 = pj_Ends 36 (93, L, .int (x + y) :: st, M) o9 := pj_xs (s36_92)
theorem q36_93 : pj_row 36 93 = some (.aload_n 1, 1, 0, 0, 0) := by decide +kernel
theorem s36_93 {st : List Value} {M : pj_Mem} {l : pj_Loc} {a0 : Option Value} {x : Nat} : pj_step 36 (93, a0 :: some (.ref x) :: l, st, M) = some (94, a0 :: some (.ref x) :: l, .ref x :: st, M) := st_aload_n q36_93 rfl
theorem x36_93 {st : List Value} {M : pj_Mem} {l : pj_Loc} {a0 : Option Value} {x : Nat} {o9 : Option Value × pj_Mem} : pj_Ends 36 (93, a0 :: some (.ref x) :: l, st, M) o9 = pj_Ends 36 (94, a0 :: some (.ref x) :: l, .ref x :: st, M) o9 := pj_xs (s36_93)
theorem q36_94 : pj_row 36 94 = some (.getfield 65, 3, 3, 12, 0) := by decide +kernel
theorem s36_94 {L : pj_Loc} {st : List Value} {N S : Nat} {H : pj_Heap} {o : Nat} : pj_step 36 (94, L, .ref o :: st, (N, S, H)) = pj_pv 97 L st (N, S, H) (pj_fld (H o) 3 12) := st_getfield q36_94
theorem x36_94 {L : pj_Loc} {st : List Value} {N S : Nat} {H : pj_Heap} {o : Nat} {o9 : Option Value × pj_Mem} : pj_Ends 36 (94, L, .ref o :: st, (N, S, H)) o9 = pj_then 36 o9 (pj_pv 97 L st (N, S, H) (pj_fld (H o) 3 12)) := pj_xt q36_94 rfl (pj_cl_nc rfl) (s36_94)
theorem q36_97 : pj_row 36 97 = some (.iastore, 1, 0, 0, 0) := by decide +kernel
theorem s36_97 {L : pj_Loc} {st : List Value} {N S : Nat} {H : pj_Heap} {o : Nat} {i x : Int32} : pj_step 36 (97, L, .int x :: .int i :: .ref o :: st, (N, S, H)) = pj_set 98 L st (N, S, H) o (pj_ars (H o) 0 i x) := st_iastore q36_97
theorem x36_97 {L : pj_Loc} {st : List Value} {N S : Nat} {H : pj_Heap} {o : Nat} {i x : Int32} {o9 : Option Value × pj_Mem} : pj_Ends 36 (97, L, .int x :: .int i :: .ref o :: st, (N, S, H)) o9 = pj_then 36 o9 (pj_set 98 L st (N, S, H) o (pj_ars (H o) 0 i x)) := pj_xt q36_97 rfl (pj_cl_nc rfl) (s36_97)
theorem q36_98 : pj_row 36 98 = some (.aload_n 0, 1, 0, 0, 0) := by decide +kernel
theorem s36_98 {st : List Value} {M : pj_Mem} {l : pj_Loc} {x : Nat} : pj_step 36 (98, some (.ref x) :: l, st, M) = some (99, some (.ref x) :: l, .ref x :: st, M) := st_aload_n q36_98 rfl
theorem x36_98 {st : List Value} {M : pj_Mem} {l : pj_Loc} {x : Nat} {o9 : Option Value × pj_Mem} : pj_Ends 36 (98, some (.ref x) :: l, st, M) o9 = pj_Ends 36 (99, some (.ref x) :: l, .ref x :: st, M) o9 := pj_xs (s36_98)
theorem q36_99 : pj_row 36 99 = some (.getfield 9, 3, 2, 0, 0) := by decide +kernel
theorem s36_99 {L : pj_Loc} {st : List Value} {N S : Nat} {H : pj_Heap} {o : Nat} : pj_step 36 (99, L, .ref o :: st, (N, S, H)) = pj_pv 102 L st (N, S, H) (pj_fld (H o) 2 0) := st_getfield q36_99
theorem x36_99 {L : pj_Loc} {st : List Value} {N S : Nat} {H : pj_Heap} {o : Nat} {o9 : Option Value × pj_Mem} : pj_Ends 36 (99, L, .ref o :: st, (N, S, H)) o9 = pj_then 36 o9 (pj_pv 102 L st (N, S, H) (pj_fld (H o) 2 0)) := pj_xt q36_99 rfl (pj_cl_nc rfl) (s36_99)
theorem q36_102 : pj_row 36 102 = some (.iload_n 2, 1, 0, 0, 0) := by decide +kernel
theorem s36_102 {st : List Value} {M : pj_Mem} {l : pj_Loc} {a0 a1 : Option Value} {x : Int32} : pj_step 36 (102, a0 :: a1 :: some (.int x) :: l, st, M) = some (103, a0 :: a1 :: some (.int x) :: l, .int x :: st, M) := st_iload_n q36_102 rfl
theorem x36_102 {st : List Value} {M : pj_Mem} {l : pj_Loc} {a0 a1 : Option Value} {x : Int32} {o9 : Option Value × pj_Mem} : pj_Ends 36 (102, a0 :: a1 :: some (.int x) :: l, st, M) o9 = pj_Ends 36 (103, a0 :: a1 :: some (.int x) :: l, .int x :: st, M) o9 := pj_xs (s36_102)
theorem q36_103 : pj_row 36 103 = some (.bipush 8, 2, 0, 0, 0) := by decide +kernel
theorem s36_103 {L : pj_Loc} {st : List Value} {M : pj_Mem}  : pj_step 36 (103, L, st, M) = some (105, L, .int 8 :: st, M) := st_bipush q36_103 (by decide +kernel)
theorem x36_103 {L : pj_Loc} {st : List Value} {M : pj_Mem}  {o9 : Option Value × pj_Mem} : pj_Ends 36 (103, L, st, M) o9 = pj_Ends 36 (105, L, .int 8 :: st, M) o9 := pj_xs (s36_103)
theorem q36_105 : pj_row 36 105 = some (.iadd, 1, 0, 0, 0) := by decide +kernel
theorem s36_105 {L : pj_Loc} {st : List Value} {M : pj_Mem} {x y : Int32} : pj_step 36 (105, L, .int y :: .int x :: st, M) = some (106, L, .int (x + y) :: st, M) := st_iadd q36_105
theorem x36_105 {L : pj_Loc} {st : List Value} {M : pj_Mem} {x y : Int32} {o9 : Option Value × pj_Mem} : pj_Ends 36 (105, L, .int y :: .int x :: st, M) o9 = pj_Ends 36 (106, L, .int (x + y) :: st, M) o9 := pj_xs (s36_105)
theorem q36_106 : pj_row 36 106 = some (.aload_n 1, 1, 0, 0, 0) := by decide +kernel
theorem s36_106 {st : List Value} {M : pj_Mem} {l : pj_Loc} {a0 : Option Value} {x : Nat} : pj_step 36 (106, a0 :: some (.ref x) :: l, st, M) = some (107, a0 :: some (.ref x) :: l, .ref x :: st, M) := st_aload_n q36_106 rfl
theorem x36_106 {st : List Value} {M : pj_Mem} {l : pj_Loc} {a0 : Option Value} {x : Nat} {o9 : Option Value × pj_Mem} : pj_Ends 36 (106, a0 :: some (.ref x) :: l, st, M) o9 = pj_Ends 36 (107, a0 :: some (.ref x) :: l, .ref x :: st, M) o9 := pj_xs (s36_106)
theorem q36_107 : pj_row 36 107 = some (.getfield 68, 3, 3, 10, 0) := by decide +kernel
theorem s36_107 {L : pj_Loc} {st : List Value} {N S : Nat} {H : pj_Heap} {o : Nat} : pj_step 36 (107, L, .ref o :: st, (N, S, H)) = pj_pv 110 L st (N, S, H) (pj_fld (H o) 3 10) := st_getfield q36_107
theorem x36_107 {L : pj_Loc} {st : List Value} {N S : Nat} {H : pj_Heap} {o : Nat} {o9 : Option Value × pj_Mem} : pj_Ends 36 (107, L, .ref o :: st, (N, S, H)) o9 = pj_then 36 o9 (pj_pv 110 L st (N, S, H) (pj_fld (H o) 3 10)) := pj_xt q36_107 rfl (pj_cl_nc rfl) (s36_107)
theorem q36_110 : pj_row 36 110 = some (.ifCond .le 7, 3, 117, 0, 0) := by decide +kernel
theorem s36_110 {L : pj_Loc} {st : List Value} {M : pj_Mem} {x : Int32} : pj_step 36 (110, L, .int x :: st, M) = some (if x ≤ 0 then 117 else 113, L, st, M) := st_if_le q36_110
theorem x36_110 {L : pj_Loc} {st : List Value} {M : pj_Mem} {x : Int32} {o9 : Option Value × pj_Mem} : pj_Ends 36 (110, L, .int x :: st, M) o9 = pj_Ends 36 (if x ≤ 0 then 117 else 113, L, st, M) o9 := pj_xs (s36_110)
theorem q36_113 : pj_row 36 113 = some (.iconst 1, 1, 0, 0, 0) := by decide +kernel
theorem s36_113 {L : pj_Loc} {st : List Value} {M : pj_Mem}  : pj_step 36 (113, L, st, M) = some (114, L, .int 1 :: st, M) := st_iconst q36_113 (by decide +kernel)
theorem x36_113 {L : pj_Loc} {st : List Value} {M : pj_Mem}  {o9 : Option Value × pj_Mem} : pj_Ends 36 (113, L, st, M) o9 = pj_Ends 36 (114, L, .int 1 :: st, M) o9 := pj_xs (s36_113)
theorem q36_114 : pj_row 36 114 = some (.goto 4, 3, 118, 0, 0) := by decide +kernel
theorem s36_114 {L : pj_Loc} {st : List Value} {M : pj_Mem}  : pj_step 36 (114, L, st, M) = some (118, L, st, M) := st_goto q36_114
theorem x36_114 {L : pj_Loc} {st : List Value} {M : pj_Mem}  {o9 : Option Value × pj_Mem} : pj_Ends 36 (114, L, st, M) o9 = pj_Ends 36 (118, L, st, M) o9 := pj_xs (s36_114)
theorem q36_117 : pj_row 36 117 = some (.iconst 0, 1, 0, 0, 0) := by decide +kernel
theorem s36_117 {L : pj_Loc} {st : List Value} {M : pj_Mem}  : pj_step 36 (117, L, st, M) = some (118, L, .int 0 :: st, M) := st_iconst q36_117 (by decide +kernel)
theorem x36_117 {L : pj_Loc} {st : List Value} {M : pj_Mem}  {o9 : Option Value × pj_Mem} : pj_Ends 36 (117, L, st, M) o9 = pj_Ends 36 (118, L, .int 0 :: st, M) o9 := pj_xs (s36_117)
theorem q36_118 : pj_row 36 118 = some (.invokestatic 55, 3, 37, 1, 1) := by decide +kernel
theorem e36_118 {L : pj_Loc} {st : List Value} {N S : Nat} {H : pj_Heap} {o : Option Value × pj_Mem} {M' : pj_Mem} {x0 : Int32} {r : Int32} (h4 : pj_le4 st = true) (h1 : pj_Ends 37 (0, [some (.int x0)], [], (N, S, H)) (some (.int r), M')) (h2 : pj_Ends 36 (121, L, .int r :: st, M') o) : pj_Ends 36 (118, L, .int x0 :: st, (N, S, H)) o := ec_s1 q36_118 (Or.inr rfl) h4 rfl h1 h2
theorem q36_121 : pj_row 36 121 = some (.iastore, 1, 0, 0, 0) := by decide +kernel
theorem s36_121 {L : pj_Loc} {st : List Value} {N S : Nat} {H : pj_Heap} {o : Nat} {i x : Int32} : pj_step 36 (121, L, .int x :: .int i :: .ref o :: st, (N, S, H)) = pj_set 122 L st (N, S, H) o (pj_ars (H o) 0 i x) := st_iastore q36_121
theorem x36_121 {L : pj_Loc} {st : List Value} {N S : Nat} {H : pj_Heap} {o : Nat} {i x : Int32} {o9 : Option Value × pj_Mem} : pj_Ends 36 (121, L, .int x :: .int i :: .ref o :: st, (N, S, H)) o9 = pj_then 36 o9 (pj_set 122 L st (N, S, H) o (pj_ars (H o) 0 i x)) := pj_xt q36_121 rfl (pj_cl_nc rfl) (s36_121)
theorem q36_122 : pj_row 36 122 = some (.aload_n 0, 1, 0, 0, 0) := by decide +kernel
theorem s36_122 {st : List Value} {M : pj_Mem} {l : pj_Loc} {x : Nat} : pj_step 36 (122, some (.ref x) :: l, st, M) = some (123, some (.ref x) :: l, .ref x :: st, M) := st_aload_n q36_122 rfl
theorem x36_122 {st : List Value} {M : pj_Mem} {l : pj_Loc} {x : Nat} {o9 : Option Value × pj_Mem} : pj_Ends 36 (122, some (.ref x) :: l, st, M) o9 = pj_Ends 36 (123, some (.ref x) :: l, .ref x :: st, M) o9 := pj_xs (s36_122)
theorem q36_123 : pj_row 36 123 = some (.getfield 9, 3, 2, 0, 0) := by decide +kernel
theorem s36_123 {L : pj_Loc} {st : List Value} {N S : Nat} {H : pj_Heap} {o : Nat} : pj_step 36 (123, L, .ref o :: st, (N, S, H)) = pj_pv 126 L st (N, S, H) (pj_fld (H o) 2 0) := st_getfield q36_123
theorem x36_123 {L : pj_Loc} {st : List Value} {N S : Nat} {H : pj_Heap} {o : Nat} {o9 : Option Value × pj_Mem} : pj_Ends 36 (123, L, .ref o :: st, (N, S, H)) o9 = pj_then 36 o9 (pj_pv 126 L st (N, S, H) (pj_fld (H o) 2 0)) := pj_xt q36_123 rfl (pj_cl_nc rfl) (s36_123)
theorem q36_126 : pj_row 36 126 = some (.iload_n 2, 1, 0, 0, 0) := by decide +kernel
theorem s36_126 {st : List Value} {M : pj_Mem} {l : pj_Loc} {a0 a1 : Option Value} {x : Int32} : pj_step 36 (126, a0 :: a1 :: some (.int x) :: l, st, M) = some (127, a0 :: a1 :: some (.int x) :: l, .int x :: st, M) := st_iload_n q36_126 rfl
theorem x36_126 {st : List Value} {M : pj_Mem} {l : pj_Loc} {a0 a1 : Option Value} {x : Int32} {o9 : Option Value × pj_Mem} : pj_Ends 36 (126, a0 :: a1 :: some (.int x) :: l, st, M) o9 = pj_Ends 36 (127, a0 :: a1 :: some (.int x) :: l, .int x :: st, M) o9 := pj_xs (s36_126)
theorem q36_127 : pj_row 36 127 = some (.bipush 9, 2, 0, 0, 0) := by decide +kernel
theorem s36_127 {L : pj_Loc} {st : List Value} {M : pj_Mem}  : pj_step 36 (127, L, st, M) = some (129, L, .int 9 :: st, M) := st_bipush q36_127 (by decide +kernel)
theorem x36_127 {L : pj_Loc} {st : List Value} {M : pj_Mem}  {o9 : Option Value × pj_Mem} : pj_Ends 36 (127, L, st, M) o9 = pj_Ends 36 (129, L, .int 9 :: st, M) o9 := pj_xs (s36_127)
theorem q36_129 : pj_row 36 129 = some (.iadd, 1, 0, 0, 0) := by decide +kernel
theorem s36_129 {L : pj_Loc} {st : List Value} {M : pj_Mem} {x y : Int32} : pj_step 36 (129, L, .int y :: .int x :: st, M) = some (130, L, .int (x + y) :: st, M) := st_iadd q36_129
theorem x36_129 {L : pj_Loc} {st : List Value} {M : pj_Mem} {x y : Int32} {o9 : Option Value × pj_Mem} : pj_Ends 36 (129, L, .int y :: .int x :: st, M) o9 = pj_Ends 36 (130, L, .int (x + y) :: st, M) o9 := pj_xs (s36_129)
theorem q36_130 : pj_row 36 130 = some (.aload_n 1, 1, 0, 0, 0) := by decide +kernel
theorem s36_130 {st : List Value} {M : pj_Mem} {l : pj_Loc} {a0 : Option Value} {x : Nat} : pj_step 36 (130, a0 :: some (.ref x) :: l, st, M) = some (131, a0 :: some (.ref x) :: l, .ref x :: st, M) := st_aload_n q36_130 rfl
theorem x36_130 {st : List Value} {M : pj_Mem} {l : pj_Loc} {a0 : Option Value} {x : Nat} {o9 : Option Value × pj_Mem} : pj_Ends 36 (130, a0 :: some (.ref x) :: l, st, M) o9 = pj_Ends 36 (131, a0 :: some (.ref x) :: l, .ref x :: st, M) o9 := pj_xs (s36_130)
theorem q36_131 : pj_row 36 131 = some (.getfield 44, 3, 3, 13, 0) := by decide +kernel
theorem s36_131 {L : pj_Loc} {st : List Value} {N S : Nat} {H : pj_Heap} {o : Nat} : pj_step 36 (131, L, .ref o :: st, (N, S, H)) = pj_pv 134 L st (N, S, H) (pj_fld (H o) 3 13) := st_getfield q36_131
theorem x36_131 {L : pj_Loc} {st : List Value} {N S : Nat} {H : pj_Heap} {o : Nat} {o9 : Option Value × pj_Mem} : pj_Ends 36 (131, L, .ref o :: st, (N, S, H)) o9 = pj_then 36 o9 (pj_pv 134 L st (N, S, H) (pj_fld (H o) 3 13)) := pj_xt q36_131 rfl (pj_cl_nc rfl) (s36_131)
theorem q36_134 : pj_row 36 134 = some (.iastore, 1, 0, 0, 0) := by decide +kernel
theorem s36_134 {L : pj_Loc} {st : List Value} {N S : Nat} {H : pj_Heap} {o : Nat} {i x : Int32} : pj_step 36 (134, L, .int x :: .int i :: .ref o :: st, (N, S, H)) = pj_set 135 L st (N, S, H) o (pj_ars (H o) 0 i x) := st_iastore q36_134
theorem x36_134 {L : pj_Loc} {st : List Value} {N S : Nat} {H : pj_Heap} {o : Nat} {i x : Int32} {o9 : Option Value × pj_Mem} : pj_Ends 36 (134, L, .int x :: .int i :: .ref o :: st, (N, S, H)) o9 = pj_then 36 o9 (pj_set 135 L st (N, S, H) o (pj_ars (H o) 0 i x)) := pj_xt q36_134 rfl (pj_cl_nc rfl) (s36_134)
theorem q36_135 : pj_row 36 135 = some (.return_, 1, 0, 0, 0) := by decide +kernel
theorem t36_135 {L : pj_Loc} {M : pj_Mem} : pj_Ends 36 (135, L, [], M) (none, M) := pj_Ends.ret q36_135 (pj_rtn_v rt36)
theorem rt37 : pj_rt 37 = some .int := rfl
theorem q37_0 : pj_row 37 0 = some (.iload_n 0, 1, 0, 0, 0) := by decide +kernel
theorem s37_0 {st : List Value} {M : pj_Mem} {l : pj_Loc} {x : Int32} : pj_step 37 (0, some (.int x) :: l, st, M) = some (1, some (.int x) :: l, .int x :: st, M) := st_iload_n q37_0 rfl
theorem x37_0 {st : List Value} {M : pj_Mem} {l : pj_Loc} {x : Int32} {o9 : Option Value × pj_Mem} : pj_Ends 37 (0, some (.int x) :: l, st, M) o9 = pj_Ends 37 (1, some (.int x) :: l, .int x :: st, M) o9 := pj_xs (s37_0)
theorem q37_1 : pj_row 37 1 = some (.ifCond .eq 7, 3, 8, 0, 0) := by decide +kernel
theorem s37_1 {L : pj_Loc} {st : List Value} {M : pj_Mem} {x : Int32} : pj_step 37 (1, L, .int x :: st, M) = some (if x = 0 then 8 else 4, L, st, M) := st_if_eq q37_1
theorem x37_1 {L : pj_Loc} {st : List Value} {M : pj_Mem} {x : Int32} {o9 : Option Value × pj_Mem} : pj_Ends 37 (1, L, .int x :: st, M) o9 = pj_Ends 37 (if x = 0 then 8 else 4, L, st, M) o9 := pj_xs (s37_1)
theorem q37_4 : pj_row 37 4 = some (.iconst 1, 1, 0, 0, 0) := by decide +kernel
theorem s37_4 {L : pj_Loc} {st : List Value} {M : pj_Mem}  : pj_step 37 (4, L, st, M) = some (5, L, .int 1 :: st, M) := st_iconst q37_4 (by decide +kernel)
theorem x37_4 {L : pj_Loc} {st : List Value} {M : pj_Mem}  {o9 : Option Value × pj_Mem} : pj_Ends 37 (4, L, st, M) o9 = pj_Ends 37 (5, L, .int 1 :: st, M) o9 := pj_xs (s37_4)
theorem q37_5 : pj_row 37 5 = some (.goto 4, 3, 9, 0, 0) := by decide +kernel
theorem s37_5 {L : pj_Loc} {st : List Value} {M : pj_Mem}  : pj_step 37 (5, L, st, M) = some (9, L, st, M) := st_goto q37_5
theorem x37_5 {L : pj_Loc} {st : List Value} {M : pj_Mem}  {o9 : Option Value × pj_Mem} : pj_Ends 37 (5, L, st, M) o9 = pj_Ends 37 (9, L, st, M) o9 := pj_xs (s37_5)
theorem q37_8 : pj_row 37 8 = some (.iconst 0, 1, 0, 0, 0) := by decide +kernel
theorem s37_8 {L : pj_Loc} {st : List Value} {M : pj_Mem}  : pj_step 37 (8, L, st, M) = some (9, L, .int 0 :: st, M) := st_iconst q37_8 (by decide +kernel)
theorem x37_8 {L : pj_Loc} {st : List Value} {M : pj_Mem}  {o9 : Option Value × pj_Mem} : pj_Ends 37 (8, L, st, M) o9 = pj_Ends 37 (9, L, .int 0 :: st, M) o9 := pj_xs (s37_8)
theorem q37_9 : pj_row 37 9 = some (.ireturn, 1, 0, 0, 0) := by decide +kernel
theorem t37_9 {L : pj_Loc} {M : pj_Mem} {v : Int32} : pj_Ends 37 (9, L, [.int v], M) (some (.int v), M) := pj_Ends.ret q37_9 (pj_rtn_i rt37)
theorem rt38 : pj_rt 38 = some .int := rfl
theorem q38_0 : pj_row 38 0 = some (.iload_n 1, 1, 0, 0, 0) := by decide +kernel
theorem s38_0 {st : List Value} {M : pj_Mem} {l : pj_Loc} {a0 : Option Value} {x : Int32} : pj_step 38 (0, a0 :: some (.int x) :: l, st, M) = some (1, a0 :: some (.int x) :: l, .int x :: st, M) := st_iload_n q38_0 rfl
theorem x38_0 {st : List Value} {M : pj_Mem} {l : pj_Loc} {a0 : Option Value} {x : Int32} {o9 : Option Value × pj_Mem} : pj_Ends 38 (0, a0 :: some (.int x) :: l, st, M) o9 = pj_Ends 38 (1, a0 :: some (.int x) :: l, .int x :: st, M) o9 := pj_xs (s38_0)
theorem q38_1 : pj_row 38 1 = some (.ifCond .lt 8, 3, 9, 0, 0) := by decide +kernel
theorem s38_1 {L : pj_Loc} {st : List Value} {M : pj_Mem} {x : Int32} : pj_step 38 (1, L, .int x :: st, M) = some (if x < 0 then 9 else 4, L, st, M) := st_if_lt q38_1
theorem x38_1 {L : pj_Loc} {st : List Value} {M : pj_Mem} {x : Int32} {o9 : Option Value × pj_Mem} : pj_Ends 38 (1, L, .int x :: st, M) o9 = pj_Ends 38 (if x < 0 then 9 else 4, L, st, M) o9 := pj_xs (s38_1)
theorem q38_4 : pj_row 38 4 = some (.iload_n 1, 1, 0, 0, 0) := by decide +kernel
theorem s38_4 {st : List Value} {M : pj_Mem} {l : pj_Loc} {a0 : Option Value} {x : Int32} : pj_step 38 (4, a0 :: some (.int x) :: l, st, M) = some (5, a0 :: some (.int x) :: l, .int x :: st, M) := st_iload_n q38_4 rfl
theorem x38_4 {st : List Value} {M : pj_Mem} {l : pj_Loc} {a0 : Option Value} {x : Int32} {o9 : Option Value × pj_Mem} : pj_Ends 38 (4, a0 :: some (.int x) :: l, st, M) o9 = pj_Ends 38 (5, a0 :: some (.int x) :: l, .int x :: st, M) o9 := pj_xs (s38_4)
theorem q38_5 : pj_row 38 5 = some (.iconst 3, 1, 0, 0, 0) := by decide +kernel
theorem s38_5 {L : pj_Loc} {st : List Value} {M : pj_Mem}  : pj_step 38 (5, L, st, M) = some (6, L, .int 3 :: st, M) := st_iconst q38_5 (by decide +kernel)
theorem x38_5 {L : pj_Loc} {st : List Value} {M : pj_Mem}  {o9 : Option Value × pj_Mem} : pj_Ends 38 (5, L, st, M) o9 = pj_Ends 38 (6, L, .int 3 :: st, M) o9 := pj_xs (s38_5)
theorem q38_6 : pj_row 38 6 = some (.if_icmp .lt 5, 3, 11, 0, 0) := by decide +kernel
theorem s38_6 {L : pj_Loc} {st : List Value} {M : pj_Mem} {x y : Int32} : pj_step 38 (6, L, .int y :: .int x :: st, M) = some (if x < y then 11 else 9, L, st, M) := st_icmp_lt q38_6
theorem x38_6 {L : pj_Loc} {st : List Value} {M : pj_Mem} {x y : Int32} {o9 : Option Value × pj_Mem} : pj_Ends 38 (6, L, .int y :: .int x :: st, M) o9 = pj_Ends 38 (if x < y then 11 else 9, L, st, M) o9 := pj_xs (s38_6)
theorem q38_9 : pj_row 38 9 = some (.iconst (-1), 1, 0, 0, 0) := by decide +kernel
theorem s38_9 {L : pj_Loc} {st : List Value} {M : pj_Mem}  : pj_step 38 (9, L, st, M) = some (10, L, .int (-1) :: st, M) := st_iconst q38_9 (by decide +kernel)
theorem x38_9 {L : pj_Loc} {st : List Value} {M : pj_Mem}  {o9 : Option Value × pj_Mem} : pj_Ends 38 (9, L, st, M) o9 = pj_Ends 38 (10, L, .int (-1) :: st, M) o9 := pj_xs (s38_9)
theorem q38_10 : pj_row 38 10 = some (.ireturn, 1, 0, 0, 0) := by decide +kernel
theorem t38_10 {L : pj_Loc} {M : pj_Mem} {v : Int32} : pj_Ends 38 (10, L, [.int v], M) (some (.int v), M) := pj_Ends.ret q38_10 (pj_rtn_i rt38)
theorem q38_11 : pj_row 38 11 = some (.aload_n 0, 1, 0, 0, 0) := by decide +kernel
theorem s38_11 {st : List Value} {M : pj_Mem} {l : pj_Loc} {x : Nat} : pj_step 38 (11, some (.ref x) :: l, st, M) = some (12, some (.ref x) :: l, .ref x :: st, M) := st_aload_n q38_11 rfl
theorem x38_11 {st : List Value} {M : pj_Mem} {l : pj_Loc} {x : Nat} {o9 : Option Value × pj_Mem} : pj_Ends 38 (11, some (.ref x) :: l, st, M) o9 = pj_Ends 38 (12, some (.ref x) :: l, .ref x :: st, M) o9 := pj_xs (s38_11)
theorem q38_12 : pj_row 38 12 = some (.getfield 10, 3, 5, 0, 0) := by decide +kernel
theorem s38_12 {L : pj_Loc} {st : List Value} {N S : Nat} {H : pj_Heap} {o : Nat} : pj_step 38 (12, L, .ref o :: st, (N, S, H)) = pj_pv 15 L st (N, S, H) (pj_fld (H o) 5 0) := st_getfield q38_12
theorem x38_12 {L : pj_Loc} {st : List Value} {N S : Nat} {H : pj_Heap} {o : Nat} {o9 : Option Value × pj_Mem} : pj_Ends 38 (12, L, .ref o :: st, (N, S, H)) o9 = pj_then 38 o9 (pj_pv 15 L st (N, S, H) (pj_fld (H o) 5 0)) := pj_xt q38_12 rfl (pj_cl_nc rfl) (s38_12)
theorem q38_15 : pj_row 38 15 = some (.getfield 74, 3, 4, 8, 0) := by decide +kernel
theorem s38_15 {L : pj_Loc} {st : List Value} {N S : Nat} {H : pj_Heap} {o : Nat} : pj_step 38 (15, L, .ref o :: st, (N, S, H)) = pj_pv 18 L st (N, S, H) (pj_fld (H o) 4 8) := st_getfield q38_15
theorem x38_15 {L : pj_Loc} {st : List Value} {N S : Nat} {H : pj_Heap} {o : Nat} {o9 : Option Value × pj_Mem} : pj_Ends 38 (15, L, .ref o :: st, (N, S, H)) o9 = pj_then 38 o9 (pj_pv 18 L st (N, S, H) (pj_fld (H o) 4 8)) := pj_xt q38_15 rfl (pj_cl_nc rfl) (s38_15)
theorem q38_18 : pj_row 38 18 = some (.iload_n 1, 1, 0, 0, 0) := by decide +kernel
theorem s38_18 {st : List Value} {M : pj_Mem} {l : pj_Loc} {a0 : Option Value} {x : Int32} : pj_step 38 (18, a0 :: some (.int x) :: l, st, M) = some (19, a0 :: some (.int x) :: l, .int x :: st, M) := st_iload_n q38_18 rfl
theorem x38_18 {st : List Value} {M : pj_Mem} {l : pj_Loc} {a0 : Option Value} {x : Int32} {o9 : Option Value × pj_Mem} : pj_Ends 38 (18, a0 :: some (.int x) :: l, st, M) o9 = pj_Ends 38 (19, a0 :: some (.int x) :: l, .int x :: st, M) o9 := pj_xs (s38_18)
theorem q38_19 : pj_row 38 19 = some (.invokestatic 77, 3, 21, 2, 0) := by decide +kernel
theorem e38_19 {L : pj_Loc} {st : List Value} {N S : Nat} {H : pj_Heap} {o : Option Value × pj_Mem} {M' : pj_Mem} {x0 : Int32} {x1 : Int32} {r : Int32} (h4 : pj_le4 st = true) (h1 : pj_Ends 21 (0, [some (.int x0), some (.int x1)], [], (N, S, H)) (some (.int r), M')) (h2 : pj_Ends 38 (22, L, .int r :: st, M') o) : pj_Ends 38 (19, L, .int x1 :: .int x0 :: st, (N, S, H)) o := ec_s2 q38_19 (Or.inl rfl) h4 rfl h1 h2
theorem q38_22 : pj_row 38 22 = some (.iload_n 2, 1, 0, 0, 0) := by decide +kernel
theorem s38_22 {st : List Value} {M : pj_Mem} {l : pj_Loc} {a0 a1 : Option Value} {x : Int32} : pj_step 38 (22, a0 :: a1 :: some (.int x) :: l, st, M) = some (23, a0 :: a1 :: some (.int x) :: l, .int x :: st, M) := st_iload_n q38_22 rfl
theorem x38_22 {st : List Value} {M : pj_Mem} {l : pj_Loc} {a0 a1 : Option Value} {x : Int32} {o9 : Option Value × pj_Mem} : pj_Ends 38 (22, a0 :: a1 :: some (.int x) :: l, st, M) o9 = pj_Ends 38 (23, a0 :: a1 :: some (.int x) :: l, .int x :: st, M) o9 := pj_xs (s38_22)
theorem q38_23 : pj_row 38 23 = some (.if_icmp .eq 17, 3, 40, 0, 0) := by decide +kernel
theorem s38_23 {L : pj_Loc} {st : List Value} {M : pj_Mem} {x y : Int32} : pj_step 38 (23, L, .int y :: .int x :: st, M) = some (if x = y then 40 else 26, L, st, M) := st_icmp_eq q38_23
theorem x38_23 {L : pj_Loc} {st : List Value} {M : pj_Mem} {x y : Int32} {o9 : Option Value × pj_Mem} : pj_Ends 38 (23, L, .int y :: .int x :: st, M) o9 = pj_Ends 38 (if x = y then 40 else 26, L, st, M) o9 := pj_xs (s38_23)
theorem q38_26 : pj_row 38 26 = some (.aload_n 0, 1, 0, 0, 0) := by decide +kernel
theorem s38_26 {st : List Value} {M : pj_Mem} {l : pj_Loc} {x : Nat} : pj_step 38 (26, some (.ref x) :: l, st, M) = some (27, some (.ref x) :: l, .ref x :: st, M) := st_aload_n q38_26 rfl
theorem x38_26 {st : List Value} {M : pj_Mem} {l : pj_Loc} {x : Nat} {o9 : Option Value × pj_Mem} : pj_Ends 38 (26, some (.ref x) :: l, st, M) o9 = pj_Ends 38 (27, some (.ref x) :: l, .ref x :: st, M) o9 := pj_xs (s38_26)
theorem q38_27 : pj_row 38 27 = some (.getfield 10, 3, 5, 0, 0) := by decide +kernel
theorem s38_27 {L : pj_Loc} {st : List Value} {N S : Nat} {H : pj_Heap} {o : Nat} : pj_step 38 (27, L, .ref o :: st, (N, S, H)) = pj_pv 30 L st (N, S, H) (pj_fld (H o) 5 0) := st_getfield q38_27
theorem x38_27 {L : pj_Loc} {st : List Value} {N S : Nat} {H : pj_Heap} {o : Nat} {o9 : Option Value × pj_Mem} : pj_Ends 38 (27, L, .ref o :: st, (N, S, H)) o9 = pj_then 38 o9 (pj_pv 30 L st (N, S, H) (pj_fld (H o) 5 0)) := pj_xt q38_27 rfl (pj_cl_nc rfl) (s38_27)
theorem q38_30 : pj_row 38 30 = some (.getfield 81, 3, 4, 5, 0) := by decide +kernel
theorem s38_30 {L : pj_Loc} {st : List Value} {N S : Nat} {H : pj_Heap} {o : Nat} : pj_step 38 (30, L, .ref o :: st, (N, S, H)) = pj_pv 33 L st (N, S, H) (pj_fld (H o) 4 5) := st_getfield q38_30
theorem x38_30 {L : pj_Loc} {st : List Value} {N S : Nat} {H : pj_Heap} {o : Nat} {o9 : Option Value × pj_Mem} : pj_Ends 38 (30, L, .ref o :: st, (N, S, H)) o9 = pj_then 38 o9 (pj_pv 33 L st (N, S, H) (pj_fld (H o) 4 5)) := pj_xt q38_30 rfl (pj_cl_nc rfl) (s38_30)
theorem q38_33 : pj_row 38 33 = some (.iload_n 1, 1, 0, 0, 0) := by decide +kernel
theorem s38_33 {st : List Value} {M : pj_Mem} {l : pj_Loc} {a0 : Option Value} {x : Int32} : pj_step 38 (33, a0 :: some (.int x) :: l, st, M) = some (34, a0 :: some (.int x) :: l, .int x :: st, M) := st_iload_n q38_33 rfl
theorem x38_33 {st : List Value} {M : pj_Mem} {l : pj_Loc} {a0 : Option Value} {x : Int32} {o9 : Option Value × pj_Mem} : pj_Ends 38 (33, a0 :: some (.int x) :: l, st, M) o9 = pj_Ends 38 (34, a0 :: some (.int x) :: l, .int x :: st, M) o9 := pj_xs (s38_33)
theorem q38_34 : pj_row 38 34 = some (.iaload, 1, 0, 0, 0) := by decide +kernel
theorem s38_34 {L : pj_Loc} {st : List Value} {N S : Nat} {H : pj_Heap} {o : Nat} {i : Int32} : pj_step 38 (34, L, .int i :: .ref o :: st, (N, S, H)) = pj_pi 35 L st (N, S, H) (pj_arl (H o) 0 i) := st_iaload q38_34
theorem x38_34 {L : pj_Loc} {st : List Value} {N S : Nat} {H : pj_Heap} {o : Nat} {i : Int32} {o9 : Option Value × pj_Mem} : pj_Ends 38 (34, L, .int i :: .ref o :: st, (N, S, H)) o9 = pj_then 38 o9 (pj_pi 35 L st (N, S, H) (pj_arl (H o) 0 i)) := pj_xt q38_34 rfl (pj_cl_nc rfl) (s38_34)
theorem q38_35 : pj_row 38 35 = some (.bipush (-6), 2, 0, 0, 0) := by decide +kernel
theorem s38_35 {L : pj_Loc} {st : List Value} {M : pj_Mem}  : pj_step 38 (35, L, st, M) = some (37, L, .int (-6) :: st, M) := st_bipush q38_35 (by decide +kernel)
theorem x38_35 {L : pj_Loc} {st : List Value} {M : pj_Mem}  {o9 : Option Value × pj_Mem} : pj_Ends 38 (35, L, st, M) o9 = pj_Ends 38 (37, L, .int (-6) :: st, M) o9 := pj_xs (s38_35)
theorem q38_37 : pj_row 38 37 = some (.if_icmp .eq 6, 3, 43, 0, 0) := by decide +kernel
theorem s38_37 {L : pj_Loc} {st : List Value} {M : pj_Mem} {x y : Int32} : pj_step 38 (37, L, .int y :: .int x :: st, M) = some (if x = y then 43 else 40, L, st, M) := st_icmp_eq q38_37
theorem x38_37 {L : pj_Loc} {st : List Value} {M : pj_Mem} {x y : Int32} {o9 : Option Value × pj_Mem} : pj_Ends 38 (37, L, .int y :: .int x :: st, M) o9 = pj_Ends 38 (if x = y then 43 else 40, L, st, M) o9 := pj_xs (s38_37)
theorem q38_40 : pj_row 38 40 = some (.bipush (-5), 2, 0, 0, 0) := by decide +kernel
theorem s38_40 {L : pj_Loc} {st : List Value} {M : pj_Mem}  : pj_step 38 (40, L, st, M) = some (42, L, .int (-5) :: st, M) := st_bipush q38_40 (by decide +kernel)
theorem x38_40 {L : pj_Loc} {st : List Value} {M : pj_Mem}  {o9 : Option Value × pj_Mem} : pj_Ends 38 (40, L, st, M) o9 = pj_Ends 38 (42, L, .int (-5) :: st, M) o9 := pj_xs (s38_40)
theorem q38_42 : pj_row 38 42 = some (.ireturn, 1, 0, 0, 0) := by decide +kernel
theorem t38_42 {L : pj_Loc} {M : pj_Mem} {v : Int32} : pj_Ends 38 (42, L, [.int v], M) (some (.int v), M) := pj_Ends.ret q38_42 (pj_rtn_i rt38)
theorem q38_43 : pj_row 38 43 = some (.aload_n 0, 1, 0, 0, 0) := by decide +kernel
theorem s38_43 {st : List Value} {M : pj_Mem} {l : pj_Loc} {x : Nat} : pj_step 38 (43, some (.ref x) :: l, st, M) = some (44, some (.ref x) :: l, .ref x :: st, M) := st_aload_n q38_43 rfl
theorem x38_43 {st : List Value} {M : pj_Mem} {l : pj_Loc} {x : Nat} {o9 : Option Value × pj_Mem} : pj_Ends 38 (43, some (.ref x) :: l, st, M) o9 = pj_Ends 38 (44, some (.ref x) :: l, .ref x :: st, M) o9 := pj_xs (s38_43)
theorem q38_44 : pj_row 38 44 = some (.invokevirtual 55, 3, 8, 1, 0) := by decide +kernel
theorem e38_44 {L : pj_Loc} {st : List Value} {N S : Nat} {H : pj_Heap} {o : Option Value × pj_Mem} {M' : pj_Mem} {x0 : Nat} (h4 : pj_le4 st = true) (hu : pj_isU 5 (H x0) = true) (h1 : pj_Ends 8 (0, [some (.ref x0), none, none], [], (N, S, H)) (none, M')) (h2 : pj_Ends 38 (47, L, st, M') o) : pj_Ends 38 (44, L, .ref x0 :: st, (N, S, H)) o := ec_v1 q38_44 (Or.inl rfl) h4 hu rfl h1 h2
theorem q38_47 : pj_row 38 47 = some (.aload_n 0, 1, 0, 0, 0) := by decide +kernel
theorem s38_47 {st : List Value} {M : pj_Mem} {l : pj_Loc} {x : Nat} : pj_step 38 (47, some (.ref x) :: l, st, M) = some (48, some (.ref x) :: l, .ref x :: st, M) := st_aload_n q38_47 rfl
theorem x38_47 {st : List Value} {M : pj_Mem} {l : pj_Loc} {x : Nat} {o9 : Option Value × pj_Mem} : pj_Ends 38 (47, some (.ref x) :: l, st, M) o9 = pj_Ends 38 (48, some (.ref x) :: l, .ref x :: st, M) o9 := pj_xs (s38_47)
theorem q38_48 : pj_row 38 48 = some (.getfield 10, 3, 5, 0, 0) := by decide +kernel
theorem s38_48 {L : pj_Loc} {st : List Value} {N S : Nat} {H : pj_Heap} {o : Nat} : pj_step 38 (48, L, .ref o :: st, (N, S, H)) = pj_pv 51 L st (N, S, H) (pj_fld (H o) 5 0) := st_getfield q38_48
theorem x38_48 {L : pj_Loc} {st : List Value} {N S : Nat} {H : pj_Heap} {o : Nat} {o9 : Option Value × pj_Mem} : pj_Ends 38 (48, L, .ref o :: st, (N, S, H)) o9 = pj_then 38 o9 (pj_pv 51 L st (N, S, H) (pj_fld (H o) 5 0)) := pj_xt q38_48 rfl (pj_cl_nc rfl) (s38_48)
theorem q38_51 : pj_row 38 51 = some (.iload_n 2, 1, 0, 0, 0) := by decide +kernel
theorem s38_51 {st : List Value} {M : pj_Mem} {l : pj_Loc} {a0 a1 : Option Value} {x : Int32} : pj_step 38 (51, a0 :: a1 :: some (.int x) :: l, st, M) = some (52, a0 :: a1 :: some (.int x) :: l, .int x :: st, M) := st_iload_n q38_51 rfl
theorem x38_51 {st : List Value} {M : pj_Mem} {l : pj_Loc} {a0 a1 : Option Value} {x : Int32} {o9 : Option Value × pj_Mem} : pj_Ends 38 (51, a0 :: a1 :: some (.int x) :: l, st, M) o9 = pj_Ends 38 (52, a0 :: a1 :: some (.int x) :: l, .int x :: st, M) o9 := pj_xs (s38_51)
theorem q38_52 : pj_row 38 52 = some (.ifCond .eq 17, 3, 69, 0, 0) := by decide +kernel
theorem s38_52 {L : pj_Loc} {st : List Value} {M : pj_Mem} {x : Int32} : pj_step 38 (52, L, .int x :: st, M) = some (if x = 0 then 69 else 55, L, st, M) := st_if_eq q38_52
theorem x38_52 {L : pj_Loc} {st : List Value} {M : pj_Mem} {x : Int32} {o9 : Option Value × pj_Mem} : pj_Ends 38 (52, L, .int x :: st, M) o9 = pj_Ends 38 (if x = 0 then 69 else 55, L, st, M) o9 := pj_xs (s38_52)
theorem q38_55 : pj_row 38 55 = some (.aload_n 0, 1, 0, 0, 0) := by decide +kernel
theorem s38_55 {st : List Value} {M : pj_Mem} {l : pj_Loc} {x : Nat} : pj_step 38 (55, some (.ref x) :: l, st, M) = some (56, some (.ref x) :: l, .ref x :: st, M) := st_aload_n q38_55 rfl
theorem x38_55 {st : List Value} {M : pj_Mem} {l : pj_Loc} {x : Nat} {o9 : Option Value × pj_Mem} : pj_Ends 38 (55, some (.ref x) :: l, st, M) o9 = pj_Ends 38 (56, some (.ref x) :: l, .ref x :: st, M) o9 := pj_xs (s38_55)
theorem q38_56 : pj_row 38 56 = some (.getfield 10, 3, 5, 0, 0) := by decide +kernel
theorem s38_56 {L : pj_Loc} {st : List Value} {N S : Nat} {H : pj_Heap} {o : Nat} : pj_step 38 (56, L, .ref o :: st, (N, S, H)) = pj_pv 59 L st (N, S, H) (pj_fld (H o) 5 0) := st_getfield q38_56
theorem x38_56 {L : pj_Loc} {st : List Value} {N S : Nat} {H : pj_Heap} {o : Nat} {o9 : Option Value × pj_Mem} : pj_Ends 38 (56, L, .ref o :: st, (N, S, H)) o9 = pj_then 38 o9 (pj_pv 59 L st (N, S, H) (pj_fld (H o) 5 0)) := pj_xt q38_56 rfl (pj_cl_nc rfl) (s38_56)
theorem q38_59 : pj_row 38 59 = some (.getfield 74, 3, 4, 8, 0) := by decide +kernel
theorem s38_59 {L : pj_Loc} {st : List Value} {N S : Nat} {H : pj_Heap} {o : Nat} : pj_step 38 (59, L, .ref o :: st, (N, S, H)) = pj_pv 62 L st (N, S, H) (pj_fld (H o) 4 8) := st_getfield q38_59
theorem x38_59 {L : pj_Loc} {st : List Value} {N S : Nat} {H : pj_Heap} {o : Nat} {o9 : Option Value × pj_Mem} : pj_Ends 38 (59, L, .ref o :: st, (N, S, H)) o9 = pj_then 38 o9 (pj_pv 62 L st (N, S, H) (pj_fld (H o) 4 8)) := pj_xt q38_59 rfl (pj_cl_nc rfl) (s38_59)
theorem q38_62 : pj_row 38 62 = some (.iload_n 1, 1, 0, 0, 0) := by decide +kernel
theorem s38_62 {st : List Value} {M : pj_Mem} {l : pj_Loc} {a0 : Option Value} {x : Int32} : pj_step 38 (62, a0 :: some (.int x) :: l, st, M) = some (63, a0 :: some (.int x) :: l, .int x :: st, M) := st_iload_n q38_62 rfl
theorem x38_62 {st : List Value} {M : pj_Mem} {l : pj_Loc} {a0 : Option Value} {x : Int32} {o9 : Option Value × pj_Mem} : pj_Ends 38 (62, a0 :: some (.int x) :: l, st, M) o9 = pj_Ends 38 (63, a0 :: some (.int x) :: l, .int x :: st, M) o9 := pj_xs (s38_62)
theorem q38_63 : pj_row 38 63 = some (.invokestatic 84, 3, 27, 2, 0) := by decide +kernel
theorem e38_63 {L : pj_Loc} {st : List Value} {N S : Nat} {H : pj_Heap} {o : Option Value × pj_Mem} {M' : pj_Mem} {x0 : Int32} {x1 : Int32} {r : Int32} (h4 : pj_le4 st = true) (h1 : pj_Ends 27 (0, [some (.int x0), some (.int x1)], [], (N, S, H)) (some (.int r), M')) (h2 : pj_Ends 38 (66, L, .int r :: st, M') o) : pj_Ends 38 (63, L, .int x1 :: .int x0 :: st, (N, S, H)) o := ec_s2 q38_63 (Or.inl rfl) h4 rfl h1 h2
theorem q38_66 : pj_row 38 66 = some (.goto 14, 3, 80, 0, 0) := by decide +kernel
theorem s38_66 {L : pj_Loc} {st : List Value} {M : pj_Mem}  : pj_step 38 (66, L, st, M) = some (80, L, st, M) := st_goto q38_66
theorem x38_66 {L : pj_Loc} {st : List Value} {M : pj_Mem}  {o9 : Option Value × pj_Mem} : pj_Ends 38 (66, L, st, M) o9 = pj_Ends 38 (80, L, st, M) o9 := pj_xs (s38_66)
theorem q38_69 : pj_row 38 69 = some (.aload_n 0, 1, 0, 0, 0) := by decide +kernel
theorem s38_69 {st : List Value} {M : pj_Mem} {l : pj_Loc} {x : Nat} : pj_step 38 (69, some (.ref x) :: l, st, M) = some (70, some (.ref x) :: l, .ref x :: st, M) := st_aload_n q38_69 rfl
theorem x38_69 {st : List Value} {M : pj_Mem} {l : pj_Loc} {x : Nat} {o9 : Option Value × pj_Mem} : pj_Ends 38 (69, some (.ref x) :: l, st, M) o9 = pj_Ends 38 (70, some (.ref x) :: l, .ref x :: st, M) o9 := pj_xs (s38_69)
theorem q38_70 : pj_row 38 70 = some (.getfield 10, 3, 5, 0, 0) := by decide +kernel
theorem s38_70 {L : pj_Loc} {st : List Value} {N S : Nat} {H : pj_Heap} {o : Nat} : pj_step 38 (70, L, .ref o :: st, (N, S, H)) = pj_pv 73 L st (N, S, H) (pj_fld (H o) 5 0) := st_getfield q38_70
theorem x38_70 {L : pj_Loc} {st : List Value} {N S : Nat} {H : pj_Heap} {o : Nat} {o9 : Option Value × pj_Mem} : pj_Ends 38 (70, L, .ref o :: st, (N, S, H)) o9 = pj_then 38 o9 (pj_pv 73 L st (N, S, H) (pj_fld (H o) 5 0)) := pj_xt q38_70 rfl (pj_cl_nc rfl) (s38_70)
theorem q38_73 : pj_row 38 73 = some (.getfield 74, 3, 4, 8, 0) := by decide +kernel
theorem s38_73 {L : pj_Loc} {st : List Value} {N S : Nat} {H : pj_Heap} {o : Nat} : pj_step 38 (73, L, .ref o :: st, (N, S, H)) = pj_pv 76 L st (N, S, H) (pj_fld (H o) 4 8) := st_getfield q38_73
theorem x38_73 {L : pj_Loc} {st : List Value} {N S : Nat} {H : pj_Heap} {o : Nat} {o9 : Option Value × pj_Mem} : pj_Ends 38 (73, L, .ref o :: st, (N, S, H)) o9 = pj_then 38 o9 (pj_pv 76 L st (N, S, H) (pj_fld (H o) 4 8)) := pj_xt q38_73 rfl (pj_cl_nc rfl) (s38_73)
theorem q38_76 : pj_row 38 76 = some (.iload_n 1, 1, 0, 0, 0) := by decide +kernel
theorem s38_76 {st : List Value} {M : pj_Mem} {l : pj_Loc} {a0 : Option Value} {x : Int32} : pj_step 38 (76, a0 :: some (.int x) :: l, st, M) = some (77, a0 :: some (.int x) :: l, .int x :: st, M) := st_iload_n q38_76 rfl
theorem x38_76 {st : List Value} {M : pj_Mem} {l : pj_Loc} {a0 : Option Value} {x : Int32} {o9 : Option Value × pj_Mem} : pj_Ends 38 (76, a0 :: some (.int x) :: l, st, M) o9 = pj_Ends 38 (77, a0 :: some (.int x) :: l, .int x :: st, M) o9 := pj_xs (s38_76)
theorem q38_77 : pj_row 38 77 = some (.invokestatic 88, 3, 17, 2, 0) := by decide +kernel
theorem e38_77 {L : pj_Loc} {st : List Value} {N S : Nat} {H : pj_Heap} {o : Option Value × pj_Mem} {M' : pj_Mem} {x0 : Int32} {x1 : Int32} {r : Int32} (h4 : pj_le4 st = true) (h1 : pj_Ends 17 (0, [some (.int x0), some (.int x1)], [], (N, S, H)) (some (.int r), M')) (h2 : pj_Ends 38 (80, L, .int r :: st, M') o) : pj_Ends 38 (77, L, .int x1 :: .int x0 :: st, (N, S, H)) o := ec_s2 q38_77 (Or.inl rfl) h4 rfl h1 h2
theorem q38_80 : pj_row 38 80 = some (.putfield 74, 3, 4, 8, 0) := by decide +kernel
theorem s38_80 {L : pj_Loc} {st : List Value} {N S : Nat} {H : pj_Heap} {o : Nat} {v : Value} : pj_step 38 (80, L, v :: .ref o :: st, (N, S, H)) = pj_set 83 L st (N, S, H) o (pj_fset (H o) 4 8 v) := st_putfield q38_80
theorem x38_80 {L : pj_Loc} {st : List Value} {N S : Nat} {H : pj_Heap} {o : Nat} {v : Value} {o9 : Option Value × pj_Mem} : pj_Ends 38 (80, L, v :: .ref o :: st, (N, S, H)) o9 = pj_then 38 o9 (pj_set 83 L st (N, S, H) o (pj_fset (H o) 4 8 v)) := pj_xt q38_80 rfl (pj_cl_nc rfl) (s38_80)
theorem q38_83 : pj_row 38 83 = some (.aload_n 0, 1, 0, 0, 0) := by decide +kernel
theorem s38_83 {st : List Value} {M : pj_Mem} {l : pj_Loc} {x : Nat} : pj_step 38 (83, some (.ref x) :: l, st, M) = some (84, some (.ref x) :: l, .ref x :: st, M) := st_aload_n q38_83 rfl
theorem x38_83 {st : List Value} {M : pj_Mem} {l : pj_Loc} {x : Nat} {o9 : Option Value × pj_Mem} : pj_Ends 38 (83, some (.ref x) :: l, st, M) o9 = pj_Ends 38 (84, some (.ref x) :: l, .ref x :: st, M) o9 := pj_xs (s38_83)
theorem q38_84 : pj_row 38 84 = some (.getfield 10, 3, 5, 0, 0) := by decide +kernel
theorem s38_84 {L : pj_Loc} {st : List Value} {N S : Nat} {H : pj_Heap} {o : Nat} : pj_step 38 (84, L, .ref o :: st, (N, S, H)) = pj_pv 87 L st (N, S, H) (pj_fld (H o) 5 0) := st_getfield q38_84
theorem x38_84 {L : pj_Loc} {st : List Value} {N S : Nat} {H : pj_Heap} {o : Nat} {o9 : Option Value × pj_Mem} : pj_Ends 38 (84, L, .ref o :: st, (N, S, H)) o9 = pj_then 38 o9 (pj_pv 87 L st (N, S, H) (pj_fld (H o) 5 0)) := pj_xt q38_84 rfl (pj_cl_nc rfl) (s38_84)
theorem q38_87 : pj_row 38 87 = some (.getfield 74, 3, 4, 8, 0) := by decide +kernel
theorem s38_87 {L : pj_Loc} {st : List Value} {N S : Nat} {H : pj_Heap} {o : Nat} : pj_step 38 (87, L, .ref o :: st, (N, S, H)) = pj_pv 90 L st (N, S, H) (pj_fld (H o) 4 8) := st_getfield q38_87
theorem x38_87 {L : pj_Loc} {st : List Value} {N S : Nat} {H : pj_Heap} {o : Nat} {o9 : Option Value × pj_Mem} : pj_Ends 38 (87, L, .ref o :: st, (N, S, H)) o9 = pj_then 38 o9 (pj_pv 90 L st (N, S, H) (pj_fld (H o) 4 8)) := pj_xt q38_87 rfl (pj_cl_nc rfl) (s38_87)
theorem q38_90 : pj_row 38 90 = some (.ireturn, 1, 0, 0, 0) := by decide +kernel
theorem t38_90 {L : pj_Loc} {M : pj_Mem} {v : Int32} : pj_Ends 38 (90, L, [.int v], M) (some (.int v), M) := pj_Ends.ret q38_90 (pj_rtn_i rt38)
theorem rt39 : pj_rt 39 = some .int := rfl
theorem q39_0 : pj_row 39 0 = some (.iload_n 1, 1, 0, 0, 0) := by decide +kernel
theorem s39_0 {st : List Value} {M : pj_Mem} {l : pj_Loc} {a0 : Option Value} {x : Int32} : pj_step 39 (0, a0 :: some (.int x) :: l, st, M) = some (1, a0 :: some (.int x) :: l, .int x :: st, M) := st_iload_n q39_0 rfl
theorem x39_0 {st : List Value} {M : pj_Mem} {l : pj_Loc} {a0 : Option Value} {x : Int32} {o9 : Option Value × pj_Mem} : pj_Ends 39 (0, a0 :: some (.int x) :: l, st, M) o9 = pj_Ends 39 (1, a0 :: some (.int x) :: l, .int x :: st, M) o9 := pj_xs (s39_0)
theorem q39_1 : pj_row 39 1 = some (.ifCond .lt 8, 3, 9, 0, 0) := by decide +kernel
theorem s39_1 {L : pj_Loc} {st : List Value} {M : pj_Mem} {x : Int32} : pj_step 39 (1, L, .int x :: st, M) = some (if x < 0 then 9 else 4, L, st, M) := st_if_lt q39_1
theorem x39_1 {L : pj_Loc} {st : List Value} {M : pj_Mem} {x : Int32} {o9 : Option Value × pj_Mem} : pj_Ends 39 (1, L, .int x :: st, M) o9 = pj_Ends 39 (if x < 0 then 9 else 4, L, st, M) o9 := pj_xs (s39_1)
theorem q39_4 : pj_row 39 4 = some (.iload_n 1, 1, 0, 0, 0) := by decide +kernel
theorem s39_4 {st : List Value} {M : pj_Mem} {l : pj_Loc} {a0 : Option Value} {x : Int32} : pj_step 39 (4, a0 :: some (.int x) :: l, st, M) = some (5, a0 :: some (.int x) :: l, .int x :: st, M) := st_iload_n q39_4 rfl
theorem x39_4 {st : List Value} {M : pj_Mem} {l : pj_Loc} {a0 : Option Value} {x : Int32} {o9 : Option Value × pj_Mem} : pj_Ends 39 (4, a0 :: some (.int x) :: l, st, M) o9 = pj_Ends 39 (5, a0 :: some (.int x) :: l, .int x :: st, M) o9 := pj_xs (s39_4)
theorem q39_5 : pj_row 39 5 = some (.iconst 3, 1, 0, 0, 0) := by decide +kernel
theorem s39_5 {L : pj_Loc} {st : List Value} {M : pj_Mem}  : pj_step 39 (5, L, st, M) = some (6, L, .int 3 :: st, M) := st_iconst q39_5 (by decide +kernel)
theorem x39_5 {L : pj_Loc} {st : List Value} {M : pj_Mem}  {o9 : Option Value × pj_Mem} : pj_Ends 39 (5, L, st, M) o9 = pj_Ends 39 (6, L, .int 3 :: st, M) o9 := pj_xs (s39_5)
theorem q39_6 : pj_row 39 6 = some (.if_icmp .lt 5, 3, 11, 0, 0) := by decide +kernel
theorem s39_6 {L : pj_Loc} {st : List Value} {M : pj_Mem} {x y : Int32} : pj_step 39 (6, L, .int y :: .int x :: st, M) = some (if x < y then 11 else 9, L, st, M) := st_icmp_lt q39_6
theorem x39_6 {L : pj_Loc} {st : List Value} {M : pj_Mem} {x y : Int32} {o9 : Option Value × pj_Mem} : pj_Ends 39 (6, L, .int y :: .int x :: st, M) o9 = pj_Ends 39 (if x < y then 11 else 9, L, st, M) o9 := pj_xs (s39_6)
theorem q39_9 : pj_row 39 9 = some (.iconst (-1), 1, 0, 0, 0) := by decide +kernel
theorem s39_9 {L : pj_Loc} {st : List Value} {M : pj_Mem}  : pj_step 39 (9, L, st, M) = some (10, L, .int (-1) :: st, M) := st_iconst q39_9 (by decide +kernel)
theorem x39_9 {L : pj_Loc} {st : List Value} {M : pj_Mem}  {o9 : Option Value × pj_Mem} : pj_Ends 39 (9, L, st, M) o9 = pj_Ends 39 (10, L, .int (-1) :: st, M) o9 := pj_xs (s39_9)
theorem q39_10 : pj_row 39 10 = some (.ireturn, 1, 0, 0, 0) := by decide +kernel
theorem t39_10 {L : pj_Loc} {M : pj_Mem} {v : Int32} : pj_Ends 39 (10, L, [.int v], M) (some (.int v), M) := pj_Ends.ret q39_10 (pj_rtn_i rt39)
theorem q39_11 : pj_row 39 11 = some (.aload_n 0, 1, 0, 0, 0) := by decide +kernel
theorem s39_11 {st : List Value} {M : pj_Mem} {l : pj_Loc} {x : Nat} : pj_step 39 (11, some (.ref x) :: l, st, M) = some (12, some (.ref x) :: l, .ref x :: st, M) := st_aload_n q39_11 rfl
theorem x39_11 {st : List Value} {M : pj_Mem} {l : pj_Loc} {x : Nat} {o9 : Option Value × pj_Mem} : pj_Ends 39 (11, some (.ref x) :: l, st, M) o9 = pj_Ends 39 (12, some (.ref x) :: l, .ref x :: st, M) o9 := pj_xs (s39_11)
theorem q39_12 : pj_row 39 12 = some (.getfield 10, 3, 5, 0, 0) := by decide +kernel
theorem s39_12 {L : pj_Loc} {st : List Value} {N S : Nat} {H : pj_Heap} {o : Nat} : pj_step 39 (12, L, .ref o :: st, (N, S, H)) = pj_pv 15 L st (N, S, H) (pj_fld (H o) 5 0) := st_getfield q39_12
theorem x39_12 {L : pj_Loc} {st : List Value} {N S : Nat} {H : pj_Heap} {o : Nat} {o9 : Option Value × pj_Mem} : pj_Ends 39 (12, L, .ref o :: st, (N, S, H)) o9 = pj_then 39 o9 (pj_pv 15 L st (N, S, H) (pj_fld (H o) 5 0)) := pj_xt q39_12 rfl (pj_cl_nc rfl) (s39_12)
theorem q39_15 : pj_row 39 15 = some (.invokevirtual 91, 3, 40, 1, 0) := by decide +kernel
theorem e39_15 {L : pj_Loc} {st : List Value} {N S : Nat} {H : pj_Heap} {o : Option Value × pj_Mem} {M' : pj_Mem} {x0 : Nat} {r : Int32} (h4 : pj_le4 st = true) (hu : pj_isU 4 (H x0) = true) (h1 : pj_Ends 40 (0, [some (.ref x0), none, none], [], (N, S, H)) (some (.int r), M')) (h2 : pj_Ends 39 (18, L, .int r :: st, M') o) : pj_Ends 39 (15, L, .ref x0 :: st, (N, S, H)) o := ec_v1 q39_15 (Or.inl rfl) h4 hu rfl h1 h2
theorem q39_18 : pj_row 39 18 = some (.ifCond .eq 6, 3, 24, 0, 0) := by decide +kernel
theorem s39_18 {L : pj_Loc} {st : List Value} {M : pj_Mem} {x : Int32} : pj_step 39 (18, L, .int x :: st, M) = some (if x = 0 then 24 else 21, L, st, M) := st_if_eq q39_18
theorem x39_18 {L : pj_Loc} {st : List Value} {M : pj_Mem} {x : Int32} {o9 : Option Value × pj_Mem} : pj_Ends 39 (18, L, .int x :: st, M) o9 = pj_Ends 39 (if x = 0 then 24 else 21, L, st, M) o9 := pj_xs (s39_18)
theorem q39_21 : pj_row 39 21 = some (.bipush (-5), 2, 0, 0, 0) := by decide +kernel
theorem s39_21 {L : pj_Loc} {st : List Value} {M : pj_Mem}  : pj_step 39 (21, L, st, M) = some (23, L, .int (-5) :: st, M) := st_bipush q39_21 (by decide +kernel)
theorem x39_21 {L : pj_Loc} {st : List Value} {M : pj_Mem}  {o9 : Option Value × pj_Mem} : pj_Ends 39 (21, L, st, M) o9 = pj_Ends 39 (23, L, .int (-5) :: st, M) o9 := pj_xs (s39_21)
theorem q39_23 : pj_row 39 23 = some (.ireturn, 1, 0, 0, 0) := by decide +kernel
theorem t39_23 {L : pj_Loc} {M : pj_Mem} {v : Int32} : pj_Ends 39 (23, L, [.int v], M) (some (.int v), M) := pj_Ends.ret q39_23 (pj_rtn_i rt39)
theorem q39_24 : pj_row 39 24 = some (.aload_n 0, 1, 0, 0, 0) := by decide +kernel
theorem s39_24 {st : List Value} {M : pj_Mem} {l : pj_Loc} {x : Nat} : pj_step 39 (24, some (.ref x) :: l, st, M) = some (25, some (.ref x) :: l, .ref x :: st, M) := st_aload_n q39_24 rfl
theorem x39_24 {st : List Value} {M : pj_Mem} {l : pj_Loc} {x : Nat} {o9 : Option Value × pj_Mem} : pj_Ends 39 (24, some (.ref x) :: l, st, M) o9 = pj_Ends 39 (25, some (.ref x) :: l, .ref x :: st, M) o9 := pj_xs (s39_24)
theorem q39_25 : pj_row 39 25 = some (.invokevirtual 55, 3, 8, 1, 0) := by decide +kernel
theorem e39_25 {L : pj_Loc} {st : List Value} {N S : Nat} {H : pj_Heap} {o : Option Value × pj_Mem} {M' : pj_Mem} {x0 : Nat} (h4 : pj_le4 st = true) (hu : pj_isU 5 (H x0) = true) (h1 : pj_Ends 8 (0, [some (.ref x0), none, none], [], (N, S, H)) (none, M')) (h2 : pj_Ends 39 (28, L, st, M') o) : pj_Ends 39 (25, L, .ref x0 :: st, (N, S, H)) o := ec_v1 q39_25 (Or.inl rfl) h4 hu rfl h1 h2
theorem q39_28 : pj_row 39 28 = some (.aload_n 0, 1, 0, 0, 0) := by decide +kernel
theorem s39_28 {st : List Value} {M : pj_Mem} {l : pj_Loc} {x : Nat} : pj_step 39 (28, some (.ref x) :: l, st, M) = some (29, some (.ref x) :: l, .ref x :: st, M) := st_aload_n q39_28 rfl
theorem x39_28 {st : List Value} {M : pj_Mem} {l : pj_Loc} {x : Nat} {o9 : Option Value × pj_Mem} : pj_Ends 39 (28, some (.ref x) :: l, st, M) o9 = pj_Ends 39 (29, some (.ref x) :: l, .ref x :: st, M) o9 := pj_xs (s39_28)
theorem q39_29 : pj_row 39 29 = some (.getfield 10, 3, 5, 0, 0) := by decide +kernel
theorem s39_29 {L : pj_Loc} {st : List Value} {N S : Nat} {H : pj_Heap} {o : Nat} : pj_step 39 (29, L, .ref o :: st, (N, S, H)) = pj_pv 32 L st (N, S, H) (pj_fld (H o) 5 0) := st_getfield q39_29
theorem x39_29 {L : pj_Loc} {st : List Value} {N S : Nat} {H : pj_Heap} {o : Nat} {o9 : Option Value × pj_Mem} : pj_Ends 39 (29, L, .ref o :: st, (N, S, H)) o9 = pj_then 39 o9 (pj_pv 32 L st (N, S, H) (pj_fld (H o) 5 0)) := pj_xt q39_29 rfl (pj_cl_nc rfl) (s39_29)
theorem q39_32 : pj_row 39 32 = some (.getfield 95, 3, 4, 7, 0) := by decide +kernel
theorem s39_32 {L : pj_Loc} {st : List Value} {N S : Nat} {H : pj_Heap} {o : Nat} : pj_step 39 (32, L, .ref o :: st, (N, S, H)) = pj_pv 35 L st (N, S, H) (pj_fld (H o) 4 7) := st_getfield q39_32
theorem x39_32 {L : pj_Loc} {st : List Value} {N S : Nat} {H : pj_Heap} {o : Nat} {o9 : Option Value × pj_Mem} : pj_Ends 39 (32, L, .ref o :: st, (N, S, H)) o9 = pj_then 39 o9 (pj_pv 35 L st (N, S, H) (pj_fld (H o) 4 7)) := pj_xt q39_32 rfl (pj_cl_nc rfl) (s39_32)
theorem q39_35 : pj_row 39 35 = some (.iload_n 1, 1, 0, 0, 0) := by decide +kernel
theorem s39_35 {st : List Value} {M : pj_Mem} {l : pj_Loc} {a0 : Option Value} {x : Int32} : pj_step 39 (35, a0 :: some (.int x) :: l, st, M) = some (36, a0 :: some (.int x) :: l, .int x :: st, M) := st_iload_n q39_35 rfl
theorem x39_35 {st : List Value} {M : pj_Mem} {l : pj_Loc} {a0 : Option Value} {x : Int32} {o9 : Option Value × pj_Mem} : pj_Ends 39 (35, a0 :: some (.int x) :: l, st, M) o9 = pj_Ends 39 (36, a0 :: some (.int x) :: l, .int x :: st, M) o9 := pj_xs (s39_35)
theorem q39_36 : pj_row 39 36 = some (.invokestatic 77, 3, 21, 2, 0) := by decide +kernel
theorem e39_36 {L : pj_Loc} {st : List Value} {N S : Nat} {H : pj_Heap} {o : Option Value × pj_Mem} {M' : pj_Mem} {x0 : Int32} {x1 : Int32} {r : Int32} (h4 : pj_le4 st = true) (h1 : pj_Ends 21 (0, [some (.int x0), some (.int x1)], [], (N, S, H)) (some (.int r), M')) (h2 : pj_Ends 39 (39, L, .int r :: st, M') o) : pj_Ends 39 (36, L, .int x1 :: .int x0 :: st, (N, S, H)) o := ec_s2 q39_36 (Or.inl rfl) h4 rfl h1 h2
theorem q39_39 : pj_row 39 39 = some (.ifCond .eq 7, 3, 46, 0, 0) := by decide +kernel
theorem s39_39 {L : pj_Loc} {st : List Value} {M : pj_Mem} {x : Int32} : pj_step 39 (39, L, .int x :: st, M) = some (if x = 0 then 46 else 42, L, st, M) := st_if_eq q39_39
theorem x39_39 {L : pj_Loc} {st : List Value} {M : pj_Mem} {x : Int32} {o9 : Option Value × pj_Mem} : pj_Ends 39 (39, L, .int x :: st, M) o9 = pj_Ends 39 (if x = 0 then 46 else 42, L, st, M) o9 := pj_xs (s39_39)
theorem q39_42 : pj_row 39 42 = some (.iconst 0, 1, 0, 0, 0) := by decide +kernel
theorem s39_42 {L : pj_Loc} {st : List Value} {M : pj_Mem}  : pj_step 39 (42, L, st, M) = some (43, L, .int 0 :: st, M) := st_iconst q39_42 (by decide +kernel)
theorem x39_42 {L : pj_Loc} {st : List Value} {M : pj_Mem}  {o9 : Option Value × pj_Mem} : pj_Ends 39 (42, L, st, M) o9 = pj_Ends 39 (43, L, .int 0 :: st, M) o9 := pj_xs (s39_42)
theorem q39_43 : pj_row 39 43 = some (.goto 4, 3, 47, 0, 0) := by decide +kernel
theorem s39_43 {L : pj_Loc} {st : List Value} {M : pj_Mem}  : pj_step 39 (43, L, st, M) = some (47, L, st, M) := st_goto q39_43
theorem x39_43 {L : pj_Loc} {st : List Value} {M : pj_Mem}  {o9 : Option Value × pj_Mem} : pj_Ends 39 (43, L, st, M) o9 = pj_Ends 39 (47, L, st, M) o9 := pj_xs (s39_43)
theorem q39_46 : pj_row 39 46 = some (.iconst 1, 1, 0, 0, 0) := by decide +kernel
theorem s39_46 {L : pj_Loc} {st : List Value} {M : pj_Mem}  : pj_step 39 (46, L, st, M) = some (47, L, .int 1 :: st, M) := st_iconst q39_46 (by decide +kernel)
theorem x39_46 {L : pj_Loc} {st : List Value} {M : pj_Mem}  {o9 : Option Value × pj_Mem} : pj_Ends 39 (46, L, st, M) o9 = pj_Ends 39 (47, L, .int 1 :: st, M) o9 := pj_xs (s39_46)
theorem q39_47 : pj_row 39 47 = some (.istore_n 2, 1, 0, 0, 0) := by decide +kernel
theorem s39_47 {st : List Value} {M : pj_Mem} {l : pj_Loc} {a0 a1 a2 : Option Value} {x : Int32} (h : pj_long a1 = false) : pj_step 39 (47, a0 :: a1 :: a2 :: l, .int x :: st, M) = some (48, a0 :: a1 :: some (.int x) :: l, st, M) := st_istore_n q39_47 (pj_st_2 h)
theorem x39_47 {st : List Value} {M : pj_Mem} {l : pj_Loc} {a0 a1 a2 : Option Value} {x : Int32} (h : pj_long a1 = false) {o9 : Option Value × pj_Mem} : pj_Ends 39 (47, a0 :: a1 :: a2 :: l, .int x :: st, M) o9 = pj_Ends 39 (48, a0 :: a1 :: some (.int x) :: l, st, M) o9 := pj_xs (s39_47 h)
theorem q39_48 : pj_row 39 48 = some (.aload_n 0, 1, 0, 0, 0) := by decide +kernel
theorem s39_48 {st : List Value} {M : pj_Mem} {l : pj_Loc} {x : Nat} : pj_step 39 (48, some (.ref x) :: l, st, M) = some (49, some (.ref x) :: l, .ref x :: st, M) := st_aload_n q39_48 rfl
theorem x39_48 {st : List Value} {M : pj_Mem} {l : pj_Loc} {x : Nat} {o9 : Option Value × pj_Mem} : pj_Ends 39 (48, some (.ref x) :: l, st, M) o9 = pj_Ends 39 (49, some (.ref x) :: l, .ref x :: st, M) o9 := pj_xs (s39_48)
theorem q39_49 : pj_row 39 49 = some (.getfield 10, 3, 5, 0, 0) := by decide +kernel
theorem s39_49 {L : pj_Loc} {st : List Value} {N S : Nat} {H : pj_Heap} {o : Nat} : pj_step 39 (49, L, .ref o :: st, (N, S, H)) = pj_pv 52 L st (N, S, H) (pj_fld (H o) 5 0) := st_getfield q39_49
theorem x39_49 {L : pj_Loc} {st : List Value} {N S : Nat} {H : pj_Heap} {o : Nat} {o9 : Option Value × pj_Mem} : pj_Ends 39 (49, L, .ref o :: st, (N, S, H)) o9 = pj_then 39 o9 (pj_pv 52 L st (N, S, H) (pj_fld (H o) 5 0)) := pj_xt q39_49 rfl (pj_cl_nc rfl) (s39_49)
theorem q39_52 : pj_row 39 52 = some (.aload_n 0, 1, 0, 0, 0) := by decide +kernel
theorem s39_52 {st : List Value} {M : pj_Mem} {l : pj_Loc} {x : Nat} : pj_step 39 (52, some (.ref x) :: l, st, M) = some (53, some (.ref x) :: l, .ref x :: st, M) := st_aload_n q39_52 rfl
theorem x39_52 {st : List Value} {M : pj_Mem} {l : pj_Loc} {x : Nat} {o9 : Option Value × pj_Mem} : pj_Ends 39 (52, some (.ref x) :: l, st, M) o9 = pj_Ends 39 (53, some (.ref x) :: l, .ref x :: st, M) o9 := pj_xs (s39_52)
theorem q39_53 : pj_row 39 53 = some (.getfield 10, 3, 5, 0, 0) := by decide +kernel
theorem s39_53 {L : pj_Loc} {st : List Value} {N S : Nat} {H : pj_Heap} {o : Nat} : pj_step 39 (53, L, .ref o :: st, (N, S, H)) = pj_pv 56 L st (N, S, H) (pj_fld (H o) 5 0) := st_getfield q39_53
theorem x39_53 {L : pj_Loc} {st : List Value} {N S : Nat} {H : pj_Heap} {o : Nat} {o9 : Option Value × pj_Mem} : pj_Ends 39 (53, L, .ref o :: st, (N, S, H)) o9 = pj_then 39 o9 (pj_pv 56 L st (N, S, H) (pj_fld (H o) 5 0)) := pj_xt q39_53 rfl (pj_cl_nc rfl) (s39_53)
theorem q39_56 : pj_row 39 56 = some (.getfield 95, 3, 4, 7, 0) := by decide +kernel
theorem s39_56 {L : pj_Loc} {st : List Value} {N S : Nat} {H : pj_Heap} {o : Nat} : pj_step 39 (56, L, .ref o :: st, (N, S, H)) = pj_pv 59 L st (N, S, H) (pj_fld (H o) 4 7) := st_getfield q39_56
theorem x39_56 {L : pj_Loc} {st : List Value} {N S : Nat} {H : pj_Heap} {o : Nat} {o9 : Option Value × pj_Mem} : pj_Ends 39 (56, L, .ref o :: st, (N, S, H)) o9 = pj_then 39 o9 (pj_pv 59 L st (N, S, H) (pj_fld (H o) 4 7)) := pj_xt q39_56 rfl (pj_cl_nc rfl) (s39_56)
theorem q39_59 : pj_row 39 59 = some (.iload_n 1, 1, 0, 0, 0) := by decide +kernel
theorem s39_59 {st : List Value} {M : pj_Mem} {l : pj_Loc} {a0 : Option Value} {x : Int32} : pj_step 39 (59, a0 :: some (.int x) :: l, st, M) = some (60, a0 :: some (.int x) :: l, .int x :: st, M) := st_iload_n q39_59 rfl
theorem x39_59 {st : List Value} {M : pj_Mem} {l : pj_Loc} {a0 : Option Value} {x : Int32} {o9 : Option Value × pj_Mem} : pj_Ends 39 (59, a0 :: some (.int x) :: l, st, M) o9 = pj_Ends 39 (60, a0 :: some (.int x) :: l, .int x :: st, M) o9 := pj_xs (s39_59)
theorem q39_60 : pj_row 39 60 = some (.invokestatic 84, 3, 27, 2, 0) := by decide +kernel
theorem e39_60 {L : pj_Loc} {st : List Value} {N S : Nat} {H : pj_Heap} {o : Option Value × pj_Mem} {M' : pj_Mem} {x0 : Int32} {x1 : Int32} {r : Int32} (h4 : pj_le4 st = true) (h1 : pj_Ends 27 (0, [some (.int x0), some (.int x1)], [], (N, S, H)) (some (.int r), M')) (h2 : pj_Ends 39 (63, L, .int r :: st, M') o) : pj_Ends 39 (60, L, .int x1 :: .int x0 :: st, (N, S, H)) o := ec_s2 q39_60 (Or.inl rfl) h4 rfl h1 h2
theorem q39_63 : pj_row 39 63 = some (.putfield 95, 3, 4, 7, 0) := by decide +kernel
theorem s39_63 {L : pj_Loc} {st : List Value} {N S : Nat} {H : pj_Heap} {o : Nat} {v : Value} : pj_step 39 (63, L, v :: .ref o :: st, (N, S, H)) = pj_set 66 L st (N, S, H) o (pj_fset (H o) 4 7 v) := st_putfield q39_63
theorem x39_63 {L : pj_Loc} {st : List Value} {N S : Nat} {H : pj_Heap} {o : Nat} {v : Value} {o9 : Option Value × pj_Mem} : pj_Ends 39 (63, L, v :: .ref o :: st, (N, S, H)) o9 = pj_then 39 o9 (pj_set 66 L st (N, S, H) o (pj_fset (H o) 4 7 v)) := pj_xt q39_63 rfl (pj_cl_nc rfl) (s39_63)
theorem q39_66 : pj_row 39 66 = some (.aload_n 0, 1, 0, 0, 0) := by decide +kernel
theorem s39_66 {st : List Value} {M : pj_Mem} {l : pj_Loc} {x : Nat} : pj_step 39 (66, some (.ref x) :: l, st, M) = some (67, some (.ref x) :: l, .ref x :: st, M) := st_aload_n q39_66 rfl
theorem x39_66 {st : List Value} {M : pj_Mem} {l : pj_Loc} {x : Nat} {o9 : Option Value × pj_Mem} : pj_Ends 39 (66, some (.ref x) :: l, st, M) o9 = pj_Ends 39 (67, some (.ref x) :: l, .ref x :: st, M) o9 := pj_xs (s39_66)
theorem q39_67 : pj_row 39 67 = some (.getfield 10, 3, 5, 0, 0) := by decide +kernel
theorem s39_67 {L : pj_Loc} {st : List Value} {N S : Nat} {H : pj_Heap} {o : Nat} : pj_step 39 (67, L, .ref o :: st, (N, S, H)) = pj_pv 70 L st (N, S, H) (pj_fld (H o) 5 0) := st_getfield q39_67
theorem x39_67 {L : pj_Loc} {st : List Value} {N S : Nat} {H : pj_Heap} {o : Nat} {o9 : Option Value × pj_Mem} : pj_Ends 39 (67, L, .ref o :: st, (N, S, H)) o9 = pj_then 39 o9 (pj_pv 70 L st (N, S, H) (pj_fld (H o) 5 0)) := pj_xt q39_67 rfl (pj_cl_nc rfl) (s39_67)
theorem q39_70 : pj_row 39 70 = some (.getfield 98, 3, 4, 1, 0) := by decide +kernel
theorem s39_70 {L : pj_Loc} {st : List Value} {N S : Nat} {H : pj_Heap} {o : Nat} : pj_step 39 (70, L, .ref o :: st, (N, S, H)) = pj_pv 73 L st (N, S, H) (pj_fld (H o) 4 1) := st_getfield q39_70
theorem x39_70 {L : pj_Loc} {st : List Value} {N S : Nat} {H : pj_Heap} {o : Nat} {o9 : Option Value × pj_Mem} : pj_Ends 39 (70, L, .ref o :: st, (N, S, H)) o9 = pj_then 39 o9 (pj_pv 73 L st (N, S, H) (pj_fld (H o) 4 1)) := pj_xt q39_70 rfl (pj_cl_nc rfl) (s39_70)
theorem q39_73 : pj_row 39 73 = some (.iload_n 1, 1, 0, 0, 0) := by decide +kernel
theorem s39_73 {st : List Value} {M : pj_Mem} {l : pj_Loc} {a0 : Option Value} {x : Int32} : pj_step 39 (73, a0 :: some (.int x) :: l, st, M) = some (74, a0 :: some (.int x) :: l, .int x :: st, M) := st_iload_n q39_73 rfl
theorem x39_73 {st : List Value} {M : pj_Mem} {l : pj_Loc} {a0 : Option Value} {x : Int32} {o9 : Option Value × pj_Mem} : pj_Ends 39 (73, a0 :: some (.int x) :: l, st, M) o9 = pj_Ends 39 (74, a0 :: some (.int x) :: l, .int x :: st, M) o9 := pj_xs (s39_73)
theorem q39_74 : pj_row 39 74 = some (.iconst 0, 1, 0, 0, 0) := by decide +kernel
theorem s39_74 {L : pj_Loc} {st : List Value} {M : pj_Mem}  : pj_step 39 (74, L, st, M) = some (75, L, .int 0 :: st, M) := st_iconst q39_74 (by decide +kernel)
theorem x39_74 {L : pj_Loc} {st : List Value} {M : pj_Mem}  {o9 : Option Value × pj_Mem} : pj_Ends 39 (74, L, st, M) o9 = pj_Ends 39 (75, L, .int 0 :: st, M) o9 := pj_xs (s39_74)
theorem q39_75 : pj_row 39 75 = some (.iastore, 1, 0, 0, 0) := by decide +kernel
theorem s39_75 {L : pj_Loc} {st : List Value} {N S : Nat} {H : pj_Heap} {o : Nat} {i x : Int32} : pj_step 39 (75, L, .int x :: .int i :: .ref o :: st, (N, S, H)) = pj_set 76 L st (N, S, H) o (pj_ars (H o) 0 i x) := st_iastore q39_75
theorem x39_75 {L : pj_Loc} {st : List Value} {N S : Nat} {H : pj_Heap} {o : Nat} {i x : Int32} {o9 : Option Value × pj_Mem} : pj_Ends 39 (75, L, .int x :: .int i :: .ref o :: st, (N, S, H)) o9 = pj_then 39 o9 (pj_set 76 L st (N, S, H) o (pj_ars (H o) 0 i x)) := pj_xt q39_75 rfl (pj_cl_nc rfl) (s39_75)
theorem q39_76 : pj_row 39 76 = some (.aload_n 0, 1, 0, 0, 0) := by decide +kernel
theorem s39_76 {st : List Value} {M : pj_Mem} {l : pj_Loc} {x : Nat} : pj_step 39 (76, some (.ref x) :: l, st, M) = some (77, some (.ref x) :: l, .ref x :: st, M) := st_aload_n q39_76 rfl
theorem x39_76 {st : List Value} {M : pj_Mem} {l : pj_Loc} {x : Nat} {o9 : Option Value × pj_Mem} : pj_Ends 39 (76, some (.ref x) :: l, st, M) o9 = pj_Ends 39 (77, some (.ref x) :: l, .ref x :: st, M) o9 := pj_xs (s39_76)
theorem q39_77 : pj_row 39 77 = some (.getfield 10, 3, 5, 0, 0) := by decide +kernel
theorem s39_77 {L : pj_Loc} {st : List Value} {N S : Nat} {H : pj_Heap} {o : Nat} : pj_step 39 (77, L, .ref o :: st, (N, S, H)) = pj_pv 80 L st (N, S, H) (pj_fld (H o) 5 0) := st_getfield q39_77
theorem x39_77 {L : pj_Loc} {st : List Value} {N S : Nat} {H : pj_Heap} {o : Nat} {o9 : Option Value × pj_Mem} : pj_Ends 39 (77, L, .ref o :: st, (N, S, H)) o9 = pj_then 39 o9 (pj_pv 80 L st (N, S, H) (pj_fld (H o) 5 0)) := pj_xt q39_77 rfl (pj_cl_nc rfl) (s39_77)
theorem q39_80 : pj_row 39 80 = some (.getfield 101, 3, 4, 2, 0) := by decide +kernel
theorem s39_80 {L : pj_Loc} {st : List Value} {N S : Nat} {H : pj_Heap} {o : Nat} : pj_step 39 (80, L, .ref o :: st, (N, S, H)) = pj_pv 83 L st (N, S, H) (pj_fld (H o) 4 2) := st_getfield q39_80
theorem x39_80 {L : pj_Loc} {st : List Value} {N S : Nat} {H : pj_Heap} {o : Nat} {o9 : Option Value × pj_Mem} : pj_Ends 39 (80, L, .ref o :: st, (N, S, H)) o9 = pj_then 39 o9 (pj_pv 83 L st (N, S, H) (pj_fld (H o) 4 2)) := pj_xt q39_80 rfl (pj_cl_nc rfl) (s39_80)
theorem q39_83 : pj_row 39 83 = some (.iload_n 1, 1, 0, 0, 0) := by decide +kernel
theorem s39_83 {st : List Value} {M : pj_Mem} {l : pj_Loc} {a0 : Option Value} {x : Int32} : pj_step 39 (83, a0 :: some (.int x) :: l, st, M) = some (84, a0 :: some (.int x) :: l, .int x :: st, M) := st_iload_n q39_83 rfl
theorem x39_83 {st : List Value} {M : pj_Mem} {l : pj_Loc} {a0 : Option Value} {x : Int32} {o9 : Option Value × pj_Mem} : pj_Ends 39 (83, a0 :: some (.int x) :: l, st, M) o9 = pj_Ends 39 (84, a0 :: some (.int x) :: l, .int x :: st, M) o9 := pj_xs (s39_83)
theorem q39_84 : pj_row 39 84 = some (.iconst 0, 1, 0, 0, 0) := by decide +kernel
theorem s39_84 {L : pj_Loc} {st : List Value} {M : pj_Mem}  : pj_step 39 (84, L, st, M) = some (85, L, .int 0 :: st, M) := st_iconst q39_84 (by decide +kernel)
theorem x39_84 {L : pj_Loc} {st : List Value} {M : pj_Mem}  {o9 : Option Value × pj_Mem} : pj_Ends 39 (84, L, st, M) o9 = pj_Ends 39 (85, L, .int 0 :: st, M) o9 := pj_xs (s39_84)
theorem q39_85 : pj_row 39 85 = some (.iastore, 1, 0, 0, 0) := by decide +kernel
theorem s39_85 {L : pj_Loc} {st : List Value} {N S : Nat} {H : pj_Heap} {o : Nat} {i x : Int32} : pj_step 39 (85, L, .int x :: .int i :: .ref o :: st, (N, S, H)) = pj_set 86 L st (N, S, H) o (pj_ars (H o) 0 i x) := st_iastore q39_85
theorem x39_85 {L : pj_Loc} {st : List Value} {N S : Nat} {H : pj_Heap} {o : Nat} {i x : Int32} {o9 : Option Value × pj_Mem} : pj_Ends 39 (85, L, .int x :: .int i :: .ref o :: st, (N, S, H)) o9 = pj_then 39 o9 (pj_set 86 L st (N, S, H) o (pj_ars (H o) 0 i x)) := pj_xt q39_85 rfl (pj_cl_nc rfl) (s39_85)
theorem q39_86 : pj_row 39 86 = some (.aload_n 0, 1, 0, 0, 0) := by decide +kernel
theorem s39_86 {st : List Value} {M : pj_Mem} {l : pj_Loc} {x : Nat} : pj_step 39 (86, some (.ref x) :: l, st, M) = some (87, some (.ref x) :: l, .ref x :: st, M) := st_aload_n q39_86 rfl
theorem x39_86 {st : List Value} {M : pj_Mem} {l : pj_Loc} {x : Nat} {o9 : Option Value × pj_Mem} : pj_Ends 39 (86, some (.ref x) :: l, st, M) o9 = pj_Ends 39 (87, some (.ref x) :: l, .ref x :: st, M) o9 := pj_xs (s39_86)
theorem q39_87 : pj_row 39 87 = some (.getfield 10, 3, 5, 0, 0) := by decide +kernel
theorem s39_87 {L : pj_Loc} {st : List Value} {N S : Nat} {H : pj_Heap} {o : Nat} : pj_step 39 (87, L, .ref o :: st, (N, S, H)) = pj_pv 90 L st (N, S, H) (pj_fld (H o) 5 0) := st_getfield q39_87
theorem x39_87 {L : pj_Loc} {st : List Value} {N S : Nat} {H : pj_Heap} {o : Nat} {o9 : Option Value × pj_Mem} : pj_Ends 39 (87, L, .ref o :: st, (N, S, H)) o9 = pj_then 39 o9 (pj_pv 90 L st (N, S, H) (pj_fld (H o) 5 0)) := pj_xt q39_87 rfl (pj_cl_nc rfl) (s39_87)
theorem q39_90 : pj_row 39 90 = some (.getfield 104, 3, 4, 3, 0) := by decide +kernel
theorem s39_90 {L : pj_Loc} {st : List Value} {N S : Nat} {H : pj_Heap} {o : Nat} : pj_step 39 (90, L, .ref o :: st, (N, S, H)) = pj_pv 93 L st (N, S, H) (pj_fld (H o) 4 3) := st_getfield q39_90
theorem x39_90 {L : pj_Loc} {st : List Value} {N S : Nat} {H : pj_Heap} {o : Nat} {o9 : Option Value × pj_Mem} : pj_Ends 39 (90, L, .ref o :: st, (N, S, H)) o9 = pj_then 39 o9 (pj_pv 93 L st (N, S, H) (pj_fld (H o) 4 3)) := pj_xt q39_90 rfl (pj_cl_nc rfl) (s39_90)
theorem q39_93 : pj_row 39 93 = some (.iload_n 1, 1, 0, 0, 0) := by decide +kernel
theorem s39_93 {st : List Value} {M : pj_Mem} {l : pj_Loc} {a0 : Option Value} {x : Int32} : pj_step 39 (93, a0 :: some (.int x) :: l, st, M) = some (94, a0 :: some (.int x) :: l, .int x :: st, M) := st_iload_n q39_93 rfl
theorem x39_93 {st : List Value} {M : pj_Mem} {l : pj_Loc} {a0 : Option Value} {x : Int32} {o9 : Option Value × pj_Mem} : pj_Ends 39 (93, a0 :: some (.int x) :: l, st, M) o9 = pj_Ends 39 (94, a0 :: some (.int x) :: l, .int x :: st, M) o9 := pj_xs (s39_93)
theorem q39_94 : pj_row 39 94 = some (.iconst 0, 1, 0, 0, 0) := by decide +kernel
theorem s39_94 {L : pj_Loc} {st : List Value} {M : pj_Mem}  : pj_step 39 (94, L, st, M) = some (95, L, .int 0 :: st, M) := st_iconst q39_94 (by decide +kernel)
theorem x39_94 {L : pj_Loc} {st : List Value} {M : pj_Mem}  {o9 : Option Value × pj_Mem} : pj_Ends 39 (94, L, st, M) o9 = pj_Ends 39 (95, L, .int 0 :: st, M) o9 := pj_xs (s39_94)
theorem q39_95 : pj_row 39 95 = some (.iastore, 1, 0, 0, 0) := by decide +kernel
theorem s39_95 {L : pj_Loc} {st : List Value} {N S : Nat} {H : pj_Heap} {o : Nat} {i x : Int32} : pj_step 39 (95, L, .int x :: .int i :: .ref o :: st, (N, S, H)) = pj_set 96 L st (N, S, H) o (pj_ars (H o) 0 i x) := st_iastore q39_95
theorem x39_95 {L : pj_Loc} {st : List Value} {N S : Nat} {H : pj_Heap} {o : Nat} {i x : Int32} {o9 : Option Value × pj_Mem} : pj_Ends 39 (95, L, .int x :: .int i :: .ref o :: st, (N, S, H)) o9 = pj_then 39 o9 (pj_set 96 L st (N, S, H) o (pj_ars (H o) 0 i x)) := pj_xt q39_95 rfl (pj_cl_nc rfl) (s39_95)
theorem q39_96 : pj_row 39 96 = some (.iload_n 2, 1, 0, 0, 0) := by decide +kernel
theorem s39_96 {st : List Value} {M : pj_Mem} {l : pj_Loc} {a0 a1 : Option Value} {x : Int32} : pj_step 39 (96, a0 :: a1 :: some (.int x) :: l, st, M) = some (97, a0 :: a1 :: some (.int x) :: l, .int x :: st, M) := st_iload_n q39_96 rfl
theorem x39_96 {st : List Value} {M : pj_Mem} {l : pj_Loc} {a0 a1 : Option Value} {x : Int32} {o9 : Option Value × pj_Mem} : pj_Ends 39 (96, a0 :: a1 :: some (.int x) :: l, st, M) o9 = pj_Ends 39 (97, a0 :: a1 :: some (.int x) :: l, .int x :: st, M) o9 := pj_xs (s39_96)
theorem q39_97 : pj_row 39 97 = some (.ireturn, 1, 0, 0, 0) := by decide +kernel
theorem t39_97 {L : pj_Loc} {M : pj_Mem} {v : Int32} : pj_Ends 39 (97, L, [.int v], M) (some (.int v), M) := pj_Ends.ret q39_97 (pj_rtn_i rt39)
theorem rt40 : pj_rt 40 = some .int := rfl
theorem q40_0 : pj_row 40 0 = some (.iconst 0, 1, 0, 0, 0) := by decide +kernel
theorem s40_0 {L : pj_Loc} {st : List Value} {M : pj_Mem}  : pj_step 40 (0, L, st, M) = some (1, L, .int 0 :: st, M) := st_iconst q40_0 (by decide +kernel)
theorem x40_0 {L : pj_Loc} {st : List Value} {M : pj_Mem}  {o9 : Option Value × pj_Mem} : pj_Ends 40 (0, L, st, M) o9 = pj_Ends 40 (1, L, .int 0 :: st, M) o9 := pj_xs (s40_0)
theorem q40_1 : pj_row 40 1 = some (.istore_n 1, 1, 0, 0, 0) := by decide +kernel
theorem s40_1 {st : List Value} {M : pj_Mem} {l : pj_Loc} {a0 a1 : Option Value} {x : Int32} (h : pj_long a0 = false) : pj_step 40 (1, a0 :: a1 :: l, .int x :: st, M) = some (2, a0 :: some (.int x) :: l, st, M) := st_istore_n q40_1 (pj_st_1 h)
theorem x40_1 {st : List Value} {M : pj_Mem} {l : pj_Loc} {a0 a1 : Option Value} {x : Int32} (h : pj_long a0 = false) {o9 : Option Value × pj_Mem} : pj_Ends 40 (1, a0 :: a1 :: l, .int x :: st, M) o9 = pj_Ends 40 (2, a0 :: some (.int x) :: l, st, M) o9 := pj_xs (s40_1 h)
theorem q40_2 : pj_row 40 2 = some (.iconst 0, 1, 0, 0, 0) := by decide +kernel
theorem s40_2 {L : pj_Loc} {st : List Value} {M : pj_Mem}  : pj_step 40 (2, L, st, M) = some (3, L, .int 0 :: st, M) := st_iconst q40_2 (by decide +kernel)
theorem x40_2 {L : pj_Loc} {st : List Value} {M : pj_Mem}  {o9 : Option Value × pj_Mem} : pj_Ends 40 (2, L, st, M) o9 = pj_Ends 40 (3, L, .int 0 :: st, M) o9 := pj_xs (s40_2)
theorem q40_3 : pj_row 40 3 = some (.istore_n 2, 1, 0, 0, 0) := by decide +kernel
theorem s40_3 {st : List Value} {M : pj_Mem} {l : pj_Loc} {a0 a1 a2 : Option Value} {x : Int32} (h : pj_long a1 = false) : pj_step 40 (3, a0 :: a1 :: a2 :: l, .int x :: st, M) = some (4, a0 :: a1 :: some (.int x) :: l, st, M) := st_istore_n q40_3 (pj_st_2 h)
theorem x40_3 {st : List Value} {M : pj_Mem} {l : pj_Loc} {a0 a1 a2 : Option Value} {x : Int32} (h : pj_long a1 = false) {o9 : Option Value × pj_Mem} : pj_Ends 40 (3, a0 :: a1 :: a2 :: l, .int x :: st, M) o9 = pj_Ends 40 (4, a0 :: a1 :: some (.int x) :: l, st, M) o9 := pj_xs (s40_3 h)
theorem q40_4 : pj_row 40 4 = some (.iload_n 2, 1, 0, 0, 0) := by decide +kernel
theorem s40_4 {st : List Value} {M : pj_Mem} {l : pj_Loc} {a0 a1 : Option Value} {x : Int32} : pj_step 40 (4, a0 :: a1 :: some (.int x) :: l, st, M) = some (5, a0 :: a1 :: some (.int x) :: l, .int x :: st, M) := st_iload_n q40_4 rfl
theorem x40_4 {st : List Value} {M : pj_Mem} {l : pj_Loc} {a0 a1 : Option Value} {x : Int32} {o9 : Option Value × pj_Mem} : pj_Ends 40 (4, a0 :: a1 :: some (.int x) :: l, st, M) o9 = pj_Ends 40 (5, a0 :: a1 :: some (.int x) :: l, .int x :: st, M) o9 := pj_xs (s40_4)
theorem q40_5 : pj_row 40 5 = some (.iconst 3, 1, 0, 0, 0) := by decide +kernel
theorem s40_5 {L : pj_Loc} {st : List Value} {M : pj_Mem}  : pj_step 40 (5, L, st, M) = some (6, L, .int 3 :: st, M) := st_iconst q40_5 (by decide +kernel)
theorem x40_5 {L : pj_Loc} {st : List Value} {M : pj_Mem}  {o9 : Option Value × pj_Mem} : pj_Ends 40 (5, L, st, M) o9 = pj_Ends 40 (6, L, .int 3 :: st, M) o9 := pj_xs (s40_5)
theorem q40_6 : pj_row 40 6 = some (.if_icmp .ge 26, 3, 32, 0, 0) := by decide +kernel
theorem s40_6 {L : pj_Loc} {st : List Value} {M : pj_Mem} {x y : Int32} : pj_step 40 (6, L, .int y :: .int x :: st, M) = some (if y ≤ x then 32 else 9, L, st, M) := st_icmp_ge q40_6
theorem x40_6 {L : pj_Loc} {st : List Value} {M : pj_Mem} {x y : Int32} {o9 : Option Value × pj_Mem} : pj_Ends 40 (6, L, .int y :: .int x :: st, M) o9 = pj_Ends 40 (if y ≤ x then 32 else 9, L, st, M) o9 := pj_xs (s40_6)
theorem q40_9 : pj_row 40 9 = some (.aload_n 0, 1, 0, 0, 0) := by decide +kernel
theorem s40_9 {st : List Value} {M : pj_Mem} {l : pj_Loc} {x : Nat} : pj_step 40 (9, some (.ref x) :: l, st, M) = some (10, some (.ref x) :: l, .ref x :: st, M) := st_aload_n q40_9 rfl
theorem x40_9 {st : List Value} {M : pj_Mem} {l : pj_Loc} {x : Nat} {o9 : Option Value × pj_Mem} : pj_Ends 40 (9, some (.ref x) :: l, st, M) o9 = pj_Ends 40 (10, some (.ref x) :: l, .ref x :: st, M) o9 := pj_xs (s40_9)
theorem q40_10 : pj_row 40 10 = some (.getfield 27, 3, 4, 5, 0) := by decide +kernel
theorem s40_10 {L : pj_Loc} {st : List Value} {N S : Nat} {H : pj_Heap} {o : Nat} : pj_step 40 (10, L, .ref o :: st, (N, S, H)) = pj_pv 13 L st (N, S, H) (pj_fld (H o) 4 5) := st_getfield q40_10
theorem x40_10 {L : pj_Loc} {st : List Value} {N S : Nat} {H : pj_Heap} {o : Nat} {o9 : Option Value × pj_Mem} : pj_Ends 40 (10, L, .ref o :: st, (N, S, H)) o9 = pj_then 40 o9 (pj_pv 13 L st (N, S, H) (pj_fld (H o) 4 5)) := pj_xt q40_10 rfl (pj_cl_nc rfl) (s40_10)
theorem q40_13 : pj_row 40 13 = some (.iload_n 2, 1, 0, 0, 0) := by decide +kernel
theorem s40_13 {st : List Value} {M : pj_Mem} {l : pj_Loc} {a0 a1 : Option Value} {x : Int32} : pj_step 40 (13, a0 :: a1 :: some (.int x) :: l, st, M) = some (14, a0 :: a1 :: some (.int x) :: l, .int x :: st, M) := st_iload_n q40_13 rfl
theorem x40_13 {st : List Value} {M : pj_Mem} {l : pj_Loc} {a0 a1 : Option Value} {x : Int32} {o9 : Option Value × pj_Mem} : pj_Ends 40 (13, a0 :: a1 :: some (.int x) :: l, st, M) o9 = pj_Ends 40 (14, a0 :: a1 :: some (.int x) :: l, .int x :: st, M) o9 := pj_xs (s40_13)
theorem q40_14 : pj_row 40 14 = some (.iaload, 1, 0, 0, 0) := by decide +kernel
theorem s40_14 {L : pj_Loc} {st : List Value} {N S : Nat} {H : pj_Heap} {o : Nat} {i : Int32} : pj_step 40 (14, L, .int i :: .ref o :: st, (N, S, H)) = pj_pi 15 L st (N, S, H) (pj_arl (H o) 0 i) := st_iaload q40_14
theorem x40_14 {L : pj_Loc} {st : List Value} {N S : Nat} {H : pj_Heap} {o : Nat} {i : Int32} {o9 : Option Value × pj_Mem} : pj_Ends 40 (14, L, .int i :: .ref o :: st, (N, S, H)) o9 = pj_then 40 o9 (pj_pi 15 L st (N, S, H) (pj_arl (H o) 0 i)) := pj_xt q40_14 rfl (pj_cl_nc rfl) (s40_14)
theorem q40_15 : pj_row 40 15 = some (.bipush (-6), 2, 0, 0, 0) := by decide +kernel
theorem s40_15 {L : pj_Loc} {st : List Value} {M : pj_Mem}  : pj_step 40 (15, L, st, M) = some (17, L, .int (-6) :: st, M) := st_bipush q40_15 (by decide +kernel)
theorem x40_15 {L : pj_Loc} {st : List Value} {M : pj_Mem}  {o9 : Option Value × pj_Mem} : pj_Ends 40 (15, L, st, M) o9 = pj_Ends 40 (17, L, .int (-6) :: st, M) o9 := pj_xs (s40_15)
theorem q40_17 : pj_row 40 17 = some (.if_icmp .eq 9, 3, 26, 0, 0) := by decide +kernel
theorem s40_17 {L : pj_Loc} {st : List Value} {M : pj_Mem} {x y : Int32} : pj_step 40 (17, L, .int y :: .int x :: st, M) = some (if x = y then 26 else 20, L, st, M) := st_icmp_eq q40_17
theorem x40_17 {L : pj_Loc} {st : List Value} {M : pj_Mem} {x y : Int32} {o9 : Option Value × pj_Mem} : pj_Ends 40 (17, L, .int y :: .int x :: st, M) o9 = pj_Ends 40 (if x = y then 26 else 20, L, st, M) o9 := pj_xs (s40_17)
theorem q40_20 : pj_row 40 20 = some (.iload_n 1, 1, 0, 0, 0) := by decide +kernel
theorem s40_20 {st : List Value} {M : pj_Mem} {l : pj_Loc} {a0 : Option Value} {x : Int32} : pj_step 40 (20, a0 :: some (.int x) :: l, st, M) = some (21, a0 :: some (.int x) :: l, .int x :: st, M) := st_iload_n q40_20 rfl
theorem x40_20 {st : List Value} {M : pj_Mem} {l : pj_Loc} {a0 : Option Value} {x : Int32} {o9 : Option Value × pj_Mem} : pj_Ends 40 (20, a0 :: some (.int x) :: l, st, M) o9 = pj_Ends 40 (21, a0 :: some (.int x) :: l, .int x :: st, M) o9 := pj_xs (s40_20)
theorem q40_21 : pj_row 40 21 = some (.iload_n 2, 1, 0, 0, 0) := by decide +kernel
theorem s40_21 {st : List Value} {M : pj_Mem} {l : pj_Loc} {a0 a1 : Option Value} {x : Int32} : pj_step 40 (21, a0 :: a1 :: some (.int x) :: l, st, M) = some (22, a0 :: a1 :: some (.int x) :: l, .int x :: st, M) := st_iload_n q40_21 rfl
theorem x40_21 {st : List Value} {M : pj_Mem} {l : pj_Loc} {a0 a1 : Option Value} {x : Int32} {o9 : Option Value × pj_Mem} : pj_Ends 40 (21, a0 :: a1 :: some (.int x) :: l, st, M) o9 = pj_Ends 40 (22, a0 :: a1 :: some (.int x) :: l, .int x :: st, M) o9 := pj_xs (s40_21)
theorem q40_22 : pj_row 40 22 = some (.invokestatic 79, 3, 27, 2, 1) := by decide +kernel
theorem e40_22 {L : pj_Loc} {st : List Value} {N S : Nat} {H : pj_Heap} {o : Option Value × pj_Mem} {M' : pj_Mem} {x0 : Int32} {x1 : Int32} {r : Int32} (h4 : pj_le4 st = true) (h1 : pj_Ends 27 (0, [some (.int x0), some (.int x1)], [], (N, S, H)) (some (.int r), M')) (h2 : pj_Ends 40 (25, L, .int r :: st, M') o) : pj_Ends 40 (22, L, .int x1 :: .int x0 :: st, (N, S, H)) o := ec_s2 q40_22 (Or.inr rfl) h4 rfl h1 h2
theorem q40_25 : pj_row 40 25 = some (.istore_n 1, 1, 0, 0, 0) := by decide +kernel
theorem s40_25 {st : List Value} {M : pj_Mem} {l : pj_Loc} {a0 a1 : Option Value} {x : Int32} (h : pj_long a0 = false) : pj_step 40 (25, a0 :: a1 :: l, .int x :: st, M) = some (26, a0 :: some (.int x) :: l, st, M) := st_istore_n q40_25 (pj_st_1 h)
theorem x40_25 {st : List Value} {M : pj_Mem} {l : pj_Loc} {a0 a1 : Option Value} {x : Int32} (h : pj_long a0 = false) {o9 : Option Value × pj_Mem} : pj_Ends 40 (25, a0 :: a1 :: l, .int x :: st, M) o9 = pj_Ends 40 (26, a0 :: some (.int x) :: l, st, M) o9 := pj_xs (s40_25 h)
theorem q40_26 : pj_row 40 26 = some (.iinc 2 1, 3, 0, 0, 0) := by decide +kernel
theorem s40_26 {st : List Value} {M : pj_Mem} {l : pj_Loc} {a0 a1 : Option Value} {x : Int32} (h : pj_long a1 = false) : pj_step 40 (26, a0 :: a1 :: some (.int x) :: l, st, M) = some (29, a0 :: a1 :: some (.int (x + 1)) :: l, st, M) := st_iinc q40_26 rfl (congrArg (fun y => x + y) (show Int32.ofInt 1 = 1 by decide +kernel)) (pj_st_2 h)
theorem x40_26 {st : List Value} {M : pj_Mem} {l : pj_Loc} {a0 a1 : Option Value} {x : Int32} (h : pj_long a1 = false) {o9 : Option Value × pj_Mem} : pj_Ends 40 (26, a0 :: a1 :: some (.int x) :: l, st, M) o9 = pj_Ends 40 (29, a0 :: a1 :: some (.int (x + 1)) :: l, st, M) o9 := pj_xs (s40_26 h)
theorem q40_29 : pj_row 40 29 = some (.goto (-25), 3, 4, 0, 0) := by decide +kernel
theorem s40_29 {L : pj_Loc} {st : List Value} {M : pj_Mem}  : pj_step 40 (29, L, st, M) = some (4, L, st, M) := st_goto q40_29
theorem x40_29 {L : pj_Loc} {st : List Value} {M : pj_Mem}  {o9 : Option Value × pj_Mem} : pj_Ends 40 (29, L, st, M) o9 = pj_Ends 40 (4, L, st, M) o9 := pj_xs (s40_29)
theorem q40_32 : pj_row 40 32 = some (.iload_n 1, 1, 0, 0, 0) := by decide +kernel
theorem s40_32 {st : List Value} {M : pj_Mem} {l : pj_Loc} {a0 : Option Value} {x : Int32} : pj_step 40 (32, a0 :: some (.int x) :: l, st, M) = some (33, a0 :: some (.int x) :: l, .int x :: st, M) := st_iload_n q40_32 rfl
theorem x40_32 {st : List Value} {M : pj_Mem} {l : pj_Loc} {a0 : Option Value} {x : Int32} {o9 : Option Value × pj_Mem} : pj_Ends 40 (32, a0 :: some (.int x) :: l, st, M) o9 = pj_Ends 40 (33, a0 :: some (.int x) :: l, .int x :: st, M) o9 := pj_xs (s40_32)
theorem q40_33 : pj_row 40 33 = some (.ireturn, 1, 0, 0, 0) := by decide +kernel
theorem t40_33 {L : pj_Loc} {M : pj_Mem} {v : Int32} : pj_Ends 40 (33, L, [.int v], M) (some (.int v), M) := pj_Ends.ret q40_33 (pj_rtn_i rt40)
theorem rt41 : pj_rt 41 = some .int := rfl
theorem q41_0 : pj_row 41 0 = some (.aload_n 0, 1, 0, 0, 0) := by decide +kernel
theorem s41_0 {st : List Value} {M : pj_Mem} {l : pj_Loc} {x : Nat} : pj_step 41 (0, some (.ref x) :: l, st, M) = some (1, some (.ref x) :: l, .ref x :: st, M) := st_aload_n q41_0 rfl
theorem x41_0 {st : List Value} {M : pj_Mem} {l : pj_Loc} {x : Nat} {o9 : Option Value × pj_Mem} : pj_Ends 41 (0, some (.ref x) :: l, st, M) o9 = pj_Ends 41 (1, some (.ref x) :: l, .ref x :: st, M) o9 := pj_xs (s41_0)
theorem q41_1 : pj_row 41 1 = some (.invokevirtual 55, 3, 8, 1, 0) := by decide +kernel
theorem e41_1 {L : pj_Loc} {st : List Value} {N S : Nat} {H : pj_Heap} {o : Option Value × pj_Mem} {M' : pj_Mem} {x0 : Nat} (h4 : pj_le4 st = true) (hu : pj_isU 5 (H x0) = true) (h1 : pj_Ends 8 (0, [some (.ref x0), none, none], [], (N, S, H)) (none, M')) (h2 : pj_Ends 41 (4, L, st, M') o) : pj_Ends 41 (1, L, .ref x0 :: st, (N, S, H)) o := ec_v1 q41_1 (Or.inl rfl) h4 hu rfl h1 h2
theorem q41_4 : pj_row 41 4 = some (.aload_n 0, 1, 0, 0, 0) := by decide +kernel
theorem s41_4 {st : List Value} {M : pj_Mem} {l : pj_Loc} {x : Nat} : pj_step 41 (4, some (.ref x) :: l, st, M) = some (5, some (.ref x) :: l, .ref x :: st, M) := st_aload_n q41_4 rfl
theorem x41_4 {st : List Value} {M : pj_Mem} {l : pj_Loc} {x : Nat} {o9 : Option Value × pj_Mem} : pj_Ends 41 (4, some (.ref x) :: l, st, M) o9 = pj_Ends 41 (5, some (.ref x) :: l, .ref x :: st, M) o9 := pj_xs (s41_4)
theorem q41_5 : pj_row 41 5 = some (.getfield 10, 3, 5, 0, 0) := by decide +kernel
theorem s41_5 {L : pj_Loc} {st : List Value} {N S : Nat} {H : pj_Heap} {o : Nat} : pj_step 41 (5, L, .ref o :: st, (N, S, H)) = pj_pv 8 L st (N, S, H) (pj_fld (H o) 5 0) := st_getfield q41_5
theorem x41_5 {L : pj_Loc} {st : List Value} {N S : Nat} {H : pj_Heap} {o : Nat} {o9 : Option Value × pj_Mem} : pj_Ends 41 (5, L, .ref o :: st, (N, S, H)) o9 = pj_then 41 o9 (pj_pv 8 L st (N, S, H) (pj_fld (H o) 5 0)) := pj_xt q41_5 rfl (pj_cl_nc rfl) (s41_5)
theorem q41_8 : pj_row 41 8 = some (.invokevirtual 91, 3, 40, 1, 0) := by decide +kernel
theorem e41_8 {L : pj_Loc} {st : List Value} {N S : Nat} {H : pj_Heap} {o : Option Value × pj_Mem} {M' : pj_Mem} {x0 : Nat} {r : Int32} (h4 : pj_le4 st = true) (hu : pj_isU 4 (H x0) = true) (h1 : pj_Ends 40 (0, [some (.ref x0), none, none], [], (N, S, H)) (some (.int r), M')) (h2 : pj_Ends 41 (11, L, .int r :: st, M') o) : pj_Ends 41 (8, L, .ref x0 :: st, (N, S, H)) o := ec_v1 q41_8 (Or.inl rfl) h4 hu rfl h1 h2
theorem q41_11 : pj_row 41 11 = some (.invokestatic 107, 3, 30, 1, 0) := by decide +kernel
theorem e41_11 {L : pj_Loc} {st : List Value} {N S : Nat} {H : pj_Heap} {o : Option Value × pj_Mem} {M' : pj_Mem} {x0 : Int32} {r : Int32} (h4 : pj_le4 st = true) (h1 : pj_Ends 30 (0, [some (.int x0)], [], (N, S, H)) (some (.int r), M')) (h2 : pj_Ends 41 (14, L, .int r :: st, M') o) : pj_Ends 41 (11, L, .int x0 :: st, (N, S, H)) o := ec_s1 q41_11 (Or.inl rfl) h4 rfl h1 h2
theorem q41_14 : pj_row 41 14 = some (.istore_n 1, 1, 0, 0, 0) := by decide +kernel
theorem s41_14 {st : List Value} {M : pj_Mem} {l : pj_Loc} {a0 a1 : Option Value} {x : Int32} (h : pj_long a0 = false) : pj_step 41 (14, a0 :: a1 :: l, .int x :: st, M) = some (15, a0 :: some (.int x) :: l, st, M) := st_istore_n q41_14 (pj_st_1 h)
theorem x41_14 {st : List Value} {M : pj_Mem} {l : pj_Loc} {a0 a1 : Option Value} {x : Int32} (h : pj_long a0 = false) {o9 : Option Value × pj_Mem} : pj_Ends 41 (14, a0 :: a1 :: l, .int x :: st, M) o9 = pj_Ends 41 (15, a0 :: some (.int x) :: l, st, M) o9 := pj_xs (s41_14 h)
theorem q41_15 : pj_row 41 15 = some (.aload_n 0, 1, 0, 0, 0) := by decide +kernel
theorem s41_15 {st : List Value} {M : pj_Mem} {l : pj_Loc} {x : Nat} : pj_step 41 (15, some (.ref x) :: l, st, M) = some (16, some (.ref x) :: l, .ref x :: st, M) := st_aload_n q41_15 rfl
theorem x41_15 {st : List Value} {M : pj_Mem} {l : pj_Loc} {x : Nat} {o9 : Option Value × pj_Mem} : pj_Ends 41 (15, some (.ref x) :: l, st, M) o9 = pj_Ends 41 (16, some (.ref x) :: l, .ref x :: st, M) o9 := pj_xs (s41_15)
theorem q41_16 : pj_row 41 16 = some (.getfield 10, 3, 5, 0, 0) := by decide +kernel
theorem s41_16 {L : pj_Loc} {st : List Value} {N S : Nat} {H : pj_Heap} {o : Nat} : pj_step 41 (16, L, .ref o :: st, (N, S, H)) = pj_pv 19 L st (N, S, H) (pj_fld (H o) 5 0) := st_getfield q41_16
theorem x41_16 {L : pj_Loc} {st : List Value} {N S : Nat} {H : pj_Heap} {o : Nat} {o9 : Option Value × pj_Mem} : pj_Ends 41 (16, L, .ref o :: st, (N, S, H)) o9 = pj_then 41 o9 (pj_pv 19 L st (N, S, H) (pj_fld (H o) 5 0)) := pj_xt q41_16 rfl (pj_cl_nc rfl) (s41_16)
theorem q41_19 : pj_row 41 19 = some (.invokevirtual 113, 3, 42, 1, 0) := by decide +kernel
theorem e41_19 {L : pj_Loc} {st : List Value} {N S : Nat} {H : pj_Heap} {o : Option Value × pj_Mem} {M' : pj_Mem} {x0 : Nat} (h4 : pj_le4 st = true) (hu : pj_isU 4 (H x0) = true) (h1 : pj_Ends 42 (0, [some (.ref x0), none], [], (N, S, H)) (none, M')) (h2 : pj_Ends 41 (22, L, st, M') o) : pj_Ends 41 (19, L, .ref x0 :: st, (N, S, H)) o := ec_v1 q41_19 (Or.inl rfl) h4 hu rfl h1 h2
theorem q41_22 : pj_row 41 22 = some (.iload_n 1, 1, 0, 0, 0) := by decide +kernel
theorem s41_22 {st : List Value} {M : pj_Mem} {l : pj_Loc} {a0 : Option Value} {x : Int32} : pj_step 41 (22, a0 :: some (.int x) :: l, st, M) = some (23, a0 :: some (.int x) :: l, .int x :: st, M) := st_iload_n q41_22 rfl
theorem x41_22 {st : List Value} {M : pj_Mem} {l : pj_Loc} {a0 : Option Value} {x : Int32} {o9 : Option Value × pj_Mem} : pj_Ends 41 (22, a0 :: some (.int x) :: l, st, M) o9 = pj_Ends 41 (23, a0 :: some (.int x) :: l, .int x :: st, M) o9 := pj_xs (s41_22)
theorem q41_23 : pj_row 41 23 = some (.ireturn, 1, 0, 0, 0) := by decide +kernel
theorem t41_23 {L : pj_Loc} {M : pj_Mem} {v : Int32} : pj_Ends 41 (23, L, [.int v], M) (some (.int v), M) := pj_Ends.ret q41_23 (pj_rtn_i rt41)
theorem rt42 : pj_rt 42 = none := rfl
theorem q42_0 : pj_row 42 0 = some (.iconst 0, 1, 0, 0, 0) := by decide +kernel
theorem s42_0 {L : pj_Loc} {st : List Value} {M : pj_Mem}  : pj_step 42 (0, L, st, M) = some (1, L, .int 0 :: st, M) := st_iconst q42_0 (by decide +kernel)
theorem x42_0 {L : pj_Loc} {st : List Value} {M : pj_Mem}  {o9 : Option Value × pj_Mem} : pj_Ends 42 (0, L, st, M) o9 = pj_Ends 42 (1, L, .int 0 :: st, M) o9 := pj_xs (s42_0)
theorem q42_1 : pj_row 42 1 = some (.istore_n 1, 1, 0, 0, 0) := by decide +kernel
theorem s42_1 {st : List Value} {M : pj_Mem} {l : pj_Loc} {a0 a1 : Option Value} {x : Int32} (h : pj_long a0 = false) : pj_step 42 (1, a0 :: a1 :: l, .int x :: st, M) = some (2, a0 :: some (.int x) :: l, st, M) := st_istore_n q42_1 (pj_st_1 h)
theorem x42_1 {st : List Value} {M : pj_Mem} {l : pj_Loc} {a0 a1 : Option Value} {x : Int32} (h : pj_long a0 = false) {o9 : Option Value × pj_Mem} : pj_Ends 42 (1, a0 :: a1 :: l, .int x :: st, M) o9 = pj_Ends 42 (2, a0 :: some (.int x) :: l, st, M) o9 := pj_xs (s42_1 h)
theorem q42_2 : pj_row 42 2 = some (.iload_n 1, 1, 0, 0, 0) := by decide +kernel
theorem s42_2 {st : List Value} {M : pj_Mem} {l : pj_Loc} {a0 : Option Value} {x : Int32} : pj_step 42 (2, a0 :: some (.int x) :: l, st, M) = some (3, a0 :: some (.int x) :: l, .int x :: st, M) := st_iload_n q42_2 rfl
theorem x42_2 {st : List Value} {M : pj_Mem} {l : pj_Loc} {a0 : Option Value} {x : Int32} {o9 : Option Value × pj_Mem} : pj_Ends 42 (2, a0 :: some (.int x) :: l, st, M) o9 = pj_Ends 42 (3, a0 :: some (.int x) :: l, .int x :: st, M) o9 := pj_xs (s42_2)
theorem q42_3 : pj_row 42 3 = some (.iconst 3, 1, 0, 0, 0) := by decide +kernel
theorem s42_3 {L : pj_Loc} {st : List Value} {M : pj_Mem}  : pj_step 42 (3, L, st, M) = some (4, L, .int 3 :: st, M) := st_iconst q42_3 (by decide +kernel)
theorem x42_3 {L : pj_Loc} {st : List Value} {M : pj_Mem}  {o9 : Option Value × pj_Mem} : pj_Ends 42 (3, L, st, M) o9 = pj_Ends 42 (4, L, .int 3 :: st, M) o9 := pj_xs (s42_3)
theorem q42_4 : pj_row 42 4 = some (.if_icmp .ge 17, 3, 21, 0, 0) := by decide +kernel
theorem s42_4 {L : pj_Loc} {st : List Value} {M : pj_Mem} {x y : Int32} : pj_step 42 (4, L, .int y :: .int x :: st, M) = some (if y ≤ x then 21 else 7, L, st, M) := st_icmp_ge q42_4
theorem x42_4 {L : pj_Loc} {st : List Value} {M : pj_Mem} {x y : Int32} {o9 : Option Value × pj_Mem} : pj_Ends 42 (4, L, .int y :: .int x :: st, M) o9 = pj_Ends 42 (if y ≤ x then 21 else 7, L, st, M) o9 := pj_xs (s42_4)
theorem q42_7 : pj_row 42 7 = some (.aload_n 0, 1, 0, 0, 0) := by decide +kernel
theorem s42_7 {st : List Value} {M : pj_Mem} {l : pj_Loc} {x : Nat} : pj_step 42 (7, some (.ref x) :: l, st, M) = some (8, some (.ref x) :: l, .ref x :: st, M) := st_aload_n q42_7 rfl
theorem x42_7 {st : List Value} {M : pj_Mem} {l : pj_Loc} {x : Nat} {o9 : Option Value × pj_Mem} : pj_Ends 42 (7, some (.ref x) :: l, st, M) o9 = pj_Ends 42 (8, some (.ref x) :: l, .ref x :: st, M) o9 := pj_xs (s42_7)
theorem q42_8 : pj_row 42 8 = some (.getfield 27, 3, 4, 5, 0) := by decide +kernel
theorem s42_8 {L : pj_Loc} {st : List Value} {N S : Nat} {H : pj_Heap} {o : Nat} : pj_step 42 (8, L, .ref o :: st, (N, S, H)) = pj_pv 11 L st (N, S, H) (pj_fld (H o) 4 5) := st_getfield q42_8
theorem x42_8 {L : pj_Loc} {st : List Value} {N S : Nat} {H : pj_Heap} {o : Nat} {o9 : Option Value × pj_Mem} : pj_Ends 42 (8, L, .ref o :: st, (N, S, H)) o9 = pj_then 42 o9 (pj_pv 11 L st (N, S, H) (pj_fld (H o) 4 5)) := pj_xt q42_8 rfl (pj_cl_nc rfl) (s42_8)
theorem q42_11 : pj_row 42 11 = some (.iload_n 1, 1, 0, 0, 0) := by decide +kernel
theorem s42_11 {st : List Value} {M : pj_Mem} {l : pj_Loc} {a0 : Option Value} {x : Int32} : pj_step 42 (11, a0 :: some (.int x) :: l, st, M) = some (12, a0 :: some (.int x) :: l, .int x :: st, M) := st_iload_n q42_11 rfl
theorem x42_11 {st : List Value} {M : pj_Mem} {l : pj_Loc} {a0 : Option Value} {x : Int32} {o9 : Option Value × pj_Mem} : pj_Ends 42 (11, a0 :: some (.int x) :: l, st, M) o9 = pj_Ends 42 (12, a0 :: some (.int x) :: l, .int x :: st, M) o9 := pj_xs (s42_11)
theorem q42_12 : pj_row 42 12 = some (.bipush (-6), 2, 0, 0, 0) := by decide +kernel
theorem s42_12 {L : pj_Loc} {st : List Value} {M : pj_Mem}  : pj_step 42 (12, L, st, M) = some (14, L, .int (-6) :: st, M) := st_bipush q42_12 (by decide +kernel)
theorem x42_12 {L : pj_Loc} {st : List Value} {M : pj_Mem}  {o9 : Option Value × pj_Mem} : pj_Ends 42 (12, L, st, M) o9 = pj_Ends 42 (14, L, .int (-6) :: st, M) o9 := pj_xs (s42_12)
theorem q42_14 : pj_row 42 14 = some (.iastore, 1, 0, 0, 0) := by decide +kernel
theorem s42_14 {L : pj_Loc} {st : List Value} {N S : Nat} {H : pj_Heap} {o : Nat} {i x : Int32} : pj_step 42 (14, L, .int x :: .int i :: .ref o :: st, (N, S, H)) = pj_set 15 L st (N, S, H) o (pj_ars (H o) 0 i x) := st_iastore q42_14
theorem x42_14 {L : pj_Loc} {st : List Value} {N S : Nat} {H : pj_Heap} {o : Nat} {i x : Int32} {o9 : Option Value × pj_Mem} : pj_Ends 42 (14, L, .int x :: .int i :: .ref o :: st, (N, S, H)) o9 = pj_then 42 o9 (pj_set 15 L st (N, S, H) o (pj_ars (H o) 0 i x)) := pj_xt q42_14 rfl (pj_cl_nc rfl) (s42_14)
theorem q42_15 : pj_row 42 15 = some (.iinc 1 1, 3, 0, 0, 0) := by decide +kernel
theorem s42_15 {st : List Value} {M : pj_Mem} {l : pj_Loc} {a0 : Option Value} {x : Int32} (h : pj_long a0 = false) : pj_step 42 (15, a0 :: some (.int x) :: l, st, M) = some (18, a0 :: some (.int (x + 1)) :: l, st, M) := st_iinc q42_15 rfl (congrArg (fun y => x + y) (show Int32.ofInt 1 = 1 by decide +kernel)) (pj_st_1 h)
theorem x42_15 {st : List Value} {M : pj_Mem} {l : pj_Loc} {a0 : Option Value} {x : Int32} (h : pj_long a0 = false) {o9 : Option Value × pj_Mem} : pj_Ends 42 (15, a0 :: some (.int x) :: l, st, M) o9 = pj_Ends 42 (18, a0 :: some (.int (x + 1)) :: l, st, M) o9 := pj_xs (s42_15 h)
theorem q42_18 : pj_row 42 18 = some (.goto (-16), 3, 2, 0, 0) := by decide +kernel
theorem s42_18 {L : pj_Loc} {st : List Value} {M : pj_Mem}  : pj_step 42 (18, L, st, M) = some (2, L, st, M) := st_goto q42_18
theorem x42_18 {L : pj_Loc} {st : List Value} {M : pj_Mem}  {o9 : Option Value × pj_Mem} : pj_Ends 42 (18, L, st, M) o9 = pj_Ends 42 (2, L, st, M) o9 := pj_xs (s42_18)
theorem q42_21 : pj_row 42 21 = some (.iconst 0, 1, 0, 0, 0) := by decide +kernel
theorem s42_21 {L : pj_Loc} {st : List Value} {M : pj_Mem}  : pj_step 42 (21, L, st, M) = some (22, L, .int 0 :: st, M) := st_iconst q42_21 (by decide +kernel)
theorem x42_21 {L : pj_Loc} {st : List Value} {M : pj_Mem}  {o9 : Option Value × pj_Mem} : pj_Ends 42 (21, L, st, M) o9 = pj_Ends 42 (22, L, .int 0 :: st, M) o9 := pj_xs (s42_21)
theorem q42_22 : pj_row 42 22 = some (.istore_n 1, 1, 0, 0, 0) := by decide +kernel
theorem s42_22 {st : List Value} {M : pj_Mem} {l : pj_Loc} {a0 a1 : Option Value} {x : Int32} (h : pj_long a0 = false) : pj_step 42 (22, a0 :: a1 :: l, .int x :: st, M) = some (23, a0 :: some (.int x) :: l, st, M) := st_istore_n q42_22 (pj_st_1 h)
theorem x42_22 {st : List Value} {M : pj_Mem} {l : pj_Loc} {a0 a1 : Option Value} {x : Int32} (h : pj_long a0 = false) {o9 : Option Value × pj_Mem} : pj_Ends 42 (22, a0 :: a1 :: l, .int x :: st, M) o9 = pj_Ends 42 (23, a0 :: some (.int x) :: l, st, M) o9 := pj_xs (s42_22 h)
theorem q42_23 : pj_row 42 23 = some (.iload_n 1, 1, 0, 0, 0) := by decide +kernel
theorem s42_23 {st : List Value} {M : pj_Mem} {l : pj_Loc} {a0 : Option Value} {x : Int32} : pj_step 42 (23, a0 :: some (.int x) :: l, st, M) = some (24, a0 :: some (.int x) :: l, .int x :: st, M) := st_iload_n q42_23 rfl
theorem x42_23 {st : List Value} {M : pj_Mem} {l : pj_Loc} {a0 : Option Value} {x : Int32} {o9 : Option Value × pj_Mem} : pj_Ends 42 (23, a0 :: some (.int x) :: l, st, M) o9 = pj_Ends 42 (24, a0 :: some (.int x) :: l, .int x :: st, M) o9 := pj_xs (s42_23)
theorem q42_24 : pj_row 42 24 = some (.iconst 3, 1, 0, 0, 0) := by decide +kernel
theorem s42_24 {L : pj_Loc} {st : List Value} {M : pj_Mem}  : pj_step 42 (24, L, st, M) = some (25, L, .int 3 :: st, M) := st_iconst q42_24 (by decide +kernel)
theorem x42_24 {L : pj_Loc} {st : List Value} {M : pj_Mem}  {o9 : Option Value × pj_Mem} : pj_Ends 42 (24, L, st, M) o9 = pj_Ends 42 (25, L, .int 3 :: st, M) o9 := pj_xs (s42_24)
theorem q42_25 : pj_row 42 25 = some (.if_icmp .ge 16, 3, 41, 0, 0) := by decide +kernel
theorem s42_25 {L : pj_Loc} {st : List Value} {M : pj_Mem} {x y : Int32} : pj_step 42 (25, L, .int y :: .int x :: st, M) = some (if y ≤ x then 41 else 28, L, st, M) := st_icmp_ge q42_25
theorem x42_25 {L : pj_Loc} {st : List Value} {M : pj_Mem} {x y : Int32} {o9 : Option Value × pj_Mem} : pj_Ends 42 (25, L, .int y :: .int x :: st, M) o9 = pj_Ends 42 (if y ≤ x then 41 else 28, L, st, M) o9 := pj_xs (s42_25)
theorem q42_28 : pj_row 42 28 = some (.aload_n 0, 1, 0, 0, 0) := by decide +kernel
theorem s42_28 {st : List Value} {M : pj_Mem} {l : pj_Loc} {x : Nat} : pj_step 42 (28, some (.ref x) :: l, st, M) = some (29, some (.ref x) :: l, .ref x :: st, M) := st_aload_n q42_28 rfl
theorem x42_28 {st : List Value} {M : pj_Mem} {l : pj_Loc} {x : Nat} {o9 : Option Value × pj_Mem} : pj_Ends 42 (28, some (.ref x) :: l, st, M) o9 = pj_Ends 42 (29, some (.ref x) :: l, .ref x :: st, M) o9 := pj_xs (s42_28)
theorem q42_29 : pj_row 42 29 = some (.getfield 18, 3, 4, 2, 0) := by decide +kernel
theorem s42_29 {L : pj_Loc} {st : List Value} {N S : Nat} {H : pj_Heap} {o : Nat} : pj_step 42 (29, L, .ref o :: st, (N, S, H)) = pj_pv 32 L st (N, S, H) (pj_fld (H o) 4 2) := st_getfield q42_29
theorem x42_29 {L : pj_Loc} {st : List Value} {N S : Nat} {H : pj_Heap} {o : Nat} {o9 : Option Value × pj_Mem} : pj_Ends 42 (29, L, .ref o :: st, (N, S, H)) o9 = pj_then 42 o9 (pj_pv 32 L st (N, S, H) (pj_fld (H o) 4 2)) := pj_xt q42_29 rfl (pj_cl_nc rfl) (s42_29)
theorem q42_32 : pj_row 42 32 = some (.iload_n 1, 1, 0, 0, 0) := by decide +kernel
theorem s42_32 {st : List Value} {M : pj_Mem} {l : pj_Loc} {a0 : Option Value} {x : Int32} : pj_step 42 (32, a0 :: some (.int x) :: l, st, M) = some (33, a0 :: some (.int x) :: l, .int x :: st, M) := st_iload_n q42_32 rfl
theorem x42_32 {st : List Value} {M : pj_Mem} {l : pj_Loc} {a0 : Option Value} {x : Int32} {o9 : Option Value × pj_Mem} : pj_Ends 42 (32, a0 :: some (.int x) :: l, st, M) o9 = pj_Ends 42 (33, a0 :: some (.int x) :: l, .int x :: st, M) o9 := pj_xs (s42_32)
theorem q42_33 : pj_row 42 33 = some (.iconst 0, 1, 0, 0, 0) := by decide +kernel
theorem s42_33 {L : pj_Loc} {st : List Value} {M : pj_Mem}  : pj_step 42 (33, L, st, M) = some (34, L, .int 0 :: st, M) := st_iconst q42_33 (by decide +kernel)
theorem x42_33 {L : pj_Loc} {st : List Value} {M : pj_Mem}  {o9 : Option Value × pj_Mem} : pj_Ends 42 (33, L, st, M) o9 = pj_Ends 42 (34, L, .int 0 :: st, M) o9 := pj_xs (s42_33)
theorem q42_34 : pj_row 42 34 = some (.iastore, 1, 0, 0, 0) := by decide +kernel
theorem s42_34 {L : pj_Loc} {st : List Value} {N S : Nat} {H : pj_Heap} {o : Nat} {i x : Int32} : pj_step 42 (34, L, .int x :: .int i :: .ref o :: st, (N, S, H)) = pj_set 35 L st (N, S, H) o (pj_ars (H o) 0 i x) := st_iastore q42_34
theorem x42_34 {L : pj_Loc} {st : List Value} {N S : Nat} {H : pj_Heap} {o : Nat} {i x : Int32} {o9 : Option Value × pj_Mem} : pj_Ends 42 (34, L, .int x :: .int i :: .ref o :: st, (N, S, H)) o9 = pj_then 42 o9 (pj_set 35 L st (N, S, H) o (pj_ars (H o) 0 i x)) := pj_xt q42_34 rfl (pj_cl_nc rfl) (s42_34)
theorem q42_35 : pj_row 42 35 = some (.iinc 1 1, 3, 0, 0, 0) := by decide +kernel
theorem s42_35 {st : List Value} {M : pj_Mem} {l : pj_Loc} {a0 : Option Value} {x : Int32} (h : pj_long a0 = false) : pj_step 42 (35, a0 :: some (.int x) :: l, st, M) = some (38, a0 :: some (.int (x + 1)) :: l, st, M) := st_iinc q42_35 rfl (congrArg (fun y => x + y) (show Int32.ofInt 1 = 1 by decide +kernel)) (pj_st_1 h)
theorem x42_35 {st : List Value} {M : pj_Mem} {l : pj_Loc} {a0 : Option Value} {x : Int32} (h : pj_long a0 = false) {o9 : Option Value × pj_Mem} : pj_Ends 42 (35, a0 :: some (.int x) :: l, st, M) o9 = pj_Ends 42 (38, a0 :: some (.int (x + 1)) :: l, st, M) o9 := pj_xs (s42_35 h)
theorem q42_38 : pj_row 42 38 = some (.goto (-15), 3, 23, 0, 0) := by decide +kernel
theorem s42_38 {L : pj_Loc} {st : List Value} {M : pj_Mem}  : pj_step 42 (38, L, st, M) = some (23, L, st, M) := st_goto q42_38
theorem x42_38 {L : pj_Loc} {st : List Value} {M : pj_Mem}  {o9 : Option Value × pj_Mem} : pj_Ends 42 (38, L, st, M) o9 = pj_Ends 42 (23, L, st, M) o9 := pj_xs (s42_38)
theorem q42_41 : pj_row 42 41 = some (.aload_n 0, 1, 0, 0, 0) := by decide +kernel
theorem s42_41 {st : List Value} {M : pj_Mem} {l : pj_Loc} {x : Nat} : pj_step 42 (41, some (.ref x) :: l, st, M) = some (42, some (.ref x) :: l, .ref x :: st, M) := st_aload_n q42_41 rfl
theorem x42_41 {st : List Value} {M : pj_Mem} {l : pj_Loc} {x : Nat} {o9 : Option Value × pj_Mem} : pj_Ends 42 (41, some (.ref x) :: l, st, M) o9 = pj_Ends 42 (42, some (.ref x) :: l, .ref x :: st, M) o9 := pj_xs (s42_41)
theorem q42_42 : pj_row 42 42 = some (.iconst 0, 1, 0, 0, 0) := by decide +kernel
theorem s42_42 {L : pj_Loc} {st : List Value} {M : pj_Mem}  : pj_step 42 (42, L, st, M) = some (43, L, .int 0 :: st, M) := st_iconst q42_42 (by decide +kernel)
theorem x42_42 {L : pj_Loc} {st : List Value} {M : pj_Mem}  {o9 : Option Value × pj_Mem} : pj_Ends 42 (42, L, st, M) o9 = pj_Ends 42 (43, L, .int 0 :: st, M) o9 := pj_xs (s42_42)
theorem q42_43 : pj_row 42 43 = some (.putfield 57, 3, 4, 9, 0) := by decide +kernel
theorem s42_43 {L : pj_Loc} {st : List Value} {N S : Nat} {H : pj_Heap} {o : Nat} {v : Value} : pj_step 42 (43, L, v :: .ref o :: st, (N, S, H)) = pj_set 46 L st (N, S, H) o (pj_fset (H o) 4 9 v) := st_putfield q42_43
theorem x42_43 {L : pj_Loc} {st : List Value} {N S : Nat} {H : pj_Heap} {o : Nat} {v : Value} {o9 : Option Value × pj_Mem} : pj_Ends 42 (43, L, v :: .ref o :: st, (N, S, H)) o9 = pj_then 42 o9 (pj_set 46 L st (N, S, H) o (pj_fset (H o) 4 9 v)) := pj_xt q42_43 rfl (pj_cl_nc rfl) (s42_43)
theorem q42_46 : pj_row 42 46 = some (.aload_n 0, 1, 0, 0, 0) := by decide +kernel
theorem s42_46 {st : List Value} {M : pj_Mem} {l : pj_Loc} {x : Nat} : pj_step 42 (46, some (.ref x) :: l, st, M) = some (47, some (.ref x) :: l, .ref x :: st, M) := st_aload_n q42_46 rfl
theorem x42_46 {st : List Value} {M : pj_Mem} {l : pj_Loc} {x : Nat} {o9 : Option Value × pj_Mem} : pj_Ends 42 (46, some (.ref x) :: l, st, M) o9 = pj_Ends 42 (47, some (.ref x) :: l, .ref x :: st, M) o9 := pj_xs (s42_46)
theorem q42_47 : pj_row 42 47 = some (.getfield 33, 3, 4, 6, 0) := by decide +kernel
theorem s42_47 {L : pj_Loc} {st : List Value} {N S : Nat} {H : pj_Heap} {o : Nat} : pj_step 42 (47, L, .ref o :: st, (N, S, H)) = pj_pv 50 L st (N, S, H) (pj_fld (H o) 4 6) := st_getfield q42_47
theorem x42_47 {L : pj_Loc} {st : List Value} {N S : Nat} {H : pj_Heap} {o : Nat} {o9 : Option Value × pj_Mem} : pj_Ends 42 (47, L, .ref o :: st, (N, S, H)) o9 = pj_then 42 o9 (pj_pv 50 L st (N, S, H) (pj_fld (H o) 4 6)) := pj_xt q42_47 rfl (pj_cl_nc rfl) (s42_47)
theorem q42_50 : pj_row 42 50 = some (.invokevirtual 76, 3, 43, 1, 0) := by decide +kernel
theorem e42_50 {L : pj_Loc} {st : List Value} {N S : Nat} {H : pj_Heap} {o : Option Value × pj_Mem} {M' : pj_Mem} {x0 : Nat} (h4 : pj_le4 st = true) (hu : pj_isU 2 (H x0) = true) (h1 : pj_Ends 43 (0, [some (.ref x0)], [], (N, S, H)) (none, M')) (h2 : pj_Ends 42 (53, L, st, M') o) : pj_Ends 42 (50, L, .ref x0 :: st, (N, S, H)) o := ec_v1 q42_50 (Or.inl rfl) h4 hu rfl h1 h2
theorem q42_53 : pj_row 42 53 = some (.return_, 1, 0, 0, 0) := by decide +kernel
theorem t42_53 {L : pj_Loc} {M : pj_Mem} : pj_Ends 42 (53, L, [], M) (none, M) := pj_Ends.ret q42_53 (pj_rtn_v rt42)
theorem rt43 : pj_rt 43 = none := rfl
theorem q43_0 : pj_row 43 0 = some (.aload_n 0, 1, 0, 0, 0) := by decide +kernel
theorem s43_0 {st : List Value} {M : pj_Mem} {l : pj_Loc} {x : Nat} : pj_step 43 (0, some (.ref x) :: l, st, M) = some (1, some (.ref x) :: l, .ref x :: st, M) := st_aload_n q43_0 rfl
theorem x43_0 {st : List Value} {M : pj_Mem} {l : pj_Loc} {x : Nat} {o9 : Option Value × pj_Mem} : pj_Ends 43 (0, some (.ref x) :: l, st, M) o9 = pj_Ends 43 (1, some (.ref x) :: l, .ref x :: st, M) o9 := pj_xs (s43_0)
theorem q43_1 : pj_row 43 1 = some (.iconst 0, 1, 0, 0, 0) := by decide +kernel
theorem s43_1 {L : pj_Loc} {st : List Value} {M : pj_Mem}  : pj_step 43 (1, L, st, M) = some (2, L, .int 0 :: st, M) := st_iconst q43_1 (by decide +kernel)
theorem x43_1 {L : pj_Loc} {st : List Value} {M : pj_Mem}  {o9 : Option Value × pj_Mem} : pj_Ends 43 (1, L, st, M) o9 = pj_Ends 43 (2, L, .int 0 :: st, M) o9 := pj_xs (s43_1)
theorem q43_2 : pj_row 43 2 = some (.putfield 25, 3, 2, 1, 0) := by decide +kernel
theorem s43_2 {L : pj_Loc} {st : List Value} {N S : Nat} {H : pj_Heap} {o : Nat} {v : Value} : pj_step 43 (2, L, v :: .ref o :: st, (N, S, H)) = pj_set 5 L st (N, S, H) o (pj_fset (H o) 2 1 v) := st_putfield q43_2
theorem x43_2 {L : pj_Loc} {st : List Value} {N S : Nat} {H : pj_Heap} {o : Nat} {v : Value} {o9 : Option Value × pj_Mem} : pj_Ends 43 (2, L, v :: .ref o :: st, (N, S, H)) o9 = pj_then 43 o9 (pj_set 5 L st (N, S, H) o (pj_fset (H o) 2 1 v)) := pj_xt q43_2 rfl (pj_cl_nc rfl) (s43_2)
theorem q43_5 : pj_row 43 5 = some (.aload_n 0, 1, 0, 0, 0) := by decide +kernel
theorem s43_5 {st : List Value} {M : pj_Mem} {l : pj_Loc} {x : Nat} : pj_step 43 (5, some (.ref x) :: l, st, M) = some (6, some (.ref x) :: l, .ref x :: st, M) := st_aload_n q43_5 rfl
theorem x43_5 {st : List Value} {M : pj_Mem} {l : pj_Loc} {x : Nat} {o9 : Option Value × pj_Mem} : pj_Ends 43 (5, some (.ref x) :: l, st, M) o9 = pj_Ends 43 (6, some (.ref x) :: l, .ref x :: st, M) o9 := pj_xs (s43_5)
theorem q43_6 : pj_row 43 6 = some (.bipush (-6), 2, 0, 0, 0) := by decide +kernel
theorem s43_6 {L : pj_Loc} {st : List Value} {M : pj_Mem}  : pj_step 43 (6, L, st, M) = some (8, L, .int (-6) :: st, M) := st_bipush q43_6 (by decide +kernel)
theorem x43_6 {L : pj_Loc} {st : List Value} {M : pj_Mem}  {o9 : Option Value × pj_Mem} : pj_Ends 43 (6, L, st, M) o9 = pj_Ends 43 (8, L, .int (-6) :: st, M) o9 := pj_xs (s43_6)
theorem q43_8 : pj_row 43 8 = some (.putfield 15, 3, 2, 2, 0) := by decide +kernel
theorem s43_8 {L : pj_Loc} {st : List Value} {N S : Nat} {H : pj_Heap} {o : Nat} {v : Value} : pj_step 43 (8, L, v :: .ref o :: st, (N, S, H)) = pj_set 11 L st (N, S, H) o (pj_fset (H o) 2 2 v) := st_putfield q43_8
theorem x43_8 {L : pj_Loc} {st : List Value} {N S : Nat} {H : pj_Heap} {o : Nat} {v : Value} {o9 : Option Value × pj_Mem} : pj_Ends 43 (8, L, v :: .ref o :: st, (N, S, H)) o9 = pj_then 43 o9 (pj_set 11 L st (N, S, H) o (pj_fset (H o) 2 2 v)) := pj_xt q43_8 rfl (pj_cl_nc rfl) (s43_8)
theorem q43_11 : pj_row 43 11 = some (.return_, 1, 0, 0, 0) := by decide +kernel
theorem t43_11 {L : pj_Loc} {M : pj_Mem} : pj_Ends 43 (11, L, [], M) (none, M) := pj_Ends.ret q43_11 (pj_rtn_v rt43)
theorem rt44 : pj_rt 44 = some .int := rfl
theorem q44_0 : pj_row 44 0 = some (.iload_n 1, 1, 0, 0, 0) := by decide +kernel
theorem s44_0 {st : List Value} {M : pj_Mem} {l : pj_Loc} {a0 : Option Value} {x : Int32} : pj_step 44 (0, a0 :: some (.int x) :: l, st, M) = some (1, a0 :: some (.int x) :: l, .int x :: st, M) := st_iload_n q44_0 rfl
theorem x44_0 {st : List Value} {M : pj_Mem} {l : pj_Loc} {a0 : Option Value} {x : Int32} {o9 : Option Value × pj_Mem} : pj_Ends 44 (0, a0 :: some (.int x) :: l, st, M) o9 = pj_Ends 44 (1, a0 :: some (.int x) :: l, .int x :: st, M) o9 := pj_xs (s44_0)
theorem q44_1 : pj_row 44 1 = some (.ifCond .lt 8, 3, 9, 0, 0) := by decide +kernel
theorem s44_1 {L : pj_Loc} {st : List Value} {M : pj_Mem} {x : Int32} : pj_step 44 (1, L, .int x :: st, M) = some (if x < 0 then 9 else 4, L, st, M) := st_if_lt q44_1
theorem x44_1 {L : pj_Loc} {st : List Value} {M : pj_Mem} {x : Int32} {o9 : Option Value × pj_Mem} : pj_Ends 44 (1, L, .int x :: st, M) o9 = pj_Ends 44 (if x < 0 then 9 else 4, L, st, M) o9 := pj_xs (s44_1)
theorem q44_4 : pj_row 44 4 = some (.iload_n 1, 1, 0, 0, 0) := by decide +kernel
theorem s44_4 {st : List Value} {M : pj_Mem} {l : pj_Loc} {a0 : Option Value} {x : Int32} : pj_step 44 (4, a0 :: some (.int x) :: l, st, M) = some (5, a0 :: some (.int x) :: l, .int x :: st, M) := st_iload_n q44_4 rfl
theorem x44_4 {st : List Value} {M : pj_Mem} {l : pj_Loc} {a0 : Option Value} {x : Int32} {o9 : Option Value × pj_Mem} : pj_Ends 44 (4, a0 :: some (.int x) :: l, st, M) o9 = pj_Ends 44 (5, a0 :: some (.int x) :: l, .int x :: st, M) o9 := pj_xs (s44_4)
theorem q44_5 : pj_row 44 5 = some (.iconst 3, 1, 0, 0, 0) := by decide +kernel
theorem s44_5 {L : pj_Loc} {st : List Value} {M : pj_Mem}  : pj_step 44 (5, L, st, M) = some (6, L, .int 3 :: st, M) := st_iconst q44_5 (by decide +kernel)
theorem x44_5 {L : pj_Loc} {st : List Value} {M : pj_Mem}  {o9 : Option Value × pj_Mem} : pj_Ends 44 (5, L, st, M) o9 = pj_Ends 44 (6, L, .int 3 :: st, M) o9 := pj_xs (s44_5)
theorem q44_6 : pj_row 44 6 = some (.if_icmp .lt 5, 3, 11, 0, 0) := by decide +kernel
theorem s44_6 {L : pj_Loc} {st : List Value} {M : pj_Mem} {x y : Int32} : pj_step 44 (6, L, .int y :: .int x :: st, M) = some (if x < y then 11 else 9, L, st, M) := st_icmp_lt q44_6
theorem x44_6 {L : pj_Loc} {st : List Value} {M : pj_Mem} {x y : Int32} {o9 : Option Value × pj_Mem} : pj_Ends 44 (6, L, .int y :: .int x :: st, M) o9 = pj_Ends 44 (if x < y then 11 else 9, L, st, M) o9 := pj_xs (s44_6)
theorem q44_9 : pj_row 44 9 = some (.iconst (-1), 1, 0, 0, 0) := by decide +kernel
theorem s44_9 {L : pj_Loc} {st : List Value} {M : pj_Mem}  : pj_step 44 (9, L, st, M) = some (10, L, .int (-1) :: st, M) := st_iconst q44_9 (by decide +kernel)
theorem x44_9 {L : pj_Loc} {st : List Value} {M : pj_Mem}  {o9 : Option Value × pj_Mem} : pj_Ends 44 (9, L, st, M) o9 = pj_Ends 44 (10, L, .int (-1) :: st, M) o9 := pj_xs (s44_9)
theorem q44_10 : pj_row 44 10 = some (.ireturn, 1, 0, 0, 0) := by decide +kernel
theorem t44_10 {L : pj_Loc} {M : pj_Mem} {v : Int32} : pj_Ends 44 (10, L, [.int v], M) (some (.int v), M) := pj_Ends.ret q44_10 (pj_rtn_i rt44)
theorem q44_11 : pj_row 44 11 = some (.iload_n 2, 1, 0, 0, 0) := by decide +kernel
theorem s44_11 {st : List Value} {M : pj_Mem} {l : pj_Loc} {a0 a1 : Option Value} {x : Int32} : pj_step 44 (11, a0 :: a1 :: some (.int x) :: l, st, M) = some (12, a0 :: a1 :: some (.int x) :: l, .int x :: st, M) := st_iload_n q44_11 rfl
theorem x44_11 {st : List Value} {M : pj_Mem} {l : pj_Loc} {a0 a1 : Option Value} {x : Int32} {o9 : Option Value × pj_Mem} : pj_Ends 44 (11, a0 :: a1 :: some (.int x) :: l, st, M) o9 = pj_Ends 44 (12, a0 :: a1 :: some (.int x) :: l, .int x :: st, M) o9 := pj_xs (s44_11)
theorem q44_12 : pj_row 44 12 = some (.tableswitch 115 0 4 #[36, 49, 62, 77, 87], 36, 0, 0, 0) := by decide +kernel
theorem s44_12 {L : pj_Loc} {st : List Value} {M : pj_Mem} {x : Int32} : pj_step 44 (12, L, .int x :: st, M) = some (if x = 0 then 48 else if x = 1 then 61 else if x = 2 then 74 else if x = 3 then 89 else if x = 4 then 99 else 127, L, st, M) := by
  rw [st_tsw q44_12]
  unfold pj_tsw
  by_cases hr : x.toInt < 0 ∨ 4 < x.toInt
  · simp only
    rw [if_pos hr]
    rw [if_neg (show ¬ x = 0 from fun e => by rw [e] at hr; revert hr; decide)]
    rw [if_neg (show ¬ x = 1 from fun e => by rw [e] at hr; revert hr; decide)]
    rw [if_neg (show ¬ x = 2 from fun e => by rw [e] at hr; revert hr; decide)]
    rw [if_neg (show ¬ x = 3 from fun e => by rw [e] at hr; revert hr; decide)]
    rw [if_neg (show ¬ x = 4 from fun e => by rw [e] at hr; revert hr; decide)]
    rfl
  · have h3 : x.toInt = 0 ∨ x.toInt = 1 ∨ x.toInt = 2 ∨ x.toInt = 3 ∨ x.toInt = 4 := by omega
    rcases h3 with h3 | h3 | h3 | h3 | h3
    · have e : x = 0 := Int32.toInt_inj.mp (h3.trans (by decide))
      subst e
      rfl
    · have e : x = 1 := Int32.toInt_inj.mp (h3.trans (by decide))
      subst e
      rfl
    · have e : x = 2 := Int32.toInt_inj.mp (h3.trans (by decide))
      subst e
      rfl
    · have e : x = 3 := Int32.toInt_inj.mp (h3.trans (by decide))
      subst e
      rfl
    · have e : x = 4 := Int32.toInt_inj.mp (h3.trans (by decide))
      subst e
      rfl
theorem x44_12 {L : pj_Loc} {st : List Value} {M : pj_Mem} {x : Int32} {o9 : Option Value × pj_Mem} : pj_Ends 44 (12, L, .int x :: st, M) o9 = pj_Ends 44 (if x = 0 then 48 else if x = 1 then 61 else if x = 2 then 74 else if x = 3 then 89 else if x = 4 then 99 else 127, L, st, M) o9 := pj_xs (s44_12)
theorem q44_48 : pj_row 44 48 = some (.aload_n 0, 1, 0, 0, 0) := by decide +kernel
theorem s44_48 {st : List Value} {M : pj_Mem} {l : pj_Loc} {x : Nat} : pj_step 44 (48, some (.ref x) :: l, st, M) = some (49, some (.ref x) :: l, .ref x :: st, M) := st_aload_n q44_48 rfl
theorem x44_48 {st : List Value} {M : pj_Mem} {l : pj_Loc} {x : Nat} {o9 : Option Value × pj_Mem} : pj_Ends 44 (48, some (.ref x) :: l, st, M) o9 = pj_Ends 44 (49, some (.ref x) :: l, .ref x :: st, M) o9 := pj_xs (s44_48)
theorem q44_49 : pj_row 44 49 = some (.getfield 10, 3, 5, 0, 0) := by decide +kernel
theorem s44_49 {L : pj_Loc} {st : List Value} {N S : Nat} {H : pj_Heap} {o : Nat} : pj_step 44 (49, L, .ref o :: st, (N, S, H)) = pj_pv 52 L st (N, S, H) (pj_fld (H o) 5 0) := st_getfield q44_49
theorem x44_49 {L : pj_Loc} {st : List Value} {N S : Nat} {H : pj_Heap} {o : Nat} {o9 : Option Value × pj_Mem} : pj_Ends 44 (49, L, .ref o :: st, (N, S, H)) o9 = pj_then 44 o9 (pj_pv 52 L st (N, S, H) (pj_fld (H o) 5 0)) := pj_xt q44_49 rfl (pj_cl_nc rfl) (s44_49)
theorem q44_52 : pj_row 44 52 = some (.getfield 98, 3, 4, 1, 0) := by decide +kernel
theorem s44_52 {L : pj_Loc} {st : List Value} {N S : Nat} {H : pj_Heap} {o : Nat} : pj_step 44 (52, L, .ref o :: st, (N, S, H)) = pj_pv 55 L st (N, S, H) (pj_fld (H o) 4 1) := st_getfield q44_52
theorem x44_52 {L : pj_Loc} {st : List Value} {N S : Nat} {H : pj_Heap} {o : Nat} {o9 : Option Value × pj_Mem} : pj_Ends 44 (52, L, .ref o :: st, (N, S, H)) o9 = pj_then 44 o9 (pj_pv 55 L st (N, S, H) (pj_fld (H o) 4 1)) := pj_xt q44_52 rfl (pj_cl_nc rfl) (s44_52)
theorem q44_55 : pj_row 44 55 = some (.iload_n 1, 1, 0, 0, 0) := by decide +kernel
theorem s44_55 {st : List Value} {M : pj_Mem} {l : pj_Loc} {a0 : Option Value} {x : Int32} : pj_step 44 (55, a0 :: some (.int x) :: l, st, M) = some (56, a0 :: some (.int x) :: l, .int x :: st, M) := st_iload_n q44_55 rfl
theorem x44_55 {st : List Value} {M : pj_Mem} {l : pj_Loc} {a0 : Option Value} {x : Int32} {o9 : Option Value × pj_Mem} : pj_Ends 44 (55, a0 :: some (.int x) :: l, st, M) o9 = pj_Ends 44 (56, a0 :: some (.int x) :: l, .int x :: st, M) o9 := pj_xs (s44_55)
theorem q44_56 : pj_row 44 56 = some (.iaload, 1, 0, 0, 0) := by decide +kernel
theorem s44_56 {L : pj_Loc} {st : List Value} {N S : Nat} {H : pj_Heap} {o : Nat} {i : Int32} : pj_step 44 (56, L, .int i :: .ref o :: st, (N, S, H)) = pj_pi 57 L st (N, S, H) (pj_arl (H o) 0 i) := st_iaload q44_56
theorem x44_56 {L : pj_Loc} {st : List Value} {N S : Nat} {H : pj_Heap} {o : Nat} {i : Int32} {o9 : Option Value × pj_Mem} : pj_Ends 44 (56, L, .int i :: .ref o :: st, (N, S, H)) o9 = pj_then 44 o9 (pj_pi 57 L st (N, S, H) (pj_arl (H o) 0 i)) := pj_xt q44_56 rfl (pj_cl_nc rfl) (s44_56)
theorem q44_57 : pj_row 44 57 = some (.ldc 69, 2, 0, 0, 100000) := by decide +kernel
theorem s44_57 {L : pj_Loc} {st : List Value} {M : pj_Mem}  : pj_step 44 (57, L, st, M) = some (59, L, .int 100000 :: st, M) := st_ldc q44_57 (by decide +kernel)
theorem x44_57 {L : pj_Loc} {st : List Value} {M : pj_Mem}  {o9 : Option Value × pj_Mem} : pj_Ends 44 (57, L, st, M) o9 = pj_Ends 44 (59, L, .int 100000 :: st, M) o9 := pj_xs (s44_57)
theorem q44_59 : pj_row 44 59 = some (.iadd, 1, 0, 0, 0) := by decide +kernel
theorem s44_59 {L : pj_Loc} {st : List Value} {M : pj_Mem} {x y : Int32} : pj_step 44 (59, L, .int y :: .int x :: st, M) = some (60, L, .int (x + y) :: st, M) := st_iadd q44_59
theorem x44_59 {L : pj_Loc} {st : List Value} {M : pj_Mem} {x y : Int32} {o9 : Option Value × pj_Mem} : pj_Ends 44 (59, L, .int y :: .int x :: st, M) o9 = pj_Ends 44 (60, L, .int (x + y) :: st, M) o9 := pj_xs (s44_59)
theorem q44_60 : pj_row 44 60 = some (.ireturn, 1, 0, 0, 0) := by decide +kernel
theorem t44_60 {L : pj_Loc} {M : pj_Mem} {v : Int32} : pj_Ends 44 (60, L, [.int v], M) (some (.int v), M) := pj_Ends.ret q44_60 (pj_rtn_i rt44)
theorem q44_61 : pj_row 44 61 = some (.aload_n 0, 1, 0, 0, 0) := by decide +kernel
theorem s44_61 {st : List Value} {M : pj_Mem} {l : pj_Loc} {x : Nat} : pj_step 44 (61, some (.ref x) :: l, st, M) = some (62, some (.ref x) :: l, .ref x :: st, M) := st_aload_n q44_61 rfl
theorem x44_61 {st : List Value} {M : pj_Mem} {l : pj_Loc} {x : Nat} {o9 : Option Value × pj_Mem} : pj_Ends 44 (61, some (.ref x) :: l, st, M) o9 = pj_Ends 44 (62, some (.ref x) :: l, .ref x :: st, M) o9 := pj_xs (s44_61)
theorem q44_62 : pj_row 44 62 = some (.getfield 10, 3, 5, 0, 0) := by decide +kernel
theorem s44_62 {L : pj_Loc} {st : List Value} {N S : Nat} {H : pj_Heap} {o : Nat} : pj_step 44 (62, L, .ref o :: st, (N, S, H)) = pj_pv 65 L st (N, S, H) (pj_fld (H o) 5 0) := st_getfield q44_62
theorem x44_62 {L : pj_Loc} {st : List Value} {N S : Nat} {H : pj_Heap} {o : Nat} {o9 : Option Value × pj_Mem} : pj_Ends 44 (62, L, .ref o :: st, (N, S, H)) o9 = pj_then 44 o9 (pj_pv 65 L st (N, S, H) (pj_fld (H o) 5 0)) := pj_xt q44_62 rfl (pj_cl_nc rfl) (s44_62)
theorem q44_65 : pj_row 44 65 = some (.getfield 101, 3, 4, 2, 0) := by decide +kernel
theorem s44_65 {L : pj_Loc} {st : List Value} {N S : Nat} {H : pj_Heap} {o : Nat} : pj_step 44 (65, L, .ref o :: st, (N, S, H)) = pj_pv 68 L st (N, S, H) (pj_fld (H o) 4 2) := st_getfield q44_65
theorem x44_65 {L : pj_Loc} {st : List Value} {N S : Nat} {H : pj_Heap} {o : Nat} {o9 : Option Value × pj_Mem} : pj_Ends 44 (65, L, .ref o :: st, (N, S, H)) o9 = pj_then 44 o9 (pj_pv 68 L st (N, S, H) (pj_fld (H o) 4 2)) := pj_xt q44_65 rfl (pj_cl_nc rfl) (s44_65)
theorem q44_68 : pj_row 44 68 = some (.iload_n 1, 1, 0, 0, 0) := by decide +kernel
theorem s44_68 {st : List Value} {M : pj_Mem} {l : pj_Loc} {a0 : Option Value} {x : Int32} : pj_step 44 (68, a0 :: some (.int x) :: l, st, M) = some (69, a0 :: some (.int x) :: l, .int x :: st, M) := st_iload_n q44_68 rfl
theorem x44_68 {st : List Value} {M : pj_Mem} {l : pj_Loc} {a0 : Option Value} {x : Int32} {o9 : Option Value × pj_Mem} : pj_Ends 44 (68, a0 :: some (.int x) :: l, st, M) o9 = pj_Ends 44 (69, a0 :: some (.int x) :: l, .int x :: st, M) o9 := pj_xs (s44_68)
theorem q44_69 : pj_row 44 69 = some (.iaload, 1, 0, 0, 0) := by decide +kernel
theorem s44_69 {L : pj_Loc} {st : List Value} {N S : Nat} {H : pj_Heap} {o : Nat} {i : Int32} : pj_step 44 (69, L, .int i :: .ref o :: st, (N, S, H)) = pj_pi 70 L st (N, S, H) (pj_arl (H o) 0 i) := st_iaload q44_69
theorem x44_69 {L : pj_Loc} {st : List Value} {N S : Nat} {H : pj_Heap} {o : Nat} {i : Int32} {o9 : Option Value × pj_Mem} : pj_Ends 44 (69, L, .int i :: .ref o :: st, (N, S, H)) o9 = pj_then 44 o9 (pj_pi 70 L st (N, S, H) (pj_arl (H o) 0 i)) := pj_xt q44_69 rfl (pj_cl_nc rfl) (s44_69)
theorem q44_70 : pj_row 44 70 = some (.ldc 69, 2, 0, 0, 100000) := by decide +kernel
theorem s44_70 {L : pj_Loc} {st : List Value} {M : pj_Mem}  : pj_step 44 (70, L, st, M) = some (72, L, .int 100000 :: st, M) := st_ldc q44_70 (by decide +kernel)
theorem x44_70 {L : pj_Loc} {st : List Value} {M : pj_Mem}  {o9 : Option Value × pj_Mem} : pj_Ends 44 (70, L, st, M) o9 = pj_Ends 44 (72, L, .int 100000 :: st, M) o9 := pj_xs (s44_70)
theorem q44_72 : pj_row 44 72 = some (.iadd, 1, 0, 0, 0) := by decide +kernel
theorem s44_72 {L : pj_Loc} {st : List Value} {M : pj_Mem} {x y : Int32} : pj_step 44 (72, L, .int y :: .int x :: st, M) = some (73, L, .int (x + y) :: st, M) := st_iadd q44_72
theorem x44_72 {L : pj_Loc} {st : List Value} {M : pj_Mem} {x y : Int32} {o9 : Option Value × pj_Mem} : pj_Ends 44 (72, L, .int y :: .int x :: st, M) o9 = pj_Ends 44 (73, L, .int (x + y) :: st, M) o9 := pj_xs (s44_72)
theorem q44_73 : pj_row 44 73 = some (.ireturn, 1, 0, 0, 0) := by decide +kernel
theorem t44_73 {L : pj_Loc} {M : pj_Mem} {v : Int32} : pj_Ends 44 (73, L, [.int v], M) (some (.int v), M) := pj_Ends.ret q44_73 (pj_rtn_i rt44)
theorem q44_74 : pj_row 44 74 = some (.aload_n 0, 1, 0, 0, 0) := by decide +kernel
theorem s44_74 {st : List Value} {M : pj_Mem} {l : pj_Loc} {x : Nat} : pj_step 44 (74, some (.ref x) :: l, st, M) = some (75, some (.ref x) :: l, .ref x :: st, M) := st_aload_n q44_74 rfl
theorem x44_74 {st : List Value} {M : pj_Mem} {l : pj_Loc} {x : Nat} {o9 : Option Value × pj_Mem} : pj_Ends 44 (74, some (.ref x) :: l, st, M) o9 = pj_Ends 44 (75, some (.ref x) :: l, .ref x :: st, M) o9 := pj_xs (s44_74)
theorem q44_75 : pj_row 44 75 = some (.getfield 10, 3, 5, 0, 0) := by decide +kernel
theorem s44_75 {L : pj_Loc} {st : List Value} {N S : Nat} {H : pj_Heap} {o : Nat} : pj_step 44 (75, L, .ref o :: st, (N, S, H)) = pj_pv 78 L st (N, S, H) (pj_fld (H o) 5 0) := st_getfield q44_75
theorem x44_75 {L : pj_Loc} {st : List Value} {N S : Nat} {H : pj_Heap} {o : Nat} {o9 : Option Value × pj_Mem} : pj_Ends 44 (75, L, .ref o :: st, (N, S, H)) o9 = pj_then 44 o9 (pj_pv 78 L st (N, S, H) (pj_fld (H o) 5 0)) := pj_xt q44_75 rfl (pj_cl_nc rfl) (s44_75)
theorem q44_78 : pj_row 44 78 = some (.getfield 95, 3, 4, 7, 0) := by decide +kernel
theorem s44_78 {L : pj_Loc} {st : List Value} {N S : Nat} {H : pj_Heap} {o : Nat} : pj_step 44 (78, L, .ref o :: st, (N, S, H)) = pj_pv 81 L st (N, S, H) (pj_fld (H o) 4 7) := st_getfield q44_78
theorem x44_78 {L : pj_Loc} {st : List Value} {N S : Nat} {H : pj_Heap} {o : Nat} {o9 : Option Value × pj_Mem} : pj_Ends 44 (78, L, .ref o :: st, (N, S, H)) o9 = pj_then 44 o9 (pj_pv 81 L st (N, S, H) (pj_fld (H o) 4 7)) := pj_xt q44_78 rfl (pj_cl_nc rfl) (s44_78)
theorem q44_81 : pj_row 44 81 = some (.iload_n 1, 1, 0, 0, 0) := by decide +kernel
theorem s44_81 {st : List Value} {M : pj_Mem} {l : pj_Loc} {a0 : Option Value} {x : Int32} : pj_step 44 (81, a0 :: some (.int x) :: l, st, M) = some (82, a0 :: some (.int x) :: l, .int x :: st, M) := st_iload_n q44_81 rfl
theorem x44_81 {st : List Value} {M : pj_Mem} {l : pj_Loc} {a0 : Option Value} {x : Int32} {o9 : Option Value × pj_Mem} : pj_Ends 44 (81, a0 :: some (.int x) :: l, st, M) o9 = pj_Ends 44 (82, a0 :: some (.int x) :: l, .int x :: st, M) o9 := pj_xs (s44_81)
theorem q44_82 : pj_row 44 82 = some (.invokestatic 77, 3, 21, 2, 0) := by decide +kernel
theorem e44_82 {L : pj_Loc} {st : List Value} {N S : Nat} {H : pj_Heap} {o : Option Value × pj_Mem} {M' : pj_Mem} {x0 : Int32} {x1 : Int32} {r : Int32} (h4 : pj_le4 st = true) (h1 : pj_Ends 21 (0, [some (.int x0), some (.int x1)], [], (N, S, H)) (some (.int r), M')) (h2 : pj_Ends 44 (85, L, .int r :: st, M') o) : pj_Ends 44 (82, L, .int x1 :: .int x0 :: st, (N, S, H)) o := ec_s2 q44_82 (Or.inl rfl) h4 rfl h1 h2
theorem q44_85 : pj_row 44 85 = some (.invokestatic 116, 3, 37, 1, 0) := by decide +kernel
theorem e44_85 {L : pj_Loc} {st : List Value} {N S : Nat} {H : pj_Heap} {o : Option Value × pj_Mem} {M' : pj_Mem} {x0 : Int32} {r : Int32} (h4 : pj_le4 st = true) (h1 : pj_Ends 37 (0, [some (.int x0)], [], (N, S, H)) (some (.int r), M')) (h2 : pj_Ends 44 (88, L, .int r :: st, M') o) : pj_Ends 44 (85, L, .int x0 :: st, (N, S, H)) o := ec_s1 q44_85 (Or.inl rfl) h4 rfl h1 h2
theorem q44_88 : pj_row 44 88 = some (.ireturn, 1, 0, 0, 0) := by decide +kernel
theorem t44_88 {L : pj_Loc} {M : pj_Mem} {v : Int32} : pj_Ends 44 (88, L, [.int v], M) (some (.int v), M) := pj_Ends.ret q44_88 (pj_rtn_i rt44)
theorem q44_89 : pj_row 44 89 = some (.aload_n 0, 1, 0, 0, 0) := by decide +kernel
theorem s44_89 {st : List Value} {M : pj_Mem} {l : pj_Loc} {x : Nat} : pj_step 44 (89, some (.ref x) :: l, st, M) = some (90, some (.ref x) :: l, .ref x :: st, M) := st_aload_n q44_89 rfl
theorem x44_89 {st : List Value} {M : pj_Mem} {l : pj_Loc} {x : Nat} {o9 : Option Value × pj_Mem} : pj_Ends 44 (89, some (.ref x) :: l, st, M) o9 = pj_Ends 44 (90, some (.ref x) :: l, .ref x :: st, M) o9 := pj_xs (s44_89)
theorem q44_90 : pj_row 44 90 = some (.getfield 10, 3, 5, 0, 0) := by decide +kernel
theorem s44_90 {L : pj_Loc} {st : List Value} {N S : Nat} {H : pj_Heap} {o : Nat} : pj_step 44 (90, L, .ref o :: st, (N, S, H)) = pj_pv 93 L st (N, S, H) (pj_fld (H o) 5 0) := st_getfield q44_90
theorem x44_90 {L : pj_Loc} {st : List Value} {N S : Nat} {H : pj_Heap} {o : Nat} {o9 : Option Value × pj_Mem} : pj_Ends 44 (90, L, .ref o :: st, (N, S, H)) o9 = pj_then 44 o9 (pj_pv 93 L st (N, S, H) (pj_fld (H o) 5 0)) := pj_xt q44_90 rfl (pj_cl_nc rfl) (s44_90)
theorem q44_93 : pj_row 44 93 = some (.getfield 104, 3, 4, 3, 0) := by decide +kernel
theorem s44_93 {L : pj_Loc} {st : List Value} {N S : Nat} {H : pj_Heap} {o : Nat} : pj_step 44 (93, L, .ref o :: st, (N, S, H)) = pj_pv 96 L st (N, S, H) (pj_fld (H o) 4 3) := st_getfield q44_93
theorem x44_93 {L : pj_Loc} {st : List Value} {N S : Nat} {H : pj_Heap} {o : Nat} {o9 : Option Value × pj_Mem} : pj_Ends 44 (93, L, .ref o :: st, (N, S, H)) o9 = pj_then 44 o9 (pj_pv 96 L st (N, S, H) (pj_fld (H o) 4 3)) := pj_xt q44_93 rfl (pj_cl_nc rfl) (s44_93)
theorem q44_96 : pj_row 44 96 = some (.iload_n 1, 1, 0, 0, 0) := by decide +kernel
theorem s44_96 {st : List Value} {M : pj_Mem} {l : pj_Loc} {a0 : Option Value} {x : Int32} : pj_step 44 (96, a0 :: some (.int x) :: l, st, M) = some (97, a0 :: some (.int x) :: l, .int x :: st, M) := st_iload_n q44_96 rfl
theorem x44_96 {st : List Value} {M : pj_Mem} {l : pj_Loc} {a0 : Option Value} {x : Int32} {o9 : Option Value × pj_Mem} : pj_Ends 44 (96, a0 :: some (.int x) :: l, st, M) o9 = pj_Ends 44 (97, a0 :: some (.int x) :: l, .int x :: st, M) o9 := pj_xs (s44_96)
theorem q44_97 : pj_row 44 97 = some (.iaload, 1, 0, 0, 0) := by decide +kernel
theorem s44_97 {L : pj_Loc} {st : List Value} {N S : Nat} {H : pj_Heap} {o : Nat} {i : Int32} : pj_step 44 (97, L, .int i :: .ref o :: st, (N, S, H)) = pj_pi 98 L st (N, S, H) (pj_arl (H o) 0 i) := st_iaload q44_97
theorem x44_97 {L : pj_Loc} {st : List Value} {N S : Nat} {H : pj_Heap} {o : Nat} {i : Int32} {o9 : Option Value × pj_Mem} : pj_Ends 44 (97, L, .int i :: .ref o :: st, (N, S, H)) o9 = pj_then 44 o9 (pj_pi 98 L st (N, S, H) (pj_arl (H o) 0 i)) := pj_xt q44_97 rfl (pj_cl_nc rfl) (s44_97)
theorem q44_98 : pj_row 44 98 = some (.ireturn, 1, 0, 0, 0) := by decide +kernel
theorem t44_98 {L : pj_Loc} {M : pj_Mem} {v : Int32} : pj_Ends 44 (98, L, [.int v], M) (some (.int v), M) := pj_Ends.ret q44_98 (pj_rtn_i rt44)
theorem q44_99 : pj_row 44 99 = some (.aload_n 0, 1, 0, 0, 0) := by decide +kernel
theorem s44_99 {st : List Value} {M : pj_Mem} {l : pj_Loc} {x : Nat} : pj_step 44 (99, some (.ref x) :: l, st, M) = some (100, some (.ref x) :: l, .ref x :: st, M) := st_aload_n q44_99 rfl
theorem x44_99 {st : List Value} {M : pj_Mem} {l : pj_Loc} {x : Nat} {o9 : Option Value × pj_Mem} : pj_Ends 44 (99, some (.ref x) :: l, st, M) o9 = pj_Ends 44 (100, some (.ref x) :: l, .ref x :: st, M) o9 := pj_xs (s44_99)
theorem q44_100 : pj_row 44 100 = some (.getfield 10, 3, 5, 0, 0) := by decide +kernel
theorem s44_100 {L : pj_Loc} {st : List Value} {N S : Nat} {H : pj_Heap} {o : Nat} : pj_step 44 (100, L, .ref o :: st, (N, S, H)) = pj_pv 103 L st (N, S, H) (pj_fld (H o) 5 0) := st_getfield q44_100
theorem x44_100 {L : pj_Loc} {st : List Value} {N S : Nat} {H : pj_Heap} {o : Nat} {o9 : Option Value × pj_Mem} : pj_Ends 44 (100, L, .ref o :: st, (N, S, H)) o9 = pj_then 44 o9 (pj_pv 103 L st (N, S, H) (pj_fld (H o) 5 0)) := pj_xt q44_100 rfl (pj_cl_nc rfl) (s44_100)
theorem q44_103 : pj_row 44 103 = some (.getfield 65, 3, 4, 10, 0) := by decide +kernel
theorem s44_103 {L : pj_Loc} {st : List Value} {N S : Nat} {H : pj_Heap} {o : Nat} : pj_step 44 (103, L, .ref o :: st, (N, S, H)) = pj_pv 106 L st (N, S, H) (pj_fld (H o) 4 10) := st_getfield q44_103
theorem x44_103 {L : pj_Loc} {st : List Value} {N S : Nat} {H : pj_Heap} {o : Nat} {o9 : Option Value × pj_Mem} : pj_Ends 44 (103, L, .ref o :: st, (N, S, H)) o9 = pj_then 44 o9 (pj_pv 106 L st (N, S, H) (pj_fld (H o) 4 10)) := pj_xt q44_103 rfl (pj_cl_nc rfl) (s44_103)
theorem q44_106 : pj_row 44 106 = some (.ifCond .ne 8, 3, 114, 0, 0) := by decide +kernel
theorem s44_106 {L : pj_Loc} {st : List Value} {M : pj_Mem} {x : Int32} : pj_step 44 (106, L, .int x :: st, M) = some (if ¬ x = 0 then 114 else 109, L, st, M) := st_if_ne q44_106
theorem x44_106 {L : pj_Loc} {st : List Value} {M : pj_Mem} {x : Int32} {o9 : Option Value × pj_Mem} : pj_Ends 44 (106, L, .int x :: st, M) o9 = pj_Ends 44 (if ¬ x = 0 then 114 else 109, L, st, M) o9 := pj_xs (s44_106)
theorem q44_109 : pj_row 44 109 = some (.bipush (-6), 2, 0, 0, 0) := by decide +kernel
theorem s44_109 {L : pj_Loc} {st : List Value} {M : pj_Mem}  : pj_step 44 (109, L, st, M) = some (111, L, .int (-6) :: st, M) := st_bipush q44_109 (by decide +kernel)
theorem x44_109 {L : pj_Loc} {st : List Value} {M : pj_Mem}  {o9 : Option Value × pj_Mem} : pj_Ends 44 (109, L, st, M) o9 = pj_Ends 44 (111, L, .int (-6) :: st, M) o9 := pj_xs (s44_109)
theorem q44_111 : pj_row 44 111 = some (.goto 15, 3, 126, 0, 0) := by decide +kernel
theorem s44_111 {L : pj_Loc} {st : List Value} {M : pj_Mem}  : pj_step 44 (111, L, st, M) = some (126, L, st, M) := st_goto q44_111
theorem x44_111 {L : pj_Loc} {st : List Value} {M : pj_Mem}  {o9 : Option Value × pj_Mem} : pj_Ends 44 (111, L, st, M) o9 = pj_Ends 44 (126, L, st, M) o9 := pj_xs (s44_111)
theorem q44_114 : pj_row 44 114 = some (.aload_n 0, 1, 0, 0, 0) := by decide +kernel
theorem s44_114 {st : List Value} {M : pj_Mem} {l : pj_Loc} {x : Nat} : pj_step 44 (114, some (.ref x) :: l, st, M) = some (115, some (.ref x) :: l, .ref x :: st, M) := st_aload_n q44_114 rfl
theorem x44_114 {st : List Value} {M : pj_Mem} {l : pj_Loc} {x : Nat} {o9 : Option Value × pj_Mem} : pj_Ends 44 (114, some (.ref x) :: l, st, M) o9 = pj_Ends 44 (115, some (.ref x) :: l, .ref x :: st, M) o9 := pj_xs (s44_114)
theorem q44_115 : pj_row 44 115 = some (.getfield 10, 3, 5, 0, 0) := by decide +kernel
theorem s44_115 {L : pj_Loc} {st : List Value} {N S : Nat} {H : pj_Heap} {o : Nat} : pj_step 44 (115, L, .ref o :: st, (N, S, H)) = pj_pv 118 L st (N, S, H) (pj_fld (H o) 5 0) := st_getfield q44_115
theorem x44_115 {L : pj_Loc} {st : List Value} {N S : Nat} {H : pj_Heap} {o : Nat} {o9 : Option Value × pj_Mem} : pj_Ends 44 (115, L, .ref o :: st, (N, S, H)) o9 = pj_then 44 o9 (pj_pv 118 L st (N, S, H) (pj_fld (H o) 5 0)) := pj_xt q44_115 rfl (pj_cl_nc rfl) (s44_115)
theorem q44_118 : pj_row 44 118 = some (.getfield 120, 3, 4, 4, 0) := by decide +kernel
theorem s44_118 {L : pj_Loc} {st : List Value} {N S : Nat} {H : pj_Heap} {o : Nat} : pj_step 44 (118, L, .ref o :: st, (N, S, H)) = pj_pv 121 L st (N, S, H) (pj_fld (H o) 4 4) := st_getfield q44_118
theorem x44_118 {L : pj_Loc} {st : List Value} {N S : Nat} {H : pj_Heap} {o : Nat} {o9 : Option Value × pj_Mem} : pj_Ends 44 (118, L, .ref o :: st, (N, S, H)) o9 = pj_then 44 o9 (pj_pv 121 L st (N, S, H) (pj_fld (H o) 4 4)) := pj_xt q44_118 rfl (pj_cl_nc rfl) (s44_118)
theorem q44_121 : pj_row 44 121 = some (.iload_n 1, 1, 0, 0, 0) := by decide +kernel
theorem s44_121 {st : List Value} {M : pj_Mem} {l : pj_Loc} {a0 : Option Value} {x : Int32} : pj_step 44 (121, a0 :: some (.int x) :: l, st, M) = some (122, a0 :: some (.int x) :: l, .int x :: st, M) := st_iload_n q44_121 rfl
theorem x44_121 {st : List Value} {M : pj_Mem} {l : pj_Loc} {a0 : Option Value} {x : Int32} {o9 : Option Value × pj_Mem} : pj_Ends 44 (121, a0 :: some (.int x) :: l, st, M) o9 = pj_Ends 44 (122, a0 :: some (.int x) :: l, .int x :: st, M) o9 := pj_xs (s44_121)
theorem q44_122 : pj_row 44 122 = some (.iaload, 1, 0, 0, 0) := by decide +kernel
theorem s44_122 {L : pj_Loc} {st : List Value} {N S : Nat} {H : pj_Heap} {o : Nat} {i : Int32} : pj_step 44 (122, L, .int i :: .ref o :: st, (N, S, H)) = pj_pi 123 L st (N, S, H) (pj_arl (H o) 0 i) := st_iaload q44_122
theorem x44_122 {L : pj_Loc} {st : List Value} {N S : Nat} {H : pj_Heap} {o : Nat} {i : Int32} {o9 : Option Value × pj_Mem} : pj_Ends 44 (122, L, .int i :: .ref o :: st, (N, S, H)) o9 = pj_then 44 o9 (pj_pi 123 L st (N, S, H) (pj_arl (H o) 0 i)) := pj_xt q44_122 rfl (pj_cl_nc rfl) (s44_122)
theorem q44_123 : pj_row 44 123 = some (.ldc 69, 2, 0, 0, 100000) := by decide +kernel
theorem s44_123 {L : pj_Loc} {st : List Value} {M : pj_Mem}  : pj_step 44 (123, L, st, M) = some (125, L, .int 100000 :: st, M) := st_ldc q44_123 (by decide +kernel)
theorem x44_123 {L : pj_Loc} {st : List Value} {M : pj_Mem}  {o9 : Option Value × pj_Mem} : pj_Ends 44 (123, L, st, M) o9 = pj_Ends 44 (125, L, .int 100000 :: st, M) o9 := pj_xs (s44_123)
theorem q44_125 : pj_row 44 125 = some (.iadd, 1, 0, 0, 0) := by decide +kernel
theorem s44_125 {L : pj_Loc} {st : List Value} {M : pj_Mem} {x y : Int32} : pj_step 44 (125, L, .int y :: .int x :: st, M) = some (126, L, .int (x + y) :: st, M) := st_iadd q44_125
theorem x44_125 {L : pj_Loc} {st : List Value} {M : pj_Mem} {x y : Int32} {o9 : Option Value × pj_Mem} : pj_Ends 44 (125, L, .int y :: .int x :: st, M) o9 = pj_Ends 44 (126, L, .int (x + y) :: st, M) o9 := pj_xs (s44_125)
theorem q44_126 : pj_row 44 126 = some (.ireturn, 1, 0, 0, 0) := by decide +kernel
theorem t44_126 {L : pj_Loc} {M : pj_Mem} {v : Int32} : pj_Ends 44 (126, L, [.int v], M) (some (.int v), M) := pj_Ends.ret q44_126 (pj_rtn_i rt44)
theorem q44_127 : pj_row 44 127 = some (.bipush (-2), 2, 0, 0, 0) := by decide +kernel
theorem s44_127 {L : pj_Loc} {st : List Value} {M : pj_Mem}  : pj_step 44 (127, L, st, M) = some (129, L, .int (-2) :: st, M) := st_bipush q44_127 (by decide +kernel)
theorem x44_127 {L : pj_Loc} {st : List Value} {M : pj_Mem}  {o9 : Option Value × pj_Mem} : pj_Ends 44 (127, L, st, M) o9 = pj_Ends 44 (129, L, .int (-2) :: st, M) o9 := pj_xs (s44_127)
theorem q44_129 : pj_row 44 129 = some (.ireturn, 1, 0, 0, 0) := by decide +kernel
theorem t44_129 {L : pj_Loc} {M : pj_Mem} {v : Int32} : pj_Ends 44 (129, L, [.int v], M) (some (.int v), M) := pj_Ends.ret q44_129 (pj_rtn_i rt44)
theorem rt45 : pj_rt 45 = some .int := rfl
theorem q45_0 : pj_row 45 0 = some (.iload_n 1, 1, 0, 0, 0) := by decide +kernel
theorem s45_0 {st : List Value} {M : pj_Mem} {l : pj_Loc} {a0 : Option Value} {x : Int32} : pj_step 45 (0, a0 :: some (.int x) :: l, st, M) = some (1, a0 :: some (.int x) :: l, .int x :: st, M) := st_iload_n q45_0 rfl
theorem x45_0 {st : List Value} {M : pj_Mem} {l : pj_Loc} {a0 : Option Value} {x : Int32} {o9 : Option Value × pj_Mem} : pj_Ends 45 (0, a0 :: some (.int x) :: l, st, M) o9 = pj_Ends 45 (1, a0 :: some (.int x) :: l, .int x :: st, M) o9 := pj_xs (s45_0)
theorem q45_1 : pj_row 45 1 = some (.ifCond .lt 8, 3, 9, 0, 0) := by decide +kernel
theorem s45_1 {L : pj_Loc} {st : List Value} {M : pj_Mem} {x : Int32} : pj_step 45 (1, L, .int x :: st, M) = some (if x < 0 then 9 else 4, L, st, M) := st_if_lt q45_1
theorem x45_1 {L : pj_Loc} {st : List Value} {M : pj_Mem} {x : Int32} {o9 : Option Value × pj_Mem} : pj_Ends 45 (1, L, .int x :: st, M) o9 = pj_Ends 45 (if x < 0 then 9 else 4, L, st, M) o9 := pj_xs (s45_1)
theorem q45_4 : pj_row 45 4 = some (.iload_n 1, 1, 0, 0, 0) := by decide +kernel
theorem s45_4 {st : List Value} {M : pj_Mem} {l : pj_Loc} {a0 : Option Value} {x : Int32} : pj_step 45 (4, a0 :: some (.int x) :: l, st, M) = some (5, a0 :: some (.int x) :: l, .int x :: st, M) := st_iload_n q45_4 rfl
theorem x45_4 {st : List Value} {M : pj_Mem} {l : pj_Loc} {a0 : Option Value} {x : Int32} {o9 : Option Value × pj_Mem} : pj_Ends 45 (4, a0 :: some (.int x) :: l, st, M) o9 = pj_Ends 45 (5, a0 :: some (.int x) :: l, .int x :: st, M) o9 := pj_xs (s45_4)
theorem q45_5 : pj_row 45 5 = some (.iconst 3, 1, 0, 0, 0) := by decide +kernel
theorem s45_5 {L : pj_Loc} {st : List Value} {M : pj_Mem}  : pj_step 45 (5, L, st, M) = some (6, L, .int 3 :: st, M) := st_iconst q45_5 (by decide +kernel)
theorem x45_5 {L : pj_Loc} {st : List Value} {M : pj_Mem}  {o9 : Option Value × pj_Mem} : pj_Ends 45 (5, L, st, M) o9 = pj_Ends 45 (6, L, .int 3 :: st, M) o9 := pj_xs (s45_5)
theorem q45_6 : pj_row 45 6 = some (.if_icmp .lt 5, 3, 11, 0, 0) := by decide +kernel
theorem s45_6 {L : pj_Loc} {st : List Value} {M : pj_Mem} {x y : Int32} : pj_step 45 (6, L, .int y :: .int x :: st, M) = some (if x < y then 11 else 9, L, st, M) := st_icmp_lt q45_6
theorem x45_6 {L : pj_Loc} {st : List Value} {M : pj_Mem} {x y : Int32} {o9 : Option Value × pj_Mem} : pj_Ends 45 (6, L, .int y :: .int x :: st, M) o9 = pj_Ends 45 (if x < y then 11 else 9, L, st, M) o9 := pj_xs (s45_6)
theorem q45_9 : pj_row 45 9 = some (.iconst (-1), 1, 0, 0, 0) := by decide +kernel
theorem s45_9 {L : pj_Loc} {st : List Value} {M : pj_Mem}  : pj_step 45 (9, L, st, M) = some (10, L, .int (-1) :: st, M) := st_iconst q45_9 (by decide +kernel)
theorem x45_9 {L : pj_Loc} {st : List Value} {M : pj_Mem}  {o9 : Option Value × pj_Mem} : pj_Ends 45 (9, L, st, M) o9 = pj_Ends 45 (10, L, .int (-1) :: st, M) o9 := pj_xs (s45_9)
theorem q45_10 : pj_row 45 10 = some (.ireturn, 1, 0, 0, 0) := by decide +kernel
theorem t45_10 {L : pj_Loc} {M : pj_Mem} {v : Int32} : pj_Ends 45 (10, L, [.int v], M) (some (.int v), M) := pj_Ends.ret q45_10 (pj_rtn_i rt45)
theorem q45_11 : pj_row 45 11 = some (.iload_n 2, 1, 0, 0, 0) := by decide +kernel
theorem s45_11 {st : List Value} {M : pj_Mem} {l : pj_Loc} {a0 a1 : Option Value} {x : Int32} : pj_step 45 (11, a0 :: a1 :: some (.int x) :: l, st, M) = some (12, a0 :: a1 :: some (.int x) :: l, .int x :: st, M) := st_iload_n q45_11 rfl
theorem x45_11 {st : List Value} {M : pj_Mem} {l : pj_Loc} {a0 a1 : Option Value} {x : Int32} {o9 : Option Value × pj_Mem} : pj_Ends 45 (11, a0 :: a1 :: some (.int x) :: l, st, M) o9 = pj_Ends 45 (12, a0 :: a1 :: some (.int x) :: l, .int x :: st, M) o9 := pj_xs (s45_11)
theorem q45_12 : pj_row 45 12 = some (.lookupswitch 53 #[(0, 28), (1, 38)], 28, 0, 0, 0) := by decide +kernel
theorem s45_12 {L : pj_Loc} {st : List Value} {M : pj_Mem} {x : Int32} : pj_step 45 (12, L, .int x :: st, M) = some (if x = 0 then 40 else if x = 1 then 50 else 65, L, st, M) := by
  rw [st_lsw q45_12]
  unfold pj_lsw
  by_cases h0 : x = 0
  · subst h0; rfl
  by_cases h1 : x = 1
  · subst h1; rfl
  rw [if_neg h0, if_neg h1]
  simp only
  rw [lv_osw h0 (by decide), lv_osw h1 (by decide)]
  rfl
theorem x45_12 {L : pj_Loc} {st : List Value} {M : pj_Mem} {x : Int32} {o9 : Option Value × pj_Mem} : pj_Ends 45 (12, L, .int x :: st, M) o9 = pj_Ends 45 (if x = 0 then 40 else if x = 1 then 50 else 65, L, st, M) o9 := pj_xs (s45_12)
theorem q45_40 : pj_row 45 40 = some (.aload_n 0, 1, 0, 0, 0) := by decide +kernel
theorem s45_40 {st : List Value} {M : pj_Mem} {l : pj_Loc} {x : Nat} : pj_step 45 (40, some (.ref x) :: l, st, M) = some (41, some (.ref x) :: l, .ref x :: st, M) := st_aload_n q45_40 rfl
theorem x45_40 {st : List Value} {M : pj_Mem} {l : pj_Loc} {x : Nat} {o9 : Option Value × pj_Mem} : pj_Ends 45 (40, some (.ref x) :: l, st, M) o9 = pj_Ends 45 (41, some (.ref x) :: l, .ref x :: st, M) o9 := pj_xs (s45_40)
theorem q45_41 : pj_row 45 41 = some (.getfield 10, 3, 5, 0, 0) := by decide +kernel
theorem s45_41 {L : pj_Loc} {st : List Value} {N S : Nat} {H : pj_Heap} {o : Nat} : pj_step 45 (41, L, .ref o :: st, (N, S, H)) = pj_pv 44 L st (N, S, H) (pj_fld (H o) 5 0) := st_getfield q45_41
theorem x45_41 {L : pj_Loc} {st : List Value} {N S : Nat} {H : pj_Heap} {o : Nat} {o9 : Option Value × pj_Mem} : pj_Ends 45 (41, L, .ref o :: st, (N, S, H)) o9 = pj_then 45 o9 (pj_pv 44 L st (N, S, H) (pj_fld (H o) 5 0)) := pj_xt q45_41 rfl (pj_cl_nc rfl) (s45_41)
theorem q45_44 : pj_row 45 44 = some (.getfield 81, 3, 4, 5, 0) := by decide +kernel
theorem s45_44 {L : pj_Loc} {st : List Value} {N S : Nat} {H : pj_Heap} {o : Nat} : pj_step 45 (44, L, .ref o :: st, (N, S, H)) = pj_pv 47 L st (N, S, H) (pj_fld (H o) 4 5) := st_getfield q45_44
theorem x45_44 {L : pj_Loc} {st : List Value} {N S : Nat} {H : pj_Heap} {o : Nat} {o9 : Option Value × pj_Mem} : pj_Ends 45 (44, L, .ref o :: st, (N, S, H)) o9 = pj_then 45 o9 (pj_pv 47 L st (N, S, H) (pj_fld (H o) 4 5)) := pj_xt q45_44 rfl (pj_cl_nc rfl) (s45_44)
theorem q45_47 : pj_row 45 47 = some (.iload_n 1, 1, 0, 0, 0) := by decide +kernel
theorem s45_47 {st : List Value} {M : pj_Mem} {l : pj_Loc} {a0 : Option Value} {x : Int32} : pj_step 45 (47, a0 :: some (.int x) :: l, st, M) = some (48, a0 :: some (.int x) :: l, .int x :: st, M) := st_iload_n q45_47 rfl
theorem x45_47 {st : List Value} {M : pj_Mem} {l : pj_Loc} {a0 : Option Value} {x : Int32} {o9 : Option Value × pj_Mem} : pj_Ends 45 (47, a0 :: some (.int x) :: l, st, M) o9 = pj_Ends 45 (48, a0 :: some (.int x) :: l, .int x :: st, M) o9 := pj_xs (s45_47)
theorem q45_48 : pj_row 45 48 = some (.iaload, 1, 0, 0, 0) := by decide +kernel
theorem s45_48 {L : pj_Loc} {st : List Value} {N S : Nat} {H : pj_Heap} {o : Nat} {i : Int32} : pj_step 45 (48, L, .int i :: .ref o :: st, (N, S, H)) = pj_pi 49 L st (N, S, H) (pj_arl (H o) 0 i) := st_iaload q45_48
theorem x45_48 {L : pj_Loc} {st : List Value} {N S : Nat} {H : pj_Heap} {o : Nat} {i : Int32} {o9 : Option Value × pj_Mem} : pj_Ends 45 (48, L, .int i :: .ref o :: st, (N, S, H)) o9 = pj_then 45 o9 (pj_pi 49 L st (N, S, H) (pj_arl (H o) 0 i)) := pj_xt q45_48 rfl (pj_cl_nc rfl) (s45_48)
theorem q45_49 : pj_row 45 49 = some (.ireturn, 1, 0, 0, 0) := by decide +kernel
theorem t45_49 {L : pj_Loc} {M : pj_Mem} {v : Int32} : pj_Ends 45 (49, L, [.int v], M) (some (.int v), M) := pj_Ends.ret q45_49 (pj_rtn_i rt45)
theorem q45_50 : pj_row 45 50 = some (.aload_n 0, 1, 0, 0, 0) := by decide +kernel
theorem s45_50 {st : List Value} {M : pj_Mem} {l : pj_Loc} {x : Nat} : pj_step 45 (50, some (.ref x) :: l, st, M) = some (51, some (.ref x) :: l, .ref x :: st, M) := st_aload_n q45_50 rfl
theorem x45_50 {st : List Value} {M : pj_Mem} {l : pj_Loc} {x : Nat} {o9 : Option Value × pj_Mem} : pj_Ends 45 (50, some (.ref x) :: l, st, M) o9 = pj_Ends 45 (51, some (.ref x) :: l, .ref x :: st, M) o9 := pj_xs (s45_50)
theorem q45_51 : pj_row 45 51 = some (.getfield 10, 3, 5, 0, 0) := by decide +kernel
theorem s45_51 {L : pj_Loc} {st : List Value} {N S : Nat} {H : pj_Heap} {o : Nat} : pj_step 45 (51, L, .ref o :: st, (N, S, H)) = pj_pv 54 L st (N, S, H) (pj_fld (H o) 5 0) := st_getfield q45_51
theorem x45_51 {L : pj_Loc} {st : List Value} {N S : Nat} {H : pj_Heap} {o : Nat} {o9 : Option Value × pj_Mem} : pj_Ends 45 (51, L, .ref o :: st, (N, S, H)) o9 = pj_then 45 o9 (pj_pv 54 L st (N, S, H) (pj_fld (H o) 5 0)) := pj_xt q45_51 rfl (pj_cl_nc rfl) (s45_51)
theorem q45_54 : pj_row 45 54 = some (.getfield 74, 3, 4, 8, 0) := by decide +kernel
theorem s45_54 {L : pj_Loc} {st : List Value} {N S : Nat} {H : pj_Heap} {o : Nat} : pj_step 45 (54, L, .ref o :: st, (N, S, H)) = pj_pv 57 L st (N, S, H) (pj_fld (H o) 4 8) := st_getfield q45_54
theorem x45_54 {L : pj_Loc} {st : List Value} {N S : Nat} {H : pj_Heap} {o : Nat} {o9 : Option Value × pj_Mem} : pj_Ends 45 (54, L, .ref o :: st, (N, S, H)) o9 = pj_then 45 o9 (pj_pv 57 L st (N, S, H) (pj_fld (H o) 4 8)) := pj_xt q45_54 rfl (pj_cl_nc rfl) (s45_54)
theorem q45_57 : pj_row 45 57 = some (.iload_n 1, 1, 0, 0, 0) := by decide +kernel
theorem s45_57 {st : List Value} {M : pj_Mem} {l : pj_Loc} {a0 : Option Value} {x : Int32} : pj_step 45 (57, a0 :: some (.int x) :: l, st, M) = some (58, a0 :: some (.int x) :: l, .int x :: st, M) := st_iload_n q45_57 rfl
theorem x45_57 {st : List Value} {M : pj_Mem} {l : pj_Loc} {a0 : Option Value} {x : Int32} {o9 : Option Value × pj_Mem} : pj_Ends 45 (57, a0 :: some (.int x) :: l, st, M) o9 = pj_Ends 45 (58, a0 :: some (.int x) :: l, .int x :: st, M) o9 := pj_xs (s45_57)
theorem q45_58 : pj_row 45 58 = some (.invokestatic 77, 3, 21, 2, 0) := by decide +kernel
theorem e45_58 {L : pj_Loc} {st : List Value} {N S : Nat} {H : pj_Heap} {o : Option Value × pj_Mem} {M' : pj_Mem} {x0 : Int32} {x1 : Int32} {r : Int32} (h4 : pj_le4 st = true) (h1 : pj_Ends 21 (0, [some (.int x0), some (.int x1)], [], (N, S, H)) (some (.int r), M')) (h2 : pj_Ends 45 (61, L, .int r :: st, M') o) : pj_Ends 45 (58, L, .int x1 :: .int x0 :: st, (N, S, H)) o := ec_s2 q45_58 (Or.inl rfl) h4 rfl h1 h2
theorem q45_61 : pj_row 45 61 = some (.invokestatic 116, 3, 37, 1, 0) := by decide +kernel
theorem e45_61 {L : pj_Loc} {st : List Value} {N S : Nat} {H : pj_Heap} {o : Option Value × pj_Mem} {M' : pj_Mem} {x0 : Int32} {r : Int32} (h4 : pj_le4 st = true) (h1 : pj_Ends 37 (0, [some (.int x0)], [], (N, S, H)) (some (.int r), M')) (h2 : pj_Ends 45 (64, L, .int r :: st, M') o) : pj_Ends 45 (61, L, .int x0 :: st, (N, S, H)) o := ec_s1 q45_61 (Or.inl rfl) h4 rfl h1 h2
theorem q45_64 : pj_row 45 64 = some (.ireturn, 1, 0, 0, 0) := by decide +kernel
theorem t45_64 {L : pj_Loc} {M : pj_Mem} {v : Int32} : pj_Ends 45 (64, L, [.int v], M) (some (.int v), M) := pj_Ends.ret q45_64 (pj_rtn_i rt45)
theorem q45_65 : pj_row 45 65 = some (.bipush (-2), 2, 0, 0, 0) := by decide +kernel
theorem s45_65 {L : pj_Loc} {st : List Value} {M : pj_Mem}  : pj_step 45 (65, L, st, M) = some (67, L, .int (-2) :: st, M) := st_bipush q45_65 (by decide +kernel)
theorem x45_65 {L : pj_Loc} {st : List Value} {M : pj_Mem}  {o9 : Option Value × pj_Mem} : pj_Ends 45 (65, L, st, M) o9 = pj_Ends 45 (67, L, .int (-2) :: st, M) o9 := pj_xs (s45_65)
theorem q45_67 : pj_row 45 67 = some (.ireturn, 1, 0, 0, 0) := by decide +kernel
theorem t45_67 {L : pj_Loc} {M : pj_Mem} {v : Int32} : pj_Ends 45 (67, L, [.int v], M) (some (.int v), M) := pj_Ends.ret q45_67 (pj_rtn_i rt45)
theorem rt46 : pj_rt 46 = some .int := rfl
theorem q46_0 : pj_row 46 0 = some (.iload_n 1, 1, 0, 0, 0) := by decide +kernel
theorem s46_0 {st : List Value} {M : pj_Mem} {l : pj_Loc} {a0 : Option Value} {x : Int32} : pj_step 46 (0, a0 :: some (.int x) :: l, st, M) = some (1, a0 :: some (.int x) :: l, .int x :: st, M) := st_iload_n q46_0 rfl
theorem x46_0 {st : List Value} {M : pj_Mem} {l : pj_Loc} {a0 : Option Value} {x : Int32} {o9 : Option Value × pj_Mem} : pj_Ends 46 (0, a0 :: some (.int x) :: l, st, M) o9 = pj_Ends 46 (1, a0 :: some (.int x) :: l, .int x :: st, M) o9 := pj_xs (s46_0)
theorem q46_1 : pj_row 46 1 = some (.ifCond .lt 17, 3, 18, 0, 0) := by decide +kernel
theorem s46_1 {L : pj_Loc} {st : List Value} {M : pj_Mem} {x : Int32} : pj_step 46 (1, L, .int x :: st, M) = some (if x < 0 then 18 else 4, L, st, M) := st_if_lt q46_1
theorem x46_1 {L : pj_Loc} {st : List Value} {M : pj_Mem} {x : Int32} {o9 : Option Value × pj_Mem} : pj_Ends 46 (1, L, .int x :: st, M) o9 = pj_Ends 46 (if x < 0 then 18 else 4, L, st, M) o9 := pj_xs (s46_1)
theorem q46_4 : pj_row 46 4 = some (.iload_n 1, 1, 0, 0, 0) := by decide +kernel
theorem s46_4 {st : List Value} {M : pj_Mem} {l : pj_Loc} {a0 : Option Value} {x : Int32} : pj_step 46 (4, a0 :: some (.int x) :: l, st, M) = some (5, a0 :: some (.int x) :: l, .int x :: st, M) := st_iload_n q46_4 rfl
theorem x46_4 {st : List Value} {M : pj_Mem} {l : pj_Loc} {a0 : Option Value} {x : Int32} {o9 : Option Value × pj_Mem} : pj_Ends 46 (4, a0 :: some (.int x) :: l, st, M) o9 = pj_Ends 46 (5, a0 :: some (.int x) :: l, .int x :: st, M) o9 := pj_xs (s46_4)
theorem q46_5 : pj_row 46 5 = some (.aload_n 0, 1, 0, 0, 0) := by decide +kernel
theorem s46_5 {st : List Value} {M : pj_Mem} {l : pj_Loc} {x : Nat} : pj_step 46 (5, some (.ref x) :: l, st, M) = some (6, some (.ref x) :: l, .ref x :: st, M) := st_aload_n q46_5 rfl
theorem x46_5 {st : List Value} {M : pj_Mem} {l : pj_Loc} {x : Nat} {o9 : Option Value × pj_Mem} : pj_Ends 46 (5, some (.ref x) :: l, st, M) o9 = pj_Ends 46 (6, some (.ref x) :: l, .ref x :: st, M) o9 := pj_xs (s46_5)
theorem q46_6 : pj_row 46 6 = some (.getfield 10, 3, 5, 0, 0) := by decide +kernel
theorem s46_6 {L : pj_Loc} {st : List Value} {N S : Nat} {H : pj_Heap} {o : Nat} : pj_step 46 (6, L, .ref o :: st, (N, S, H)) = pj_pv 9 L st (N, S, H) (pj_fld (H o) 5 0) := st_getfield q46_6
theorem x46_6 {L : pj_Loc} {st : List Value} {N S : Nat} {H : pj_Heap} {o : Nat} {o9 : Option Value × pj_Mem} : pj_Ends 46 (6, L, .ref o :: st, (N, S, H)) o9 = pj_then 46 o9 (pj_pv 9 L st (N, S, H) (pj_fld (H o) 5 0)) := pj_xt q46_6 rfl (pj_cl_nc rfl) (s46_6)
theorem q46_9 : pj_row 46 9 = some (.getfield 123, 3, 4, 6, 0) := by decide +kernel
theorem s46_9 {L : pj_Loc} {st : List Value} {N S : Nat} {H : pj_Heap} {o : Nat} : pj_step 46 (9, L, .ref o :: st, (N, S, H)) = pj_pv 12 L st (N, S, H) (pj_fld (H o) 4 6) := st_getfield q46_9
theorem x46_9 {L : pj_Loc} {st : List Value} {N S : Nat} {H : pj_Heap} {o : Nat} {o9 : Option Value × pj_Mem} : pj_Ends 46 (9, L, .ref o :: st, (N, S, H)) o9 = pj_then 46 o9 (pj_pv 12 L st (N, S, H) (pj_fld (H o) 4 6)) := pj_xt q46_9 rfl (pj_cl_nc rfl) (s46_9)
theorem q46_12 : pj_row 46 12 = some (.getfield 127, 3, 2, 1, 0) := by decide +kernel
theorem s46_12 {L : pj_Loc} {st : List Value} {N S : Nat} {H : pj_Heap} {o : Nat} : pj_step 46 (12, L, .ref o :: st, (N, S, H)) = pj_pv 15 L st (N, S, H) (pj_fld (H o) 2 1) := st_getfield q46_12
theorem x46_12 {L : pj_Loc} {st : List Value} {N S : Nat} {H : pj_Heap} {o : Nat} {o9 : Option Value × pj_Mem} : pj_Ends 46 (12, L, .ref o :: st, (N, S, H)) o9 = pj_then 46 o9 (pj_pv 15 L st (N, S, H) (pj_fld (H o) 2 1)) := pj_xt q46_12 rfl (pj_cl_nc rfl) (s46_12)
theorem q46_15 : pj_row 46 15 = some (.if_icmp .lt 5, 3, 20, 0, 0) := by decide +kernel
theorem s46_15 {L : pj_Loc} {st : List Value} {M : pj_Mem} {x y : Int32} : pj_step 46 (15, L, .int y :: .int x :: st, M) = some (if x < y then 20 else 18, L, st, M) := st_icmp_lt q46_15
theorem x46_15 {L : pj_Loc} {st : List Value} {M : pj_Mem} {x y : Int32} {o9 : Option Value × pj_Mem} : pj_Ends 46 (15, L, .int y :: .int x :: st, M) o9 = pj_Ends 46 (if x < y then 20 else 18, L, st, M) o9 := pj_xs (s46_15)
theorem q46_18 : pj_row 46 18 = some (.iconst (-1), 1, 0, 0, 0) := by decide +kernel
theorem s46_18 {L : pj_Loc} {st : List Value} {M : pj_Mem}  : pj_step 46 (18, L, st, M) = some (19, L, .int (-1) :: st, M) := st_iconst q46_18 (by decide +kernel)
theorem x46_18 {L : pj_Loc} {st : List Value} {M : pj_Mem}  {o9 : Option Value × pj_Mem} : pj_Ends 46 (18, L, st, M) o9 = pj_Ends 46 (19, L, .int (-1) :: st, M) o9 := pj_xs (s46_18)
theorem q46_19 : pj_row 46 19 = some (.ireturn, 1, 0, 0, 0) := by decide +kernel
theorem t46_19 {L : pj_Loc} {M : pj_Mem} {v : Int32} : pj_Ends 46 (19, L, [.int v], M) (some (.int v), M) := pj_Ends.ret q46_19 (pj_rtn_i rt46)
theorem q46_20 : pj_row 46 20 = some (.iload_n 2, 1, 0, 0, 0) := by decide +kernel
theorem s46_20 {st : List Value} {M : pj_Mem} {l : pj_Loc} {a0 a1 : Option Value} {x : Int32} : pj_step 46 (20, a0 :: a1 :: some (.int x) :: l, st, M) = some (21, a0 :: a1 :: some (.int x) :: l, .int x :: st, M) := st_iload_n q46_20 rfl
theorem x46_20 {st : List Value} {M : pj_Mem} {l : pj_Loc} {a0 a1 : Option Value} {x : Int32} {o9 : Option Value × pj_Mem} : pj_Ends 46 (20, a0 :: a1 :: some (.int x) :: l, st, M) o9 = pj_Ends 46 (21, a0 :: a1 :: some (.int x) :: l, .int x :: st, M) o9 := pj_xs (s46_20)
theorem q46_21 : pj_row 46 21 = some (.ifCond .lt 9, 3, 30, 0, 0) := by decide +kernel
theorem s46_21 {L : pj_Loc} {st : List Value} {M : pj_Mem} {x : Int32} : pj_step 46 (21, L, .int x :: st, M) = some (if x < 0 then 30 else 24, L, st, M) := st_if_lt q46_21
theorem x46_21 {L : pj_Loc} {st : List Value} {M : pj_Mem} {x : Int32} {o9 : Option Value × pj_Mem} : pj_Ends 46 (21, L, .int x :: st, M) o9 = pj_Ends 46 (if x < 0 then 30 else 24, L, st, M) o9 := pj_xs (s46_21)
theorem q46_24 : pj_row 46 24 = some (.iload_n 2, 1, 0, 0, 0) := by decide +kernel
theorem s46_24 {st : List Value} {M : pj_Mem} {l : pj_Loc} {a0 a1 : Option Value} {x : Int32} : pj_step 46 (24, a0 :: a1 :: some (.int x) :: l, st, M) = some (25, a0 :: a1 :: some (.int x) :: l, .int x :: st, M) := st_iload_n q46_24 rfl
theorem x46_24 {st : List Value} {M : pj_Mem} {l : pj_Loc} {a0 a1 : Option Value} {x : Int32} {o9 : Option Value × pj_Mem} : pj_Ends 46 (24, a0 :: a1 :: some (.int x) :: l, st, M) o9 = pj_Ends 46 (25, a0 :: a1 :: some (.int x) :: l, .int x :: st, M) o9 := pj_xs (s46_24)
theorem q46_25 : pj_row 46 25 = some (.bipush 10, 2, 0, 0, 0) := by decide +kernel
theorem s46_25 {L : pj_Loc} {st : List Value} {M : pj_Mem}  : pj_step 46 (25, L, st, M) = some (27, L, .int 10 :: st, M) := st_bipush q46_25 (by decide +kernel)
theorem x46_25 {L : pj_Loc} {st : List Value} {M : pj_Mem}  {o9 : Option Value × pj_Mem} : pj_Ends 46 (25, L, st, M) o9 = pj_Ends 46 (27, L, .int 10 :: st, M) o9 := pj_xs (s46_25)
theorem q46_27 : pj_row 46 27 = some (.if_icmp .lt 6, 3, 33, 0, 0) := by decide +kernel
theorem s46_27 {L : pj_Loc} {st : List Value} {M : pj_Mem} {x y : Int32} : pj_step 46 (27, L, .int y :: .int x :: st, M) = some (if x < y then 33 else 30, L, st, M) := st_icmp_lt q46_27
theorem x46_27 {L : pj_Loc} {st : List Value} {M : pj_Mem} {x y : Int32} {o9 : Option Value × pj_Mem} : pj_Ends 46 (27, L, .int y :: .int x :: st, M) o9 = pj_Ends 46 (if x < y then 33 else 30, L, st, M) o9 := pj_xs (s46_27)
theorem q46_30 : pj_row 46 30 = some (.bipush (-2), 2, 0, 0, 0) := by decide +kernel
theorem s46_30 {L : pj_Loc} {st : List Value} {M : pj_Mem}  : pj_step 46 (30, L, st, M) = some (32, L, .int (-2) :: st, M) := st_bipush q46_30 (by decide +kernel)
theorem x46_30 {L : pj_Loc} {st : List Value} {M : pj_Mem}  {o9 : Option Value × pj_Mem} : pj_Ends 46 (30, L, st, M) o9 = pj_Ends 46 (32, L, .int (-2) :: st, M) o9 := pj_xs (s46_30)
theorem q46_32 : pj_row 46 32 = some (.ireturn, 1, 0, 0, 0) := by decide +kernel
theorem t46_32 {L : pj_Loc} {M : pj_Mem} {v : Int32} : pj_Ends 46 (32, L, [.int v], M) (some (.int v), M) := pj_Ends.ret q46_32 (pj_rtn_i rt46)
theorem q46_33 : pj_row 46 33 = some (.aload_n 0, 1, 0, 0, 0) := by decide +kernel
theorem s46_33 {st : List Value} {M : pj_Mem} {l : pj_Loc} {x : Nat} : pj_step 46 (33, some (.ref x) :: l, st, M) = some (34, some (.ref x) :: l, .ref x :: st, M) := st_aload_n q46_33 rfl
theorem x46_33 {st : List Value} {M : pj_Mem} {l : pj_Loc} {x : Nat} {o9 : Option Value × pj_Mem} : pj_Ends 46 (33, some (.ref x) :: l, st, M) o9 = pj_Ends 46 (34, some (.ref x) :: l, .ref x :: st, M) o9 := pj_xs (s46_33)
theorem q46_34 : pj_row 46 34 = some (.getfield 10, 3, 5, 0, 0) := by decide +kernel
theorem s46_34 {L : pj_Loc} {st : List Value} {N S : Nat} {H : pj_Heap} {o : Nat} : pj_step 46 (34, L, .ref o :: st, (N, S, H)) = pj_pv 37 L st (N, S, H) (pj_fld (H o) 5 0) := st_getfield q46_34
theorem x46_34 {L : pj_Loc} {st : List Value} {N S : Nat} {H : pj_Heap} {o : Nat} {o9 : Option Value × pj_Mem} : pj_Ends 46 (34, L, .ref o :: st, (N, S, H)) o9 = pj_then 46 o9 (pj_pv 37 L st (N, S, H) (pj_fld (H o) 5 0)) := pj_xt q46_34 rfl (pj_cl_nc rfl) (s46_34)
theorem q46_37 : pj_row 46 37 = some (.getfield 123, 3, 4, 6, 0) := by decide +kernel
theorem s46_37 {L : pj_Loc} {st : List Value} {N S : Nat} {H : pj_Heap} {o : Nat} : pj_step 46 (37, L, .ref o :: st, (N, S, H)) = pj_pv 40 L st (N, S, H) (pj_fld (H o) 4 6) := st_getfield q46_37
theorem x46_37 {L : pj_Loc} {st : List Value} {N S : Nat} {H : pj_Heap} {o : Nat} {o9 : Option Value × pj_Mem} : pj_Ends 46 (37, L, .ref o :: st, (N, S, H)) o9 = pj_then 46 o9 (pj_pv 40 L st (N, S, H) (pj_fld (H o) 4 6)) := pj_xt q46_37 rfl (pj_cl_nc rfl) (s46_37)
theorem q46_40 : pj_row 46 40 = some (.getfield 132, 3, 2, 0, 0) := by decide +kernel
theorem s46_40 {L : pj_Loc} {st : List Value} {N S : Nat} {H : pj_Heap} {o : Nat} : pj_step 46 (40, L, .ref o :: st, (N, S, H)) = pj_pv 43 L st (N, S, H) (pj_fld (H o) 2 0) := st_getfield q46_40
theorem x46_40 {L : pj_Loc} {st : List Value} {N S : Nat} {H : pj_Heap} {o : Nat} {o9 : Option Value × pj_Mem} : pj_Ends 46 (40, L, .ref o :: st, (N, S, H)) o9 = pj_then 46 o9 (pj_pv 43 L st (N, S, H) (pj_fld (H o) 2 0)) := pj_xt q46_40 rfl (pj_cl_nc rfl) (s46_40)
theorem q46_43 : pj_row 46 43 = some (.iload_n 1, 1, 0, 0, 0) := by decide +kernel
theorem s46_43 {st : List Value} {M : pj_Mem} {l : pj_Loc} {a0 : Option Value} {x : Int32} : pj_step 46 (43, a0 :: some (.int x) :: l, st, M) = some (44, a0 :: some (.int x) :: l, .int x :: st, M) := st_iload_n q46_43 rfl
theorem x46_43 {st : List Value} {M : pj_Mem} {l : pj_Loc} {a0 : Option Value} {x : Int32} {o9 : Option Value × pj_Mem} : pj_Ends 46 (43, a0 :: some (.int x) :: l, st, M) o9 = pj_Ends 46 (44, a0 :: some (.int x) :: l, .int x :: st, M) o9 := pj_xs (s46_43)
theorem q46_44 : pj_row 46 44 = some (.bipush 10, 2, 0, 0, 0) := by decide +kernel
theorem s46_44 {L : pj_Loc} {st : List Value} {M : pj_Mem}  : pj_step 46 (44, L, st, M) = some (46, L, .int 10 :: st, M) := st_bipush q46_44 (by decide +kernel)
theorem x46_44 {L : pj_Loc} {st : List Value} {M : pj_Mem}  {o9 : Option Value × pj_Mem} : pj_Ends 46 (44, L, st, M) o9 = pj_Ends 46 (46, L, .int 10 :: st, M) o9 := pj_xs (s46_44)
theorem q46_46 : pj_row 46 46 = some (.imul, 1, 0, 0, 0) := by decide +kernel
theorem s46_46 {L : pj_Loc} {st : List Value} {M : pj_Mem} {x y : Int32} : pj_step 46 (46, L, .int y :: .int x :: st, M) = some (47, L, .int (x * y) :: st, M) := st_imul q46_46
theorem x46_46 {L : pj_Loc} {st : List Value} {M : pj_Mem} {x y : Int32} {o9 : Option Value × pj_Mem} : pj_Ends 46 (46, L, .int y :: .int x :: st, M) o9 = pj_Ends 46 (47, L, .int (x * y) :: st, M) o9 := pj_xs (s46_46)
theorem q46_47 : pj_row 46 47 = some (.iload_n 2, 1, 0, 0, 0) := by decide +kernel
theorem s46_47 {st : List Value} {M : pj_Mem} {l : pj_Loc} {a0 a1 : Option Value} {x : Int32} : pj_step 46 (47, a0 :: a1 :: some (.int x) :: l, st, M) = some (48, a0 :: a1 :: some (.int x) :: l, .int x :: st, M) := st_iload_n q46_47 rfl
theorem x46_47 {st : List Value} {M : pj_Mem} {l : pj_Loc} {a0 a1 : Option Value} {x : Int32} {o9 : Option Value × pj_Mem} : pj_Ends 46 (47, a0 :: a1 :: some (.int x) :: l, st, M) o9 = pj_Ends 46 (48, a0 :: a1 :: some (.int x) :: l, .int x :: st, M) o9 := pj_xs (s46_47)
theorem q46_48 : pj_row 46 48 = some (.iadd, 1, 0, 0, 0) := by decide +kernel
theorem s46_48 {L : pj_Loc} {st : List Value} {M : pj_Mem} {x y : Int32} : pj_step 46 (48, L, .int y :: .int x :: st, M) = some (49, L, .int (x + y) :: st, M) := st_iadd q46_48
theorem x46_48 {L : pj_Loc} {st : List Value} {M : pj_Mem} {x y : Int32} {o9 : Option Value × pj_Mem} : pj_Ends 46 (48, L, .int y :: .int x :: st, M) o9 = pj_Ends 46 (49, L, .int (x + y) :: st, M) o9 := pj_xs (s46_48)
theorem q46_49 : pj_row 46 49 = some (.iaload, 1, 0, 0, 0) := by decide +kernel
theorem s46_49 {L : pj_Loc} {st : List Value} {N S : Nat} {H : pj_Heap} {o : Nat} {i : Int32} : pj_step 46 (49, L, .int i :: .ref o :: st, (N, S, H)) = pj_pi 50 L st (N, S, H) (pj_arl (H o) 0 i) := st_iaload q46_49
theorem x46_49 {L : pj_Loc} {st : List Value} {N S : Nat} {H : pj_Heap} {o : Nat} {i : Int32} {o9 : Option Value × pj_Mem} : pj_Ends 46 (49, L, .int i :: .ref o :: st, (N, S, H)) o9 = pj_then 46 o9 (pj_pi 50 L st (N, S, H) (pj_arl (H o) 0 i)) := pj_xt q46_49 rfl (pj_cl_nc rfl) (s46_49)
theorem q46_50 : pj_row 46 50 = some (.ireturn, 1, 0, 0, 0) := by decide +kernel
theorem t46_50 {L : pj_Loc} {M : pj_Mem} {v : Int32} : pj_Ends 46 (50, L, [.int v], M) (some (.int v), M) := pj_Ends.ret q46_50 (pj_rtn_i rt46)
