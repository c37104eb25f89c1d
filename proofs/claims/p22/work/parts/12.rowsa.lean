/-! THE STEPS OF EACH METHOD, by program (wip/whole/gen/gen12.py) -/
theorem pj_xs {k : Nat} {g g' : pj_Cfg} {o : Option Value × pj_Mem} (h : pj_step k g = some g') : pj_Ends k g o = pj_Ends k g' o := by
  refine propext ⟨fun ⟨n, hn⟩ => ?_, pj_Ends.step h⟩
  obtain ⟨pc, L, st, M⟩ := g
  cases n with
  | zero => cases hn
  | succ n =>
    refine ⟨n, ?_⟩
    unfold pj_step at h
    unfold pj_exec at hn
    split at h
    · cases h
    · rename_i r hr
      simp only at hr
      rw [hr] at hn
      simp only at hn
      unfold pj_stp at h
      split at h
      · cases h
      · rename_i hv
        simp only at hv
        rw [hv] at hn
        simp only at hn
        split at h
        · cases h
        · rename_i hc
          simp only at hc
          rw [hc] at hn
          simp only at hn
          simp only at h
          rw [h] at hn
          exact hn
theorem pj_xt {k pc : Nat} {r : pj_Row} {L : pj_Loc} {st : List Value} {M : pj_Mem} {o : Option Value × pj_Mem} {x : Option pj_Cfg} (h : pj_row k pc = some r) (hv : pj_rtn k r.1 st = none) (hc : pj_cl r st M.2.2 = none) (hs : pj_step k (pc, L, st, M) = x) : pj_Ends k (pc, L, st, M) o = pj_then k o x := by
  cases x with
  | some g' => exact pj_xs hs
  | none =>
    refine propext ⟨fun ⟨n, hn⟩ => ?_, fun z => z.elim⟩
    cases n with
    | zero => cases hn
    | succ n =>
      unfold pj_exec at hn
      rw [h] at hn
      simp only at hn
      rw [hv] at hn
      simp only at hn
      rw [hc] at hn
      simp only at hn
      rw [pj_step_of h] at hs
      unfold pj_stp at hs
      rw [hv] at hs
      simp only at hs
      rw [hc] at hs
      simp only at hs
      rw [hs] at hn
      cases hn
theorem pj_rtn_i {k : Nat} {v : Int32} (h : pj_rt k = some .int) : pj_rtn k .ireturn [.int v] = some (some (.int v)) := by unfold pj_rtn; simp only [h]; exact if_pos rfl
theorem pj_rtn_z {k : Nat} {v : Int32} (h : pj_rt k = some .boolean) (hv : v = 0 ∨ v = 1) : pj_rtn k .ireturn [.int v] = some (some (.int v)) := by unfold pj_rtn; simp only [h]; rcases hv with rfl | rfl <;> exact if_pos (by decide)
theorem pj_rtn_v {k : Nat} (h : pj_rt k = none) : pj_rtn k .return_ [] = some none := by unfold pj_rtn; simp only [h, if_true]
theorem pj_rtn_a {k a : Nat} {t : FieldType} (h : pj_rt k = some (.array t)) : pj_rtn k .areturn [.ref a] = some (some (.ref a)) := by unfold pj_rtn; simp only [h]
theorem pj_long_i {x : Int32} : pj_long (some (.int x)) = false := rfl
theorem pj_long_r {x : Nat} : pj_long (some (.ref x)) = false := rfl
theorem pj_long_n : pj_long none = false := rfl
theorem pj_st_0 {a0 : Option Value} {l : pj_Loc} {v : Value} : pj_st (a0 :: l) 0 v = some (some v :: l) := rfl
theorem pj_st_1 {a0 a1 : Option Value} {l : pj_Loc} {v : Value} (h : pj_long a0 = false) : pj_st (a0 :: a1 :: l) 1 v = some (a0 :: some v :: l) := by simp [pj_st, h]
theorem pj_st_2 {a0 a1 a2 : Option Value} {l : pj_Loc} {v : Value} (h : pj_long a1 = false) : pj_st (a0 :: a1 :: a2 :: l) 2 v = some (a0 :: a1 :: some v :: l) := by simp [pj_st, h]
theorem pj_st_3 {a0 a1 a2 a3 : Option Value} {l : pj_Loc} {v : Value} (h : pj_long a2 = false) : pj_st (a0 :: a1 :: a2 :: a3 :: l) 3 v = some (a0 :: a1 :: a2 :: some v :: l) := by simp [pj_st, h]
theorem pj_st_4 {a0 a1 a2 a3 a4 : Option Value} {l : pj_Loc} {v : Value} (h : pj_long a3 = false) : pj_st (a0 :: a1 :: a2 :: a3 :: a4 :: l) 4 v = some (a0 :: a1 :: a2 :: a3 :: some v :: l) := by simp [pj_st, h]
theorem pj_st_5 {a0 a1 a2 a3 a4 a5 : Option Value} {l : pj_Loc} {v : Value} (h : pj_long a4 = false) : pj_st (a0 :: a1 :: a2 :: a3 :: a4 :: a5 :: l) 5 v = some (a0 :: a1 :: a2 :: a3 :: a4 :: some v :: l) := by simp [pj_st, h]
theorem pj_st_6 {a0 a1 a2 a3 a4 a5 a6 : Option Value} {l : pj_Loc} {v : Value} (h : pj_long a5 = false) : pj_st (a0 :: a1 :: a2 :: a3 :: a4 :: a5 :: a6 :: l) 6 v = some (a0 :: a1 :: a2 :: a3 :: a4 :: a5 :: some v :: l) := by simp [pj_st, h]
theorem pj_st_7 {a0 a1 a2 a3 a4 a5 a6 a7 : Option Value} {l : pj_Loc} {v : Value} (h : pj_long a6 = false) : pj_st (a0 :: a1 :: a2 :: a3 :: a4 :: a5 :: a6 :: a7 :: l) 7 v = some (a0 :: a1 :: a2 :: a3 :: a4 :: a5 :: a6 :: some v :: l) := by simp [pj_st, h]
theorem pj_st_8 {a0 a1 a2 a3 a4 a5 a6 a7 a8 : Option Value} {l : pj_Loc} {v : Value} (h : pj_long a7 = false) : pj_st (a0 :: a1 :: a2 :: a3 :: a4 :: a5 :: a6 :: a7 :: a8 :: l) 8 v = some (a0 :: a1 :: a2 :: a3 :: a4 :: a5 :: a6 :: a7 :: some v :: l) := by simp [pj_st, h]
theorem pj_st_9 {a0 a1 a2 a3 a4 a5 a6 a7 a8 a9 : Option Value} {l : pj_Loc} {v : Value} (h : pj_long a8 = false) : pj_st (a0 :: a1 :: a2 :: a3 :: a4 :: a5 :: a6 :: a7 :: a8 :: a9 :: l) 9 v = some (a0 :: a1 :: a2 :: a3 :: a4 :: a5 :: a6 :: a7 :: a8 :: some v :: l) := by simp [pj_st, h]
theorem pj_st_10 {a0 a1 a2 a3 a4 a5 a6 a7 a8 a9 a10 : Option Value} {l : pj_Loc} {v : Value} (h : pj_long a9 = false) : pj_st (a0 :: a1 :: a2 :: a3 :: a4 :: a5 :: a6 :: a7 :: a8 :: a9 :: a10 :: l) 10 v = some (a0 :: a1 :: a2 :: a3 :: a4 :: a5 :: a6 :: a7 :: a8 :: a9 :: some v :: l) := by simp [pj_st, h]
theorem pj_st_11 {a0 a1 a2 a3 a4 a5 a6 a7 a8 a9 a10 a11 : Option Value} {l : pj_Loc} {v : Value} (h : pj_long a10 = false) : pj_st (a0 :: a1 :: a2 :: a3 :: a4 :: a5 :: a6 :: a7 :: a8 :: a9 :: a10 :: a11 :: l) 11 v = some (a0 :: a1 :: a2 :: a3 :: a4 :: a5 :: a6 :: a7 :: a8 :: a9 :: a10 :: some v :: l) := by simp [pj_st, h]
theorem pj_st_12 {a0 a1 a2 a3 a4 a5 a6 a7 a8 a9 a10 a11 a12 : Option Value} {l : pj_Loc} {v : Value} (h : pj_long a11 = false) : pj_st (a0 :: a1 :: a2 :: a3 :: a4 :: a5 :: a6 :: a7 :: a8 :: a9 :: a10 :: a11 :: a12 :: l) 12 v = some (a0 :: a1 :: a2 :: a3 :: a4 :: a5 :: a6 :: a7 :: a8 :: a9 :: a10 :: a11 :: some v :: l) := by simp [pj_st, h]
theorem pj_st_13 {a0 a1 a2 a3 a4 a5 a6 a7 a8 a9 a10 a11 a12 a13 : Option Value} {l : pj_Loc} {v : Value} (h : pj_long a12 = false) : pj_st (a0 :: a1 :: a2 :: a3 :: a4 :: a5 :: a6 :: a7 :: a8 :: a9 :: a10 :: a11 :: a12 :: a13 :: l) 13 v = some (a0 :: a1 :: a2 :: a3 :: a4 :: a5 :: a6 :: a7 :: a8 :: a9 :: a10 :: a11 :: a12 :: some v :: l) := by simp [pj_st, h]
theorem pj_stl_0 {a0 a1 : Option Value} {l : pj_Loc} {v : Value} : pj_stl (a0 :: a1 :: l) 0 v = some (some v :: none :: l) := rfl
theorem pj_stl_1 {a0 a1 a2 : Option Value} {l : pj_Loc} {v : Value} (h : pj_long a0 = false) : pj_stl (a0 :: a1 :: a2 :: l) 1 v = some (a0 :: some v :: none :: l) := by simp [pj_stl, h]
theorem pj_stl_2 {a0 a1 a2 a3 : Option Value} {l : pj_Loc} {v : Value} (h : pj_long a1 = false) : pj_stl (a0 :: a1 :: a2 :: a3 :: l) 2 v = some (a0 :: a1 :: some v :: none :: l) := by simp [pj_stl, h]
theorem pj_stl_3 {a0 a1 a2 a3 a4 : Option Value} {l : pj_Loc} {v : Value} (h : pj_long a2 = false) : pj_stl (a0 :: a1 :: a2 :: a3 :: a4 :: l) 3 v = some (a0 :: a1 :: a2 :: some v :: none :: l) := by simp [pj_stl, h]
theorem pj_stl_4 {a0 a1 a2 a3 a4 a5 : Option Value} {l : pj_Loc} {v : Value} (h : pj_long a3 = false) : pj_stl (a0 :: a1 :: a2 :: a3 :: a4 :: a5 :: l) 4 v = some (a0 :: a1 :: a2 :: a3 :: some v :: none :: l) := by simp [pj_stl, h]
theorem pj_stl_5 {a0 a1 a2 a3 a4 a5 a6 : Option Value} {l : pj_Loc} {v : Value} (h : pj_long a4 = false) : pj_stl (a0 :: a1 :: a2 :: a3 :: a4 :: a5 :: a6 :: l) 5 v = some (a0 :: a1 :: a2 :: a3 :: a4 :: some v :: none :: l) := by simp [pj_stl, h]
theorem pj_stl_6 {a0 a1 a2 a3 a4 a5 a6 a7 : Option Value} {l : pj_Loc} {v : Value} (h : pj_long a5 = false) : pj_stl (a0 :: a1 :: a2 :: a3 :: a4 :: a5 :: a6 :: a7 :: l) 6 v = some (a0 :: a1 :: a2 :: a3 :: a4 :: a5 :: some v :: none :: l) := by simp [pj_stl, h]
theorem rt0 : pj_rt 0 = none := rfl
theorem q0_0 : pj_row 0 0 = some (.aload_n 0, 1, 0, 0, 0) := by decide +kernel
theorem s0_0 {st : List Value} {M : pj_Mem} {l : pj_Loc} {x : Nat} : pj_step 0 (0, some (.ref x) :: l, st, M) = some (1, some (.ref x) :: l, .ref x :: st, M) := st_aload_n q0_0 rfl
theorem x0_0 {st : List Value} {M : pj_Mem} {l : pj_Loc} {x : Nat} {o9 : Option Value × pj_Mem} : pj_Ends 0 (0, some (.ref x) :: l, st, M) o9 = pj_Ends 0 (1, some (.ref x) :: l, .ref x :: st, M) o9 := pj_xs (s0_0)
theorem q0_1 : pj_row 0 1 = some (.invokespecial 1, 3, 0, 1, 2) := by decide +kernel
theorem s0_1 {L : pj_Loc} {st : List Value} {M : pj_Mem} {o : Nat} : pj_step 0 (1, L, .ref o :: st, M) = pj_g4 st (some (4, L, st, M)) := st_obj q0_1
theorem x0_1 {L : pj_Loc} {st : List Value} {M : pj_Mem} {o : Nat} {o9 : Option Value × pj_Mem} : pj_Ends 0 (1, L, .ref o :: st, M) o9 = pj_then 0 o9 (pj_g4 st (some (4, L, st, M))) := pj_xt q0_1 rfl rfl (s0_1)
theorem q0_4 : pj_row 0 4 = some (.aload_n 0, 1, 0, 0, 0) := by decide +kernel
theorem s0_4 {st : List Value} {M : pj_Mem} {l : pj_Loc} {x : Nat} : pj_step 0 (4, some (.ref x) :: l, st, M) = some (5, some (.ref x) :: l, .ref x :: st, M) := st_aload_n q0_4 rfl
theorem x0_4 {st : List Value} {M : pj_Mem} {l : pj_Loc} {x : Nat} {o9 : Option Value × pj_Mem} : pj_Ends 0 (4, some (.ref x) :: l, st, M) o9 = pj_Ends 0 (5, some (.ref x) :: l, .ref x :: st, M) o9 := pj_xs (s0_4)
theorem q0_5 : pj_row 0 5 = some (.new 7, 3, 4, 0, 0) := by decide +kernel
theorem s0_5 {L : pj_Loc} {st : List Value} {N S : Nat} {H : pj_Heap}  : pj_step 0 (5, L, st, (N, S, H)) = some (8, L, .ref N :: st, (N + 1, S + 11, pj_up H N (.inl (4, [.null, .null, .null, .null, .null, .null, .null, .int 0, .int 0, .int 0, .int 0])))) := (st_new q0_5).trans rfl
theorem x0_5 {L : pj_Loc} {st : List Value} {N S : Nat} {H : pj_Heap}  {o9 : Option Value × pj_Mem} : pj_Ends 0 (5, L, st, (N, S, H)) o9 = pj_Ends 0 (8, L, .ref N :: st, (N + 1, S + 11, pj_up H N (.inl (4, [.null, .null, .null, .null, .null, .null, .null, .int 0, .int 0, .int 0, .int 0])))) o9 := pj_xs (s0_5)
theorem q0_8 : pj_row 0 8 = some (.dup, 1, 0, 0, 0) := by decide +kernel
theorem s0_8 {L : pj_Loc} {st : List Value} {M : pj_Mem} {x : Nat} : pj_step 0 (8, L, .ref x :: st, M) = some (9, L, .ref x :: .ref x :: st, M) := st_dup_ref q0_8
theorem x0_8 {L : pj_Loc} {st : List Value} {M : pj_Mem} {x : Nat} {o9 : Option Value × pj_Mem} : pj_Ends 0 (8, L, .ref x :: st, M) o9 = pj_Ends 0 (9, L, .ref x :: .ref x :: st, M) o9 := pj_xs (s0_8)
theorem s0_8i {L : pj_Loc} {st : List Value} {M : pj_Mem} {x : Int32} : pj_step 0 (8, L, .int x :: st, M) = some (9, L, .int x :: .int x :: st, M) := st_dup_int q0_8
theorem x0_8i {L : pj_Loc} {st : List Value} {M : pj_Mem} {x : Int32} {o9 : Option Value × pj_Mem} : pj_Ends 0 (8, L, .int x :: st, M) o9 = pj_Ends 0 (9, L, .int x :: .int x :: st, M) o9 := pj_xs (s0_8i)
theorem q0_9 : pj_row 0 9 = some (.invokespecial 9, 3, 1, 1, 0) := by decide +kernel
theorem e0_9 {L : pj_Loc} {st : List Value} {N S : Nat} {H : pj_Heap} {o : Option Value × pj_Mem} {M' : pj_Mem} {x0 : Nat} (h4 : pj_le4 st = true) (h1 : pj_Ends 1 (0, [some (.ref x0), none], [], (N, S, H)) (none, M')) (h2 : pj_Ends 0 (12, L, st, M') o) : pj_Ends 0 (9, L, .ref x0 :: st, (N, S, H)) o := ec_i1 q0_9 (Or.inl rfl) h4 rfl h1 h2
theorem q0_12 : pj_row 0 12 = some (.putfield 10, 3, 5, 0, 0) := by decide +kernel
theorem s0_12 {L : pj_Loc} {st : List Value} {N S : Nat} {H : pj_Heap} {o : Nat} {v : Value} : pj_step 0 (12, L, v :: .ref o :: st, (N, S, H)) = pj_set 15 L st (N, S, H) o (pj_fset (H o) 5 0 v) := st_putfield q0_12
theorem x0_12 {L : pj_Loc} {st : List Value} {N S : Nat} {H : pj_Heap} {o : Nat} {v : Value} {o9 : Option Value × pj_Mem} : pj_Ends 0 (12, L, v :: .ref o :: st, (N, S, H)) o9 = pj_then 0 o9 (pj_set 15 L st (N, S, H) o (pj_fset (H o) 5 0 v)) := pj_xt q0_12 rfl (pj_cl_nc rfl) (s0_12)
theorem q0_15 : pj_row 0 15 = some (.aload_n 0, 1, 0, 0, 0) := by decide +kernel
theorem s0_15 {st : List Value} {M : pj_Mem} {l : pj_Loc} {x : Nat} : pj_step 0 (15, some (.ref x) :: l, st, M) = some (16, some (.ref x) :: l, .ref x :: st, M) := st_aload_n q0_15 rfl
theorem x0_15 {st : List Value} {M : pj_Mem} {l : pj_Loc} {x : Nat} {o9 : Option Value × pj_Mem} : pj_Ends 0 (15, some (.ref x) :: l, st, M) o9 = pj_Ends 0 (16, some (.ref x) :: l, .ref x :: st, M) o9 := pj_xs (s0_15)
theorem q0_16 : pj_row 0 16 = some (.new 7, 3, 4, 0, 0) := by decide +kernel
theorem s0_16 {L : pj_Loc} {st : List Value} {N S : Nat} {H : pj_Heap}  : pj_step 0 (16, L, st, (N, S, H)) = some (19, L, .ref N :: st, (N + 1, S + 11, pj_up H N (.inl (4, [.null, .null, .null, .null, .null, .null, .null, .int 0, .int 0, .int 0, .int 0])))) := (st_new q0_16).trans rfl
theorem x0_16 {L : pj_Loc} {st : List Value} {N S : Nat} {H : pj_Heap}  {o9 : Option Value × pj_Mem} : pj_Ends 0 (16, L, st, (N, S, H)) o9 = pj_Ends 0 (19, L, .ref N :: st, (N + 1, S + 11, pj_up H N (.inl (4, [.null, .null, .null, .null, .null, .null, .null, .int 0, .int 0, .int 0, .int 0])))) o9 := pj_xs (s0_16)
theorem q0_19 : pj_row 0 19 = some (.dup, 1, 0, 0, 0) := by decide +kernel
theorem s0_19 {L : pj_Loc} {st : List Value} {M : pj_Mem} {x : Nat} : pj_step 0 (19, L, .ref x :: st, M) = some (20, L, .ref x :: .ref x :: st, M) := st_dup_ref q0_19
theorem x0_19 {L : pj_Loc} {st : List Value} {M : pj_Mem} {x : Nat} {o9 : Option Value × pj_Mem} : pj_Ends 0 (19, L, .ref x :: st, M) o9 = pj_Ends 0 (20, L, .ref x :: .ref x :: st, M) o9 := pj_xs (s0_19)
theorem s0_19i {L : pj_Loc} {st : List Value} {M : pj_Mem} {x : Int32} : pj_step 0 (19, L, .int x :: st, M) = some (20, L, .int x :: .int x :: st, M) := st_dup_int q0_19
theorem x0_19i {L : pj_Loc} {st : List Value} {M : pj_Mem} {x : Int32} {o9 : Option Value × pj_Mem} : pj_Ends 0 (19, L, .int x :: st, M) o9 = pj_Ends 0 (20, L, .int x :: .int x :: st, M) o9 := pj_xs (s0_19i)
theorem q0_20 : pj_row 0 20 = some (.invokespecial 9, 3, 1, 1, 0) := by decide +kernel
theorem e0_20 {L : pj_Loc} {st : List Value} {N S : Nat} {H : pj_Heap} {o : Option Value × pj_Mem} {M' : pj_Mem} {x0 : Nat} (h4 : pj_le4 st = true) (h1 : pj_Ends 1 (0, [some (.ref x0), none], [], (N, S, H)) (none, M')) (h2 : pj_Ends 0 (23, L, st, M') o) : pj_Ends 0 (20, L, .ref x0 :: st, (N, S, H)) o := ec_i1 q0_20 (Or.inl rfl) h4 rfl h1 h2
theorem q0_23 : pj_row 0 23 = some (.putfield 16, 3, 5, 1, 0) := by decide +kernel
theorem s0_23 {L : pj_Loc} {st : List Value} {N S : Nat} {H : pj_Heap} {o : Nat} {v : Value} : pj_step 0 (23, L, v :: .ref o :: st, (N, S, H)) = pj_set 26 L st (N, S, H) o (pj_fset (H o) 5 1 v) := st_putfield q0_23
theorem x0_23 {L : pj_Loc} {st : List Value} {N S : Nat} {H : pj_Heap} {o : Nat} {v : Value} {o9 : Option Value × pj_Mem} : pj_Ends 0 (23, L, v :: .ref o :: st, (N, S, H)) o9 = pj_then 0 o9 (pj_set 26 L st (N, S, H) o (pj_fset (H o) 5 1 v)) := pj_xt q0_23 rfl (pj_cl_nc rfl) (s0_23)
theorem q0_26 : pj_row 0 26 = some (.aload_n 0, 1, 0, 0, 0) := by decide +kernel
theorem s0_26 {st : List Value} {M : pj_Mem} {l : pj_Loc} {x : Nat} : pj_step 0 (26, some (.ref x) :: l, st, M) = some (27, some (.ref x) :: l, .ref x :: st, M) := st_aload_n q0_26 rfl
theorem x0_26 {st : List Value} {M : pj_Mem} {l : pj_Loc} {x : Nat} {o9 : Option Value × pj_Mem} : pj_Ends 0 (26, some (.ref x) :: l, st, M) o9 = pj_Ends 0 (27, some (.ref x) :: l, .ref x :: st, M) o9 := pj_xs (s0_26)
theorem q0_27 : pj_row 0 27 = some (.new 19, 3, 3, 0, 0) := by decide +kernel
theorem s0_27 {L : pj_Loc} {st : List Value} {N S : Nat} {H : pj_Heap}  : pj_step 0 (27, L, st, (N, S, H)) = some (30, L, .ref N :: st, (N + 1, S + 14, pj_up H N (.inl (3, [.null, .null, .null, .null, .null, .null, .int 0, .int 0, .int 0, .int 0, .int 0, .int 0, .int 0, .int 0])))) := (st_new q0_27).trans rfl
theorem x0_27 {L : pj_Loc} {st : List Value} {N S : Nat} {H : pj_Heap}  {o9 : Option Value × pj_Mem} : pj_Ends 0 (27, L, st, (N, S, H)) o9 = pj_Ends 0 (30, L, .ref N :: st, (N + 1, S + 14, pj_up H N (.inl (3, [.null, .null, .null, .null, .null, .null, .int 0, .int 0, .int 0, .int 0, .int 0, .int 0, .int 0, .int 0])))) o9 := pj_xs (s0_27)
theorem q0_30 : pj_row 0 30 = some (.dup, 1, 0, 0, 0) := by decide +kernel
theorem s0_30 {L : pj_Loc} {st : List Value} {M : pj_Mem} {x : Nat} : pj_step 0 (30, L, .ref x :: st, M) = some (31, L, .ref x :: .ref x :: st, M) := st_dup_ref q0_30
theorem x0_30 {L : pj_Loc} {st : List Value} {M : pj_Mem} {x : Nat} {o9 : Option Value × pj_Mem} : pj_Ends 0 (30, L, .ref x :: st, M) o9 = pj_Ends 0 (31, L, .ref x :: .ref x :: st, M) o9 := pj_xs (s0_30)
theorem s0_30i {L : pj_Loc} {st : List Value} {M : pj_Mem} {x : Int32} : pj_step 0 (30, L, .int x :: st, M) = some (31, L, .int x :: .int x :: st, M) := st_dup_int q0_30
theorem x0_30i {L : pj_Loc} {st : List Value} {M : pj_Mem} {x : Int32} {o9 : Option Value × pj_Mem} : pj_Ends 0 (30, L, .int x :: st, M) o9 = pj_Ends 0 (31, L, .int x :: .int x :: st, M) o9 := pj_xs (s0_30i)
theorem q0_31 : pj_row 0 31 = some (.invokespecial 21, 3, 3, 1, 1) := by decide +kernel
theorem e0_31 {L : pj_Loc} {st : List Value} {N S : Nat} {H : pj_Heap} {o : Option Value × pj_Mem} {M' : pj_Mem} {x0 : Nat} (h4 : pj_le4 st = true) (h1 : pj_Ends 3 (0, [some (.ref x0)], [], (N, S, H)) (none, M')) (h2 : pj_Ends 0 (34, L, st, M') o) : pj_Ends 0 (31, L, .ref x0 :: st, (N, S, H)) o := ec_i1 q0_31 (Or.inr rfl) h4 rfl h1 h2
theorem q0_34 : pj_row 0 34 = some (.putfield 22, 3, 5, 2, 0) := by decide +kernel
theorem s0_34 {L : pj_Loc} {st : List Value} {N S : Nat} {H : pj_Heap} {o : Nat} {v : Value} : pj_step 0 (34, L, v :: .ref o :: st, (N, S, H)) = pj_set 37 L st (N, S, H) o (pj_fset (H o) 5 2 v) := st_putfield q0_34
theorem x0_34 {L : pj_Loc} {st : List Value} {N S : Nat} {H : pj_Heap} {o : Nat} {v : Value} {o9 : Option Value × pj_Mem} : pj_Ends 0 (34, L, v :: .ref o :: st, (N, S, H)) o9 = pj_then 0 o9 (pj_set 37 L st (N, S, H) o (pj_fset (H o) 5 2 v)) := pj_xt q0_34 rfl (pj_cl_nc rfl) (s0_34)
theorem q0_37 : pj_row 0 37 = some (.aload_n 0, 1, 0, 0, 0) := by decide +kernel
theorem s0_37 {st : List Value} {M : pj_Mem} {l : pj_Loc} {x : Nat} : pj_step 0 (37, some (.ref x) :: l, st, M) = some (38, some (.ref x) :: l, .ref x :: st, M) := st_aload_n q0_37 rfl
theorem x0_37 {st : List Value} {M : pj_Mem} {l : pj_Loc} {x : Nat} {o9 : Option Value × pj_Mem} : pj_Ends 0 (37, some (.ref x) :: l, st, M) o9 = pj_Ends 0 (38, some (.ref x) :: l, .ref x :: st, M) o9 := pj_xs (s0_37)
theorem q0_38 : pj_row 0 38 = some (.new 26, 3, 0, 0, 0) := by decide +kernel
theorem s0_38 {L : pj_Loc} {st : List Value} {N S : Nat} {H : pj_Heap}  : pj_step 0 (38, L, st, (N, S, H)) = some (41, L, .ref N :: st, (N + 1, S + 3, pj_up H N (.inl (0, [.null, .null, .int 0])))) := (st_new q0_38).trans rfl
theorem x0_38 {L : pj_Loc} {st : List Value} {N S : Nat} {H : pj_Heap}  {o9 : Option Value × pj_Mem} : pj_Ends 0 (38, L, st, (N, S, H)) o9 = pj_Ends 0 (41, L, .ref N :: st, (N + 1, S + 3, pj_up H N (.inl (0, [.null, .null, .int 0])))) o9 := pj_xs (s0_38)
theorem q0_41 : pj_row 0 41 = some (.dup, 1, 0, 0, 0) := by decide +kernel
theorem s0_41 {L : pj_Loc} {st : List Value} {M : pj_Mem} {x : Nat} : pj_step 0 (41, L, .ref x :: st, M) = some (42, L, .ref x :: .ref x :: st, M) := st_dup_ref q0_41
theorem x0_41 {L : pj_Loc} {st : List Value} {M : pj_Mem} {x : Nat} {o9 : Option Value × pj_Mem} : pj_Ends 0 (41, L, .ref x :: st, M) o9 = pj_Ends 0 (42, L, .ref x :: .ref x :: st, M) o9 := pj_xs (s0_41)
theorem s0_41i {L : pj_Loc} {st : List Value} {M : pj_Mem} {x : Int32} : pj_step 0 (41, L, .int x :: st, M) = some (42, L, .int x :: .int x :: st, M) := st_dup_int q0_41
theorem x0_41i {L : pj_Loc} {st : List Value} {M : pj_Mem} {x : Int32} {o9 : Option Value × pj_Mem} : pj_Ends 0 (41, L, .int x :: st, M) o9 = pj_Ends 0 (42, L, .int x :: .int x :: st, M) o9 := pj_xs (s0_41i)
theorem q0_42 : pj_row 0 42 = some (.invokespecial 28, 3, 4, 1, 1) := by decide +kernel
theorem e0_42 {L : pj_Loc} {st : List Value} {N S : Nat} {H : pj_Heap} {o : Option Value × pj_Mem} {M' : pj_Mem} {x0 : Nat} (h4 : pj_le4 st = true) (h1 : pj_Ends 4 (0, [some (.ref x0)], [], (N, S, H)) (none, M')) (h2 : pj_Ends 0 (45, L, st, M') o) : pj_Ends 0 (42, L, .ref x0 :: st, (N, S, H)) o := ec_i1 q0_42 (Or.inr rfl) h4 rfl h1 h2
theorem q0_45 : pj_row 0 45 = some (.putfield 29, 3, 5, 3, 0) := by decide +kernel
theorem s0_45 {L : pj_Loc} {st : List Value} {N S : Nat} {H : pj_Heap} {o : Nat} {v : Value} : pj_step 0 (45, L, v :: .ref o :: st, (N, S, H)) = pj_set 48 L st (N, S, H) o (pj_fset (H o) 5 3 v) := st_putfield q0_45
theorem x0_45 {L : pj_Loc} {st : List Value} {N S : Nat} {H : pj_Heap} {o : Nat} {v : Value} {o9 : Option Value × pj_Mem} : pj_Ends 0 (45, L, v :: .ref o :: st, (N, S, H)) o9 = pj_then 0 o9 (pj_set 48 L st (N, S, H) o (pj_fset (H o) 5 3 v)) := pj_xt q0_45 rfl (pj_cl_nc rfl) (s0_45)
theorem q0_48 : pj_row 0 48 = some (.aload_n 0, 1, 0, 0, 0) := by decide +kernel
theorem s0_48 {st : List Value} {M : pj_Mem} {l : pj_Loc} {x : Nat} : pj_step 0 (48, some (.ref x) :: l, st, M) = some (49, some (.ref x) :: l, .ref x :: st, M) := st_aload_n q0_48 rfl
theorem x0_48 {st : List Value} {M : pj_Mem} {l : pj_Loc} {x : Nat} {o9 : Option Value × pj_Mem} : pj_Ends 0 (48, some (.ref x) :: l, st, M) o9 = pj_Ends 0 (49, some (.ref x) :: l, .ref x :: st, M) o9 := pj_xs (s0_48)
theorem q0_49 : pj_row 0 49 = some (.bipush 6, 2, 0, 0, 0) := by decide +kernel
theorem s0_49 {L : pj_Loc} {st : List Value} {M : pj_Mem}  : pj_step 0 (49, L, st, M) = some (51, L, .int 6 :: st, M) := st_bipush q0_49 (by decide +kernel)
theorem x0_49 {L : pj_Loc} {st : List Value} {M : pj_Mem}  {o9 : Option Value × pj_Mem} : pj_Ends 0 (49, L, st, M) o9 = pj_Ends 0 (51, L, .int 6 :: st, M) o9 := pj_xs (s0_49)
theorem q0_51 : pj_row 0 51 = some (.invokestatic 33, 3, 6, 1, 0) := by decide +kernel
theorem e0_51 {L : pj_Loc} {st : List Value} {N S : Nat} {H : pj_Heap} {o : Option Value × pj_Mem} {M' : pj_Mem} {x0 : Int32} {r : Nat} (h4 : pj_le4 st = true) (h1 : pj_Ends 6 (0, [some (.int x0), none, none], [], (N, S, H)) (some (.ref r), M')) (h2 : pj_Ends 0 (54, L, .ref r :: st, M') o) : pj_Ends 0 (51, L, .int x0 :: st, (N, S, H)) o := ec_s1 q0_51 (Or.inl rfl) h4 rfl h1 h2
theorem q0_54 : pj_row 0 54 = some (.putfield 37, 3, 5, 4, 0) := by decide +kernel
theorem s0_54 {L : pj_Loc} {st : List Value} {N S : Nat} {H : pj_Heap} {o : Nat} {v : Value} : pj_step 0 (54, L, v :: .ref o :: st, (N, S, H)) = pj_set 57 L st (N, S, H) o (pj_fset (H o) 5 4 v) := st_putfield q0_54
theorem x0_54 {L : pj_Loc} {st : List Value} {N S : Nat} {H : pj_Heap} {o : Nat} {v : Value} {o9 : Option Value × pj_Mem} : pj_Ends 0 (54, L, v :: .ref o :: st, (N, S, H)) o9 = pj_then 0 o9 (pj_set 57 L st (N, S, H) o (pj_fset (H o) 5 4 v)) := pj_xt q0_54 rfl (pj_cl_nc rfl) (s0_54)
theorem q0_57 : pj_row 0 57 = some (.aload_n 0, 1, 0, 0, 0) := by decide +kernel
theorem s0_57 {st : List Value} {M : pj_Mem} {l : pj_Loc} {x : Nat} : pj_step 0 (57, some (.ref x) :: l, st, M) = some (58, some (.ref x) :: l, .ref x :: st, M) := st_aload_n q0_57 rfl
theorem x0_57 {st : List Value} {M : pj_Mem} {l : pj_Loc} {x : Nat} {o9 : Option Value × pj_Mem} : pj_Ends 0 (57, some (.ref x) :: l, st, M) o9 = pj_Ends 0 (58, some (.ref x) :: l, .ref x :: st, M) o9 := pj_xs (s0_57)
theorem q0_58 : pj_row 0 58 = some (.iconst 2, 1, 0, 0, 0) := by decide +kernel
theorem s0_58 {L : pj_Loc} {st : List Value} {M : pj_Mem}  : pj_step 0 (58, L, st, M) = some (59, L, .int 2 :: st, M) := st_iconst q0_58 (by decide +kernel)
theorem x0_58 {L : pj_Loc} {st : List Value} {M : pj_Mem}  {o9 : Option Value × pj_Mem} : pj_Ends 0 (58, L, st, M) o9 = pj_Ends 0 (59, L, .int 2 :: st, M) o9 := pj_xs (s0_58)
theorem q0_59 : pj_row 0 59 = some (.invokestatic 33, 3, 6, 1, 0) := by decide +kernel
theorem e0_59 {L : pj_Loc} {st : List Value} {N S : Nat} {H : pj_Heap} {o : Option Value × pj_Mem} {M' : pj_Mem} {x0 : Int32} {r : Nat} (h4 : pj_le4 st = true) (h1 : pj_Ends 6 (0, [some (.int x0), none, none], [], (N, S, H)) (some (.ref r), M')) (h2 : pj_Ends 0 (62, L, .ref r :: st, M') o) : pj_Ends 0 (59, L, .int x0 :: st, (N, S, H)) o := ec_s1 q0_59 (Or.inl rfl) h4 rfl h1 h2
theorem q0_62 : pj_row 0 62 = some (.putfield 41, 3, 5, 6, 0) := by decide +kernel
theorem s0_62 {L : pj_Loc} {st : List Value} {N S : Nat} {H : pj_Heap} {o : Nat} {v : Value} : pj_step 0 (62, L, v :: .ref o :: st, (N, S, H)) = pj_set 65 L st (N, S, H) o (pj_fset (H o) 5 6 v) := st_putfield q0_62
theorem x0_62 {L : pj_Loc} {st : List Value} {N S : Nat} {H : pj_Heap} {o : Nat} {v : Value} {o9 : Option Value × pj_Mem} : pj_Ends 0 (62, L, v :: .ref o :: st, (N, S, H)) o9 = pj_then 0 o9 (pj_set 65 L st (N, S, H) o (pj_fset (H o) 5 6 v)) := pj_xt q0_62 rfl (pj_cl_nc rfl) (s0_62)
theorem q0_65 : pj_row 0 65 = some (.aload_n 0, 1, 0, 0, 0) := by decide +kernel
theorem s0_65 {st : List Value} {M : pj_Mem} {l : pj_Loc} {x : Nat} : pj_step 0 (65, some (.ref x) :: l, st, M) = some (66, some (.ref x) :: l, .ref x :: st, M) := st_aload_n q0_65 rfl
theorem x0_65 {st : List Value} {M : pj_Mem} {l : pj_Loc} {x : Nat} {o9 : Option Value × pj_Mem} : pj_Ends 0 (65, some (.ref x) :: l, st, M) o9 = pj_Ends 0 (66, some (.ref x) :: l, .ref x :: st, M) o9 := pj_xs (s0_65)
theorem q0_66 : pj_row 0 66 = some (.iconst 2, 1, 0, 0, 0) := by decide +kernel
theorem s0_66 {L : pj_Loc} {st : List Value} {M : pj_Mem}  : pj_step 0 (66, L, st, M) = some (67, L, .int 2 :: st, M) := st_iconst q0_66 (by decide +kernel)
theorem x0_66 {L : pj_Loc} {st : List Value} {M : pj_Mem}  {o9 : Option Value × pj_Mem} : pj_Ends 0 (66, L, st, M) o9 = pj_Ends 0 (67, L, .int 2 :: st, M) o9 := pj_xs (s0_66)
theorem q0_67 : pj_row 0 67 = some (.newarray .boolean, 2, 2, 0, 0) := by decide +kernel
theorem s0_67 {L : pj_Loc} {st : List Value} {N S : Nat} {H : pj_Heap} {x : Int32} {n' : Nat} (hn : ¬ x < 0) (he : x.toNatClampNeg = n') (hb : n' ≤ 100000) : pj_step 0 (67, L, .int x :: st, (N, S, H)) = some (69, L, .ref N :: st, (N + 1, S + n', pj_up H N (.inr (2, n', .inl (fun _ => 0))))) := (st_newarray q0_67 hn he hb).trans rfl
theorem x0_67 {L : pj_Loc} {st : List Value} {N S : Nat} {H : pj_Heap} {x : Int32} {n' : Nat} (hn : ¬ x < 0) (he : x.toNatClampNeg = n') (hb : n' ≤ 100000) {o9 : Option Value × pj_Mem} : pj_Ends 0 (67, L, .int x :: st, (N, S, H)) o9 = pj_Ends 0 (69, L, .ref N :: st, (N + 1, S + n', pj_up H N (.inr (2, n', .inl (fun _ => 0))))) o9 := pj_xs (s0_67 hn he hb)
theorem q0_69 : pj_row 0 69 = some (.putfield 44, 3, 5, 7, 0) := by decide +kernel
theorem s0_69 {L : pj_Loc} {st : List Value} {N S : Nat} {H : pj_Heap} {o : Nat} {v : Value} : pj_step 0 (69, L, v :: .ref o :: st, (N, S, H)) = pj_set 72 L st (N, S, H) o (pj_fset (H o) 5 7 v) := st_putfield q0_69
theorem x0_69 {L : pj_Loc} {st : List Value} {N S : Nat} {H : pj_Heap} {o : Nat} {v : Value} {o9 : Option Value × pj_Mem} : pj_Ends 0 (69, L, v :: .ref o :: st, (N, S, H)) o9 = pj_then 0 o9 (pj_set 72 L st (N, S, H) o (pj_fset (H o) 5 7 v)) := pj_xt q0_69 rfl (pj_cl_nc rfl) (s0_69)
theorem q0_72 : pj_row 0 72 = some (.return_, 1, 0, 0, 0) := by decide +kernel
theorem t0_72 {L : pj_Loc} {M : pj_Mem} : pj_Ends 0 (72, L, [], M) (none, M) := pj_Ends.ret q0_72 (pj_rtn_v rt0)
theorem rt1 : pj_rt 1 = none := rfl
theorem q1_0 : pj_row 1 0 = some (.aload_n 0, 1, 0, 0, 0) := by decide +kernel
theorem s1_0 {st : List Value} {M : pj_Mem} {l : pj_Loc} {x : Nat} : pj_step 1 (0, some (.ref x) :: l, st, M) = some (1, some (.ref x) :: l, .ref x :: st, M) := st_aload_n q1_0 rfl
theorem x1_0 {st : List Value} {M : pj_Mem} {l : pj_Loc} {x : Nat} {o9 : Option Value × pj_Mem} : pj_Ends 1 (0, some (.ref x) :: l, st, M) o9 = pj_Ends 1 (1, some (.ref x) :: l, .ref x :: st, M) o9 := pj_xs (s1_0)
theorem q1_1 : pj_row 1 1 = some (.invokespecial 3, 3, 0, 1, 2) := by decide +kernel
theorem s1_1 {L : pj_Loc} {st : List Value} {M : pj_Mem} {o : Nat} : pj_step 1 (1, L, .ref o :: st, M) = pj_g4 st (some (4, L, st, M)) := st_obj q1_1
theorem x1_1 {L : pj_Loc} {st : List Value} {M : pj_Mem} {o : Nat} {o9 : Option Value × pj_Mem} : pj_Ends 1 (1, L, .ref o :: st, M) o9 = pj_then 1 o9 (pj_g4 st (some (4, L, st, M))) := pj_xt q1_1 rfl rfl (s1_1)
theorem q1_4 : pj_row 1 4 = some (.aload_n 0, 1, 0, 0, 0) := by decide +kernel
theorem s1_4 {st : List Value} {M : pj_Mem} {l : pj_Loc} {x : Nat} : pj_step 1 (4, some (.ref x) :: l, st, M) = some (5, some (.ref x) :: l, .ref x :: st, M) := st_aload_n q1_4 rfl
theorem x1_4 {st : List Value} {M : pj_Mem} {l : pj_Loc} {x : Nat} {o9 : Option Value × pj_Mem} : pj_Ends 1 (4, some (.ref x) :: l, st, M) o9 = pj_Ends 1 (5, some (.ref x) :: l, .ref x :: st, M) o9 := pj_xs (s1_4)
theorem q1_5 : pj_row 1 5 = some (.bipush 6, 2, 0, 0, 0) := by decide +kernel
theorem s1_5 {L : pj_Loc} {st : List Value} {M : pj_Mem}  : pj_step 1 (5, L, st, M) = some (7, L, .int 6 :: st, M) := st_bipush q1_5 (by decide +kernel)
theorem x1_5 {L : pj_Loc} {st : List Value} {M : pj_Mem}  {o9 : Option Value × pj_Mem} : pj_Ends 1 (5, L, st, M) o9 = pj_Ends 1 (7, L, .int 6 :: st, M) o9 := pj_xs (s1_5)
theorem q1_7 : pj_row 1 7 = some (.newarray .int, 2, 0, 0, 0) := by decide +kernel
theorem s1_7 {L : pj_Loc} {st : List Value} {N S : Nat} {H : pj_Heap} {x : Int32} {n' : Nat} (hn : ¬ x < 0) (he : x.toNatClampNeg = n') (hb : n' ≤ 100000) : pj_step 1 (7, L, .int x :: st, (N, S, H)) = some (9, L, .ref N :: st, (N + 1, S + n', pj_up H N (.inr (0, n', .inl (fun _ => 0))))) := (st_newarray q1_7 hn he hb).trans rfl
theorem x1_7 {L : pj_Loc} {st : List Value} {N S : Nat} {H : pj_Heap} {x : Int32} {n' : Nat} (hn : ¬ x < 0) (he : x.toNatClampNeg = n') (hb : n' ≤ 100000) {o9 : Option Value × pj_Mem} : pj_Ends 1 (7, L, .int x :: st, (N, S, H)) o9 = pj_Ends 1 (9, L, .ref N :: st, (N + 1, S + n', pj_up H N (.inr (0, n', .inl (fun _ => 0))))) o9 := pj_xs (s1_7 hn he hb)
theorem q1_9 : pj_row 1 9 = some (.putfield 9, 3, 4, 0, 0) := by decide +kernel
theorem s1_9 {L : pj_Loc} {st : List Value} {N S : Nat} {H : pj_Heap} {o : Nat} {v : Value} : pj_step 1 (9, L, v :: .ref o :: st, (N, S, H)) = pj_set 12 L st (N, S, H) o (pj_fset (H o) 4 0 v) := st_putfield q1_9
theorem x1_9 {L : pj_Loc} {st : List Value} {N S : Nat} {H : pj_Heap} {o : Nat} {v : Value} {o9 : Option Value × pj_Mem} : pj_Ends 1 (9, L, v :: .ref o :: st, (N, S, H)) o9 = pj_then 1 o9 (pj_set 12 L st (N, S, H) o (pj_fset (H o) 4 0 v)) := pj_xt q1_9 rfl (pj_cl_nc rfl) (s1_9)
theorem q1_12 : pj_row 1 12 = some (.aload_n 0, 1, 0, 0, 0) := by decide +kernel
theorem s1_12 {st : List Value} {M : pj_Mem} {l : pj_Loc} {x : Nat} : pj_step 1 (12, some (.ref x) :: l, st, M) = some (13, some (.ref x) :: l, .ref x :: st, M) := st_aload_n q1_12 rfl
theorem x1_12 {st : List Value} {M : pj_Mem} {l : pj_Loc} {x : Nat} {o9 : Option Value × pj_Mem} : pj_Ends 1 (12, some (.ref x) :: l, st, M) o9 = pj_Ends 1 (13, some (.ref x) :: l, .ref x :: st, M) o9 := pj_xs (s1_12)
theorem q1_13 : pj_row 1 13 = some (.iconst 3, 1, 0, 0, 0) := by decide +kernel
theorem s1_13 {L : pj_Loc} {st : List Value} {M : pj_Mem}  : pj_step 1 (13, L, st, M) = some (14, L, .int 3 :: st, M) := st_iconst q1_13 (by decide +kernel)
theorem x1_13 {L : pj_Loc} {st : List Value} {M : pj_Mem}  {o9 : Option Value × pj_Mem} : pj_Ends 1 (13, L, st, M) o9 = pj_Ends 1 (14, L, .int 3 :: st, M) o9 := pj_xs (s1_13)
theorem q1_14 : pj_row 1 14 = some (.newarray .int, 2, 0, 0, 0) := by decide +kernel
theorem s1_14 {L : pj_Loc} {st : List Value} {N S : Nat} {H : pj_Heap} {x : Int32} {n' : Nat} (hn : ¬ x < 0) (he : x.toNatClampNeg = n') (hb : n' ≤ 100000) : pj_step 1 (14, L, .int x :: st, (N, S, H)) = some (16, L, .ref N :: st, (N + 1, S + n', pj_up H N (.inr (0, n', .inl (fun _ => 0))))) := (st_newarray q1_14 hn he hb).trans rfl
theorem x1_14 {L : pj_Loc} {st : List Value} {N S : Nat} {H : pj_Heap} {x : Int32} {n' : Nat} (hn : ¬ x < 0) (he : x.toNatClampNeg = n') (hb : n' ≤ 100000) {o9 : Option Value × pj_Mem} : pj_Ends 1 (14, L, .int x :: st, (N, S, H)) o9 = pj_Ends 1 (16, L, .ref N :: st, (N + 1, S + n', pj_up H N (.inr (0, n', .inl (fun _ => 0))))) o9 := pj_xs (s1_14 hn he hb)
theorem q1_16 : pj_row 1 16 = some (.putfield 15, 3, 4, 1, 0) := by decide +kernel
theorem s1_16 {L : pj_Loc} {st : List Value} {N S : Nat} {H : pj_Heap} {o : Nat} {v : Value} : pj_step 1 (16, L, v :: .ref o :: st, (N, S, H)) = pj_set 19 L st (N, S, H) o (pj_fset (H o) 4 1 v) := st_putfield q1_16
theorem x1_16 {L : pj_Loc} {st : List Value} {N S : Nat} {H : pj_Heap} {o : Nat} {v : Value} {o9 : Option Value × pj_Mem} : pj_Ends 1 (16, L, v :: .ref o :: st, (N, S, H)) o9 = pj_then 1 o9 (pj_set 19 L st (N, S, H) o (pj_fset (H o) 4 1 v)) := pj_xt q1_16 rfl (pj_cl_nc rfl) (s1_16)
theorem q1_19 : pj_row 1 19 = some (.aload_n 0, 1, 0, 0, 0) := by decide +kernel
theorem s1_19 {st : List Value} {M : pj_Mem} {l : pj_Loc} {x : Nat} : pj_step 1 (19, some (.ref x) :: l, st, M) = some (20, some (.ref x) :: l, .ref x :: st, M) := st_aload_n q1_19 rfl
theorem x1_19 {st : List Value} {M : pj_Mem} {l : pj_Loc} {x : Nat} {o9 : Option Value × pj_Mem} : pj_Ends 1 (19, some (.ref x) :: l, st, M) o9 = pj_Ends 1 (20, some (.ref x) :: l, .ref x :: st, M) o9 := pj_xs (s1_19)
theorem q1_20 : pj_row 1 20 = some (.iconst 3, 1, 0, 0, 0) := by decide +kernel
theorem s1_20 {L : pj_Loc} {st : List Value} {M : pj_Mem}  : pj_step 1 (20, L, st, M) = some (21, L, .int 3 :: st, M) := st_iconst q1_20 (by decide +kernel)
theorem x1_20 {L : pj_Loc} {st : List Value} {M : pj_Mem}  {o9 : Option Value × pj_Mem} : pj_Ends 1 (20, L, st, M) o9 = pj_Ends 1 (21, L, .int 3 :: st, M) o9 := pj_xs (s1_20)
theorem q1_21 : pj_row 1 21 = some (.newarray .int, 2, 0, 0, 0) := by decide +kernel
theorem s1_21 {L : pj_Loc} {st : List Value} {N S : Nat} {H : pj_Heap} {x : Int32} {n' : Nat} (hn : ¬ x < 0) (he : x.toNatClampNeg = n') (hb : n' ≤ 100000) : pj_step 1 (21, L, .int x :: st, (N, S, H)) = some (23, L, .ref N :: st, (N + 1, S + n', pj_up H N (.inr (0, n', .inl (fun _ => 0))))) := (st_newarray q1_21 hn he hb).trans rfl
theorem x1_21 {L : pj_Loc} {st : List Value} {N S : Nat} {H : pj_Heap} {x : Int32} {n' : Nat} (hn : ¬ x < 0) (he : x.toNatClampNeg = n') (hb : n' ≤ 100000) {o9 : Option Value × pj_Mem} : pj_Ends 1 (21, L, .int x :: st, (N, S, H)) o9 = pj_Ends 1 (23, L, .ref N :: st, (N + 1, S + n', pj_up H N (.inr (0, n', .inl (fun _ => 0))))) o9 := pj_xs (s1_21 hn he hb)
theorem q1_23 : pj_row 1 23 = some (.putfield 18, 3, 4, 2, 0) := by decide +kernel
theorem s1_23 {L : pj_Loc} {st : List Value} {N S : Nat} {H : pj_Heap} {o : Nat} {v : Value} : pj_step 1 (23, L, v :: .ref o :: st, (N, S, H)) = pj_set 26 L st (N, S, H) o (pj_fset (H o) 4 2 v) := st_putfield q1_23
theorem x1_23 {L : pj_Loc} {st : List Value} {N S : Nat} {H : pj_Heap} {o : Nat} {v : Value} {o9 : Option Value × pj_Mem} : pj_Ends 1 (23, L, v :: .ref o :: st, (N, S, H)) o9 = pj_then 1 o9 (pj_set 26 L st (N, S, H) o (pj_fset (H o) 4 2 v)) := pj_xt q1_23 rfl (pj_cl_nc rfl) (s1_23)
theorem q1_26 : pj_row 1 26 = some (.aload_n 0, 1, 0, 0, 0) := by decide +kernel
theorem s1_26 {st : List Value} {M : pj_Mem} {l : pj_Loc} {x : Nat} : pj_step 1 (26, some (.ref x) :: l, st, M) = some (27, some (.ref x) :: l, .ref x :: st, M) := st_aload_n q1_26 rfl
theorem x1_26 {st : List Value} {M : pj_Mem} {l : pj_Loc} {x : Nat} {o9 : Option Value × pj_Mem} : pj_Ends 1 (26, some (.ref x) :: l, st, M) o9 = pj_Ends 1 (27, some (.ref x) :: l, .ref x :: st, M) o9 := pj_xs (s1_26)
theorem q1_27 : pj_row 1 27 = some (.iconst 3, 1, 0, 0, 0) := by decide +kernel
theorem s1_27 {L : pj_Loc} {st : List Value} {M : pj_Mem}  : pj_step 1 (27, L, st, M) = some (28, L, .int 3 :: st, M) := st_iconst q1_27 (by decide +kernel)
theorem x1_27 {L : pj_Loc} {st : List Value} {M : pj_Mem}  {o9 : Option Value × pj_Mem} : pj_Ends 1 (27, L, st, M) o9 = pj_Ends 1 (28, L, .int 3 :: st, M) o9 := pj_xs (s1_27)
theorem q1_28 : pj_row 1 28 = some (.newarray .int, 2, 0, 0, 0) := by decide +kernel
theorem s1_28 {L : pj_Loc} {st : List Value} {N S : Nat} {H : pj_Heap} {x : Int32} {n' : Nat} (hn : ¬ x < 0) (he : x.toNatClampNeg = n') (hb : n' ≤ 100000) : pj_step 1 (28, L, .int x :: st, (N, S, H)) = some (30, L, .ref N :: st, (N + 1, S + n', pj_up H N (.inr (0, n', .inl (fun _ => 0))))) := (st_newarray q1_28 hn he hb).trans rfl
theorem x1_28 {L : pj_Loc} {st : List Value} {N S : Nat} {H : pj_Heap} {x : Int32} {n' : Nat} (hn : ¬ x < 0) (he : x.toNatClampNeg = n') (hb : n' ≤ 100000) {o9 : Option Value × pj_Mem} : pj_Ends 1 (28, L, .int x :: st, (N, S, H)) o9 = pj_Ends 1 (30, L, .ref N :: st, (N + 1, S + n', pj_up H N (.inr (0, n', .inl (fun _ => 0))))) o9 := pj_xs (s1_28 hn he hb)
theorem q1_30 : pj_row 1 30 = some (.putfield 21, 3, 4, 3, 0) := by decide +kernel
theorem s1_30 {L : pj_Loc} {st : List Value} {N S : Nat} {H : pj_Heap} {o : Nat} {v : Value} : pj_step 1 (30, L, v :: .ref o :: st, (N, S, H)) = pj_set 33 L st (N, S, H) o (pj_fset (H o) 4 3 v) := st_putfield q1_30
theorem x1_30 {L : pj_Loc} {st : List Value} {N S : Nat} {H : pj_Heap} {o : Nat} {v : Value} {o9 : Option Value × pj_Mem} : pj_Ends 1 (30, L, v :: .ref o :: st, (N, S, H)) o9 = pj_then 1 o9 (pj_set 33 L st (N, S, H) o (pj_fset (H o) 4 3 v)) := pj_xt q1_30 rfl (pj_cl_nc rfl) (s1_30)
theorem q1_33 : pj_row 1 33 = some (.aload_n 0, 1, 0, 0, 0) := by decide +kernel
theorem s1_33 {st : List Value} {M : pj_Mem} {l : pj_Loc} {x : Nat} : pj_step 1 (33, some (.ref x) :: l, st, M) = some (34, some (.ref x) :: l, .ref x :: st, M) := st_aload_n q1_33 rfl
theorem x1_33 {st : List Value} {M : pj_Mem} {l : pj_Loc} {x : Nat} {o9 : Option Value × pj_Mem} : pj_Ends 1 (33, some (.ref x) :: l, st, M) o9 = pj_Ends 1 (34, some (.ref x) :: l, .ref x :: st, M) o9 := pj_xs (s1_33)
theorem q1_34 : pj_row 1 34 = some (.iconst 3, 1, 0, 0, 0) := by decide +kernel
theorem s1_34 {L : pj_Loc} {st : List Value} {M : pj_Mem}  : pj_step 1 (34, L, st, M) = some (35, L, .int 3 :: st, M) := st_iconst q1_34 (by decide +kernel)
theorem x1_34 {L : pj_Loc} {st : List Value} {M : pj_Mem}  {o9 : Option Value × pj_Mem} : pj_Ends 1 (34, L, st, M) o9 = pj_Ends 1 (35, L, .int 3 :: st, M) o9 := pj_xs (s1_34)
theorem q1_35 : pj_row 1 35 = some (.newarray .int, 2, 0, 0, 0) := by decide +kernel
theorem s1_35 {L : pj_Loc} {st : List Value} {N S : Nat} {H : pj_Heap} {x : Int32} {n' : Nat} (hn : ¬ x < 0) (he : x.toNatClampNeg = n') (hb : n' ≤ 100000) : pj_step 1 (35, L, .int x :: st, (N, S, H)) = some (37, L, .ref N :: st, (N + 1, S + n', pj_up H N (.inr (0, n', .inl (fun _ => 0))))) := (st_newarray q1_35 hn he hb).trans rfl
theorem x1_35 {L : pj_Loc} {st : List Value} {N S : Nat} {H : pj_Heap} {x : Int32} {n' : Nat} (hn : ¬ x < 0) (he : x.toNatClampNeg = n') (hb : n' ≤ 100000) {o9 : Option Value × pj_Mem} : pj_Ends 1 (35, L, .int x :: st, (N, S, H)) o9 = pj_Ends 1 (37, L, .ref N :: st, (N + 1, S + n', pj_up H N (.inr (0, n', .inl (fun _ => 0))))) o9 := pj_xs (s1_35 hn he hb)
theorem q1_37 : pj_row 1 37 = some (.putfield 24, 3, 4, 4, 0) := by decide +kernel
theorem s1_37 {L : pj_Loc} {st : List Value} {N S : Nat} {H : pj_Heap} {o : Nat} {v : Value} : pj_step 1 (37, L, v :: .ref o :: st, (N, S, H)) = pj_set 40 L st (N, S, H) o (pj_fset (H o) 4 4 v) := st_putfield q1_37
theorem x1_37 {L : pj_Loc} {st : List Value} {N S : Nat} {H : pj_Heap} {o : Nat} {v : Value} {o9 : Option Value × pj_Mem} : pj_Ends 1 (37, L, v :: .ref o :: st, (N, S, H)) o9 = pj_then 1 o9 (pj_set 40 L st (N, S, H) o (pj_fset (H o) 4 4 v)) := pj_xt q1_37 rfl (pj_cl_nc rfl) (s1_37)
theorem q1_40 : pj_row 1 40 = some (.aload_n 0, 1, 0, 0, 0) := by decide +kernel
theorem s1_40 {st : List Value} {M : pj_Mem} {l : pj_Loc} {x : Nat} : pj_step 1 (40, some (.ref x) :: l, st, M) = some (41, some (.ref x) :: l, .ref x :: st, M) := st_aload_n q1_40 rfl
theorem x1_40 {st : List Value} {M : pj_Mem} {l : pj_Loc} {x : Nat} {o9 : Option Value × pj_Mem} : pj_Ends 1 (40, some (.ref x) :: l, st, M) o9 = pj_Ends 1 (41, some (.ref x) :: l, .ref x :: st, M) o9 := pj_xs (s1_40)
theorem q1_41 : pj_row 1 41 = some (.iconst 3, 1, 0, 0, 0) := by decide +kernel
theorem s1_41 {L : pj_Loc} {st : List Value} {M : pj_Mem}  : pj_step 1 (41, L, st, M) = some (42, L, .int 3 :: st, M) := st_iconst q1_41 (by decide +kernel)
theorem x1_41 {L : pj_Loc} {st : List Value} {M : pj_Mem}  {o9 : Option Value × pj_Mem} : pj_Ends 1 (41, L, st, M) o9 = pj_Ends 1 (42, L, .int 3 :: st, M) o9 := pj_xs (s1_41)
theorem q1_42 : pj_row 1 42 = some (.newarray .int, 2, 0, 0, 0) := by decide +kernel
theorem s1_42 {L : pj_Loc} {st : List Value} {N S : Nat} {H : pj_Heap} {x : Int32} {n' : Nat} (hn : ¬ x < 0) (he : x.toNatClampNeg = n') (hb : n' ≤ 100000) : pj_step 1 (42, L, .int x :: st, (N, S, H)) = some (44, L, .ref N :: st, (N + 1, S + n', pj_up H N (.inr (0, n', .inl (fun _ => 0))))) := (st_newarray q1_42 hn he hb).trans rfl
theorem x1_42 {L : pj_Loc} {st : List Value} {N S : Nat} {H : pj_Heap} {x : Int32} {n' : Nat} (hn : ¬ x < 0) (he : x.toNatClampNeg = n') (hb : n' ≤ 100000) {o9 : Option Value × pj_Mem} : pj_Ends 1 (42, L, .int x :: st, (N, S, H)) o9 = pj_Ends 1 (44, L, .ref N :: st, (N + 1, S + n', pj_up H N (.inr (0, n', .inl (fun _ => 0))))) o9 := pj_xs (s1_42 hn he hb)
theorem q1_44 : pj_row 1 44 = some (.putfield 27, 3, 4, 5, 0) := by decide +kernel
theorem s1_44 {L : pj_Loc} {st : List Value} {N S : Nat} {H : pj_Heap} {o : Nat} {v : Value} : pj_step 1 (44, L, v :: .ref o :: st, (N, S, H)) = pj_set 47 L st (N, S, H) o (pj_fset (H o) 4 5 v) := st_putfield q1_44
theorem x1_44 {L : pj_Loc} {st : List Value} {N S : Nat} {H : pj_Heap} {o : Nat} {v : Value} {o9 : Option Value × pj_Mem} : pj_Ends 1 (44, L, v :: .ref o :: st, (N, S, H)) o9 = pj_then 1 o9 (pj_set 47 L st (N, S, H) o (pj_fset (H o) 4 5 v)) := pj_xt q1_44 rfl (pj_cl_nc rfl) (s1_44)
theorem q1_47 : pj_row 1 47 = some (.aload_n 0, 1, 0, 0, 0) := by decide +kernel
theorem s1_47 {st : List Value} {M : pj_Mem} {l : pj_Loc} {x : Nat} : pj_step 1 (47, some (.ref x) :: l, st, M) = some (48, some (.ref x) :: l, .ref x :: st, M) := st_aload_n q1_47 rfl
theorem x1_47 {st : List Value} {M : pj_Mem} {l : pj_Loc} {x : Nat} {o9 : Option Value × pj_Mem} : pj_Ends 1 (47, some (.ref x) :: l, st, M) o9 = pj_Ends 1 (48, some (.ref x) :: l, .ref x :: st, M) o9 := pj_xs (s1_47)
theorem q1_48 : pj_row 1 48 = some (.new 30, 3, 2, 0, 0) := by decide +kernel
theorem s1_48 {L : pj_Loc} {st : List Value} {N S : Nat} {H : pj_Heap}  : pj_step 1 (48, L, st, (N, S, H)) = some (51, L, .ref N :: st, (N + 1, S + 3, pj_up H N (.inl (2, [.null, .int 0, .int 0])))) := (st_new q1_48).trans rfl
theorem x1_48 {L : pj_Loc} {st : List Value} {N S : Nat} {H : pj_Heap}  {o9 : Option Value × pj_Mem} : pj_Ends 1 (48, L, st, (N, S, H)) o9 = pj_Ends 1 (51, L, .ref N :: st, (N + 1, S + 3, pj_up H N (.inl (2, [.null, .int 0, .int 0])))) o9 := pj_xs (s1_48)
theorem q1_51 : pj_row 1 51 = some (.dup, 1, 0, 0, 0) := by decide +kernel
theorem s1_51 {L : pj_Loc} {st : List Value} {M : pj_Mem} {x : Nat} : pj_step 1 (51, L, .ref x :: st, M) = some (52, L, .ref x :: .ref x :: st, M) := st_dup_ref q1_51
theorem x1_51 {L : pj_Loc} {st : List Value} {M : pj_Mem} {x : Nat} {o9 : Option Value × pj_Mem} : pj_Ends 1 (51, L, .ref x :: st, M) o9 = pj_Ends 1 (52, L, .ref x :: .ref x :: st, M) o9 := pj_xs (s1_51)
theorem s1_51i {L : pj_Loc} {st : List Value} {M : pj_Mem} {x : Int32} : pj_step 1 (51, L, .int x :: st, M) = some (52, L, .int x :: .int x :: st, M) := st_dup_int q1_51
theorem x1_51i {L : pj_Loc} {st : List Value} {M : pj_Mem} {x : Int32} {o9 : Option Value × pj_Mem} : pj_Ends 1 (51, L, .int x :: st, M) o9 = pj_Ends 1 (52, L, .int x :: .int x :: st, M) o9 := pj_xs (s1_51i)
theorem q1_52 : pj_row 1 52 = some (.invokespecial 32, 3, 2, 1, 1) := by decide +kernel
theorem e1_52 {L : pj_Loc} {st : List Value} {N S : Nat} {H : pj_Heap} {o : Option Value × pj_Mem} {M' : pj_Mem} {x0 : Nat} (h4 : pj_le4 st = true) (h1 : pj_Ends 2 (0, [some (.ref x0)], [], (N, S, H)) (none, M')) (h2 : pj_Ends 1 (55, L, st, M') o) : pj_Ends 1 (52, L, .ref x0 :: st, (N, S, H)) o := ec_i1 q1_52 (Or.inr rfl) h4 rfl h1 h2
theorem q1_55 : pj_row 1 55 = some (.putfield 33, 3, 4, 6, 0) := by decide +kernel
theorem s1_55 {L : pj_Loc} {st : List Value} {N S : Nat} {H : pj_Heap} {o : Nat} {v : Value} : pj_step 1 (55, L, v :: .ref o :: st, (N, S, H)) = pj_set 58 L st (N, S, H) o (pj_fset (H o) 4 6 v) := st_putfield q1_55
theorem x1_55 {L : pj_Loc} {st : List Value} {N S : Nat} {H : pj_Heap} {o : Nat} {v : Value} {o9 : Option Value × pj_Mem} : pj_Ends 1 (55, L, v :: .ref o :: st, (N, S, H)) o9 = pj_then 1 o9 (pj_set 58 L st (N, S, H) o (pj_fset (H o) 4 6 v)) := pj_xt q1_55 rfl (pj_cl_nc rfl) (s1_55)
theorem q1_58 : pj_row 1 58 = some (.aload_n 0, 1, 0, 0, 0) := by decide +kernel
theorem s1_58 {st : List Value} {M : pj_Mem} {l : pj_Loc} {x : Nat} : pj_step 1 (58, some (.ref x) :: l, st, M) = some (59, some (.ref x) :: l, .ref x :: st, M) := st_aload_n q1_58 rfl
theorem x1_58 {st : List Value} {M : pj_Mem} {l : pj_Loc} {x : Nat} {o9 : Option Value × pj_Mem} : pj_Ends 1 (58, some (.ref x) :: l, st, M) o9 = pj_Ends 1 (59, some (.ref x) :: l, .ref x :: st, M) o9 := pj_xs (s1_58)
theorem q1_59 : pj_row 1 59 = some (.bipush 7, 2, 0, 0, 0) := by decide +kernel
theorem s1_59 {L : pj_Loc} {st : List Value} {M : pj_Mem}  : pj_step 1 (59, L, st, M) = some (61, L, .int 7 :: st, M) := st_bipush q1_59 (by decide +kernel)
theorem x1_59 {L : pj_Loc} {st : List Value} {M : pj_Mem}  {o9 : Option Value × pj_Mem} : pj_Ends 1 (59, L, st, M) o9 = pj_Ends 1 (61, L, .int 7 :: st, M) o9 := pj_xs (s1_59)
theorem q1_61 : pj_row 1 61 = some (.putfield 37, 3, 4, 7, 0) := by decide +kernel
theorem s1_61 {L : pj_Loc} {st : List Value} {N S : Nat} {H : pj_Heap} {o : Nat} {v : Value} : pj_step 1 (61, L, v :: .ref o :: st, (N, S, H)) = pj_set 64 L st (N, S, H) o (pj_fset (H o) 4 7 v) := st_putfield q1_61
theorem x1_61 {L : pj_Loc} {st : List Value} {N S : Nat} {H : pj_Heap} {o : Nat} {v : Value} {o9 : Option Value × pj_Mem} : pj_Ends 1 (61, L, v :: .ref o :: st, (N, S, H)) o9 = pj_then 1 o9 (pj_set 64 L st (N, S, H) o (pj_fset (H o) 4 7 v)) := pj_xt q1_61 rfl (pj_cl_nc rfl) (s1_61)
theorem q1_64 : pj_row 1 64 = some (.iconst 0, 1, 0, 0, 0) := by decide +kernel
theorem s1_64 {L : pj_Loc} {st : List Value} {M : pj_Mem}  : pj_step 1 (64, L, st, M) = some (65, L, .int 0 :: st, M) := st_iconst q1_64 (by decide +kernel)
theorem x1_64 {L : pj_Loc} {st : List Value} {M : pj_Mem}  {o9 : Option Value × pj_Mem} : pj_Ends 1 (64, L, st, M) o9 = pj_Ends 1 (65, L, .int 0 :: st, M) o9 := pj_xs (s1_64)
theorem q1_65 : pj_row 1 65 = some (.istore_n 1, 1, 0, 0, 0) := by decide +kernel
theorem s1_65 {st : List Value} {M : pj_Mem} {l : pj_Loc} {a0 a1 : Option Value} {x : Int32} (h : pj_long a0 = false) : pj_step 1 (65, a0 :: a1 :: l, .int x :: st, M) = some (66, a0 :: some (.int x) :: l, st, M) := st_istore_n q1_65 (pj_st_1 h)
theorem x1_65 {st : List Value} {M : pj_Mem} {l : pj_Loc} {a0 a1 : Option Value} {x : Int32} (h : pj_long a0 = false) {o9 : Option Value × pj_Mem} : pj_Ends 1 (65, a0 :: a1 :: l, .int x :: st, M) o9 = pj_Ends 1 (66, a0 :: some (.int x) :: l, st, M) o9 := pj_xs (s1_65 h)
theorem q1_66 : pj_row 1 66 = some (.iload_n 1, 1, 0, 0, 0) := by decide +kernel
theorem s1_66 {st : List Value} {M : pj_Mem} {l : pj_Loc} {a0 : Option Value} {x : Int32} : pj_step 1 (66, a0 :: some (.int x) :: l, st, M) = some (67, a0 :: some (.int x) :: l, .int x :: st, M) := st_iload_n q1_66 rfl
theorem x1_66 {st : List Value} {M : pj_Mem} {l : pj_Loc} {a0 : Option Value} {x : Int32} {o9 : Option Value × pj_Mem} : pj_Ends 1 (66, a0 :: some (.int x) :: l, st, M) o9 = pj_Ends 1 (67, a0 :: some (.int x) :: l, .int x :: st, M) o9 := pj_xs (s1_66)
theorem q1_67 : pj_row 1 67 = some (.bipush 6, 2, 0, 0, 0) := by decide +kernel
theorem s1_67 {L : pj_Loc} {st : List Value} {M : pj_Mem}  : pj_step 1 (67, L, st, M) = some (69, L, .int 6 :: st, M) := st_bipush q1_67 (by decide +kernel)
theorem x1_67 {L : pj_Loc} {st : List Value} {M : pj_Mem}  {o9 : Option Value × pj_Mem} : pj_Ends 1 (67, L, st, M) o9 = pj_Ends 1 (69, L, .int 6 :: st, M) o9 := pj_xs (s1_67)
theorem q1_69 : pj_row 1 69 = some (.if_icmp .ge 20, 3, 89, 0, 0) := by decide +kernel
theorem s1_69 {L : pj_Loc} {st : List Value} {M : pj_Mem} {x y : Int32} : pj_step 1 (69, L, .int y :: .int x :: st, M) = some (if y ≤ x then 89 else 72, L, st, M) := st_icmp_ge q1_69
theorem x1_69 {L : pj_Loc} {st : List Value} {M : pj_Mem} {x y : Int32} {o9 : Option Value × pj_Mem} : pj_Ends 1 (69, L, .int y :: .int x :: st, M) o9 = pj_Ends 1 (if y ≤ x then 89 else 72, L, st, M) o9 := pj_xs (s1_69)
theorem q1_72 : pj_row 1 72 = some (.aload_n 0, 1, 0, 0, 0) := by decide +kernel
theorem s1_72 {st : List Value} {M : pj_Mem} {l : pj_Loc} {x : Nat} : pj_step 1 (72, some (.ref x) :: l, st, M) = some (73, some (.ref x) :: l, .ref x :: st, M) := st_aload_n q1_72 rfl
theorem x1_72 {st : List Value} {M : pj_Mem} {l : pj_Loc} {x : Nat} {o9 : Option Value × pj_Mem} : pj_Ends 1 (72, some (.ref x) :: l, st, M) o9 = pj_Ends 1 (73, some (.ref x) :: l, .ref x :: st, M) o9 := pj_xs (s1_72)
theorem q1_73 : pj_row 1 73 = some (.getfield 9, 3, 4, 0, 0) := by decide +kernel
theorem s1_73 {L : pj_Loc} {st : List Value} {N S : Nat} {H : pj_Heap} {o : Nat} : pj_step 1 (73, L, .ref o :: st, (N, S, H)) = pj_pv 76 L st (N, S, H) (pj_fld (H o) 4 0) := st_getfield q1_73
theorem x1_73 {L : pj_Loc} {st : List Value} {N S : Nat} {H : pj_Heap} {o : Nat} {o9 : Option Value × pj_Mem} : pj_Ends 1 (73, L, .ref o :: st, (N, S, H)) o9 = pj_then 1 o9 (pj_pv 76 L st (N, S, H) (pj_fld (H o) 4 0)) := pj_xt q1_73 rfl (pj_cl_nc rfl) (s1_73)
theorem q1_76 : pj_row 1 76 = some (.iload_n 1, 1, 0, 0, 0) := by decide +kernel
theorem s1_76 {st : List Value} {M : pj_Mem} {l : pj_Loc} {a0 : Option Value} {x : Int32} : pj_step 1 (76, a0 :: some (.int x) :: l, st, M) = some (77, a0 :: some (.int x) :: l, .int x :: st, M) := st_iload_n q1_76 rfl
theorem x1_76 {st : List Value} {M : pj_Mem} {l : pj_Loc} {a0 : Option Value} {x : Int32} {o9 : Option Value × pj_Mem} : pj_Ends 1 (76, a0 :: some (.int x) :: l, st, M) o9 = pj_Ends 1 (77, a0 :: some (.int x) :: l, .int x :: st, M) o9 := pj_xs (s1_76)
theorem q1_77 : pj_row 1 77 = some (.getstatic 41, 3, 1, 0, 1) := by decide +kernel
theorem s1_77 {L : pj_Loc} {st : List Value} {M : pj_Mem}  : pj_step 1 (77, L, st, M) = some (80, L, .ref 1 :: st, M) := st_getstatic q1_77
theorem x1_77 {L : pj_Loc} {st : List Value} {M : pj_Mem}  {o9 : Option Value × pj_Mem} : pj_Ends 1 (77, L, st, M) o9 = pj_Ends 1 (80, L, .ref 1 :: st, M) o9 := pj_xs (s1_77)
theorem q1_80 : pj_row 1 80 = some (.iload_n 1, 1, 0, 0, 0) := by decide +kernel
theorem s1_80 {st : List Value} {M : pj_Mem} {l : pj_Loc} {a0 : Option Value} {x : Int32} : pj_step 1 (80, a0 :: some (.int x) :: l, st, M) = some (81, a0 :: some (.int x) :: l, .int x :: st, M) := st_iload_n q1_80 rfl
theorem x1_80 {st : List Value} {M : pj_Mem} {l : pj_Loc} {a0 : Option Value} {x : Int32} {o9 : Option Value × pj_Mem} : pj_Ends 1 (80, a0 :: some (.int x) :: l, st, M) o9 = pj_Ends 1 (81, a0 :: some (.int x) :: l, .int x :: st, M) o9 := pj_xs (s1_80)
theorem q1_81 : pj_row 1 81 = some (.iaload, 1, 0, 0, 0) := by decide +kernel
theorem s1_81 {L : pj_Loc} {st : List Value} {N S : Nat} {H : pj_Heap} {o : Nat} {i : Int32} : pj_step 1 (81, L, .int i :: .ref o :: st, (N, S, H)) = pj_pi 82 L st (N, S, H) (pj_arl (H o) 0 i) := st_iaload q1_81
theorem x1_81 {L : pj_Loc} {st : List Value} {N S : Nat} {H : pj_Heap} {o : Nat} {i : Int32} {o9 : Option Value × pj_Mem} : pj_Ends 1 (81, L, .int i :: .ref o :: st, (N, S, H)) o9 = pj_then 1 o9 (pj_pi 82 L st (N, S, H) (pj_arl (H o) 0 i)) := pj_xt q1_81 rfl (pj_cl_nc rfl) (s1_81)
theorem q1_82 : pj_row 1 82 = some (.iastore, 1, 0, 0, 0) := by decide +kernel
theorem s1_82 {L : pj_Loc} {st : List Value} {N S : Nat} {H : pj_Heap} {o : Nat} {i x : Int32} : pj_step 1 (82, L, .int x :: .int i :: .ref o :: st, (N, S, H)) = pj_set 83 L st (N, S, H) o (pj_ars (H o) 0 i x) := st_iastore q1_82
theorem x1_82 {L : pj_Loc} {st : List Value} {N S : Nat} {H : pj_Heap} {o : Nat} {i x : Int32} {o9 : Option Value × pj_Mem} : pj_Ends 1 (82, L, .int x :: .int i :: .ref o :: st, (N, S, H)) o9 = pj_then 1 o9 (pj_set 83 L st (N, S, H) o (pj_ars (H o) 0 i x)) := pj_xt q1_82 rfl (pj_cl_nc rfl) (s1_82)
theorem q1_83 : pj_row 1 83 = some (.iinc 1 1, 3, 0, 0, 0) := by decide +kernel
theorem s1_83 {st : List Value} {M : pj_Mem} {l : pj_Loc} {a0 : Option Value} {x : Int32} (h : pj_long a0 = false) : pj_step 1 (83, a0 :: some (.int x) :: l, st, M) = some (86, a0 :: some (.int (x + 1)) :: l, st, M) := st_iinc q1_83 rfl (congrArg (fun y => x + y) (show Int32.ofInt 1 = 1 by decide +kernel)) (pj_st_1 h)
theorem x1_83 {st : List Value} {M : pj_Mem} {l : pj_Loc} {a0 : Option Value} {x : Int32} (h : pj_long a0 = false) {o9 : Option Value × pj_Mem} : pj_Ends 1 (83, a0 :: some (.int x) :: l, st, M) o9 = pj_Ends 1 (86, a0 :: some (.int (x + 1)) :: l, st, M) o9 := pj_xs (s1_83 h)
theorem q1_86 : pj_row 1 86 = some (.goto (-20), 3, 66, 0, 0) := by decide +kernel
theorem s1_86 {L : pj_Loc} {st : List Value} {M : pj_Mem}  : pj_step 1 (86, L, st, M) = some (66, L, st, M) := st_goto q1_86
theorem x1_86 {L : pj_Loc} {st : List Value} {M : pj_Mem}  {o9 : Option Value × pj_Mem} : pj_Ends 1 (86, L, st, M) o9 = pj_Ends 1 (66, L, st, M) o9 := pj_xs (s1_86)
theorem q1_89 : pj_row 1 89 = some (.iconst 0, 1, 0, 0, 0) := by decide +kernel
theorem s1_89 {L : pj_Loc} {st : List Value} {M : pj_Mem}  : pj_step 1 (89, L, st, M) = some (90, L, .int 0 :: st, M) := st_iconst q1_89 (by decide +kernel)
theorem x1_89 {L : pj_Loc} {st : List Value} {M : pj_Mem}  {o9 : Option Value × pj_Mem} : pj_Ends 1 (89, L, st, M) o9 = pj_Ends 1 (90, L, .int 0 :: st, M) o9 := pj_xs (s1_89)
theorem q1_90 : pj_row 1 90 = some (.istore_n 1, 1, 0, 0, 0) := by decide +kernel
theorem s1_90 {st : List Value} {M : pj_Mem} {l : pj_Loc} {a0 a1 : Option Value} {x : Int32} (h : pj_long a0 = false) : pj_step 1 (90, a0 :: a1 :: l, .int x :: st, M) = some (91, a0 :: some (.int x) :: l, st, M) := st_istore_n q1_90 (pj_st_1 h)
theorem x1_90 {st : List Value} {M : pj_Mem} {l : pj_Loc} {a0 a1 : Option Value} {x : Int32} (h : pj_long a0 = false) {o9 : Option Value × pj_Mem} : pj_Ends 1 (90, a0 :: a1 :: l, .int x :: st, M) o9 = pj_Ends 1 (91, a0 :: some (.int x) :: l, st, M) o9 := pj_xs (s1_90 h)
theorem q1_91 : pj_row 1 91 = some (.iload_n 1, 1, 0, 0, 0) := by decide +kernel
theorem s1_91 {st : List Value} {M : pj_Mem} {l : pj_Loc} {a0 : Option Value} {x : Int32} : pj_step 1 (91, a0 :: some (.int x) :: l, st, M) = some (92, a0 :: some (.int x) :: l, .int x :: st, M) := st_iload_n q1_91 rfl
theorem x1_91 {st : List Value} {M : pj_Mem} {l : pj_Loc} {a0 : Option Value} {x : Int32} {o9 : Option Value × pj_Mem} : pj_Ends 1 (91, a0 :: some (.int x) :: l, st, M) o9 = pj_Ends 1 (92, a0 :: some (.int x) :: l, .int x :: st, M) o9 := pj_xs (s1_91)
theorem q1_92 : pj_row 1 92 = some (.iconst 3, 1, 0, 0, 0) := by decide +kernel
theorem s1_92 {L : pj_Loc} {st : List Value} {M : pj_Mem}  : pj_step 1 (92, L, st, M) = some (93, L, .int 3 :: st, M) := st_iconst q1_92 (by decide +kernel)
theorem x1_92 {L : pj_Loc} {st : List Value} {M : pj_Mem}  {o9 : Option Value × pj_Mem} : pj_Ends 1 (92, L, st, M) o9 = pj_Ends 1 (93, L, .int 3 :: st, M) o9 := pj_xs (s1_92)
theorem q1_93 : pj_row 1 93 = some (.if_icmp .ge 17, 3, 110, 0, 0) := by decide +kernel
theorem s1_93 {L : pj_Loc} {st : List Value} {M : pj_Mem} {x y : Int32} : pj_step 1 (93, L, .int y :: .int x :: st, M) = some (if y ≤ x then 110 else 96, L, st, M) := st_icmp_ge q1_93
theorem x1_93 {L : pj_Loc} {st : List Value} {M : pj_Mem} {x y : Int32} {o9 : Option Value × pj_Mem} : pj_Ends 1 (93, L, .int y :: .int x :: st, M) o9 = pj_Ends 1 (if y ≤ x then 110 else 96, L, st, M) o9 := pj_xs (s1_93)
theorem q1_96 : pj_row 1 96 = some (.aload_n 0, 1, 0, 0, 0) := by decide +kernel
theorem s1_96 {st : List Value} {M : pj_Mem} {l : pj_Loc} {x : Nat} : pj_step 1 (96, some (.ref x) :: l, st, M) = some (97, some (.ref x) :: l, .ref x :: st, M) := st_aload_n q1_96 rfl
theorem x1_96 {st : List Value} {M : pj_Mem} {l : pj_Loc} {x : Nat} {o9 : Option Value × pj_Mem} : pj_Ends 1 (96, some (.ref x) :: l, st, M) o9 = pj_Ends 1 (97, some (.ref x) :: l, .ref x :: st, M) o9 := pj_xs (s1_96)
theorem q1_97 : pj_row 1 97 = some (.getfield 27, 3, 4, 5, 0) := by decide +kernel
theorem s1_97 {L : pj_Loc} {st : List Value} {N S : Nat} {H : pj_Heap} {o : Nat} : pj_step 1 (97, L, .ref o :: st, (N, S, H)) = pj_pv 100 L st (N, S, H) (pj_fld (H o) 4 5) := st_getfield q1_97
theorem x1_97 {L : pj_Loc} {st : List Value} {N S : Nat} {H : pj_Heap} {o : Nat} {o9 : Option Value × pj_Mem} : pj_Ends 1 (97, L, .ref o :: st, (N, S, H)) o9 = pj_then 1 o9 (pj_pv 100 L st (N, S, H) (pj_fld (H o) 4 5)) := pj_xt q1_97 rfl (pj_cl_nc rfl) (s1_97)
theorem q1_100 : pj_row 1 100 = some (.iload_n 1, 1, 0, 0, 0) := by decide +kernel
theorem s1_100 {st : List Value} {M : pj_Mem} {l : pj_Loc} {a0 : Option Value} {x : Int32} : pj_step 1 (100, a0 :: some (.int x) :: l, st, M) = some (101, a0 :: some (.int x) :: l, .int x :: st, M) := st_iload_n q1_100 rfl
theorem x1_100 {st : List Value} {M : pj_Mem} {l : pj_Loc} {a0 : Option Value} {x : Int32} {o9 : Option Value × pj_Mem} : pj_Ends 1 (100, a0 :: some (.int x) :: l, st, M) o9 = pj_Ends 1 (101, a0 :: some (.int x) :: l, .int x :: st, M) o9 := pj_xs (s1_100)
theorem q1_101 : pj_row 1 101 = some (.bipush (-6), 2, 0, 0, 0) := by decide +kernel
theorem s1_101 {L : pj_Loc} {st : List Value} {M : pj_Mem}  : pj_step 1 (101, L, st, M) = some (103, L, .int (-6) :: st, M) := st_bipush q1_101 (by decide +kernel)
theorem x1_101 {L : pj_Loc} {st : List Value} {M : pj_Mem}  {o9 : Option Value × pj_Mem} : pj_Ends 1 (101, L, st, M) o9 = pj_Ends 1 (103, L, .int (-6) :: st, M) o9 := pj_xs (s1_101)
theorem q1_103 : pj_row 1 103 = some (.iastore, 1, 0, 0, 0) := by decide +kernel
theorem s1_103 {L : pj_Loc} {st : List Value} {N S : Nat} {H : pj_Heap} {o : Nat} {i x : Int32} : pj_step 1 (103, L, .int x :: .int i :: .ref o :: st, (N, S, H)) = pj_set 104 L st (N, S, H) o (pj_ars (H o) 0 i x) := st_iastore q1_103
theorem x1_103 {L : pj_Loc} {st : List Value} {N S : Nat} {H : pj_Heap} {o : Nat} {i x : Int32} {o9 : Option Value × pj_Mem} : pj_Ends 1 (103, L, .int x :: .int i :: .ref o :: st, (N, S, H)) o9 = pj_then 1 o9 (pj_set 104 L st (N, S, H) o (pj_ars (H o) 0 i x)) := pj_xt q1_103 rfl (pj_cl_nc rfl) (s1_103)
theorem q1_104 : pj_row 1 104 = some (.iinc 1 1, 3, 0, 0, 0) := by decide +kernel
theorem s1_104 {st : List Value} {M : pj_Mem} {l : pj_Loc} {a0 : Option Value} {x : Int32} (h : pj_long a0 = false) : pj_step 1 (104, a0 :: some (.int x) :: l, st, M) = some (107, a0 :: some (.int (x + 1)) :: l, st, M) := st_iinc q1_104 rfl (congrArg (fun y => x + y) (show Int32.ofInt 1 = 1 by decide +kernel)) (pj_st_1 h)
theorem x1_104 {st : List Value} {M : pj_Mem} {l : pj_Loc} {a0 : Option Value} {x : Int32} (h : pj_long a0 = false) {o9 : Option Value × pj_Mem} : pj_Ends 1 (104, a0 :: some (.int x) :: l, st, M) o9 = pj_Ends 1 (107, a0 :: some (.int (x + 1)) :: l, st, M) o9 := pj_xs (s1_104 h)
theorem q1_107 : pj_row 1 107 = some (.goto (-16), 3, 91, 0, 0) := by decide +kernel
theorem s1_107 {L : pj_Loc} {st : List Value} {M : pj_Mem}  : pj_step 1 (107, L, st, M) = some (91, L, st, M) := st_goto q1_107
theorem x1_107 {L : pj_Loc} {st : List Value} {M : pj_Mem}  {o9 : Option Value × pj_Mem} : pj_Ends 1 (107, L, st, M) o9 = pj_Ends 1 (91, L, st, M) o9 := pj_xs (s1_107)
theorem q1_110 : pj_row 1 110 = some (.return_, 1, 0, 0, 0) := by decide +kernel
theorem t1_110 {L : pj_Loc} {M : pj_Mem} : pj_Ends 1 (110, L, [], M) (none, M) := pj_Ends.ret q1_110 (pj_rtn_v rt1)
theorem rt2 : pj_rt 2 = none := rfl
theorem q2_0 : pj_row 2 0 = some (.aload_n 0, 1, 0, 0, 0) := by decide +kernel
theorem s2_0 {st : List Value} {M : pj_Mem} {l : pj_Loc} {x : Nat} : pj_step 2 (0, some (.ref x) :: l, st, M) = some (1, some (.ref x) :: l, .ref x :: st, M) := st_aload_n q2_0 rfl
theorem x2_0 {st : List Value} {M : pj_Mem} {l : pj_Loc} {x : Nat} {o9 : Option Value × pj_Mem} : pj_Ends 2 (0, some (.ref x) :: l, st, M) o9 = pj_Ends 2 (1, some (.ref x) :: l, .ref x :: st, M) o9 := pj_xs (s2_0)
theorem q2_1 : pj_row 2 1 = some (.invokespecial 3, 3, 0, 1, 2) := by decide +kernel
theorem s2_1 {L : pj_Loc} {st : List Value} {M : pj_Mem} {o : Nat} : pj_step 2 (1, L, .ref o :: st, M) = pj_g4 st (some (4, L, st, M)) := st_obj q2_1
theorem x2_1 {L : pj_Loc} {st : List Value} {M : pj_Mem} {o : Nat} {o9 : Option Value × pj_Mem} : pj_Ends 2 (1, L, .ref o :: st, M) o9 = pj_then 2 o9 (pj_g4 st (some (4, L, st, M))) := pj_xt q2_1 rfl rfl (s2_1)
theorem q2_4 : pj_row 2 4 = some (.aload_n 0, 1, 0, 0, 0) := by decide +kernel
theorem s2_4 {st : List Value} {M : pj_Mem} {l : pj_Loc} {x : Nat} : pj_step 2 (4, some (.ref x) :: l, st, M) = some (5, some (.ref x) :: l, .ref x :: st, M) := st_aload_n q2_4 rfl
theorem x2_4 {st : List Value} {M : pj_Mem} {l : pj_Loc} {x : Nat} {o9 : Option Value × pj_Mem} : pj_Ends 2 (4, some (.ref x) :: l, st, M) o9 = pj_Ends 2 (5, some (.ref x) :: l, .ref x :: st, M) o9 := pj_xs (s2_4)
theorem q2_5 : pj_row 2 5 = some (.bipush 120, 2, 0, 0, 0) := by decide +kernel
theorem s2_5 {L : pj_Loc} {st : List Value} {M : pj_Mem}  : pj_step 2 (5, L, st, M) = some (7, L, .int 120 :: st, M) := st_bipush q2_5 (by decide +kernel)
theorem x2_5 {L : pj_Loc} {st : List Value} {M : pj_Mem}  {o9 : Option Value × pj_Mem} : pj_Ends 2 (5, L, st, M) o9 = pj_Ends 2 (7, L, .int 120 :: st, M) o9 := pj_xs (s2_5)
theorem q2_7 : pj_row 2 7 = some (.newarray .int, 2, 0, 0, 0) := by decide +kernel
theorem s2_7 {L : pj_Loc} {st : List Value} {N S : Nat} {H : pj_Heap} {x : Int32} {n' : Nat} (hn : ¬ x < 0) (he : x.toNatClampNeg = n') (hb : n' ≤ 100000) : pj_step 2 (7, L, .int x :: st, (N, S, H)) = some (9, L, .ref N :: st, (N + 1, S + n', pj_up H N (.inr (0, n', .inl (fun _ => 0))))) := (st_newarray q2_7 hn he hb).trans rfl
theorem x2_7 {L : pj_Loc} {st : List Value} {N S : Nat} {H : pj_Heap} {x : Int32} {n' : Nat} (hn : ¬ x < 0) (he : x.toNatClampNeg = n') (hb : n' ≤ 100000) {o9 : Option Value × pj_Mem} : pj_Ends 2 (7, L, .int x :: st, (N, S, H)) o9 = pj_Ends 2 (9, L, .ref N :: st, (N + 1, S + n', pj_up H N (.inr (0, n', .inl (fun _ => 0))))) o9 := pj_xs (s2_7 hn he hb)
theorem q2_9 : pj_row 2 9 = some (.putfield 9, 3, 2, 0, 0) := by decide +kernel
theorem s2_9 {L : pj_Loc} {st : List Value} {N S : Nat} {H : pj_Heap} {o : Nat} {v : Value} : pj_step 2 (9, L, v :: .ref o :: st, (N, S, H)) = pj_set 12 L st (N, S, H) o (pj_fset (H o) 2 0 v) := st_putfield q2_9
theorem x2_9 {L : pj_Loc} {st : List Value} {N S : Nat} {H : pj_Heap} {o : Nat} {v : Value} {o9 : Option Value × pj_Mem} : pj_Ends 2 (9, L, v :: .ref o :: st, (N, S, H)) o9 = pj_then 2 o9 (pj_set 12 L st (N, S, H) o (pj_fset (H o) 2 0 v)) := pj_xt q2_9 rfl (pj_cl_nc rfl) (s2_9)
theorem q2_12 : pj_row 2 12 = some (.aload_n 0, 1, 0, 0, 0) := by decide +kernel
theorem s2_12 {st : List Value} {M : pj_Mem} {l : pj_Loc} {x : Nat} : pj_step 2 (12, some (.ref x) :: l, st, M) = some (13, some (.ref x) :: l, .ref x :: st, M) := st_aload_n q2_12 rfl
theorem x2_12 {st : List Value} {M : pj_Mem} {l : pj_Loc} {x : Nat} {o9 : Option Value × pj_Mem} : pj_Ends 2 (12, some (.ref x) :: l, st, M) o9 = pj_Ends 2 (13, some (.ref x) :: l, .ref x :: st, M) o9 := pj_xs (s2_12)
theorem q2_13 : pj_row 2 13 = some (.bipush (-6), 2, 0, 0, 0) := by decide +kernel
theorem s2_13 {L : pj_Loc} {st : List Value} {M : pj_Mem}  : pj_step 2 (13, L, st, M) = some (15, L, .int (-6) :: st, M) := st_bipush q2_13 (by decide +kernel)
theorem x2_13 {L : pj_Loc} {st : List Value} {M : pj_Mem}  {o9 : Option Value × pj_Mem} : pj_Ends 2 (13, L, st, M) o9 = pj_Ends 2 (15, L, .int (-6) :: st, M) o9 := pj_xs (s2_13)
theorem q2_15 : pj_row 2 15 = some (.putfield 15, 3, 2, 2, 0) := by decide +kernel
theorem s2_15 {L : pj_Loc} {st : List Value} {N S : Nat} {H : pj_Heap} {o : Nat} {v : Value} : pj_step 2 (15, L, v :: .ref o :: st, (N, S, H)) = pj_set 18 L st (N, S, H) o (pj_fset (H o) 2 2 v) := st_putfield q2_15
theorem x2_15 {L : pj_Loc} {st : List Value} {N S : Nat} {H : pj_Heap} {o : Nat} {v : Value} {o9 : Option Value × pj_Mem} : pj_Ends 2 (15, L, v :: .ref o :: st, (N, S, H)) o9 = pj_then 2 o9 (pj_set 18 L st (N, S, H) o (pj_fset (H o) 2 2 v)) := pj_xt q2_15 rfl (pj_cl_nc rfl) (s2_15)
theorem q2_18 : pj_row 2 18 = some (.return_, 1, 0, 0, 0) := by decide +kernel
theorem t2_18 {L : pj_Loc} {M : pj_Mem} : pj_Ends 2 (18, L, [], M) (none, M) := pj_Ends.ret q2_18 (pj_rtn_v rt2)
theorem rt3 : pj_rt 3 = none := rfl
theorem q3_0 : pj_row 3 0 = some (.aload_n 0, 1, 0, 0, 0) := by decide +kernel
theorem s3_0 {st : List Value} {M : pj_Mem} {l : pj_Loc} {x : Nat} : pj_step 3 (0, some (.ref x) :: l, st, M) = some (1, some (.ref x) :: l, .ref x :: st, M) := st_aload_n q3_0 rfl
theorem x3_0 {st : List Value} {M : pj_Mem} {l : pj_Loc} {x : Nat} {o9 : Option Value × pj_Mem} : pj_Ends 3 (0, some (.ref x) :: l, st, M) o9 = pj_Ends 3 (1, some (.ref x) :: l, .ref x :: st, M) o9 := pj_xs (s3_0)
theorem q3_1 : pj_row 3 1 = some (.invokespecial 3, 3, 0, 1, 2) := by decide +kernel
theorem s3_1 {L : pj_Loc} {st : List Value} {M : pj_Mem} {o : Nat} : pj_step 3 (1, L, .ref o :: st, M) = pj_g4 st (some (4, L, st, M)) := st_obj q3_1
theorem x3_1 {L : pj_Loc} {st : List Value} {M : pj_Mem} {o : Nat} {o9 : Option Value × pj_Mem} : pj_Ends 3 (1, L, .ref o :: st, M) o9 = pj_then 3 o9 (pj_g4 st (some (4, L, st, M))) := pj_xt q3_1 rfl rfl (s3_1)
theorem q3_4 : pj_row 3 4 = some (.aload_n 0, 1, 0, 0, 0) := by decide +kernel
theorem s3_4 {st : List Value} {M : pj_Mem} {l : pj_Loc} {x : Nat} : pj_step 3 (4, some (.ref x) :: l, st, M) = some (5, some (.ref x) :: l, .ref x :: st, M) := st_aload_n q3_4 rfl
theorem x3_4 {st : List Value} {M : pj_Mem} {l : pj_Loc} {x : Nat} {o9 : Option Value × pj_Mem} : pj_Ends 3 (4, some (.ref x) :: l, st, M) o9 = pj_Ends 3 (5, some (.ref x) :: l, .ref x :: st, M) o9 := pj_xs (s3_4)
theorem q3_5 : pj_row 3 5 = some (.iconst 3, 1, 0, 0, 0) := by decide +kernel
theorem s3_5 {L : pj_Loc} {st : List Value} {M : pj_Mem}  : pj_step 3 (5, L, st, M) = some (6, L, .int 3 :: st, M) := st_iconst q3_5 (by decide +kernel)
theorem x3_5 {L : pj_Loc} {st : List Value} {M : pj_Mem}  {o9 : Option Value × pj_Mem} : pj_Ends 3 (5, L, st, M) o9 = pj_Ends 3 (6, L, .int 3 :: st, M) o9 := pj_xs (s3_5)
theorem q3_6 : pj_row 3 6 = some (.newarray .int, 2, 0, 0, 0) := by decide +kernel
theorem s3_6 {L : pj_Loc} {st : List Value} {N S : Nat} {H : pj_Heap} {x : Int32} {n' : Nat} (hn : ¬ x < 0) (he : x.toNatClampNeg = n') (hb : n' ≤ 100000) : pj_step 3 (6, L, .int x :: st, (N, S, H)) = some (8, L, .ref N :: st, (N + 1, S + n', pj_up H N (.inr (0, n', .inl (fun _ => 0))))) := (st_newarray q3_6 hn he hb).trans rfl
theorem x3_6 {L : pj_Loc} {st : List Value} {N S : Nat} {H : pj_Heap} {x : Int32} {n' : Nat} (hn : ¬ x < 0) (he : x.toNatClampNeg = n') (hb : n' ≤ 100000) {o9 : Option Value × pj_Mem} : pj_Ends 3 (6, L, .int x :: st, (N, S, H)) o9 = pj_Ends 3 (8, L, .ref N :: st, (N + 1, S + n', pj_up H N (.inr (0, n', .inl (fun _ => 0))))) o9 := pj_xs (s3_6 hn he hb)
theorem q3_8 : pj_row 3 8 = some (.putfield 9, 3, 3, 0, 0) := by decide +kernel
theorem s3_8 {L : pj_Loc} {st : List Value} {N S : Nat} {H : pj_Heap} {o : Nat} {v : Value} : pj_step 3 (8, L, v :: .ref o :: st, (N, S, H)) = pj_set 11 L st (N, S, H) o (pj_fset (H o) 3 0 v) := st_putfield q3_8
theorem x3_8 {L : pj_Loc} {st : List Value} {N S : Nat} {H : pj_Heap} {o : Nat} {v : Value} {o9 : Option Value × pj_Mem} : pj_Ends 3 (8, L, v :: .ref o :: st, (N, S, H)) o9 = pj_then 3 o9 (pj_set 11 L st (N, S, H) o (pj_fset (H o) 3 0 v)) := pj_xt q3_8 rfl (pj_cl_nc rfl) (s3_8)
theorem q3_11 : pj_row 3 11 = some (.aload_n 0, 1, 0, 0, 0) := by decide +kernel
theorem s3_11 {st : List Value} {M : pj_Mem} {l : pj_Loc} {x : Nat} : pj_step 3 (11, some (.ref x) :: l, st, M) = some (12, some (.ref x) :: l, .ref x :: st, M) := st_aload_n q3_11 rfl
theorem x3_11 {st : List Value} {M : pj_Mem} {l : pj_Loc} {x : Nat} {o9 : Option Value × pj_Mem} : pj_Ends 3 (11, some (.ref x) :: l, st, M) o9 = pj_Ends 3 (12, some (.ref x) :: l, .ref x :: st, M) o9 := pj_xs (s3_11)
theorem q3_12 : pj_row 3 12 = some (.iconst 3, 1, 0, 0, 0) := by decide +kernel
theorem s3_12 {L : pj_Loc} {st : List Value} {M : pj_Mem}  : pj_step 3 (12, L, st, M) = some (13, L, .int 3 :: st, M) := st_iconst q3_12 (by decide +kernel)
theorem x3_12 {L : pj_Loc} {st : List Value} {M : pj_Mem}  {o9 : Option Value × pj_Mem} : pj_Ends 3 (12, L, st, M) o9 = pj_Ends 3 (13, L, .int 3 :: st, M) o9 := pj_xs (s3_12)
theorem q3_13 : pj_row 3 13 = some (.newarray .int, 2, 0, 0, 0) := by decide +kernel
theorem s3_13 {L : pj_Loc} {st : List Value} {N S : Nat} {H : pj_Heap} {x : Int32} {n' : Nat} (hn : ¬ x < 0) (he : x.toNatClampNeg = n') (hb : n' ≤ 100000) : pj_step 3 (13, L, .int x :: st, (N, S, H)) = some (15, L, .ref N :: st, (N + 1, S + n', pj_up H N (.inr (0, n', .inl (fun _ => 0))))) := (st_newarray q3_13 hn he hb).trans rfl
theorem x3_13 {L : pj_Loc} {st : List Value} {N S : Nat} {H : pj_Heap} {x : Int32} {n' : Nat} (hn : ¬ x < 0) (he : x.toNatClampNeg = n') (hb : n' ≤ 100000) {o9 : Option Value × pj_Mem} : pj_Ends 3 (13, L, .int x :: st, (N, S, H)) o9 = pj_Ends 3 (15, L, .ref N :: st, (N + 1, S + n', pj_up H N (.inr (0, n', .inl (fun _ => 0))))) o9 := pj_xs (s3_13 hn he hb)
theorem q3_15 : pj_row 3 15 = some (.putfield 15, 3, 3, 1, 0) := by decide +kernel
theorem s3_15 {L : pj_Loc} {st : List Value} {N S : Nat} {H : pj_Heap} {o : Nat} {v : Value} : pj_step 3 (15, L, v :: .ref o :: st, (N, S, H)) = pj_set 18 L st (N, S, H) o (pj_fset (H o) 3 1 v) := st_putfield q3_15
theorem x3_15 {L : pj_Loc} {st : List Value} {N S : Nat} {H : pj_Heap} {o : Nat} {v : Value} {o9 : Option Value × pj_Mem} : pj_Ends 3 (15, L, v :: .ref o :: st, (N, S, H)) o9 = pj_then 3 o9 (pj_set 18 L st (N, S, H) o (pj_fset (H o) 3 1 v)) := pj_xt q3_15 rfl (pj_cl_nc rfl) (s3_15)
theorem q3_18 : pj_row 3 18 = some (.aload_n 0, 1, 0, 0, 0) := by decide +kernel
theorem s3_18 {st : List Value} {M : pj_Mem} {l : pj_Loc} {x : Nat} : pj_step 3 (18, some (.ref x) :: l, st, M) = some (19, some (.ref x) :: l, .ref x :: st, M) := st_aload_n q3_18 rfl
theorem x3_18 {st : List Value} {M : pj_Mem} {l : pj_Loc} {x : Nat} {o9 : Option Value × pj_Mem} : pj_Ends 3 (18, some (.ref x) :: l, st, M) o9 = pj_Ends 3 (19, some (.ref x) :: l, .ref x :: st, M) o9 := pj_xs (s3_18)
theorem q3_19 : pj_row 3 19 = some (.iconst 3, 1, 0, 0, 0) := by decide +kernel
theorem s3_19 {L : pj_Loc} {st : List Value} {M : pj_Mem}  : pj_step 3 (19, L, st, M) = some (20, L, .int 3 :: st, M) := st_iconst q3_19 (by decide +kernel)
theorem x3_19 {L : pj_Loc} {st : List Value} {M : pj_Mem}  {o9 : Option Value × pj_Mem} : pj_Ends 3 (19, L, st, M) o9 = pj_Ends 3 (20, L, .int 3 :: st, M) o9 := pj_xs (s3_19)
theorem q3_20 : pj_row 3 20 = some (.newarray .int, 2, 0, 0, 0) := by decide +kernel
theorem s3_20 {L : pj_Loc} {st : List Value} {N S : Nat} {H : pj_Heap} {x : Int32} {n' : Nat} (hn : ¬ x < 0) (he : x.toNatClampNeg = n') (hb : n' ≤ 100000) : pj_step 3 (20, L, .int x :: st, (N, S, H)) = some (22, L, .ref N :: st, (N + 1, S + n', pj_up H N (.inr (0, n', .inl (fun _ => 0))))) := (st_newarray q3_20 hn he hb).trans rfl
theorem x3_20 {L : pj_Loc} {st : List Value} {N S : Nat} {H : pj_Heap} {x : Int32} {n' : Nat} (hn : ¬ x < 0) (he : x.toNatClampNeg = n') (hb : n' ≤ 100000) {o9 : Option Value × pj_Mem} : pj_Ends 3 (20, L, .int x :: st, (N, S, H)) o9 = pj_Ends 3 (22, L, .ref N :: st, (N + 1, S + n', pj_up H N (.inr (0, n', .inl (fun _ => 0))))) o9 := pj_xs (s3_20 hn he hb)
theorem q3_22 : pj_row 3 22 = some (.putfield 18, 3, 3, 2, 0) := by decide +kernel
theorem s3_22 {L : pj_Loc} {st : List Value} {N S : Nat} {H : pj_Heap} {o : Nat} {v : Value} : pj_step 3 (22, L, v :: .ref o :: st, (N, S, H)) = pj_set 25 L st (N, S, H) o (pj_fset (H o) 3 2 v) := st_putfield q3_22
theorem x3_22 {L : pj_Loc} {st : List Value} {N S : Nat} {H : pj_Heap} {o : Nat} {v : Value} {o9 : Option Value × pj_Mem} : pj_Ends 3 (22, L, v :: .ref o :: st, (N, S, H)) o9 = pj_then 3 o9 (pj_set 25 L st (N, S, H) o (pj_fset (H o) 3 2 v)) := pj_xt q3_22 rfl (pj_cl_nc rfl) (s3_22)
theorem q3_25 : pj_row 3 25 = some (.aload_n 0, 1, 0, 0, 0) := by decide +kernel
theorem s3_25 {st : List Value} {M : pj_Mem} {l : pj_Loc} {x : Nat} : pj_step 3 (25, some (.ref x) :: l, st, M) = some (26, some (.ref x) :: l, .ref x :: st, M) := st_aload_n q3_25 rfl
theorem x3_25 {st : List Value} {M : pj_Mem} {l : pj_Loc} {x : Nat} {o9 : Option Value × pj_Mem} : pj_Ends 3 (25, some (.ref x) :: l, st, M) o9 = pj_Ends 3 (26, some (.ref x) :: l, .ref x :: st, M) o9 := pj_xs (s3_25)
theorem q3_26 : pj_row 3 26 = some (.iconst 3, 1, 0, 0, 0) := by decide +kernel
theorem s3_26 {L : pj_Loc} {st : List Value} {M : pj_Mem}  : pj_step 3 (26, L, st, M) = some (27, L, .int 3 :: st, M) := st_iconst q3_26 (by decide +kernel)
theorem x3_26 {L : pj_Loc} {st : List Value} {M : pj_Mem}  {o9 : Option Value × pj_Mem} : pj_Ends 3 (26, L, st, M) o9 = pj_Ends 3 (27, L, .int 3 :: st, M) o9 := pj_xs (s3_26)
theorem q3_27 : pj_row 3 27 = some (.newarray .int, 2, 0, 0, 0) := by decide +kernel
theorem s3_27 {L : pj_Loc} {st : List Value} {N S : Nat} {H : pj_Heap} {x : Int32} {n' : Nat} (hn : ¬ x < 0) (he : x.toNatClampNeg = n') (hb : n' ≤ 100000) : pj_step 3 (27, L, .int x :: st, (N, S, H)) = some (29, L, .ref N :: st, (N + 1, S + n', pj_up H N (.inr (0, n', .inl (fun _ => 0))))) := (st_newarray q3_27 hn he hb).trans rfl
theorem x3_27 {L : pj_Loc} {st : List Value} {N S : Nat} {H : pj_Heap} {x : Int32} {n' : Nat} (hn : ¬ x < 0) (he : x.toNatClampNeg = n') (hb : n' ≤ 100000) {o9 : Option Value × pj_Mem} : pj_Ends 3 (27, L, .int x :: st, (N, S, H)) o9 = pj_Ends 3 (29, L, .ref N :: st, (N + 1, S + n', pj_up H N (.inr (0, n', .inl (fun _ => 0))))) o9 := pj_xs (s3_27 hn he hb)
theorem q3_29 : pj_row 3 29 = some (.putfield 21, 3, 3, 3, 0) := by decide +kernel
theorem s3_29 {L : pj_Loc} {st : List Value} {N S : Nat} {H : pj_Heap} {o : Nat} {v : Value} : pj_step 3 (29, L, v :: .ref o :: st, (N, S, H)) = pj_set 32 L st (N, S, H) o (pj_fset (H o) 3 3 v) := st_putfield q3_29
theorem x3_29 {L : pj_Loc} {st : List Value} {N S : Nat} {H : pj_Heap} {o : Nat} {v : Value} {o9 : Option Value × pj_Mem} : pj_Ends 3 (29, L, v :: .ref o :: st, (N, S, H)) o9 = pj_then 3 o9 (pj_set 32 L st (N, S, H) o (pj_fset (H o) 3 3 v)) := pj_xt q3_29 rfl (pj_cl_nc rfl) (s3_29)
theorem q3_32 : pj_row 3 32 = some (.aload_n 0, 1, 0, 0, 0) := by decide +kernel
theorem s3_32 {st : List Value} {M : pj_Mem} {l : pj_Loc} {x : Nat} : pj_step 3 (32, some (.ref x) :: l, st, M) = some (33, some (.ref x) :: l, .ref x :: st, M) := st_aload_n q3_32 rfl
theorem x3_32 {st : List Value} {M : pj_Mem} {l : pj_Loc} {x : Nat} {o9 : Option Value × pj_Mem} : pj_Ends 3 (32, some (.ref x) :: l, st, M) o9 = pj_Ends 3 (33, some (.ref x) :: l, .ref x :: st, M) o9 := pj_xs (s3_32)
theorem q3_33 : pj_row 3 33 = some (.iconst 3, 1, 0, 0, 0) := by decide +kernel
theorem s3_33 {L : pj_Loc} {st : List Value} {M : pj_Mem}  : pj_step 3 (33, L, st, M) = some (34, L, .int 3 :: st, M) := st_iconst q3_33 (by decide +kernel)
theorem x3_33 {L : pj_Loc} {st : List Value} {M : pj_Mem}  {o9 : Option Value × pj_Mem} : pj_Ends 3 (33, L, st, M) o9 = pj_Ends 3 (34, L, .int 3 :: st, M) o9 := pj_xs (s3_33)
theorem q3_34 : pj_row 3 34 = some (.newarray .int, 2, 0, 0, 0) := by decide +kernel
theorem s3_34 {L : pj_Loc} {st : List Value} {N S : Nat} {H : pj_Heap} {x : Int32} {n' : Nat} (hn : ¬ x < 0) (he : x.toNatClampNeg = n') (hb : n' ≤ 100000) : pj_step 3 (34, L, .int x :: st, (N, S, H)) = some (36, L, .ref N :: st, (N + 1, S + n', pj_up H N (.inr (0, n', .inl (fun _ => 0))))) := (st_newarray q3_34 hn he hb).trans rfl
theorem x3_34 {L : pj_Loc} {st : List Value} {N S : Nat} {H : pj_Heap} {x : Int32} {n' : Nat} (hn : ¬ x < 0) (he : x.toNatClampNeg = n') (hb : n' ≤ 100000) {o9 : Option Value × pj_Mem} : pj_Ends 3 (34, L, .int x :: st, (N, S, H)) o9 = pj_Ends 3 (36, L, .ref N :: st, (N + 1, S + n', pj_up H N (.inr (0, n', .inl (fun _ => 0))))) o9 := pj_xs (s3_34 hn he hb)
theorem q3_36 : pj_row 3 36 = some (.putfield 24, 3, 3, 4, 0) := by decide +kernel
theorem s3_36 {L : pj_Loc} {st : List Value} {N S : Nat} {H : pj_Heap} {o : Nat} {v : Value} : pj_step 3 (36, L, v :: .ref o :: st, (N, S, H)) = pj_set 39 L st (N, S, H) o (pj_fset (H o) 3 4 v) := st_putfield q3_36
theorem x3_36 {L : pj_Loc} {st : List Value} {N S : Nat} {H : pj_Heap} {o : Nat} {v : Value} {o9 : Option Value × pj_Mem} : pj_Ends 3 (36, L, v :: .ref o :: st, (N, S, H)) o9 = pj_then 3 o9 (pj_set 39 L st (N, S, H) o (pj_fset (H o) 3 4 v)) := pj_xt q3_36 rfl (pj_cl_nc rfl) (s3_36)
theorem q3_39 : pj_row 3 39 = some (.aload_n 0, 1, 0, 0, 0) := by decide +kernel
theorem s3_39 {st : List Value} {M : pj_Mem} {l : pj_Loc} {x : Nat} : pj_step 3 (39, some (.ref x) :: l, st, M) = some (40, some (.ref x) :: l, .ref x :: st, M) := st_aload_n q3_39 rfl
theorem x3_39 {st : List Value} {M : pj_Mem} {l : pj_Loc} {x : Nat} {o9 : Option Value × pj_Mem} : pj_Ends 3 (39, some (.ref x) :: l, st, M) o9 = pj_Ends 3 (40, some (.ref x) :: l, .ref x :: st, M) o9 := pj_xs (s3_39)
theorem q3_40 : pj_row 3 40 = some (.iconst 3, 1, 0, 0, 0) := by decide +kernel
theorem s3_40 {L : pj_Loc} {st : List Value} {M : pj_Mem}  : pj_step 3 (40, L, st, M) = some (41, L, .int 3 :: st, M) := st_iconst q3_40 (by decide +kernel)
theorem x3_40 {L : pj_Loc} {st : List Value} {M : pj_Mem}  {o9 : Option Value × pj_Mem} : pj_Ends 3 (40, L, st, M) o9 = pj_Ends 3 (41, L, .int 3 :: st, M) o9 := pj_xs (s3_40)
theorem q3_41 : pj_row 3 41 = some (.newarray .int, 2, 0, 0, 0) := by decide +kernel
theorem s3_41 {L : pj_Loc} {st : List Value} {N S : Nat} {H : pj_Heap} {x : Int32} {n' : Nat} (hn : ¬ x < 0) (he : x.toNatClampNeg = n') (hb : n' ≤ 100000) : pj_step 3 (41, L, .int x :: st, (N, S, H)) = some (43, L, .ref N :: st, (N + 1, S + n', pj_up H N (.inr (0, n', .inl (fun _ => 0))))) := (st_newarray q3_41 hn he hb).trans rfl
theorem x3_41 {L : pj_Loc} {st : List Value} {N S : Nat} {H : pj_Heap} {x : Int32} {n' : Nat} (hn : ¬ x < 0) (he : x.toNatClampNeg = n') (hb : n' ≤ 100000) {o9 : Option Value × pj_Mem} : pj_Ends 3 (41, L, .int x :: st, (N, S, H)) o9 = pj_Ends 3 (43, L, .ref N :: st, (N + 1, S + n', pj_up H N (.inr (0, n', .inl (fun _ => 0))))) o9 := pj_xs (s3_41 hn he hb)
theorem q3_43 : pj_row 3 43 = some (.putfield 27, 3, 3, 5, 0) := by decide +kernel
theorem s3_43 {L : pj_Loc} {st : List Value} {N S : Nat} {H : pj_Heap} {o : Nat} {v : Value} : pj_step 3 (43, L, v :: .ref o :: st, (N, S, H)) = pj_set 46 L st (N, S, H) o (pj_fset (H o) 3 5 v) := st_putfield q3_43
theorem x3_43 {L : pj_Loc} {st : List Value} {N S : Nat} {H : pj_Heap} {o : Nat} {v : Value} {o9 : Option Value × pj_Mem} : pj_Ends 3 (43, L, v :: .ref o :: st, (N, S, H)) o9 = pj_then 3 o9 (pj_set 46 L st (N, S, H) o (pj_fset (H o) 3 5 v)) := pj_xt q3_43 rfl (pj_cl_nc rfl) (s3_43)
theorem q3_46 : pj_row 3 46 = some (.return_, 1, 0, 0, 0) := by decide +kernel
theorem t3_46 {L : pj_Loc} {M : pj_Mem} : pj_Ends 3 (46, L, [], M) (none, M) := pj_Ends.ret q3_46 (pj_rtn_v rt3)
theorem rt4 : pj_rt 4 = none := rfl
theorem q4_0 : pj_row 4 0 = some (.aload_n 0, 1, 0, 0, 0) := by decide +kernel
theorem s4_0 {st : List Value} {M : pj_Mem} {l : pj_Loc} {x : Nat} : pj_step 4 (0, some (.ref x) :: l, st, M) = some (1, some (.ref x) :: l, .ref x :: st, M) := st_aload_n q4_0 rfl
theorem x4_0 {st : List Value} {M : pj_Mem} {l : pj_Loc} {x : Nat} {o9 : Option Value × pj_Mem} : pj_Ends 4 (0, some (.ref x) :: l, st, M) o9 = pj_Ends 4 (1, some (.ref x) :: l, .ref x :: st, M) o9 := pj_xs (s4_0)
theorem q4_1 : pj_row 4 1 = some (.invokespecial 3, 3, 0, 1, 2) := by decide +kernel
theorem s4_1 {L : pj_Loc} {st : List Value} {M : pj_Mem} {o : Nat} : pj_step 4 (1, L, .ref o :: st, M) = pj_g4 st (some (4, L, st, M)) := st_obj q4_1
theorem x4_1 {L : pj_Loc} {st : List Value} {M : pj_Mem} {o : Nat} {o9 : Option Value × pj_Mem} : pj_Ends 4 (1, L, .ref o :: st, M) o9 = pj_then 4 o9 (pj_g4 st (some (4, L, st, M))) := pj_xt q4_1 rfl rfl (s4_1)
theorem q4_4 : pj_row 4 4 = some (.aload_n 0, 1, 0, 0, 0) := by decide +kernel
theorem s4_4 {st : List Value} {M : pj_Mem} {l : pj_Loc} {x : Nat} : pj_step 4 (4, some (.ref x) :: l, st, M) = some (5, some (.ref x) :: l, .ref x :: st, M) := st_aload_n q4_4 rfl
theorem x4_4 {st : List Value} {M : pj_Mem} {l : pj_Loc} {x : Nat} {o9 : Option Value × pj_Mem} : pj_Ends 4 (4, some (.ref x) :: l, st, M) o9 = pj_Ends 4 (5, some (.ref x) :: l, .ref x :: st, M) o9 := pj_xs (s4_4)
theorem q4_5 : pj_row 4 5 = some (.bipush 80, 2, 0, 0, 0) := by decide +kernel
theorem s4_5 {L : pj_Loc} {st : List Value} {M : pj_Mem}  : pj_step 4 (5, L, st, M) = some (7, L, .int 80 :: st, M) := st_bipush q4_5 (by decide +kernel)
theorem x4_5 {L : pj_Loc} {st : List Value} {M : pj_Mem}  {o9 : Option Value × pj_Mem} : pj_Ends 4 (5, L, st, M) o9 = pj_Ends 4 (7, L, .int 80 :: st, M) o9 := pj_xs (s4_5)
theorem q4_7 : pj_row 4 7 = some (.newarray .char, 2, 1, 0, 0) := by decide +kernel
theorem s4_7 {L : pj_Loc} {st : List Value} {N S : Nat} {H : pj_Heap} {x : Int32} {n' : Nat} (hn : ¬ x < 0) (he : x.toNatClampNeg = n') (hb : n' ≤ 100000) : pj_step 4 (7, L, .int x :: st, (N, S, H)) = some (9, L, .ref N :: st, (N + 1, S + n', pj_up H N (.inr (1, n', .inl (fun _ => 0))))) := (st_newarray q4_7 hn he hb).trans rfl
theorem x4_7 {L : pj_Loc} {st : List Value} {N S : Nat} {H : pj_Heap} {x : Int32} {n' : Nat} (hn : ¬ x < 0) (he : x.toNatClampNeg = n') (hb : n' ≤ 100000) {o9 : Option Value × pj_Mem} : pj_Ends 4 (7, L, .int x :: st, (N, S, H)) o9 = pj_Ends 4 (9, L, .ref N :: st, (N + 1, S + n', pj_up H N (.inr (1, n', .inl (fun _ => 0))))) o9 := pj_xs (s4_7 hn he hb)
theorem q4_9 : pj_row 4 9 = some (.putfield 9, 3, 0, 0, 0) := by decide +kernel
theorem s4_9 {L : pj_Loc} {st : List Value} {N S : Nat} {H : pj_Heap} {o : Nat} {v : Value} : pj_step 4 (9, L, v :: .ref o :: st, (N, S, H)) = pj_set 12 L st (N, S, H) o (pj_fset (H o) 0 0 v) := st_putfield q4_9
theorem x4_9 {L : pj_Loc} {st : List Value} {N S : Nat} {H : pj_Heap} {o : Nat} {v : Value} {o9 : Option Value × pj_Mem} : pj_Ends 4 (9, L, v :: .ref o :: st, (N, S, H)) o9 = pj_then 4 o9 (pj_set 12 L st (N, S, H) o (pj_fset (H o) 0 0 v)) := pj_xt q4_9 rfl (pj_cl_nc rfl) (s4_9)
theorem q4_12 : pj_row 4 12 = some (.aload_n 0, 1, 0, 0, 0) := by decide +kernel
theorem s4_12 {st : List Value} {M : pj_Mem} {l : pj_Loc} {x : Nat} : pj_step 4 (12, some (.ref x) :: l, st, M) = some (13, some (.ref x) :: l, .ref x :: st, M) := st_aload_n q4_12 rfl
theorem x4_12 {st : List Value} {M : pj_Mem} {l : pj_Loc} {x : Nat} {o9 : Option Value × pj_Mem} : pj_Ends 4 (12, some (.ref x) :: l, st, M) o9 = pj_Ends 4 (13, some (.ref x) :: l, .ref x :: st, M) o9 := pj_xs (s4_12)
theorem q4_13 : pj_row 4 13 = some (.new 15, 3, 1, 0, 0) := by decide +kernel
theorem s4_13 {L : pj_Loc} {st : List Value} {N S : Nat} {H : pj_Heap}  : pj_step 4 (13, L, st, (N, S, H)) = some (16, L, .ref N :: st, (N + 1, S + 6, pj_up H N (.inl (1, [.null, .int 0, .int 0, .int 0, .int 0, .int 0])))) := (st_new q4_13).trans rfl
theorem x4_13 {L : pj_Loc} {st : List Value} {N S : Nat} {H : pj_Heap}  {o9 : Option Value × pj_Mem} : pj_Ends 4 (13, L, st, (N, S, H)) o9 = pj_Ends 4 (16, L, .ref N :: st, (N + 1, S + 6, pj_up H N (.inl (1, [.null, .int 0, .int 0, .int 0, .int 0, .int 0])))) o9 := pj_xs (s4_13)
theorem q4_16 : pj_row 4 16 = some (.dup, 1, 0, 0, 0) := by decide +kernel
theorem s4_16 {L : pj_Loc} {st : List Value} {M : pj_Mem} {x : Nat} : pj_step 4 (16, L, .ref x :: st, M) = some (17, L, .ref x :: .ref x :: st, M) := st_dup_ref q4_16
theorem x4_16 {L : pj_Loc} {st : List Value} {M : pj_Mem} {x : Nat} {o9 : Option Value × pj_Mem} : pj_Ends 4 (16, L, .ref x :: st, M) o9 = pj_Ends 4 (17, L, .ref x :: .ref x :: st, M) o9 := pj_xs (s4_16)
theorem s4_16i {L : pj_Loc} {st : List Value} {M : pj_Mem} {x : Int32} : pj_step 4 (16, L, .int x :: st, M) = some (17, L, .int x :: .int x :: st, M) := st_dup_int q4_16
theorem x4_16i {L : pj_Loc} {st : List Value} {M : pj_Mem} {x : Int32} {o9 : Option Value × pj_Mem} : pj_Ends 4 (16, L, .int x :: st, M) o9 = pj_Ends 4 (17, L, .int x :: .int x :: st, M) o9 := pj_xs (s4_16i)
theorem q4_17 : pj_row 4 17 = some (.invokespecial 17, 3, 5, 1, 1) := by decide +kernel
theorem e4_17 {L : pj_Loc} {st : List Value} {N S : Nat} {H : pj_Heap} {o : Option Value × pj_Mem} {M' : pj_Mem} {x0 : Nat} (h4 : pj_le4 st = true) (h1 : pj_Ends 5 (0, [some (.ref x0)], [], (N, S, H)) (none, M')) (h2 : pj_Ends 4 (20, L, st, M') o) : pj_Ends 4 (17, L, .ref x0 :: st, (N, S, H)) o := ec_i1 q4_17 (Or.inr rfl) h4 rfl h1 h2
theorem q4_20 : pj_row 4 20 = some (.putfield 18, 3, 0, 1, 0) := by decide +kernel
theorem s4_20 {L : pj_Loc} {st : List Value} {N S : Nat} {H : pj_Heap} {o : Nat} {v : Value} : pj_step 4 (20, L, v :: .ref o :: st, (N, S, H)) = pj_set 23 L st (N, S, H) o (pj_fset (H o) 0 1 v) := st_putfield q4_20
theorem x4_20 {L : pj_Loc} {st : List Value} {N S : Nat} {H : pj_Heap} {o : Nat} {v : Value} {o9 : Option Value × pj_Mem} : pj_Ends 4 (20, L, v :: .ref o :: st, (N, S, H)) o9 = pj_then 4 o9 (pj_set 23 L st (N, S, H) o (pj_fset (H o) 0 1 v)) := pj_xt q4_20 rfl (pj_cl_nc rfl) (s4_20)
theorem q4_23 : pj_row 4 23 = some (.return_, 1, 0, 0, 0) := by decide +kernel
theorem t4_23 {L : pj_Loc} {M : pj_Mem} : pj_Ends 4 (23, L, [], M) (none, M) := pj_Ends.ret q4_23 (pj_rtn_v rt4)
theorem rt5 : pj_rt 5 = none := rfl
theorem q5_0 : pj_row 5 0 = some (.aload_n 0, 1, 0, 0, 0) := by decide +kernel
theorem s5_0 {st : List Value} {M : pj_Mem} {l : pj_Loc} {x : Nat} : pj_step 5 (0, some (.ref x) :: l, st, M) = some (1, some (.ref x) :: l, .ref x :: st, M) := st_aload_n q5_0 rfl
theorem x5_0 {st : List Value} {M : pj_Mem} {l : pj_Loc} {x : Nat} {o9 : Option Value × pj_Mem} : pj_Ends 5 (0, some (.ref x) :: l, st, M) o9 = pj_Ends 5 (1, some (.ref x) :: l, .ref x :: st, M) o9 := pj_xs (s5_0)
theorem q5_1 : pj_row 5 1 = some (.invokespecial 3, 3, 0, 1, 2) := by decide +kernel
theorem s5_1 {L : pj_Loc} {st : List Value} {M : pj_Mem} {o : Nat} : pj_step 5 (1, L, .ref o :: st, M) = pj_g4 st (some (4, L, st, M)) := st_obj q5_1
theorem x5_1 {L : pj_Loc} {st : List Value} {M : pj_Mem} {o : Nat} {o9 : Option Value × pj_Mem} : pj_Ends 5 (1, L, .ref o :: st, M) o9 = pj_then 5 o9 (pj_g4 st (some (4, L, st, M))) := pj_xt q5_1 rfl rfl (s5_1)
theorem q5_4 : pj_row 5 4 = some (.aload_n 0, 1, 0, 0, 0) := by decide +kernel
theorem s5_4 {st : List Value} {M : pj_Mem} {l : pj_Loc} {x : Nat} : pj_step 5 (4, some (.ref x) :: l, st, M) = some (5, some (.ref x) :: l, .ref x :: st, M) := st_aload_n q5_4 rfl
theorem x5_4 {st : List Value} {M : pj_Mem} {l : pj_Loc} {x : Nat} {o9 : Option Value × pj_Mem} : pj_Ends 5 (4, some (.ref x) :: l, st, M) o9 = pj_Ends 5 (5, some (.ref x) :: l, .ref x :: st, M) o9 := pj_xs (s5_4)
theorem q5_5 : pj_row 5 5 = some (.iconst 3, 1, 0, 0, 0) := by decide +kernel
theorem s5_5 {L : pj_Loc} {st : List Value} {M : pj_Mem}  : pj_step 5 (5, L, st, M) = some (6, L, .int 3 :: st, M) := st_iconst q5_5 (by decide +kernel)
theorem x5_5 {L : pj_Loc} {st : List Value} {M : pj_Mem}  {o9 : Option Value × pj_Mem} : pj_Ends 5 (5, L, st, M) o9 = pj_Ends 5 (6, L, .int 3 :: st, M) o9 := pj_xs (s5_5)
theorem q5_6 : pj_row 5 6 = some (.newarray .int, 2, 0, 0, 0) := by decide +kernel
theorem s5_6 {L : pj_Loc} {st : List Value} {N S : Nat} {H : pj_Heap} {x : Int32} {n' : Nat} (hn : ¬ x < 0) (he : x.toNatClampNeg = n') (hb : n' ≤ 100000) : pj_step 5 (6, L, .int x :: st, (N, S, H)) = some (8, L, .ref N :: st, (N + 1, S + n', pj_up H N (.inr (0, n', .inl (fun _ => 0))))) := (st_newarray q5_6 hn he hb).trans rfl
theorem x5_6 {L : pj_Loc} {st : List Value} {N S : Nat} {H : pj_Heap} {x : Int32} {n' : Nat} (hn : ¬ x < 0) (he : x.toNatClampNeg = n') (hb : n' ≤ 100000) {o9 : Option Value × pj_Mem} : pj_Ends 5 (6, L, .int x :: st, (N, S, H)) o9 = pj_Ends 5 (8, L, .ref N :: st, (N + 1, S + n', pj_up H N (.inr (0, n', .inl (fun _ => 0))))) o9 := pj_xs (s5_6 hn he hb)
theorem q5_8 : pj_row 5 8 = some (.putfield 9, 3, 1, 0, 0) := by decide +kernel
theorem s5_8 {L : pj_Loc} {st : List Value} {N S : Nat} {H : pj_Heap} {o : Nat} {v : Value} : pj_step 5 (8, L, v :: .ref o :: st, (N, S, H)) = pj_set 11 L st (N, S, H) o (pj_fset (H o) 1 0 v) := st_putfield q5_8
theorem x5_8 {L : pj_Loc} {st : List Value} {N S : Nat} {H : pj_Heap} {o : Nat} {v : Value} {o9 : Option Value × pj_Mem} : pj_Ends 5 (8, L, v :: .ref o :: st, (N, S, H)) o9 = pj_then 5 o9 (pj_set 11 L st (N, S, H) o (pj_fset (H o) 1 0 v)) := pj_xt q5_8 rfl (pj_cl_nc rfl) (s5_8)
theorem q5_11 : pj_row 5 11 = some (.return_, 1, 0, 0, 0) := by decide +kernel
theorem t5_11 {L : pj_Loc} {M : pj_Mem} : pj_Ends 5 (11, L, [], M) (none, M) := pj_Ends.ret q5_11 (pj_rtn_v rt5)
theorem rt6 : pj_rt 6 = some (.array (.object "VotedCharge$Unit")) := rfl
theorem q6_0 : pj_row 6 0 = some (.iload_n 0, 1, 0, 0, 0) := by decide +kernel
theorem s6_0 {st : List Value} {M : pj_Mem} {l : pj_Loc} {x : Int32} : pj_step 6 (0, some (.int x) :: l, st, M) = some (1, some (.int x) :: l, .int x :: st, M) := st_iload_n q6_0 rfl
theorem x6_0 {st : List Value} {M : pj_Mem} {l : pj_Loc} {x : Int32} {o9 : Option Value × pj_Mem} : pj_Ends 6 (0, some (.int x) :: l, st, M) o9 = pj_Ends 6 (1, some (.int x) :: l, .int x :: st, M) o9 := pj_xs (s6_0)
theorem q6_1 : pj_row 6 1 = some (.anewarray 7, 3, 3, 0, 0) := by decide +kernel
theorem s6_1 {L : pj_Loc} {st : List Value} {N S : Nat} {H : pj_Heap} {x : Int32} {n' : Nat} (hn : ¬ x < 0) (he : x.toNatClampNeg = n') (hb : n' ≤ 100000) : pj_step 6 (1, L, .int x :: st, (N, S, H)) = some (4, L, .ref N :: st, (N + 1, S + n', pj_up H N (.inr (3, n', .inr (fun _ => none))))) := (st_anewarray q6_1 hn he hb).trans rfl
theorem x6_1 {L : pj_Loc} {st : List Value} {N S : Nat} {H : pj_Heap} {x : Int32} {n' : Nat} (hn : ¬ x < 0) (he : x.toNatClampNeg = n') (hb : n' ≤ 100000) {o9 : Option Value × pj_Mem} : pj_Ends 6 (1, L, .int x :: st, (N, S, H)) o9 = pj_Ends 6 (4, L, .ref N :: st, (N + 1, S + n', pj_up H N (.inr (3, n', .inr (fun _ => none))))) o9 := pj_xs (s6_1 hn he hb)
theorem q6_4 : pj_row 6 4 = some (.astore_n 1, 1, 0, 0, 0) := by decide +kernel
theorem s6_4 {st : List Value} {M : pj_Mem} {l : pj_Loc} {a0 a1 : Option Value} {x : Nat} (h : pj_long a0 = false) : pj_step 6 (4, a0 :: a1 :: l, .ref x :: st, M) = some (5, a0 :: some (.ref x) :: l, st, M) := st_astore_n q6_4 (pj_st_1 h)
theorem x6_4 {st : List Value} {M : pj_Mem} {l : pj_Loc} {a0 a1 : Option Value} {x : Nat} (h : pj_long a0 = false) {o9 : Option Value × pj_Mem} : pj_Ends 6 (4, a0 :: a1 :: l, .ref x :: st, M) o9 = pj_Ends 6 (5, a0 :: some (.ref x) :: l, st, M) o9 := pj_xs (s6_4 h)
theorem q6_5 : pj_row 6 5 = some (.iconst 0, 1, 0, 0, 0) := by decide +kernel
theorem s6_5 {L : pj_Loc} {st : List Value} {M : pj_Mem}  : pj_step 6 (5, L, st, M) = some (6, L, .int 0 :: st, M) := st_iconst q6_5 (by decide +kernel)
theorem x6_5 {L : pj_Loc} {st : List Value} {M : pj_Mem}  {o9 : Option Value × pj_Mem} : pj_Ends 6 (5, L, st, M) o9 = pj_Ends 6 (6, L, .int 0 :: st, M) o9 := pj_xs (s6_5)
theorem q6_6 : pj_row 6 6 = some (.istore_n 2, 1, 0, 0, 0) := by decide +kernel
theorem s6_6 {st : List Value} {M : pj_Mem} {l : pj_Loc} {a0 a1 a2 : Option Value} {x : Int32} (h : pj_long a1 = false) : pj_step 6 (6, a0 :: a1 :: a2 :: l, .int x :: st, M) = some (7, a0 :: a1 :: some (.int x) :: l, st, M) := st_istore_n q6_6 (pj_st_2 h)
theorem x6_6 {st : List Value} {M : pj_Mem} {l : pj_Loc} {a0 a1 a2 : Option Value} {x : Int32} (h : pj_long a1 = false) {o9 : Option Value × pj_Mem} : pj_Ends 6 (6, a0 :: a1 :: a2 :: l, .int x :: st, M) o9 = pj_Ends 6 (7, a0 :: a1 :: some (.int x) :: l, st, M) o9 := pj_xs (s6_6 h)
theorem q6_7 : pj_row 6 7 = some (.iload_n 2, 1, 0, 0, 0) := by decide +kernel
theorem s6_7 {st : List Value} {M : pj_Mem} {l : pj_Loc} {a0 a1 : Option Value} {x : Int32} : pj_step 6 (7, a0 :: a1 :: some (.int x) :: l, st, M) = some (8, a0 :: a1 :: some (.int x) :: l, .int x :: st, M) := st_iload_n q6_7 rfl
theorem x6_7 {st : List Value} {M : pj_Mem} {l : pj_Loc} {a0 a1 : Option Value} {x : Int32} {o9 : Option Value × pj_Mem} : pj_Ends 6 (7, a0 :: a1 :: some (.int x) :: l, st, M) o9 = pj_Ends 6 (8, a0 :: a1 :: some (.int x) :: l, .int x :: st, M) o9 := pj_xs (s6_7)
theorem q6_8 : pj_row 6 8 = some (.aload_n 1, 1, 0, 0, 0) := by decide +kernel
theorem s6_8 {st : List Value} {M : pj_Mem} {l : pj_Loc} {a0 : Option Value} {x : Nat} : pj_step 6 (8, a0 :: some (.ref x) :: l, st, M) = some (9, a0 :: some (.ref x) :: l, .ref x :: st, M) := st_aload_n q6_8 rfl
theorem x6_8 {st : List Value} {M : pj_Mem} {l : pj_Loc} {a0 : Option Value} {x : Nat} {o9 : Option Value × pj_Mem} : pj_Ends 6 (8, a0 :: some (.ref x) :: l, st, M) o9 = pj_Ends 6 (9, a0 :: some (.ref x) :: l, .ref x :: st, M) o9 := pj_xs (s6_8)
theorem q6_9 : pj_row 6 9 = some (.arraylength, 1, 0, 0, 0) := by decide +kernel
theorem s6_9 {L : pj_Loc} {st : List Value} {N S : Nat} {H : pj_Heap} {o : Nat} : pj_step 6 (9, L, .ref o :: st, (N, S, H)) = pj_pi 10 L st (N, S, H) (pj_len (H o)) := st_arraylength q6_9
theorem x6_9 {L : pj_Loc} {st : List Value} {N S : Nat} {H : pj_Heap} {o : Nat} {o9 : Option Value × pj_Mem} : pj_Ends 6 (9, L, .ref o :: st, (N, S, H)) o9 = pj_then 6 o9 (pj_pi 10 L st (N, S, H) (pj_len (H o))) := pj_xt q6_9 rfl (pj_cl_nc rfl) (s6_9)
theorem q6_10 : pj_row 6 10 = some (.if_icmp .ge 19, 3, 29, 0, 0) := by decide +kernel
theorem s6_10 {L : pj_Loc} {st : List Value} {M : pj_Mem} {x y : Int32} : pj_step 6 (10, L, .int y :: .int x :: st, M) = some (if y ≤ x then 29 else 13, L, st, M) := st_icmp_ge q6_10
theorem x6_10 {L : pj_Loc} {st : List Value} {M : pj_Mem} {x y : Int32} {o9 : Option Value × pj_Mem} : pj_Ends 6 (10, L, .int y :: .int x :: st, M) o9 = pj_Ends 6 (if y ≤ x then 29 else 13, L, st, M) o9 := pj_xs (s6_10)
theorem q6_13 : pj_row 6 13 = some (.aload_n 1, 1, 0, 0, 0) := by decide +kernel
theorem s6_13 {st : List Value} {M : pj_Mem} {l : pj_Loc} {a0 : Option Value} {x : Nat} : pj_step 6 (13, a0 :: some (.ref x) :: l, st, M) = some (14, a0 :: some (.ref x) :: l, .ref x :: st, M) := st_aload_n q6_13 rfl
theorem x6_13 {st : List Value} {M : pj_Mem} {l : pj_Loc} {a0 : Option Value} {x : Nat} {o9 : Option Value × pj_Mem} : pj_Ends 6 (13, a0 :: some (.ref x) :: l, st, M) o9 = pj_Ends 6 (14, a0 :: some (.ref x) :: l, .ref x :: st, M) o9 := pj_xs (s6_13)
theorem q6_14 : pj_row 6 14 = some (.iload_n 2, 1, 0, 0, 0) := by decide +kernel
theorem s6_14 {st : List Value} {M : pj_Mem} {l : pj_Loc} {a0 a1 : Option Value} {x : Int32} : pj_step 6 (14, a0 :: a1 :: some (.int x) :: l, st, M) = some (15, a0 :: a1 :: some (.int x) :: l, .int x :: st, M) := st_iload_n q6_14 rfl
theorem x6_14 {st : List Value} {M : pj_Mem} {l : pj_Loc} {a0 a1 : Option Value} {x : Int32} {o9 : Option Value × pj_Mem} : pj_Ends 6 (14, a0 :: a1 :: some (.int x) :: l, st, M) o9 = pj_Ends 6 (15, a0 :: a1 :: some (.int x) :: l, .int x :: st, M) o9 := pj_xs (s6_14)
theorem q6_15 : pj_row 6 15 = some (.new 7, 3, 4, 0, 0) := by decide +kernel
theorem s6_15 {L : pj_Loc} {st : List Value} {N S : Nat} {H : pj_Heap}  : pj_step 6 (15, L, st, (N, S, H)) = some (18, L, .ref N :: st, (N + 1, S + 11, pj_up H N (.inl (4, [.null, .null, .null, .null, .null, .null, .null, .int 0, .int 0, .int 0, .int 0])))) := (st_new q6_15).trans rfl
theorem x6_15 {L : pj_Loc} {st : List Value} {N S : Nat} {H : pj_Heap}  {o9 : Option Value × pj_Mem} : pj_Ends 6 (15, L, st, (N, S, H)) o9 = pj_Ends 6 (18, L, .ref N :: st, (N + 1, S + 11, pj_up H N (.inl (4, [.null, .null, .null, .null, .null, .null, .null, .int 0, .int 0, .int 0, .int 0])))) o9 := pj_xs (s6_15)
theorem q6_18 : pj_row 6 18 = some (.dup, 1, 0, 0, 0) := by decide +kernel
theorem s6_18 {L : pj_Loc} {st : List Value} {M : pj_Mem} {x : Nat} : pj_step 6 (18, L, .ref x :: st, M) = some (19, L, .ref x :: .ref x :: st, M) := st_dup_ref q6_18
theorem x6_18 {L : pj_Loc} {st : List Value} {M : pj_Mem} {x : Nat} {o9 : Option Value × pj_Mem} : pj_Ends 6 (18, L, .ref x :: st, M) o9 = pj_Ends 6 (19, L, .ref x :: .ref x :: st, M) o9 := pj_xs (s6_18)
theorem s6_18i {L : pj_Loc} {st : List Value} {M : pj_Mem} {x : Int32} : pj_step 6 (18, L, .int x :: st, M) = some (19, L, .int x :: .int x :: st, M) := st_dup_int q6_18
theorem x6_18i {L : pj_Loc} {st : List Value} {M : pj_Mem} {x : Int32} {o9 : Option Value × pj_Mem} : pj_Ends 6 (18, L, .int x :: st, M) o9 = pj_Ends 6 (19, L, .int x :: .int x :: st, M) o9 := pj_xs (s6_18i)
theorem q6_19 : pj_row 6 19 = some (.invokespecial 9, 3, 1, 1, 0) := by decide +kernel
theorem e6_19 {L : pj_Loc} {st : List Value} {N S : Nat} {H : pj_Heap} {o : Option Value × pj_Mem} {M' : pj_Mem} {x0 : Nat} (h4 : pj_le4 st = true) (h1 : pj_Ends 1 (0, [some (.ref x0), none], [], (N, S, H)) (none, M')) (h2 : pj_Ends 6 (22, L, st, M') o) : pj_Ends 6 (19, L, .ref x0 :: st, (N, S, H)) o := ec_i1 q6_19 (Or.inl rfl) h4 rfl h1 h2
theorem q6_22 : pj_row 6 22 = some (.aastore, 1, 0, 0, 0) := by decide +kernel
theorem s6_22 {L : pj_Loc} {st : List Value} {N S : Nat} {H : pj_Heap} {o x : Nat} {i : Int32} (hx : pj_isU 4 (H x) = true) : pj_step 6 (22, L, .ref x :: .int i :: .ref o :: st, (N, S, H)) = pj_set 23 L st (N, S, H) o (pj_qrs (H o) i x) := st_aastore q6_22 hx
theorem x6_22 {L : pj_Loc} {st : List Value} {N S : Nat} {H : pj_Heap} {o x : Nat} {i : Int32} (hx : pj_isU 4 (H x) = true) {o9 : Option Value × pj_Mem} : pj_Ends 6 (22, L, .ref x :: .int i :: .ref o :: st, (N, S, H)) o9 = pj_then 6 o9 (pj_set 23 L st (N, S, H) o (pj_qrs (H o) i x)) := pj_xt q6_22 rfl (pj_cl_nc rfl) (s6_22 hx)
theorem q6_23 : pj_row 6 23 = some (.iinc 2 1, 3, 0, 0, 0) := by decide +kernel
theorem s6_23 {st : List Value} {M : pj_Mem} {l : pj_Loc} {a0 a1 : Option Value} {x : Int32} (h : pj_long a1 = false) : pj_step 6 (23, a0 :: a1 :: some (.int x) :: l, st, M) = some (26, a0 :: a1 :: some (.int (x + 1)) :: l, st, M) := st_iinc q6_23 rfl (congrArg (fun y => x + y) (show Int32.ofInt 1 = 1 by decide +kernel)) (pj_st_2 h)
theorem x6_23 {st : List Value} {M : pj_Mem} {l : pj_Loc} {a0 a1 : Option Value} {x : Int32} (h : pj_long a1 = false) {o9 : Option Value × pj_Mem} : pj_Ends 6 (23, a0 :: a1 :: some (.int x) :: l, st, M) o9 = pj_Ends 6 (26, a0 :: a1 :: some (.int (x + 1)) :: l, st, M) o9 := pj_xs (s6_23 h)
theorem q6_26 : pj_row 6 26 = some (.goto (-19), 3, 7, 0, 0) := by decide +kernel
theorem s6_26 {L : pj_Loc} {st : List Value} {M : pj_Mem}  : pj_step 6 (26, L, st, M) = some (7, L, st, M) := st_goto q6_26
theorem x6_26 {L : pj_Loc} {st : List Value} {M : pj_Mem}  {o9 : Option Value × pj_Mem} : pj_Ends 6 (26, L, st, M) o9 = pj_Ends 6 (7, L, st, M) o9 := pj_xs (s6_26)
theorem q6_29 : pj_row 6 29 = some (.aload_n 1, 1, 0, 0, 0) := by decide +kernel
theorem s6_29 {st : List Value} {M : pj_Mem} {l : pj_Loc} {a0 : Option Value} {x : Nat} : pj_step 6 (29, a0 :: some (.ref x) :: l, st, M) = some (30, a0 :: some (.ref x) :: l, .ref x :: st, M) := st_aload_n q6_29 rfl
theorem x6_29 {st : List Value} {M : pj_Mem} {l : pj_Loc} {a0 : Option Value} {x : Nat} {o9 : Option Value × pj_Mem} : pj_Ends 6 (29, a0 :: some (.ref x) :: l, st, M) o9 = pj_Ends 6 (30, a0 :: some (.ref x) :: l, .ref x :: st, M) o9 := pj_xs (s6_29)
theorem q6_30 : pj_row 6 30 = some (.areturn, 1, 0, 0, 0) := by decide +kernel
theorem t6_30 {L : pj_Loc} {M : pj_Mem} {a : Nat} : pj_Ends 6 (30, L, [.ref a], M) (some (.ref a), M) := pj_Ends.ret q6_30 (pj_rtn_a rt6)
theorem rt7 : pj_rt 7 = some .int := rfl
theorem q7_0 : pj_row 7 0 = some (.iload_n 1, 1, 0, 0, 0) := by decide +kernel
theorem s7_0 {st : List Value} {M : pj_Mem} {l : pj_Loc} {a0 : Option Value} {x : Int32} : pj_step 7 (0, a0 :: some (.int x) :: l, st, M) = some (1, a0 :: some (.int x) :: l, .int x :: st, M) := st_iload_n q7_0 rfl
theorem x7_0 {st : List Value} {M : pj_Mem} {l : pj_Loc} {a0 : Option Value} {x : Int32} {o9 : Option Value × pj_Mem} : pj_Ends 7 (0, a0 :: some (.int x) :: l, st, M) o9 = pj_Ends 7 (1, a0 :: some (.int x) :: l, .int x :: st, M) o9 := pj_xs (s7_0)
theorem q7_1 : pj_row 7 1 = some (.ifCond .lt 8, 3, 9, 0, 0) := by decide +kernel
theorem s7_1 {L : pj_Loc} {st : List Value} {M : pj_Mem} {x : Int32} : pj_step 7 (1, L, .int x :: st, M) = some (if x < 0 then 9 else 4, L, st, M) := st_if_lt q7_1
theorem x7_1 {L : pj_Loc} {st : List Value} {M : pj_Mem} {x : Int32} {o9 : Option Value × pj_Mem} : pj_Ends 7 (1, L, .int x :: st, M) o9 = pj_Ends 7 (if x < 0 then 9 else 4, L, st, M) o9 := pj_xs (s7_1)
theorem q7_4 : pj_row 7 4 = some (.iload_n 1, 1, 0, 0, 0) := by decide +kernel
theorem s7_4 {st : List Value} {M : pj_Mem} {l : pj_Loc} {a0 : Option Value} {x : Int32} : pj_step 7 (4, a0 :: some (.int x) :: l, st, M) = some (5, a0 :: some (.int x) :: l, .int x :: st, M) := st_iload_n q7_4 rfl
theorem x7_4 {st : List Value} {M : pj_Mem} {l : pj_Loc} {a0 : Option Value} {x : Int32} {o9 : Option Value × pj_Mem} : pj_Ends 7 (4, a0 :: some (.int x) :: l, st, M) o9 = pj_Ends 7 (5, a0 :: some (.int x) :: l, .int x :: st, M) o9 := pj_xs (s7_4)
theorem q7_5 : pj_row 7 5 = some (.iconst 3, 1, 0, 0, 0) := by decide +kernel
theorem s7_5 {L : pj_Loc} {st : List Value} {M : pj_Mem}  : pj_step 7 (5, L, st, M) = some (6, L, .int 3 :: st, M) := st_iconst q7_5 (by decide +kernel)
theorem x7_5 {L : pj_Loc} {st : List Value} {M : pj_Mem}  {o9 : Option Value × pj_Mem} : pj_Ends 7 (5, L, st, M) o9 = pj_Ends 7 (6, L, .int 3 :: st, M) o9 := pj_xs (s7_5)
theorem q7_6 : pj_row 7 6 = some (.if_icmp .lt 5, 3, 11, 0, 0) := by decide +kernel
theorem s7_6 {L : pj_Loc} {st : List Value} {M : pj_Mem} {x y : Int32} : pj_step 7 (6, L, .int y :: .int x :: st, M) = some (if x < y then 11 else 9, L, st, M) := st_icmp_lt q7_6
theorem x7_6 {L : pj_Loc} {st : List Value} {M : pj_Mem} {x y : Int32} {o9 : Option Value × pj_Mem} : pj_Ends 7 (6, L, .int y :: .int x :: st, M) o9 = pj_Ends 7 (if x < y then 11 else 9, L, st, M) o9 := pj_xs (s7_6)
theorem q7_9 : pj_row 7 9 = some (.iconst (-1), 1, 0, 0, 0) := by decide +kernel
theorem s7_9 {L : pj_Loc} {st : List Value} {M : pj_Mem}  : pj_step 7 (9, L, st, M) = some (10, L, .int (-1) :: st, M) := st_iconst q7_9 (by decide +kernel)
theorem x7_9 {L : pj_Loc} {st : List Value} {M : pj_Mem}  {o9 : Option Value × pj_Mem} : pj_Ends 7 (9, L, st, M) o9 = pj_Ends 7 (10, L, .int (-1) :: st, M) o9 := pj_xs (s7_9)
theorem q7_10 : pj_row 7 10 = some (.ireturn, 1, 0, 0, 0) := by decide +kernel
theorem t7_10 {L : pj_Loc} {M : pj_Mem} {v : Int32} : pj_Ends 7 (10, L, [.int v], M) (some (.int v), M) := pj_Ends.ret q7_10 (pj_rtn_i rt7)
theorem q7_11 : pj_row 7 11 = some (.iload_n 2, 1, 0, 0, 0) := by decide +kernel
theorem s7_11 {st : List Value} {M : pj_Mem} {l : pj_Loc} {a0 a1 : Option Value} {x : Int32} : pj_step 7 (11, a0 :: a1 :: some (.int x) :: l, st, M) = some (12, a0 :: a1 :: some (.int x) :: l, .int x :: st, M) := st_iload_n q7_11 rfl
theorem x7_11 {st : List Value} {M : pj_Mem} {l : pj_Loc} {a0 a1 : Option Value} {x : Int32} {o9 : Option Value × pj_Mem} : pj_Ends 7 (11, a0 :: a1 :: some (.int x) :: l, st, M) o9 = pj_Ends 7 (12, a0 :: a1 :: some (.int x) :: l, .int x :: st, M) o9 := pj_xs (s7_11)
theorem q7_12 : pj_row 7 12 = some (.lookupswitch 53 #[(0, 28), (1, 38)], 28, 0, 0, 0) := by decide +kernel
theorem s7_12 {L : pj_Loc} {st : List Value} {M : pj_Mem} {x : Int32} : pj_step 7 (12, L, .int x :: st, M) = some (if x = 0 then 40 else if x = 1 then 50 else 65, L, st, M) := by
  rw [st_lsw q7_12]
  unfold pj_lsw
  by_cases h0 : x = 0
  · subst h0; rfl
  by_cases h1 : x = 1
  · subst h1; rfl
  rw [if_neg h0, if_neg h1]
  simp only
  rw [lv_osw h0 (by decide), lv_osw h1 (by decide)]
  rfl
theorem x7_12 {L : pj_Loc} {st : List Value} {M : pj_Mem} {x : Int32} {o9 : Option Value × pj_Mem} : pj_Ends 7 (12, L, .int x :: st, M) o9 = pj_Ends 7 (if x = 0 then 40 else if x = 1 then 50 else 65, L, st, M) o9 := pj_xs (s7_12)
theorem q7_40 : pj_row 7 40 = some (.aload_n 0, 1, 0, 0, 0) := by decide +kernel
theorem s7_40 {st : List Value} {M : pj_Mem} {l : pj_Loc} {x : Nat} : pj_step 7 (40, some (.ref x) :: l, st, M) = some (41, some (.ref x) :: l, .ref x :: st, M) := st_aload_n q7_40 rfl
theorem x7_40 {st : List Value} {M : pj_Mem} {l : pj_Loc} {x : Nat} {o9 : Option Value × pj_Mem} : pj_Ends 7 (40, some (.ref x) :: l, st, M) o9 = pj_Ends 7 (41, some (.ref x) :: l, .ref x :: st, M) o9 := pj_xs (s7_40)
theorem q7_41 : pj_row 7 41 = some (.getfield 10, 3, 5, 0, 0) := by decide +kernel
theorem s7_41 {L : pj_Loc} {st : List Value} {N S : Nat} {H : pj_Heap} {o : Nat} : pj_step 7 (41, L, .ref o :: st, (N, S, H)) = pj_pv 44 L st (N, S, H) (pj_fld (H o) 5 0) := st_getfield q7_41
theorem x7_41 {L : pj_Loc} {st : List Value} {N S : Nat} {H : pj_Heap} {o : Nat} {o9 : Option Value × pj_Mem} : pj_Ends 7 (41, L, .ref o :: st, (N, S, H)) o9 = pj_then 7 o9 (pj_pv 44 L st (N, S, H) (pj_fld (H o) 5 0)) := pj_xt q7_41 rfl (pj_cl_nc rfl) (s7_41)
theorem q7_44 : pj_row 7 44 = some (.getfield 81, 3, 4, 5, 0) := by decide +kernel
theorem s7_44 {L : pj_Loc} {st : List Value} {N S : Nat} {H : pj_Heap} {o : Nat} : pj_step 7 (44, L, .ref o :: st, (N, S, H)) = pj_pv 47 L st (N, S, H) (pj_fld (H o) 4 5) := st_getfield q7_44
theorem x7_44 {L : pj_Loc} {st : List Value} {N S : Nat} {H : pj_Heap} {o : Nat} {o9 : Option Value × pj_Mem} : pj_Ends 7 (44, L, .ref o :: st, (N, S, H)) o9 = pj_then 7 o9 (pj_pv 47 L st (N, S, H) (pj_fld (H o) 4 5)) := pj_xt q7_44 rfl (pj_cl_nc rfl) (s7_44)
theorem q7_47 : pj_row 7 47 = some (.iload_n 1, 1, 0, 0, 0) := by decide +kernel
theorem s7_47 {st : List Value} {M : pj_Mem} {l : pj_Loc} {a0 : Option Value} {x : Int32} : pj_step 7 (47, a0 :: some (.int x) :: l, st, M) = some (48, a0 :: some (.int x) :: l, .int x :: st, M) := st_iload_n q7_47 rfl
theorem x7_47 {st : List Value} {M : pj_Mem} {l : pj_Loc} {a0 : Option Value} {x : Int32} {o9 : Option Value × pj_Mem} : pj_Ends 7 (47, a0 :: some (.int x) :: l, st, M) o9 = pj_Ends 7 (48, a0 :: some (.int x) :: l, .int x :: st, M) o9 := pj_xs (s7_47)
theorem q7_48 : pj_row 7 48 = some (.iaload, 1, 0, 0, 0) := by decide +kernel
theorem s7_48 {L : pj_Loc} {st : List Value} {N S : Nat} {H : pj_Heap} {o : Nat} {i : Int32} : pj_step 7 (48, L, .int i :: .ref o :: st, (N, S, H)) = pj_pi 49 L st (N, S, H) (pj_arl (H o) 0 i) := st_iaload q7_48
theorem x7_48 {L : pj_Loc} {st : List Value} {N S : Nat} {H : pj_Heap} {o : Nat} {i : Int32} {o9 : Option Value × pj_Mem} : pj_Ends 7 (48, L, .int i :: .ref o :: st, (N, S, H)) o9 = pj_then 7 o9 (pj_pi 49 L st (N, S, H) (pj_arl (H o) 0 i)) := pj_xt q7_48 rfl (pj_cl_nc rfl) (s7_48)
theorem q7_49 : pj_row 7 49 = some (.ireturn, 1, 0, 0, 0) := by decide +kernel
theorem t7_49 {L : pj_Loc} {M : pj_Mem} {v : Int32} : pj_Ends 7 (49, L, [.int v], M) (some (.int v), M) := pj_Ends.ret q7_49 (pj_rtn_i rt7)
theorem q7_50 : pj_row 7 50 = some (.aload_n 0, 1, 0, 0, 0) := by decide +kernel
theorem s7_50 {st : List Value} {M : pj_Mem} {l : pj_Loc} {x : Nat} : pj_step 7 (50, some (.ref x) :: l, st, M) = some (51, some (.ref x) :: l, .ref x :: st, M) := st_aload_n q7_50 rfl
theorem x7_50 {st : List Value} {M : pj_Mem} {l : pj_Loc} {x : Nat} {o9 : Option Value × pj_Mem} : pj_Ends 7 (50, some (.ref x) :: l, st, M) o9 = pj_Ends 7 (51, some (.ref x) :: l, .ref x :: st, M) o9 := pj_xs (s7_50)
theorem q7_51 : pj_row 7 51 = some (.getfield 10, 3, 5, 0, 0) := by decide +kernel
theorem s7_51 {L : pj_Loc} {st : List Value} {N S : Nat} {H : pj_Heap} {o : Nat} : pj_step 7 (51, L, .ref o :: st, (N, S, H)) = pj_pv 54 L st (N, S, H) (pj_fld (H o) 5 0) := st_getfield q7_51
theorem x7_51 {L : pj_Loc} {st : List Value} {N S : Nat} {H : pj_Heap} {o : Nat} {o9 : Option Value × pj_Mem} : pj_Ends 7 (51, L, .ref o :: st, (N, S, H)) o9 = pj_then 7 o9 (pj_pv 54 L st (N, S, H) (pj_fld (H o) 5 0)) := pj_xt q7_51 rfl (pj_cl_nc rfl) (s7_51)
theorem q7_54 : pj_row 7 54 = some (.getfield 74, 3, 4, 8, 0) := by decide +kernel
theorem s7_54 {L : pj_Loc} {st : List Value} {N S : Nat} {H : pj_Heap} {o : Nat} : pj_step 7 (54, L, .ref o :: st, (N, S, H)) = pj_pv 57 L st (N, S, H) (pj_fld (H o) 4 8) := st_getfield q7_54
theorem x7_54 {L : pj_Loc} {st : List Value} {N S : Nat} {H : pj_Heap} {o : Nat} {o9 : Option Value × pj_Mem} : pj_Ends 7 (54, L, .ref o :: st, (N, S, H)) o9 = pj_then 7 o9 (pj_pv 57 L st (N, S, H) (pj_fld (H o) 4 8)) := pj_xt q7_54 rfl (pj_cl_nc rfl) (s7_54)
theorem q7_57 : pj_row 7 57 = some (.iload_n 1, 1, 0, 0, 0) := by decide +kernel
theorem s7_57 {st : List Value} {M : pj_Mem} {l : pj_Loc} {a0 : Option Value} {x : Int32} : pj_step 7 (57, a0 :: some (.int x) :: l, st, M) = some (58, a0 :: some (.int x) :: l, .int x :: st, M) := st_iload_n q7_57 rfl
theorem x7_57 {st : List Value} {M : pj_Mem} {l : pj_Loc} {a0 : Option Value} {x : Int32} {o9 : Option Value × pj_Mem} : pj_Ends 7 (57, a0 :: some (.int x) :: l, st, M) o9 = pj_Ends 7 (58, a0 :: some (.int x) :: l, .int x :: st, M) o9 := pj_xs (s7_57)
theorem q7_58 : pj_row 7 58 = some (.invokestatic 77, 3, 8, 2, 0) := by decide +kernel
theorem e7_58 {L : pj_Loc} {st : List Value} {N S : Nat} {H : pj_Heap} {o : Option Value × pj_Mem} {M' : pj_Mem} {x0 : Int32} {x1 : Int32} {r : Int32} (h4 : pj_le4 st = true) (h1 : pj_Ends 8 (0, [some (.int x0), some (.int x1)], [], (N, S, H)) (some (.int r), M')) (h2 : pj_Ends 7 (61, L, .int r :: st, M') o) : pj_Ends 7 (58, L, .int x1 :: .int x0 :: st, (N, S, H)) o := ec_s2 q7_58 (Or.inl rfl) h4 rfl h1 h2
theorem q7_61 : pj_row 7 61 = some (.invokestatic 116, 3, 9, 1, 0) := by decide +kernel
theorem e7_61 {L : pj_Loc} {st : List Value} {N S : Nat} {H : pj_Heap} {o : Option Value × pj_Mem} {M' : pj_Mem} {x0 : Int32} {r : Int32} (h4 : pj_le4 st = true) (h1 : pj_Ends 9 (0, [some (.int x0)], [], (N, S, H)) (some (.int r), M')) (h2 : pj_Ends 7 (64, L, .int r :: st, M') o) : pj_Ends 7 (61, L, .int x0 :: st, (N, S, H)) o := ec_s1 q7_61 (Or.inl rfl) h4 rfl h1 h2
theorem q7_64 : pj_row 7 64 = some (.ireturn, 1, 0, 0, 0) := by decide +kernel
theorem t7_64 {L : pj_Loc} {M : pj_Mem} {v : Int32} : pj_Ends 7 (64, L, [.int v], M) (some (.int v), M) := pj_Ends.ret q7_64 (pj_rtn_i rt7)
theorem q7_65 : pj_row 7 65 = some (.bipush (-2), 2, 0, 0, 0) := by decide +kernel
theorem s7_65 {L : pj_Loc} {st : List Value} {M : pj_Mem}  : pj_step 7 (65, L, st, M) = some (67, L, .int (-2) :: st, M) := st_bipush q7_65 (by decide +kernel)
theorem x7_65 {L : pj_Loc} {st : List Value} {M : pj_Mem}  {o9 : Option Value × pj_Mem} : pj_Ends 7 (65, L, st, M) o9 = pj_Ends 7 (67, L, .int (-2) :: st, M) o9 := pj_xs (s7_65)
theorem q7_67 : pj_row 7 67 = some (.ireturn, 1, 0, 0, 0) := by decide +kernel
theorem t7_67 {L : pj_Loc} {M : pj_Mem} {v : Int32} : pj_Ends 7 (67, L, [.int v], M) (some (.int v), M) := pj_Ends.ret q7_67 (pj_rtn_i rt7)
theorem rt8 : pj_rt 8 = some .boolean := rfl
theorem q8_0 : pj_row 8 0 = some (.iload_n 0, 1, 0, 0, 0) := by decide +kernel
theorem s8_0 {st : List Value} {M : pj_Mem} {l : pj_Loc} {x : Int32} : pj_step 8 (0, some (.int x) :: l, st, M) = some (1, some (.int x) :: l, .int x :: st, M) := st_iload_n q8_0 rfl
theorem x8_0 {st : List Value} {M : pj_Mem} {l : pj_Loc} {x : Int32} {o9 : Option Value × pj_Mem} : pj_Ends 8 (0, some (.int x) :: l, st, M) o9 = pj_Ends 8 (1, some (.int x) :: l, .int x :: st, M) o9 := pj_xs (s8_0)
theorem q8_1 : pj_row 8 1 = some (.iload_n 1, 1, 0, 0, 0) := by decide +kernel
theorem s8_1 {st : List Value} {M : pj_Mem} {l : pj_Loc} {a0 : Option Value} {x : Int32} : pj_step 8 (1, a0 :: some (.int x) :: l, st, M) = some (2, a0 :: some (.int x) :: l, .int x :: st, M) := st_iload_n q8_1 rfl
theorem x8_1 {st : List Value} {M : pj_Mem} {l : pj_Loc} {a0 : Option Value} {x : Int32} {o9 : Option Value × pj_Mem} : pj_Ends 8 (1, a0 :: some (.int x) :: l, st, M) o9 = pj_Ends 8 (2, a0 :: some (.int x) :: l, .int x :: st, M) o9 := pj_xs (s8_1)
theorem q8_2 : pj_row 8 2 = some (.ishr, 1, 0, 0, 0) := by decide +kernel
theorem s8_2 {L : pj_Loc} {st : List Value} {M : pj_Mem} {x y : Int32} : pj_step 8 (2, L, .int y :: .int x :: st, M) = some (3, L, .int (x >>> (y &&& 31)) :: st, M) := st_ishr q8_2
theorem x8_2 {L : pj_Loc} {st : List Value} {M : pj_Mem} {x y : Int32} {o9 : Option Value × pj_Mem} : pj_Ends 8 (2, L, .int y :: .int x :: st, M) o9 = pj_Ends 8 (3, L, .int (x >>> (y &&& 31)) :: st, M) o9 := pj_xs (s8_2)
theorem q8_3 : pj_row 8 3 = some (.iconst 1, 1, 0, 0, 0) := by decide +kernel
theorem s8_3 {L : pj_Loc} {st : List Value} {M : pj_Mem}  : pj_step 8 (3, L, st, M) = some (4, L, .int 1 :: st, M) := st_iconst q8_3 (by decide +kernel)
theorem x8_3 {L : pj_Loc} {st : List Value} {M : pj_Mem}  {o9 : Option Value × pj_Mem} : pj_Ends 8 (3, L, st, M) o9 = pj_Ends 8 (4, L, .int 1 :: st, M) o9 := pj_xs (s8_3)
theorem q8_4 : pj_row 8 4 = some (.iand, 1, 0, 0, 0) := by decide +kernel
theorem s8_4 {L : pj_Loc} {st : List Value} {M : pj_Mem} {x y : Int32} : pj_step 8 (4, L, .int y :: .int x :: st, M) = some (5, L, .int (x &&& y) :: st, M) := st_iand q8_4
theorem x8_4 {L : pj_Loc} {st : List Value} {M : pj_Mem} {x y : Int32} {o9 : Option Value × pj_Mem} : pj_Ends 8 (4, L, .int y :: .int x :: st, M) o9 = pj_Ends 8 (5, L, .int (x &&& y) :: st, M) o9 := pj_xs (s8_4)
theorem q8_5 : pj_row 8 5 = some (.iconst 1, 1, 0, 0, 0) := by decide +kernel
theorem s8_5 {L : pj_Loc} {st : List Value} {M : pj_Mem}  : pj_step 8 (5, L, st, M) = some (6, L, .int 1 :: st, M) := st_iconst q8_5 (by decide +kernel)
theorem x8_5 {L : pj_Loc} {st : List Value} {M : pj_Mem}  {o9 : Option Value × pj_Mem} : pj_Ends 8 (5, L, st, M) o9 = pj_Ends 8 (6, L, .int 1 :: st, M) o9 := pj_xs (s8_5)
theorem q8_6 : pj_row 8 6 = some (.if_icmp .ne 7, 3, 13, 0, 0) := by decide +kernel
theorem s8_6 {L : pj_Loc} {st : List Value} {M : pj_Mem} {x y : Int32} : pj_step 8 (6, L, .int y :: .int x :: st, M) = some (if ¬ x = y then 13 else 9, L, st, M) := st_icmp_ne q8_6
theorem x8_6 {L : pj_Loc} {st : List Value} {M : pj_Mem} {x y : Int32} {o9 : Option Value × pj_Mem} : pj_Ends 8 (6, L, .int y :: .int x :: st, M) o9 = pj_Ends 8 (if ¬ x = y then 13 else 9, L, st, M) o9 := pj_xs (s8_6)
theorem q8_9 : pj_row 8 9 = some (.iconst 1, 1, 0, 0, 0) := by decide +kernel
theorem s8_9 {L : pj_Loc} {st : List Value} {M : pj_Mem}  : pj_step 8 (9, L, st, M) = some (10, L, .int 1 :: st, M) := st_iconst q8_9 (by decide +kernel)
theorem x8_9 {L : pj_Loc} {st : List Value} {M : pj_Mem}  {o9 : Option Value × pj_Mem} : pj_Ends 8 (9, L, st, M) o9 = pj_Ends 8 (10, L, .int 1 :: st, M) o9 := pj_xs (s8_9)
theorem q8_10 : pj_row 8 10 = some (.goto 4, 3, 14, 0, 0) := by decide +kernel
theorem s8_10 {L : pj_Loc} {st : List Value} {M : pj_Mem}  : pj_step 8 (10, L, st, M) = some (14, L, st, M) := st_goto q8_10
theorem x8_10 {L : pj_Loc} {st : List Value} {M : pj_Mem}  {o9 : Option Value × pj_Mem} : pj_Ends 8 (10, L, st, M) o9 = pj_Ends 8 (14, L, st, M) o9 := pj_xs (s8_10)
theorem q8_13 : pj_row 8 13 = some (.iconst 0, 1, 0, 0, 0) := by decide +kernel
theorem s8_13 {L : pj_Loc} {st : List Value} {M : pj_Mem}  : pj_step 8 (13, L, st, M) = some (14, L, .int 0 :: st, M) := st_iconst q8_13 (by decide +kernel)
theorem x8_13 {L : pj_Loc} {st : List Value} {M : pj_Mem}  {o9 : Option Value × pj_Mem} : pj_Ends 8 (13, L, st, M) o9 = pj_Ends 8 (14, L, .int 0 :: st, M) o9 := pj_xs (s8_13)
theorem q8_14 : pj_row 8 14 = some (.ireturn, 1, 0, 0, 0) := by decide +kernel
theorem t8_14 {L : pj_Loc} {M : pj_Mem} {v : Int32} (hv : v = 0 ∨ v = 1) : pj_Ends 8 (14, L, [.int v], M) (some (.int v), M) := pj_Ends.ret q8_14 (pj_rtn_z rt8 hv)
theorem rt9 : pj_rt 9 = some .int := rfl
theorem q9_0 : pj_row 9 0 = some (.iload_n 0, 1, 0, 0, 0) := by decide +kernel
theorem s9_0 {st : List Value} {M : pj_Mem} {l : pj_Loc} {x : Int32} : pj_step 9 (0, some (.int x) :: l, st, M) = some (1, some (.int x) :: l, .int x :: st, M) := st_iload_n q9_0 rfl
theorem x9_0 {st : List Value} {M : pj_Mem} {l : pj_Loc} {x : Int32} {o9 : Option Value × pj_Mem} : pj_Ends 9 (0, some (.int x) :: l, st, M) o9 = pj_Ends 9 (1, some (.int x) :: l, .int x :: st, M) o9 := pj_xs (s9_0)
theorem q9_1 : pj_row 9 1 = some (.ifCond .eq 7, 3, 8, 0, 0) := by decide +kernel
theorem s9_1 {L : pj_Loc} {st : List Value} {M : pj_Mem} {x : Int32} : pj_step 9 (1, L, .int x :: st, M) = some (if x = 0 then 8 else 4, L, st, M) := st_if_eq q9_1
theorem x9_1 {L : pj_Loc} {st : List Value} {M : pj_Mem} {x : Int32} {o9 : Option Value × pj_Mem} : pj_Ends 9 (1, L, .int x :: st, M) o9 = pj_Ends 9 (if x = 0 then 8 else 4, L, st, M) o9 := pj_xs (s9_1)
theorem q9_4 : pj_row 9 4 = some (.iconst 1, 1, 0, 0, 0) := by decide +kernel
theorem s9_4 {L : pj_Loc} {st : List Value} {M : pj_Mem}  : pj_step 9 (4, L, st, M) = some (5, L, .int 1 :: st, M) := st_iconst q9_4 (by decide +kernel)
theorem x9_4 {L : pj_Loc} {st : List Value} {M : pj_Mem}  {o9 : Option Value × pj_Mem} : pj_Ends 9 (4, L, st, M) o9 = pj_Ends 9 (5, L, .int 1 :: st, M) o9 := pj_xs (s9_4)
theorem q9_5 : pj_row 9 5 = some (.goto 4, 3, 9, 0, 0) := by decide +kernel
theorem s9_5 {L : pj_Loc} {st : List Value} {M : pj_Mem}  : pj_step 9 (5, L, st, M) = some (9, L, st, M) := st_goto q9_5
theorem x9_5 {L : pj_Loc} {st : List Value} {M : pj_Mem}  {o9 : Option Value × pj_Mem} : pj_Ends 9 (5, L, st, M) o9 = pj_Ends 9 (9, L, st, M) o9 := pj_xs (s9_5)
theorem q9_8 : pj_row 9 8 = some (.iconst 0, 1, 0, 0, 0) := by decide +kernel
theorem s9_8 {L : pj_Loc} {st : List Value} {M : pj_Mem}  : pj_step 9 (8, L, st, M) = some (9, L, .int 0 :: st, M) := st_iconst q9_8 (by decide +kernel)
theorem x9_8 {L : pj_Loc} {st : List Value} {M : pj_Mem}  {o9 : Option Value × pj_Mem} : pj_Ends 9 (8, L, st, M) o9 = pj_Ends 9 (9, L, .int 0 :: st, M) o9 := pj_xs (s9_8)
theorem q9_9 : pj_row 9 9 = some (.ireturn, 1, 0, 0, 0) := by decide +kernel
theorem t9_9 {L : pj_Loc} {M : pj_Mem} {v : Int32} : pj_Ends 9 (9, L, [.int v], M) (some (.int v), M) := pj_Ends.ret q9_9 (pj_rtn_i rt9)
theorem rt10 : pj_rt 10 = some .int := rfl
theorem q10_0 : pj_row 10 0 = some (.iload_n 1, 1, 0, 0, 0) := by decide +kernel
theorem s10_0 {st : List Value} {M : pj_Mem} {l : pj_Loc} {a0 : Option Value} {x : Int32} : pj_step 10 (0, a0 :: some (.int x) :: l, st, M) = some (1, a0 :: some (.int x) :: l, .int x :: st, M) := st_iload_n q10_0 rfl
theorem x10_0 {st : List Value} {M : pj_Mem} {l : pj_Loc} {a0 : Option Value} {x : Int32} {o9 : Option Value × pj_Mem} : pj_Ends 10 (0, a0 :: some (.int x) :: l, st, M) o9 = pj_Ends 10 (1, a0 :: some (.int x) :: l, .int x :: st, M) o9 := pj_xs (s10_0)
theorem q10_1 : pj_row 10 1 = some (.bipush 8, 2, 0, 0, 0) := by decide +kernel
theorem s10_1 {L : pj_Loc} {st : List Value} {M : pj_Mem}  : pj_step 10 (1, L, st, M) = some (3, L, .int 8 :: st, M) := st_bipush q10_1 (by decide +kernel)
theorem x10_1 {L : pj_Loc} {st : List Value} {M : pj_Mem}  {o9 : Option Value × pj_Mem} : pj_Ends 10 (1, L, st, M) o9 = pj_Ends 10 (3, L, .int 8 :: st, M) o9 := pj_xs (s10_1)
theorem q10_3 : pj_row 10 3 = some (.if_icmp .lt 22, 3, 25, 0, 0) := by decide +kernel
theorem s10_3 {L : pj_Loc} {st : List Value} {M : pj_Mem} {x y : Int32} : pj_step 10 (3, L, .int y :: .int x :: st, M) = some (if x < y then 25 else 6, L, st, M) := st_icmp_lt q10_3
theorem x10_3 {L : pj_Loc} {st : List Value} {M : pj_Mem} {x y : Int32} {o9 : Option Value × pj_Mem} : pj_Ends 10 (3, L, .int y :: .int x :: st, M) o9 = pj_Ends 10 (if x < y then 25 else 6, L, st, M) o9 := pj_xs (s10_3)
theorem q10_6 : pj_row 10 6 = some (.iload_n 1, 1, 0, 0, 0) := by decide +kernel
theorem s10_6 {st : List Value} {M : pj_Mem} {l : pj_Loc} {a0 : Option Value} {x : Int32} : pj_step 10 (6, a0 :: some (.int x) :: l, st, M) = some (7, a0 :: some (.int x) :: l, .int x :: st, M) := st_iload_n q10_6 rfl
theorem x10_6 {st : List Value} {M : pj_Mem} {l : pj_Loc} {a0 : Option Value} {x : Int32} {o9 : Option Value × pj_Mem} : pj_Ends 10 (6, a0 :: some (.int x) :: l, st, M) o9 = pj_Ends 10 (7, a0 :: some (.int x) :: l, .int x :: st, M) o9 := pj_xs (s10_6)
theorem q10_7 : pj_row 10 7 = some (.bipush 14, 2, 0, 0, 0) := by decide +kernel
theorem s10_7 {L : pj_Loc} {st : List Value} {M : pj_Mem}  : pj_step 10 (7, L, st, M) = some (9, L, .int 14 :: st, M) := st_bipush q10_7 (by decide +kernel)
theorem x10_7 {L : pj_Loc} {st : List Value} {M : pj_Mem}  {o9 : Option Value × pj_Mem} : pj_Ends 10 (7, L, st, M) o9 = pj_Ends 10 (9, L, .int 14 :: st, M) o9 := pj_xs (s10_7)
theorem q10_9 : pj_row 10 9 = some (.if_icmp .ge 16, 3, 25, 0, 0) := by decide +kernel
theorem s10_9 {L : pj_Loc} {st : List Value} {M : pj_Mem} {x y : Int32} : pj_step 10 (9, L, .int y :: .int x :: st, M) = some (if y ≤ x then 25 else 12, L, st, M) := st_icmp_ge q10_9
theorem x10_9 {L : pj_Loc} {st : List Value} {M : pj_Mem} {x y : Int32} {o9 : Option Value × pj_Mem} : pj_Ends 10 (9, L, .int y :: .int x :: st, M) o9 = pj_Ends 10 (if y ≤ x then 25 else 12, L, st, M) o9 := pj_xs (s10_9)
theorem q10_12 : pj_row 10 12 = some (.aload_n 0, 1, 0, 0, 0) := by decide +kernel
theorem s10_12 {st : List Value} {M : pj_Mem} {l : pj_Loc} {x : Nat} : pj_step 10 (12, some (.ref x) :: l, st, M) = some (13, some (.ref x) :: l, .ref x :: st, M) := st_aload_n q10_12 rfl
theorem x10_12 {st : List Value} {M : pj_Mem} {l : pj_Loc} {x : Nat} {o9 : Option Value × pj_Mem} : pj_Ends 10 (12, some (.ref x) :: l, st, M) o9 = pj_Ends 10 (13, some (.ref x) :: l, .ref x :: st, M) o9 := pj_xs (s10_12)
theorem q10_13 : pj_row 10 13 = some (.getfield 10, 3, 5, 0, 0) := by decide +kernel
theorem s10_13 {L : pj_Loc} {st : List Value} {N S : Nat} {H : pj_Heap} {o : Nat} : pj_step 10 (13, L, .ref o :: st, (N, S, H)) = pj_pv 16 L st (N, S, H) (pj_fld (H o) 5 0) := st_getfield q10_13
theorem x10_13 {L : pj_Loc} {st : List Value} {N S : Nat} {H : pj_Heap} {o : Nat} {o9 : Option Value × pj_Mem} : pj_Ends 10 (13, L, .ref o :: st, (N, S, H)) o9 = pj_then 10 o9 (pj_pv 16 L st (N, S, H) (pj_fld (H o) 5 0)) := pj_xt q10_13 rfl (pj_cl_nc rfl) (s10_13)
theorem q10_16 : pj_row 10 16 = some (.getfield 58, 3, 4, 0, 0) := by decide +kernel
theorem s10_16 {L : pj_Loc} {st : List Value} {N S : Nat} {H : pj_Heap} {o : Nat} : pj_step 10 (16, L, .ref o :: st, (N, S, H)) = pj_pv 19 L st (N, S, H) (pj_fld (H o) 4 0) := st_getfield q10_16
theorem x10_16 {L : pj_Loc} {st : List Value} {N S : Nat} {H : pj_Heap} {o : Nat} {o9 : Option Value × pj_Mem} : pj_Ends 10 (16, L, .ref o :: st, (N, S, H)) o9 = pj_then 10 o9 (pj_pv 19 L st (N, S, H) (pj_fld (H o) 4 0)) := pj_xt q10_16 rfl (pj_cl_nc rfl) (s10_16)
theorem q10_19 : pj_row 10 19 = some (.iload_n 1, 1, 0, 0, 0) := by decide +kernel
theorem s10_19 {st : List Value} {M : pj_Mem} {l : pj_Loc} {a0 : Option Value} {x : Int32} : pj_step 10 (19, a0 :: some (.int x) :: l, st, M) = some (20, a0 :: some (.int x) :: l, .int x :: st, M) := st_iload_n q10_19 rfl
theorem x10_19 {st : List Value} {M : pj_Mem} {l : pj_Loc} {a0 : Option Value} {x : Int32} {o9 : Option Value × pj_Mem} : pj_Ends 10 (19, a0 :: some (.int x) :: l, st, M) o9 = pj_Ends 10 (20, a0 :: some (.int x) :: l, .int x :: st, M) o9 := pj_xs (s10_19)
theorem q10_20 : pj_row 10 20 = some (.bipush 8, 2, 0, 0, 0) := by decide +kernel
theorem s10_20 {L : pj_Loc} {st : List Value} {M : pj_Mem}  : pj_step 10 (20, L, st, M) = some (22, L, .int 8 :: st, M) := st_bipush q10_20 (by decide +kernel)
theorem x10_20 {L : pj_Loc} {st : List Value} {M : pj_Mem}  {o9 : Option Value × pj_Mem} : pj_Ends 10 (20, L, st, M) o9 = pj_Ends 10 (22, L, .int 8 :: st, M) o9 := pj_xs (s10_20)
theorem q10_22 : pj_row 10 22 = some (.isub, 1, 0, 0, 0) := by decide +kernel
theorem s10_22 {L : pj_Loc} {st : List Value} {M : pj_Mem} {x y : Int32} : pj_step 10 (22, L, .int y :: .int x :: st, M) = some (23, L, .int (x - y) :: st, M) := st_isub q10_22
theorem x10_22 {L : pj_Loc} {st : List Value} {M : pj_Mem} {x y : Int32} {o9 : Option Value × pj_Mem} : pj_Ends 10 (22, L, .int y :: .int x :: st, M) o9 = pj_Ends 10 (23, L, .int (x - y) :: st, M) o9 := pj_xs (s10_22)
theorem q10_23 : pj_row 10 23 = some (.iaload, 1, 0, 0, 0) := by decide +kernel
theorem s10_23 {L : pj_Loc} {st : List Value} {N S : Nat} {H : pj_Heap} {o : Nat} {i : Int32} : pj_step 10 (23, L, .int i :: .ref o :: st, (N, S, H)) = pj_pi 24 L st (N, S, H) (pj_arl (H o) 0 i) := st_iaload q10_23
theorem x10_23 {L : pj_Loc} {st : List Value} {N S : Nat} {H : pj_Heap} {o : Nat} {i : Int32} {o9 : Option Value × pj_Mem} : pj_Ends 10 (23, L, .int i :: .ref o :: st, (N, S, H)) o9 = pj_then 10 o9 (pj_pi 24 L st (N, S, H) (pj_arl (H o) 0 i)) := pj_xt q10_23 rfl (pj_cl_nc rfl) (s10_23)
theorem q10_24 : pj_row 10 24 = some (.ireturn, 1, 0, 0, 0) := by decide +kernel
theorem t10_24 {L : pj_Loc} {M : pj_Mem} {v : Int32} : pj_Ends 10 (24, L, [.int v], M) (some (.int v), M) := pj_Ends.ret q10_24 (pj_rtn_i rt10)
theorem q10_25 : pj_row 10 25 = some (.iload_n 1, 1, 0, 0, 0) := by decide +kernel
theorem s10_25 {st : List Value} {M : pj_Mem} {l : pj_Loc} {a0 : Option Value} {x : Int32} : pj_step 10 (25, a0 :: some (.int x) :: l, st, M) = some (26, a0 :: some (.int x) :: l, .int x :: st, M) := st_iload_n q10_25 rfl
theorem x10_25 {st : List Value} {M : pj_Mem} {l : pj_Loc} {a0 : Option Value} {x : Int32} {o9 : Option Value × pj_Mem} : pj_Ends 10 (25, a0 :: some (.int x) :: l, st, M) o9 = pj_Ends 10 (26, a0 :: some (.int x) :: l, .int x :: st, M) o9 := pj_xs (s10_25)
theorem q10_26 : pj_row 10 26 = some (.tableswitch 174 0 15 #[78, 86, 94, 102, 110, 118, 129, 140, 174, 174, 174, 174, 174, 174, 161, 169], 78, 0, 0, 0) := by decide +kernel
theorem s10_26 {L : pj_Loc} {st : List Value} {M : pj_Mem} {x : Int32} : pj_step 10 (26, L, .int x :: st, M) = some (if x = 0 then 104 else if x = 1 then 112 else if x = 2 then 120 else if x = 3 then 128 else if x = 4 then 136 else if x = 5 then 144 else if x = 6 then 155 else if x = 7 then 166 else if x = 8 then 200 else if x = 9 then 200 else if x = 10 then 200 else if x = 11 then 200 else if x = 12 then 200 else if x = 13 then 200 else if x = 14 then 187 else if x = 15 then 195 else 200, L, st, M) := by
  rw [st_tsw q10_26]
  unfold pj_tsw
  by_cases hr : x.toInt < 0 ∨ 15 < x.toInt
  · simp only
    rw [if_pos hr]
    rw [if_neg (show ¬ x = 0 from fun e => by rw [e] at hr; revert hr; decide)]
    rw [if_neg (show ¬ x = 1 from fun e => by rw [e] at hr; revert hr; decide)]
    rw [if_neg (show ¬ x = 2 from fun e => by rw [e] at hr; revert hr; decide)]
    rw [if_neg (show ¬ x = 3 from fun e => by rw [e] at hr; revert hr; decide)]
    rw [if_neg (show ¬ x = 4 from fun e => by rw [e] at hr; revert hr; decide)]
    rw [if_neg (show ¬ x = 5 from fun e => by rw [e] at hr; revert hr; decide)]
    rw [if_neg (show ¬ x = 6 from fun e => by rw [e] at hr; revert hr; decide)]
    rw [if_neg (show ¬ x = 7 from fun e => by rw [e] at hr; revert hr; decide)]
    rw [if_neg (show ¬ x = 8 from fun e => by rw [e] at hr; revert hr; decide)]
    rw [if_neg (show ¬ x = 9 from fun e => by rw [e] at hr; revert hr; decide)]
    rw [if_neg (show ¬ x = 10 from fun e => by rw [e] at hr; revert hr; decide)]
    rw [if_neg (show ¬ x = 11 from fun e => by rw [e] at hr; revert hr; decide)]
    rw [if_neg (show ¬ x = 12 from fun e => by rw [e] at hr; revert hr; decide)]
    rw [if_neg (show ¬ x = 13 from fun e => by rw [e] at hr; revert hr; decide)]
    rw [if_neg (show ¬ x = 14 from fun e => by rw [e] at hr; revert hr; decide)]
    rw [if_neg (show ¬ x = 15 from fun e => by rw [e] at hr; revert hr; decide)]
    rfl
  · have h3 : x.toInt = 0 ∨ x.toInt = 1 ∨ x.toInt = 2 ∨ x.toInt = 3 ∨ x.toInt = 4 ∨ x.toInt = 5 ∨ x.toInt = 6 ∨ x.toInt = 7 ∨ x.toInt = 8 ∨ x.toInt = 9 ∨ x.toInt = 10 ∨ x.toInt = 11 ∨ x.toInt = 12 ∨ x.toInt = 13 ∨ x.toInt = 14 ∨ x.toInt = 15 := by omega
    rcases h3 with h3 | h3 | h3 | h3 | h3 | h3 | h3 | h3 | h3 | h3 | h3 | h3 | h3 | h3 | h3 | h3
    · have e : x = 0 := Int32.toInt_inj.mp (h3.trans (by decide))
      subst e
      rfl
    · have e : x = 1 := Int32.toInt_inj.mp (h3.trans (by decide))
      subst e
      rfl
    · have e : x = 2 := Int32.toInt_inj.mp (h3.trans (by decide))
      subst e
      rfl
    · have e : x = 3 := Int32.toInt_inj.mp (h3.trans (by decide))
      subst e
      rfl
    · have e : x = 4 := Int32.toInt_inj.mp (h3.trans (by decide))
      subst e
      rfl
    · have e : x = 5 := Int32.toInt_inj.mp (h3.trans (by decide))
      subst e
      rfl
    · have e : x = 6 := Int32.toInt_inj.mp (h3.trans (by decide))
      subst e
      rfl
    · have e : x = 7 := Int32.toInt_inj.mp (h3.trans (by decide))
      subst e
      rfl
    · have e : x = 8 := Int32.toInt_inj.mp (h3.trans (by decide))
      subst e
      rfl
    · have e : x = 9 := Int32.toInt_inj.mp (h3.trans (by decide))
      subst e
      rfl
    · have e : x = 10 := Int32.toInt_inj.mp (h3.trans (by decide))
      subst e
      rfl
    · have e : x = 11 := Int32.toInt_inj.mp (h3.trans (by decide))
      subst e
      rfl
    · have e : x = 12 := Int32.toInt_inj.mp (h3.trans (by decide))
      subst e
      rfl
    · have e : x = 13 := Int32.toInt_inj.mp (h3.trans (by decide))
      subst e
      rfl
    · have e : x = 14 := Int32.toInt_inj.mp (h3.trans (by decide))
      subst e
      rfl
    · have e : x = 15 := Int32.toInt_inj.mp (h3.trans (by decide))
      subst e
      rfl
theorem x10_26 {L : pj_Loc} {st : List Value} {M : pj_Mem} {x : Int32} {o9 : Option Value × pj_Mem} : pj_Ends 10 (26, L, .int x :: st, M) o9 = pj_Ends 10 (if x = 0 then 104 else if x = 1 then 112 else if x = 2 then 120 else if x = 3 then 128 else if x = 4 then 136 else if x = 5 then 144 else if x = 6 then 155 else if x = 7 then 166 else if x = 8 then 200 else if x = 9 then 200 else if x = 10 then 200 else if x = 11 then 200 else if x = 12 then 200 else if x = 13 then 200 else if x = 14 then 187 else if x = 15 then 195 else 200, L, st, M) o9 := pj_xs (s10_26)
theorem q10_104 : pj_row 10 104 = some (.aload_n 0, 1, 0, 0, 0) := by decide +kernel
theorem s10_104 {st : List Value} {M : pj_Mem} {l : pj_Loc} {x : Nat} : pj_step 10 (104, some (.ref x) :: l, st, M) = some (105, some (.ref x) :: l, .ref x :: st, M) := st_aload_n q10_104 rfl
theorem x10_104 {st : List Value} {M : pj_Mem} {l : pj_Loc} {x : Nat} {o9 : Option Value × pj_Mem} : pj_Ends 10 (104, some (.ref x) :: l, st, M) o9 = pj_Ends 10 (105, some (.ref x) :: l, .ref x :: st, M) o9 := pj_xs (s10_104)
theorem q10_105 : pj_row 10 105 = some (.getfield 10, 3, 5, 0, 0) := by decide +kernel
theorem s10_105 {L : pj_Loc} {st : List Value} {N S : Nat} {H : pj_Heap} {o : Nat} : pj_step 10 (105, L, .ref o :: st, (N, S, H)) = pj_pv 108 L st (N, S, H) (pj_fld (H o) 5 0) := st_getfield q10_105
theorem x10_105 {L : pj_Loc} {st : List Value} {N S : Nat} {H : pj_Heap} {o : Nat} {o9 : Option Value × pj_Mem} : pj_Ends 10 (105, L, .ref o :: st, (N, S, H)) o9 = pj_then 10 o9 (pj_pv 108 L st (N, S, H) (pj_fld (H o) 5 0)) := pj_xt q10_105 rfl (pj_cl_nc rfl) (s10_105)
theorem q10_108 : pj_row 10 108 = some (.getfield 65, 3, 4, 10, 0) := by decide +kernel
theorem s10_108 {L : pj_Loc} {st : List Value} {N S : Nat} {H : pj_Heap} {o : Nat} : pj_step 10 (108, L, .ref o :: st, (N, S, H)) = pj_pv 111 L st (N, S, H) (pj_fld (H o) 4 10) := st_getfield q10_108
theorem x10_108 {L : pj_Loc} {st : List Value} {N S : Nat} {H : pj_Heap} {o : Nat} {o9 : Option Value × pj_Mem} : pj_Ends 10 (108, L, .ref o :: st, (N, S, H)) o9 = pj_then 10 o9 (pj_pv 111 L st (N, S, H) (pj_fld (H o) 4 10)) := pj_xt q10_108 rfl (pj_cl_nc rfl) (s10_108)
theorem q10_111 : pj_row 10 111 = some (.ireturn, 1, 0, 0, 0) := by decide +kernel
theorem t10_111 {L : pj_Loc} {M : pj_Mem} {v : Int32} : pj_Ends 10 (111, L, [.int v], M) (some (.int v), M) := pj_Ends.ret q10_111 (pj_rtn_i rt10)
theorem q10_112 : pj_row 10 112 = some (.aload_n 0, 1, 0, 0, 0) := by decide +kernel
theorem s10_112 {st : List Value} {M : pj_Mem} {l : pj_Loc} {x : Nat} : pj_step 10 (112, some (.ref x) :: l, st, M) = some (113, some (.ref x) :: l, .ref x :: st, M) := st_aload_n q10_112 rfl
theorem x10_112 {st : List Value} {M : pj_Mem} {l : pj_Loc} {x : Nat} {o9 : Option Value × pj_Mem} : pj_Ends 10 (112, some (.ref x) :: l, st, M) o9 = pj_Ends 10 (113, some (.ref x) :: l, .ref x :: st, M) o9 := pj_xs (s10_112)
theorem q10_113 : pj_row 10 113 = some (.getfield 10, 3, 5, 0, 0) := by decide +kernel
theorem s10_113 {L : pj_Loc} {st : List Value} {N S : Nat} {H : pj_Heap} {o : Nat} : pj_step 10 (113, L, .ref o :: st, (N, S, H)) = pj_pv 116 L st (N, S, H) (pj_fld (H o) 5 0) := st_getfield q10_113
theorem x10_113 {L : pj_Loc} {st : List Value} {N S : Nat} {H : pj_Heap} {o : Nat} {o9 : Option Value × pj_Mem} : pj_Ends 10 (113, L, .ref o :: st, (N, S, H)) o9 = pj_then 10 o9 (pj_pv 116 L st (N, S, H) (pj_fld (H o) 5 0)) := pj_xt q10_113 rfl (pj_cl_nc rfl) (s10_113)
theorem q10_116 : pj_row 10 116 = some (.getfield 135, 3, 4, 9, 0) := by decide +kernel
theorem s10_116 {L : pj_Loc} {st : List Value} {N S : Nat} {H : pj_Heap} {o : Nat} : pj_step 10 (116, L, .ref o :: st, (N, S, H)) = pj_pv 119 L st (N, S, H) (pj_fld (H o) 4 9) := st_getfield q10_116
theorem x10_116 {L : pj_Loc} {st : List Value} {N S : Nat} {H : pj_Heap} {o : Nat} {o9 : Option Value × pj_Mem} : pj_Ends 10 (116, L, .ref o :: st, (N, S, H)) o9 = pj_then 10 o9 (pj_pv 119 L st (N, S, H) (pj_fld (H o) 4 9)) := pj_xt q10_116 rfl (pj_cl_nc rfl) (s10_116)
theorem q10_119 : pj_row 10 119 = some (.ireturn, 1, 0, 0, 0) := by decide +kernel
theorem t10_119 {L : pj_Loc} {M : pj_Mem} {v : Int32} : pj_Ends 10 (119, L, [.int v], M) (some (.int v), M) := pj_Ends.ret q10_119 (pj_rtn_i rt10)
theorem q10_120 : pj_row 10 120 = some (.aload_n 0, 1, 0, 0, 0) := by decide +kernel
theorem s10_120 {st : List Value} {M : pj_Mem} {l : pj_Loc} {x : Nat} : pj_step 10 (120, some (.ref x) :: l, st, M) = some (121, some (.ref x) :: l, .ref x :: st, M) := st_aload_n q10_120 rfl
theorem x10_120 {st : List Value} {M : pj_Mem} {l : pj_Loc} {x : Nat} {o9 : Option Value × pj_Mem} : pj_Ends 10 (120, some (.ref x) :: l, st, M) o9 = pj_Ends 10 (121, some (.ref x) :: l, .ref x :: st, M) o9 := pj_xs (s10_120)
theorem q10_121 : pj_row 10 121 = some (.getfield 10, 3, 5, 0, 0) := by decide +kernel
theorem s10_121 {L : pj_Loc} {st : List Value} {N S : Nat} {H : pj_Heap} {o : Nat} : pj_step 10 (121, L, .ref o :: st, (N, S, H)) = pj_pv 124 L st (N, S, H) (pj_fld (H o) 5 0) := st_getfield q10_121
theorem x10_121 {L : pj_Loc} {st : List Value} {N S : Nat} {H : pj_Heap} {o : Nat} {o9 : Option Value × pj_Mem} : pj_Ends 10 (121, L, .ref o :: st, (N, S, H)) o9 = pj_then 10 o9 (pj_pv 124 L st (N, S, H) (pj_fld (H o) 5 0)) := pj_xt q10_121 rfl (pj_cl_nc rfl) (s10_121)
theorem q10_124 : pj_row 10 124 = some (.getfield 95, 3, 4, 7, 0) := by decide +kernel
theorem s10_124 {L : pj_Loc} {st : List Value} {N S : Nat} {H : pj_Heap} {o : Nat} : pj_step 10 (124, L, .ref o :: st, (N, S, H)) = pj_pv 127 L st (N, S, H) (pj_fld (H o) 4 7) := st_getfield q10_124
theorem x10_124 {L : pj_Loc} {st : List Value} {N S : Nat} {H : pj_Heap} {o : Nat} {o9 : Option Value × pj_Mem} : pj_Ends 10 (124, L, .ref o :: st, (N, S, H)) o9 = pj_then 10 o9 (pj_pv 127 L st (N, S, H) (pj_fld (H o) 4 7)) := pj_xt q10_124 rfl (pj_cl_nc rfl) (s10_124)
theorem q10_127 : pj_row 10 127 = some (.ireturn, 1, 0, 0, 0) := by decide +kernel
theorem t10_127 {L : pj_Loc} {M : pj_Mem} {v : Int32} : pj_Ends 10 (127, L, [.int v], M) (some (.int v), M) := pj_Ends.ret q10_127 (pj_rtn_i rt10)
theorem q10_128 : pj_row 10 128 = some (.aload_n 0, 1, 0, 0, 0) := by decide +kernel
theorem s10_128 {st : List Value} {M : pj_Mem} {l : pj_Loc} {x : Nat} : pj_step 10 (128, some (.ref x) :: l, st, M) = some (129, some (.ref x) :: l, .ref x :: st, M) := st_aload_n q10_128 rfl
theorem x10_128 {st : List Value} {M : pj_Mem} {l : pj_Loc} {x : Nat} {o9 : Option Value × pj_Mem} : pj_Ends 10 (128, some (.ref x) :: l, st, M) o9 = pj_Ends 10 (129, some (.ref x) :: l, .ref x :: st, M) o9 := pj_xs (s10_128)
theorem q10_129 : pj_row 10 129 = some (.getfield 10, 3, 5, 0, 0) := by decide +kernel
theorem s10_129 {L : pj_Loc} {st : List Value} {N S : Nat} {H : pj_Heap} {o : Nat} : pj_step 10 (129, L, .ref o :: st, (N, S, H)) = pj_pv 132 L st (N, S, H) (pj_fld (H o) 5 0) := st_getfield q10_129
theorem x10_129 {L : pj_Loc} {st : List Value} {N S : Nat} {H : pj_Heap} {o : Nat} {o9 : Option Value × pj_Mem} : pj_Ends 10 (129, L, .ref o :: st, (N, S, H)) o9 = pj_then 10 o9 (pj_pv 132 L st (N, S, H) (pj_fld (H o) 5 0)) := pj_xt q10_129 rfl (pj_cl_nc rfl) (s10_129)
theorem q10_132 : pj_row 10 132 = some (.invokevirtual 91, 3, 11, 1, 0) := by decide +kernel
theorem e10_132 {L : pj_Loc} {st : List Value} {N S : Nat} {H : pj_Heap} {o : Option Value × pj_Mem} {M' : pj_Mem} {x0 : Nat} {r : Int32} (h4 : pj_le4 st = true) (hu : pj_isU 4 (H x0) = true) (h1 : pj_Ends 11 (0, [some (.ref x0), none, none], [], (N, S, H)) (some (.int r), M')) (h2 : pj_Ends 10 (135, L, .int r :: st, M') o) : pj_Ends 10 (132, L, .ref x0 :: st, (N, S, H)) o := ec_v1 q10_132 (Or.inl rfl) h4 hu rfl h1 h2
theorem q10_135 : pj_row 10 135 = some (.ireturn, 1, 0, 0, 0) := by decide +kernel
theorem t10_135 {L : pj_Loc} {M : pj_Mem} {v : Int32} : pj_Ends 10 (135, L, [.int v], M) (some (.int v), M) := pj_Ends.ret q10_135 (pj_rtn_i rt10)
theorem q10_136 : pj_row 10 136 = some (.aload_n 0, 1, 0, 0, 0) := by decide +kernel
theorem s10_136 {st : List Value} {M : pj_Mem} {l : pj_Loc} {x : Nat} : pj_step 10 (136, some (.ref x) :: l, st, M) = some (137, some (.ref x) :: l, .ref x :: st, M) := st_aload_n q10_136 rfl
theorem x10_136 {st : List Value} {M : pj_Mem} {l : pj_Loc} {x : Nat} {o9 : Option Value × pj_Mem} : pj_Ends 10 (136, some (.ref x) :: l, st, M) o9 = pj_Ends 10 (137, some (.ref x) :: l, .ref x :: st, M) o9 := pj_xs (s10_136)
theorem q10_137 : pj_row 10 137 = some (.getfield 10, 3, 5, 0, 0) := by decide +kernel
theorem s10_137 {L : pj_Loc} {st : List Value} {N S : Nat} {H : pj_Heap} {o : Nat} : pj_step 10 (137, L, .ref o :: st, (N, S, H)) = pj_pv 140 L st (N, S, H) (pj_fld (H o) 5 0) := st_getfield q10_137
theorem x10_137 {L : pj_Loc} {st : List Value} {N S : Nat} {H : pj_Heap} {o : Nat} {o9 : Option Value × pj_Mem} : pj_Ends 10 (137, L, .ref o :: st, (N, S, H)) o9 = pj_then 10 o9 (pj_pv 140 L st (N, S, H) (pj_fld (H o) 5 0)) := pj_xt q10_137 rfl (pj_cl_nc rfl) (s10_137)
theorem q10_140 : pj_row 10 140 = some (.getfield 74, 3, 4, 8, 0) := by decide +kernel
theorem s10_140 {L : pj_Loc} {st : List Value} {N S : Nat} {H : pj_Heap} {o : Nat} : pj_step 10 (140, L, .ref o :: st, (N, S, H)) = pj_pv 143 L st (N, S, H) (pj_fld (H o) 4 8) := st_getfield q10_140
theorem x10_140 {L : pj_Loc} {st : List Value} {N S : Nat} {H : pj_Heap} {o : Nat} {o9 : Option Value × pj_Mem} : pj_Ends 10 (140, L, .ref o :: st, (N, S, H)) o9 = pj_then 10 o9 (pj_pv 143 L st (N, S, H) (pj_fld (H o) 4 8)) := pj_xt q10_140 rfl (pj_cl_nc rfl) (s10_140)
theorem q10_143 : pj_row 10 143 = some (.ireturn, 1, 0, 0, 0) := by decide +kernel
theorem t10_143 {L : pj_Loc} {M : pj_Mem} {v : Int32} : pj_Ends 10 (143, L, [.int v], M) (some (.int v), M) := pj_Ends.ret q10_143 (pj_rtn_i rt10)
theorem q10_144 : pj_row 10 144 = some (.aload_n 0, 1, 0, 0, 0) := by decide +kernel
theorem s10_144 {st : List Value} {M : pj_Mem} {l : pj_Loc} {x : Nat} : pj_step 10 (144, some (.ref x) :: l, st, M) = some (145, some (.ref x) :: l, .ref x :: st, M) := st_aload_n q10_144 rfl
theorem x10_144 {st : List Value} {M : pj_Mem} {l : pj_Loc} {x : Nat} {o9 : Option Value × pj_Mem} : pj_Ends 10 (144, some (.ref x) :: l, st, M) o9 = pj_Ends 10 (145, some (.ref x) :: l, .ref x :: st, M) o9 := pj_xs (s10_144)
theorem q10_145 : pj_row 10 145 = some (.getfield 10, 3, 5, 0, 0) := by decide +kernel
theorem s10_145 {L : pj_Loc} {st : List Value} {N S : Nat} {H : pj_Heap} {o : Nat} : pj_step 10 (145, L, .ref o :: st, (N, S, H)) = pj_pv 148 L st (N, S, H) (pj_fld (H o) 5 0) := st_getfield q10_145
theorem x10_145 {L : pj_Loc} {st : List Value} {N S : Nat} {H : pj_Heap} {o : Nat} {o9 : Option Value × pj_Mem} : pj_Ends 10 (145, L, .ref o :: st, (N, S, H)) o9 = pj_then 10 o9 (pj_pv 148 L st (N, S, H) (pj_fld (H o) 5 0)) := pj_xt q10_145 rfl (pj_cl_nc rfl) (s10_145)
theorem q10_148 : pj_row 10 148 = some (.getfield 123, 3, 4, 6, 0) := by decide +kernel
theorem s10_148 {L : pj_Loc} {st : List Value} {N S : Nat} {H : pj_Heap} {o : Nat} : pj_step 10 (148, L, .ref o :: st, (N, S, H)) = pj_pv 151 L st (N, S, H) (pj_fld (H o) 4 6) := st_getfield q10_148
theorem x10_148 {L : pj_Loc} {st : List Value} {N S : Nat} {H : pj_Heap} {o : Nat} {o9 : Option Value × pj_Mem} : pj_Ends 10 (148, L, .ref o :: st, (N, S, H)) o9 = pj_then 10 o9 (pj_pv 151 L st (N, S, H) (pj_fld (H o) 4 6)) := pj_xt q10_148 rfl (pj_cl_nc rfl) (s10_148)
theorem q10_151 : pj_row 10 151 = some (.getfield 127, 3, 2, 1, 0) := by decide +kernel
theorem s10_151 {L : pj_Loc} {st : List Value} {N S : Nat} {H : pj_Heap} {o : Nat} : pj_step 10 (151, L, .ref o :: st, (N, S, H)) = pj_pv 154 L st (N, S, H) (pj_fld (H o) 2 1) := st_getfield q10_151
theorem x10_151 {L : pj_Loc} {st : List Value} {N S : Nat} {H : pj_Heap} {o : Nat} {o9 : Option Value × pj_Mem} : pj_Ends 10 (151, L, .ref o :: st, (N, S, H)) o9 = pj_then 10 o9 (pj_pv 154 L st (N, S, H) (pj_fld (H o) 2 1)) := pj_xt q10_151 rfl (pj_cl_nc rfl) (s10_151)
theorem q10_154 : pj_row 10 154 = some (.ireturn, 1, 0, 0, 0) := by decide +kernel
theorem t10_154 {L : pj_Loc} {M : pj_Mem} {v : Int32} : pj_Ends 10 (154, L, [.int v], M) (some (.int v), M) := pj_Ends.ret q10_154 (pj_rtn_i rt10)
theorem q10_155 : pj_row 10 155 = some (.aload_n 0, 1, 0, 0, 0) := by decide +kernel
theorem s10_155 {st : List Value} {M : pj_Mem} {l : pj_Loc} {x : Nat} : pj_step 10 (155, some (.ref x) :: l, st, M) = some (156, some (.ref x) :: l, .ref x :: st, M) := st_aload_n q10_155 rfl
theorem x10_155 {st : List Value} {M : pj_Mem} {l : pj_Loc} {x : Nat} {o9 : Option Value × pj_Mem} : pj_Ends 10 (155, some (.ref x) :: l, st, M) o9 = pj_Ends 10 (156, some (.ref x) :: l, .ref x :: st, M) o9 := pj_xs (s10_155)
theorem q10_156 : pj_row 10 156 = some (.getfield 10, 3, 5, 0, 0) := by decide +kernel
theorem s10_156 {L : pj_Loc} {st : List Value} {N S : Nat} {H : pj_Heap} {o : Nat} : pj_step 10 (156, L, .ref o :: st, (N, S, H)) = pj_pv 159 L st (N, S, H) (pj_fld (H o) 5 0) := st_getfield q10_156
theorem x10_156 {L : pj_Loc} {st : List Value} {N S : Nat} {H : pj_Heap} {o : Nat} {o9 : Option Value × pj_Mem} : pj_Ends 10 (156, L, .ref o :: st, (N, S, H)) o9 = pj_then 10 o9 (pj_pv 159 L st (N, S, H) (pj_fld (H o) 5 0)) := pj_xt q10_156 rfl (pj_cl_nc rfl) (s10_156)
theorem q10_159 : pj_row 10 159 = some (.getfield 123, 3, 4, 6, 0) := by decide +kernel
theorem s10_159 {L : pj_Loc} {st : List Value} {N S : Nat} {H : pj_Heap} {o : Nat} : pj_step 10 (159, L, .ref o :: st, (N, S, H)) = pj_pv 162 L st (N, S, H) (pj_fld (H o) 4 6) := st_getfield q10_159
theorem x10_159 {L : pj_Loc} {st : List Value} {N S : Nat} {H : pj_Heap} {o : Nat} {o9 : Option Value × pj_Mem} : pj_Ends 10 (159, L, .ref o :: st, (N, S, H)) o9 = pj_then 10 o9 (pj_pv 162 L st (N, S, H) (pj_fld (H o) 4 6)) := pj_xt q10_159 rfl (pj_cl_nc rfl) (s10_159)
theorem q10_162 : pj_row 10 162 = some (.getfield 138, 3, 2, 2, 0) := by decide +kernel
theorem s10_162 {L : pj_Loc} {st : List Value} {N S : Nat} {H : pj_Heap} {o : Nat} : pj_step 10 (162, L, .ref o :: st, (N, S, H)) = pj_pv 165 L st (N, S, H) (pj_fld (H o) 2 2) := st_getfield q10_162
theorem x10_162 {L : pj_Loc} {st : List Value} {N S : Nat} {H : pj_Heap} {o : Nat} {o9 : Option Value × pj_Mem} : pj_Ends 10 (162, L, .ref o :: st, (N, S, H)) o9 = pj_then 10 o9 (pj_pv 165 L st (N, S, H) (pj_fld (H o) 2 2)) := pj_xt q10_162 rfl (pj_cl_nc rfl) (s10_162)
theorem q10_165 : pj_row 10 165 = some (.ireturn, 1, 0, 0, 0) := by decide +kernel
theorem t10_165 {L : pj_Loc} {M : pj_Mem} {v : Int32} : pj_Ends 10 (165, L, [.int v], M) (some (.int v), M) := pj_Ends.ret q10_165 (pj_rtn_i rt10)
theorem q10_166 : pj_row 10 166 = some (.aload_n 0, 1, 0, 0, 0) := by decide +kernel
theorem s10_166 {st : List Value} {M : pj_Mem} {l : pj_Loc} {x : Nat} : pj_step 10 (166, some (.ref x) :: l, st, M) = some (167, some (.ref x) :: l, .ref x :: st, M) := st_aload_n q10_166 rfl
theorem x10_166 {st : List Value} {M : pj_Mem} {l : pj_Loc} {x : Nat} {o9 : Option Value × pj_Mem} : pj_Ends 10 (166, some (.ref x) :: l, st, M) o9 = pj_Ends 10 (167, some (.ref x) :: l, .ref x :: st, M) o9 := pj_xs (s10_166)
theorem q10_167 : pj_row 10 167 = some (.getfield 10, 3, 5, 0, 0) := by decide +kernel
theorem s10_167 {L : pj_Loc} {st : List Value} {N S : Nat} {H : pj_Heap} {o : Nat} : pj_step 10 (167, L, .ref o :: st, (N, S, H)) = pj_pv 170 L st (N, S, H) (pj_fld (H o) 5 0) := st_getfield q10_167
theorem x10_167 {L : pj_Loc} {st : List Value} {N S : Nat} {H : pj_Heap} {o : Nat} {o9 : Option Value × pj_Mem} : pj_Ends 10 (167, L, .ref o :: st, (N, S, H)) o9 = pj_then 10 o9 (pj_pv 170 L st (N, S, H) (pj_fld (H o) 5 0)) := pj_xt q10_167 rfl (pj_cl_nc rfl) (s10_167)
theorem q10_170 : pj_row 10 170 = some (.getfield 123, 3, 4, 6, 0) := by decide +kernel
theorem s10_170 {L : pj_Loc} {st : List Value} {N S : Nat} {H : pj_Heap} {o : Nat} : pj_step 10 (170, L, .ref o :: st, (N, S, H)) = pj_pv 173 L st (N, S, H) (pj_fld (H o) 4 6) := st_getfield q10_170
theorem x10_170 {L : pj_Loc} {st : List Value} {N S : Nat} {H : pj_Heap} {o : Nat} {o9 : Option Value × pj_Mem} : pj_Ends 10 (170, L, .ref o :: st, (N, S, H)) o9 = pj_then 10 o9 (pj_pv 173 L st (N, S, H) (pj_fld (H o) 4 6)) := pj_xt q10_170 rfl (pj_cl_nc rfl) (s10_170)
theorem q10_173 : pj_row 10 173 = some (.aload_n 0, 1, 0, 0, 0) := by decide +kernel
theorem s10_173 {st : List Value} {M : pj_Mem} {l : pj_Loc} {x : Nat} : pj_step 10 (173, some (.ref x) :: l, st, M) = some (174, some (.ref x) :: l, .ref x :: st, M) := st_aload_n q10_173 rfl
theorem x10_173 {st : List Value} {M : pj_Mem} {l : pj_Loc} {x : Nat} {o9 : Option Value × pj_Mem} : pj_Ends 10 (173, some (.ref x) :: l, st, M) o9 = pj_Ends 10 (174, some (.ref x) :: l, .ref x :: st, M) o9 := pj_xs (s10_173)
theorem q10_174 : pj_row 10 174 = some (.getfield 10, 3, 5, 0, 0) := by decide +kernel
theorem s10_174 {L : pj_Loc} {st : List Value} {N S : Nat} {H : pj_Heap} {o : Nat} : pj_step 10 (174, L, .ref o :: st, (N, S, H)) = pj_pv 177 L st (N, S, H) (pj_fld (H o) 5 0) := st_getfield q10_174
theorem x10_174 {L : pj_Loc} {st : List Value} {N S : Nat} {H : pj_Heap} {o : Nat} {o9 : Option Value × pj_Mem} : pj_Ends 10 (174, L, .ref o :: st, (N, S, H)) o9 = pj_then 10 o9 (pj_pv 177 L st (N, S, H) (pj_fld (H o) 5 0)) := pj_xt q10_174 rfl (pj_cl_nc rfl) (s10_174)
theorem q10_177 : pj_row 10 177 = some (.getfield 65, 3, 4, 10, 0) := by decide +kernel
theorem s10_177 {L : pj_Loc} {st : List Value} {N S : Nat} {H : pj_Heap} {o : Nat} : pj_step 10 (177, L, .ref o :: st, (N, S, H)) = pj_pv 180 L st (N, S, H) (pj_fld (H o) 4 10) := st_getfield q10_177
theorem x10_177 {L : pj_Loc} {st : List Value} {N S : Nat} {H : pj_Heap} {o : Nat} {o9 : Option Value × pj_Mem} : pj_Ends 10 (177, L, .ref o :: st, (N, S, H)) o9 = pj_then 10 o9 (pj_pv 180 L st (N, S, H) (pj_fld (H o) 4 10)) := pj_xt q10_177 rfl (pj_cl_nc rfl) (s10_177)
theorem q10_180 : pj_row 10 180 = some (.invokevirtual 141, 3, 13, 2, 0) := by decide +kernel
theorem e10_180 {L : pj_Loc} {st : List Value} {N S : Nat} {H : pj_Heap} {o : Option Value × pj_Mem} {M' : pj_Mem} {x0 : Nat} {x1 : Int32} {r : Int32} (h4 : pj_le4 st = true) (hu : pj_isU 2 (H x0) = true) (h1 : pj_Ends 13 (0, [some (.ref x0), some (.int x1)], [], (N, S, H)) (some (.int r), M')) (h2 : pj_Ends 10 (183, L, .int r :: st, M') o) : pj_Ends 10 (180, L, .int x1 :: .ref x0 :: st, (N, S, H)) o := ec_v2 q10_180 (Or.inl rfl) h4 hu rfl h1 h2
theorem q10_183 : pj_row 10 183 = some (.invokestatic 116, 3, 9, 1, 0) := by decide +kernel
theorem e10_183 {L : pj_Loc} {st : List Value} {N S : Nat} {H : pj_Heap} {o : Option Value × pj_Mem} {M' : pj_Mem} {x0 : Int32} {r : Int32} (h4 : pj_le4 st = true) (h1 : pj_Ends 9 (0, [some (.int x0)], [], (N, S, H)) (some (.int r), M')) (h2 : pj_Ends 10 (186, L, .int r :: st, M') o) : pj_Ends 10 (183, L, .int x0 :: st, (N, S, H)) o := ec_s1 q10_183 (Or.inl rfl) h4 rfl h1 h2
theorem q10_186 : pj_row 10 186 = some (.ireturn, 1, 0, 0, 0) := by decide +kernel
theorem t10_186 {L : pj_Loc} {M : pj_Mem} {v : Int32} : pj_Ends 10 (186, L, [.int v], M) (some (.int v), M) := pj_Ends.ret q10_186 (pj_rtn_i rt10)
theorem q10_187 : pj_row 10 187 = some (.aload_n 0, 1, 0, 0, 0) := by decide +kernel
theorem s10_187 {st : List Value} {M : pj_Mem} {l : pj_Loc} {x : Nat} : pj_step 10 (187, some (.ref x) :: l, st, M) = some (188, some (.ref x) :: l, .ref x :: st, M) := st_aload_n q10_187 rfl
theorem x10_187 {st : List Value} {M : pj_Mem} {l : pj_Loc} {x : Nat} {o9 : Option Value × pj_Mem} : pj_Ends 10 (187, some (.ref x) :: l, st, M) o9 = pj_Ends 10 (188, some (.ref x) :: l, .ref x :: st, M) o9 := pj_xs (s10_187)
theorem q10_188 : pj_row 10 188 = some (.getfield 29, 3, 5, 3, 0) := by decide +kernel
theorem s10_188 {L : pj_Loc} {st : List Value} {N S : Nat} {H : pj_Heap} {o : Nat} : pj_step 10 (188, L, .ref o :: st, (N, S, H)) = pj_pv 191 L st (N, S, H) (pj_fld (H o) 5 3) := st_getfield q10_188
theorem x10_188 {L : pj_Loc} {st : List Value} {N S : Nat} {H : pj_Heap} {o : Nat} {o9 : Option Value × pj_Mem} : pj_Ends 10 (188, L, .ref o :: st, (N, S, H)) o9 = pj_then 10 o9 (pj_pv 191 L st (N, S, H) (pj_fld (H o) 5 3)) := pj_xt q10_188 rfl (pj_cl_nc rfl) (s10_188)
theorem q10_191 : pj_row 10 191 = some (.getfield 145, 3, 0, 2, 0) := by decide +kernel
theorem s10_191 {L : pj_Loc} {st : List Value} {N S : Nat} {H : pj_Heap} {o : Nat} : pj_step 10 (191, L, .ref o :: st, (N, S, H)) = pj_pv 194 L st (N, S, H) (pj_fld (H o) 0 2) := st_getfield q10_191
theorem x10_191 {L : pj_Loc} {st : List Value} {N S : Nat} {H : pj_Heap} {o : Nat} {o9 : Option Value × pj_Mem} : pj_Ends 10 (191, L, .ref o :: st, (N, S, H)) o9 = pj_then 10 o9 (pj_pv 194 L st (N, S, H) (pj_fld (H o) 0 2)) := pj_xt q10_191 rfl (pj_cl_nc rfl) (s10_191)
theorem q10_194 : pj_row 10 194 = some (.ireturn, 1, 0, 0, 0) := by decide +kernel
theorem t10_194 {L : pj_Loc} {M : pj_Mem} {v : Int32} : pj_Ends 10 (194, L, [.int v], M) (some (.int v), M) := pj_Ends.ret q10_194 (pj_rtn_i rt10)
theorem q10_195 : pj_row 10 195 = some (.aload_n 0, 1, 0, 0, 0) := by decide +kernel
theorem s10_195 {st : List Value} {M : pj_Mem} {l : pj_Loc} {x : Nat} : pj_step 10 (195, some (.ref x) :: l, st, M) = some (196, some (.ref x) :: l, .ref x :: st, M) := st_aload_n q10_195 rfl
theorem x10_195 {st : List Value} {M : pj_Mem} {l : pj_Loc} {x : Nat} {o9 : Option Value × pj_Mem} : pj_Ends 10 (195, some (.ref x) :: l, st, M) o9 = pj_Ends 10 (196, some (.ref x) :: l, .ref x :: st, M) o9 := pj_xs (s10_195)
theorem q10_196 : pj_row 10 196 = some (.getfield 148, 3, 5, 5, 0) := by decide +kernel
theorem s10_196 {L : pj_Loc} {st : List Value} {N S : Nat} {H : pj_Heap} {o : Nat} : pj_step 10 (196, L, .ref o :: st, (N, S, H)) = pj_pv 199 L st (N, S, H) (pj_fld (H o) 5 5) := st_getfield q10_196
theorem x10_196 {L : pj_Loc} {st : List Value} {N S : Nat} {H : pj_Heap} {o : Nat} {o9 : Option Value × pj_Mem} : pj_Ends 10 (196, L, .ref o :: st, (N, S, H)) o9 = pj_then 10 o9 (pj_pv 199 L st (N, S, H) (pj_fld (H o) 5 5)) := pj_xt q10_196 rfl (pj_cl_nc rfl) (s10_196)
theorem q10_199 : pj_row 10 199 = some (.ireturn, 1, 0, 0, 0) := by decide +kernel
theorem t10_199 {L : pj_Loc} {M : pj_Mem} {v : Int32} : pj_Ends 10 (199, L, [.int v], M) (some (.int v), M) := pj_Ends.ret q10_199 (pj_rtn_i rt10)
theorem q10_200 : pj_row 10 200 = some (.bipush (-2), 2, 0, 0, 0) := by decide +kernel
theorem s10_200 {L : pj_Loc} {st : List Value} {M : pj_Mem}  : pj_step 10 (200, L, st, M) = some (202, L, .int (-2) :: st, M) := st_bipush q10_200 (by decide +kernel)
theorem x10_200 {L : pj_Loc} {st : List Value} {M : pj_Mem}  {o9 : Option Value × pj_Mem} : pj_Ends 10 (200, L, st, M) o9 = pj_Ends 10 (202, L, .int (-2) :: st, M) o9 := pj_xs (s10_200)
theorem q10_202 : pj_row 10 202 = some (.ireturn, 1, 0, 0, 0) := by decide +kernel
theorem t10_202 {L : pj_Loc} {M : pj_Mem} {v : Int32} : pj_Ends 10 (202, L, [.int v], M) (some (.int v), M) := pj_Ends.ret q10_202 (pj_rtn_i rt10)
theorem rt11 : pj_rt 11 = some .int := rfl
theorem q11_0 : pj_row 11 0 = some (.iconst 0, 1, 0, 0, 0) := by decide +kernel
theorem s11_0 {L : pj_Loc} {st : List Value} {M : pj_Mem}  : pj_step 11 (0, L, st, M) = some (1, L, .int 0 :: st, M) := st_iconst q11_0 (by decide +kernel)
theorem x11_0 {L : pj_Loc} {st : List Value} {M : pj_Mem}  {o9 : Option Value × pj_Mem} : pj_Ends 11 (0, L, st, M) o9 = pj_Ends 11 (1, L, .int 0 :: st, M) o9 := pj_xs (s11_0)
theorem q11_1 : pj_row 11 1 = some (.istore_n 1, 1, 0, 0, 0) := by decide +kernel
theorem s11_1 {st : List Value} {M : pj_Mem} {l : pj_Loc} {a0 a1 : Option Value} {x : Int32} (h : pj_long a0 = false) : pj_step 11 (1, a0 :: a1 :: l, .int x :: st, M) = some (2, a0 :: some (.int x) :: l, st, M) := st_istore_n q11_1 (pj_st_1 h)
theorem x11_1 {st : List Value} {M : pj_Mem} {l : pj_Loc} {a0 a1 : Option Value} {x : Int32} (h : pj_long a0 = false) {o9 : Option Value × pj_Mem} : pj_Ends 11 (1, a0 :: a1 :: l, .int x :: st, M) o9 = pj_Ends 11 (2, a0 :: some (.int x) :: l, st, M) o9 := pj_xs (s11_1 h)
theorem q11_2 : pj_row 11 2 = some (.iconst 0, 1, 0, 0, 0) := by decide +kernel
theorem s11_2 {L : pj_Loc} {st : List Value} {M : pj_Mem}  : pj_step 11 (2, L, st, M) = some (3, L, .int 0 :: st, M) := st_iconst q11_2 (by decide +kernel)
theorem x11_2 {L : pj_Loc} {st : List Value} {M : pj_Mem}  {o9 : Option Value × pj_Mem} : pj_Ends 11 (2, L, st, M) o9 = pj_Ends 11 (3, L, .int 0 :: st, M) o9 := pj_xs (s11_2)
theorem q11_3 : pj_row 11 3 = some (.istore_n 2, 1, 0, 0, 0) := by decide +kernel
theorem s11_3 {st : List Value} {M : pj_Mem} {l : pj_Loc} {a0 a1 a2 : Option Value} {x : Int32} (h : pj_long a1 = false) : pj_step 11 (3, a0 :: a1 :: a2 :: l, .int x :: st, M) = some (4, a0 :: a1 :: some (.int x) :: l, st, M) := st_istore_n q11_3 (pj_st_2 h)
theorem x11_3 {st : List Value} {M : pj_Mem} {l : pj_Loc} {a0 a1 a2 : Option Value} {x : Int32} (h : pj_long a1 = false) {o9 : Option Value × pj_Mem} : pj_Ends 11 (3, a0 :: a1 :: a2 :: l, .int x :: st, M) o9 = pj_Ends 11 (4, a0 :: a1 :: some (.int x) :: l, st, M) o9 := pj_xs (s11_3 h)
theorem q11_4 : pj_row 11 4 = some (.iload_n 2, 1, 0, 0, 0) := by decide +kernel
theorem s11_4 {st : List Value} {M : pj_Mem} {l : pj_Loc} {a0 a1 : Option Value} {x : Int32} : pj_step 11 (4, a0 :: a1 :: some (.int x) :: l, st, M) = some (5, a0 :: a1 :: some (.int x) :: l, .int x :: st, M) := st_iload_n q11_4 rfl
theorem x11_4 {st : List Value} {M : pj_Mem} {l : pj_Loc} {a0 a1 : Option Value} {x : Int32} {o9 : Option Value × pj_Mem} : pj_Ends 11 (4, a0 :: a1 :: some (.int x) :: l, st, M) o9 = pj_Ends 11 (5, a0 :: a1 :: some (.int x) :: l, .int x :: st, M) o9 := pj_xs (s11_4)
theorem q11_5 : pj_row 11 5 = some (.iconst 3, 1, 0, 0, 0) := by decide +kernel
theorem s11_5 {L : pj_Loc} {st : List Value} {M : pj_Mem}  : pj_step 11 (5, L, st, M) = some (6, L, .int 3 :: st, M) := st_iconst q11_5 (by decide +kernel)
theorem x11_5 {L : pj_Loc} {st : List Value} {M : pj_Mem}  {o9 : Option Value × pj_Mem} : pj_Ends 11 (5, L, st, M) o9 = pj_Ends 11 (6, L, .int 3 :: st, M) o9 := pj_xs (s11_5)
theorem q11_6 : pj_row 11 6 = some (.if_icmp .ge 26, 3, 32, 0, 0) := by decide +kernel
theorem s11_6 {L : pj_Loc} {st : List Value} {M : pj_Mem} {x y : Int32} : pj_step 11 (6, L, .int y :: .int x :: st, M) = some (if y ≤ x then 32 else 9, L, st, M) := st_icmp_ge q11_6
theorem x11_6 {L : pj_Loc} {st : List Value} {M : pj_Mem} {x y : Int32} {o9 : Option Value × pj_Mem} : pj_Ends 11 (6, L, .int y :: .int x :: st, M) o9 = pj_Ends 11 (if y ≤ x then 32 else 9, L, st, M) o9 := pj_xs (s11_6)
theorem q11_9 : pj_row 11 9 = some (.aload_n 0, 1, 0, 0, 0) := by decide +kernel
theorem s11_9 {st : List Value} {M : pj_Mem} {l : pj_Loc} {x : Nat} : pj_step 11 (9, some (.ref x) :: l, st, M) = some (10, some (.ref x) :: l, .ref x :: st, M) := st_aload_n q11_9 rfl
theorem x11_9 {st : List Value} {M : pj_Mem} {l : pj_Loc} {x : Nat} {o9 : Option Value × pj_Mem} : pj_Ends 11 (9, some (.ref x) :: l, st, M) o9 = pj_Ends 11 (10, some (.ref x) :: l, .ref x :: st, M) o9 := pj_xs (s11_9)
theorem q11_10 : pj_row 11 10 = some (.getfield 27, 3, 4, 5, 0) := by decide +kernel
theorem s11_10 {L : pj_Loc} {st : List Value} {N S : Nat} {H : pj_Heap} {o : Nat} : pj_step 11 (10, L, .ref o :: st, (N, S, H)) = pj_pv 13 L st (N, S, H) (pj_fld (H o) 4 5) := st_getfield q11_10
theorem x11_10 {L : pj_Loc} {st : List Value} {N S : Nat} {H : pj_Heap} {o : Nat} {o9 : Option Value × pj_Mem} : pj_Ends 11 (10, L, .ref o :: st, (N, S, H)) o9 = pj_then 11 o9 (pj_pv 13 L st (N, S, H) (pj_fld (H o) 4 5)) := pj_xt q11_10 rfl (pj_cl_nc rfl) (s11_10)
theorem q11_13 : pj_row 11 13 = some (.iload_n 2, 1, 0, 0, 0) := by decide +kernel
theorem s11_13 {st : List Value} {M : pj_Mem} {l : pj_Loc} {a0 a1 : Option Value} {x : Int32} : pj_step 11 (13, a0 :: a1 :: some (.int x) :: l, st, M) = some (14, a0 :: a1 :: some (.int x) :: l, .int x :: st, M) := st_iload_n q11_13 rfl
theorem x11_13 {st : List Value} {M : pj_Mem} {l : pj_Loc} {a0 a1 : Option Value} {x : Int32} {o9 : Option Value × pj_Mem} : pj_Ends 11 (13, a0 :: a1 :: some (.int x) :: l, st, M) o9 = pj_Ends 11 (14, a0 :: a1 :: some (.int x) :: l, .int x :: st, M) o9 := pj_xs (s11_13)
theorem q11_14 : pj_row 11 14 = some (.iaload, 1, 0, 0, 0) := by decide +kernel
theorem s11_14 {L : pj_Loc} {st : List Value} {N S : Nat} {H : pj_Heap} {o : Nat} {i : Int32} : pj_step 11 (14, L, .int i :: .ref o :: st, (N, S, H)) = pj_pi 15 L st (N, S, H) (pj_arl (H o) 0 i) := st_iaload q11_14
theorem x11_14 {L : pj_Loc} {st : List Value} {N S : Nat} {H : pj_Heap} {o : Nat} {i : Int32} {o9 : Option Value × pj_Mem} : pj_Ends 11 (14, L, .int i :: .ref o :: st, (N, S, H)) o9 = pj_then 11 o9 (pj_pi 15 L st (N, S, H) (pj_arl (H o) 0 i)) := pj_xt q11_14 rfl (pj_cl_nc rfl) (s11_14)
theorem q11_15 : pj_row 11 15 = some (.bipush (-6), 2, 0, 0, 0) := by decide +kernel
theorem s11_15 {L : pj_Loc} {st : List Value} {M : pj_Mem}  : pj_step 11 (15, L, st, M) = some (17, L, .int (-6) :: st, M) := st_bipush q11_15 (by decide +kernel)
theorem x11_15 {L : pj_Loc} {st : List Value} {M : pj_Mem}  {o9 : Option Value × pj_Mem} : pj_Ends 11 (15, L, st, M) o9 = pj_Ends 11 (17, L, .int (-6) :: st, M) o9 := pj_xs (s11_15)
theorem q11_17 : pj_row 11 17 = some (.if_icmp .eq 9, 3, 26, 0, 0) := by decide +kernel
theorem s11_17 {L : pj_Loc} {st : List Value} {M : pj_Mem} {x y : Int32} : pj_step 11 (17, L, .int y :: .int x :: st, M) = some (if x = y then 26 else 20, L, st, M) := st_icmp_eq q11_17
theorem x11_17 {L : pj_Loc} {st : List Value} {M : pj_Mem} {x y : Int32} {o9 : Option Value × pj_Mem} : pj_Ends 11 (17, L, .int y :: .int x :: st, M) o9 = pj_Ends 11 (if x = y then 26 else 20, L, st, M) o9 := pj_xs (s11_17)
theorem q11_20 : pj_row 11 20 = some (.iload_n 1, 1, 0, 0, 0) := by decide +kernel
theorem s11_20 {st : List Value} {M : pj_Mem} {l : pj_Loc} {a0 : Option Value} {x : Int32} : pj_step 11 (20, a0 :: some (.int x) :: l, st, M) = some (21, a0 :: some (.int x) :: l, .int x :: st, M) := st_iload_n q11_20 rfl
theorem x11_20 {st : List Value} {M : pj_Mem} {l : pj_Loc} {a0 : Option Value} {x : Int32} {o9 : Option Value × pj_Mem} : pj_Ends 11 (20, a0 :: some (.int x) :: l, st, M) o9 = pj_Ends 11 (21, a0 :: some (.int x) :: l, .int x :: st, M) o9 := pj_xs (s11_20)
theorem q11_21 : pj_row 11 21 = some (.iload_n 2, 1, 0, 0, 0) := by decide +kernel
theorem s11_21 {st : List Value} {M : pj_Mem} {l : pj_Loc} {a0 a1 : Option Value} {x : Int32} : pj_step 11 (21, a0 :: a1 :: some (.int x) :: l, st, M) = some (22, a0 :: a1 :: some (.int x) :: l, .int x :: st, M) := st_iload_n q11_21 rfl
theorem x11_21 {st : List Value} {M : pj_Mem} {l : pj_Loc} {a0 a1 : Option Value} {x : Int32} {o9 : Option Value × pj_Mem} : pj_Ends 11 (21, a0 :: a1 :: some (.int x) :: l, st, M) o9 = pj_Ends 11 (22, a0 :: a1 :: some (.int x) :: l, .int x :: st, M) o9 := pj_xs (s11_21)
theorem q11_22 : pj_row 11 22 = some (.invokestatic 79, 3, 12, 2, 1) := by decide +kernel
theorem e11_22 {L : pj_Loc} {st : List Value} {N S : Nat} {H : pj_Heap} {o : Option Value × pj_Mem} {M' : pj_Mem} {x0 : Int32} {x1 : Int32} {r : Int32} (h4 : pj_le4 st = true) (h1 : pj_Ends 12 (0, [some (.int x0), some (.int x1)], [], (N, S, H)) (some (.int r), M')) (h2 : pj_Ends 11 (25, L, .int r :: st, M') o) : pj_Ends 11 (22, L, .int x1 :: .int x0 :: st, (N, S, H)) o := ec_s2 q11_22 (Or.inr rfl) h4 rfl h1 h2
theorem q11_25 : pj_row 11 25 = some (.istore_n 1, 1, 0, 0, 0) := by decide +kernel
theorem s11_25 {st : List Value} {M : pj_Mem} {l : pj_Loc} {a0 a1 : Option Value} {x : Int32} (h : pj_long a0 = false) : pj_step 11 (25, a0 :: a1 :: l, .int x :: st, M) = some (26, a0 :: some (.int x) :: l, st, M) := st_istore_n q11_25 (pj_st_1 h)
theorem x11_25 {st : List Value} {M : pj_Mem} {l : pj_Loc} {a0 a1 : Option Value} {x : Int32} (h : pj_long a0 = false) {o9 : Option Value × pj_Mem} : pj_Ends 11 (25, a0 :: a1 :: l, .int x :: st, M) o9 = pj_Ends 11 (26, a0 :: some (.int x) :: l, st, M) o9 := pj_xs (s11_25 h)
theorem q11_26 : pj_row 11 26 = some (.iinc 2 1, 3, 0, 0, 0) := by decide +kernel
theorem s11_26 {st : List Value} {M : pj_Mem} {l : pj_Loc} {a0 a1 : Option Value} {x : Int32} (h : pj_long a1 = false) : pj_step 11 (26, a0 :: a1 :: some (.int x) :: l, st, M) = some (29, a0 :: a1 :: some (.int (x + 1)) :: l, st, M) := st_iinc q11_26 rfl (congrArg (fun y => x + y) (show Int32.ofInt 1 = 1 by decide +kernel)) (pj_st_2 h)
theorem x11_26 {st : List Value} {M : pj_Mem} {l : pj_Loc} {a0 a1 : Option Value} {x : Int32} (h : pj_long a1 = false) {o9 : Option Value × pj_Mem} : pj_Ends 11 (26, a0 :: a1 :: some (.int x) :: l, st, M) o9 = pj_Ends 11 (29, a0 :: a1 :: some (.int (x + 1)) :: l, st, M) o9 := pj_xs (s11_26 h)
theorem q11_29 : pj_row 11 29 = some (.goto (-25), 3, 4, 0, 0) := by decide +kernel
theorem s11_29 {L : pj_Loc} {st : List Value} {M : pj_Mem}  : pj_step 11 (29, L, st, M) = some (4, L, st, M) := st_goto q11_29
theorem x11_29 {L : pj_Loc} {st : List Value} {M : pj_Mem}  {o9 : Option Value × pj_Mem} : pj_Ends 11 (29, L, st, M) o9 = pj_Ends 11 (4, L, st, M) o9 := pj_xs (s11_29)
theorem q11_32 : pj_row 11 32 = some (.iload_n 1, 1, 0, 0, 0) := by decide +kernel
theorem s11_32 {st : List Value} {M : pj_Mem} {l : pj_Loc} {a0 : Option Value} {x : Int32} : pj_step 11 (32, a0 :: some (.int x) :: l, st, M) = some (33, a0 :: some (.int x) :: l, .int x :: st, M) := st_iload_n q11_32 rfl
theorem x11_32 {st : List Value} {M : pj_Mem} {l : pj_Loc} {a0 : Option Value} {x : Int32} {o9 : Option Value × pj_Mem} : pj_Ends 11 (32, a0 :: some (.int x) :: l, st, M) o9 = pj_Ends 11 (33, a0 :: some (.int x) :: l, .int x :: st, M) o9 := pj_xs (s11_32)
theorem q11_33 : pj_row 11 33 = some (.ireturn, 1, 0, 0, 0) := by decide +kernel
theorem t11_33 {L : pj_Loc} {M : pj_Mem} {v : Int32} : pj_Ends 11 (33, L, [.int v], M) (some (.int v), M) := pj_Ends.ret q11_33 (pj_rtn_i rt11)
theorem rt12 : pj_rt 12 = some .int := rfl
theorem q12_0 : pj_row 12 0 = some (.iload_n 0, 1, 0, 0, 0) := by decide +kernel
theorem s12_0 {st : List Value} {M : pj_Mem} {l : pj_Loc} {x : Int32} : pj_step 12 (0, some (.int x) :: l, st, M) = some (1, some (.int x) :: l, .int x :: st, M) := st_iload_n q12_0 rfl
theorem x12_0 {st : List Value} {M : pj_Mem} {l : pj_Loc} {x : Int32} {o9 : Option Value × pj_Mem} : pj_Ends 12 (0, some (.int x) :: l, st, M) o9 = pj_Ends 12 (1, some (.int x) :: l, .int x :: st, M) o9 := pj_xs (s12_0)
theorem q12_1 : pj_row 12 1 = some (.iconst 1, 1, 0, 0, 0) := by decide +kernel
theorem s12_1 {L : pj_Loc} {st : List Value} {M : pj_Mem}  : pj_step 12 (1, L, st, M) = some (2, L, .int 1 :: st, M) := st_iconst q12_1 (by decide +kernel)
theorem x12_1 {L : pj_Loc} {st : List Value} {M : pj_Mem}  {o9 : Option Value × pj_Mem} : pj_Ends 12 (1, L, st, M) o9 = pj_Ends 12 (2, L, .int 1 :: st, M) o9 := pj_xs (s12_1)
theorem q12_2 : pj_row 12 2 = some (.iload_n 1, 1, 0, 0, 0) := by decide +kernel
theorem s12_2 {st : List Value} {M : pj_Mem} {l : pj_Loc} {a0 : Option Value} {x : Int32} : pj_step 12 (2, a0 :: some (.int x) :: l, st, M) = some (3, a0 :: some (.int x) :: l, .int x :: st, M) := st_iload_n q12_2 rfl
theorem x12_2 {st : List Value} {M : pj_Mem} {l : pj_Loc} {a0 : Option Value} {x : Int32} {o9 : Option Value × pj_Mem} : pj_Ends 12 (2, a0 :: some (.int x) :: l, st, M) o9 = pj_Ends 12 (3, a0 :: some (.int x) :: l, .int x :: st, M) o9 := pj_xs (s12_2)
theorem q12_3 : pj_row 12 3 = some (.ishl, 1, 0, 0, 0) := by decide +kernel
theorem s12_3 {L : pj_Loc} {st : List Value} {M : pj_Mem} {x y : Int32} : pj_step 12 (3, L, .int y :: .int x :: st, M) = some (4, L, .int (x <<< (y &&& 31)) :: st, M) := st_ishl q12_3
theorem x12_3 {L : pj_Loc} {st : List Value} {M : pj_Mem} {x y : Int32} {o9 : Option Value × pj_Mem} : pj_Ends 12 (3, L, .int y :: .int x :: st, M) o9 = pj_Ends 12 (4, L, .int (x <<< (y &&& 31)) :: st, M) o9 := pj_xs (s12_3)
theorem q12_4 : pj_row 12 4 = some (.ior, 1, 0, 0, 0) := by decide +kernel
theorem s12_4 {L : pj_Loc} {st : List Value} {M : pj_Mem} {x y : Int32} : pj_step 12 (4, L, .int y :: .int x :: st, M) = some (5, L, .int (x ||| y) :: st, M) := st_ior q12_4
theorem x12_4 {L : pj_Loc} {st : List Value} {M : pj_Mem} {x y : Int32} {o9 : Option Value × pj_Mem} : pj_Ends 12 (4, L, .int y :: .int x :: st, M) o9 = pj_Ends 12 (5, L, .int (x ||| y) :: st, M) o9 := pj_xs (s12_4)
theorem q12_5 : pj_row 12 5 = some (.ireturn, 1, 0, 0, 0) := by decide +kernel
theorem t12_5 {L : pj_Loc} {M : pj_Mem} {v : Int32} : pj_Ends 12 (5, L, [.int v], M) (some (.int v), M) := pj_Ends.ret q12_5 (pj_rtn_i rt12)
theorem rt13 : pj_rt 13 = some .boolean := rfl
theorem q13_0 : pj_row 13 0 = some (.aload_n 0, 1, 0, 0, 0) := by decide +kernel
theorem s13_0 {st : List Value} {M : pj_Mem} {l : pj_Loc} {x : Nat} : pj_step 13 (0, some (.ref x) :: l, st, M) = some (1, some (.ref x) :: l, .ref x :: st, M) := st_aload_n q13_0 rfl
theorem x13_0 {st : List Value} {M : pj_Mem} {l : pj_Loc} {x : Nat} {o9 : Option Value × pj_Mem} : pj_Ends 13 (0, some (.ref x) :: l, st, M) o9 = pj_Ends 13 (1, some (.ref x) :: l, .ref x :: st, M) o9 := pj_xs (s13_0)
theorem q13_1 : pj_row 13 1 = some (.getfield 15, 3, 2, 2, 0) := by decide +kernel
theorem s13_1 {L : pj_Loc} {st : List Value} {N S : Nat} {H : pj_Heap} {o : Nat} : pj_step 13 (1, L, .ref o :: st, (N, S, H)) = pj_pv 4 L st (N, S, H) (pj_fld (H o) 2 2) := st_getfield q13_1
theorem x13_1 {L : pj_Loc} {st : List Value} {N S : Nat} {H : pj_Heap} {o : Nat} {o9 : Option Value × pj_Mem} : pj_Ends 13 (1, L, .ref o :: st, (N, S, H)) o9 = pj_then 13 o9 (pj_pv 4 L st (N, S, H) (pj_fld (H o) 2 2)) := pj_xt q13_1 rfl (pj_cl_nc rfl) (s13_1)
theorem q13_4 : pj_row 13 4 = some (.bipush (-6), 2, 0, 0, 0) := by decide +kernel
theorem s13_4 {L : pj_Loc} {st : List Value} {M : pj_Mem}  : pj_step 13 (4, L, st, M) = some (6, L, .int (-6) :: st, M) := st_bipush q13_4 (by decide +kernel)
theorem x13_4 {L : pj_Loc} {st : List Value} {M : pj_Mem}  {o9 : Option Value × pj_Mem} : pj_Ends 13 (4, L, st, M) o9 = pj_Ends 13 (6, L, .int (-6) :: st, M) o9 := pj_xs (s13_4)
theorem q13_6 : pj_row 13 6 = some (.if_icmp .eq 14, 3, 20, 0, 0) := by decide +kernel
theorem s13_6 {L : pj_Loc} {st : List Value} {M : pj_Mem} {x y : Int32} : pj_step 13 (6, L, .int y :: .int x :: st, M) = some (if x = y then 20 else 9, L, st, M) := st_icmp_eq q13_6
theorem x13_6 {L : pj_Loc} {st : List Value} {M : pj_Mem} {x y : Int32} {o9 : Option Value × pj_Mem} : pj_Ends 13 (6, L, .int y :: .int x :: st, M) o9 = pj_Ends 13 (if x = y then 20 else 9, L, st, M) o9 := pj_xs (s13_6)
theorem q13_9 : pj_row 13 9 = some (.iload_n 1, 1, 0, 0, 0) := by decide +kernel
theorem s13_9 {st : List Value} {M : pj_Mem} {l : pj_Loc} {a0 : Option Value} {x : Int32} : pj_step 13 (9, a0 :: some (.int x) :: l, st, M) = some (10, a0 :: some (.int x) :: l, .int x :: st, M) := st_iload_n q13_9 rfl
theorem x13_9 {st : List Value} {M : pj_Mem} {l : pj_Loc} {a0 : Option Value} {x : Int32} {o9 : Option Value × pj_Mem} : pj_Ends 13 (9, a0 :: some (.int x) :: l, st, M) o9 = pj_Ends 13 (10, a0 :: some (.int x) :: l, .int x :: st, M) o9 := pj_xs (s13_9)
theorem q13_10 : pj_row 13 10 = some (.aload_n 0, 1, 0, 0, 0) := by decide +kernel
theorem s13_10 {st : List Value} {M : pj_Mem} {l : pj_Loc} {x : Nat} : pj_step 13 (10, some (.ref x) :: l, st, M) = some (11, some (.ref x) :: l, .ref x :: st, M) := st_aload_n q13_10 rfl
theorem x13_10 {st : List Value} {M : pj_Mem} {l : pj_Loc} {x : Nat} {o9 : Option Value × pj_Mem} : pj_Ends 13 (10, some (.ref x) :: l, st, M) o9 = pj_Ends 13 (11, some (.ref x) :: l, .ref x :: st, M) o9 := pj_xs (s13_10)
theorem q13_11 : pj_row 13 11 = some (.getfield 15, 3, 2, 2, 0) := by decide +kernel
theorem s13_11 {L : pj_Loc} {st : List Value} {N S : Nat} {H : pj_Heap} {o : Nat} : pj_step 13 (11, L, .ref o :: st, (N, S, H)) = pj_pv 14 L st (N, S, H) (pj_fld (H o) 2 2) := st_getfield q13_11
theorem x13_11 {L : pj_Loc} {st : List Value} {N S : Nat} {H : pj_Heap} {o : Nat} {o9 : Option Value × pj_Mem} : pj_Ends 13 (11, L, .ref o :: st, (N, S, H)) o9 = pj_then 13 o9 (pj_pv 14 L st (N, S, H) (pj_fld (H o) 2 2)) := pj_xt q13_11 rfl (pj_cl_nc rfl) (s13_11)
theorem q13_14 : pj_row 13 14 = some (.isub, 1, 0, 0, 0) := by decide +kernel
theorem s13_14 {L : pj_Loc} {st : List Value} {M : pj_Mem} {x y : Int32} : pj_step 13 (14, L, .int y :: .int x :: st, M) = some (15, L, .int (x - y) :: st, M) := st_isub q13_14
theorem x13_14 {L : pj_Loc} {st : List Value} {M : pj_Mem} {x y : Int32} {o9 : Option Value × pj_Mem} : pj_Ends 13 (14, L, .int y :: .int x :: st, M) o9 = pj_Ends 13 (15, L, .int (x - y) :: st, M) o9 := pj_xs (s13_14)
theorem q13_15 : pj_row 13 15 = some (.bipush 6, 2, 0, 0, 0) := by decide +kernel
theorem s13_15 {L : pj_Loc} {st : List Value} {M : pj_Mem}  : pj_step 13 (15, L, st, M) = some (17, L, .int 6 :: st, M) := st_bipush q13_15 (by decide +kernel)
theorem x13_15 {L : pj_Loc} {st : List Value} {M : pj_Mem}  {o9 : Option Value × pj_Mem} : pj_Ends 13 (15, L, st, M) o9 = pj_Ends 13 (17, L, .int 6 :: st, M) o9 := pj_xs (s13_15)
theorem q13_17 : pj_row 13 17 = some (.if_icmp .gt 7, 3, 24, 0, 0) := by decide +kernel
theorem s13_17 {L : pj_Loc} {st : List Value} {M : pj_Mem} {x y : Int32} : pj_step 13 (17, L, .int y :: .int x :: st, M) = some (if y < x then 24 else 20, L, st, M) := st_icmp_gt q13_17
theorem x13_17 {L : pj_Loc} {st : List Value} {M : pj_Mem} {x y : Int32} {o9 : Option Value × pj_Mem} : pj_Ends 13 (17, L, .int y :: .int x :: st, M) o9 = pj_Ends 13 (if y < x then 24 else 20, L, st, M) o9 := pj_xs (s13_17)
theorem q13_20 : pj_row 13 20 = some (.iconst 1, 1, 0, 0, 0) := by decide +kernel
theorem s13_20 {L : pj_Loc} {st : List Value} {M : pj_Mem}  : pj_step 13 (20, L, st, M) = some (21, L, .int 1 :: st, M) := st_iconst q13_20 (by decide +kernel)
theorem x13_20 {L : pj_Loc} {st : List Value} {M : pj_Mem}  {o9 : Option Value × pj_Mem} : pj_Ends 13 (20, L, st, M) o9 = pj_Ends 13 (21, L, .int 1 :: st, M) o9 := pj_xs (s13_20)
theorem q13_21 : pj_row 13 21 = some (.goto 4, 3, 25, 0, 0) := by decide +kernel
theorem s13_21 {L : pj_Loc} {st : List Value} {M : pj_Mem}  : pj_step 13 (21, L, st, M) = some (25, L, st, M) := st_goto q13_21
theorem x13_21 {L : pj_Loc} {st : List Value} {M : pj_Mem}  {o9 : Option Value × pj_Mem} : pj_Ends 13 (21, L, st, M) o9 = pj_Ends 13 (25, L, st, M) o9 := pj_xs (s13_21)
theorem q13_24 : pj_row 13 24 = some (.iconst 0, 1, 0, 0, 0) := by decide +kernel
theorem s13_24 {L : pj_Loc} {st : List Value} {M : pj_Mem}  : pj_step 13 (24, L, st, M) = some (25, L, .int 0 :: st, M) := st_iconst q13_24 (by decide +kernel)
theorem x13_24 {L : pj_Loc} {st : List Value} {M : pj_Mem}  {o9 : Option Value × pj_Mem} : pj_Ends 13 (24, L, st, M) o9 = pj_Ends 13 (25, L, .int 0 :: st, M) o9 := pj_xs (s13_24)
theorem q13_25 : pj_row 13 25 = some (.ireturn, 1, 0, 0, 0) := by decide +kernel
theorem t13_25 {L : pj_Loc} {M : pj_Mem} {v : Int32} (hv : v = 0 ∨ v = 1) : pj_Ends 13 (25, L, [.int v], M) (some (.int v), M) := pj_Ends.ret q13_25 (pj_rtn_z rt13 hv)
theorem rt14 : pj_rt 14 = some .int := rfl
theorem q14_0 : pj_row 14 0 = some (.iload_n 1, 1, 0, 0, 0) := by decide +kernel
theorem s14_0 {st : List Value} {M : pj_Mem} {l : pj_Loc} {a0 : Option Value} {x : Int32} : pj_step 14 (0, a0 :: some (.int x) :: l, st, M) = some (1, a0 :: some (.int x) :: l, .int x :: st, M) := st_iload_n q14_0 rfl
theorem x14_0 {st : List Value} {M : pj_Mem} {l : pj_Loc} {a0 : Option Value} {x : Int32} {o9 : Option Value × pj_Mem} : pj_Ends 14 (0, a0 :: some (.int x) :: l, st, M) o9 = pj_Ends 14 (1, a0 :: some (.int x) :: l, .int x :: st, M) o9 := pj_xs (s14_0)
theorem q14_1 : pj_row 14 1 = some (.ifCond .lt 8, 3, 9, 0, 0) := by decide +kernel
theorem s14_1 {L : pj_Loc} {st : List Value} {M : pj_Mem} {x : Int32} : pj_step 14 (1, L, .int x :: st, M) = some (if x < 0 then 9 else 4, L, st, M) := st_if_lt q14_1
theorem x14_1 {L : pj_Loc} {st : List Value} {M : pj_Mem} {x : Int32} {o9 : Option Value × pj_Mem} : pj_Ends 14 (1, L, .int x :: st, M) o9 = pj_Ends 14 (if x < 0 then 9 else 4, L, st, M) o9 := pj_xs (s14_1)
theorem q14_4 : pj_row 14 4 = some (.iload_n 1, 1, 0, 0, 0) := by decide +kernel
theorem s14_4 {st : List Value} {M : pj_Mem} {l : pj_Loc} {a0 : Option Value} {x : Int32} : pj_step 14 (4, a0 :: some (.int x) :: l, st, M) = some (5, a0 :: some (.int x) :: l, .int x :: st, M) := st_iload_n q14_4 rfl
theorem x14_4 {st : List Value} {M : pj_Mem} {l : pj_Loc} {a0 : Option Value} {x : Int32} {o9 : Option Value × pj_Mem} : pj_Ends 14 (4, a0 :: some (.int x) :: l, st, M) o9 = pj_Ends 14 (5, a0 :: some (.int x) :: l, .int x :: st, M) o9 := pj_xs (s14_4)
theorem q14_5 : pj_row 14 5 = some (.iconst 3, 1, 0, 0, 0) := by decide +kernel
theorem s14_5 {L : pj_Loc} {st : List Value} {M : pj_Mem}  : pj_step 14 (5, L, st, M) = some (6, L, .int 3 :: st, M) := st_iconst q14_5 (by decide +kernel)
theorem x14_5 {L : pj_Loc} {st : List Value} {M : pj_Mem}  {o9 : Option Value × pj_Mem} : pj_Ends 14 (5, L, st, M) o9 = pj_Ends 14 (6, L, .int 3 :: st, M) o9 := pj_xs (s14_5)
theorem q14_6 : pj_row 14 6 = some (.if_icmp .lt 5, 3, 11, 0, 0) := by decide +kernel
theorem s14_6 {L : pj_Loc} {st : List Value} {M : pj_Mem} {x y : Int32} : pj_step 14 (6, L, .int y :: .int x :: st, M) = some (if x < y then 11 else 9, L, st, M) := st_icmp_lt q14_6
theorem x14_6 {L : pj_Loc} {st : List Value} {M : pj_Mem} {x y : Int32} {o9 : Option Value × pj_Mem} : pj_Ends 14 (6, L, .int y :: .int x :: st, M) o9 = pj_Ends 14 (if x < y then 11 else 9, L, st, M) o9 := pj_xs (s14_6)
theorem q14_9 : pj_row 14 9 = some (.iconst (-1), 1, 0, 0, 0) := by decide +kernel
theorem s14_9 {L : pj_Loc} {st : List Value} {M : pj_Mem}  : pj_step 14 (9, L, st, M) = some (10, L, .int (-1) :: st, M) := st_iconst q14_9 (by decide +kernel)
theorem x14_9 {L : pj_Loc} {st : List Value} {M : pj_Mem}  {o9 : Option Value × pj_Mem} : pj_Ends 14 (9, L, st, M) o9 = pj_Ends 14 (10, L, .int (-1) :: st, M) o9 := pj_xs (s14_9)
theorem q14_10 : pj_row 14 10 = some (.ireturn, 1, 0, 0, 0) := by decide +kernel
theorem t14_10 {L : pj_Loc} {M : pj_Mem} {v : Int32} : pj_Ends 14 (10, L, [.int v], M) (some (.int v), M) := pj_Ends.ret q14_10 (pj_rtn_i rt14)
theorem q14_11 : pj_row 14 11 = some (.sipush (-500), 3, 0, 0, 0) := by decide +kernel
theorem s14_11 {L : pj_Loc} {st : List Value} {M : pj_Mem}  : pj_step 14 (11, L, st, M) = some (14, L, .int (-500) :: st, M) := st_sipush q14_11 (by decide +kernel)
theorem x14_11 {L : pj_Loc} {st : List Value} {M : pj_Mem}  {o9 : Option Value × pj_Mem} : pj_Ends 14 (11, L, st, M) o9 = pj_Ends 14 (14, L, .int (-500) :: st, M) o9 := pj_xs (s14_11)
theorem q14_14 : pj_row 14 14 = some (.istore_n 3, 1, 0, 0, 0) := by decide +kernel
theorem s14_14 {st : List Value} {M : pj_Mem} {l : pj_Loc} {a0 a1 a2 a3 : Option Value} {x : Int32} (h : pj_long a2 = false) : pj_step 14 (14, a0 :: a1 :: a2 :: a3 :: l, .int x :: st, M) = some (15, a0 :: a1 :: a2 :: some (.int x) :: l, st, M) := st_istore_n q14_14 (pj_st_3 h)
theorem x14_14 {st : List Value} {M : pj_Mem} {l : pj_Loc} {a0 a1 a2 a3 : Option Value} {x : Int32} (h : pj_long a2 = false) {o9 : Option Value × pj_Mem} : pj_Ends 14 (14, a0 :: a1 :: a2 :: a3 :: l, .int x :: st, M) o9 = pj_Ends 14 (15, a0 :: a1 :: a2 :: some (.int x) :: l, st, M) o9 := pj_xs (s14_14 h)
theorem q14_15 : pj_row 14 15 = some (.iload_n 3, 1, 0, 0, 0) := by decide +kernel
theorem s14_15 {st : List Value} {M : pj_Mem} {l : pj_Loc} {a0 a1 a2 : Option Value} {x : Int32} : pj_step 14 (15, a0 :: a1 :: a2 :: some (.int x) :: l, st, M) = some (16, a0 :: a1 :: a2 :: some (.int x) :: l, .int x :: st, M) := st_iload_n q14_15 rfl
theorem x14_15 {st : List Value} {M : pj_Mem} {l : pj_Loc} {a0 a1 a2 : Option Value} {x : Int32} {o9 : Option Value × pj_Mem} : pj_Ends 14 (15, a0 :: a1 :: a2 :: some (.int x) :: l, st, M) o9 = pj_Ends 14 (16, a0 :: a1 :: a2 :: some (.int x) :: l, .int x :: st, M) o9 := pj_xs (s14_15)
theorem q14_16 : pj_row 14 16 = some (.sipush 500, 3, 0, 0, 0) := by decide +kernel
theorem s14_16 {L : pj_Loc} {st : List Value} {M : pj_Mem}  : pj_step 14 (16, L, st, M) = some (19, L, .int 500 :: st, M) := st_sipush q14_16 (by decide +kernel)
theorem x14_16 {L : pj_Loc} {st : List Value} {M : pj_Mem}  {o9 : Option Value × pj_Mem} : pj_Ends 14 (16, L, st, M) o9 = pj_Ends 14 (19, L, .int 500 :: st, M) o9 := pj_xs (s14_16)
theorem q14_19 : pj_row 14 19 = some (.if_icmp .gt 43, 3, 62, 0, 0) := by decide +kernel
theorem s14_19 {L : pj_Loc} {st : List Value} {M : pj_Mem} {x y : Int32} : pj_step 14 (19, L, .int y :: .int x :: st, M) = some (if y < x then 62 else 22, L, st, M) := st_icmp_gt q14_19
theorem x14_19 {L : pj_Loc} {st : List Value} {M : pj_Mem} {x y : Int32} {o9 : Option Value × pj_Mem} : pj_Ends 14 (19, L, .int y :: .int x :: st, M) o9 = pj_Ends 14 (if y < x then 62 else 22, L, st, M) o9 := pj_xs (s14_19)
theorem q14_22 : pj_row 14 22 = some (.aload_n 0, 1, 0, 0, 0) := by decide +kernel
theorem s14_22 {st : List Value} {M : pj_Mem} {l : pj_Loc} {x : Nat} : pj_step 14 (22, some (.ref x) :: l, st, M) = some (23, some (.ref x) :: l, .ref x :: st, M) := st_aload_n q14_22 rfl
theorem x14_22 {st : List Value} {M : pj_Mem} {l : pj_Loc} {x : Nat} {o9 : Option Value × pj_Mem} : pj_Ends 14 (22, some (.ref x) :: l, st, M) o9 = pj_Ends 14 (23, some (.ref x) :: l, .ref x :: st, M) o9 := pj_xs (s14_22)
theorem q14_23 : pj_row 14 23 = some (.getfield 22, 3, 5, 2, 0) := by decide +kernel
theorem s14_23 {L : pj_Loc} {st : List Value} {N S : Nat} {H : pj_Heap} {o : Nat} : pj_step 14 (23, L, .ref o :: st, (N, S, H)) = pj_pv 26 L st (N, S, H) (pj_fld (H o) 5 2) := st_getfield q14_23
theorem x14_23 {L : pj_Loc} {st : List Value} {N S : Nat} {H : pj_Heap} {o : Nat} {o9 : Option Value × pj_Mem} : pj_Ends 14 (23, L, .ref o :: st, (N, S, H)) o9 = pj_then 14 o9 (pj_pv 26 L st (N, S, H) (pj_fld (H o) 5 2)) := pj_xt q14_23 rfl (pj_cl_nc rfl) (s14_23)
theorem q14_26 : pj_row 14 26 = some (.aload_n 0, 1, 0, 0, 0) := by decide +kernel
theorem s14_26 {st : List Value} {M : pj_Mem} {l : pj_Loc} {x : Nat} : pj_step 14 (26, some (.ref x) :: l, st, M) = some (27, some (.ref x) :: l, .ref x :: st, M) := st_aload_n q14_26 rfl
theorem x14_26 {st : List Value} {M : pj_Mem} {l : pj_Loc} {x : Nat} {o9 : Option Value × pj_Mem} : pj_Ends 14 (26, some (.ref x) :: l, st, M) o9 = pj_Ends 14 (27, some (.ref x) :: l, .ref x :: st, M) o9 := pj_xs (s14_26)
theorem q14_27 : pj_row 14 27 = some (.getfield 10, 3, 5, 0, 0) := by decide +kernel
theorem s14_27 {L : pj_Loc} {st : List Value} {N S : Nat} {H : pj_Heap} {o : Nat} : pj_step 14 (27, L, .ref o :: st, (N, S, H)) = pj_pv 30 L st (N, S, H) (pj_fld (H o) 5 0) := st_getfield q14_27
theorem x14_27 {L : pj_Loc} {st : List Value} {N S : Nat} {H : pj_Heap} {o : Nat} {o9 : Option Value × pj_Mem} : pj_Ends 14 (27, L, .ref o :: st, (N, S, H)) o9 = pj_then 14 o9 (pj_pv 30 L st (N, S, H) (pj_fld (H o) 5 0)) := pj_xt q14_27 rfl (pj_cl_nc rfl) (s14_27)
theorem q14_30 : pj_row 14 30 = some (.iload_n 3, 1, 0, 0, 0) := by decide +kernel
theorem s14_30 {st : List Value} {M : pj_Mem} {l : pj_Loc} {a0 a1 a2 : Option Value} {x : Int32} : pj_step 14 (30, a0 :: a1 :: a2 :: some (.int x) :: l, st, M) = some (31, a0 :: a1 :: a2 :: some (.int x) :: l, .int x :: st, M) := st_iload_n q14_30 rfl
theorem x14_30 {st : List Value} {M : pj_Mem} {l : pj_Loc} {a0 a1 a2 : Option Value} {x : Int32} {o9 : Option Value × pj_Mem} : pj_Ends 14 (30, a0 :: a1 :: a2 :: some (.int x) :: l, st, M) o9 = pj_Ends 14 (31, a0 :: a1 :: a2 :: some (.int x) :: l, .int x :: st, M) o9 := pj_xs (s14_30)
theorem q14_31 : pj_row 14 31 = some (.iload_n 3, 1, 0, 0, 0) := by decide +kernel
theorem s14_31 {st : List Value} {M : pj_Mem} {l : pj_Loc} {a0 a1 a2 : Option Value} {x : Int32} : pj_step 14 (31, a0 :: a1 :: a2 :: some (.int x) :: l, st, M) = some (32, a0 :: a1 :: a2 :: some (.int x) :: l, .int x :: st, M) := st_iload_n q14_31 rfl
theorem x14_31 {st : List Value} {M : pj_Mem} {l : pj_Loc} {a0 a1 a2 : Option Value} {x : Int32} {o9 : Option Value × pj_Mem} : pj_Ends 14 (31, a0 :: a1 :: a2 :: some (.int x) :: l, st, M) o9 = pj_Ends 14 (32, a0 :: a1 :: a2 :: some (.int x) :: l, .int x :: st, M) o9 := pj_xs (s14_31)
theorem q14_32 : pj_row 14 32 = some (.iload_n 3, 1, 0, 0, 0) := by decide +kernel
theorem s14_32 {st : List Value} {M : pj_Mem} {l : pj_Loc} {a0 a1 a2 : Option Value} {x : Int32} : pj_step 14 (32, a0 :: a1 :: a2 :: some (.int x) :: l, st, M) = some (33, a0 :: a1 :: a2 :: some (.int x) :: l, .int x :: st, M) := st_iload_n q14_32 rfl
theorem x14_32 {st : List Value} {M : pj_Mem} {l : pj_Loc} {a0 a1 a2 : Option Value} {x : Int32} {o9 : Option Value × pj_Mem} : pj_Ends 14 (32, a0 :: a1 :: a2 :: some (.int x) :: l, st, M) o9 = pj_Ends 14 (33, a0 :: a1 :: a2 :: some (.int x) :: l, .int x :: st, M) o9 := pj_xs (s14_32)
theorem q14_33 : pj_row 14 33 = some (.iload_n 2, 1, 0, 0, 0) := by decide +kernel
theorem s14_33 {st : List Value} {M : pj_Mem} {l : pj_Loc} {a0 a1 : Option Value} {x : Int32} : pj_step 14 (33, a0 :: a1 :: some (.int x) :: l, st, M) = some (34, a0 :: a1 :: some (.int x) :: l, .int x :: st, M) := st_iload_n q14_33 rfl
theorem x14_33 {st : List Value} {M : pj_Mem} {l : pj_Loc} {a0 a1 : Option Value} {x : Int32} {o9 : Option Value × pj_Mem} : pj_Ends 14 (33, a0 :: a1 :: some (.int x) :: l, st, M) o9 = pj_Ends 14 (34, a0 :: a1 :: some (.int x) :: l, .int x :: st, M) o9 := pj_xs (s14_33)
theorem q14_34 : pj_row 14 34 = some (.invokevirtual 151, 3, 15, 6, 0) := by decide +kernel
theorem e14_34 {L : pj_Loc} {st : List Value} {N S : Nat} {H : pj_Heap} {o : Option Value × pj_Mem} {M' : pj_Mem} {x0 : Nat} {x1 : Nat} {x2 : Int32} {x3 : Int32} {x4 : Int32} {x5 : Int32} (h4 : pj_le4 st = true) (hu : pj_isU 3 (H x0) = true) (h1 : pj_Ends 15 (0, [some (.ref x0), some (.ref x1), some (.int x2), some (.int x3), some (.int x4), some (.int x5)], [], (N, S, H)) (none, M')) (h2 : pj_Ends 14 (37, L, st, M') o) : pj_Ends 14 (34, L, .int x5 :: .int x4 :: .int x3 :: .int x2 :: .ref x1 :: .ref x0 :: st, (N, S, H)) o := ec_v6 q14_34 (Or.inl rfl) h4 hu rfl h1 h2
theorem q14_37 : pj_row 14 37 = some (.aload_n 0, 1, 0, 0, 0) := by decide +kernel
theorem s14_37 {st : List Value} {M : pj_Mem} {l : pj_Loc} {x : Nat} : pj_step 14 (37, some (.ref x) :: l, st, M) = some (38, some (.ref x) :: l, .ref x :: st, M) := st_aload_n q14_37 rfl
theorem x14_37 {st : List Value} {M : pj_Mem} {l : pj_Loc} {x : Nat} {o9 : Option Value × pj_Mem} : pj_Ends 14 (37, some (.ref x) :: l, st, M) o9 = pj_Ends 14 (38, some (.ref x) :: l, .ref x :: st, M) o9 := pj_xs (s14_37)
theorem q14_38 : pj_row 14 38 = some (.getfield 22, 3, 5, 2, 0) := by decide +kernel
theorem s14_38 {L : pj_Loc} {st : List Value} {N S : Nat} {H : pj_Heap} {o : Nat} : pj_step 14 (38, L, .ref o :: st, (N, S, H)) = pj_pv 41 L st (N, S, H) (pj_fld (H o) 5 2) := st_getfield q14_38
theorem x14_38 {L : pj_Loc} {st : List Value} {N S : Nat} {H : pj_Heap} {o : Nat} {o9 : Option Value × pj_Mem} : pj_Ends 14 (38, L, .ref o :: st, (N, S, H)) o9 = pj_then 14 o9 (pj_pv 41 L st (N, S, H) (pj_fld (H o) 5 2)) := pj_xt q14_38 rfl (pj_cl_nc rfl) (s14_38)
theorem q14_41 : pj_row 14 41 = some (.getfield 155, 3, 3, 13, 0) := by decide +kernel
theorem s14_41 {L : pj_Loc} {st : List Value} {N S : Nat} {H : pj_Heap} {o : Nat} : pj_step 14 (41, L, .ref o :: st, (N, S, H)) = pj_pv 44 L st (N, S, H) (pj_fld (H o) 3 13) := st_getfield q14_41
theorem x14_41 {L : pj_Loc} {st : List Value} {N S : Nat} {H : pj_Heap} {o : Nat} {o9 : Option Value × pj_Mem} : pj_Ends 14 (41, L, .ref o :: st, (N, S, H)) o9 = pj_then 14 o9 (pj_pv 44 L st (N, S, H) (pj_fld (H o) 3 13)) := pj_xt q14_41 rfl (pj_cl_nc rfl) (s14_41)
theorem q14_44 : pj_row 14 44 = some (.iload_n 1, 1, 0, 0, 0) := by decide +kernel
theorem s14_44 {st : List Value} {M : pj_Mem} {l : pj_Loc} {a0 : Option Value} {x : Int32} : pj_step 14 (44, a0 :: some (.int x) :: l, st, M) = some (45, a0 :: some (.int x) :: l, .int x :: st, M) := st_iload_n q14_44 rfl
theorem x14_44 {st : List Value} {M : pj_Mem} {l : pj_Loc} {a0 : Option Value} {x : Int32} {o9 : Option Value × pj_Mem} : pj_Ends 14 (44, a0 :: some (.int x) :: l, st, M) o9 = pj_Ends 14 (45, a0 :: some (.int x) :: l, .int x :: st, M) o9 := pj_xs (s14_44)
theorem q14_45 : pj_row 14 45 = some (.invokestatic 77, 3, 8, 2, 0) := by decide +kernel
theorem e14_45 {L : pj_Loc} {st : List Value} {N S : Nat} {H : pj_Heap} {o : Option Value × pj_Mem} {M' : pj_Mem} {x0 : Int32} {x1 : Int32} {r : Int32} (h4 : pj_le4 st = true) (h1 : pj_Ends 8 (0, [some (.int x0), some (.int x1)], [], (N, S, H)) (some (.int r), M')) (h2 : pj_Ends 14 (48, L, .int r :: st, M') o) : pj_Ends 14 (45, L, .int x1 :: .int x0 :: st, (N, S, H)) o := ec_s2 q14_45 (Or.inl rfl) h4 rfl h1 h2
theorem q14_48 : pj_row 14 48 = some (.ifCond .eq 8, 3, 56, 0, 0) := by decide +kernel
theorem s14_48 {L : pj_Loc} {st : List Value} {M : pj_Mem} {x : Int32} : pj_step 14 (48, L, .int x :: st, M) = some (if x = 0 then 56 else 51, L, st, M) := st_if_eq q14_48
theorem x14_48 {L : pj_Loc} {st : List Value} {M : pj_Mem} {x : Int32} {o9 : Option Value × pj_Mem} : pj_Ends 14 (48, L, .int x :: st, M) o9 = pj_Ends 14 (if x = 0 then 56 else 51, L, st, M) o9 := pj_xs (s14_48)
theorem q14_51 : pj_row 14 51 = some (.iload_n 3, 1, 0, 0, 0) := by decide +kernel
theorem s14_51 {st : List Value} {M : pj_Mem} {l : pj_Loc} {a0 a1 a2 : Option Value} {x : Int32} : pj_step 14 (51, a0 :: a1 :: a2 :: some (.int x) :: l, st, M) = some (52, a0 :: a1 :: a2 :: some (.int x) :: l, .int x :: st, M) := st_iload_n q14_51 rfl
theorem x14_51 {st : List Value} {M : pj_Mem} {l : pj_Loc} {a0 a1 a2 : Option Value} {x : Int32} {o9 : Option Value × pj_Mem} : pj_Ends 14 (51, a0 :: a1 :: a2 :: some (.int x) :: l, st, M) o9 = pj_Ends 14 (52, a0 :: a1 :: a2 :: some (.int x) :: l, .int x :: st, M) o9 := pj_xs (s14_51)
theorem q14_52 : pj_row 14 52 = some (.ldc 69, 2, 0, 0, 100000) := by decide +kernel
theorem s14_52 {L : pj_Loc} {st : List Value} {M : pj_Mem}  : pj_step 14 (52, L, st, M) = some (54, L, .int 100000 :: st, M) := st_ldc q14_52 (by decide +kernel)
theorem x14_52 {L : pj_Loc} {st : List Value} {M : pj_Mem}  {o9 : Option Value × pj_Mem} : pj_Ends 14 (52, L, st, M) o9 = pj_Ends 14 (54, L, .int 100000 :: st, M) o9 := pj_xs (s14_52)
theorem q14_54 : pj_row 14 54 = some (.iadd, 1, 0, 0, 0) := by decide +kernel
theorem s14_54 {L : pj_Loc} {st : List Value} {M : pj_Mem} {x y : Int32} : pj_step 14 (54, L, .int y :: .int x :: st, M) = some (55, L, .int (x + y) :: st, M) := st_iadd q14_54
theorem x14_54 {L : pj_Loc} {st : List Value} {M : pj_Mem} {x y : Int32} {o9 : Option Value × pj_Mem} : pj_Ends 14 (54, L, .int y :: .int x :: st, M) o9 = pj_Ends 14 (55, L, .int (x + y) :: st, M) o9 := pj_xs (s14_54)
theorem q14_55 : pj_row 14 55 = some (.ireturn, 1, 0, 0, 0) := by decide +kernel
theorem t14_55 {L : pj_Loc} {M : pj_Mem} {v : Int32} : pj_Ends 14 (55, L, [.int v], M) (some (.int v), M) := pj_Ends.ret q14_55 (pj_rtn_i rt14)
theorem q14_56 : pj_row 14 56 = some (.iinc 3 1, 3, 0, 0, 0) := by decide +kernel
theorem s14_56 {st : List Value} {M : pj_Mem} {l : pj_Loc} {a0 a1 a2 : Option Value} {x : Int32} (h : pj_long a2 = false) : pj_step 14 (56, a0 :: a1 :: a2 :: some (.int x) :: l, st, M) = some (59, a0 :: a1 :: a2 :: some (.int (x + 1)) :: l, st, M) := st_iinc q14_56 rfl (congrArg (fun y => x + y) (show Int32.ofInt 1 = 1 by decide +kernel)) (pj_st_3 h)
theorem x14_56 {st : List Value} {M : pj_Mem} {l : pj_Loc} {a0 a1 a2 : Option Value} {x : Int32} (h : pj_long a2 = false) {o9 : Option Value × pj_Mem} : pj_Ends 14 (56, a0 :: a1 :: a2 :: some (.int x) :: l, st, M) o9 = pj_Ends 14 (59, a0 :: a1 :: a2 :: some (.int (x + 1)) :: l, st, M) o9 := pj_xs (s14_56 h)
theorem q14_59 : pj_row 14 59 = some (.goto (-44), 3, 15, 0, 0) := by decide +kernel
theorem s14_59 {L : pj_Loc} {st : List Value} {M : pj_Mem}  : pj_step 14 (59, L, st, M) = some (15, L, st, M) := st_goto q14_59
theorem x14_59 {L : pj_Loc} {st : List Value} {M : pj_Mem}  {o9 : Option Value × pj_Mem} : pj_Ends 14 (59, L, st, M) o9 = pj_Ends 14 (15, L, st, M) o9 := pj_xs (s14_59)
theorem q14_62 : pj_row 14 62 = some (.bipush (-6), 2, 0, 0, 0) := by decide +kernel
theorem s14_62 {L : pj_Loc} {st : List Value} {M : pj_Mem}  : pj_step 14 (62, L, st, M) = some (64, L, .int (-6) :: st, M) := st_bipush q14_62 (by decide +kernel)
theorem x14_62 {L : pj_Loc} {st : List Value} {M : pj_Mem}  {o9 : Option Value × pj_Mem} : pj_Ends 14 (62, L, st, M) o9 = pj_Ends 14 (64, L, .int (-6) :: st, M) o9 := pj_xs (s14_62)
theorem q14_64 : pj_row 14 64 = some (.ireturn, 1, 0, 0, 0) := by decide +kernel
theorem t14_64 {L : pj_Loc} {M : pj_Mem} {v : Int32} : pj_Ends 14 (64, L, [.int v], M) (some (.int v), M) := pj_Ends.ret q14_64 (pj_rtn_i rt14)
theorem rt15 : pj_rt 15 = none := rfl
theorem q15_0 : pj_row 15 0 = some (.aload_n 0, 1, 0, 0, 0) := by decide +kernel
theorem s15_0 {st : List Value} {M : pj_Mem} {l : pj_Loc} {x : Nat} : pj_step 15 (0, some (.ref x) :: l, st, M) = some (1, some (.ref x) :: l, .ref x :: st, M) := st_aload_n q15_0 rfl
theorem x15_0 {st : List Value} {M : pj_Mem} {l : pj_Loc} {x : Nat} {o9 : Option Value × pj_Mem} : pj_Ends 15 (0, some (.ref x) :: l, st, M) o9 = pj_Ends 15 (1, some (.ref x) :: l, .ref x :: st, M) o9 := pj_xs (s15_0)
theorem q15_1 : pj_row 15 1 = some (.aload_n 1, 1, 0, 0, 0) := by decide +kernel
theorem s15_1 {st : List Value} {M : pj_Mem} {l : pj_Loc} {a0 : Option Value} {x : Nat} : pj_step 15 (1, a0 :: some (.ref x) :: l, st, M) = some (2, a0 :: some (.ref x) :: l, .ref x :: st, M) := st_aload_n q15_1 rfl
theorem x15_1 {st : List Value} {M : pj_Mem} {l : pj_Loc} {a0 : Option Value} {x : Nat} {o9 : Option Value × pj_Mem} : pj_Ends 15 (1, a0 :: some (.ref x) :: l, st, M) o9 = pj_Ends 15 (2, a0 :: some (.ref x) :: l, .ref x :: st, M) o9 := pj_xs (s15_1)
theorem q15_2 : pj_row 15 2 = some (.getfield 30, 3, 4, 10, 0) := by decide +kernel
theorem s15_2 {L : pj_Loc} {st : List Value} {N S : Nat} {H : pj_Heap} {o : Nat} : pj_step 15 (2, L, .ref o :: st, (N, S, H)) = pj_pv 5 L st (N, S, H) (pj_fld (H o) 4 10) := st_getfield q15_2
theorem x15_2 {L : pj_Loc} {st : List Value} {N S : Nat} {H : pj_Heap} {o : Nat} {o9 : Option Value × pj_Mem} : pj_Ends 15 (2, L, .ref o :: st, (N, S, H)) o9 = pj_then 15 o9 (pj_pv 5 L st (N, S, H) (pj_fld (H o) 4 10)) := pj_xt q15_2 rfl (pj_cl_nc rfl) (s15_2)
theorem q15_5 : pj_row 15 5 = some (.putfield 36, 3, 3, 7, 0) := by decide +kernel
theorem s15_5 {L : pj_Loc} {st : List Value} {N S : Nat} {H : pj_Heap} {o : Nat} {v : Value} : pj_step 15 (5, L, v :: .ref o :: st, (N, S, H)) = pj_set 8 L st (N, S, H) o (pj_fset (H o) 3 7 v) := st_putfield q15_5
theorem x15_5 {L : pj_Loc} {st : List Value} {N S : Nat} {H : pj_Heap} {o : Nat} {v : Value} {o9 : Option Value × pj_Mem} : pj_Ends 15 (5, L, v :: .ref o :: st, (N, S, H)) o9 = pj_then 15 o9 (pj_set 8 L st (N, S, H) o (pj_fset (H o) 3 7 v)) := pj_xt q15_5 rfl (pj_cl_nc rfl) (s15_5)
theorem q15_8 : pj_row 15 8 = some (.aload_n 0, 1, 0, 0, 0) := by decide +kernel
theorem s15_8 {st : List Value} {M : pj_Mem} {l : pj_Loc} {x : Nat} : pj_step 15 (8, some (.ref x) :: l, st, M) = some (9, some (.ref x) :: l, .ref x :: st, M) := st_aload_n q15_8 rfl
theorem x15_8 {st : List Value} {M : pj_Mem} {l : pj_Loc} {x : Nat} {o9 : Option Value × pj_Mem} : pj_Ends 15 (8, some (.ref x) :: l, st, M) o9 = pj_Ends 15 (9, some (.ref x) :: l, .ref x :: st, M) o9 := pj_xs (s15_8)
theorem q15_9 : pj_row 15 9 = some (.getfield 9, 3, 3, 0, 0) := by decide +kernel
theorem s15_9 {L : pj_Loc} {st : List Value} {N S : Nat} {H : pj_Heap} {o : Nat} : pj_step 15 (9, L, .ref o :: st, (N, S, H)) = pj_pv 12 L st (N, S, H) (pj_fld (H o) 3 0) := st_getfield q15_9
theorem x15_9 {L : pj_Loc} {st : List Value} {N S : Nat} {H : pj_Heap} {o : Nat} {o9 : Option Value × pj_Mem} : pj_Ends 15 (9, L, .ref o :: st, (N, S, H)) o9 = pj_then 15 o9 (pj_pv 12 L st (N, S, H) (pj_fld (H o) 3 0)) := pj_xt q15_9 rfl (pj_cl_nc rfl) (s15_9)
theorem q15_12 : pj_row 15 12 = some (.iconst 0, 1, 0, 0, 0) := by decide +kernel
theorem s15_12 {L : pj_Loc} {st : List Value} {M : pj_Mem}  : pj_step 15 (12, L, st, M) = some (13, L, .int 0 :: st, M) := st_iconst q15_12 (by decide +kernel)
theorem x15_12 {L : pj_Loc} {st : List Value} {M : pj_Mem}  {o9 : Option Value × pj_Mem} : pj_Ends 15 (12, L, st, M) o9 = pj_Ends 15 (13, L, .int 0 :: st, M) o9 := pj_xs (s15_12)
theorem q15_13 : pj_row 15 13 = some (.iload_n 2, 1, 0, 0, 0) := by decide +kernel
theorem s15_13 {st : List Value} {M : pj_Mem} {l : pj_Loc} {a0 a1 : Option Value} {x : Int32} : pj_step 15 (13, a0 :: a1 :: some (.int x) :: l, st, M) = some (14, a0 :: a1 :: some (.int x) :: l, .int x :: st, M) := st_iload_n q15_13 rfl
theorem x15_13 {st : List Value} {M : pj_Mem} {l : pj_Loc} {a0 a1 : Option Value} {x : Int32} {o9 : Option Value × pj_Mem} : pj_Ends 15 (13, a0 :: a1 :: some (.int x) :: l, st, M) o9 = pj_Ends 15 (14, a0 :: a1 :: some (.int x) :: l, .int x :: st, M) o9 := pj_xs (s15_13)
theorem q15_14 : pj_row 15 14 = some (.iastore, 1, 0, 0, 0) := by decide +kernel
theorem s15_14 {L : pj_Loc} {st : List Value} {N S : Nat} {H : pj_Heap} {o : Nat} {i x : Int32} : pj_step 15 (14, L, .int x :: .int i :: .ref o :: st, (N, S, H)) = pj_set 15 L st (N, S, H) o (pj_ars (H o) 0 i x) := st_iastore q15_14
theorem x15_14 {L : pj_Loc} {st : List Value} {N S : Nat} {H : pj_Heap} {o : Nat} {i x : Int32} {o9 : Option Value × pj_Mem} : pj_Ends 15 (14, L, .int x :: .int i :: .ref o :: st, (N, S, H)) o9 = pj_then 15 o9 (pj_set 15 L st (N, S, H) o (pj_ars (H o) 0 i x)) := pj_xt q15_14 rfl (pj_cl_nc rfl) (s15_14)
theorem q15_15 : pj_row 15 15 = some (.aload_n 0, 1, 0, 0, 0) := by decide +kernel
theorem s15_15 {st : List Value} {M : pj_Mem} {l : pj_Loc} {x : Nat} : pj_step 15 (15, some (.ref x) :: l, st, M) = some (16, some (.ref x) :: l, .ref x :: st, M) := st_aload_n q15_15 rfl
theorem x15_15 {st : List Value} {M : pj_Mem} {l : pj_Loc} {x : Nat} {o9 : Option Value × pj_Mem} : pj_Ends 15 (15, some (.ref x) :: l, st, M) o9 = pj_Ends 15 (16, some (.ref x) :: l, .ref x :: st, M) o9 := pj_xs (s15_15)
theorem q15_16 : pj_row 15 16 = some (.getfield 9, 3, 3, 0, 0) := by decide +kernel
theorem s15_16 {L : pj_Loc} {st : List Value} {N S : Nat} {H : pj_Heap} {o : Nat} : pj_step 15 (16, L, .ref o :: st, (N, S, H)) = pj_pv 19 L st (N, S, H) (pj_fld (H o) 3 0) := st_getfield q15_16
theorem x15_16 {L : pj_Loc} {st : List Value} {N S : Nat} {H : pj_Heap} {o : Nat} {o9 : Option Value × pj_Mem} : pj_Ends 15 (16, L, .ref o :: st, (N, S, H)) o9 = pj_then 15 o9 (pj_pv 19 L st (N, S, H) (pj_fld (H o) 3 0)) := pj_xt q15_16 rfl (pj_cl_nc rfl) (s15_16)
theorem q15_19 : pj_row 15 19 = some (.iconst 1, 1, 0, 0, 0) := by decide +kernel
theorem s15_19 {L : pj_Loc} {st : List Value} {M : pj_Mem}  : pj_step 15 (19, L, st, M) = some (20, L, .int 1 :: st, M) := st_iconst q15_19 (by decide +kernel)
theorem x15_19 {L : pj_Loc} {st : List Value} {M : pj_Mem}  {o9 : Option Value × pj_Mem} : pj_Ends 15 (19, L, st, M) o9 = pj_Ends 15 (20, L, .int 1 :: st, M) o9 := pj_xs (s15_19)
theorem q15_20 : pj_row 15 20 = some (.iload_n 3, 1, 0, 0, 0) := by decide +kernel
theorem s15_20 {st : List Value} {M : pj_Mem} {l : pj_Loc} {a0 a1 a2 : Option Value} {x : Int32} : pj_step 15 (20, a0 :: a1 :: a2 :: some (.int x) :: l, st, M) = some (21, a0 :: a1 :: a2 :: some (.int x) :: l, .int x :: st, M) := st_iload_n q15_20 rfl
theorem x15_20 {st : List Value} {M : pj_Mem} {l : pj_Loc} {a0 a1 a2 : Option Value} {x : Int32} {o9 : Option Value × pj_Mem} : pj_Ends 15 (20, a0 :: a1 :: a2 :: some (.int x) :: l, st, M) o9 = pj_Ends 15 (21, a0 :: a1 :: a2 :: some (.int x) :: l, .int x :: st, M) o9 := pj_xs (s15_20)
theorem q15_21 : pj_row 15 21 = some (.iastore, 1, 0, 0, 0) := by decide +kernel
theorem s15_21 {L : pj_Loc} {st : List Value} {N S : Nat} {H : pj_Heap} {o : Nat} {i x : Int32} : pj_step 15 (21, L, .int x :: .int i :: .ref o :: st, (N, S, H)) = pj_set 22 L st (N, S, H) o (pj_ars (H o) 0 i x) := st_iastore q15_21
theorem x15_21 {L : pj_Loc} {st : List Value} {N S : Nat} {H : pj_Heap} {o : Nat} {i x : Int32} {o9 : Option Value × pj_Mem} : pj_Ends 15 (21, L, .int x :: .int i :: .ref o :: st, (N, S, H)) o9 = pj_then 15 o9 (pj_set 22 L st (N, S, H) o (pj_ars (H o) 0 i x)) := pj_xt q15_21 rfl (pj_cl_nc rfl) (s15_21)
theorem q15_22 : pj_row 15 22 = some (.aload_n 0, 1, 0, 0, 0) := by decide +kernel
theorem s15_22 {st : List Value} {M : pj_Mem} {l : pj_Loc} {x : Nat} : pj_step 15 (22, some (.ref x) :: l, st, M) = some (23, some (.ref x) :: l, .ref x :: st, M) := st_aload_n q15_22 rfl
theorem x15_22 {st : List Value} {M : pj_Mem} {l : pj_Loc} {x : Nat} {o9 : Option Value × pj_Mem} : pj_Ends 15 (22, some (.ref x) :: l, st, M) o9 = pj_Ends 15 (23, some (.ref x) :: l, .ref x :: st, M) o9 := pj_xs (s15_22)
theorem q15_23 : pj_row 15 23 = some (.getfield 9, 3, 3, 0, 0) := by decide +kernel
theorem s15_23 {L : pj_Loc} {st : List Value} {N S : Nat} {H : pj_Heap} {o : Nat} : pj_step 15 (23, L, .ref o :: st, (N, S, H)) = pj_pv 26 L st (N, S, H) (pj_fld (H o) 3 0) := st_getfield q15_23
theorem x15_23 {L : pj_Loc} {st : List Value} {N S : Nat} {H : pj_Heap} {o : Nat} {o9 : Option Value × pj_Mem} : pj_Ends 15 (23, L, .ref o :: st, (N, S, H)) o9 = pj_then 15 o9 (pj_pv 26 L st (N, S, H) (pj_fld (H o) 3 0)) := pj_xt q15_23 rfl (pj_cl_nc rfl) (s15_23)
theorem q15_26 : pj_row 15 26 = some (.iconst 2, 1, 0, 0, 0) := by decide +kernel
theorem s15_26 {L : pj_Loc} {st : List Value} {M : pj_Mem}  : pj_step 15 (26, L, st, M) = some (27, L, .int 2 :: st, M) := st_iconst q15_26 (by decide +kernel)
theorem x15_26 {L : pj_Loc} {st : List Value} {M : pj_Mem}  {o9 : Option Value × pj_Mem} : pj_Ends 15 (26, L, st, M) o9 = pj_Ends 15 (27, L, .int 2 :: st, M) o9 := pj_xs (s15_26)
theorem q15_27 : pj_row 15 27 = some (.iload 4, 2, 0, 0, 0) := by decide +kernel
theorem s15_27 {st : List Value} {M : pj_Mem} {l : pj_Loc} {a0 a1 a2 a3 : Option Value} {x : Int32} : pj_step 15 (27, a0 :: a1 :: a2 :: a3 :: some (.int x) :: l, st, M) = some (29, a0 :: a1 :: a2 :: a3 :: some (.int x) :: l, .int x :: st, M) := st_iload q15_27 rfl
theorem x15_27 {st : List Value} {M : pj_Mem} {l : pj_Loc} {a0 a1 a2 a3 : Option Value} {x : Int32} {o9 : Option Value × pj_Mem} : pj_Ends 15 (27, a0 :: a1 :: a2 :: a3 :: some (.int x) :: l, st, M) o9 = pj_Ends 15 (29, a0 :: a1 :: a2 :: a3 :: some (.int x) :: l, .int x :: st, M) o9 := pj_xs (s15_27)
theorem q15_29 : pj_row 15 29 = some (.iastore, 1, 0, 0, 0) := by decide +kernel
theorem s15_29 {L : pj_Loc} {st : List Value} {N S : Nat} {H : pj_Heap} {o : Nat} {i x : Int32} : pj_step 15 (29, L, .int x :: .int i :: .ref o :: st, (N, S, H)) = pj_set 30 L st (N, S, H) o (pj_ars (H o) 0 i x) := st_iastore q15_29
theorem x15_29 {L : pj_Loc} {st : List Value} {N S : Nat} {H : pj_Heap} {o : Nat} {i x : Int32} {o9 : Option Value × pj_Mem} : pj_Ends 15 (29, L, .int x :: .int i :: .ref o :: st, (N, S, H)) o9 = pj_then 15 o9 (pj_set 30 L st (N, S, H) o (pj_ars (H o) 0 i x)) := pj_xt q15_29 rfl (pj_cl_nc rfl) (s15_29)
theorem q15_30 : pj_row 15 30 = some (.aload_n 0, 1, 0, 0, 0) := by decide +kernel
theorem s15_30 {st : List Value} {M : pj_Mem} {l : pj_Loc} {x : Nat} : pj_step 15 (30, some (.ref x) :: l, st, M) = some (31, some (.ref x) :: l, .ref x :: st, M) := st_aload_n q15_30 rfl
theorem x15_30 {st : List Value} {M : pj_Mem} {l : pj_Loc} {x : Nat} {o9 : Option Value × pj_Mem} : pj_Ends 15 (30, some (.ref x) :: l, st, M) o9 = pj_Ends 15 (31, some (.ref x) :: l, .ref x :: st, M) o9 := pj_xs (s15_30)
theorem q15_31 : pj_row 15 31 = some (.iload 5, 2, 0, 0, 0) := by decide +kernel
theorem s15_31 {st : List Value} {M : pj_Mem} {l : pj_Loc} {a0 a1 a2 a3 a4 : Option Value} {x : Int32} : pj_step 15 (31, a0 :: a1 :: a2 :: a3 :: a4 :: some (.int x) :: l, st, M) = some (33, a0 :: a1 :: a2 :: a3 :: a4 :: some (.int x) :: l, .int x :: st, M) := st_iload q15_31 rfl
theorem x15_31 {st : List Value} {M : pj_Mem} {l : pj_Loc} {a0 a1 a2 a3 a4 : Option Value} {x : Int32} {o9 : Option Value × pj_Mem} : pj_Ends 15 (31, a0 :: a1 :: a2 :: a3 :: a4 :: some (.int x) :: l, st, M) o9 = pj_Ends 15 (33, a0 :: a1 :: a2 :: a3 :: a4 :: some (.int x) :: l, .int x :: st, M) o9 := pj_xs (s15_31)
theorem q15_33 : pj_row 15 33 = some (.putfield 39, 3, 3, 6, 0) := by decide +kernel
theorem s15_33 {L : pj_Loc} {st : List Value} {N S : Nat} {H : pj_Heap} {o : Nat} {v : Value} : pj_step 15 (33, L, v :: .ref o :: st, (N, S, H)) = pj_set 36 L st (N, S, H) o (pj_fset (H o) 3 6 v) := st_putfield q15_33
theorem x15_33 {L : pj_Loc} {st : List Value} {N S : Nat} {H : pj_Heap} {o : Nat} {v : Value} {o9 : Option Value × pj_Mem} : pj_Ends 15 (33, L, v :: .ref o :: st, (N, S, H)) o9 = pj_then 15 o9 (pj_set 36 L st (N, S, H) o (pj_fset (H o) 3 6 v)) := pj_xt q15_33 rfl (pj_cl_nc rfl) (s15_33)
theorem q15_36 : pj_row 15 36 = some (.aload_n 0, 1, 0, 0, 0) := by decide +kernel
theorem s15_36 {st : List Value} {M : pj_Mem} {l : pj_Loc} {x : Nat} : pj_step 15 (36, some (.ref x) :: l, st, M) = some (37, some (.ref x) :: l, .ref x :: st, M) := st_aload_n q15_36 rfl
theorem x15_36 {st : List Value} {M : pj_Mem} {l : pj_Loc} {x : Nat} {o9 : Option Value × pj_Mem} : pj_Ends 15 (36, some (.ref x) :: l, st, M) o9 = pj_Ends 15 (37, some (.ref x) :: l, .ref x :: st, M) o9 := pj_xs (s15_36)
theorem q15_37 : pj_row 15 37 = some (.aload_n 1, 1, 0, 0, 0) := by decide +kernel
theorem s15_37 {st : List Value} {M : pj_Mem} {l : pj_Loc} {a0 : Option Value} {x : Nat} : pj_step 15 (37, a0 :: some (.ref x) :: l, st, M) = some (38, a0 :: some (.ref x) :: l, .ref x :: st, M) := st_aload_n q15_37 rfl
theorem x15_37 {st : List Value} {M : pj_Mem} {l : pj_Loc} {a0 : Option Value} {x : Nat} {o9 : Option Value × pj_Mem} : pj_Ends 15 (37, a0 :: some (.ref x) :: l, st, M) o9 = pj_Ends 15 (38, a0 :: some (.ref x) :: l, .ref x :: st, M) o9 := pj_xs (s15_37)
theorem q15_38 : pj_row 15 38 = some (.invokevirtual 43, 3, 16, 2, 0) := by decide +kernel
theorem e15_38 {L : pj_Loc} {st : List Value} {N S : Nat} {H : pj_Heap} {o : Option Value × pj_Mem} {M' : pj_Mem} {x0 : Nat} {x1 : Nat} (h4 : pj_le4 st = true) (hu : pj_isU 3 (H x0) = true) (h1 : pj_Ends 16 (0, [some (.ref x0), some (.ref x1), none], [], (N, S, H)) (none, M')) (h2 : pj_Ends 15 (41, L, st, M') o) : pj_Ends 15 (38, L, .ref x1 :: .ref x0 :: st, (N, S, H)) o := ec_v2 q15_38 (Or.inl rfl) h4 hu rfl h1 h2
theorem q15_41 : pj_row 15 41 = some (.aload_n 0, 1, 0, 0, 0) := by decide +kernel
theorem s15_41 {st : List Value} {M : pj_Mem} {l : pj_Loc} {x : Nat} : pj_step 15 (41, some (.ref x) :: l, st, M) = some (42, some (.ref x) :: l, .ref x :: st, M) := st_aload_n q15_41 rfl
theorem x15_41 {st : List Value} {M : pj_Mem} {l : pj_Loc} {x : Nat} {o9 : Option Value × pj_Mem} : pj_Ends 15 (41, some (.ref x) :: l, st, M) o9 = pj_Ends 15 (42, some (.ref x) :: l, .ref x :: st, M) o9 := pj_xs (s15_41)
theorem q15_42 : pj_row 15 42 = some (.aload_n 1, 1, 0, 0, 0) := by decide +kernel
theorem s15_42 {st : List Value} {M : pj_Mem} {l : pj_Loc} {a0 : Option Value} {x : Nat} : pj_step 15 (42, a0 :: some (.ref x) :: l, st, M) = some (43, a0 :: some (.ref x) :: l, .ref x :: st, M) := st_aload_n q15_42 rfl
theorem x15_42 {st : List Value} {M : pj_Mem} {l : pj_Loc} {a0 : Option Value} {x : Nat} {o9 : Option Value × pj_Mem} : pj_Ends 15 (42, a0 :: some (.ref x) :: l, st, M) o9 = pj_Ends 15 (43, a0 :: some (.ref x) :: l, .ref x :: st, M) o9 := pj_xs (s15_42)
theorem q15_43 : pj_row 15 43 = some (.invokevirtual 47, 3, 18, 2, 0) := by decide +kernel
theorem e15_43 {L : pj_Loc} {st : List Value} {N S : Nat} {H : pj_Heap} {o : Option Value × pj_Mem} {M' : pj_Mem} {x0 : Nat} {x1 : Nat} (h4 : pj_le4 st = true) (hu : pj_isU 3 (H x0) = true) (h1 : pj_Ends 18 (0, [some (.ref x0), some (.ref x1), none], [], (N, S, H)) (none, M')) (h2 : pj_Ends 15 (46, L, st, M') o) : pj_Ends 15 (43, L, .ref x1 :: .ref x0 :: st, (N, S, H)) o := ec_v2 q15_43 (Or.inl rfl) h4 hu rfl h1 h2
theorem q15_46 : pj_row 15 46 = some (.aload_n 0, 1, 0, 0, 0) := by decide +kernel
theorem s15_46 {st : List Value} {M : pj_Mem} {l : pj_Loc} {x : Nat} : pj_step 15 (46, some (.ref x) :: l, st, M) = some (47, some (.ref x) :: l, .ref x :: st, M) := st_aload_n q15_46 rfl
theorem x15_46 {st : List Value} {M : pj_Mem} {l : pj_Loc} {x : Nat} {o9 : Option Value × pj_Mem} : pj_Ends 15 (46, some (.ref x) :: l, st, M) o9 = pj_Ends 15 (47, some (.ref x) :: l, .ref x :: st, M) o9 := pj_xs (s15_46)
theorem q15_47 : pj_row 15 47 = some (.aload_n 1, 1, 0, 0, 0) := by decide +kernel
theorem s15_47 {st : List Value} {M : pj_Mem} {l : pj_Loc} {a0 : Option Value} {x : Nat} : pj_step 15 (47, a0 :: some (.ref x) :: l, st, M) = some (48, a0 :: some (.ref x) :: l, .ref x :: st, M) := st_aload_n q15_47 rfl
theorem x15_47 {st : List Value} {M : pj_Mem} {l : pj_Loc} {a0 : Option Value} {x : Nat} {o9 : Option Value × pj_Mem} : pj_Ends 15 (47, a0 :: some (.ref x) :: l, st, M) o9 = pj_Ends 15 (48, a0 :: some (.ref x) :: l, .ref x :: st, M) o9 := pj_xs (s15_47)
theorem q15_48 : pj_row 15 48 = some (.getfield 50, 3, 4, 0, 0) := by decide +kernel
theorem s15_48 {L : pj_Loc} {st : List Value} {N S : Nat} {H : pj_Heap} {o : Nat} : pj_step 15 (48, L, .ref o :: st, (N, S, H)) = pj_pv 51 L st (N, S, H) (pj_fld (H o) 4 0) := st_getfield q15_48
theorem x15_48 {L : pj_Loc} {st : List Value} {N S : Nat} {H : pj_Heap} {o : Nat} {o9 : Option Value × pj_Mem} : pj_Ends 15 (48, L, .ref o :: st, (N, S, H)) o9 = pj_then 15 o9 (pj_pv 51 L st (N, S, H) (pj_fld (H o) 4 0)) := pj_xt q15_48 rfl (pj_cl_nc rfl) (s15_48)
theorem q15_51 : pj_row 15 51 = some (.iconst 4, 1, 0, 0, 0) := by decide +kernel
theorem s15_51 {L : pj_Loc} {st : List Value} {M : pj_Mem}  : pj_step 15 (51, L, st, M) = some (52, L, .int 4 :: st, M) := st_iconst q15_51 (by decide +kernel)
theorem x15_51 {L : pj_Loc} {st : List Value} {M : pj_Mem}  {o9 : Option Value × pj_Mem} : pj_Ends 15 (51, L, st, M) o9 = pj_Ends 15 (52, L, .int 4 :: st, M) o9 := pj_xs (s15_51)
theorem q15_52 : pj_row 15 52 = some (.iaload, 1, 0, 0, 0) := by decide +kernel
theorem s15_52 {L : pj_Loc} {st : List Value} {N S : Nat} {H : pj_Heap} {o : Nat} {i : Int32} : pj_step 15 (52, L, .int i :: .ref o :: st, (N, S, H)) = pj_pi 53 L st (N, S, H) (pj_arl (H o) 0 i) := st_iaload q15_52
theorem x15_52 {L : pj_Loc} {st : List Value} {N S : Nat} {H : pj_Heap} {o : Nat} {i : Int32} {o9 : Option Value × pj_Mem} : pj_Ends 15 (52, L, .int i :: .ref o :: st, (N, S, H)) o9 = pj_then 15 o9 (pj_pi 53 L st (N, S, H) (pj_arl (H o) 0 i)) := pj_xt q15_52 rfl (pj_cl_nc rfl) (s15_52)
theorem q15_53 : pj_row 15 53 = some (.invokevirtual 53, 3, 21, 2, 0) := by decide +kernel
theorem e15_53 {L : pj_Loc} {st : List Value} {N S : Nat} {H : pj_Heap} {o : Option Value × pj_Mem} {M' : pj_Mem} {x0 : Nat} {x1 : Int32} (h4 : pj_le4 st = true) (hu : pj_isU 3 (H x0) = true) (h1 : pj_Ends 21 (0, [some (.ref x0), some (.int x1), none], [], (N, S, H)) (none, M')) (h2 : pj_Ends 15 (56, L, st, M') o) : pj_Ends 15 (53, L, .int x1 :: .ref x0 :: st, (N, S, H)) o := ec_v2 q15_53 (Or.inl rfl) h4 hu rfl h1 h2
theorem q15_56 : pj_row 15 56 = some (.aload_n 0, 1, 0, 0, 0) := by decide +kernel
theorem s15_56 {st : List Value} {M : pj_Mem} {l : pj_Loc} {x : Nat} : pj_step 15 (56, some (.ref x) :: l, st, M) = some (57, some (.ref x) :: l, .ref x :: st, M) := st_aload_n q15_56 rfl
theorem x15_56 {st : List Value} {M : pj_Mem} {l : pj_Loc} {x : Nat} {o9 : Option Value × pj_Mem} : pj_Ends 15 (56, some (.ref x) :: l, st, M) o9 = pj_Ends 15 (57, some (.ref x) :: l, .ref x :: st, M) o9 := pj_xs (s15_56)
theorem q15_57 : pj_row 15 57 = some (.aload_n 1, 1, 0, 0, 0) := by decide +kernel
theorem s15_57 {st : List Value} {M : pj_Mem} {l : pj_Loc} {a0 : Option Value} {x : Nat} : pj_step 15 (57, a0 :: some (.ref x) :: l, st, M) = some (58, a0 :: some (.ref x) :: l, .ref x :: st, M) := st_aload_n q15_57 rfl
theorem x15_57 {st : List Value} {M : pj_Mem} {l : pj_Loc} {a0 : Option Value} {x : Nat} {o9 : Option Value × pj_Mem} : pj_Ends 15 (57, a0 :: some (.ref x) :: l, st, M) o9 = pj_Ends 15 (58, a0 :: some (.ref x) :: l, .ref x :: st, M) o9 := pj_xs (s15_57)
theorem q15_58 : pj_row 15 58 = some (.invokevirtual 57, 3, 22, 2, 0) := by decide +kernel
theorem e15_58 {L : pj_Loc} {st : List Value} {N S : Nat} {H : pj_Heap} {o : Option Value × pj_Mem} {M' : pj_Mem} {x0 : Nat} {x1 : Nat} (h4 : pj_le4 st = true) (hu : pj_isU 3 (H x0) = true) (h1 : pj_Ends 22 (0, [some (.ref x0), some (.ref x1), none, none, none], [], (N, S, H)) (none, M')) (h2 : pj_Ends 15 (61, L, st, M') o) : pj_Ends 15 (58, L, .ref x1 :: .ref x0 :: st, (N, S, H)) o := ec_v2 q15_58 (Or.inl rfl) h4 hu rfl h1 h2
theorem q15_61 : pj_row 15 61 = some (.aload_n 0, 1, 0, 0, 0) := by decide +kernel
theorem s15_61 {st : List Value} {M : pj_Mem} {l : pj_Loc} {x : Nat} : pj_step 15 (61, some (.ref x) :: l, st, M) = some (62, some (.ref x) :: l, .ref x :: st, M) := st_aload_n q15_61 rfl
theorem x15_61 {st : List Value} {M : pj_Mem} {l : pj_Loc} {x : Nat} {o9 : Option Value × pj_Mem} : pj_Ends 15 (61, some (.ref x) :: l, st, M) o9 = pj_Ends 15 (62, some (.ref x) :: l, .ref x :: st, M) o9 := pj_xs (s15_61)
theorem q15_62 : pj_row 15 62 = some (.aload_n 1, 1, 0, 0, 0) := by decide +kernel
theorem s15_62 {st : List Value} {M : pj_Mem} {l : pj_Loc} {a0 : Option Value} {x : Nat} : pj_step 15 (62, a0 :: some (.ref x) :: l, st, M) = some (63, a0 :: some (.ref x) :: l, .ref x :: st, M) := st_aload_n q15_62 rfl
theorem x15_62 {st : List Value} {M : pj_Mem} {l : pj_Loc} {a0 : Option Value} {x : Nat} {o9 : Option Value × pj_Mem} : pj_Ends 15 (62, a0 :: some (.ref x) :: l, st, M) o9 = pj_Ends 15 (63, a0 :: some (.ref x) :: l, .ref x :: st, M) o9 := pj_xs (s15_62)
theorem q15_63 : pj_row 15 63 = some (.invokevirtual 60, 3, 24, 2, 0) := by decide +kernel
theorem e15_63 {L : pj_Loc} {st : List Value} {N S : Nat} {H : pj_Heap} {o : Option Value × pj_Mem} {M' : pj_Mem} {x0 : Nat} {x1 : Nat} (h4 : pj_le4 st = true) (hu : pj_isU 3 (H x0) = true) (h1 : pj_Ends 24 (0, [some (.ref x0), some (.ref x1), none, none], [], (N, S, H)) (none, M')) (h2 : pj_Ends 15 (66, L, st, M') o) : pj_Ends 15 (63, L, .ref x1 :: .ref x0 :: st, (N, S, H)) o := ec_v2 q15_63 (Or.inl rfl) h4 hu rfl h1 h2
theorem q15_66 : pj_row 15 66 = some (.aload_n 0, 1, 0, 0, 0) := by decide +kernel
theorem s15_66 {st : List Value} {M : pj_Mem} {l : pj_Loc} {x : Nat} : pj_step 15 (66, some (.ref x) :: l, st, M) = some (67, some (.ref x) :: l, .ref x :: st, M) := st_aload_n q15_66 rfl
theorem x15_66 {st : List Value} {M : pj_Mem} {l : pj_Loc} {x : Nat} {o9 : Option Value × pj_Mem} : pj_Ends 15 (66, some (.ref x) :: l, st, M) o9 = pj_Ends 15 (67, some (.ref x) :: l, .ref x :: st, M) o9 := pj_xs (s15_66)
theorem q15_67 : pj_row 15 67 = some (.iload 5, 2, 0, 0, 0) := by decide +kernel
theorem s15_67 {st : List Value} {M : pj_Mem} {l : pj_Loc} {a0 a1 a2 a3 a4 : Option Value} {x : Int32} : pj_step 15 (67, a0 :: a1 :: a2 :: a3 :: a4 :: some (.int x) :: l, st, M) = some (69, a0 :: a1 :: a2 :: a3 :: a4 :: some (.int x) :: l, .int x :: st, M) := st_iload q15_67 rfl
theorem x15_67 {st : List Value} {M : pj_Mem} {l : pj_Loc} {a0 a1 a2 a3 a4 : Option Value} {x : Int32} {o9 : Option Value × pj_Mem} : pj_Ends 15 (67, a0 :: a1 :: a2 :: a3 :: a4 :: some (.int x) :: l, st, M) o9 = pj_Ends 15 (69, a0 :: a1 :: a2 :: a3 :: a4 :: some (.int x) :: l, .int x :: st, M) o9 := pj_xs (s15_67)
theorem q15_69 : pj_row 15 69 = some (.ifCond .eq 12, 3, 81, 0, 0) := by decide +kernel
theorem s15_69 {L : pj_Loc} {st : List Value} {M : pj_Mem} {x : Int32} : pj_step 15 (69, L, .int x :: st, M) = some (if x = 0 then 81 else 72, L, st, M) := st_if_eq q15_69
theorem x15_69 {L : pj_Loc} {st : List Value} {M : pj_Mem} {x : Int32} {o9 : Option Value × pj_Mem} : pj_Ends 15 (69, L, .int x :: st, M) o9 = pj_Ends 15 (if x = 0 then 81 else 72, L, st, M) o9 := pj_xs (s15_69)
theorem q15_72 : pj_row 15 72 = some (.aload_n 1, 1, 0, 0, 0) := by decide +kernel
theorem s15_72 {st : List Value} {M : pj_Mem} {l : pj_Loc} {a0 : Option Value} {x : Nat} : pj_step 15 (72, a0 :: some (.ref x) :: l, st, M) = some (73, a0 :: some (.ref x) :: l, .ref x :: st, M) := st_aload_n q15_72 rfl
theorem x15_72 {st : List Value} {M : pj_Mem} {l : pj_Loc} {a0 : Option Value} {x : Nat} {o9 : Option Value × pj_Mem} : pj_Ends 15 (72, a0 :: some (.ref x) :: l, st, M) o9 = pj_Ends 15 (73, a0 :: some (.ref x) :: l, .ref x :: st, M) o9 := pj_xs (s15_72)
theorem q15_73 : pj_row 15 73 = some (.getfield 50, 3, 4, 0, 0) := by decide +kernel
theorem s15_73 {L : pj_Loc} {st : List Value} {N S : Nat} {H : pj_Heap} {o : Nat} : pj_step 15 (73, L, .ref o :: st, (N, S, H)) = pj_pv 76 L st (N, S, H) (pj_fld (H o) 4 0) := st_getfield q15_73
theorem x15_73 {L : pj_Loc} {st : List Value} {N S : Nat} {H : pj_Heap} {o : Nat} {o9 : Option Value × pj_Mem} : pj_Ends 15 (73, L, .ref o :: st, (N, S, H)) o9 = pj_then 15 o9 (pj_pv 76 L st (N, S, H) (pj_fld (H o) 4 0)) := pj_xt q15_73 rfl (pj_cl_nc rfl) (s15_73)
theorem q15_76 : pj_row 15 76 = some (.iconst 2, 1, 0, 0, 0) := by decide +kernel
theorem s15_76 {L : pj_Loc} {st : List Value} {M : pj_Mem}  : pj_step 15 (76, L, st, M) = some (77, L, .int 2 :: st, M) := st_iconst q15_76 (by decide +kernel)
theorem x15_76 {L : pj_Loc} {st : List Value} {M : pj_Mem}  {o9 : Option Value × pj_Mem} : pj_Ends 15 (76, L, st, M) o9 = pj_Ends 15 (77, L, .int 2 :: st, M) o9 := pj_xs (s15_76)
theorem q15_77 : pj_row 15 77 = some (.iaload, 1, 0, 0, 0) := by decide +kernel
theorem s15_77 {L : pj_Loc} {st : List Value} {N S : Nat} {H : pj_Heap} {o : Nat} {i : Int32} : pj_step 15 (77, L, .int i :: .ref o :: st, (N, S, H)) = pj_pi 78 L st (N, S, H) (pj_arl (H o) 0 i) := st_iaload q15_77
theorem x15_77 {L : pj_Loc} {st : List Value} {N S : Nat} {H : pj_Heap} {o : Nat} {i : Int32} {o9 : Option Value × pj_Mem} : pj_Ends 15 (77, L, .int i :: .ref o :: st, (N, S, H)) o9 = pj_then 15 o9 (pj_pi 78 L st (N, S, H) (pj_arl (H o) 0 i)) := pj_xt q15_77 rfl (pj_cl_nc rfl) (s15_77)
theorem q15_78 : pj_row 15 78 = some (.goto 13, 3, 91, 0, 0) := by decide +kernel
theorem s15_78 {L : pj_Loc} {st : List Value} {M : pj_Mem}  : pj_step 15 (78, L, st, M) = some (91, L, st, M) := st_goto q15_78
theorem x15_78 {L : pj_Loc} {st : List Value} {M : pj_Mem}  {o9 : Option Value × pj_Mem} : pj_Ends 15 (78, L, st, M) o9 = pj_Ends 15 (91, L, st, M) o9 := pj_xs (s15_78)
theorem q15_81 : pj_row 15 81 = some (.aload_n 1, 1, 0, 0, 0) := by decide +kernel
theorem s15_81 {st : List Value} {M : pj_Mem} {l : pj_Loc} {a0 : Option Value} {x : Nat} : pj_step 15 (81, a0 :: some (.ref x) :: l, st, M) = some (82, a0 :: some (.ref x) :: l, .ref x :: st, M) := st_aload_n q15_81 rfl
theorem x15_81 {st : List Value} {M : pj_Mem} {l : pj_Loc} {a0 : Option Value} {x : Nat} {o9 : Option Value × pj_Mem} : pj_Ends 15 (81, a0 :: some (.ref x) :: l, st, M) o9 = pj_Ends 15 (82, a0 :: some (.ref x) :: l, .ref x :: st, M) o9 := pj_xs (s15_81)
theorem q15_82 : pj_row 15 82 = some (.getfield 63, 3, 4, 9, 0) := by decide +kernel
theorem s15_82 {L : pj_Loc} {st : List Value} {N S : Nat} {H : pj_Heap} {o : Nat} : pj_step 15 (82, L, .ref o :: st, (N, S, H)) = pj_pv 85 L st (N, S, H) (pj_fld (H o) 4 9) := st_getfield q15_82
theorem x15_82 {L : pj_Loc} {st : List Value} {N S : Nat} {H : pj_Heap} {o : Nat} {o9 : Option Value × pj_Mem} : pj_Ends 15 (82, L, .ref o :: st, (N, S, H)) o9 = pj_then 15 o9 (pj_pv 85 L st (N, S, H) (pj_fld (H o) 4 9)) := pj_xt q15_82 rfl (pj_cl_nc rfl) (s15_82)
theorem q15_85 : pj_row 15 85 = some (.iconst 1, 1, 0, 0, 0) := by decide +kernel
theorem s15_85 {L : pj_Loc} {st : List Value} {M : pj_Mem}  : pj_step 15 (85, L, st, M) = some (86, L, .int 1 :: st, M) := st_iconst q15_85 (by decide +kernel)
theorem x15_85 {L : pj_Loc} {st : List Value} {M : pj_Mem}  {o9 : Option Value × pj_Mem} : pj_Ends 15 (85, L, st, M) o9 = pj_Ends 15 (86, L, .int 1 :: st, M) o9 := pj_xs (s15_85)
theorem q15_86 : pj_row 15 86 = some (.isub, 1, 0, 0, 0) := by decide +kernel
theorem s15_86 {L : pj_Loc} {st : List Value} {M : pj_Mem} {x y : Int32} : pj_step 15 (86, L, .int y :: .int x :: st, M) = some (87, L, .int (x - y) :: st, M) := st_isub q15_86
theorem x15_86 {L : pj_Loc} {st : List Value} {M : pj_Mem} {x y : Int32} {o9 : Option Value × pj_Mem} : pj_Ends 15 (86, L, .int y :: .int x :: st, M) o9 = pj_Ends 15 (87, L, .int (x - y) :: st, M) o9 := pj_xs (s15_86)
theorem q15_87 : pj_row 15 87 = some (.iconst 0, 1, 0, 0, 0) := by decide +kernel
theorem s15_87 {L : pj_Loc} {st : List Value} {M : pj_Mem}  : pj_step 15 (87, L, st, M) = some (88, L, .int 0 :: st, M) := st_iconst q15_87 (by decide +kernel)
theorem x15_87 {L : pj_Loc} {st : List Value} {M : pj_Mem}  {o9 : Option Value × pj_Mem} : pj_Ends 15 (87, L, st, M) o9 = pj_Ends 15 (88, L, .int 0 :: st, M) o9 := pj_xs (s15_87)
theorem q15_88 : pj_row 15 88 = some (.invokestatic 66, 3, 0, 2, 4) := by decide +kernel
theorem s15_88 {L : pj_Loc} {st : List Value} {M : pj_Mem} {x y : Int32} : pj_step 15 (88, L, .int y :: .int x :: st, M) = pj_g4 st (some (91, L, .int (if x < y then y else x) :: st, M)) := st_max q15_88
theorem x15_88 {L : pj_Loc} {st : List Value} {M : pj_Mem} {x y : Int32} {o9 : Option Value × pj_Mem} : pj_Ends 15 (88, L, .int y :: .int x :: st, M) o9 = pj_then 15 o9 (pj_g4 st (some (91, L, .int (if x < y then y else x) :: st, M))) := pj_xt q15_88 rfl rfl (s15_88)
theorem q15_91 : pj_row 15 91 = some (.putfield 72, 3, 3, 10, 0) := by decide +kernel
theorem s15_91 {L : pj_Loc} {st : List Value} {N S : Nat} {H : pj_Heap} {o : Nat} {v : Value} : pj_step 15 (91, L, v :: .ref o :: st, (N, S, H)) = pj_set 94 L st (N, S, H) o (pj_fset (H o) 3 10 v) := st_putfield q15_91
theorem x15_91 {L : pj_Loc} {st : List Value} {N S : Nat} {H : pj_Heap} {o : Nat} {v : Value} {o9 : Option Value × pj_Mem} : pj_Ends 15 (91, L, v :: .ref o :: st, (N, S, H)) o9 = pj_then 15 o9 (pj_set 94 L st (N, S, H) o (pj_fset (H o) 3 10 v)) := pj_xt q15_91 rfl (pj_cl_nc rfl) (s15_91)
theorem q15_94 : pj_row 15 94 = some (.aload_n 0, 1, 0, 0, 0) := by decide +kernel
theorem s15_94 {st : List Value} {M : pj_Mem} {l : pj_Loc} {x : Nat} : pj_step 15 (94, some (.ref x) :: l, st, M) = some (95, some (.ref x) :: l, .ref x :: st, M) := st_aload_n q15_94 rfl
theorem x15_94 {st : List Value} {M : pj_Mem} {l : pj_Loc} {x : Nat} {o9 : Option Value × pj_Mem} : pj_Ends 15 (94, some (.ref x) :: l, st, M) o9 = pj_Ends 15 (95, some (.ref x) :: l, .ref x :: st, M) o9 := pj_xs (s15_94)
theorem q15_95 : pj_row 15 95 = some (.aload_n 0, 1, 0, 0, 0) := by decide +kernel
theorem s15_95 {st : List Value} {M : pj_Mem} {l : pj_Loc} {x : Nat} : pj_step 15 (95, some (.ref x) :: l, st, M) = some (96, some (.ref x) :: l, .ref x :: st, M) := st_aload_n q15_95 rfl
theorem x15_95 {st : List Value} {M : pj_Mem} {l : pj_Loc} {x : Nat} {o9 : Option Value × pj_Mem} : pj_Ends 15 (95, some (.ref x) :: l, st, M) o9 = pj_Ends 15 (96, some (.ref x) :: l, .ref x :: st, M) o9 := pj_xs (s15_95)
theorem q15_96 : pj_row 15 96 = some (.aload_n 1, 1, 0, 0, 0) := by decide +kernel
theorem s15_96 {st : List Value} {M : pj_Mem} {l : pj_Loc} {a0 : Option Value} {x : Nat} : pj_step 15 (96, a0 :: some (.ref x) :: l, st, M) = some (97, a0 :: some (.ref x) :: l, .ref x :: st, M) := st_aload_n q15_96 rfl
theorem x15_96 {st : List Value} {M : pj_Mem} {l : pj_Loc} {a0 : Option Value} {x : Nat} {o9 : Option Value × pj_Mem} : pj_Ends 15 (96, a0 :: some (.ref x) :: l, st, M) o9 = pj_Ends 15 (97, a0 :: some (.ref x) :: l, .ref x :: st, M) o9 := pj_xs (s15_96)
theorem q15_97 : pj_row 15 97 = some (.getfield 50, 3, 4, 0, 0) := by decide +kernel
theorem s15_97 {L : pj_Loc} {st : List Value} {N S : Nat} {H : pj_Heap} {o : Nat} : pj_step 15 (97, L, .ref o :: st, (N, S, H)) = pj_pv 100 L st (N, S, H) (pj_fld (H o) 4 0) := st_getfield q15_97
theorem x15_97 {L : pj_Loc} {st : List Value} {N S : Nat} {H : pj_Heap} {o : Nat} {o9 : Option Value × pj_Mem} : pj_Ends 15 (97, L, .ref o :: st, (N, S, H)) o9 = pj_then 15 o9 (pj_pv 100 L st (N, S, H) (pj_fld (H o) 4 0)) := pj_xt q15_97 rfl (pj_cl_nc rfl) (s15_97)
theorem q15_100 : pj_row 15 100 = some (.iconst 0, 1, 0, 0, 0) := by decide +kernel
theorem s15_100 {L : pj_Loc} {st : List Value} {M : pj_Mem}  : pj_step 15 (100, L, st, M) = some (101, L, .int 0 :: st, M) := st_iconst q15_100 (by decide +kernel)
theorem x15_100 {L : pj_Loc} {st : List Value} {M : pj_Mem}  {o9 : Option Value × pj_Mem} : pj_Ends 15 (100, L, st, M) o9 = pj_Ends 15 (101, L, .int 0 :: st, M) o9 := pj_xs (s15_100)
theorem q15_101 : pj_row 15 101 = some (.iaload, 1, 0, 0, 0) := by decide +kernel
theorem s15_101 {L : pj_Loc} {st : List Value} {N S : Nat} {H : pj_Heap} {o : Nat} {i : Int32} : pj_step 15 (101, L, .int i :: .ref o :: st, (N, S, H)) = pj_pi 102 L st (N, S, H) (pj_arl (H o) 0 i) := st_iaload q15_101
theorem x15_101 {L : pj_Loc} {st : List Value} {N S : Nat} {H : pj_Heap} {o : Nat} {i : Int32} {o9 : Option Value × pj_Mem} : pj_Ends 15 (101, L, .int i :: .ref o :: st, (N, S, H)) o9 = pj_then 15 o9 (pj_pi 102 L st (N, S, H) (pj_arl (H o) 0 i)) := pj_xt q15_101 rfl (pj_cl_nc rfl) (s15_101)
theorem q15_102 : pj_row 15 102 = some (.invokevirtual 73, 3, 25, 2, 0) := by decide +kernel
theorem e15_102 {L : pj_Loc} {st : List Value} {N S : Nat} {H : pj_Heap} {o : Option Value × pj_Mem} {M' : pj_Mem} {x0 : Nat} {x1 : Int32} {r : Int32} (h4 : pj_le4 st = true) (hu : pj_isU 3 (H x0) = true) (h1 : pj_Ends 25 (0, [some (.ref x0), some (.int x1), none, none], [], (N, S, H)) (some (.int r), M')) (h2 : pj_Ends 15 (105, L, .int r :: st, M') o) : pj_Ends 15 (102, L, .int x1 :: .ref x0 :: st, (N, S, H)) o := ec_v2 q15_102 (Or.inl rfl) h4 hu rfl h1 h2
theorem q15_105 : pj_row 15 105 = some (.putfield 77, 3, 3, 11, 0) := by decide +kernel
theorem s15_105 {L : pj_Loc} {st : List Value} {N S : Nat} {H : pj_Heap} {o : Nat} {v : Value} : pj_step 15 (105, L, v :: .ref o :: st, (N, S, H)) = pj_set 108 L st (N, S, H) o (pj_fset (H o) 3 11 v) := st_putfield q15_105
theorem x15_105 {L : pj_Loc} {st : List Value} {N S : Nat} {H : pj_Heap} {o : Nat} {v : Value} {o9 : Option Value × pj_Mem} : pj_Ends 15 (105, L, v :: .ref o :: st, (N, S, H)) o9 = pj_then 15 o9 (pj_set 108 L st (N, S, H) o (pj_fset (H o) 3 11 v)) := pj_xt q15_105 rfl (pj_cl_nc rfl) (s15_105)
theorem q15_108 : pj_row 15 108 = some (.aload_n 0, 1, 0, 0, 0) := by decide +kernel
theorem s15_108 {st : List Value} {M : pj_Mem} {l : pj_Loc} {x : Nat} : pj_step 15 (108, some (.ref x) :: l, st, M) = some (109, some (.ref x) :: l, .ref x :: st, M) := st_aload_n q15_108 rfl
theorem x15_108 {st : List Value} {M : pj_Mem} {l : pj_Loc} {x : Nat} {o9 : Option Value × pj_Mem} : pj_Ends 15 (108, some (.ref x) :: l, st, M) o9 = pj_Ends 15 (109, some (.ref x) :: l, .ref x :: st, M) o9 := pj_xs (s15_108)
theorem q15_109 : pj_row 15 109 = some (.aload_n 0, 1, 0, 0, 0) := by decide +kernel
theorem s15_109 {st : List Value} {M : pj_Mem} {l : pj_Loc} {x : Nat} : pj_step 15 (109, some (.ref x) :: l, st, M) = some (110, some (.ref x) :: l, .ref x :: st, M) := st_aload_n q15_109 rfl
theorem x15_109 {st : List Value} {M : pj_Mem} {l : pj_Loc} {x : Nat} {o9 : Option Value × pj_Mem} : pj_Ends 15 (109, some (.ref x) :: l, st, M) o9 = pj_Ends 15 (110, some (.ref x) :: l, .ref x :: st, M) o9 := pj_xs (s15_109)
theorem q15_110 : pj_row 15 110 = some (.aload_n 1, 1, 0, 0, 0) := by decide +kernel
theorem s15_110 {st : List Value} {M : pj_Mem} {l : pj_Loc} {a0 : Option Value} {x : Nat} : pj_step 15 (110, a0 :: some (.ref x) :: l, st, M) = some (111, a0 :: some (.ref x) :: l, .ref x :: st, M) := st_aload_n q15_110 rfl
theorem x15_110 {st : List Value} {M : pj_Mem} {l : pj_Loc} {a0 : Option Value} {x : Nat} {o9 : Option Value × pj_Mem} : pj_Ends 15 (110, a0 :: some (.ref x) :: l, st, M) o9 = pj_Ends 15 (111, a0 :: some (.ref x) :: l, .ref x :: st, M) o9 := pj_xs (s15_110)
theorem q15_111 : pj_row 15 111 = some (.getfield 50, 3, 4, 0, 0) := by decide +kernel
theorem s15_111 {L : pj_Loc} {st : List Value} {N S : Nat} {H : pj_Heap} {o : Nat} : pj_step 15 (111, L, .ref o :: st, (N, S, H)) = pj_pv 114 L st (N, S, H) (pj_fld (H o) 4 0) := st_getfield q15_111
theorem x15_111 {L : pj_Loc} {st : List Value} {N S : Nat} {H : pj_Heap} {o : Nat} {o9 : Option Value × pj_Mem} : pj_Ends 15 (111, L, .ref o :: st, (N, S, H)) o9 = pj_then 15 o9 (pj_pv 114 L st (N, S, H) (pj_fld (H o) 4 0)) := pj_xt q15_111 rfl (pj_cl_nc rfl) (s15_111)
theorem q15_114 : pj_row 15 114 = some (.iconst 1, 1, 0, 0, 0) := by decide +kernel
theorem s15_114 {L : pj_Loc} {st : List Value} {M : pj_Mem}  : pj_step 15 (114, L, st, M) = some (115, L, .int 1 :: st, M) := st_iconst q15_114 (by decide +kernel)
theorem x15_114 {L : pj_Loc} {st : List Value} {M : pj_Mem}  {o9 : Option Value × pj_Mem} : pj_Ends 15 (114, L, st, M) o9 = pj_Ends 15 (115, L, .int 1 :: st, M) o9 := pj_xs (s15_114)
theorem q15_115 : pj_row 15 115 = some (.iaload, 1, 0, 0, 0) := by decide +kernel
theorem s15_115 {L : pj_Loc} {st : List Value} {N S : Nat} {H : pj_Heap} {o : Nat} {i : Int32} : pj_step 15 (115, L, .int i :: .ref o :: st, (N, S, H)) = pj_pi 116 L st (N, S, H) (pj_arl (H o) 0 i) := st_iaload q15_115
theorem x15_115 {L : pj_Loc} {st : List Value} {N S : Nat} {H : pj_Heap} {o : Nat} {i : Int32} {o9 : Option Value × pj_Mem} : pj_Ends 15 (115, L, .int i :: .ref o :: st, (N, S, H)) o9 = pj_then 15 o9 (pj_pi 116 L st (N, S, H) (pj_arl (H o) 0 i)) := pj_xt q15_115 rfl (pj_cl_nc rfl) (s15_115)
theorem q15_116 : pj_row 15 116 = some (.invokevirtual 73, 3, 25, 2, 0) := by decide +kernel
theorem e15_116 {L : pj_Loc} {st : List Value} {N S : Nat} {H : pj_Heap} {o : Option Value × pj_Mem} {M' : pj_Mem} {x0 : Nat} {x1 : Int32} {r : Int32} (h4 : pj_le4 st = true) (hu : pj_isU 3 (H x0) = true) (h1 : pj_Ends 25 (0, [some (.ref x0), some (.int x1), none, none], [], (N, S, H)) (some (.int r), M')) (h2 : pj_Ends 15 (119, L, .int r :: st, M') o) : pj_Ends 15 (116, L, .int x1 :: .ref x0 :: st, (N, S, H)) o := ec_v2 q15_116 (Or.inl rfl) h4 hu rfl h1 h2
theorem q15_119 : pj_row 15 119 = some (.putfield 80, 3, 3, 12, 0) := by decide +kernel
theorem s15_119 {L : pj_Loc} {st : List Value} {N S : Nat} {H : pj_Heap} {o : Nat} {v : Value} : pj_step 15 (119, L, v :: .ref o :: st, (N, S, H)) = pj_set 122 L st (N, S, H) o (pj_fset (H o) 3 12 v) := st_putfield q15_119
theorem x15_119 {L : pj_Loc} {st : List Value} {N S : Nat} {H : pj_Heap} {o : Nat} {v : Value} {o9 : Option Value × pj_Mem} : pj_Ends 15 (119, L, v :: .ref o :: st, (N, S, H)) o9 = pj_then 15 o9 (pj_set 122 L st (N, S, H) o (pj_fset (H o) 3 12 v)) := pj_xt q15_119 rfl (pj_cl_nc rfl) (s15_119)
theorem q15_122 : pj_row 15 122 = some (.aload_n 0, 1, 0, 0, 0) := by decide +kernel
theorem s15_122 {st : List Value} {M : pj_Mem} {l : pj_Loc} {x : Nat} : pj_step 15 (122, some (.ref x) :: l, st, M) = some (123, some (.ref x) :: l, .ref x :: st, M) := st_aload_n q15_122 rfl
theorem x15_122 {st : List Value} {M : pj_Mem} {l : pj_Loc} {x : Nat} {o9 : Option Value × pj_Mem} : pj_Ends 15 (122, some (.ref x) :: l, st, M) o9 = pj_Ends 15 (123, some (.ref x) :: l, .ref x :: st, M) o9 := pj_xs (s15_122)
theorem q15_123 : pj_row 15 123 = some (.aload_n 1, 1, 0, 0, 0) := by decide +kernel
theorem s15_123 {st : List Value} {M : pj_Mem} {l : pj_Loc} {a0 : Option Value} {x : Nat} : pj_step 15 (123, a0 :: some (.ref x) :: l, st, M) = some (124, a0 :: some (.ref x) :: l, .ref x :: st, M) := st_aload_n q15_123 rfl
theorem x15_123 {st : List Value} {M : pj_Mem} {l : pj_Loc} {a0 : Option Value} {x : Nat} {o9 : Option Value × pj_Mem} : pj_Ends 15 (123, a0 :: some (.ref x) :: l, st, M) o9 = pj_Ends 15 (124, a0 :: some (.ref x) :: l, .ref x :: st, M) o9 := pj_xs (s15_123)
theorem q15_124 : pj_row 15 124 = some (.invokevirtual 83, 3, 26, 2, 0) := by decide +kernel
theorem e15_124 {L : pj_Loc} {st : List Value} {N S : Nat} {H : pj_Heap} {o : Option Value × pj_Mem} {M' : pj_Mem} {x0 : Nat} {x1 : Nat} (h4 : pj_le4 st = true) (hu : pj_isU 3 (H x0) = true) (h1 : pj_Ends 26 (0, [some (.ref x0), some (.ref x1), none], [], (N, S, H)) (none, M')) (h2 : pj_Ends 15 (127, L, st, M') o) : pj_Ends 15 (124, L, .ref x1 :: .ref x0 :: st, (N, S, H)) o := ec_v2 q15_124 (Or.inl rfl) h4 hu rfl h1 h2
theorem q15_127 : pj_row 15 127 = some (.return_, 1, 0, 0, 0) := by decide +kernel
theorem t15_127 {L : pj_Loc} {M : pj_Mem} : pj_Ends 15 (127, L, [], M) (none, M) := pj_Ends.ret q15_127 (pj_rtn_v rt15)
theorem rt16 : pj_rt 16 = none := rfl
theorem q16_0 : pj_row 16 0 = some (.aload_n 0, 1, 0, 0, 0) := by decide +kernel
theorem s16_0 {st : List Value} {M : pj_Mem} {l : pj_Loc} {x : Nat} : pj_step 16 (0, some (.ref x) :: l, st, M) = some (1, some (.ref x) :: l, .ref x :: st, M) := st_aload_n q16_0 rfl
theorem x16_0 {st : List Value} {M : pj_Mem} {l : pj_Loc} {x : Nat} {o9 : Option Value × pj_Mem} : pj_Ends 16 (0, some (.ref x) :: l, st, M) o9 = pj_Ends 16 (1, some (.ref x) :: l, .ref x :: st, M) o9 := pj_xs (s16_0)
theorem q16_1 : pj_row 16 1 = some (.aload_n 1, 1, 0, 0, 0) := by decide +kernel
theorem s16_1 {st : List Value} {M : pj_Mem} {l : pj_Loc} {a0 : Option Value} {x : Nat} : pj_step 16 (1, a0 :: some (.ref x) :: l, st, M) = some (2, a0 :: some (.ref x) :: l, .ref x :: st, M) := st_aload_n q16_1 rfl
theorem x16_1 {st : List Value} {M : pj_Mem} {l : pj_Loc} {a0 : Option Value} {x : Nat} {o9 : Option Value × pj_Mem} : pj_Ends 16 (1, a0 :: some (.ref x) :: l, st, M) o9 = pj_Ends 16 (2, a0 :: some (.ref x) :: l, .ref x :: st, M) o9 := pj_xs (s16_1)
theorem q16_2 : pj_row 16 2 = some (.getfield 86, 3, 4, 7, 0) := by decide +kernel
theorem s16_2 {L : pj_Loc} {st : List Value} {N S : Nat} {H : pj_Heap} {o : Nat} : pj_step 16 (2, L, .ref o :: st, (N, S, H)) = pj_pv 5 L st (N, S, H) (pj_fld (H o) 4 7) := st_getfield q16_2
theorem x16_2 {L : pj_Loc} {st : List Value} {N S : Nat} {H : pj_Heap} {o : Nat} {o9 : Option Value × pj_Mem} : pj_Ends 16 (2, L, .ref o :: st, (N, S, H)) o9 = pj_then 16 o9 (pj_pv 5 L st (N, S, H) (pj_fld (H o) 4 7)) := pj_xt q16_2 rfl (pj_cl_nc rfl) (s16_2)
theorem q16_5 : pj_row 16 5 = some (.putfield 89, 3, 3, 8, 0) := by decide +kernel
theorem s16_5 {L : pj_Loc} {st : List Value} {N S : Nat} {H : pj_Heap} {o : Nat} {v : Value} : pj_step 16 (5, L, v :: .ref o :: st, (N, S, H)) = pj_set 8 L st (N, S, H) o (pj_fset (H o) 3 8 v) := st_putfield q16_5
theorem x16_5 {L : pj_Loc} {st : List Value} {N S : Nat} {H : pj_Heap} {o : Nat} {v : Value} {o9 : Option Value × pj_Mem} : pj_Ends 16 (5, L, v :: .ref o :: st, (N, S, H)) o9 = pj_then 16 o9 (pj_set 8 L st (N, S, H) o (pj_fset (H o) 3 8 v)) := pj_xt q16_5 rfl (pj_cl_nc rfl) (s16_5)
theorem q16_8 : pj_row 16 8 = some (.iconst 0, 1, 0, 0, 0) := by decide +kernel
theorem s16_8 {L : pj_Loc} {st : List Value} {M : pj_Mem}  : pj_step 16 (8, L, st, M) = some (9, L, .int 0 :: st, M) := st_iconst q16_8 (by decide +kernel)
theorem x16_8 {L : pj_Loc} {st : List Value} {M : pj_Mem}  {o9 : Option Value × pj_Mem} : pj_Ends 16 (8, L, st, M) o9 = pj_Ends 16 (9, L, .int 0 :: st, M) o9 := pj_xs (s16_8)
theorem q16_9 : pj_row 16 9 = some (.istore_n 2, 1, 0, 0, 0) := by decide +kernel
theorem s16_9 {st : List Value} {M : pj_Mem} {l : pj_Loc} {a0 a1 a2 : Option Value} {x : Int32} (h : pj_long a1 = false) : pj_step 16 (9, a0 :: a1 :: a2 :: l, .int x :: st, M) = some (10, a0 :: a1 :: some (.int x) :: l, st, M) := st_istore_n q16_9 (pj_st_2 h)
theorem x16_9 {st : List Value} {M : pj_Mem} {l : pj_Loc} {a0 a1 a2 : Option Value} {x : Int32} (h : pj_long a1 = false) {o9 : Option Value × pj_Mem} : pj_Ends 16 (9, a0 :: a1 :: a2 :: l, .int x :: st, M) o9 = pj_Ends 16 (10, a0 :: a1 :: some (.int x) :: l, st, M) o9 := pj_xs (s16_9 h)
theorem q16_10 : pj_row 16 10 = some (.iload_n 2, 1, 0, 0, 0) := by decide +kernel
theorem s16_10 {st : List Value} {M : pj_Mem} {l : pj_Loc} {a0 a1 : Option Value} {x : Int32} : pj_step 16 (10, a0 :: a1 :: some (.int x) :: l, st, M) = some (11, a0 :: a1 :: some (.int x) :: l, .int x :: st, M) := st_iload_n q16_10 rfl
theorem x16_10 {st : List Value} {M : pj_Mem} {l : pj_Loc} {a0 a1 : Option Value} {x : Int32} {o9 : Option Value × pj_Mem} : pj_Ends 16 (10, a0 :: a1 :: some (.int x) :: l, st, M) o9 = pj_Ends 16 (11, a0 :: a1 :: some (.int x) :: l, .int x :: st, M) o9 := pj_xs (s16_10)
theorem q16_11 : pj_row 16 11 = some (.iconst 3, 1, 0, 0, 0) := by decide +kernel
theorem s16_11 {L : pj_Loc} {st : List Value} {M : pj_Mem}  : pj_step 16 (11, L, st, M) = some (12, L, .int 3 :: st, M) := st_iconst q16_11 (by decide +kernel)
theorem x16_11 {L : pj_Loc} {st : List Value} {M : pj_Mem}  {o9 : Option Value × pj_Mem} : pj_Ends 16 (11, L, st, M) o9 = pj_Ends 16 (12, L, .int 3 :: st, M) o9 := pj_xs (s16_11)
theorem q16_12 : pj_row 16 12 = some (.if_icmp .ge 69, 3, 81, 0, 0) := by decide +kernel
theorem s16_12 {L : pj_Loc} {st : List Value} {M : pj_Mem} {x y : Int32} : pj_step 16 (12, L, .int y :: .int x :: st, M) = some (if y ≤ x then 81 else 15, L, st, M) := st_icmp_ge q16_12
theorem x16_12 {L : pj_Loc} {st : List Value} {M : pj_Mem} {x y : Int32} {o9 : Option Value × pj_Mem} : pj_Ends 16 (12, L, .int y :: .int x :: st, M) o9 = pj_Ends 16 (if y ≤ x then 81 else 15, L, st, M) o9 := pj_xs (s16_12)
theorem q16_15 : pj_row 16 15 = some (.aload_n 0, 1, 0, 0, 0) := by decide +kernel
theorem s16_15 {st : List Value} {M : pj_Mem} {l : pj_Loc} {x : Nat} : pj_step 16 (15, some (.ref x) :: l, st, M) = some (16, some (.ref x) :: l, .ref x :: st, M) := st_aload_n q16_15 rfl
theorem x16_15 {st : List Value} {M : pj_Mem} {l : pj_Loc} {x : Nat} {o9 : Option Value × pj_Mem} : pj_Ends 16 (15, some (.ref x) :: l, st, M) o9 = pj_Ends 16 (16, some (.ref x) :: l, .ref x :: st, M) o9 := pj_xs (s16_15)
theorem q16_16 : pj_row 16 16 = some (.getfield 24, 3, 3, 4, 0) := by decide +kernel
theorem s16_16 {L : pj_Loc} {st : List Value} {N S : Nat} {H : pj_Heap} {o : Nat} : pj_step 16 (16, L, .ref o :: st, (N, S, H)) = pj_pv 19 L st (N, S, H) (pj_fld (H o) 3 4) := st_getfield q16_16
theorem x16_16 {L : pj_Loc} {st : List Value} {N S : Nat} {H : pj_Heap} {o : Nat} {o9 : Option Value × pj_Mem} : pj_Ends 16 (16, L, .ref o :: st, (N, S, H)) o9 = pj_then 16 o9 (pj_pv 19 L st (N, S, H) (pj_fld (H o) 3 4)) := pj_xt q16_16 rfl (pj_cl_nc rfl) (s16_16)
theorem q16_19 : pj_row 16 19 = some (.iload_n 2, 1, 0, 0, 0) := by decide +kernel
theorem s16_19 {st : List Value} {M : pj_Mem} {l : pj_Loc} {a0 a1 : Option Value} {x : Int32} : pj_step 16 (19, a0 :: a1 :: some (.int x) :: l, st, M) = some (20, a0 :: a1 :: some (.int x) :: l, .int x :: st, M) := st_iload_n q16_19 rfl
theorem x16_19 {st : List Value} {M : pj_Mem} {l : pj_Loc} {a0 a1 : Option Value} {x : Int32} {o9 : Option Value × pj_Mem} : pj_Ends 16 (19, a0 :: a1 :: some (.int x) :: l, st, M) o9 = pj_Ends 16 (20, a0 :: a1 :: some (.int x) :: l, .int x :: st, M) o9 := pj_xs (s16_19)
theorem q16_20 : pj_row 16 20 = some (.aload_n 1, 1, 0, 0, 0) := by decide +kernel
theorem s16_20 {st : List Value} {M : pj_Mem} {l : pj_Loc} {a0 : Option Value} {x : Nat} : pj_step 16 (20, a0 :: some (.ref x) :: l, st, M) = some (21, a0 :: some (.ref x) :: l, .ref x :: st, M) := st_aload_n q16_20 rfl
theorem x16_20 {st : List Value} {M : pj_Mem} {l : pj_Loc} {a0 : Option Value} {x : Nat} {o9 : Option Value × pj_Mem} : pj_Ends 16 (20, a0 :: some (.ref x) :: l, st, M) o9 = pj_Ends 16 (21, a0 :: some (.ref x) :: l, .ref x :: st, M) o9 := pj_xs (s16_20)
theorem q16_21 : pj_row 16 21 = some (.getfield 90, 3, 4, 4, 0) := by decide +kernel
theorem s16_21 {L : pj_Loc} {st : List Value} {N S : Nat} {H : pj_Heap} {o : Nat} : pj_step 16 (21, L, .ref o :: st, (N, S, H)) = pj_pv 24 L st (N, S, H) (pj_fld (H o) 4 4) := st_getfield q16_21
theorem x16_21 {L : pj_Loc} {st : List Value} {N S : Nat} {H : pj_Heap} {o : Nat} {o9 : Option Value × pj_Mem} : pj_Ends 16 (21, L, .ref o :: st, (N, S, H)) o9 = pj_then 16 o9 (pj_pv 24 L st (N, S, H) (pj_fld (H o) 4 4)) := pj_xt q16_21 rfl (pj_cl_nc rfl) (s16_21)
theorem q16_24 : pj_row 16 24 = some (.iload_n 2, 1, 0, 0, 0) := by decide +kernel
theorem s16_24 {st : List Value} {M : pj_Mem} {l : pj_Loc} {a0 a1 : Option Value} {x : Int32} : pj_step 16 (24, a0 :: a1 :: some (.int x) :: l, st, M) = some (25, a0 :: a1 :: some (.int x) :: l, .int x :: st, M) := st_iload_n q16_24 rfl
theorem x16_24 {st : List Value} {M : pj_Mem} {l : pj_Loc} {a0 a1 : Option Value} {x : Int32} {o9 : Option Value × pj_Mem} : pj_Ends 16 (24, a0 :: a1 :: some (.int x) :: l, st, M) o9 = pj_Ends 16 (25, a0 :: a1 :: some (.int x) :: l, .int x :: st, M) o9 := pj_xs (s16_24)
theorem q16_25 : pj_row 16 25 = some (.iaload, 1, 0, 0, 0) := by decide +kernel
theorem s16_25 {L : pj_Loc} {st : List Value} {N S : Nat} {H : pj_Heap} {o : Nat} {i : Int32} : pj_step 16 (25, L, .int i :: .ref o :: st, (N, S, H)) = pj_pi 26 L st (N, S, H) (pj_arl (H o) 0 i) := st_iaload q16_25
theorem x16_25 {L : pj_Loc} {st : List Value} {N S : Nat} {H : pj_Heap} {o : Nat} {i : Int32} {o9 : Option Value × pj_Mem} : pj_Ends 16 (25, L, .int i :: .ref o :: st, (N, S, H)) o9 = pj_then 16 o9 (pj_pi 26 L st (N, S, H) (pj_arl (H o) 0 i)) := pj_xt q16_25 rfl (pj_cl_nc rfl) (s16_25)
theorem q16_26 : pj_row 16 26 = some (.aload_n 0, 1, 0, 0, 0) := by decide +kernel
theorem s16_26 {st : List Value} {M : pj_Mem} {l : pj_Loc} {x : Nat} : pj_step 16 (26, some (.ref x) :: l, st, M) = some (27, some (.ref x) :: l, .ref x :: st, M) := st_aload_n q16_26 rfl
theorem x16_26 {st : List Value} {M : pj_Mem} {l : pj_Loc} {x : Nat} {o9 : Option Value × pj_Mem} : pj_Ends 16 (26, some (.ref x) :: l, st, M) o9 = pj_Ends 16 (27, some (.ref x) :: l, .ref x :: st, M) o9 := pj_xs (s16_26)
theorem q16_27 : pj_row 16 27 = some (.getfield 9, 3, 3, 0, 0) := by decide +kernel
theorem s16_27 {L : pj_Loc} {st : List Value} {N S : Nat} {H : pj_Heap} {o : Nat} : pj_step 16 (27, L, .ref o :: st, (N, S, H)) = pj_pv 30 L st (N, S, H) (pj_fld (H o) 3 0) := st_getfield q16_27
theorem x16_27 {L : pj_Loc} {st : List Value} {N S : Nat} {H : pj_Heap} {o : Nat} {o9 : Option Value × pj_Mem} : pj_Ends 16 (27, L, .ref o :: st, (N, S, H)) o9 = pj_then 16 o9 (pj_pv 30 L st (N, S, H) (pj_fld (H o) 3 0)) := pj_xt q16_27 rfl (pj_cl_nc rfl) (s16_27)
theorem q16_30 : pj_row 16 30 = some (.iload_n 2, 1, 0, 0, 0) := by decide +kernel
theorem s16_30 {st : List Value} {M : pj_Mem} {l : pj_Loc} {a0 a1 : Option Value} {x : Int32} : pj_step 16 (30, a0 :: a1 :: some (.int x) :: l, st, M) = some (31, a0 :: a1 :: some (.int x) :: l, .int x :: st, M) := st_iload_n q16_30 rfl
theorem x16_30 {st : List Value} {M : pj_Mem} {l : pj_Loc} {a0 a1 : Option Value} {x : Int32} {o9 : Option Value × pj_Mem} : pj_Ends 16 (30, a0 :: a1 :: some (.int x) :: l, st, M) o9 = pj_Ends 16 (31, a0 :: a1 :: some (.int x) :: l, .int x :: st, M) o9 := pj_xs (s16_30)
theorem q16_31 : pj_row 16 31 = some (.iaload, 1, 0, 0, 0) := by decide +kernel
theorem s16_31 {L : pj_Loc} {st : List Value} {N S : Nat} {H : pj_Heap} {o : Nat} {i : Int32} : pj_step 16 (31, L, .int i :: .ref o :: st, (N, S, H)) = pj_pi 32 L st (N, S, H) (pj_arl (H o) 0 i) := st_iaload q16_31
theorem x16_31 {L : pj_Loc} {st : List Value} {N S : Nat} {H : pj_Heap} {o : Nat} {i : Int32} {o9 : Option Value × pj_Mem} : pj_Ends 16 (31, L, .int i :: .ref o :: st, (N, S, H)) o9 = pj_then 16 o9 (pj_pi 32 L st (N, S, H) (pj_arl (H o) 0 i)) := pj_xt q16_31 rfl (pj_cl_nc rfl) (s16_31)
theorem q16_32 : pj_row 16 32 = some (.if_icmp .ne 14, 3, 46, 0, 0) := by decide +kernel
theorem s16_32 {L : pj_Loc} {st : List Value} {M : pj_Mem} {x y : Int32} : pj_step 16 (32, L, .int y :: .int x :: st, M) = some (if ¬ x = y then 46 else 35, L, st, M) := st_icmp_ne q16_32
theorem x16_32 {L : pj_Loc} {st : List Value} {M : pj_Mem} {x y : Int32} {o9 : Option Value × pj_Mem} : pj_Ends 16 (32, L, .int y :: .int x :: st, M) o9 = pj_Ends 16 (if ¬ x = y then 46 else 35, L, st, M) o9 := pj_xs (s16_32)
theorem q16_35 : pj_row 16 35 = some (.aload_n 1, 1, 0, 0, 0) := by decide +kernel
theorem s16_35 {st : List Value} {M : pj_Mem} {l : pj_Loc} {a0 : Option Value} {x : Nat} : pj_step 16 (35, a0 :: some (.ref x) :: l, st, M) = some (36, a0 :: some (.ref x) :: l, .ref x :: st, M) := st_aload_n q16_35 rfl
theorem x16_35 {st : List Value} {M : pj_Mem} {l : pj_Loc} {a0 : Option Value} {x : Nat} {o9 : Option Value × pj_Mem} : pj_Ends 16 (35, a0 :: some (.ref x) :: l, st, M) o9 = pj_Ends 16 (36, a0 :: some (.ref x) :: l, .ref x :: st, M) o9 := pj_xs (s16_35)
theorem q16_36 : pj_row 16 36 = some (.getfield 91, 3, 4, 3, 0) := by decide +kernel
theorem s16_36 {L : pj_Loc} {st : List Value} {N S : Nat} {H : pj_Heap} {o : Nat} : pj_step 16 (36, L, .ref o :: st, (N, S, H)) = pj_pv 39 L st (N, S, H) (pj_fld (H o) 4 3) := st_getfield q16_36
theorem x16_36 {L : pj_Loc} {st : List Value} {N S : Nat} {H : pj_Heap} {o : Nat} {o9 : Option Value × pj_Mem} : pj_Ends 16 (36, L, .ref o :: st, (N, S, H)) o9 = pj_then 16 o9 (pj_pv 39 L st (N, S, H) (pj_fld (H o) 4 3)) := pj_xt q16_36 rfl (pj_cl_nc rfl) (s16_36)
theorem q16_39 : pj_row 16 39 = some (.iload_n 2, 1, 0, 0, 0) := by decide +kernel
theorem s16_39 {st : List Value} {M : pj_Mem} {l : pj_Loc} {a0 a1 : Option Value} {x : Int32} : pj_step 16 (39, a0 :: a1 :: some (.int x) :: l, st, M) = some (40, a0 :: a1 :: some (.int x) :: l, .int x :: st, M) := st_iload_n q16_39 rfl
theorem x16_39 {st : List Value} {M : pj_Mem} {l : pj_Loc} {a0 a1 : Option Value} {x : Int32} {o9 : Option Value × pj_Mem} : pj_Ends 16 (39, a0 :: a1 :: some (.int x) :: l, st, M) o9 = pj_Ends 16 (40, a0 :: a1 :: some (.int x) :: l, .int x :: st, M) o9 := pj_xs (s16_39)
theorem q16_40 : pj_row 16 40 = some (.iaload, 1, 0, 0, 0) := by decide +kernel
theorem s16_40 {L : pj_Loc} {st : List Value} {N S : Nat} {H : pj_Heap} {o : Nat} {i : Int32} : pj_step 16 (40, L, .int i :: .ref o :: st, (N, S, H)) = pj_pi 41 L st (N, S, H) (pj_arl (H o) 0 i) := st_iaload q16_40
theorem x16_40 {L : pj_Loc} {st : List Value} {N S : Nat} {H : pj_Heap} {o : Nat} {i : Int32} {o9 : Option Value × pj_Mem} : pj_Ends 16 (40, L, .int i :: .ref o :: st, (N, S, H)) o9 = pj_then 16 o9 (pj_pi 41 L st (N, S, H) (pj_arl (H o) 0 i)) := pj_xt q16_40 rfl (pj_cl_nc rfl) (s16_40)
theorem q16_41 : pj_row 16 41 = some (.iconst 1, 1, 0, 0, 0) := by decide +kernel
theorem s16_41 {L : pj_Loc} {st : List Value} {M : pj_Mem}  : pj_step 16 (41, L, st, M) = some (42, L, .int 1 :: st, M) := st_iconst q16_41 (by decide +kernel)
theorem x16_41 {L : pj_Loc} {st : List Value} {M : pj_Mem}  {o9 : Option Value × pj_Mem} : pj_Ends 16 (41, L, st, M) o9 = pj_Ends 16 (42, L, .int 1 :: st, M) o9 := pj_xs (s16_41)
theorem q16_42 : pj_row 16 42 = some (.iadd, 1, 0, 0, 0) := by decide +kernel
theorem s16_42 {L : pj_Loc} {st : List Value} {M : pj_Mem} {x y : Int32} : pj_step 16 (42, L, .int y :: .int x :: st, M) = some (43, L, .int (x + y) :: st, M) := st_iadd q16_42
theorem x16_42 {L : pj_Loc} {st : List Value} {M : pj_Mem} {x y : Int32} {o9 : Option Value × pj_Mem} : pj_Ends 16 (42, L, .int y :: .int x :: st, M) o9 = pj_Ends 16 (43, L, .int (x + y) :: st, M) o9 := pj_xs (s16_42)
theorem q16_43 : pj_row 16 43 = some (.goto 4, 3, 47, 0, 0) := by decide +kernel
theorem s16_43 {L : pj_Loc} {st : List Value} {M : pj_Mem}  : pj_step 16 (43, L, st, M) = some (47, L, st, M) := st_goto q16_43
theorem x16_43 {L : pj_Loc} {st : List Value} {M : pj_Mem}  {o9 : Option Value × pj_Mem} : pj_Ends 16 (43, L, st, M) o9 = pj_Ends 16 (47, L, st, M) o9 := pj_xs (s16_43)
theorem q16_46 : pj_row 16 46 = some (.iconst 1, 1, 0, 0, 0) := by decide +kernel
theorem s16_46 {L : pj_Loc} {st : List Value} {M : pj_Mem}  : pj_step 16 (46, L, st, M) = some (47, L, .int 1 :: st, M) := st_iconst q16_46 (by decide +kernel)
theorem x16_46 {L : pj_Loc} {st : List Value} {M : pj_Mem}  {o9 : Option Value × pj_Mem} : pj_Ends 16 (46, L, st, M) o9 = pj_Ends 16 (47, L, .int 1 :: st, M) o9 := pj_xs (s16_46)
theorem q16_47 : pj_row 16 47 = some (.iastore, 1, 0, 0, 0) := by decide +kernel
theorem s16_47 {L : pj_Loc} {st : List Value} {N S : Nat} {H : pj_Heap} {o : Nat} {i x : Int32} : pj_step 16 (47, L, .int x :: .int i :: .ref o :: st, (N, S, H)) = pj_set 48 L st (N, S, H) o (pj_ars (H o) 0 i x) := st_iastore q16_47
theorem x16_47 {L : pj_Loc} {st : List Value} {N S : Nat} {H : pj_Heap} {o : Nat} {i x : Int32} {o9 : Option Value × pj_Mem} : pj_Ends 16 (47, L, .int x :: .int i :: .ref o :: st, (N, S, H)) o9 = pj_then 16 o9 (pj_set 48 L st (N, S, H) o (pj_ars (H o) 0 i x)) := pj_xt q16_47 rfl (pj_cl_nc rfl) (s16_47)
theorem q16_48 : pj_row 16 48 = some (.aload_n 0, 1, 0, 0, 0) := by decide +kernel
theorem s16_48 {st : List Value} {M : pj_Mem} {l : pj_Loc} {x : Nat} : pj_step 16 (48, some (.ref x) :: l, st, M) = some (49, some (.ref x) :: l, .ref x :: st, M) := st_aload_n q16_48 rfl
theorem x16_48 {st : List Value} {M : pj_Mem} {l : pj_Loc} {x : Nat} {o9 : Option Value × pj_Mem} : pj_Ends 16 (48, some (.ref x) :: l, st, M) o9 = pj_Ends 16 (49, some (.ref x) :: l, .ref x :: st, M) o9 := pj_xs (s16_48)
theorem q16_49 : pj_row 16 49 = some (.getfield 24, 3, 3, 4, 0) := by decide +kernel
theorem s16_49 {L : pj_Loc} {st : List Value} {N S : Nat} {H : pj_Heap} {o : Nat} : pj_step 16 (49, L, .ref o :: st, (N, S, H)) = pj_pv 52 L st (N, S, H) (pj_fld (H o) 3 4) := st_getfield q16_49
theorem x16_49 {L : pj_Loc} {st : List Value} {N S : Nat} {H : pj_Heap} {o : Nat} {o9 : Option Value × pj_Mem} : pj_Ends 16 (49, L, .ref o :: st, (N, S, H)) o9 = pj_then 16 o9 (pj_pv 52 L st (N, S, H) (pj_fld (H o) 3 4)) := pj_xt q16_49 rfl (pj_cl_nc rfl) (s16_49)
theorem q16_52 : pj_row 16 52 = some (.iload_n 2, 1, 0, 0, 0) := by decide +kernel
theorem s16_52 {st : List Value} {M : pj_Mem} {l : pj_Loc} {a0 a1 : Option Value} {x : Int32} : pj_step 16 (52, a0 :: a1 :: some (.int x) :: l, st, M) = some (53, a0 :: a1 :: some (.int x) :: l, .int x :: st, M) := st_iload_n q16_52 rfl
theorem x16_52 {st : List Value} {M : pj_Mem} {l : pj_Loc} {a0 a1 : Option Value} {x : Int32} {o9 : Option Value × pj_Mem} : pj_Ends 16 (52, a0 :: a1 :: some (.int x) :: l, st, M) o9 = pj_Ends 16 (53, a0 :: a1 :: some (.int x) :: l, .int x :: st, M) o9 := pj_xs (s16_52)
theorem q16_53 : pj_row 16 53 = some (.iaload, 1, 0, 0, 0) := by decide +kernel
theorem s16_53 {L : pj_Loc} {st : List Value} {N S : Nat} {H : pj_Heap} {o : Nat} {i : Int32} : pj_step 16 (53, L, .int i :: .ref o :: st, (N, S, H)) = pj_pi 54 L st (N, S, H) (pj_arl (H o) 0 i) := st_iaload q16_53
theorem x16_53 {L : pj_Loc} {st : List Value} {N S : Nat} {H : pj_Heap} {o : Nat} {i : Int32} {o9 : Option Value × pj_Mem} : pj_Ends 16 (53, L, .int i :: .ref o :: st, (N, S, H)) o9 = pj_then 16 o9 (pj_pi 54 L st (N, S, H) (pj_arl (H o) 0 i)) := pj_xt q16_53 rfl (pj_cl_nc rfl) (s16_53)
theorem q16_54 : pj_row 16 54 = some (.aload_n 1, 1, 0, 0, 0) := by decide +kernel
theorem s16_54 {st : List Value} {M : pj_Mem} {l : pj_Loc} {a0 : Option Value} {x : Nat} : pj_step 16 (54, a0 :: some (.ref x) :: l, st, M) = some (55, a0 :: some (.ref x) :: l, .ref x :: st, M) := st_aload_n q16_54 rfl
theorem x16_54 {st : List Value} {M : pj_Mem} {l : pj_Loc} {a0 : Option Value} {x : Nat} {o9 : Option Value × pj_Mem} : pj_Ends 16 (54, a0 :: some (.ref x) :: l, st, M) o9 = pj_Ends 16 (55, a0 :: some (.ref x) :: l, .ref x :: st, M) o9 := pj_xs (s16_54)
theorem q16_55 : pj_row 16 55 = some (.getfield 50, 3, 4, 0, 0) := by decide +kernel
theorem s16_55 {L : pj_Loc} {st : List Value} {N S : Nat} {H : pj_Heap} {o : Nat} : pj_step 16 (55, L, .ref o :: st, (N, S, H)) = pj_pv 58 L st (N, S, H) (pj_fld (H o) 4 0) := st_getfield q16_55
theorem x16_55 {L : pj_Loc} {st : List Value} {N S : Nat} {H : pj_Heap} {o : Nat} {o9 : Option Value × pj_Mem} : pj_Ends 16 (55, L, .ref o :: st, (N, S, H)) o9 = pj_then 16 o9 (pj_pv 58 L st (N, S, H) (pj_fld (H o) 4 0)) := pj_xt q16_55 rfl (pj_cl_nc rfl) (s16_55)
theorem q16_58 : pj_row 16 58 = some (.iconst 3, 1, 0, 0, 0) := by decide +kernel
theorem s16_58 {L : pj_Loc} {st : List Value} {M : pj_Mem}  : pj_step 16 (58, L, st, M) = some (59, L, .int 3 :: st, M) := st_iconst q16_58 (by decide +kernel)
theorem x16_58 {L : pj_Loc} {st : List Value} {M : pj_Mem}  {o9 : Option Value × pj_Mem} : pj_Ends 16 (58, L, st, M) o9 = pj_Ends 16 (59, L, .int 3 :: st, M) o9 := pj_xs (s16_58)
theorem q16_59 : pj_row 16 59 = some (.iaload, 1, 0, 0, 0) := by decide +kernel
theorem s16_59 {L : pj_Loc} {st : List Value} {N S : Nat} {H : pj_Heap} {o : Nat} {i : Int32} : pj_step 16 (59, L, .int i :: .ref o :: st, (N, S, H)) = pj_pi 60 L st (N, S, H) (pj_arl (H o) 0 i) := st_iaload q16_59
theorem x16_59 {L : pj_Loc} {st : List Value} {N S : Nat} {H : pj_Heap} {o : Nat} {i : Int32} {o9 : Option Value × pj_Mem} : pj_Ends 16 (59, L, .int i :: .ref o :: st, (N, S, H)) o9 = pj_then 16 o9 (pj_pi 60 L st (N, S, H) (pj_arl (H o) 0 i)) := pj_xt q16_59 rfl (pj_cl_nc rfl) (s16_59)
theorem q16_60 : pj_row 16 60 = some (.if_icmp .lt 15, 3, 75, 0, 0) := by decide +kernel
theorem s16_60 {L : pj_Loc} {st : List Value} {M : pj_Mem} {x y : Int32} : pj_step 16 (60, L, .int y :: .int x :: st, M) = some (if x < y then 75 else 63, L, st, M) := st_icmp_lt q16_60
theorem x16_60 {L : pj_Loc} {st : List Value} {M : pj_Mem} {x y : Int32} {o9 : Option Value × pj_Mem} : pj_Ends 16 (60, L, .int y :: .int x :: st, M) o9 = pj_Ends 16 (if x < y then 75 else 63, L, st, M) o9 := pj_xs (s16_60)
theorem q16_63 : pj_row 16 63 = some (.aload_n 0, 1, 0, 0, 0) := by decide +kernel
theorem s16_63 {st : List Value} {M : pj_Mem} {l : pj_Loc} {x : Nat} : pj_step 16 (63, some (.ref x) :: l, st, M) = some (64, some (.ref x) :: l, .ref x :: st, M) := st_aload_n q16_63 rfl
theorem x16_63 {st : List Value} {M : pj_Mem} {l : pj_Loc} {x : Nat} {o9 : Option Value × pj_Mem} : pj_Ends 16 (63, some (.ref x) :: l, st, M) o9 = pj_Ends 16 (64, some (.ref x) :: l, .ref x :: st, M) o9 := pj_xs (s16_63)
theorem q16_64 : pj_row 16 64 = some (.aload_n 0, 1, 0, 0, 0) := by decide +kernel
theorem s16_64 {st : List Value} {M : pj_Mem} {l : pj_Loc} {x : Nat} : pj_step 16 (64, some (.ref x) :: l, st, M) = some (65, some (.ref x) :: l, .ref x :: st, M) := st_aload_n q16_64 rfl
theorem x16_64 {st : List Value} {M : pj_Mem} {l : pj_Loc} {x : Nat} {o9 : Option Value × pj_Mem} : pj_Ends 16 (64, some (.ref x) :: l, st, M) o9 = pj_Ends 16 (65, some (.ref x) :: l, .ref x :: st, M) o9 := pj_xs (s16_64)
theorem q16_65 : pj_row 16 65 = some (.getfield 89, 3, 3, 8, 0) := by decide +kernel
theorem s16_65 {L : pj_Loc} {st : List Value} {N S : Nat} {H : pj_Heap} {o : Nat} : pj_step 16 (65, L, .ref o :: st, (N, S, H)) = pj_pv 68 L st (N, S, H) (pj_fld (H o) 3 8) := st_getfield q16_65
theorem x16_65 {L : pj_Loc} {st : List Value} {N S : Nat} {H : pj_Heap} {o : Nat} {o9 : Option Value × pj_Mem} : pj_Ends 16 (65, L, .ref o :: st, (N, S, H)) o9 = pj_then 16 o9 (pj_pv 68 L st (N, S, H) (pj_fld (H o) 3 8)) := pj_xt q16_65 rfl (pj_cl_nc rfl) (s16_65)
theorem q16_68 : pj_row 16 68 = some (.iload_n 2, 1, 0, 0, 0) := by decide +kernel
theorem s16_68 {st : List Value} {M : pj_Mem} {l : pj_Loc} {a0 a1 : Option Value} {x : Int32} : pj_step 16 (68, a0 :: a1 :: some (.int x) :: l, st, M) = some (69, a0 :: a1 :: some (.int x) :: l, .int x :: st, M) := st_iload_n q16_68 rfl
theorem x16_68 {st : List Value} {M : pj_Mem} {l : pj_Loc} {a0 a1 : Option Value} {x : Int32} {o9 : Option Value × pj_Mem} : pj_Ends 16 (68, a0 :: a1 :: some (.int x) :: l, st, M) o9 = pj_Ends 16 (69, a0 :: a1 :: some (.int x) :: l, .int x :: st, M) o9 := pj_xs (s16_68)
theorem q16_69 : pj_row 16 69 = some (.invokestatic 92, 3, 17, 2, 1) := by decide +kernel
theorem e16_69 {L : pj_Loc} {st : List Value} {N S : Nat} {H : pj_Heap} {o : Option Value × pj_Mem} {M' : pj_Mem} {x0 : Int32} {x1 : Int32} {r : Int32} (h4 : pj_le4 st = true) (h1 : pj_Ends 17 (0, [some (.int x0), some (.int x1)], [], (N, S, H)) (some (.int r), M')) (h2 : pj_Ends 16 (72, L, .int r :: st, M') o) : pj_Ends 16 (69, L, .int x1 :: .int x0 :: st, (N, S, H)) o := ec_s2 q16_69 (Or.inr rfl) h4 rfl h1 h2
theorem q16_72 : pj_row 16 72 = some (.putfield 89, 3, 3, 8, 0) := by decide +kernel
theorem s16_72 {L : pj_Loc} {st : List Value} {N S : Nat} {H : pj_Heap} {o : Nat} {v : Value} : pj_step 16 (72, L, v :: .ref o :: st, (N, S, H)) = pj_set 75 L st (N, S, H) o (pj_fset (H o) 3 8 v) := st_putfield q16_72
theorem x16_72 {L : pj_Loc} {st : List Value} {N S : Nat} {H : pj_Heap} {o : Nat} {v : Value} {o9 : Option Value × pj_Mem} : pj_Ends 16 (72, L, v :: .ref o :: st, (N, S, H)) o9 = pj_then 16 o9 (pj_set 75 L st (N, S, H) o (pj_fset (H o) 3 8 v)) := pj_xt q16_72 rfl (pj_cl_nc rfl) (s16_72)
theorem q16_75 : pj_row 16 75 = some (.iinc 2 1, 3, 0, 0, 0) := by decide +kernel
theorem s16_75 {st : List Value} {M : pj_Mem} {l : pj_Loc} {a0 a1 : Option Value} {x : Int32} (h : pj_long a1 = false) : pj_step 16 (75, a0 :: a1 :: some (.int x) :: l, st, M) = some (78, a0 :: a1 :: some (.int (x + 1)) :: l, st, M) := st_iinc q16_75 rfl (congrArg (fun y => x + y) (show Int32.ofInt 1 = 1 by decide +kernel)) (pj_st_2 h)
theorem x16_75 {st : List Value} {M : pj_Mem} {l : pj_Loc} {a0 a1 : Option Value} {x : Int32} (h : pj_long a1 = false) {o9 : Option Value × pj_Mem} : pj_Ends 16 (75, a0 :: a1 :: some (.int x) :: l, st, M) o9 = pj_Ends 16 (78, a0 :: a1 :: some (.int (x + 1)) :: l, st, M) o9 := pj_xs (s16_75 h)
theorem q16_78 : pj_row 16 78 = some (.goto (-68), 3, 10, 0, 0) := by decide +kernel
theorem s16_78 {L : pj_Loc} {st : List Value} {M : pj_Mem}  : pj_step 16 (78, L, st, M) = some (10, L, st, M) := st_goto q16_78
theorem x16_78 {L : pj_Loc} {st : List Value} {M : pj_Mem}  {o9 : Option Value × pj_Mem} : pj_Ends 16 (78, L, st, M) o9 = pj_Ends 16 (10, L, st, M) o9 := pj_xs (s16_78)
theorem q16_81 : pj_row 16 81 = some (.return_, 1, 0, 0, 0) := by decide +kernel
theorem t16_81 {L : pj_Loc} {M : pj_Mem} : pj_Ends 16 (81, L, [], M) (none, M) := pj_Ends.ret q16_81 (pj_rtn_v rt16)
theorem rt17 : pj_rt 17 = some .int := rfl
theorem q17_0 : pj_row 17 0 = some (.iload_n 0, 1, 0, 0, 0) := by decide +kernel
theorem s17_0 {st : List Value} {M : pj_Mem} {l : pj_Loc} {x : Int32} : pj_step 17 (0, some (.int x) :: l, st, M) = some (1, some (.int x) :: l, .int x :: st, M) := st_iload_n q17_0 rfl
theorem x17_0 {st : List Value} {M : pj_Mem} {l : pj_Loc} {x : Int32} {o9 : Option Value × pj_Mem} : pj_Ends 17 (0, some (.int x) :: l, st, M) o9 = pj_Ends 17 (1, some (.int x) :: l, .int x :: st, M) o9 := pj_xs (s17_0)
theorem q17_1 : pj_row 17 1 = some (.iconst 1, 1, 0, 0, 0) := by decide +kernel
theorem s17_1 {L : pj_Loc} {st : List Value} {M : pj_Mem}  : pj_step 17 (1, L, st, M) = some (2, L, .int 1 :: st, M) := st_iconst q17_1 (by decide +kernel)
theorem x17_1 {L : pj_Loc} {st : List Value} {M : pj_Mem}  {o9 : Option Value × pj_Mem} : pj_Ends 17 (1, L, st, M) o9 = pj_Ends 17 (2, L, .int 1 :: st, M) o9 := pj_xs (s17_1)
theorem q17_2 : pj_row 17 2 = some (.iload_n 1, 1, 0, 0, 0) := by decide +kernel
theorem s17_2 {st : List Value} {M : pj_Mem} {l : pj_Loc} {a0 : Option Value} {x : Int32} : pj_step 17 (2, a0 :: some (.int x) :: l, st, M) = some (3, a0 :: some (.int x) :: l, .int x :: st, M) := st_iload_n q17_2 rfl
theorem x17_2 {st : List Value} {M : pj_Mem} {l : pj_Loc} {a0 : Option Value} {x : Int32} {o9 : Option Value × pj_Mem} : pj_Ends 17 (2, a0 :: some (.int x) :: l, st, M) o9 = pj_Ends 17 (3, a0 :: some (.int x) :: l, .int x :: st, M) o9 := pj_xs (s17_2)
theorem q17_3 : pj_row 17 3 = some (.ishl, 1, 0, 0, 0) := by decide +kernel
theorem s17_3 {L : pj_Loc} {st : List Value} {M : pj_Mem} {x y : Int32} : pj_step 17 (3, L, .int y :: .int x :: st, M) = some (4, L, .int (x <<< (y &&& 31)) :: st, M) := st_ishl q17_3
theorem x17_3 {L : pj_Loc} {st : List Value} {M : pj_Mem} {x y : Int32} {o9 : Option Value × pj_Mem} : pj_Ends 17 (3, L, .int y :: .int x :: st, M) o9 = pj_Ends 17 (4, L, .int (x <<< (y &&& 31)) :: st, M) o9 := pj_xs (s17_3)
theorem q17_4 : pj_row 17 4 = some (.iconst (-1), 1, 0, 0, 0) := by decide +kernel
theorem s17_4 {L : pj_Loc} {st : List Value} {M : pj_Mem}  : pj_step 17 (4, L, st, M) = some (5, L, .int (-1) :: st, M) := st_iconst q17_4 (by decide +kernel)
theorem x17_4 {L : pj_Loc} {st : List Value} {M : pj_Mem}  {o9 : Option Value × pj_Mem} : pj_Ends 17 (4, L, st, M) o9 = pj_Ends 17 (5, L, .int (-1) :: st, M) o9 := pj_xs (s17_4)
theorem q17_5 : pj_row 17 5 = some (.ixor, 1, 0, 0, 0) := by decide +kernel
theorem s17_5 {L : pj_Loc} {st : List Value} {M : pj_Mem} {x y : Int32} : pj_step 17 (5, L, .int y :: .int x :: st, M) = some (6, L, .int (x ^^^ y) :: st, M) := st_ixor q17_5
theorem x17_5 {L : pj_Loc} {st : List Value} {M : pj_Mem} {x y : Int32} {o9 : Option Value × pj_Mem} : pj_Ends 17 (5, L, .int y :: .int x :: st, M) o9 = pj_Ends 17 (6, L, .int (x ^^^ y) :: st, M) o9 := pj_xs (s17_5)
theorem q17_6 : pj_row 17 6 = some (.iand, 1, 0, 0, 0) := by decide +kernel
theorem s17_6 {L : pj_Loc} {st : List Value} {M : pj_Mem} {x y : Int32} : pj_step 17 (6, L, .int y :: .int x :: st, M) = some (7, L, .int (x &&& y) :: st, M) := st_iand q17_6
theorem x17_6 {L : pj_Loc} {st : List Value} {M : pj_Mem} {x y : Int32} {o9 : Option Value × pj_Mem} : pj_Ends 17 (6, L, .int y :: .int x :: st, M) o9 = pj_Ends 17 (7, L, .int (x &&& y) :: st, M) o9 := pj_xs (s17_6)
theorem q17_7 : pj_row 17 7 = some (.ireturn, 1, 0, 0, 0) := by decide +kernel
theorem t17_7 {L : pj_Loc} {M : pj_Mem} {v : Int32} : pj_Ends 17 (7, L, [.int v], M) (some (.int v), M) := pj_Ends.ret q17_7 (pj_rtn_i rt17)
theorem rt18 : pj_rt 18 = none := rfl
theorem q18_0 : pj_row 18 0 = some (.iconst 0, 1, 0, 0, 0) := by decide +kernel
theorem s18_0 {L : pj_Loc} {st : List Value} {M : pj_Mem}  : pj_step 18 (0, L, st, M) = some (1, L, .int 0 :: st, M) := st_iconst q18_0 (by decide +kernel)
theorem x18_0 {L : pj_Loc} {st : List Value} {M : pj_Mem}  {o9 : Option Value × pj_Mem} : pj_Ends 18 (0, L, st, M) o9 = pj_Ends 18 (1, L, .int 0 :: st, M) o9 := pj_xs (s18_0)
theorem q18_1 : pj_row 18 1 = some (.istore_n 2, 1, 0, 0, 0) := by decide +kernel
theorem s18_1 {st : List Value} {M : pj_Mem} {l : pj_Loc} {a0 a1 a2 : Option Value} {x : Int32} (h : pj_long a1 = false) : pj_step 18 (1, a0 :: a1 :: a2 :: l, .int x :: st, M) = some (2, a0 :: a1 :: some (.int x) :: l, st, M) := st_istore_n q18_1 (pj_st_2 h)
theorem x18_1 {st : List Value} {M : pj_Mem} {l : pj_Loc} {a0 a1 a2 : Option Value} {x : Int32} (h : pj_long a1 = false) {o9 : Option Value × pj_Mem} : pj_Ends 18 (1, a0 :: a1 :: a2 :: l, .int x :: st, M) o9 = pj_Ends 18 (2, a0 :: a1 :: some (.int x) :: l, st, M) o9 := pj_xs (s18_1 h)
theorem q18_2 : pj_row 18 2 = some (.iload_n 2, 1, 0, 0, 0) := by decide +kernel
theorem s18_2 {st : List Value} {M : pj_Mem} {l : pj_Loc} {a0 a1 : Option Value} {x : Int32} : pj_step 18 (2, a0 :: a1 :: some (.int x) :: l, st, M) = some (3, a0 :: a1 :: some (.int x) :: l, .int x :: st, M) := st_iload_n q18_2 rfl
theorem x18_2 {st : List Value} {M : pj_Mem} {l : pj_Loc} {a0 a1 : Option Value} {x : Int32} {o9 : Option Value × pj_Mem} : pj_Ends 18 (2, a0 :: a1 :: some (.int x) :: l, st, M) o9 = pj_Ends 18 (3, a0 :: a1 :: some (.int x) :: l, .int x :: st, M) o9 := pj_xs (s18_2)
theorem q18_3 : pj_row 18 3 = some (.iconst 3, 1, 0, 0, 0) := by decide +kernel
theorem s18_3 {L : pj_Loc} {st : List Value} {M : pj_Mem}  : pj_step 18 (3, L, st, M) = some (4, L, .int 3 :: st, M) := st_iconst q18_3 (by decide +kernel)
theorem x18_3 {L : pj_Loc} {st : List Value} {M : pj_Mem}  {o9 : Option Value × pj_Mem} : pj_Ends 18 (3, L, st, M) o9 = pj_Ends 18 (4, L, .int 3 :: st, M) o9 := pj_xs (s18_3)
theorem q18_4 : pj_row 18 4 = some (.if_icmp .ge 28, 3, 32, 0, 0) := by decide +kernel
theorem s18_4 {L : pj_Loc} {st : List Value} {M : pj_Mem} {x y : Int32} : pj_step 18 (4, L, .int y :: .int x :: st, M) = some (if y ≤ x then 32 else 7, L, st, M) := st_icmp_ge q18_4
theorem x18_4 {L : pj_Loc} {st : List Value} {M : pj_Mem} {x y : Int32} {o9 : Option Value × pj_Mem} : pj_Ends 18 (4, L, .int y :: .int x :: st, M) o9 = pj_Ends 18 (if y ≤ x then 32 else 7, L, st, M) o9 := pj_xs (s18_4)
theorem q18_7 : pj_row 18 7 = some (.aload_n 0, 1, 0, 0, 0) := by decide +kernel
theorem s18_7 {st : List Value} {M : pj_Mem} {l : pj_Loc} {x : Nat} : pj_step 18 (7, some (.ref x) :: l, st, M) = some (8, some (.ref x) :: l, .ref x :: st, M) := st_aload_n q18_7 rfl
theorem x18_7 {st : List Value} {M : pj_Mem} {l : pj_Loc} {x : Nat} {o9 : Option Value × pj_Mem} : pj_Ends 18 (7, some (.ref x) :: l, st, M) o9 = pj_Ends 18 (8, some (.ref x) :: l, .ref x :: st, M) o9 := pj_xs (s18_7)
theorem q18_8 : pj_row 18 8 = some (.getfield 15, 3, 3, 1, 0) := by decide +kernel
theorem s18_8 {L : pj_Loc} {st : List Value} {N S : Nat} {H : pj_Heap} {o : Nat} : pj_step 18 (8, L, .ref o :: st, (N, S, H)) = pj_pv 11 L st (N, S, H) (pj_fld (H o) 3 1) := st_getfield q18_8
theorem x18_8 {L : pj_Loc} {st : List Value} {N S : Nat} {H : pj_Heap} {o : Nat} {o9 : Option Value × pj_Mem} : pj_Ends 18 (8, L, .ref o :: st, (N, S, H)) o9 = pj_then 18 o9 (pj_pv 11 L st (N, S, H) (pj_fld (H o) 3 1)) := pj_xt q18_8 rfl (pj_cl_nc rfl) (s18_8)
theorem q18_11 : pj_row 18 11 = some (.iload_n 2, 1, 0, 0, 0) := by decide +kernel
theorem s18_11 {st : List Value} {M : pj_Mem} {l : pj_Loc} {a0 a1 : Option Value} {x : Int32} : pj_step 18 (11, a0 :: a1 :: some (.int x) :: l, st, M) = some (12, a0 :: a1 :: some (.int x) :: l, .int x :: st, M) := st_iload_n q18_11 rfl
theorem x18_11 {st : List Value} {M : pj_Mem} {l : pj_Loc} {a0 a1 : Option Value} {x : Int32} {o9 : Option Value × pj_Mem} : pj_Ends 18 (11, a0 :: a1 :: some (.int x) :: l, st, M) o9 = pj_Ends 18 (12, a0 :: a1 :: some (.int x) :: l, .int x :: st, M) o9 := pj_xs (s18_11)
theorem q18_12 : pj_row 18 12 = some (.aload_n 0, 1, 0, 0, 0) := by decide +kernel
theorem s18_12 {st : List Value} {M : pj_Mem} {l : pj_Loc} {x : Nat} : pj_step 18 (12, some (.ref x) :: l, st, M) = some (13, some (.ref x) :: l, .ref x :: st, M) := st_aload_n q18_12 rfl
theorem x18_12 {st : List Value} {M : pj_Mem} {l : pj_Loc} {x : Nat} {o9 : Option Value × pj_Mem} : pj_Ends 18 (12, some (.ref x) :: l, st, M) o9 = pj_Ends 18 (13, some (.ref x) :: l, .ref x :: st, M) o9 := pj_xs (s18_12)
theorem q18_13 : pj_row 18 13 = some (.getfield 9, 3, 3, 0, 0) := by decide +kernel
theorem s18_13 {L : pj_Loc} {st : List Value} {N S : Nat} {H : pj_Heap} {o : Nat} : pj_step 18 (13, L, .ref o :: st, (N, S, H)) = pj_pv 16 L st (N, S, H) (pj_fld (H o) 3 0) := st_getfield q18_13
theorem x18_13 {L : pj_Loc} {st : List Value} {N S : Nat} {H : pj_Heap} {o : Nat} {o9 : Option Value × pj_Mem} : pj_Ends 18 (13, L, .ref o :: st, (N, S, H)) o9 = pj_then 18 o9 (pj_pv 16 L st (N, S, H) (pj_fld (H o) 3 0)) := pj_xt q18_13 rfl (pj_cl_nc rfl) (s18_13)
theorem q18_16 : pj_row 18 16 = some (.iload_n 2, 1, 0, 0, 0) := by decide +kernel
theorem s18_16 {st : List Value} {M : pj_Mem} {l : pj_Loc} {a0 a1 : Option Value} {x : Int32} : pj_step 18 (16, a0 :: a1 :: some (.int x) :: l, st, M) = some (17, a0 :: a1 :: some (.int x) :: l, .int x :: st, M) := st_iload_n q18_16 rfl
theorem x18_16 {st : List Value} {M : pj_Mem} {l : pj_Loc} {a0 a1 : Option Value} {x : Int32} {o9 : Option Value × pj_Mem} : pj_Ends 18 (16, a0 :: a1 :: some (.int x) :: l, st, M) o9 = pj_Ends 18 (17, a0 :: a1 :: some (.int x) :: l, .int x :: st, M) o9 := pj_xs (s18_16)
theorem q18_17 : pj_row 18 17 = some (.iaload, 1, 0, 0, 0) := by decide +kernel
theorem s18_17 {L : pj_Loc} {st : List Value} {N S : Nat} {H : pj_Heap} {o : Nat} {i : Int32} : pj_step 18 (17, L, .int i :: .ref o :: st, (N, S, H)) = pj_pi 18 L st (N, S, H) (pj_arl (H o) 0 i) := st_iaload q18_17
theorem x18_17 {L : pj_Loc} {st : List Value} {N S : Nat} {H : pj_Heap} {o : Nat} {i : Int32} {o9 : Option Value × pj_Mem} : pj_Ends 18 (17, L, .int i :: .ref o :: st, (N, S, H)) o9 = pj_then 18 o9 (pj_pi 18 L st (N, S, H) (pj_arl (H o) 0 i)) := pj_xt q18_17 rfl (pj_cl_nc rfl) (s18_17)
theorem q18_18 : pj_row 18 18 = some (.aload_n 1, 1, 0, 0, 0) := by decide +kernel
theorem s18_18 {st : List Value} {M : pj_Mem} {l : pj_Loc} {a0 : Option Value} {x : Nat} : pj_step 18 (18, a0 :: some (.ref x) :: l, st, M) = some (19, a0 :: some (.ref x) :: l, .ref x :: st, M) := st_aload_n q18_18 rfl
theorem x18_18 {st : List Value} {M : pj_Mem} {l : pj_Loc} {a0 : Option Value} {x : Nat} {o9 : Option Value × pj_Mem} : pj_Ends 18 (18, a0 :: some (.ref x) :: l, st, M) o9 = pj_Ends 18 (19, a0 :: some (.ref x) :: l, .ref x :: st, M) o9 := pj_xs (s18_18)
theorem q18_19 : pj_row 18 19 = some (.getfield 95, 3, 4, 1, 0) := by decide +kernel
theorem s18_19 {L : pj_Loc} {st : List Value} {N S : Nat} {H : pj_Heap} {o : Nat} : pj_step 18 (19, L, .ref o :: st, (N, S, H)) = pj_pv 22 L st (N, S, H) (pj_fld (H o) 4 1) := st_getfield q18_19
theorem x18_19 {L : pj_Loc} {st : List Value} {N S : Nat} {H : pj_Heap} {o : Nat} {o9 : Option Value × pj_Mem} : pj_Ends 18 (19, L, .ref o :: st, (N, S, H)) o9 = pj_then 18 o9 (pj_pv 22 L st (N, S, H) (pj_fld (H o) 4 1)) := pj_xt q18_19 rfl (pj_cl_nc rfl) (s18_19)
theorem q18_22 : pj_row 18 22 = some (.iload_n 2, 1, 0, 0, 0) := by decide +kernel
theorem s18_22 {st : List Value} {M : pj_Mem} {l : pj_Loc} {a0 a1 : Option Value} {x : Int32} : pj_step 18 (22, a0 :: a1 :: some (.int x) :: l, st, M) = some (23, a0 :: a1 :: some (.int x) :: l, .int x :: st, M) := st_iload_n q18_22 rfl
theorem x18_22 {st : List Value} {M : pj_Mem} {l : pj_Loc} {a0 a1 : Option Value} {x : Int32} {o9 : Option Value × pj_Mem} : pj_Ends 18 (22, a0 :: a1 :: some (.int x) :: l, st, M) o9 = pj_Ends 18 (23, a0 :: a1 :: some (.int x) :: l, .int x :: st, M) o9 := pj_xs (s18_22)
theorem q18_23 : pj_row 18 23 = some (.iaload, 1, 0, 0, 0) := by decide +kernel
theorem s18_23 {L : pj_Loc} {st : List Value} {N S : Nat} {H : pj_Heap} {o : Nat} {i : Int32} : pj_step 18 (23, L, .int i :: .ref o :: st, (N, S, H)) = pj_pi 24 L st (N, S, H) (pj_arl (H o) 0 i) := st_iaload q18_23
theorem x18_23 {L : pj_Loc} {st : List Value} {N S : Nat} {H : pj_Heap} {o : Nat} {i : Int32} {o9 : Option Value × pj_Mem} : pj_Ends 18 (23, L, .int i :: .ref o :: st, (N, S, H)) o9 = pj_then 18 o9 (pj_pi 24 L st (N, S, H) (pj_arl (H o) 0 i)) := pj_xt q18_23 rfl (pj_cl_nc rfl) (s18_23)
theorem q18_24 : pj_row 18 24 = some (.isub, 1, 0, 0, 0) := by decide +kernel
theorem s18_24 {L : pj_Loc} {st : List Value} {M : pj_Mem} {x y : Int32} : pj_step 18 (24, L, .int y :: .int x :: st, M) = some (25, L, .int (x - y) :: st, M) := st_isub q18_24
theorem x18_24 {L : pj_Loc} {st : List Value} {M : pj_Mem} {x y : Int32} {o9 : Option Value × pj_Mem} : pj_Ends 18 (24, L, .int y :: .int x :: st, M) o9 = pj_Ends 18 (25, L, .int (x - y) :: st, M) o9 := pj_xs (s18_24)
theorem q18_25 : pj_row 18 25 = some (.iastore, 1, 0, 0, 0) := by decide +kernel
theorem s18_25 {L : pj_Loc} {st : List Value} {N S : Nat} {H : pj_Heap} {o : Nat} {i x : Int32} : pj_step 18 (25, L, .int x :: .int i :: .ref o :: st, (N, S, H)) = pj_set 26 L st (N, S, H) o (pj_ars (H o) 0 i x) := st_iastore q18_25
theorem x18_25 {L : pj_Loc} {st : List Value} {N S : Nat} {H : pj_Heap} {o : Nat} {i x : Int32} {o9 : Option Value × pj_Mem} : pj_Ends 18 (25, L, .int x :: .int i :: .ref o :: st, (N, S, H)) o9 = pj_then 18 o9 (pj_set 26 L st (N, S, H) o (pj_ars (H o) 0 i x)) := pj_xt q18_25 rfl (pj_cl_nc rfl) (s18_25)
theorem q18_26 : pj_row 18 26 = some (.iinc 2 1, 3, 0, 0, 0) := by decide +kernel
theorem s18_26 {st : List Value} {M : pj_Mem} {l : pj_Loc} {a0 a1 : Option Value} {x : Int32} (h : pj_long a1 = false) : pj_step 18 (26, a0 :: a1 :: some (.int x) :: l, st, M) = some (29, a0 :: a1 :: some (.int (x + 1)) :: l, st, M) := st_iinc q18_26 rfl (congrArg (fun y => x + y) (show Int32.ofInt 1 = 1 by decide +kernel)) (pj_st_2 h)
theorem x18_26 {st : List Value} {M : pj_Mem} {l : pj_Loc} {a0 a1 : Option Value} {x : Int32} (h : pj_long a1 = false) {o9 : Option Value × pj_Mem} : pj_Ends 18 (26, a0 :: a1 :: some (.int x) :: l, st, M) o9 = pj_Ends 18 (29, a0 :: a1 :: some (.int (x + 1)) :: l, st, M) o9 := pj_xs (s18_26 h)
theorem q18_29 : pj_row 18 29 = some (.goto (-27), 3, 2, 0, 0) := by decide +kernel
theorem s18_29 {L : pj_Loc} {st : List Value} {M : pj_Mem}  : pj_step 18 (29, L, st, M) = some (2, L, st, M) := st_goto q18_29
theorem x18_29 {L : pj_Loc} {st : List Value} {M : pj_Mem}  {o9 : Option Value × pj_Mem} : pj_Ends 18 (29, L, st, M) o9 = pj_Ends 18 (2, L, st, M) o9 := pj_xs (s18_29)
theorem q18_32 : pj_row 18 32 = some (.aload_n 0, 1, 0, 0, 0) := by decide +kernel
theorem s18_32 {st : List Value} {M : pj_Mem} {l : pj_Loc} {x : Nat} : pj_step 18 (32, some (.ref x) :: l, st, M) = some (33, some (.ref x) :: l, .ref x :: st, M) := st_aload_n q18_32 rfl
theorem x18_32 {st : List Value} {M : pj_Mem} {l : pj_Loc} {x : Nat} {o9 : Option Value × pj_Mem} : pj_Ends 18 (32, some (.ref x) :: l, st, M) o9 = pj_Ends 18 (33, some (.ref x) :: l, .ref x :: st, M) o9 := pj_xs (s18_32)
theorem q18_33 : pj_row 18 33 = some (.aload_n 0, 1, 0, 0, 0) := by decide +kernel
theorem s18_33 {st : List Value} {M : pj_Mem} {l : pj_Loc} {x : Nat} : pj_step 18 (33, some (.ref x) :: l, st, M) = some (34, some (.ref x) :: l, .ref x :: st, M) := st_aload_n q18_33 rfl
theorem x18_33 {st : List Value} {M : pj_Mem} {l : pj_Loc} {x : Nat} {o9 : Option Value × pj_Mem} : pj_Ends 18 (33, some (.ref x) :: l, st, M) o9 = pj_Ends 18 (34, some (.ref x) :: l, .ref x :: st, M) o9 := pj_xs (s18_33)
theorem q18_34 : pj_row 18 34 = some (.getfield 89, 3, 3, 8, 0) := by decide +kernel
theorem s18_34 {L : pj_Loc} {st : List Value} {N S : Nat} {H : pj_Heap} {o : Nat} : pj_step 18 (34, L, .ref o :: st, (N, S, H)) = pj_pv 37 L st (N, S, H) (pj_fld (H o) 3 8) := st_getfield q18_34
theorem x18_34 {L : pj_Loc} {st : List Value} {N S : Nat} {H : pj_Heap} {o : Nat} {o9 : Option Value × pj_Mem} : pj_Ends 18 (34, L, .ref o :: st, (N, S, H)) o9 = pj_then 18 o9 (pj_pv 37 L st (N, S, H) (pj_fld (H o) 3 8)) := pj_xt q18_34 rfl (pj_cl_nc rfl) (s18_34)
theorem q18_37 : pj_row 18 37 = some (.bipush 7, 2, 0, 0, 0) := by decide +kernel
theorem s18_37 {L : pj_Loc} {st : List Value} {M : pj_Mem}  : pj_step 18 (37, L, st, M) = some (39, L, .int 7 :: st, M) := st_bipush q18_37 (by decide +kernel)
theorem x18_37 {L : pj_Loc} {st : List Value} {M : pj_Mem}  {o9 : Option Value × pj_Mem} : pj_Ends 18 (37, L, st, M) o9 = pj_Ends 18 (39, L, .int 7 :: st, M) o9 := pj_xs (s18_37)
theorem q18_39 : pj_row 18 39 = some (.if_icmp .ne 10, 3, 49, 0, 0) := by decide +kernel
theorem s18_39 {L : pj_Loc} {st : List Value} {M : pj_Mem} {x y : Int32} : pj_step 18 (39, L, .int y :: .int x :: st, M) = some (if ¬ x = y then 49 else 42, L, st, M) := st_icmp_ne q18_39
theorem x18_39 {L : pj_Loc} {st : List Value} {M : pj_Mem} {x y : Int32} {o9 : Option Value × pj_Mem} : pj_Ends 18 (39, L, .int y :: .int x :: st, M) o9 = pj_Ends 18 (if ¬ x = y then 49 else 42, L, st, M) o9 := pj_xs (s18_39)
theorem q18_42 : pj_row 18 42 = some (.aload_n 0, 1, 0, 0, 0) := by decide +kernel
theorem s18_42 {st : List Value} {M : pj_Mem} {l : pj_Loc} {x : Nat} : pj_step 18 (42, some (.ref x) :: l, st, M) = some (43, some (.ref x) :: l, .ref x :: st, M) := st_aload_n q18_42 rfl
theorem x18_42 {st : List Value} {M : pj_Mem} {l : pj_Loc} {x : Nat} {o9 : Option Value × pj_Mem} : pj_Ends 18 (42, some (.ref x) :: l, st, M) o9 = pj_Ends 18 (43, some (.ref x) :: l, .ref x :: st, M) o9 := pj_xs (s18_42)
theorem q18_43 : pj_row 18 43 = some (.invokevirtual 96, 3, 19, 1, 0) := by decide +kernel
theorem e18_43 {L : pj_Loc} {st : List Value} {N S : Nat} {H : pj_Heap} {o : Option Value × pj_Mem} {M' : pj_Mem} {x0 : Nat} {r : Int32} (h4 : pj_le4 st = true) (hu : pj_isU 3 (H x0) = true) (h1 : pj_Ends 19 (0, [some (.ref x0), none, none], [], (N, S, H)) (some (.int r), M')) (h2 : pj_Ends 18 (46, L, .int r :: st, M') o) : pj_Ends 18 (43, L, .ref x0 :: st, (N, S, H)) o := ec_v1 q18_43 (Or.inl rfl) h4 hu rfl h1 h2
theorem q18_46 : pj_row 18 46 = some (.goto 7, 3, 53, 0, 0) := by decide +kernel
theorem s18_46 {L : pj_Loc} {st : List Value} {M : pj_Mem}  : pj_step 18 (46, L, st, M) = some (53, L, st, M) := st_goto q18_46
theorem x18_46 {L : pj_Loc} {st : List Value} {M : pj_Mem}  {o9 : Option Value × pj_Mem} : pj_Ends 18 (46, L, st, M) o9 = pj_Ends 18 (53, L, st, M) o9 := pj_xs (s18_46)
theorem q18_49 : pj_row 18 49 = some (.aload_n 0, 1, 0, 0, 0) := by decide +kernel
theorem s18_49 {st : List Value} {M : pj_Mem} {l : pj_Loc} {x : Nat} : pj_step 18 (49, some (.ref x) :: l, st, M) = some (50, some (.ref x) :: l, .ref x :: st, M) := st_aload_n q18_49 rfl
theorem x18_49 {st : List Value} {M : pj_Mem} {l : pj_Loc} {x : Nat} {o9 : Option Value × pj_Mem} : pj_Ends 18 (49, some (.ref x) :: l, st, M) o9 = pj_Ends 18 (50, some (.ref x) :: l, .ref x :: st, M) o9 := pj_xs (s18_49)
theorem q18_50 : pj_row 18 50 = some (.invokevirtual 100, 3, 20, 1, 0) := by decide +kernel
theorem e18_50 {L : pj_Loc} {st : List Value} {N S : Nat} {H : pj_Heap} {o : Option Value × pj_Mem} {M' : pj_Mem} {x0 : Nat} {r : Int32} (h4 : pj_le4 st = true) (hu : pj_isU 3 (H x0) = true) (h1 : pj_Ends 20 (0, [some (.ref x0), none, none, none], [], (N, S, H)) (some (.int r), M')) (h2 : pj_Ends 18 (53, L, .int r :: st, M') o) : pj_Ends 18 (50, L, .ref x0 :: st, (N, S, H)) o := ec_v1 q18_50 (Or.inl rfl) h4 hu rfl h1 h2
theorem q18_53 : pj_row 18 53 = some (.putfield 103, 3, 3, 9, 0) := by decide +kernel
theorem s18_53 {L : pj_Loc} {st : List Value} {N S : Nat} {H : pj_Heap} {o : Nat} {v : Value} : pj_step 18 (53, L, v :: .ref o :: st, (N, S, H)) = pj_set 56 L st (N, S, H) o (pj_fset (H o) 3 9 v) := st_putfield q18_53
theorem x18_53 {L : pj_Loc} {st : List Value} {N S : Nat} {H : pj_Heap} {o : Nat} {v : Value} {o9 : Option Value × pj_Mem} : pj_Ends 18 (53, L, v :: .ref o :: st, (N, S, H)) o9 = pj_then 18 o9 (pj_set 56 L st (N, S, H) o (pj_fset (H o) 3 9 v)) := pj_xt q18_53 rfl (pj_cl_nc rfl) (s18_53)
theorem q18_56 : pj_row 18 56 = some (.return_, 1, 0, 0, 0) := by decide +kernel
theorem t18_56 {L : pj_Loc} {M : pj_Mem} : pj_Ends 18 (56, L, [], M) (none, M) := pj_Ends.ret q18_56 (pj_rtn_v rt18)
theorem rt19 : pj_rt 19 = some .int := rfl
theorem q19_0 : pj_row 19 0 = some (.aload_n 0, 1, 0, 0, 0) := by decide +kernel
theorem s19_0 {st : List Value} {M : pj_Mem} {l : pj_Loc} {x : Nat} : pj_step 19 (0, some (.ref x) :: l, st, M) = some (1, some (.ref x) :: l, .ref x :: st, M) := st_aload_n q19_0 rfl
theorem x19_0 {st : List Value} {M : pj_Mem} {l : pj_Loc} {x : Nat} {o9 : Option Value × pj_Mem} : pj_Ends 19 (0, some (.ref x) :: l, st, M) o9 = pj_Ends 19 (1, some (.ref x) :: l, .ref x :: st, M) o9 := pj_xs (s19_0)
theorem q19_1 : pj_row 19 1 = some (.getfield 15, 3, 3, 1, 0) := by decide +kernel
theorem s19_1 {L : pj_Loc} {st : List Value} {N S : Nat} {H : pj_Heap} {o : Nat} : pj_step 19 (1, L, .ref o :: st, (N, S, H)) = pj_pv 4 L st (N, S, H) (pj_fld (H o) 3 1) := st_getfield q19_1
theorem x19_1 {L : pj_Loc} {st : List Value} {N S : Nat} {H : pj_Heap} {o : Nat} {o9 : Option Value × pj_Mem} : pj_Ends 19 (1, L, .ref o :: st, (N, S, H)) o9 = pj_then 19 o9 (pj_pv 4 L st (N, S, H) (pj_fld (H o) 3 1)) := pj_xt q19_1 rfl (pj_cl_nc rfl) (s19_1)
theorem q19_4 : pj_row 19 4 = some (.iconst 0, 1, 0, 0, 0) := by decide +kernel
theorem s19_4 {L : pj_Loc} {st : List Value} {M : pj_Mem}  : pj_step 19 (4, L, st, M) = some (5, L, .int 0 :: st, M) := st_iconst q19_4 (by decide +kernel)
theorem x19_4 {L : pj_Loc} {st : List Value} {M : pj_Mem}  {o9 : Option Value × pj_Mem} : pj_Ends 19 (4, L, st, M) o9 = pj_Ends 19 (5, L, .int 0 :: st, M) o9 := pj_xs (s19_4)
theorem q19_5 : pj_row 19 5 = some (.iaload, 1, 0, 0, 0) := by decide +kernel
theorem s19_5 {L : pj_Loc} {st : List Value} {N S : Nat} {H : pj_Heap} {o : Nat} {i : Int32} : pj_step 19 (5, L, .int i :: .ref o :: st, (N, S, H)) = pj_pi 6 L st (N, S, H) (pj_arl (H o) 0 i) := st_iaload q19_5
theorem x19_5 {L : pj_Loc} {st : List Value} {N S : Nat} {H : pj_Heap} {o : Nat} {i : Int32} {o9 : Option Value × pj_Mem} : pj_Ends 19 (5, L, .int i :: .ref o :: st, (N, S, H)) o9 = pj_then 19 o9 (pj_pi 6 L st (N, S, H) (pj_arl (H o) 0 i)) := pj_xt q19_5 rfl (pj_cl_nc rfl) (s19_5)
theorem q19_6 : pj_row 19 6 = some (.aload_n 0, 1, 0, 0, 0) := by decide +kernel
theorem s19_6 {st : List Value} {M : pj_Mem} {l : pj_Loc} {x : Nat} : pj_step 19 (6, some (.ref x) :: l, st, M) = some (7, some (.ref x) :: l, .ref x :: st, M) := st_aload_n q19_6 rfl
theorem x19_6 {st : List Value} {M : pj_Mem} {l : pj_Loc} {x : Nat} {o9 : Option Value × pj_Mem} : pj_Ends 19 (6, some (.ref x) :: l, st, M) o9 = pj_Ends 19 (7, some (.ref x) :: l, .ref x :: st, M) o9 := pj_xs (s19_6)
theorem q19_7 : pj_row 19 7 = some (.getfield 15, 3, 3, 1, 0) := by decide +kernel
theorem s19_7 {L : pj_Loc} {st : List Value} {N S : Nat} {H : pj_Heap} {o : Nat} : pj_step 19 (7, L, .ref o :: st, (N, S, H)) = pj_pv 10 L st (N, S, H) (pj_fld (H o) 3 1) := st_getfield q19_7
theorem x19_7 {L : pj_Loc} {st : List Value} {N S : Nat} {H : pj_Heap} {o : Nat} {o9 : Option Value × pj_Mem} : pj_Ends 19 (7, L, .ref o :: st, (N, S, H)) o9 = pj_then 19 o9 (pj_pv 10 L st (N, S, H) (pj_fld (H o) 3 1)) := pj_xt q19_7 rfl (pj_cl_nc rfl) (s19_7)
theorem q19_10 : pj_row 19 10 = some (.iconst 1, 1, 0, 0, 0) := by decide +kernel
theorem s19_10 {L : pj_Loc} {st : List Value} {M : pj_Mem}  : pj_step 19 (10, L, st, M) = some (11, L, .int 1 :: st, M) := st_iconst q19_10 (by decide +kernel)
theorem x19_10 {L : pj_Loc} {st : List Value} {M : pj_Mem}  {o9 : Option Value × pj_Mem} : pj_Ends 19 (10, L, st, M) o9 = pj_Ends 19 (11, L, .int 1 :: st, M) o9 := pj_xs (s19_10)
theorem q19_11 : pj_row 19 11 = some (.iaload, 1, 0, 0, 0) := by decide +kernel
theorem s19_11 {L : pj_Loc} {st : List Value} {N S : Nat} {H : pj_Heap} {o : Nat} {i : Int32} : pj_step 19 (11, L, .int i :: .ref o :: st, (N, S, H)) = pj_pi 12 L st (N, S, H) (pj_arl (H o) 0 i) := st_iaload q19_11
theorem x19_11 {L : pj_Loc} {st : List Value} {N S : Nat} {H : pj_Heap} {o : Nat} {i : Int32} {o9 : Option Value × pj_Mem} : pj_Ends 19 (11, L, .int i :: .ref o :: st, (N, S, H)) o9 = pj_then 19 o9 (pj_pi 12 L st (N, S, H) (pj_arl (H o) 0 i)) := pj_xt q19_11 rfl (pj_cl_nc rfl) (s19_11)
theorem q19_12 : pj_row 19 12 = some (.invokestatic 106, 3, 0, 2, 5) := by decide +kernel
theorem s19_12 {L : pj_Loc} {st : List Value} {M : pj_Mem} {x y : Int32} : pj_step 19 (12, L, .int y :: .int x :: st, M) = pj_g4 st (some (15, L, .int (if y < x then y else x) :: st, M)) := st_min q19_12
theorem x19_12 {L : pj_Loc} {st : List Value} {M : pj_Mem} {x y : Int32} {o9 : Option Value × pj_Mem} : pj_Ends 19 (12, L, .int y :: .int x :: st, M) o9 = pj_then 19 o9 (pj_g4 st (some (15, L, .int (if y < x then y else x) :: st, M))) := pj_xt q19_12 rfl rfl (s19_12)
theorem q19_15 : pj_row 19 15 = some (.istore_n 1, 1, 0, 0, 0) := by decide +kernel
theorem s19_15 {st : List Value} {M : pj_Mem} {l : pj_Loc} {a0 a1 : Option Value} {x : Int32} (h : pj_long a0 = false) : pj_step 19 (15, a0 :: a1 :: l, .int x :: st, M) = some (16, a0 :: some (.int x) :: l, st, M) := st_istore_n q19_15 (pj_st_1 h)
theorem x19_15 {st : List Value} {M : pj_Mem} {l : pj_Loc} {a0 a1 : Option Value} {x : Int32} (h : pj_long a0 = false) {o9 : Option Value × pj_Mem} : pj_Ends 19 (15, a0 :: a1 :: l, .int x :: st, M) o9 = pj_Ends 19 (16, a0 :: some (.int x) :: l, st, M) o9 := pj_xs (s19_15 h)
theorem q19_16 : pj_row 19 16 = some (.aload_n 0, 1, 0, 0, 0) := by decide +kernel
theorem s19_16 {st : List Value} {M : pj_Mem} {l : pj_Loc} {x : Nat} : pj_step 19 (16, some (.ref x) :: l, st, M) = some (17, some (.ref x) :: l, .ref x :: st, M) := st_aload_n q19_16 rfl
theorem x19_16 {st : List Value} {M : pj_Mem} {l : pj_Loc} {x : Nat} {o9 : Option Value × pj_Mem} : pj_Ends 19 (16, some (.ref x) :: l, st, M) o9 = pj_Ends 19 (17, some (.ref x) :: l, .ref x :: st, M) o9 := pj_xs (s19_16)
theorem q19_17 : pj_row 19 17 = some (.getfield 15, 3, 3, 1, 0) := by decide +kernel
theorem s19_17 {L : pj_Loc} {st : List Value} {N S : Nat} {H : pj_Heap} {o : Nat} : pj_step 19 (17, L, .ref o :: st, (N, S, H)) = pj_pv 20 L st (N, S, H) (pj_fld (H o) 3 1) := st_getfield q19_17
theorem x19_17 {L : pj_Loc} {st : List Value} {N S : Nat} {H : pj_Heap} {o : Nat} {o9 : Option Value × pj_Mem} : pj_Ends 19 (17, L, .ref o :: st, (N, S, H)) o9 = pj_then 19 o9 (pj_pv 20 L st (N, S, H) (pj_fld (H o) 3 1)) := pj_xt q19_17 rfl (pj_cl_nc rfl) (s19_17)
theorem q19_20 : pj_row 19 20 = some (.iconst 0, 1, 0, 0, 0) := by decide +kernel
theorem s19_20 {L : pj_Loc} {st : List Value} {M : pj_Mem}  : pj_step 19 (20, L, st, M) = some (21, L, .int 0 :: st, M) := st_iconst q19_20 (by decide +kernel)
theorem x19_20 {L : pj_Loc} {st : List Value} {M : pj_Mem}  {o9 : Option Value × pj_Mem} : pj_Ends 19 (20, L, st, M) o9 = pj_Ends 19 (21, L, .int 0 :: st, M) o9 := pj_xs (s19_20)
theorem q19_21 : pj_row 19 21 = some (.iaload, 1, 0, 0, 0) := by decide +kernel
theorem s19_21 {L : pj_Loc} {st : List Value} {N S : Nat} {H : pj_Heap} {o : Nat} {i : Int32} : pj_step 19 (21, L, .int i :: .ref o :: st, (N, S, H)) = pj_pi 22 L st (N, S, H) (pj_arl (H o) 0 i) := st_iaload q19_21
theorem x19_21 {L : pj_Loc} {st : List Value} {N S : Nat} {H : pj_Heap} {o : Nat} {i : Int32} {o9 : Option Value × pj_Mem} : pj_Ends 19 (21, L, .int i :: .ref o :: st, (N, S, H)) o9 = pj_then 19 o9 (pj_pi 22 L st (N, S, H) (pj_arl (H o) 0 i)) := pj_xt q19_21 rfl (pj_cl_nc rfl) (s19_21)
theorem q19_22 : pj_row 19 22 = some (.aload_n 0, 1, 0, 0, 0) := by decide +kernel
theorem s19_22 {st : List Value} {M : pj_Mem} {l : pj_Loc} {x : Nat} : pj_step 19 (22, some (.ref x) :: l, st, M) = some (23, some (.ref x) :: l, .ref x :: st, M) := st_aload_n q19_22 rfl
theorem x19_22 {st : List Value} {M : pj_Mem} {l : pj_Loc} {x : Nat} {o9 : Option Value × pj_Mem} : pj_Ends 19 (22, some (.ref x) :: l, st, M) o9 = pj_Ends 19 (23, some (.ref x) :: l, .ref x :: st, M) o9 := pj_xs (s19_22)
theorem q19_23 : pj_row 19 23 = some (.getfield 15, 3, 3, 1, 0) := by decide +kernel
theorem s19_23 {L : pj_Loc} {st : List Value} {N S : Nat} {H : pj_Heap} {o : Nat} : pj_step 19 (23, L, .ref o :: st, (N, S, H)) = pj_pv 26 L st (N, S, H) (pj_fld (H o) 3 1) := st_getfield q19_23
theorem x19_23 {L : pj_Loc} {st : List Value} {N S : Nat} {H : pj_Heap} {o : Nat} {o9 : Option Value × pj_Mem} : pj_Ends 19 (23, L, .ref o :: st, (N, S, H)) o9 = pj_then 19 o9 (pj_pv 26 L st (N, S, H) (pj_fld (H o) 3 1)) := pj_xt q19_23 rfl (pj_cl_nc rfl) (s19_23)
theorem q19_26 : pj_row 19 26 = some (.iconst 1, 1, 0, 0, 0) := by decide +kernel
theorem s19_26 {L : pj_Loc} {st : List Value} {M : pj_Mem}  : pj_step 19 (26, L, st, M) = some (27, L, .int 1 :: st, M) := st_iconst q19_26 (by decide +kernel)
theorem x19_26 {L : pj_Loc} {st : List Value} {M : pj_Mem}  {o9 : Option Value × pj_Mem} : pj_Ends 19 (26, L, st, M) o9 = pj_Ends 19 (27, L, .int 1 :: st, M) o9 := pj_xs (s19_26)
theorem q19_27 : pj_row 19 27 = some (.iaload, 1, 0, 0, 0) := by decide +kernel
theorem s19_27 {L : pj_Loc} {st : List Value} {N S : Nat} {H : pj_Heap} {o : Nat} {i : Int32} : pj_step 19 (27, L, .int i :: .ref o :: st, (N, S, H)) = pj_pi 28 L st (N, S, H) (pj_arl (H o) 0 i) := st_iaload q19_27
theorem x19_27 {L : pj_Loc} {st : List Value} {N S : Nat} {H : pj_Heap} {o : Nat} {i : Int32} {o9 : Option Value × pj_Mem} : pj_Ends 19 (27, L, .int i :: .ref o :: st, (N, S, H)) o9 = pj_then 19 o9 (pj_pi 28 L st (N, S, H) (pj_arl (H o) 0 i)) := pj_xt q19_27 rfl (pj_cl_nc rfl) (s19_27)
theorem q19_28 : pj_row 19 28 = some (.invokestatic 66, 3, 0, 2, 4) := by decide +kernel
theorem s19_28 {L : pj_Loc} {st : List Value} {M : pj_Mem} {x y : Int32} : pj_step 19 (28, L, .int y :: .int x :: st, M) = pj_g4 st (some (31, L, .int (if x < y then y else x) :: st, M)) := st_max q19_28
theorem x19_28 {L : pj_Loc} {st : List Value} {M : pj_Mem} {x y : Int32} {o9 : Option Value × pj_Mem} : pj_Ends 19 (28, L, .int y :: .int x :: st, M) o9 = pj_then 19 o9 (pj_g4 st (some (31, L, .int (if x < y then y else x) :: st, M))) := pj_xt q19_28 rfl rfl (s19_28)
theorem q19_31 : pj_row 19 31 = some (.istore_n 2, 1, 0, 0, 0) := by decide +kernel
theorem s19_31 {st : List Value} {M : pj_Mem} {l : pj_Loc} {a0 a1 a2 : Option Value} {x : Int32} (h : pj_long a1 = false) : pj_step 19 (31, a0 :: a1 :: a2 :: l, .int x :: st, M) = some (32, a0 :: a1 :: some (.int x) :: l, st, M) := st_istore_n q19_31 (pj_st_2 h)
theorem x19_31 {st : List Value} {M : pj_Mem} {l : pj_Loc} {a0 a1 a2 : Option Value} {x : Int32} (h : pj_long a1 = false) {o9 : Option Value × pj_Mem} : pj_Ends 19 (31, a0 :: a1 :: a2 :: l, .int x :: st, M) o9 = pj_Ends 19 (32, a0 :: a1 :: some (.int x) :: l, st, M) o9 := pj_xs (s19_31 h)
theorem q19_32 : pj_row 19 32 = some (.iload_n 1, 1, 0, 0, 0) := by decide +kernel
theorem s19_32 {st : List Value} {M : pj_Mem} {l : pj_Loc} {a0 : Option Value} {x : Int32} : pj_step 19 (32, a0 :: some (.int x) :: l, st, M) = some (33, a0 :: some (.int x) :: l, .int x :: st, M) := st_iload_n q19_32 rfl
theorem x19_32 {st : List Value} {M : pj_Mem} {l : pj_Loc} {a0 : Option Value} {x : Int32} {o9 : Option Value × pj_Mem} : pj_Ends 19 (32, a0 :: some (.int x) :: l, st, M) o9 = pj_Ends 19 (33, a0 :: some (.int x) :: l, .int x :: st, M) o9 := pj_xs (s19_32)
theorem q19_33 : pj_row 19 33 = some (.iload_n 2, 1, 0, 0, 0) := by decide +kernel
theorem s19_33 {st : List Value} {M : pj_Mem} {l : pj_Loc} {a0 a1 : Option Value} {x : Int32} : pj_step 19 (33, a0 :: a1 :: some (.int x) :: l, st, M) = some (34, a0 :: a1 :: some (.int x) :: l, .int x :: st, M) := st_iload_n q19_33 rfl
theorem x19_33 {st : List Value} {M : pj_Mem} {l : pj_Loc} {a0 a1 : Option Value} {x : Int32} {o9 : Option Value × pj_Mem} : pj_Ends 19 (33, a0 :: a1 :: some (.int x) :: l, st, M) o9 = pj_Ends 19 (34, a0 :: a1 :: some (.int x) :: l, .int x :: st, M) o9 := pj_xs (s19_33)
theorem q19_34 : pj_row 19 34 = some (.aload_n 0, 1, 0, 0, 0) := by decide +kernel
theorem s19_34 {st : List Value} {M : pj_Mem} {l : pj_Loc} {x : Nat} : pj_step 19 (34, some (.ref x) :: l, st, M) = some (35, some (.ref x) :: l, .ref x :: st, M) := st_aload_n q19_34 rfl
theorem x19_34 {st : List Value} {M : pj_Mem} {l : pj_Loc} {x : Nat} {o9 : Option Value × pj_Mem} : pj_Ends 19 (34, some (.ref x) :: l, st, M) o9 = pj_Ends 19 (35, some (.ref x) :: l, .ref x :: st, M) o9 := pj_xs (s19_34)
theorem q19_35 : pj_row 19 35 = some (.getfield 15, 3, 3, 1, 0) := by decide +kernel
theorem s19_35 {L : pj_Loc} {st : List Value} {N S : Nat} {H : pj_Heap} {o : Nat} : pj_step 19 (35, L, .ref o :: st, (N, S, H)) = pj_pv 38 L st (N, S, H) (pj_fld (H o) 3 1) := st_getfield q19_35
theorem x19_35 {L : pj_Loc} {st : List Value} {N S : Nat} {H : pj_Heap} {o : Nat} {o9 : Option Value × pj_Mem} : pj_Ends 19 (35, L, .ref o :: st, (N, S, H)) o9 = pj_then 19 o9 (pj_pv 38 L st (N, S, H) (pj_fld (H o) 3 1)) := pj_xt q19_35 rfl (pj_cl_nc rfl) (s19_35)
theorem q19_38 : pj_row 19 38 = some (.iconst 2, 1, 0, 0, 0) := by decide +kernel
theorem s19_38 {L : pj_Loc} {st : List Value} {M : pj_Mem}  : pj_step 19 (38, L, st, M) = some (39, L, .int 2 :: st, M) := st_iconst q19_38 (by decide +kernel)
theorem x19_38 {L : pj_Loc} {st : List Value} {M : pj_Mem}  {o9 : Option Value × pj_Mem} : pj_Ends 19 (38, L, st, M) o9 = pj_Ends 19 (39, L, .int 2 :: st, M) o9 := pj_xs (s19_38)
theorem q19_39 : pj_row 19 39 = some (.iaload, 1, 0, 0, 0) := by decide +kernel
theorem s19_39 {L : pj_Loc} {st : List Value} {N S : Nat} {H : pj_Heap} {o : Nat} {i : Int32} : pj_step 19 (39, L, .int i :: .ref o :: st, (N, S, H)) = pj_pi 40 L st (N, S, H) (pj_arl (H o) 0 i) := st_iaload q19_39
theorem x19_39 {L : pj_Loc} {st : List Value} {N S : Nat} {H : pj_Heap} {o : Nat} {i : Int32} {o9 : Option Value × pj_Mem} : pj_Ends 19 (39, L, .int i :: .ref o :: st, (N, S, H)) o9 = pj_then 19 o9 (pj_pi 40 L st (N, S, H) (pj_arl (H o) 0 i)) := pj_xt q19_39 rfl (pj_cl_nc rfl) (s19_39)
theorem q19_40 : pj_row 19 40 = some (.invokestatic 106, 3, 0, 2, 5) := by decide +kernel
theorem s19_40 {L : pj_Loc} {st : List Value} {M : pj_Mem} {x y : Int32} : pj_step 19 (40, L, .int y :: .int x :: st, M) = pj_g4 st (some (43, L, .int (if y < x then y else x) :: st, M)) := st_min q19_40
theorem x19_40 {L : pj_Loc} {st : List Value} {M : pj_Mem} {x y : Int32} {o9 : Option Value × pj_Mem} : pj_Ends 19 (40, L, .int y :: .int x :: st, M) o9 = pj_then 19 o9 (pj_g4 st (some (43, L, .int (if y < x then y else x) :: st, M))) := pj_xt q19_40 rfl rfl (s19_40)
theorem q19_43 : pj_row 19 43 = some (.invokestatic 66, 3, 0, 2, 4) := by decide +kernel
theorem s19_43 {L : pj_Loc} {st : List Value} {M : pj_Mem} {x y : Int32} : pj_step 19 (43, L, .int y :: .int x :: st, M) = pj_g4 st (some (46, L, .int (if x < y then y else x) :: st, M)) := st_max q19_43
theorem x19_43 {L : pj_Loc} {st : List Value} {M : pj_Mem} {x y : Int32} {o9 : Option Value × pj_Mem} : pj_Ends 19 (43, L, .int y :: .int x :: st, M) o9 = pj_then 19 o9 (pj_g4 st (some (46, L, .int (if x < y then y else x) :: st, M))) := pj_xt q19_43 rfl rfl (s19_43)
theorem q19_46 : pj_row 19 46 = some (.ireturn, 1, 0, 0, 0) := by decide +kernel
theorem t19_46 {L : pj_Loc} {M : pj_Mem} {v : Int32} : pj_Ends 19 (46, L, [.int v], M) (some (.int v), M) := pj_Ends.ret q19_46 (pj_rtn_i rt19)
theorem rt20 : pj_rt 20 = some .int := rfl
theorem q20_0 : pj_row 20 0 = some (.iconst 0, 1, 0, 0, 0) := by decide +kernel
theorem s20_0 {L : pj_Loc} {st : List Value} {M : pj_Mem}  : pj_step 20 (0, L, st, M) = some (1, L, .int 0 :: st, M) := st_iconst q20_0 (by decide +kernel)
theorem x20_0 {L : pj_Loc} {st : List Value} {M : pj_Mem}  {o9 : Option Value × pj_Mem} : pj_Ends 20 (0, L, st, M) o9 = pj_Ends 20 (1, L, .int 0 :: st, M) o9 := pj_xs (s20_0)
theorem q20_1 : pj_row 20 1 = some (.istore_n 1, 1, 0, 0, 0) := by decide +kernel
theorem s20_1 {st : List Value} {M : pj_Mem} {l : pj_Loc} {a0 a1 : Option Value} {x : Int32} (h : pj_long a0 = false) : pj_step 20 (1, a0 :: a1 :: l, .int x :: st, M) = some (2, a0 :: some (.int x) :: l, st, M) := st_istore_n q20_1 (pj_st_1 h)
theorem x20_1 {st : List Value} {M : pj_Mem} {l : pj_Loc} {a0 a1 : Option Value} {x : Int32} (h : pj_long a0 = false) {o9 : Option Value × pj_Mem} : pj_Ends 20 (1, a0 :: a1 :: l, .int x :: st, M) o9 = pj_Ends 20 (2, a0 :: some (.int x) :: l, st, M) o9 := pj_xs (s20_1 h)
theorem q20_2 : pj_row 20 2 = some (.iconst 0, 1, 0, 0, 0) := by decide +kernel
theorem s20_2 {L : pj_Loc} {st : List Value} {M : pj_Mem}  : pj_step 20 (2, L, st, M) = some (3, L, .int 0 :: st, M) := st_iconst q20_2 (by decide +kernel)
theorem x20_2 {L : pj_Loc} {st : List Value} {M : pj_Mem}  {o9 : Option Value × pj_Mem} : pj_Ends 20 (2, L, st, M) o9 = pj_Ends 20 (3, L, .int 0 :: st, M) o9 := pj_xs (s20_2)
theorem q20_3 : pj_row 20 3 = some (.istore_n 2, 1, 0, 0, 0) := by decide +kernel
theorem s20_3 {st : List Value} {M : pj_Mem} {l : pj_Loc} {a0 a1 a2 : Option Value} {x : Int32} (h : pj_long a1 = false) : pj_step 20 (3, a0 :: a1 :: a2 :: l, .int x :: st, M) = some (4, a0 :: a1 :: some (.int x) :: l, st, M) := st_istore_n q20_3 (pj_st_2 h)
theorem x20_3 {st : List Value} {M : pj_Mem} {l : pj_Loc} {a0 a1 a2 : Option Value} {x : Int32} (h : pj_long a1 = false) {o9 : Option Value × pj_Mem} : pj_Ends 20 (3, a0 :: a1 :: a2 :: l, .int x :: st, M) o9 = pj_Ends 20 (4, a0 :: a1 :: some (.int x) :: l, st, M) o9 := pj_xs (s20_3 h)
theorem q20_4 : pj_row 20 4 = some (.iconst 0, 1, 0, 0, 0) := by decide +kernel
theorem s20_4 {L : pj_Loc} {st : List Value} {M : pj_Mem}  : pj_step 20 (4, L, st, M) = some (5, L, .int 0 :: st, M) := st_iconst q20_4 (by decide +kernel)
theorem x20_4 {L : pj_Loc} {st : List Value} {M : pj_Mem}  {o9 : Option Value × pj_Mem} : pj_Ends 20 (4, L, st, M) o9 = pj_Ends 20 (5, L, .int 0 :: st, M) o9 := pj_xs (s20_4)
theorem q20_5 : pj_row 20 5 = some (.istore_n 3, 1, 0, 0, 0) := by decide +kernel
theorem s20_5 {st : List Value} {M : pj_Mem} {l : pj_Loc} {a0 a1 a2 a3 : Option Value} {x : Int32} (h : pj_long a2 = false) : pj_step 20 (5, a0 :: a1 :: a2 :: a3 :: l, .int x :: st, M) = some (6, a0 :: a1 :: a2 :: some (.int x) :: l, st, M) := st_istore_n q20_5 (pj_st_3 h)
theorem x20_5 {st : List Value} {M : pj_Mem} {l : pj_Loc} {a0 a1 a2 a3 : Option Value} {x : Int32} (h : pj_long a2 = false) {o9 : Option Value × pj_Mem} : pj_Ends 20 (5, a0 :: a1 :: a2 :: a3 :: l, .int x :: st, M) o9 = pj_Ends 20 (6, a0 :: a1 :: a2 :: some (.int x) :: l, st, M) o9 := pj_xs (s20_5 h)
theorem q20_6 : pj_row 20 6 = some (.iload_n 3, 1, 0, 0, 0) := by decide +kernel
theorem s20_6 {st : List Value} {M : pj_Mem} {l : pj_Loc} {a0 a1 a2 : Option Value} {x : Int32} : pj_step 20 (6, a0 :: a1 :: a2 :: some (.int x) :: l, st, M) = some (7, a0 :: a1 :: a2 :: some (.int x) :: l, .int x :: st, M) := st_iload_n q20_6 rfl
theorem x20_6 {st : List Value} {M : pj_Mem} {l : pj_Loc} {a0 a1 a2 : Option Value} {x : Int32} {o9 : Option Value × pj_Mem} : pj_Ends 20 (6, a0 :: a1 :: a2 :: some (.int x) :: l, st, M) o9 = pj_Ends 20 (7, a0 :: a1 :: a2 :: some (.int x) :: l, .int x :: st, M) o9 := pj_xs (s20_6)
theorem q20_7 : pj_row 20 7 = some (.iconst 3, 1, 0, 0, 0) := by decide +kernel
theorem s20_7 {L : pj_Loc} {st : List Value} {M : pj_Mem}  : pj_step 20 (7, L, st, M) = some (8, L, .int 3 :: st, M) := st_iconst q20_7 (by decide +kernel)
theorem x20_7 {L : pj_Loc} {st : List Value} {M : pj_Mem}  {o9 : Option Value × pj_Mem} : pj_Ends 20 (7, L, st, M) o9 = pj_Ends 20 (8, L, .int 3 :: st, M) o9 := pj_xs (s20_7)
theorem q20_8 : pj_row 20 8 = some (.if_icmp .ge 46, 3, 54, 0, 0) := by decide +kernel
theorem s20_8 {L : pj_Loc} {st : List Value} {M : pj_Mem} {x y : Int32} : pj_step 20 (8, L, .int y :: .int x :: st, M) = some (if y ≤ x then 54 else 11, L, st, M) := st_icmp_ge q20_8
theorem x20_8 {L : pj_Loc} {st : List Value} {M : pj_Mem} {x y : Int32} {o9 : Option Value × pj_Mem} : pj_Ends 20 (8, L, .int y :: .int x :: st, M) o9 = pj_Ends 20 (if y ≤ x then 54 else 11, L, st, M) o9 := pj_xs (s20_8)
theorem q20_11 : pj_row 20 11 = some (.aload_n 0, 1, 0, 0, 0) := by decide +kernel
theorem s20_11 {st : List Value} {M : pj_Mem} {l : pj_Loc} {x : Nat} : pj_step 20 (11, some (.ref x) :: l, st, M) = some (12, some (.ref x) :: l, .ref x :: st, M) := st_aload_n q20_11 rfl
theorem x20_11 {st : List Value} {M : pj_Mem} {l : pj_Loc} {x : Nat} {o9 : Option Value × pj_Mem} : pj_Ends 20 (11, some (.ref x) :: l, st, M) o9 = pj_Ends 20 (12, some (.ref x) :: l, .ref x :: st, M) o9 := pj_xs (s20_11)
theorem q20_12 : pj_row 20 12 = some (.getfield 89, 3, 3, 8, 0) := by decide +kernel
theorem s20_12 {L : pj_Loc} {st : List Value} {N S : Nat} {H : pj_Heap} {o : Nat} : pj_step 20 (12, L, .ref o :: st, (N, S, H)) = pj_pv 15 L st (N, S, H) (pj_fld (H o) 3 8) := st_getfield q20_12
theorem x20_12 {L : pj_Loc} {st : List Value} {N S : Nat} {H : pj_Heap} {o : Nat} {o9 : Option Value × pj_Mem} : pj_Ends 20 (12, L, .ref o :: st, (N, S, H)) o9 = pj_then 20 o9 (pj_pv 15 L st (N, S, H) (pj_fld (H o) 3 8)) := pj_xt q20_12 rfl (pj_cl_nc rfl) (s20_12)
theorem q20_15 : pj_row 20 15 = some (.iload_n 3, 1, 0, 0, 0) := by decide +kernel
theorem s20_15 {st : List Value} {M : pj_Mem} {l : pj_Loc} {a0 a1 a2 : Option Value} {x : Int32} : pj_step 20 (15, a0 :: a1 :: a2 :: some (.int x) :: l, st, M) = some (16, a0 :: a1 :: a2 :: some (.int x) :: l, .int x :: st, M) := st_iload_n q20_15 rfl
theorem x20_15 {st : List Value} {M : pj_Mem} {l : pj_Loc} {a0 a1 a2 : Option Value} {x : Int32} {o9 : Option Value × pj_Mem} : pj_Ends 20 (15, a0 :: a1 :: a2 :: some (.int x) :: l, st, M) o9 = pj_Ends 20 (16, a0 :: a1 :: a2 :: some (.int x) :: l, .int x :: st, M) o9 := pj_xs (s20_15)
theorem q20_16 : pj_row 20 16 = some (.invokestatic 109, 3, 8, 2, 1) := by decide +kernel
theorem e20_16 {L : pj_Loc} {st : List Value} {N S : Nat} {H : pj_Heap} {o : Option Value × pj_Mem} {M' : pj_Mem} {x0 : Int32} {x1 : Int32} {r : Int32} (h4 : pj_le4 st = true) (h1 : pj_Ends 8 (0, [some (.int x0), some (.int x1)], [], (N, S, H)) (some (.int r), M')) (h2 : pj_Ends 20 (19, L, .int r :: st, M') o) : pj_Ends 20 (16, L, .int x1 :: .int x0 :: st, (N, S, H)) o := ec_s2 q20_16 (Or.inr rfl) h4 rfl h1 h2
theorem q20_19 : pj_row 20 19 = some (.ifCond .eq 29, 3, 48, 0, 0) := by decide +kernel
theorem s20_19 {L : pj_Loc} {st : List Value} {M : pj_Mem} {x : Int32} : pj_step 20 (19, L, .int x :: st, M) = some (if x = 0 then 48 else 22, L, st, M) := st_if_eq q20_19
theorem x20_19 {L : pj_Loc} {st : List Value} {M : pj_Mem} {x : Int32} {o9 : Option Value × pj_Mem} : pj_Ends 20 (19, L, .int x :: st, M) o9 = pj_Ends 20 (if x = 0 then 48 else 22, L, st, M) o9 := pj_xs (s20_19)
theorem q20_22 : pj_row 20 22 = some (.iload_n 2, 1, 0, 0, 0) := by decide +kernel
theorem s20_22 {st : List Value} {M : pj_Mem} {l : pj_Loc} {a0 a1 : Option Value} {x : Int32} : pj_step 20 (22, a0 :: a1 :: some (.int x) :: l, st, M) = some (23, a0 :: a1 :: some (.int x) :: l, .int x :: st, M) := st_iload_n q20_22 rfl
theorem x20_22 {st : List Value} {M : pj_Mem} {l : pj_Loc} {a0 a1 : Option Value} {x : Int32} {o9 : Option Value × pj_Mem} : pj_Ends 20 (22, a0 :: a1 :: some (.int x) :: l, st, M) o9 = pj_Ends 20 (23, a0 :: a1 :: some (.int x) :: l, .int x :: st, M) o9 := pj_xs (s20_22)
theorem q20_23 : pj_row 20 23 = some (.ifCond .eq 16, 3, 39, 0, 0) := by decide +kernel
theorem s20_23 {L : pj_Loc} {st : List Value} {M : pj_Mem} {x : Int32} : pj_step 20 (23, L, .int x :: st, M) = some (if x = 0 then 39 else 26, L, st, M) := st_if_eq q20_23
theorem x20_23 {L : pj_Loc} {st : List Value} {M : pj_Mem} {x : Int32} {o9 : Option Value × pj_Mem} : pj_Ends 20 (23, L, .int x :: st, M) o9 = pj_Ends 20 (if x = 0 then 39 else 26, L, st, M) o9 := pj_xs (s20_23)
theorem q20_26 : pj_row 20 26 = some (.iload_n 1, 1, 0, 0, 0) := by decide +kernel
theorem s20_26 {st : List Value} {M : pj_Mem} {l : pj_Loc} {a0 : Option Value} {x : Int32} : pj_step 20 (26, a0 :: some (.int x) :: l, st, M) = some (27, a0 :: some (.int x) :: l, .int x :: st, M) := st_iload_n q20_26 rfl
theorem x20_26 {st : List Value} {M : pj_Mem} {l : pj_Loc} {a0 : Option Value} {x : Int32} {o9 : Option Value × pj_Mem} : pj_Ends 20 (26, a0 :: some (.int x) :: l, st, M) o9 = pj_Ends 20 (27, a0 :: some (.int x) :: l, .int x :: st, M) o9 := pj_xs (s20_26)
theorem q20_27 : pj_row 20 27 = some (.aload_n 0, 1, 0, 0, 0) := by decide +kernel
theorem s20_27 {st : List Value} {M : pj_Mem} {l : pj_Loc} {x : Nat} : pj_step 20 (27, some (.ref x) :: l, st, M) = some (28, some (.ref x) :: l, .ref x :: st, M) := st_aload_n q20_27 rfl
theorem x20_27 {st : List Value} {M : pj_Mem} {l : pj_Loc} {x : Nat} {o9 : Option Value × pj_Mem} : pj_Ends 20 (27, some (.ref x) :: l, st, M) o9 = pj_Ends 20 (28, some (.ref x) :: l, .ref x :: st, M) o9 := pj_xs (s20_27)
theorem q20_28 : pj_row 20 28 = some (.getfield 15, 3, 3, 1, 0) := by decide +kernel
theorem s20_28 {L : pj_Loc} {st : List Value} {N S : Nat} {H : pj_Heap} {o : Nat} : pj_step 20 (28, L, .ref o :: st, (N, S, H)) = pj_pv 31 L st (N, S, H) (pj_fld (H o) 3 1) := st_getfield q20_28
theorem x20_28 {L : pj_Loc} {st : List Value} {N S : Nat} {H : pj_Heap} {o : Nat} {o9 : Option Value × pj_Mem} : pj_Ends 20 (28, L, .ref o :: st, (N, S, H)) o9 = pj_then 20 o9 (pj_pv 31 L st (N, S, H) (pj_fld (H o) 3 1)) := pj_xt q20_28 rfl (pj_cl_nc rfl) (s20_28)
theorem q20_31 : pj_row 20 31 = some (.iload_n 3, 1, 0, 0, 0) := by decide +kernel
theorem s20_31 {st : List Value} {M : pj_Mem} {l : pj_Loc} {a0 a1 a2 : Option Value} {x : Int32} : pj_step 20 (31, a0 :: a1 :: a2 :: some (.int x) :: l, st, M) = some (32, a0 :: a1 :: a2 :: some (.int x) :: l, .int x :: st, M) := st_iload_n q20_31 rfl
theorem x20_31 {st : List Value} {M : pj_Mem} {l : pj_Loc} {a0 a1 a2 : Option Value} {x : Int32} {o9 : Option Value × pj_Mem} : pj_Ends 20 (31, a0 :: a1 :: a2 :: some (.int x) :: l, st, M) o9 = pj_Ends 20 (32, a0 :: a1 :: a2 :: some (.int x) :: l, .int x :: st, M) o9 := pj_xs (s20_31)
theorem q20_32 : pj_row 20 32 = some (.iaload, 1, 0, 0, 0) := by decide +kernel
theorem s20_32 {L : pj_Loc} {st : List Value} {N S : Nat} {H : pj_Heap} {o : Nat} {i : Int32} : pj_step 20 (32, L, .int i :: .ref o :: st, (N, S, H)) = pj_pi 33 L st (N, S, H) (pj_arl (H o) 0 i) := st_iaload q20_32
theorem x20_32 {L : pj_Loc} {st : List Value} {N S : Nat} {H : pj_Heap} {o : Nat} {i : Int32} {o9 : Option Value × pj_Mem} : pj_Ends 20 (32, L, .int i :: .ref o :: st, (N, S, H)) o9 = pj_then 20 o9 (pj_pi 33 L st (N, S, H) (pj_arl (H o) 0 i)) := pj_xt q20_32 rfl (pj_cl_nc rfl) (s20_32)
theorem q20_33 : pj_row 20 33 = some (.invokestatic 106, 3, 0, 2, 5) := by decide +kernel
theorem s20_33 {L : pj_Loc} {st : List Value} {M : pj_Mem} {x y : Int32} : pj_step 20 (33, L, .int y :: .int x :: st, M) = pj_g4 st (some (36, L, .int (if y < x then y else x) :: st, M)) := st_min q20_33
theorem x20_33 {L : pj_Loc} {st : List Value} {M : pj_Mem} {x y : Int32} {o9 : Option Value × pj_Mem} : pj_Ends 20 (33, L, .int y :: .int x :: st, M) o9 = pj_then 20 o9 (pj_g4 st (some (36, L, .int (if y < x then y else x) :: st, M))) := pj_xt q20_33 rfl rfl (s20_33)
theorem q20_36 : pj_row 20 36 = some (.goto 9, 3, 45, 0, 0) := by decide +kernel
theorem s20_36 {L : pj_Loc} {st : List Value} {M : pj_Mem}  : pj_step 20 (36, L, st, M) = some (45, L, st, M) := st_goto q20_36
theorem x20_36 {L : pj_Loc} {st : List Value} {M : pj_Mem}  {o9 : Option Value × pj_Mem} : pj_Ends 20 (36, L, st, M) o9 = pj_Ends 20 (45, L, st, M) o9 := pj_xs (s20_36)
theorem q20_39 : pj_row 20 39 = some (.aload_n 0, 1, 0, 0, 0) := by decide +kernel
theorem s20_39 {st : List Value} {M : pj_Mem} {l : pj_Loc} {x : Nat} : pj_step 20 (39, some (.ref x) :: l, st, M) = some (40, some (.ref x) :: l, .ref x :: st, M) := st_aload_n q20_39 rfl
theorem x20_39 {st : List Value} {M : pj_Mem} {l : pj_Loc} {x : Nat} {o9 : Option Value × pj_Mem} : pj_Ends 20 (39, some (.ref x) :: l, st, M) o9 = pj_Ends 20 (40, some (.ref x) :: l, .ref x :: st, M) o9 := pj_xs (s20_39)
theorem q20_40 : pj_row 20 40 = some (.getfield 15, 3, 3, 1, 0) := by decide +kernel
theorem s20_40 {L : pj_Loc} {st : List Value} {N S : Nat} {H : pj_Heap} {o : Nat} : pj_step 20 (40, L, .ref o :: st, (N, S, H)) = pj_pv 43 L st (N, S, H) (pj_fld (H o) 3 1) := st_getfield q20_40
theorem x20_40 {L : pj_Loc} {st : List Value} {N S : Nat} {H : pj_Heap} {o : Nat} {o9 : Option Value × pj_Mem} : pj_Ends 20 (40, L, .ref o :: st, (N, S, H)) o9 = pj_then 20 o9 (pj_pv 43 L st (N, S, H) (pj_fld (H o) 3 1)) := pj_xt q20_40 rfl (pj_cl_nc rfl) (s20_40)
theorem q20_43 : pj_row 20 43 = some (.iload_n 3, 1, 0, 0, 0) := by decide +kernel
theorem s20_43 {st : List Value} {M : pj_Mem} {l : pj_Loc} {a0 a1 a2 : Option Value} {x : Int32} : pj_step 20 (43, a0 :: a1 :: a2 :: some (.int x) :: l, st, M) = some (44, a0 :: a1 :: a2 :: some (.int x) :: l, .int x :: st, M) := st_iload_n q20_43 rfl
theorem x20_43 {st : List Value} {M : pj_Mem} {l : pj_Loc} {a0 a1 a2 : Option Value} {x : Int32} {o9 : Option Value × pj_Mem} : pj_Ends 20 (43, a0 :: a1 :: a2 :: some (.int x) :: l, st, M) o9 = pj_Ends 20 (44, a0 :: a1 :: a2 :: some (.int x) :: l, .int x :: st, M) o9 := pj_xs (s20_43)
theorem q20_44 : pj_row 20 44 = some (.iaload, 1, 0, 0, 0) := by decide +kernel
theorem s20_44 {L : pj_Loc} {st : List Value} {N S : Nat} {H : pj_Heap} {o : Nat} {i : Int32} : pj_step 20 (44, L, .int i :: .ref o :: st, (N, S, H)) = pj_pi 45 L st (N, S, H) (pj_arl (H o) 0 i) := st_iaload q20_44
theorem x20_44 {L : pj_Loc} {st : List Value} {N S : Nat} {H : pj_Heap} {o : Nat} {i : Int32} {o9 : Option Value × pj_Mem} : pj_Ends 20 (44, L, .int i :: .ref o :: st, (N, S, H)) o9 = pj_then 20 o9 (pj_pi 45 L st (N, S, H) (pj_arl (H o) 0 i)) := pj_xt q20_44 rfl (pj_cl_nc rfl) (s20_44)
theorem q20_45 : pj_row 20 45 = some (.istore_n 1, 1, 0, 0, 0) := by decide +kernel
theorem s20_45 {st : List Value} {M : pj_Mem} {l : pj_Loc} {a0 a1 : Option Value} {x : Int32} (h : pj_long a0 = false) : pj_step 20 (45, a0 :: a1 :: l, .int x :: st, M) = some (46, a0 :: some (.int x) :: l, st, M) := st_istore_n q20_45 (pj_st_1 h)
theorem x20_45 {st : List Value} {M : pj_Mem} {l : pj_Loc} {a0 a1 : Option Value} {x : Int32} (h : pj_long a0 = false) {o9 : Option Value × pj_Mem} : pj_Ends 20 (45, a0 :: a1 :: l, .int x :: st, M) o9 = pj_Ends 20 (46, a0 :: some (.int x) :: l, st, M) o9 := pj_xs (s20_45 h)
theorem q20_46 : pj_row 20 46 = some (.iconst 1, 1, 0, 0, 0) := by decide +kernel
theorem s20_46 {L : pj_Loc} {st : List Value} {M : pj_Mem}  : pj_step 20 (46, L, st, M) = some (47, L, .int 1 :: st, M) := st_iconst q20_46 (by decide +kernel)
theorem x20_46 {L : pj_Loc} {st : List Value} {M : pj_Mem}  {o9 : Option Value × pj_Mem} : pj_Ends 20 (46, L, st, M) o9 = pj_Ends 20 (47, L, .int 1 :: st, M) o9 := pj_xs (s20_46)
theorem q20_47 : pj_row 20 47 = some (.istore_n 2, 1, 0, 0, 0) := by decide +kernel
theorem s20_47 {st : List Value} {M : pj_Mem} {l : pj_Loc} {a0 a1 a2 : Option Value} {x : Int32} (h : pj_long a1 = false) : pj_step 20 (47, a0 :: a1 :: a2 :: l, .int x :: st, M) = some (48, a0 :: a1 :: some (.int x) :: l, st, M) := st_istore_n q20_47 (pj_st_2 h)
theorem x20_47 {st : List Value} {M : pj_Mem} {l : pj_Loc} {a0 a1 a2 : Option Value} {x : Int32} (h : pj_long a1 = false) {o9 : Option Value × pj_Mem} : pj_Ends 20 (47, a0 :: a1 :: a2 :: l, .int x :: st, M) o9 = pj_Ends 20 (48, a0 :: a1 :: some (.int x) :: l, st, M) o9 := pj_xs (s20_47 h)
theorem q20_48 : pj_row 20 48 = some (.iinc 3 1, 3, 0, 0, 0) := by decide +kernel
theorem s20_48 {st : List Value} {M : pj_Mem} {l : pj_Loc} {a0 a1 a2 : Option Value} {x : Int32} (h : pj_long a2 = false) : pj_step 20 (48, a0 :: a1 :: a2 :: some (.int x) :: l, st, M) = some (51, a0 :: a1 :: a2 :: some (.int (x + 1)) :: l, st, M) := st_iinc q20_48 rfl (congrArg (fun y => x + y) (show Int32.ofInt 1 = 1 by decide +kernel)) (pj_st_3 h)
theorem x20_48 {st : List Value} {M : pj_Mem} {l : pj_Loc} {a0 a1 a2 : Option Value} {x : Int32} (h : pj_long a2 = false) {o9 : Option Value × pj_Mem} : pj_Ends 20 (48, a0 :: a1 :: a2 :: some (.int x) :: l, st, M) o9 = pj_Ends 20 (51, a0 :: a1 :: a2 :: some (.int (x + 1)) :: l, st, M) o9 := pj_xs (s20_48 h)
theorem q20_51 : pj_row 20 51 = some (.goto (-45), 3, 6, 0, 0) := by decide +kernel
theorem s20_51 {L : pj_Loc} {st : List Value} {M : pj_Mem}  : pj_step 20 (51, L, st, M) = some (6, L, st, M) := st_goto q20_51
theorem x20_51 {L : pj_Loc} {st : List Value} {M : pj_Mem}  {o9 : Option Value × pj_Mem} : pj_Ends 20 (51, L, st, M) o9 = pj_Ends 20 (6, L, st, M) o9 := pj_xs (s20_51)
theorem q20_54 : pj_row 20 54 = some (.iload_n 1, 1, 0, 0, 0) := by decide +kernel
theorem s20_54 {st : List Value} {M : pj_Mem} {l : pj_Loc} {a0 : Option Value} {x : Int32} : pj_step 20 (54, a0 :: some (.int x) :: l, st, M) = some (55, a0 :: some (.int x) :: l, .int x :: st, M) := st_iload_n q20_54 rfl
theorem x20_54 {st : List Value} {M : pj_Mem} {l : pj_Loc} {a0 : Option Value} {x : Int32} {o9 : Option Value × pj_Mem} : pj_Ends 20 (54, a0 :: some (.int x) :: l, st, M) o9 = pj_Ends 20 (55, a0 :: some (.int x) :: l, .int x :: st, M) o9 := pj_xs (s20_54)
theorem q20_55 : pj_row 20 55 = some (.ireturn, 1, 0, 0, 0) := by decide +kernel
theorem t20_55 {L : pj_Loc} {M : pj_Mem} {v : Int32} : pj_Ends 20 (55, L, [.int v], M) (some (.int v), M) := pj_Ends.ret q20_55 (pj_rtn_i rt20)
theorem rt21 : pj_rt 21 = none := rfl
theorem q21_0 : pj_row 21 0 = some (.aload_n 0, 1, 0, 0, 0) := by decide +kernel
theorem s21_0 {st : List Value} {M : pj_Mem} {l : pj_Loc} {x : Nat} : pj_step 21 (0, some (.ref x) :: l, st, M) = some (1, some (.ref x) :: l, .ref x :: st, M) := st_aload_n q21_0 rfl
theorem x21_0 {st : List Value} {M : pj_Mem} {l : pj_Loc} {x : Nat} {o9 : Option Value × pj_Mem} : pj_Ends 21 (0, some (.ref x) :: l, st, M) o9 = pj_Ends 21 (1, some (.ref x) :: l, .ref x :: st, M) o9 := pj_xs (s21_0)
theorem q21_1 : pj_row 21 1 = some (.getfield 89, 3, 3, 8, 0) := by decide +kernel
theorem s21_1 {L : pj_Loc} {st : List Value} {N S : Nat} {H : pj_Heap} {o : Nat} : pj_step 21 (1, L, .ref o :: st, (N, S, H)) = pj_pv 4 L st (N, S, H) (pj_fld (H o) 3 8) := st_getfield q21_1
theorem x21_1 {L : pj_Loc} {st : List Value} {N S : Nat} {H : pj_Heap} {o : Nat} {o9 : Option Value × pj_Mem} : pj_Ends 21 (1, L, .ref o :: st, (N, S, H)) o9 = pj_then 21 o9 (pj_pv 4 L st (N, S, H) (pj_fld (H o) 3 8)) := pj_xt q21_1 rfl (pj_cl_nc rfl) (s21_1)
theorem q21_4 : pj_row 21 4 = some (.bipush 7, 2, 0, 0, 0) := by decide +kernel
theorem s21_4 {L : pj_Loc} {st : List Value} {M : pj_Mem}  : pj_step 21 (4, L, st, M) = some (6, L, .int 7 :: st, M) := st_bipush q21_4 (by decide +kernel)
theorem x21_4 {L : pj_Loc} {st : List Value} {M : pj_Mem}  {o9 : Option Value × pj_Mem} : pj_Ends 21 (4, L, st, M) o9 = pj_Ends 21 (6, L, .int 7 :: st, M) o9 := pj_xs (s21_4)
theorem q21_6 : pj_row 21 6 = some (.if_icmp .eq 4, 3, 10, 0, 0) := by decide +kernel
theorem s21_6 {L : pj_Loc} {st : List Value} {M : pj_Mem} {x y : Int32} : pj_step 21 (6, L, .int y :: .int x :: st, M) = some (if x = y then 10 else 9, L, st, M) := st_icmp_eq q21_6
theorem x21_6 {L : pj_Loc} {st : List Value} {M : pj_Mem} {x y : Int32} {o9 : Option Value × pj_Mem} : pj_Ends 21 (6, L, .int y :: .int x :: st, M) o9 = pj_Ends 21 (if x = y then 10 else 9, L, st, M) o9 := pj_xs (s21_6)
theorem q21_9 : pj_row 21 9 = some (.return_, 1, 0, 0, 0) := by decide +kernel
theorem t21_9 {L : pj_Loc} {M : pj_Mem} : pj_Ends 21 (9, L, [], M) (none, M) := pj_Ends.ret q21_9 (pj_rtn_v rt21)
theorem q21_10 : pj_row 21 10 = some (.iconst 0, 1, 0, 0, 0) := by decide +kernel
theorem s21_10 {L : pj_Loc} {st : List Value} {M : pj_Mem}  : pj_step 21 (10, L, st, M) = some (11, L, .int 0 :: st, M) := st_iconst q21_10 (by decide +kernel)
theorem x21_10 {L : pj_Loc} {st : List Value} {M : pj_Mem}  {o9 : Option Value × pj_Mem} : pj_Ends 21 (10, L, st, M) o9 = pj_Ends 21 (11, L, .int 0 :: st, M) o9 := pj_xs (s21_10)
theorem q21_11 : pj_row 21 11 = some (.istore_n 2, 1, 0, 0, 0) := by decide +kernel
theorem s21_11 {st : List Value} {M : pj_Mem} {l : pj_Loc} {a0 a1 a2 : Option Value} {x : Int32} (h : pj_long a1 = false) : pj_step 21 (11, a0 :: a1 :: a2 :: l, .int x :: st, M) = some (12, a0 :: a1 :: some (.int x) :: l, st, M) := st_istore_n q21_11 (pj_st_2 h)
theorem x21_11 {st : List Value} {M : pj_Mem} {l : pj_Loc} {a0 a1 a2 : Option Value} {x : Int32} (h : pj_long a1 = false) {o9 : Option Value × pj_Mem} : pj_Ends 21 (11, a0 :: a1 :: a2 :: l, .int x :: st, M) o9 = pj_Ends 21 (12, a0 :: a1 :: some (.int x) :: l, st, M) o9 := pj_xs (s21_11 h)
theorem q21_12 : pj_row 21 12 = some (.iload_n 2, 1, 0, 0, 0) := by decide +kernel
theorem s21_12 {st : List Value} {M : pj_Mem} {l : pj_Loc} {a0 a1 : Option Value} {x : Int32} : pj_step 21 (12, a0 :: a1 :: some (.int x) :: l, st, M) = some (13, a0 :: a1 :: some (.int x) :: l, .int x :: st, M) := st_iload_n q21_12 rfl
theorem x21_12 {st : List Value} {M : pj_Mem} {l : pj_Loc} {a0 a1 : Option Value} {x : Int32} {o9 : Option Value × pj_Mem} : pj_Ends 21 (12, a0 :: a1 :: some (.int x) :: l, st, M) o9 = pj_Ends 21 (13, a0 :: a1 :: some (.int x) :: l, .int x :: st, M) o9 := pj_xs (s21_12)
theorem q21_13 : pj_row 21 13 = some (.iconst 3, 1, 0, 0, 0) := by decide +kernel
theorem s21_13 {L : pj_Loc} {st : List Value} {M : pj_Mem}  : pj_step 21 (13, L, st, M) = some (14, L, .int 3 :: st, M) := st_iconst q21_13 (by decide +kernel)
theorem x21_13 {L : pj_Loc} {st : List Value} {M : pj_Mem}  {o9 : Option Value × pj_Mem} : pj_Ends 21 (13, L, st, M) o9 = pj_Ends 21 (14, L, .int 3 :: st, M) o9 := pj_xs (s21_13)
theorem q21_14 : pj_row 21 14 = some (.if_icmp .ge 39, 3, 53, 0, 0) := by decide +kernel
theorem s21_14 {L : pj_Loc} {st : List Value} {M : pj_Mem} {x y : Int32} : pj_step 21 (14, L, .int y :: .int x :: st, M) = some (if y ≤ x then 53 else 17, L, st, M) := st_icmp_ge q21_14
theorem x21_14 {L : pj_Loc} {st : List Value} {M : pj_Mem} {x y : Int32} {o9 : Option Value × pj_Mem} : pj_Ends 21 (14, L, .int y :: .int x :: st, M) o9 = pj_Ends 21 (if y ≤ x then 53 else 17, L, st, M) o9 := pj_xs (s21_14)
theorem q21_17 : pj_row 21 17 = some (.aload_n 0, 1, 0, 0, 0) := by decide +kernel
theorem s21_17 {st : List Value} {M : pj_Mem} {l : pj_Loc} {x : Nat} : pj_step 21 (17, some (.ref x) :: l, st, M) = some (18, some (.ref x) :: l, .ref x :: st, M) := st_aload_n q21_17 rfl
theorem x21_17 {st : List Value} {M : pj_Mem} {l : pj_Loc} {x : Nat} {o9 : Option Value × pj_Mem} : pj_Ends 21 (17, some (.ref x) :: l, st, M) o9 = pj_Ends 21 (18, some (.ref x) :: l, .ref x :: st, M) o9 := pj_xs (s21_17)
theorem q21_18 : pj_row 21 18 = some (.getfield 15, 3, 3, 1, 0) := by decide +kernel
theorem s21_18 {L : pj_Loc} {st : List Value} {N S : Nat} {H : pj_Heap} {o : Nat} : pj_step 21 (18, L, .ref o :: st, (N, S, H)) = pj_pv 21 L st (N, S, H) (pj_fld (H o) 3 1) := st_getfield q21_18
theorem x21_18 {L : pj_Loc} {st : List Value} {N S : Nat} {H : pj_Heap} {o : Nat} {o9 : Option Value × pj_Mem} : pj_Ends 21 (18, L, .ref o :: st, (N, S, H)) o9 = pj_then 21 o9 (pj_pv 21 L st (N, S, H) (pj_fld (H o) 3 1)) := pj_xt q21_18 rfl (pj_cl_nc rfl) (s21_18)
theorem q21_21 : pj_row 21 21 = some (.iload_n 2, 1, 0, 0, 0) := by decide +kernel
theorem s21_21 {st : List Value} {M : pj_Mem} {l : pj_Loc} {a0 a1 : Option Value} {x : Int32} : pj_step 21 (21, a0 :: a1 :: some (.int x) :: l, st, M) = some (22, a0 :: a1 :: some (.int x) :: l, .int x :: st, M) := st_iload_n q21_21 rfl
theorem x21_21 {st : List Value} {M : pj_Mem} {l : pj_Loc} {a0 a1 : Option Value} {x : Int32} {o9 : Option Value × pj_Mem} : pj_Ends 21 (21, a0 :: a1 :: some (.int x) :: l, st, M) o9 = pj_Ends 21 (22, a0 :: a1 :: some (.int x) :: l, .int x :: st, M) o9 := pj_xs (s21_21)
theorem q21_22 : pj_row 21 22 = some (.iaload, 1, 0, 0, 0) := by decide +kernel
theorem s21_22 {L : pj_Loc} {st : List Value} {N S : Nat} {H : pj_Heap} {o : Nat} {i : Int32} : pj_step 21 (22, L, .int i :: .ref o :: st, (N, S, H)) = pj_pi 23 L st (N, S, H) (pj_arl (H o) 0 i) := st_iaload q21_22
theorem x21_22 {L : pj_Loc} {st : List Value} {N S : Nat} {H : pj_Heap} {o : Nat} {i : Int32} {o9 : Option Value × pj_Mem} : pj_Ends 21 (22, L, .int i :: .ref o :: st, (N, S, H)) o9 = pj_then 21 o9 (pj_pi 23 L st (N, S, H) (pj_arl (H o) 0 i)) := pj_xt q21_22 rfl (pj_cl_nc rfl) (s21_22)
theorem q21_23 : pj_row 21 23 = some (.aload_n 0, 1, 0, 0, 0) := by decide +kernel
theorem s21_23 {st : List Value} {M : pj_Mem} {l : pj_Loc} {x : Nat} : pj_step 21 (23, some (.ref x) :: l, st, M) = some (24, some (.ref x) :: l, .ref x :: st, M) := st_aload_n q21_23 rfl
theorem x21_23 {st : List Value} {M : pj_Mem} {l : pj_Loc} {x : Nat} {o9 : Option Value × pj_Mem} : pj_Ends 21 (23, some (.ref x) :: l, st, M) o9 = pj_Ends 21 (24, some (.ref x) :: l, .ref x :: st, M) o9 := pj_xs (s21_23)
theorem q21_24 : pj_row 21 24 = some (.getfield 103, 3, 3, 9, 0) := by decide +kernel
theorem s21_24 {L : pj_Loc} {st : List Value} {N S : Nat} {H : pj_Heap} {o : Nat} : pj_step 21 (24, L, .ref o :: st, (N, S, H)) = pj_pv 27 L st (N, S, H) (pj_fld (H o) 3 9) := st_getfield q21_24
theorem x21_24 {L : pj_Loc} {st : List Value} {N S : Nat} {H : pj_Heap} {o : Nat} {o9 : Option Value × pj_Mem} : pj_Ends 21 (24, L, .ref o :: st, (N, S, H)) o9 = pj_then 21 o9 (pj_pv 27 L st (N, S, H) (pj_fld (H o) 3 9)) := pj_xt q21_24 rfl (pj_cl_nc rfl) (s21_24)
theorem q21_27 : pj_row 21 27 = some (.isub, 1, 0, 0, 0) := by decide +kernel
theorem s21_27 {L : pj_Loc} {st : List Value} {M : pj_Mem} {x y : Int32} : pj_step 21 (27, L, .int y :: .int x :: st, M) = some (28, L, .int (x - y) :: st, M) := st_isub q21_27
theorem x21_27 {L : pj_Loc} {st : List Value} {M : pj_Mem} {x y : Int32} {o9 : Option Value × pj_Mem} : pj_Ends 21 (27, L, .int y :: .int x :: st, M) o9 = pj_Ends 21 (28, L, .int (x - y) :: st, M) o9 := pj_xs (s21_27)
theorem q21_28 : pj_row 21 28 = some (.invokestatic 113, 3, 0, 1, 6) := by decide +kernel
theorem s21_28 {L : pj_Loc} {st : List Value} {M : pj_Mem} {x : Int32} : pj_step 21 (28, L, .int x :: st, M) = pj_g4 st (some (31, L, .int (if 0 ≤ x then x else 0 - x) :: st, M)) := st_abs q21_28
theorem x21_28 {L : pj_Loc} {st : List Value} {M : pj_Mem} {x : Int32} {o9 : Option Value × pj_Mem} : pj_Ends 21 (28, L, .int x :: st, M) o9 = pj_then 21 o9 (pj_g4 st (some (31, L, .int (if 0 ≤ x then x else 0 - x) :: st, M))) := pj_xt q21_28 rfl rfl (s21_28)
theorem q21_31 : pj_row 21 31 = some (.iload_n 1, 1, 0, 0, 0) := by decide +kernel
theorem s21_31 {st : List Value} {M : pj_Mem} {l : pj_Loc} {a0 : Option Value} {x : Int32} : pj_step 21 (31, a0 :: some (.int x) :: l, st, M) = some (32, a0 :: some (.int x) :: l, .int x :: st, M) := st_iload_n q21_31 rfl
theorem x21_31 {st : List Value} {M : pj_Mem} {l : pj_Loc} {a0 : Option Value} {x : Int32} {o9 : Option Value × pj_Mem} : pj_Ends 21 (31, a0 :: some (.int x) :: l, st, M) o9 = pj_Ends 21 (32, a0 :: some (.int x) :: l, .int x :: st, M) o9 := pj_xs (s21_31)
theorem q21_32 : pj_row 21 32 = some (.if_icmp .le 15, 3, 47, 0, 0) := by decide +kernel
theorem s21_32 {L : pj_Loc} {st : List Value} {M : pj_Mem} {x y : Int32} : pj_step 21 (32, L, .int y :: .int x :: st, M) = some (if x ≤ y then 47 else 35, L, st, M) := st_icmp_le q21_32
theorem x21_32 {L : pj_Loc} {st : List Value} {M : pj_Mem} {x y : Int32} {o9 : Option Value × pj_Mem} : pj_Ends 21 (32, L, .int y :: .int x :: st, M) o9 = pj_Ends 21 (if x ≤ y then 47 else 35, L, st, M) o9 := pj_xs (s21_32)
theorem q21_35 : pj_row 21 35 = some (.aload_n 0, 1, 0, 0, 0) := by decide +kernel
theorem s21_35 {st : List Value} {M : pj_Mem} {l : pj_Loc} {x : Nat} : pj_step 21 (35, some (.ref x) :: l, st, M) = some (36, some (.ref x) :: l, .ref x :: st, M) := st_aload_n q21_35 rfl
theorem x21_35 {st : List Value} {M : pj_Mem} {l : pj_Loc} {x : Nat} {o9 : Option Value × pj_Mem} : pj_Ends 21 (35, some (.ref x) :: l, st, M) o9 = pj_Ends 21 (36, some (.ref x) :: l, .ref x :: st, M) o9 := pj_xs (s21_35)
theorem q21_36 : pj_row 21 36 = some (.aload_n 0, 1, 0, 0, 0) := by decide +kernel
theorem s21_36 {st : List Value} {M : pj_Mem} {l : pj_Loc} {x : Nat} : pj_step 21 (36, some (.ref x) :: l, st, M) = some (37, some (.ref x) :: l, .ref x :: st, M) := st_aload_n q21_36 rfl
theorem x21_36 {st : List Value} {M : pj_Mem} {l : pj_Loc} {x : Nat} {o9 : Option Value × pj_Mem} : pj_Ends 21 (36, some (.ref x) :: l, st, M) o9 = pj_Ends 21 (37, some (.ref x) :: l, .ref x :: st, M) o9 := pj_xs (s21_36)
theorem q21_37 : pj_row 21 37 = some (.getfield 89, 3, 3, 8, 0) := by decide +kernel
theorem s21_37 {L : pj_Loc} {st : List Value} {N S : Nat} {H : pj_Heap} {o : Nat} : pj_step 21 (37, L, .ref o :: st, (N, S, H)) = pj_pv 40 L st (N, S, H) (pj_fld (H o) 3 8) := st_getfield q21_37
theorem x21_37 {L : pj_Loc} {st : List Value} {N S : Nat} {H : pj_Heap} {o : Nat} {o9 : Option Value × pj_Mem} : pj_Ends 21 (37, L, .ref o :: st, (N, S, H)) o9 = pj_then 21 o9 (pj_pv 40 L st (N, S, H) (pj_fld (H o) 3 8)) := pj_xt q21_37 rfl (pj_cl_nc rfl) (s21_37)
theorem q21_40 : pj_row 21 40 = some (.iload_n 2, 1, 0, 0, 0) := by decide +kernel
theorem s21_40 {st : List Value} {M : pj_Mem} {l : pj_Loc} {a0 a1 : Option Value} {x : Int32} : pj_step 21 (40, a0 :: a1 :: some (.int x) :: l, st, M) = some (41, a0 :: a1 :: some (.int x) :: l, .int x :: st, M) := st_iload_n q21_40 rfl
theorem x21_40 {st : List Value} {M : pj_Mem} {l : pj_Loc} {a0 a1 : Option Value} {x : Int32} {o9 : Option Value × pj_Mem} : pj_Ends 21 (40, a0 :: a1 :: some (.int x) :: l, st, M) o9 = pj_Ends 21 (41, a0 :: a1 :: some (.int x) :: l, .int x :: st, M) o9 := pj_xs (s21_40)
theorem q21_41 : pj_row 21 41 = some (.invokestatic 92, 3, 17, 2, 1) := by decide +kernel
theorem e21_41 {L : pj_Loc} {st : List Value} {N S : Nat} {H : pj_Heap} {o : Option Value × pj_Mem} {M' : pj_Mem} {x0 : Int32} {x1 : Int32} {r : Int32} (h4 : pj_le4 st = true) (h1 : pj_Ends 17 (0, [some (.int x0), some (.int x1)], [], (N, S, H)) (some (.int r), M')) (h2 : pj_Ends 21 (44, L, .int r :: st, M') o) : pj_Ends 21 (41, L, .int x1 :: .int x0 :: st, (N, S, H)) o := ec_s2 q21_41 (Or.inr rfl) h4 rfl h1 h2
theorem q21_44 : pj_row 21 44 = some (.putfield 89, 3, 3, 8, 0) := by decide +kernel
theorem s21_44 {L : pj_Loc} {st : List Value} {N S : Nat} {H : pj_Heap} {o : Nat} {v : Value} : pj_step 21 (44, L, v :: .ref o :: st, (N, S, H)) = pj_set 47 L st (N, S, H) o (pj_fset (H o) 3 8 v) := st_putfield q21_44
theorem x21_44 {L : pj_Loc} {st : List Value} {N S : Nat} {H : pj_Heap} {o : Nat} {v : Value} {o9 : Option Value × pj_Mem} : pj_Ends 21 (44, L, v :: .ref o :: st, (N, S, H)) o9 = pj_then 21 o9 (pj_set 47 L st (N, S, H) o (pj_fset (H o) 3 8 v)) := pj_xt q21_44 rfl (pj_cl_nc rfl) (s21_44)
theorem q21_47 : pj_row 21 47 = some (.iinc 2 1, 3, 0, 0, 0) := by decide +kernel
theorem s21_47 {st : List Value} {M : pj_Mem} {l : pj_Loc} {a0 a1 : Option Value} {x : Int32} (h : pj_long a1 = false) : pj_step 21 (47, a0 :: a1 :: some (.int x) :: l, st, M) = some (50, a0 :: a1 :: some (.int (x + 1)) :: l, st, M) := st_iinc q21_47 rfl (congrArg (fun y => x + y) (show Int32.ofInt 1 = 1 by decide +kernel)) (pj_st_2 h)
theorem x21_47 {st : List Value} {M : pj_Mem} {l : pj_Loc} {a0 a1 : Option Value} {x : Int32} (h : pj_long a1 = false) {o9 : Option Value × pj_Mem} : pj_Ends 21 (47, a0 :: a1 :: some (.int x) :: l, st, M) o9 = pj_Ends 21 (50, a0 :: a1 :: some (.int (x + 1)) :: l, st, M) o9 := pj_xs (s21_47 h)
theorem q21_50 : pj_row 21 50 = some (.goto (-38), 3, 12, 0, 0) := by decide +kernel
theorem s21_50 {L : pj_Loc} {st : List Value} {M : pj_Mem}  : pj_step 21 (50, L, st, M) = some (12, L, st, M) := st_goto q21_50
theorem x21_50 {L : pj_Loc} {st : List Value} {M : pj_Mem}  {o9 : Option Value × pj_Mem} : pj_Ends 21 (50, L, st, M) o9 = pj_Ends 21 (12, L, st, M) o9 := pj_xs (s21_50)
theorem q21_53 : pj_row 21 53 = some (.return_, 1, 0, 0, 0) := by decide +kernel
theorem t21_53 {L : pj_Loc} {M : pj_Mem} : pj_Ends 21 (53, L, [], M) (none, M) := pj_Ends.ret q21_53 (pj_rtn_v rt21)
theorem rt22 : pj_rt 22 = none := rfl
theorem q22_0 : pj_row 22 0 = some (.aload_n 0, 1, 0, 0, 0) := by decide +kernel
theorem s22_0 {st : List Value} {M : pj_Mem} {l : pj_Loc} {x : Nat} : pj_step 22 (0, some (.ref x) :: l, st, M) = some (1, some (.ref x) :: l, .ref x :: st, M) := st_aload_n q22_0 rfl
theorem x22_0 {st : List Value} {M : pj_Mem} {l : pj_Loc} {x : Nat} {o9 : Option Value × pj_Mem} : pj_Ends 22 (0, some (.ref x) :: l, st, M) o9 = pj_Ends 22 (1, some (.ref x) :: l, .ref x :: st, M) o9 := pj_xs (s22_0)
theorem q22_1 : pj_row 22 1 = some (.getfield 103, 3, 3, 9, 0) := by decide +kernel
theorem s22_1 {L : pj_Loc} {st : List Value} {N S : Nat} {H : pj_Heap} {o : Nat} : pj_step 22 (1, L, .ref o :: st, (N, S, H)) = pj_pv 4 L st (N, S, H) (pj_fld (H o) 3 9) := st_getfield q22_1
theorem x22_1 {L : pj_Loc} {st : List Value} {N S : Nat} {H : pj_Heap} {o : Nat} {o9 : Option Value × pj_Mem} : pj_Ends 22 (1, L, .ref o :: st, (N, S, H)) o9 = pj_then 22 o9 (pj_pv 4 L st (N, S, H) (pj_fld (H o) 3 9)) := pj_xt q22_1 rfl (pj_cl_nc rfl) (s22_1)
theorem q22_4 : pj_row 22 4 = some (.invokestatic 113, 3, 0, 1, 6) := by decide +kernel
theorem s22_4 {L : pj_Loc} {st : List Value} {M : pj_Mem} {x : Int32} : pj_step 22 (4, L, .int x :: st, M) = pj_g4 st (some (7, L, .int (if 0 ≤ x then x else 0 - x) :: st, M)) := st_abs q22_4
theorem x22_4 {L : pj_Loc} {st : List Value} {M : pj_Mem} {x : Int32} {o9 : Option Value × pj_Mem} : pj_Ends 22 (4, L, .int x :: st, M) o9 = pj_then 22 o9 (pj_g4 st (some (7, L, .int (if 0 ≤ x then x else 0 - x) :: st, M))) := pj_xt q22_4 rfl rfl (s22_4)
theorem q22_7 : pj_row 22 7 = some (.iconst 3, 1, 0, 0, 0) := by decide +kernel
theorem s22_7 {L : pj_Loc} {st : List Value} {M : pj_Mem}  : pj_step 22 (7, L, st, M) = some (8, L, .int 3 :: st, M) := st_iconst q22_7 (by decide +kernel)
theorem x22_7 {L : pj_Loc} {st : List Value} {M : pj_Mem}  {o9 : Option Value × pj_Mem} : pj_Ends 22 (7, L, st, M) o9 = pj_Ends 22 (8, L, .int 3 :: st, M) o9 := pj_xs (s22_7)
theorem q22_8 : pj_row 22 8 = some (.if_icmp .gt 14, 3, 22, 0, 0) := by decide +kernel
theorem s22_8 {L : pj_Loc} {st : List Value} {M : pj_Mem} {x y : Int32} : pj_step 22 (8, L, .int y :: .int x :: st, M) = some (if y < x then 22 else 11, L, st, M) := st_icmp_gt q22_8
theorem x22_8 {L : pj_Loc} {st : List Value} {M : pj_Mem} {x y : Int32} {o9 : Option Value × pj_Mem} : pj_Ends 22 (8, L, .int y :: .int x :: st, M) o9 = pj_Ends 22 (if y < x then 22 else 11, L, st, M) o9 := pj_xs (s22_8)
theorem q22_11 : pj_row 22 11 = some (.aload_n 0, 1, 0, 0, 0) := by decide +kernel
theorem s22_11 {st : List Value} {M : pj_Mem} {l : pj_Loc} {x : Nat} : pj_step 22 (11, some (.ref x) :: l, st, M) = some (12, some (.ref x) :: l, .ref x :: st, M) := st_aload_n q22_11 rfl
theorem x22_11 {st : List Value} {M : pj_Mem} {l : pj_Loc} {x : Nat} {o9 : Option Value × pj_Mem} : pj_Ends 22 (11, some (.ref x) :: l, st, M) o9 = pj_Ends 22 (12, some (.ref x) :: l, .ref x :: st, M) o9 := pj_xs (s22_11)
theorem q22_12 : pj_row 22 12 = some (.getfield 39, 3, 3, 6, 0) := by decide +kernel
theorem s22_12 {L : pj_Loc} {st : List Value} {N S : Nat} {H : pj_Heap} {o : Nat} : pj_step 22 (12, L, .ref o :: st, (N, S, H)) = pj_pv 15 L st (N, S, H) (pj_fld (H o) 3 6) := st_getfield q22_12
theorem x22_12 {L : pj_Loc} {st : List Value} {N S : Nat} {H : pj_Heap} {o : Nat} {o9 : Option Value × pj_Mem} : pj_Ends 22 (12, L, .ref o :: st, (N, S, H)) o9 = pj_then 22 o9 (pj_pv 15 L st (N, S, H) (pj_fld (H o) 3 6)) := pj_xt q22_12 rfl (pj_cl_nc rfl) (s22_12)
theorem q22_15 : pj_row 22 15 = some (.ifCond .ne 7, 3, 22, 0, 0) := by decide +kernel
theorem s22_15 {L : pj_Loc} {st : List Value} {M : pj_Mem} {x : Int32} : pj_step 22 (15, L, .int x :: st, M) = some (if ¬ x = 0 then 22 else 18, L, st, M) := st_if_ne q22_15
theorem x22_15 {L : pj_Loc} {st : List Value} {M : pj_Mem} {x : Int32} {o9 : Option Value × pj_Mem} : pj_Ends 22 (15, L, .int x :: st, M) o9 = pj_Ends 22 (if ¬ x = 0 then 22 else 18, L, st, M) o9 := pj_xs (s22_15)
theorem q22_18 : pj_row 22 18 = some (.iconst 1, 1, 0, 0, 0) := by decide +kernel
theorem s22_18 {L : pj_Loc} {st : List Value} {M : pj_Mem}  : pj_step 22 (18, L, st, M) = some (19, L, .int 1 :: st, M) := st_iconst q22_18 (by decide +kernel)
theorem x22_18 {L : pj_Loc} {st : List Value} {M : pj_Mem}  {o9 : Option Value × pj_Mem} : pj_Ends 22 (18, L, st, M) o9 = pj_Ends 22 (19, L, .int 1 :: st, M) o9 := pj_xs (s22_18)
theorem q22_19 : pj_row 22 19 = some (.goto 4, 3, 23, 0, 0) := by decide +kernel
theorem s22_19 {L : pj_Loc} {st : List Value} {M : pj_Mem}  : pj_step 22 (19, L, st, M) = some (23, L, st, M) := st_goto q22_19
theorem x22_19 {L : pj_Loc} {st : List Value} {M : pj_Mem}  {o9 : Option Value × pj_Mem} : pj_Ends 22 (19, L, st, M) o9 = pj_Ends 22 (23, L, st, M) o9 := pj_xs (s22_19)
theorem q22_22 : pj_row 22 22 = some (.iconst 0, 1, 0, 0, 0) := by decide +kernel
theorem s22_22 {L : pj_Loc} {st : List Value} {M : pj_Mem}  : pj_step 22 (22, L, st, M) = some (23, L, .int 0 :: st, M) := st_iconst q22_22 (by decide +kernel)
theorem x22_22 {L : pj_Loc} {st : List Value} {M : pj_Mem}  {o9 : Option Value × pj_Mem} : pj_Ends 22 (22, L, st, M) o9 = pj_Ends 22 (23, L, .int 0 :: st, M) o9 := pj_xs (s22_22)
theorem q22_23 : pj_row 22 23 = some (.istore_n 2, 1, 0, 0, 0) := by decide +kernel
theorem s22_23 {st : List Value} {M : pj_Mem} {l : pj_Loc} {a0 a1 a2 : Option Value} {x : Int32} (h : pj_long a1 = false) : pj_step 22 (23, a0 :: a1 :: a2 :: l, .int x :: st, M) = some (24, a0 :: a1 :: some (.int x) :: l, st, M) := st_istore_n q22_23 (pj_st_2 h)
theorem x22_23 {st : List Value} {M : pj_Mem} {l : pj_Loc} {a0 a1 a2 : Option Value} {x : Int32} (h : pj_long a1 = false) {o9 : Option Value × pj_Mem} : pj_Ends 22 (23, a0 :: a1 :: a2 :: l, .int x :: st, M) o9 = pj_Ends 22 (24, a0 :: a1 :: some (.int x) :: l, st, M) o9 := pj_xs (s22_23 h)
theorem q22_24 : pj_row 22 24 = some (.iconst 0, 1, 0, 0, 0) := by decide +kernel
theorem s22_24 {L : pj_Loc} {st : List Value} {M : pj_Mem}  : pj_step 22 (24, L, st, M) = some (25, L, .int 0 :: st, M) := st_iconst q22_24 (by decide +kernel)
theorem x22_24 {L : pj_Loc} {st : List Value} {M : pj_Mem}  {o9 : Option Value × pj_Mem} : pj_Ends 22 (24, L, st, M) o9 = pj_Ends 22 (25, L, .int 0 :: st, M) o9 := pj_xs (s22_24)
theorem q22_25 : pj_row 22 25 = some (.istore_n 3, 1, 0, 0, 0) := by decide +kernel
theorem s22_25 {st : List Value} {M : pj_Mem} {l : pj_Loc} {a0 a1 a2 a3 : Option Value} {x : Int32} (h : pj_long a2 = false) : pj_step 22 (25, a0 :: a1 :: a2 :: a3 :: l, .int x :: st, M) = some (26, a0 :: a1 :: a2 :: some (.int x) :: l, st, M) := st_istore_n q22_25 (pj_st_3 h)
theorem x22_25 {st : List Value} {M : pj_Mem} {l : pj_Loc} {a0 a1 a2 a3 : Option Value} {x : Int32} (h : pj_long a2 = false) {o9 : Option Value × pj_Mem} : pj_Ends 22 (25, a0 :: a1 :: a2 :: a3 :: l, .int x :: st, M) o9 = pj_Ends 22 (26, a0 :: a1 :: a2 :: some (.int x) :: l, st, M) o9 := pj_xs (s22_25 h)
theorem q22_26 : pj_row 22 26 = some (.iload_n 3, 1, 0, 0, 0) := by decide +kernel
theorem s22_26 {st : List Value} {M : pj_Mem} {l : pj_Loc} {a0 a1 a2 : Option Value} {x : Int32} : pj_step 22 (26, a0 :: a1 :: a2 :: some (.int x) :: l, st, M) = some (27, a0 :: a1 :: a2 :: some (.int x) :: l, .int x :: st, M) := st_iload_n q22_26 rfl
theorem x22_26 {st : List Value} {M : pj_Mem} {l : pj_Loc} {a0 a1 a2 : Option Value} {x : Int32} {o9 : Option Value × pj_Mem} : pj_Ends 22 (26, a0 :: a1 :: a2 :: some (.int x) :: l, st, M) o9 = pj_Ends 22 (27, a0 :: a1 :: a2 :: some (.int x) :: l, .int x :: st, M) o9 := pj_xs (s22_26)
theorem q22_27 : pj_row 22 27 = some (.iconst 3, 1, 0, 0, 0) := by decide +kernel
theorem s22_27 {L : pj_Loc} {st : List Value} {M : pj_Mem}  : pj_step 22 (27, L, st, M) = some (28, L, .int 3 :: st, M) := st_iconst q22_27 (by decide +kernel)
theorem x22_27 {L : pj_Loc} {st : List Value} {M : pj_Mem}  {o9 : Option Value × pj_Mem} : pj_Ends 22 (27, L, st, M) o9 = pj_Ends 22 (28, L, .int 3 :: st, M) o9 := pj_xs (s22_27)
theorem q22_28 : pj_row 22 28 = some (.if_icmp .ge 66, 3, 94, 0, 0) := by decide +kernel
theorem s22_28 {L : pj_Loc} {st : List Value} {M : pj_Mem} {x y : Int32} : pj_step 22 (28, L, .int y :: .int x :: st, M) = some (if y ≤ x then 94 else 31, L, st, M) := st_icmp_ge q22_28
theorem x22_28 {L : pj_Loc} {st : List Value} {M : pj_Mem} {x y : Int32} {o9 : Option Value × pj_Mem} : pj_Ends 22 (28, L, .int y :: .int x :: st, M) o9 = pj_Ends 22 (if y ≤ x then 94 else 31, L, st, M) o9 := pj_xs (s22_28)
theorem q22_31 : pj_row 22 31 = some (.iload_n 2, 1, 0, 0, 0) := by decide +kernel
theorem s22_31 {st : List Value} {M : pj_Mem} {l : pj_Loc} {a0 a1 : Option Value} {x : Int32} : pj_step 22 (31, a0 :: a1 :: some (.int x) :: l, st, M) = some (32, a0 :: a1 :: some (.int x) :: l, .int x :: st, M) := st_iload_n q22_31 rfl
theorem x22_31 {st : List Value} {M : pj_Mem} {l : pj_Loc} {a0 a1 : Option Value} {x : Int32} {o9 : Option Value × pj_Mem} : pj_Ends 22 (31, a0 :: a1 :: some (.int x) :: l, st, M) o9 = pj_Ends 22 (32, a0 :: a1 :: some (.int x) :: l, .int x :: st, M) o9 := pj_xs (s22_31)
theorem q22_32 : pj_row 22 32 = some (.ifCond .eq 18, 3, 50, 0, 0) := by decide +kernel
theorem s22_32 {L : pj_Loc} {st : List Value} {M : pj_Mem} {x : Int32} : pj_step 22 (32, L, .int x :: st, M) = some (if x = 0 then 50 else 35, L, st, M) := st_if_eq q22_32
theorem x22_32 {L : pj_Loc} {st : List Value} {M : pj_Mem} {x : Int32} {o9 : Option Value × pj_Mem} : pj_Ends 22 (32, L, .int x :: st, M) o9 = pj_Ends 22 (if x = 0 then 50 else 35, L, st, M) o9 := pj_xs (s22_32)
theorem q22_35 : pj_row 22 35 = some (.aload_n 0, 1, 0, 0, 0) := by decide +kernel
theorem s22_35 {st : List Value} {M : pj_Mem} {l : pj_Loc} {x : Nat} : pj_step 22 (35, some (.ref x) :: l, st, M) = some (36, some (.ref x) :: l, .ref x :: st, M) := st_aload_n q22_35 rfl
theorem x22_35 {st : List Value} {M : pj_Mem} {l : pj_Loc} {x : Nat} {o9 : Option Value × pj_Mem} : pj_Ends 22 (35, some (.ref x) :: l, st, M) o9 = pj_Ends 22 (36, some (.ref x) :: l, .ref x :: st, M) o9 := pj_xs (s22_35)
theorem q22_36 : pj_row 22 36 = some (.getfield 89, 3, 3, 8, 0) := by decide +kernel
theorem s22_36 {L : pj_Loc} {st : List Value} {N S : Nat} {H : pj_Heap} {o : Nat} : pj_step 22 (36, L, .ref o :: st, (N, S, H)) = pj_pv 39 L st (N, S, H) (pj_fld (H o) 3 8) := st_getfield q22_36
theorem x22_36 {L : pj_Loc} {st : List Value} {N S : Nat} {H : pj_Heap} {o : Nat} {o9 : Option Value × pj_Mem} : pj_Ends 22 (36, L, .ref o :: st, (N, S, H)) o9 = pj_then 22 o9 (pj_pv 39 L st (N, S, H) (pj_fld (H o) 3 8)) := pj_xt q22_36 rfl (pj_cl_nc rfl) (s22_36)
theorem q22_39 : pj_row 22 39 = some (.iload_n 3, 1, 0, 0, 0) := by decide +kernel
theorem s22_39 {st : List Value} {M : pj_Mem} {l : pj_Loc} {a0 a1 a2 : Option Value} {x : Int32} : pj_step 22 (39, a0 :: a1 :: a2 :: some (.int x) :: l, st, M) = some (40, a0 :: a1 :: a2 :: some (.int x) :: l, .int x :: st, M) := st_iload_n q22_39 rfl
theorem x22_39 {st : List Value} {M : pj_Mem} {l : pj_Loc} {a0 a1 a2 : Option Value} {x : Int32} {o9 : Option Value × pj_Mem} : pj_Ends 22 (39, a0 :: a1 :: a2 :: some (.int x) :: l, st, M) o9 = pj_Ends 22 (40, a0 :: a1 :: a2 :: some (.int x) :: l, .int x :: st, M) o9 := pj_xs (s22_39)
theorem q22_40 : pj_row 22 40 = some (.invokestatic 109, 3, 8, 2, 1) := by decide +kernel
theorem e22_40 {L : pj_Loc} {st : List Value} {N S : Nat} {H : pj_Heap} {o : Option Value × pj_Mem} {M' : pj_Mem} {x0 : Int32} {x1 : Int32} {r : Int32} (h4 : pj_le4 st = true) (h1 : pj_Ends 8 (0, [some (.int x0), some (.int x1)], [], (N, S, H)) (some (.int r), M')) (h2 : pj_Ends 22 (43, L, .int r :: st, M') o) : pj_Ends 22 (40, L, .int x1 :: .int x0 :: st, (N, S, H)) o := ec_s2 q22_40 (Or.inr rfl) h4 rfl h1 h2
theorem q22_43 : pj_row 22 43 = some (.ifCond .eq 7, 3, 50, 0, 0) := by decide +kernel
theorem s22_43 {L : pj_Loc} {st : List Value} {M : pj_Mem} {x : Int32} : pj_step 22 (43, L, .int x :: st, M) = some (if x = 0 then 50 else 46, L, st, M) := st_if_eq q22_43
theorem x22_43 {L : pj_Loc} {st : List Value} {M : pj_Mem} {x : Int32} {o9 : Option Value × pj_Mem} : pj_Ends 22 (43, L, .int x :: st, M) o9 = pj_Ends 22 (if x = 0 then 50 else 46, L, st, M) o9 := pj_xs (s22_43)
theorem q22_46 : pj_row 22 46 = some (.iconst 1, 1, 0, 0, 0) := by decide +kernel
theorem s22_46 {L : pj_Loc} {st : List Value} {M : pj_Mem}  : pj_step 22 (46, L, st, M) = some (47, L, .int 1 :: st, M) := st_iconst q22_46 (by decide +kernel)
theorem x22_46 {L : pj_Loc} {st : List Value} {M : pj_Mem}  {o9 : Option Value × pj_Mem} : pj_Ends 22 (46, L, st, M) o9 = pj_Ends 22 (47, L, .int 1 :: st, M) o9 := pj_xs (s22_46)
theorem q22_47 : pj_row 22 47 = some (.goto 4, 3, 51, 0, 0) := by decide +kernel
theorem s22_47 {L : pj_Loc} {st : List Value} {M : pj_Mem}  : pj_step 22 (47, L, st, M) = some (51, L, st, M) := st_goto q22_47
theorem x22_47 {L : pj_Loc} {st : List Value} {M : pj_Mem}  {o9 : Option Value × pj_Mem} : pj_Ends 22 (47, L, st, M) o9 = pj_Ends 22 (51, L, st, M) o9 := pj_xs (s22_47)
theorem q22_50 : pj_row 22 50 = some (.iconst 0, 1, 0, 0, 0) := by decide +kernel
theorem s22_50 {L : pj_Loc} {st : List Value} {M : pj_Mem}  : pj_step 22 (50, L, st, M) = some (51, L, .int 0 :: st, M) := st_iconst q22_50 (by decide +kernel)
theorem x22_50 {L : pj_Loc} {st : List Value} {M : pj_Mem}  {o9 : Option Value × pj_Mem} : pj_Ends 22 (50, L, st, M) o9 = pj_Ends 22 (51, L, .int 0 :: st, M) o9 := pj_xs (s22_50)
theorem q22_51 : pj_row 22 51 = some (.istore 4, 2, 0, 0, 0) := by decide +kernel
theorem s22_51 {st : List Value} {M : pj_Mem} {l : pj_Loc} {a0 a1 a2 a3 a4 : Option Value} {x : Int32} (h : pj_long a3 = false) : pj_step 22 (51, a0 :: a1 :: a2 :: a3 :: a4 :: l, .int x :: st, M) = some (53, a0 :: a1 :: a2 :: a3 :: some (.int x) :: l, st, M) := st_istore q22_51 (pj_st_4 h)
theorem x22_51 {st : List Value} {M : pj_Mem} {l : pj_Loc} {a0 a1 a2 a3 a4 : Option Value} {x : Int32} (h : pj_long a3 = false) {o9 : Option Value × pj_Mem} : pj_Ends 22 (51, a0 :: a1 :: a2 :: a3 :: a4 :: l, .int x :: st, M) o9 = pj_Ends 22 (53, a0 :: a1 :: a2 :: a3 :: some (.int x) :: l, st, M) o9 := pj_xs (s22_51 h)
theorem q22_53 : pj_row 22 53 = some (.aload_n 0, 1, 0, 0, 0) := by decide +kernel
theorem s22_53 {st : List Value} {M : pj_Mem} {l : pj_Loc} {x : Nat} : pj_step 22 (53, some (.ref x) :: l, st, M) = some (54, some (.ref x) :: l, .ref x :: st, M) := st_aload_n q22_53 rfl
theorem x22_53 {st : List Value} {M : pj_Mem} {l : pj_Loc} {x : Nat} {o9 : Option Value × pj_Mem} : pj_Ends 22 (53, some (.ref x) :: l, st, M) o9 = pj_Ends 22 (54, some (.ref x) :: l, .ref x :: st, M) o9 := pj_xs (s22_53)
theorem q22_54 : pj_row 22 54 = some (.getfield 18, 3, 3, 2, 0) := by decide +kernel
theorem s22_54 {L : pj_Loc} {st : List Value} {N S : Nat} {H : pj_Heap} {o : Nat} : pj_step 22 (54, L, .ref o :: st, (N, S, H)) = pj_pv 57 L st (N, S, H) (pj_fld (H o) 3 2) := st_getfield q22_54
theorem x22_54 {L : pj_Loc} {st : List Value} {N S : Nat} {H : pj_Heap} {o : Nat} {o9 : Option Value × pj_Mem} : pj_Ends 22 (54, L, .ref o :: st, (N, S, H)) o9 = pj_then 22 o9 (pj_pv 57 L st (N, S, H) (pj_fld (H o) 3 2)) := pj_xt q22_54 rfl (pj_cl_nc rfl) (s22_54)
theorem q22_57 : pj_row 22 57 = some (.iload_n 3, 1, 0, 0, 0) := by decide +kernel
theorem s22_57 {st : List Value} {M : pj_Mem} {l : pj_Loc} {a0 a1 a2 : Option Value} {x : Int32} : pj_step 22 (57, a0 :: a1 :: a2 :: some (.int x) :: l, st, M) = some (58, a0 :: a1 :: a2 :: some (.int x) :: l, .int x :: st, M) := st_iload_n q22_57 rfl
theorem x22_57 {st : List Value} {M : pj_Mem} {l : pj_Loc} {a0 a1 a2 : Option Value} {x : Int32} {o9 : Option Value × pj_Mem} : pj_Ends 22 (57, a0 :: a1 :: a2 :: some (.int x) :: l, st, M) o9 = pj_Ends 22 (58, a0 :: a1 :: a2 :: some (.int x) :: l, .int x :: st, M) o9 := pj_xs (s22_57)
theorem q22_58 : pj_row 22 58 = some (.iload 4, 2, 0, 0, 0) := by decide +kernel
theorem s22_58 {st : List Value} {M : pj_Mem} {l : pj_Loc} {a0 a1 a2 a3 : Option Value} {x : Int32} : pj_step 22 (58, a0 :: a1 :: a2 :: a3 :: some (.int x) :: l, st, M) = some (60, a0 :: a1 :: a2 :: a3 :: some (.int x) :: l, .int x :: st, M) := st_iload q22_58 rfl
theorem x22_58 {st : List Value} {M : pj_Mem} {l : pj_Loc} {a0 a1 a2 a3 : Option Value} {x : Int32} {o9 : Option Value × pj_Mem} : pj_Ends 22 (58, a0 :: a1 :: a2 :: a3 :: some (.int x) :: l, st, M) o9 = pj_Ends 22 (60, a0 :: a1 :: a2 :: a3 :: some (.int x) :: l, .int x :: st, M) o9 := pj_xs (s22_58)
theorem q22_60 : pj_row 22 60 = some (.ifCond .eq 21, 3, 81, 0, 0) := by decide +kernel
theorem s22_60 {L : pj_Loc} {st : List Value} {M : pj_Mem} {x : Int32} : pj_step 22 (60, L, .int x :: st, M) = some (if x = 0 then 81 else 63, L, st, M) := st_if_eq q22_60
theorem x22_60 {L : pj_Loc} {st : List Value} {M : pj_Mem} {x : Int32} {o9 : Option Value × pj_Mem} : pj_Ends 22 (60, L, .int x :: st, M) o9 = pj_Ends 22 (if x = 0 then 81 else 63, L, st, M) o9 := pj_xs (s22_60)
theorem q22_63 : pj_row 22 63 = some (.aload_n 1, 1, 0, 0, 0) := by decide +kernel
theorem s22_63 {st : List Value} {M : pj_Mem} {l : pj_Loc} {a0 : Option Value} {x : Nat} : pj_step 22 (63, a0 :: some (.ref x) :: l, st, M) = some (64, a0 :: some (.ref x) :: l, .ref x :: st, M) := st_aload_n q22_63 rfl
theorem x22_63 {st : List Value} {M : pj_Mem} {l : pj_Loc} {a0 : Option Value} {x : Nat} {o9 : Option Value × pj_Mem} : pj_Ends 22 (63, a0 :: some (.ref x) :: l, st, M) o9 = pj_Ends 22 (64, a0 :: some (.ref x) :: l, .ref x :: st, M) o9 := pj_xs (s22_63)
theorem q22_64 : pj_row 22 64 = some (.getfield 95, 3, 4, 1, 0) := by decide +kernel
theorem s22_64 {L : pj_Loc} {st : List Value} {N S : Nat} {H : pj_Heap} {o : Nat} : pj_step 22 (64, L, .ref o :: st, (N, S, H)) = pj_pv 67 L st (N, S, H) (pj_fld (H o) 4 1) := st_getfield q22_64
theorem x22_64 {L : pj_Loc} {st : List Value} {N S : Nat} {H : pj_Heap} {o : Nat} {o9 : Option Value × pj_Mem} : pj_Ends 22 (64, L, .ref o :: st, (N, S, H)) o9 = pj_then 22 o9 (pj_pv 67 L st (N, S, H) (pj_fld (H o) 4 1)) := pj_xt q22_64 rfl (pj_cl_nc rfl) (s22_64)
theorem q22_67 : pj_row 22 67 = some (.iload_n 3, 1, 0, 0, 0) := by decide +kernel
theorem s22_67 {st : List Value} {M : pj_Mem} {l : pj_Loc} {a0 a1 a2 : Option Value} {x : Int32} : pj_step 22 (67, a0 :: a1 :: a2 :: some (.int x) :: l, st, M) = some (68, a0 :: a1 :: a2 :: some (.int x) :: l, .int x :: st, M) := st_iload_n q22_67 rfl
theorem x22_67 {st : List Value} {M : pj_Mem} {l : pj_Loc} {a0 a1 a2 : Option Value} {x : Int32} {o9 : Option Value × pj_Mem} : pj_Ends 22 (67, a0 :: a1 :: a2 :: some (.int x) :: l, st, M) o9 = pj_Ends 22 (68, a0 :: a1 :: a2 :: some (.int x) :: l, .int x :: st, M) o9 := pj_xs (s22_67)
theorem q22_68 : pj_row 22 68 = some (.iaload, 1, 0, 0, 0) := by decide +kernel
theorem s22_68 {L : pj_Loc} {st : List Value} {N S : Nat} {H : pj_Heap} {o : Nat} {i : Int32} : pj_step 22 (68, L, .int i :: .ref o :: st, (N, S, H)) = pj_pi 69 L st (N, S, H) (pj_arl (H o) 0 i) := st_iaload q22_68
theorem x22_68 {L : pj_Loc} {st : List Value} {N S : Nat} {H : pj_Heap} {o : Nat} {i : Int32} {o9 : Option Value × pj_Mem} : pj_Ends 22 (68, L, .int i :: .ref o :: st, (N, S, H)) o9 = pj_then 22 o9 (pj_pi 69 L st (N, S, H) (pj_arl (H o) 0 i)) := pj_xt q22_68 rfl (pj_cl_nc rfl) (s22_68)
theorem q22_69 : pj_row 22 69 = some (.aload_n 0, 1, 0, 0, 0) := by decide +kernel
theorem s22_69 {st : List Value} {M : pj_Mem} {l : pj_Loc} {x : Nat} : pj_step 22 (69, some (.ref x) :: l, st, M) = some (70, some (.ref x) :: l, .ref x :: st, M) := st_aload_n q22_69 rfl
theorem x22_69 {st : List Value} {M : pj_Mem} {l : pj_Loc} {x : Nat} {o9 : Option Value × pj_Mem} : pj_Ends 22 (69, some (.ref x) :: l, st, M) o9 = pj_Ends 22 (70, some (.ref x) :: l, .ref x :: st, M) o9 := pj_xs (s22_69)
theorem q22_70 : pj_row 22 70 = some (.getfield 9, 3, 3, 0, 0) := by decide +kernel
theorem s22_70 {L : pj_Loc} {st : List Value} {N S : Nat} {H : pj_Heap} {o : Nat} : pj_step 22 (70, L, .ref o :: st, (N, S, H)) = pj_pv 73 L st (N, S, H) (pj_fld (H o) 3 0) := st_getfield q22_70
theorem x22_70 {L : pj_Loc} {st : List Value} {N S : Nat} {H : pj_Heap} {o : Nat} {o9 : Option Value × pj_Mem} : pj_Ends 22 (70, L, .ref o :: st, (N, S, H)) o9 = pj_then 22 o9 (pj_pv 73 L st (N, S, H) (pj_fld (H o) 3 0)) := pj_xt q22_70 rfl (pj_cl_nc rfl) (s22_70)
theorem q22_73 : pj_row 22 73 = some (.iload_n 3, 1, 0, 0, 0) := by decide +kernel
theorem s22_73 {st : List Value} {M : pj_Mem} {l : pj_Loc} {a0 a1 a2 : Option Value} {x : Int32} : pj_step 22 (73, a0 :: a1 :: a2 :: some (.int x) :: l, st, M) = some (74, a0 :: a1 :: a2 :: some (.int x) :: l, .int x :: st, M) := st_iload_n q22_73 rfl
theorem x22_73 {st : List Value} {M : pj_Mem} {l : pj_Loc} {a0 a1 a2 : Option Value} {x : Int32} {o9 : Option Value × pj_Mem} : pj_Ends 22 (73, a0 :: a1 :: a2 :: some (.int x) :: l, st, M) o9 = pj_Ends 22 (74, a0 :: a1 :: a2 :: some (.int x) :: l, .int x :: st, M) o9 := pj_xs (s22_73)
theorem q22_74 : pj_row 22 74 = some (.iaload, 1, 0, 0, 0) := by decide +kernel
theorem s22_74 {L : pj_Loc} {st : List Value} {N S : Nat} {H : pj_Heap} {o : Nat} {i : Int32} : pj_step 22 (74, L, .int i :: .ref o :: st, (N, S, H)) = pj_pi 75 L st (N, S, H) (pj_arl (H o) 0 i) := st_iaload q22_74
theorem x22_74 {L : pj_Loc} {st : List Value} {N S : Nat} {H : pj_Heap} {o : Nat} {i : Int32} {o9 : Option Value × pj_Mem} : pj_Ends 22 (74, L, .int i :: .ref o :: st, (N, S, H)) o9 = pj_then 22 o9 (pj_pi 75 L st (N, S, H) (pj_arl (H o) 0 i)) := pj_xt q22_74 rfl (pj_cl_nc rfl) (s22_74)
theorem q22_75 : pj_row 22 75 = some (.invokestatic 116, 3, 23, 2, 0) := by decide +kernel
theorem e22_75 {L : pj_Loc} {st : List Value} {N S : Nat} {H : pj_Heap} {o : Option Value × pj_Mem} {M' : pj_Mem} {x0 : Int32} {x1 : Int32} {r : Int32} (h4 : pj_le4 st = true) (h1 : pj_Ends 23 (0, [some (.int x0), some (.int x1)], [], (N, S, H)) (some (.int r), M')) (h2 : pj_Ends 22 (78, L, .int r :: st, M') o) : pj_Ends 22 (75, L, .int x1 :: .int x0 :: st, (N, S, H)) o := ec_s2 q22_75 (Or.inl rfl) h4 rfl h1 h2
theorem q22_78 : pj_row 22 78 = some (.goto 9, 3, 87, 0, 0) := by decide +kernel
theorem s22_78 {L : pj_Loc} {st : List Value} {M : pj_Mem}  : pj_step 22 (78, L, st, M) = some (87, L, st, M) := st_goto q22_78
theorem x22_78 {L : pj_Loc} {st : List Value} {M : pj_Mem}  {o9 : Option Value × pj_Mem} : pj_Ends 22 (78, L, st, M) o9 = pj_Ends 22 (87, L, st, M) o9 := pj_xs (s22_78)
theorem q22_81 : pj_row 22 81 = some (.aload_n 1, 1, 0, 0, 0) := by decide +kernel
theorem s22_81 {st : List Value} {M : pj_Mem} {l : pj_Loc} {a0 : Option Value} {x : Nat} : pj_step 22 (81, a0 :: some (.ref x) :: l, st, M) = some (82, a0 :: some (.ref x) :: l, .ref x :: st, M) := st_aload_n q22_81 rfl
theorem x22_81 {st : List Value} {M : pj_Mem} {l : pj_Loc} {a0 : Option Value} {x : Nat} {o9 : Option Value × pj_Mem} : pj_Ends 22 (81, a0 :: some (.ref x) :: l, st, M) o9 = pj_Ends 22 (82, a0 :: some (.ref x) :: l, .ref x :: st, M) o9 := pj_xs (s22_81)
theorem q22_82 : pj_row 22 82 = some (.getfield 95, 3, 4, 1, 0) := by decide +kernel
theorem s22_82 {L : pj_Loc} {st : List Value} {N S : Nat} {H : pj_Heap} {o : Nat} : pj_step 22 (82, L, .ref o :: st, (N, S, H)) = pj_pv 85 L st (N, S, H) (pj_fld (H o) 4 1) := st_getfield q22_82
theorem x22_82 {L : pj_Loc} {st : List Value} {N S : Nat} {H : pj_Heap} {o : Nat} {o9 : Option Value × pj_Mem} : pj_Ends 22 (82, L, .ref o :: st, (N, S, H)) o9 = pj_then 22 o9 (pj_pv 85 L st (N, S, H) (pj_fld (H o) 4 1)) := pj_xt q22_82 rfl (pj_cl_nc rfl) (s22_82)
theorem q22_85 : pj_row 22 85 = some (.iload_n 3, 1, 0, 0, 0) := by decide +kernel
theorem s22_85 {st : List Value} {M : pj_Mem} {l : pj_Loc} {a0 a1 a2 : Option Value} {x : Int32} : pj_step 22 (85, a0 :: a1 :: a2 :: some (.int x) :: l, st, M) = some (86, a0 :: a1 :: a2 :: some (.int x) :: l, .int x :: st, M) := st_iload_n q22_85 rfl
theorem x22_85 {st : List Value} {M : pj_Mem} {l : pj_Loc} {a0 a1 a2 : Option Value} {x : Int32} {o9 : Option Value × pj_Mem} : pj_Ends 22 (85, a0 :: a1 :: a2 :: some (.int x) :: l, st, M) o9 = pj_Ends 22 (86, a0 :: a1 :: a2 :: some (.int x) :: l, .int x :: st, M) o9 := pj_xs (s22_85)
theorem q22_86 : pj_row 22 86 = some (.iaload, 1, 0, 0, 0) := by decide +kernel
theorem s22_86 {L : pj_Loc} {st : List Value} {N S : Nat} {H : pj_Heap} {o : Nat} {i : Int32} : pj_step 22 (86, L, .int i :: .ref o :: st, (N, S, H)) = pj_pi 87 L st (N, S, H) (pj_arl (H o) 0 i) := st_iaload q22_86
theorem x22_86 {L : pj_Loc} {st : List Value} {N S : Nat} {H : pj_Heap} {o : Nat} {i : Int32} {o9 : Option Value × pj_Mem} : pj_Ends 22 (86, L, .int i :: .ref o :: st, (N, S, H)) o9 = pj_then 22 o9 (pj_pi 87 L st (N, S, H) (pj_arl (H o) 0 i)) := pj_xt q22_86 rfl (pj_cl_nc rfl) (s22_86)
theorem q22_87 : pj_row 22 87 = some (.iastore, 1, 0, 0, 0) := by decide +kernel
theorem s22_87 {L : pj_Loc} {st : List Value} {N S : Nat} {H : pj_Heap} {o : Nat} {i x : Int32} : pj_step 22 (87, L, .int x :: .int i :: .ref o :: st, (N, S, H)) = pj_set 88 L st (N, S, H) o (pj_ars (H o) 0 i x) := st_iastore q22_87
theorem x22_87 {L : pj_Loc} {st : List Value} {N S : Nat} {H : pj_Heap} {o : Nat} {i x : Int32} {o9 : Option Value × pj_Mem} : pj_Ends 22 (87, L, .int x :: .int i :: .ref o :: st, (N, S, H)) o9 = pj_then 22 o9 (pj_set 88 L st (N, S, H) o (pj_ars (H o) 0 i x)) := pj_xt q22_87 rfl (pj_cl_nc rfl) (s22_87)
theorem q22_88 : pj_row 22 88 = some (.iinc 3 1, 3, 0, 0, 0) := by decide +kernel
theorem s22_88 {st : List Value} {M : pj_Mem} {l : pj_Loc} {a0 a1 a2 : Option Value} {x : Int32} (h : pj_long a2 = false) : pj_step 22 (88, a0 :: a1 :: a2 :: some (.int x) :: l, st, M) = some (91, a0 :: a1 :: a2 :: some (.int (x + 1)) :: l, st, M) := st_iinc q22_88 rfl (congrArg (fun y => x + y) (show Int32.ofInt 1 = 1 by decide +kernel)) (pj_st_3 h)
theorem x22_88 {st : List Value} {M : pj_Mem} {l : pj_Loc} {a0 a1 a2 : Option Value} {x : Int32} (h : pj_long a2 = false) {o9 : Option Value × pj_Mem} : pj_Ends 22 (88, a0 :: a1 :: a2 :: some (.int x) :: l, st, M) o9 = pj_Ends 22 (91, a0 :: a1 :: a2 :: some (.int (x + 1)) :: l, st, M) o9 := pj_xs (s22_88 h)
theorem q22_91 : pj_row 22 91 = some (.goto (-65), 3, 26, 0, 0) := by decide +kernel
theorem s22_91 {L : pj_Loc} {st : List Value} {M : pj_Mem}  : pj_step 22 (91, L, st, M) = some (26, L, st, M) := st_goto q22_91
theorem x22_91 {L : pj_Loc} {st : List Value} {M : pj_Mem}  {o9 : Option Value × pj_Mem} : pj_Ends 22 (91, L, st, M) o9 = pj_Ends 22 (26, L, st, M) o9 := pj_xs (s22_91)
theorem q22_94 : pj_row 22 94 = some (.return_, 1, 0, 0, 0) := by decide +kernel
theorem t22_94 {L : pj_Loc} {M : pj_Mem} : pj_Ends 22 (94, L, [], M) (none, M) := pj_Ends.ret q22_94 (pj_rtn_v rt22)
theorem rt23 : pj_rt 23 = some .int := rfl
theorem q23_0 : pj_row 23 0 = some (.iload_n 0, 1, 0, 0, 0) := by decide +kernel
theorem s23_0 {st : List Value} {M : pj_Mem} {l : pj_Loc} {x : Int32} : pj_step 23 (0, some (.int x) :: l, st, M) = some (1, some (.int x) :: l, .int x :: st, M) := st_iload_n q23_0 rfl
theorem x23_0 {st : List Value} {M : pj_Mem} {l : pj_Loc} {x : Int32} {o9 : Option Value × pj_Mem} : pj_Ends 23 (0, some (.int x) :: l, st, M) o9 = pj_Ends 23 (1, some (.int x) :: l, .int x :: st, M) o9 := pj_xs (s23_0)
theorem q23_1 : pj_row 23 1 = some (.iload_n 1, 1, 0, 0, 0) := by decide +kernel
theorem s23_1 {st : List Value} {M : pj_Mem} {l : pj_Loc} {a0 : Option Value} {x : Int32} : pj_step 23 (1, a0 :: some (.int x) :: l, st, M) = some (2, a0 :: some (.int x) :: l, .int x :: st, M) := st_iload_n q23_1 rfl
theorem x23_1 {st : List Value} {M : pj_Mem} {l : pj_Loc} {a0 : Option Value} {x : Int32} {o9 : Option Value × pj_Mem} : pj_Ends 23 (1, a0 :: some (.int x) :: l, st, M) o9 = pj_Ends 23 (2, a0 :: some (.int x) :: l, .int x :: st, M) o9 := pj_xs (s23_1)
theorem q23_2 : pj_row 23 2 = some (.if_icmp .ge 7, 3, 9, 0, 0) := by decide +kernel
theorem s23_2 {L : pj_Loc} {st : List Value} {M : pj_Mem} {x y : Int32} : pj_step 23 (2, L, .int y :: .int x :: st, M) = some (if y ≤ x then 9 else 5, L, st, M) := st_icmp_ge q23_2
theorem x23_2 {L : pj_Loc} {st : List Value} {M : pj_Mem} {x y : Int32} {o9 : Option Value × pj_Mem} : pj_Ends 23 (2, L, .int y :: .int x :: st, M) o9 = pj_Ends 23 (if y ≤ x then 9 else 5, L, st, M) o9 := pj_xs (s23_2)
theorem q23_5 : pj_row 23 5 = some (.iload_n 0, 1, 0, 0, 0) := by decide +kernel
theorem s23_5 {st : List Value} {M : pj_Mem} {l : pj_Loc} {x : Int32} : pj_step 23 (5, some (.int x) :: l, st, M) = some (6, some (.int x) :: l, .int x :: st, M) := st_iload_n q23_5 rfl
theorem x23_5 {st : List Value} {M : pj_Mem} {l : pj_Loc} {x : Int32} {o9 : Option Value × pj_Mem} : pj_Ends 23 (5, some (.int x) :: l, st, M) o9 = pj_Ends 23 (6, some (.int x) :: l, .int x :: st, M) o9 := pj_xs (s23_5)
theorem q23_6 : pj_row 23 6 = some (.iconst 1, 1, 0, 0, 0) := by decide +kernel
theorem s23_6 {L : pj_Loc} {st : List Value} {M : pj_Mem}  : pj_step 23 (6, L, st, M) = some (7, L, .int 1 :: st, M) := st_iconst q23_6 (by decide +kernel)
theorem x23_6 {L : pj_Loc} {st : List Value} {M : pj_Mem}  {o9 : Option Value × pj_Mem} : pj_Ends 23 (6, L, st, M) o9 = pj_Ends 23 (7, L, .int 1 :: st, M) o9 := pj_xs (s23_6)
theorem q23_7 : pj_row 23 7 = some (.iadd, 1, 0, 0, 0) := by decide +kernel
theorem s23_7 {L : pj_Loc} {st : List Value} {M : pj_Mem} {x y : Int32} : pj_step 23 (7, L, .int y :: .int x :: st, M) = some (8, L, .int (x + y) :: st, M) := st_iadd q23_7
theorem x23_7 {L : pj_Loc} {st : List Value} {M : pj_Mem} {x y : Int32} {o9 : Option Value × pj_Mem} : pj_Ends 23 (7, L, .int y :: .int x :: st, M) o9 = pj_Ends 23 (8, L, .int (x + y) :: st, M) o9 := pj_xs (s23_7)
theorem q23_8 : pj_row 23 8 = some (.ireturn, 1, 0, 0, 0) := by decide +kernel
theorem t23_8 {L : pj_Loc} {M : pj_Mem} {v : Int32} : pj_Ends 23 (8, L, [.int v], M) (some (.int v), M) := pj_Ends.ret q23_8 (pj_rtn_i rt23)
theorem q23_9 : pj_row 23 9 = some (.iload_n 0, 1, 0, 0, 0) := by decide +kernel
theorem s23_9 {st : List Value} {M : pj_Mem} {l : pj_Loc} {x : Int32} : pj_step 23 (9, some (.int x) :: l, st, M) = some (10, some (.int x) :: l, .int x :: st, M) := st_iload_n q23_9 rfl
theorem x23_9 {st : List Value} {M : pj_Mem} {l : pj_Loc} {x : Int32} {o9 : Option Value × pj_Mem} : pj_Ends 23 (9, some (.int x) :: l, st, M) o9 = pj_Ends 23 (10, some (.int x) :: l, .int x :: st, M) o9 := pj_xs (s23_9)
theorem q23_10 : pj_row 23 10 = some (.iload_n 1, 1, 0, 0, 0) := by decide +kernel
theorem s23_10 {st : List Value} {M : pj_Mem} {l : pj_Loc} {a0 : Option Value} {x : Int32} : pj_step 23 (10, a0 :: some (.int x) :: l, st, M) = some (11, a0 :: some (.int x) :: l, .int x :: st, M) := st_iload_n q23_10 rfl
theorem x23_10 {st : List Value} {M : pj_Mem} {l : pj_Loc} {a0 : Option Value} {x : Int32} {o9 : Option Value × pj_Mem} : pj_Ends 23 (10, a0 :: some (.int x) :: l, st, M) o9 = pj_Ends 23 (11, a0 :: some (.int x) :: l, .int x :: st, M) o9 := pj_xs (s23_10)
theorem q23_11 : pj_row 23 11 = some (.if_icmp .le 9, 3, 20, 0, 0) := by decide +kernel
theorem s23_11 {L : pj_Loc} {st : List Value} {M : pj_Mem} {x y : Int32} : pj_step 23 (11, L, .int y :: .int x :: st, M) = some (if x ≤ y then 20 else 14, L, st, M) := st_icmp_le q23_11
theorem x23_11 {L : pj_Loc} {st : List Value} {M : pj_Mem} {x y : Int32} {o9 : Option Value × pj_Mem} : pj_Ends 23 (11, L, .int y :: .int x :: st, M) o9 = pj_Ends 23 (if x ≤ y then 20 else 14, L, st, M) o9 := pj_xs (s23_11)
theorem q23_14 : pj_row 23 14 = some (.iload_n 0, 1, 0, 0, 0) := by decide +kernel
theorem s23_14 {st : List Value} {M : pj_Mem} {l : pj_Loc} {x : Int32} : pj_step 23 (14, some (.int x) :: l, st, M) = some (15, some (.int x) :: l, .int x :: st, M) := st_iload_n q23_14 rfl
theorem x23_14 {st : List Value} {M : pj_Mem} {l : pj_Loc} {x : Int32} {o9 : Option Value × pj_Mem} : pj_Ends 23 (14, some (.int x) :: l, st, M) o9 = pj_Ends 23 (15, some (.int x) :: l, .int x :: st, M) o9 := pj_xs (s23_14)
theorem q23_15 : pj_row 23 15 = some (.iconst 1, 1, 0, 0, 0) := by decide +kernel
theorem s23_15 {L : pj_Loc} {st : List Value} {M : pj_Mem}  : pj_step 23 (15, L, st, M) = some (16, L, .int 1 :: st, M) := st_iconst q23_15 (by decide +kernel)
theorem x23_15 {L : pj_Loc} {st : List Value} {M : pj_Mem}  {o9 : Option Value × pj_Mem} : pj_Ends 23 (15, L, st, M) o9 = pj_Ends 23 (16, L, .int 1 :: st, M) o9 := pj_xs (s23_15)
theorem q23_16 : pj_row 23 16 = some (.isub, 1, 0, 0, 0) := by decide +kernel
theorem s23_16 {L : pj_Loc} {st : List Value} {M : pj_Mem} {x y : Int32} : pj_step 23 (16, L, .int y :: .int x :: st, M) = some (17, L, .int (x - y) :: st, M) := st_isub q23_16
theorem x23_16 {L : pj_Loc} {st : List Value} {M : pj_Mem} {x y : Int32} {o9 : Option Value × pj_Mem} : pj_Ends 23 (16, L, .int y :: .int x :: st, M) o9 = pj_Ends 23 (17, L, .int (x - y) :: st, M) o9 := pj_xs (s23_16)
theorem q23_17 : pj_row 23 17 = some (.goto 4, 3, 21, 0, 0) := by decide +kernel
theorem s23_17 {L : pj_Loc} {st : List Value} {M : pj_Mem}  : pj_step 23 (17, L, st, M) = some (21, L, st, M) := st_goto q23_17
theorem x23_17 {L : pj_Loc} {st : List Value} {M : pj_Mem}  {o9 : Option Value × pj_Mem} : pj_Ends 23 (17, L, st, M) o9 = pj_Ends 23 (21, L, st, M) o9 := pj_xs (s23_17)
theorem q23_20 : pj_row 23 20 = some (.iload_n 0, 1, 0, 0, 0) := by decide +kernel
theorem s23_20 {st : List Value} {M : pj_Mem} {l : pj_Loc} {x : Int32} : pj_step 23 (20, some (.int x) :: l, st, M) = some (21, some (.int x) :: l, .int x :: st, M) := st_iload_n q23_20 rfl
theorem x23_20 {st : List Value} {M : pj_Mem} {l : pj_Loc} {x : Int32} {o9 : Option Value × pj_Mem} : pj_Ends 23 (20, some (.int x) :: l, st, M) o9 = pj_Ends 23 (21, some (.int x) :: l, .int x :: st, M) o9 := pj_xs (s23_20)
theorem q23_21 : pj_row 23 21 = some (.ireturn, 1, 0, 0, 0) := by decide +kernel
theorem t23_21 {L : pj_Loc} {M : pj_Mem} {v : Int32} : pj_Ends 23 (21, L, [.int v], M) (some (.int v), M) := pj_Ends.ret q23_21 (pj_rtn_i rt23)
theorem rt24 : pj_rt 24 = none := rfl
theorem q24_0 : pj_row 24 0 = some (.iconst 0, 1, 0, 0, 0) := by decide +kernel
theorem s24_0 {L : pj_Loc} {st : List Value} {M : pj_Mem}  : pj_step 24 (0, L, st, M) = some (1, L, .int 0 :: st, M) := st_iconst q24_0 (by decide +kernel)
theorem x24_0 {L : pj_Loc} {st : List Value} {M : pj_Mem}  {o9 : Option Value × pj_Mem} : pj_Ends 24 (0, L, st, M) o9 = pj_Ends 24 (1, L, .int 0 :: st, M) o9 := pj_xs (s24_0)
theorem q24_1 : pj_row 24 1 = some (.istore_n 2, 1, 0, 0, 0) := by decide +kernel
theorem s24_1 {st : List Value} {M : pj_Mem} {l : pj_Loc} {a0 a1 a2 : Option Value} {x : Int32} (h : pj_long a1 = false) : pj_step 24 (1, a0 :: a1 :: a2 :: l, .int x :: st, M) = some (2, a0 :: a1 :: some (.int x) :: l, st, M) := st_istore_n q24_1 (pj_st_2 h)
theorem x24_1 {st : List Value} {M : pj_Mem} {l : pj_Loc} {a0 a1 a2 : Option Value} {x : Int32} (h : pj_long a1 = false) {o9 : Option Value × pj_Mem} : pj_Ends 24 (1, a0 :: a1 :: a2 :: l, .int x :: st, M) o9 = pj_Ends 24 (2, a0 :: a1 :: some (.int x) :: l, st, M) o9 := pj_xs (s24_1 h)
theorem q24_2 : pj_row 24 2 = some (.iload_n 2, 1, 0, 0, 0) := by decide +kernel
theorem s24_2 {st : List Value} {M : pj_Mem} {l : pj_Loc} {a0 a1 : Option Value} {x : Int32} : pj_step 24 (2, a0 :: a1 :: some (.int x) :: l, st, M) = some (3, a0 :: a1 :: some (.int x) :: l, .int x :: st, M) := st_iload_n q24_2 rfl
theorem x24_2 {st : List Value} {M : pj_Mem} {l : pj_Loc} {a0 a1 : Option Value} {x : Int32} {o9 : Option Value × pj_Mem} : pj_Ends 24 (2, a0 :: a1 :: some (.int x) :: l, st, M) o9 = pj_Ends 24 (3, a0 :: a1 :: some (.int x) :: l, .int x :: st, M) o9 := pj_xs (s24_2)
theorem q24_3 : pj_row 24 3 = some (.iconst 3, 1, 0, 0, 0) := by decide +kernel
theorem s24_3 {L : pj_Loc} {st : List Value} {M : pj_Mem}  : pj_step 24 (3, L, st, M) = some (4, L, .int 3 :: st, M) := st_iconst q24_3 (by decide +kernel)
theorem x24_3 {L : pj_Loc} {st : List Value} {M : pj_Mem}  {o9 : Option Value × pj_Mem} : pj_Ends 24 (3, L, st, M) o9 = pj_Ends 24 (4, L, .int 3 :: st, M) o9 := pj_xs (s24_3)
theorem q24_4 : pj_row 24 4 = some (.if_icmp .ge 61, 3, 65, 0, 0) := by decide +kernel
theorem s24_4 {L : pj_Loc} {st : List Value} {M : pj_Mem} {x y : Int32} : pj_step 24 (4, L, .int y :: .int x :: st, M) = some (if y ≤ x then 65 else 7, L, st, M) := st_icmp_ge q24_4
theorem x24_4 {L : pj_Loc} {st : List Value} {M : pj_Mem} {x y : Int32} {o9 : Option Value × pj_Mem} : pj_Ends 24 (4, L, .int y :: .int x :: st, M) o9 = pj_Ends 24 (if y ≤ x then 65 else 7, L, st, M) o9 := pj_xs (s24_4)
theorem q24_7 : pj_row 24 7 = some (.aload_n 0, 1, 0, 0, 0) := by decide +kernel
theorem s24_7 {st : List Value} {M : pj_Mem} {l : pj_Loc} {x : Nat} : pj_step 24 (7, some (.ref x) :: l, st, M) = some (8, some (.ref x) :: l, .ref x :: st, M) := st_aload_n q24_7 rfl
theorem x24_7 {st : List Value} {M : pj_Mem} {l : pj_Loc} {x : Nat} {o9 : Option Value × pj_Mem} : pj_Ends 24 (7, some (.ref x) :: l, st, M) o9 = pj_Ends 24 (8, some (.ref x) :: l, .ref x :: st, M) o9 := pj_xs (s24_7)
theorem q24_8 : pj_row 24 8 = some (.getfield 15, 3, 3, 1, 0) := by decide +kernel
theorem s24_8 {L : pj_Loc} {st : List Value} {N S : Nat} {H : pj_Heap} {o : Nat} : pj_step 24 (8, L, .ref o :: st, (N, S, H)) = pj_pv 11 L st (N, S, H) (pj_fld (H o) 3 1) := st_getfield q24_8
theorem x24_8 {L : pj_Loc} {st : List Value} {N S : Nat} {H : pj_Heap} {o : Nat} {o9 : Option Value × pj_Mem} : pj_Ends 24 (8, L, .ref o :: st, (N, S, H)) o9 = pj_then 24 o9 (pj_pv 11 L st (N, S, H) (pj_fld (H o) 3 1)) := pj_xt q24_8 rfl (pj_cl_nc rfl) (s24_8)
theorem q24_11 : pj_row 24 11 = some (.iload_n 2, 1, 0, 0, 0) := by decide +kernel
theorem s24_11 {st : List Value} {M : pj_Mem} {l : pj_Loc} {a0 a1 : Option Value} {x : Int32} : pj_step 24 (11, a0 :: a1 :: some (.int x) :: l, st, M) = some (12, a0 :: a1 :: some (.int x) :: l, .int x :: st, M) := st_iload_n q24_11 rfl
theorem x24_11 {st : List Value} {M : pj_Mem} {l : pj_Loc} {a0 a1 : Option Value} {x : Int32} {o9 : Option Value × pj_Mem} : pj_Ends 24 (11, a0 :: a1 :: some (.int x) :: l, st, M) o9 = pj_Ends 24 (12, a0 :: a1 :: some (.int x) :: l, .int x :: st, M) o9 := pj_xs (s24_11)
theorem q24_12 : pj_row 24 12 = some (.iaload, 1, 0, 0, 0) := by decide +kernel
theorem s24_12 {L : pj_Loc} {st : List Value} {N S : Nat} {H : pj_Heap} {o : Nat} {i : Int32} : pj_step 24 (12, L, .int i :: .ref o :: st, (N, S, H)) = pj_pi 13 L st (N, S, H) (pj_arl (H o) 0 i) := st_iaload q24_12
theorem x24_12 {L : pj_Loc} {st : List Value} {N S : Nat} {H : pj_Heap} {o : Nat} {i : Int32} {o9 : Option Value × pj_Mem} : pj_Ends 24 (12, L, .int i :: .ref o :: st, (N, S, H)) o9 = pj_then 24 o9 (pj_pi 13 L st (N, S, H) (pj_arl (H o) 0 i)) := pj_xt q24_12 rfl (pj_cl_nc rfl) (s24_12)
theorem q24_13 : pj_row 24 13 = some (.invokestatic 113, 3, 0, 1, 6) := by decide +kernel
theorem s24_13 {L : pj_Loc} {st : List Value} {M : pj_Mem} {x : Int32} : pj_step 24 (13, L, .int x :: st, M) = pj_g4 st (some (16, L, .int (if 0 ≤ x then x else 0 - x) :: st, M)) := st_abs q24_13
theorem x24_13 {L : pj_Loc} {st : List Value} {M : pj_Mem} {x : Int32} {o9 : Option Value × pj_Mem} : pj_Ends 24 (13, L, .int x :: st, M) o9 = pj_then 24 o9 (pj_g4 st (some (16, L, .int (if 0 ≤ x then x else 0 - x) :: st, M))) := pj_xt q24_13 rfl rfl (s24_13)
theorem q24_16 : pj_row 24 16 = some (.iconst 4, 1, 0, 0, 0) := by decide +kernel
theorem s24_16 {L : pj_Loc} {st : List Value} {M : pj_Mem}  : pj_step 24 (16, L, st, M) = some (17, L, .int 4 :: st, M) := st_iconst q24_16 (by decide +kernel)
theorem x24_16 {L : pj_Loc} {st : List Value} {M : pj_Mem}  {o9 : Option Value × pj_Mem} : pj_Ends 24 (16, L, st, M) o9 = pj_Ends 24 (17, L, .int 4 :: st, M) o9 := pj_xs (s24_16)
theorem q24_17 : pj_row 24 17 = some (.if_icmp .le 7, 3, 24, 0, 0) := by decide +kernel
theorem s24_17 {L : pj_Loc} {st : List Value} {M : pj_Mem} {x y : Int32} : pj_step 24 (17, L, .int y :: .int x :: st, M) = some (if x ≤ y then 24 else 20, L, st, M) := st_icmp_le q24_17
theorem x24_17 {L : pj_Loc} {st : List Value} {M : pj_Mem} {x y : Int32} {o9 : Option Value × pj_Mem} : pj_Ends 24 (17, L, .int y :: .int x :: st, M) o9 = pj_Ends 24 (if x ≤ y then 24 else 20, L, st, M) o9 := pj_xs (s24_17)
theorem q24_20 : pj_row 24 20 = some (.iconst 1, 1, 0, 0, 0) := by decide +kernel
theorem s24_20 {L : pj_Loc} {st : List Value} {M : pj_Mem}  : pj_step 24 (20, L, st, M) = some (21, L, .int 1 :: st, M) := st_iconst q24_20 (by decide +kernel)
theorem x24_20 {L : pj_Loc} {st : List Value} {M : pj_Mem}  {o9 : Option Value × pj_Mem} : pj_Ends 24 (20, L, st, M) o9 = pj_Ends 24 (21, L, .int 1 :: st, M) o9 := pj_xs (s24_20)
theorem q24_21 : pj_row 24 21 = some (.goto 4, 3, 25, 0, 0) := by decide +kernel
theorem s24_21 {L : pj_Loc} {st : List Value} {M : pj_Mem}  : pj_step 24 (21, L, st, M) = some (25, L, st, M) := st_goto q24_21
theorem x24_21 {L : pj_Loc} {st : List Value} {M : pj_Mem}  {o9 : Option Value × pj_Mem} : pj_Ends 24 (21, L, st, M) o9 = pj_Ends 24 (25, L, st, M) o9 := pj_xs (s24_21)
theorem q24_24 : pj_row 24 24 = some (.iconst 0, 1, 0, 0, 0) := by decide +kernel
theorem s24_24 {L : pj_Loc} {st : List Value} {M : pj_Mem}  : pj_step 24 (24, L, st, M) = some (25, L, .int 0 :: st, M) := st_iconst q24_24 (by decide +kernel)
theorem x24_24 {L : pj_Loc} {st : List Value} {M : pj_Mem}  {o9 : Option Value × pj_Mem} : pj_Ends 24 (24, L, st, M) o9 = pj_Ends 24 (25, L, .int 0 :: st, M) o9 := pj_xs (s24_24)
theorem q24_25 : pj_row 24 25 = some (.istore_n 3, 1, 0, 0, 0) := by decide +kernel
theorem s24_25 {st : List Value} {M : pj_Mem} {l : pj_Loc} {a0 a1 a2 a3 : Option Value} {x : Int32} (h : pj_long a2 = false) : pj_step 24 (25, a0 :: a1 :: a2 :: a3 :: l, .int x :: st, M) = some (26, a0 :: a1 :: a2 :: some (.int x) :: l, st, M) := st_istore_n q24_25 (pj_st_3 h)
theorem x24_25 {st : List Value} {M : pj_Mem} {l : pj_Loc} {a0 a1 a2 a3 : Option Value} {x : Int32} (h : pj_long a2 = false) {o9 : Option Value × pj_Mem} : pj_Ends 24 (25, a0 :: a1 :: a2 :: a3 :: l, .int x :: st, M) o9 = pj_Ends 24 (26, a0 :: a1 :: a2 :: some (.int x) :: l, st, M) o9 := pj_xs (s24_25 h)
theorem q24_26 : pj_row 24 26 = some (.aload_n 0, 1, 0, 0, 0) := by decide +kernel
theorem s24_26 {st : List Value} {M : pj_Mem} {l : pj_Loc} {x : Nat} : pj_step 24 (26, some (.ref x) :: l, st, M) = some (27, some (.ref x) :: l, .ref x :: st, M) := st_aload_n q24_26 rfl
theorem x24_26 {st : List Value} {M : pj_Mem} {l : pj_Loc} {x : Nat} {o9 : Option Value × pj_Mem} : pj_Ends 24 (26, some (.ref x) :: l, st, M) o9 = pj_Ends 24 (27, some (.ref x) :: l, .ref x :: st, M) o9 := pj_xs (s24_26)
theorem q24_27 : pj_row 24 27 = some (.getfield 21, 3, 3, 3, 0) := by decide +kernel
theorem s24_27 {L : pj_Loc} {st : List Value} {N S : Nat} {H : pj_Heap} {o : Nat} : pj_step 24 (27, L, .ref o :: st, (N, S, H)) = pj_pv 30 L st (N, S, H) (pj_fld (H o) 3 3) := st_getfield q24_27
theorem x24_27 {L : pj_Loc} {st : List Value} {N S : Nat} {H : pj_Heap} {o : Nat} {o9 : Option Value × pj_Mem} : pj_Ends 24 (27, L, .ref o :: st, (N, S, H)) o9 = pj_then 24 o9 (pj_pv 30 L st (N, S, H) (pj_fld (H o) 3 3)) := pj_xt q24_27 rfl (pj_cl_nc rfl) (s24_27)
theorem q24_30 : pj_row 24 30 = some (.iload_n 2, 1, 0, 0, 0) := by decide +kernel
theorem s24_30 {st : List Value} {M : pj_Mem} {l : pj_Loc} {a0 a1 : Option Value} {x : Int32} : pj_step 24 (30, a0 :: a1 :: some (.int x) :: l, st, M) = some (31, a0 :: a1 :: some (.int x) :: l, .int x :: st, M) := st_iload_n q24_30 rfl
theorem x24_30 {st : List Value} {M : pj_Mem} {l : pj_Loc} {a0 a1 : Option Value} {x : Int32} {o9 : Option Value × pj_Mem} : pj_Ends 24 (30, a0 :: a1 :: some (.int x) :: l, st, M) o9 = pj_Ends 24 (31, a0 :: a1 :: some (.int x) :: l, .int x :: st, M) o9 := pj_xs (s24_30)
theorem q24_31 : pj_row 24 31 = some (.aload_n 1, 1, 0, 0, 0) := by decide +kernel
theorem s24_31 {st : List Value} {M : pj_Mem} {l : pj_Loc} {a0 : Option Value} {x : Nat} : pj_step 24 (31, a0 :: some (.ref x) :: l, st, M) = some (32, a0 :: some (.ref x) :: l, .ref x :: st, M) := st_aload_n q24_31 rfl
theorem x24_31 {st : List Value} {M : pj_Mem} {l : pj_Loc} {a0 : Option Value} {x : Nat} {o9 : Option Value × pj_Mem} : pj_Ends 24 (31, a0 :: some (.ref x) :: l, st, M) o9 = pj_Ends 24 (32, a0 :: some (.ref x) :: l, .ref x :: st, M) o9 := pj_xs (s24_31)
theorem q24_32 : pj_row 24 32 = some (.getfield 119, 3, 4, 2, 0) := by decide +kernel
theorem s24_32 {L : pj_Loc} {st : List Value} {N S : Nat} {H : pj_Heap} {o : Nat} : pj_step 24 (32, L, .ref o :: st, (N, S, H)) = pj_pv 35 L st (N, S, H) (pj_fld (H o) 4 2) := st_getfield q24_32
theorem x24_32 {L : pj_Loc} {st : List Value} {N S : Nat} {H : pj_Heap} {o : Nat} {o9 : Option Value × pj_Mem} : pj_Ends 24 (32, L, .ref o :: st, (N, S, H)) o9 = pj_then 24 o9 (pj_pv 35 L st (N, S, H) (pj_fld (H o) 4 2)) := pj_xt q24_32 rfl (pj_cl_nc rfl) (s24_32)
theorem q24_35 : pj_row 24 35 = some (.iload_n 2, 1, 0, 0, 0) := by decide +kernel
theorem s24_35 {st : List Value} {M : pj_Mem} {l : pj_Loc} {a0 a1 : Option Value} {x : Int32} : pj_step 24 (35, a0 :: a1 :: some (.int x) :: l, st, M) = some (36, a0 :: a1 :: some (.int x) :: l, .int x :: st, M) := st_iload_n q24_35 rfl
theorem x24_35 {st : List Value} {M : pj_Mem} {l : pj_Loc} {a0 a1 : Option Value} {x : Int32} {o9 : Option Value × pj_Mem} : pj_Ends 24 (35, a0 :: a1 :: some (.int x) :: l, st, M) o9 = pj_Ends 24 (36, a0 :: a1 :: some (.int x) :: l, .int x :: st, M) o9 := pj_xs (s24_35)
theorem q24_36 : pj_row 24 36 = some (.iaload, 1, 0, 0, 0) := by decide +kernel
theorem s24_36 {L : pj_Loc} {st : List Value} {N S : Nat} {H : pj_Heap} {o : Nat} {i : Int32} : pj_step 24 (36, L, .int i :: .ref o :: st, (N, S, H)) = pj_pi 37 L st (N, S, H) (pj_arl (H o) 0 i) := st_iaload q24_36
theorem x24_36 {L : pj_Loc} {st : List Value} {N S : Nat} {H : pj_Heap} {o : Nat} {i : Int32} {o9 : Option Value × pj_Mem} : pj_Ends 24 (36, L, .int i :: .ref o :: st, (N, S, H)) o9 = pj_then 24 o9 (pj_pi 37 L st (N, S, H) (pj_arl (H o) 0 i)) := pj_xt q24_36 rfl (pj_cl_nc rfl) (s24_36)
theorem q24_37 : pj_row 24 37 = some (.bipush 7, 2, 0, 0, 0) := by decide +kernel
theorem s24_37 {L : pj_Loc} {st : List Value} {M : pj_Mem}  : pj_step 24 (37, L, st, M) = some (39, L, .int 7 :: st, M) := st_bipush q24_37 (by decide +kernel)
theorem x24_37 {L : pj_Loc} {st : List Value} {M : pj_Mem}  {o9 : Option Value × pj_Mem} : pj_Ends 24 (37, L, st, M) o9 = pj_Ends 24 (39, L, .int 7 :: st, M) o9 := pj_xs (s24_37)
theorem q24_39 : pj_row 24 39 = some (.imul, 1, 0, 0, 0) := by decide +kernel
theorem s24_39 {L : pj_Loc} {st : List Value} {M : pj_Mem} {x y : Int32} : pj_step 24 (39, L, .int y :: .int x :: st, M) = some (40, L, .int (x * y) :: st, M) := st_imul q24_39
theorem x24_39 {L : pj_Loc} {st : List Value} {M : pj_Mem} {x y : Int32} {o9 : Option Value × pj_Mem} : pj_Ends 24 (39, L, .int y :: .int x :: st, M) o9 = pj_Ends 24 (40, L, .int (x * y) :: st, M) o9 := pj_xs (s24_39)
theorem q24_40 : pj_row 24 40 = some (.bipush 8, 2, 0, 0, 0) := by decide +kernel
theorem s24_40 {L : pj_Loc} {st : List Value} {M : pj_Mem}  : pj_step 24 (40, L, st, M) = some (42, L, .int 8 :: st, M) := st_bipush q24_40 (by decide +kernel)
theorem x24_40 {L : pj_Loc} {st : List Value} {M : pj_Mem}  {o9 : Option Value × pj_Mem} : pj_Ends 24 (40, L, st, M) o9 = pj_Ends 24 (42, L, .int 8 :: st, M) o9 := pj_xs (s24_40)
theorem q24_42 : pj_row 24 42 = some (.idiv, 1, 0, 0, 0) := by decide +kernel
theorem s24_42 {L : pj_Loc} {st : List Value} {M : pj_Mem} {x y : Int32} (hy : ¬ y = 0) : pj_step 24 (42, L, .int y :: .int x :: st, M) = some (43, L, .int (x / y) :: st, M) := st_idiv q24_42 hy
theorem x24_42 {L : pj_Loc} {st : List Value} {M : pj_Mem} {x y : Int32} (hy : ¬ y = 0) {o9 : Option Value × pj_Mem} : pj_Ends 24 (42, L, .int y :: .int x :: st, M) o9 = pj_Ends 24 (43, L, .int (x / y) :: st, M) o9 := pj_xs (s24_42 hy)
theorem q24_43 : pj_row 24 43 = some (.iload_n 3, 1, 0, 0, 0) := by decide +kernel
theorem s24_43 {st : List Value} {M : pj_Mem} {l : pj_Loc} {a0 a1 a2 : Option Value} {x : Int32} : pj_step 24 (43, a0 :: a1 :: a2 :: some (.int x) :: l, st, M) = some (44, a0 :: a1 :: a2 :: some (.int x) :: l, .int x :: st, M) := st_iload_n q24_43 rfl
theorem x24_43 {st : List Value} {M : pj_Mem} {l : pj_Loc} {a0 a1 a2 : Option Value} {x : Int32} {o9 : Option Value × pj_Mem} : pj_Ends 24 (43, a0 :: a1 :: a2 :: some (.int x) :: l, st, M) o9 = pj_Ends 24 (44, a0 :: a1 :: a2 :: some (.int x) :: l, .int x :: st, M) o9 := pj_xs (s24_43)
theorem q24_44 : pj_row 24 44 = some (.ifCond .eq 12, 3, 56, 0, 0) := by decide +kernel
theorem s24_44 {L : pj_Loc} {st : List Value} {M : pj_Mem} {x : Int32} : pj_step 24 (44, L, .int x :: st, M) = some (if x = 0 then 56 else 47, L, st, M) := st_if_eq q24_44
theorem x24_44 {L : pj_Loc} {st : List Value} {M : pj_Mem} {x : Int32} {o9 : Option Value × pj_Mem} : pj_Ends 24 (44, L, .int x :: st, M) o9 = pj_Ends 24 (if x = 0 then 56 else 47, L, st, M) o9 := pj_xs (s24_44)
theorem q24_47 : pj_row 24 47 = some (.aload_n 0, 1, 0, 0, 0) := by decide +kernel
theorem s24_47 {st : List Value} {M : pj_Mem} {l : pj_Loc} {x : Nat} : pj_step 24 (47, some (.ref x) :: l, st, M) = some (48, some (.ref x) :: l, .ref x :: st, M) := st_aload_n q24_47 rfl
theorem x24_47 {st : List Value} {M : pj_Mem} {l : pj_Loc} {x : Nat} {o9 : Option Value × pj_Mem} : pj_Ends 24 (47, some (.ref x) :: l, st, M) o9 = pj_Ends 24 (48, some (.ref x) :: l, .ref x :: st, M) o9 := pj_xs (s24_47)
theorem q24_48 : pj_row 24 48 = some (.getfield 15, 3, 3, 1, 0) := by decide +kernel
theorem s24_48 {L : pj_Loc} {st : List Value} {N S : Nat} {H : pj_Heap} {o : Nat} : pj_step 24 (48, L, .ref o :: st, (N, S, H)) = pj_pv 51 L st (N, S, H) (pj_fld (H o) 3 1) := st_getfield q24_48
theorem x24_48 {L : pj_Loc} {st : List Value} {N S : Nat} {H : pj_Heap} {o : Nat} {o9 : Option Value × pj_Mem} : pj_Ends 24 (48, L, .ref o :: st, (N, S, H)) o9 = pj_then 24 o9 (pj_pv 51 L st (N, S, H) (pj_fld (H o) 3 1)) := pj_xt q24_48 rfl (pj_cl_nc rfl) (s24_48)
theorem q24_51 : pj_row 24 51 = some (.iload_n 2, 1, 0, 0, 0) := by decide +kernel
theorem s24_51 {st : List Value} {M : pj_Mem} {l : pj_Loc} {a0 a1 : Option Value} {x : Int32} : pj_step 24 (51, a0 :: a1 :: some (.int x) :: l, st, M) = some (52, a0 :: a1 :: some (.int x) :: l, .int x :: st, M) := st_iload_n q24_51 rfl
theorem x24_51 {st : List Value} {M : pj_Mem} {l : pj_Loc} {a0 a1 : Option Value} {x : Int32} {o9 : Option Value × pj_Mem} : pj_Ends 24 (51, a0 :: a1 :: some (.int x) :: l, st, M) o9 = pj_Ends 24 (52, a0 :: a1 :: some (.int x) :: l, .int x :: st, M) o9 := pj_xs (s24_51)
theorem q24_52 : pj_row 24 52 = some (.iaload, 1, 0, 0, 0) := by decide +kernel
theorem s24_52 {L : pj_Loc} {st : List Value} {N S : Nat} {H : pj_Heap} {o : Nat} {i : Int32} : pj_step 24 (52, L, .int i :: .ref o :: st, (N, S, H)) = pj_pi 53 L st (N, S, H) (pj_arl (H o) 0 i) := st_iaload q24_52
theorem x24_52 {L : pj_Loc} {st : List Value} {N S : Nat} {H : pj_Heap} {o : Nat} {i : Int32} {o9 : Option Value × pj_Mem} : pj_Ends 24 (52, L, .int i :: .ref o :: st, (N, S, H)) o9 = pj_then 24 o9 (pj_pi 53 L st (N, S, H) (pj_arl (H o) 0 i)) := pj_xt q24_52 rfl (pj_cl_nc rfl) (s24_52)
theorem q24_53 : pj_row 24 53 = some (.goto 4, 3, 57, 0, 0) := by decide +kernel
theorem s24_53 {L : pj_Loc} {st : List Value} {M : pj_Mem}  : pj_step 24 (53, L, st, M) = some (57, L, st, M) := st_goto q24_53
theorem x24_53 {L : pj_Loc} {st : List Value} {M : pj_Mem}  {o9 : Option Value × pj_Mem} : pj_Ends 24 (53, L, st, M) o9 = pj_Ends 24 (57, L, st, M) o9 := pj_xs (s24_53)
theorem q24_56 : pj_row 24 56 = some (.iconst 0, 1, 0, 0, 0) := by decide +kernel
theorem s24_56 {L : pj_Loc} {st : List Value} {M : pj_Mem}  : pj_step 24 (56, L, st, M) = some (57, L, .int 0 :: st, M) := st_iconst q24_56 (by decide +kernel)
theorem x24_56 {L : pj_Loc} {st : List Value} {M : pj_Mem}  {o9 : Option Value × pj_Mem} : pj_Ends 24 (56, L, st, M) o9 = pj_Ends 24 (57, L, .int 0 :: st, M) o9 := pj_xs (s24_56)
theorem q24_57 : pj_row 24 57 = some (.iadd, 1, 0, 0, 0) := by decide +kernel
theorem s24_57 {L : pj_Loc} {st : List Value} {M : pj_Mem} {x y : Int32} : pj_step 24 (57, L, .int y :: .int x :: st, M) = some (58, L, .int (x + y) :: st, M) := st_iadd q24_57
theorem x24_57 {L : pj_Loc} {st : List Value} {M : pj_Mem} {x y : Int32} {o9 : Option Value × pj_Mem} : pj_Ends 24 (57, L, .int y :: .int x :: st, M) o9 = pj_Ends 24 (58, L, .int (x + y) :: st, M) o9 := pj_xs (s24_57)
theorem q24_58 : pj_row 24 58 = some (.iastore, 1, 0, 0, 0) := by decide +kernel
theorem s24_58 {L : pj_Loc} {st : List Value} {N S : Nat} {H : pj_Heap} {o : Nat} {i x : Int32} : pj_step 24 (58, L, .int x :: .int i :: .ref o :: st, (N, S, H)) = pj_set 59 L st (N, S, H) o (pj_ars (H o) 0 i x) := st_iastore q24_58
theorem x24_58 {L : pj_Loc} {st : List Value} {N S : Nat} {H : pj_Heap} {o : Nat} {i x : Int32} {o9 : Option Value × pj_Mem} : pj_Ends 24 (58, L, .int x :: .int i :: .ref o :: st, (N, S, H)) o9 = pj_then 24 o9 (pj_set 59 L st (N, S, H) o (pj_ars (H o) 0 i x)) := pj_xt q24_58 rfl (pj_cl_nc rfl) (s24_58)
theorem q24_59 : pj_row 24 59 = some (.iinc 2 1, 3, 0, 0, 0) := by decide +kernel
theorem s24_59 {st : List Value} {M : pj_Mem} {l : pj_Loc} {a0 a1 : Option Value} {x : Int32} (h : pj_long a1 = false) : pj_step 24 (59, a0 :: a1 :: some (.int x) :: l, st, M) = some (62, a0 :: a1 :: some (.int (x + 1)) :: l, st, M) := st_iinc q24_59 rfl (congrArg (fun y => x + y) (show Int32.ofInt 1 = 1 by decide +kernel)) (pj_st_2 h)
theorem x24_59 {st : List Value} {M : pj_Mem} {l : pj_Loc} {a0 a1 : Option Value} {x : Int32} (h : pj_long a1 = false) {o9 : Option Value × pj_Mem} : pj_Ends 24 (59, a0 :: a1 :: some (.int x) :: l, st, M) o9 = pj_Ends 24 (62, a0 :: a1 :: some (.int (x + 1)) :: l, st, M) o9 := pj_xs (s24_59 h)
theorem q24_62 : pj_row 24 62 = some (.goto (-60), 3, 2, 0, 0) := by decide +kernel
theorem s24_62 {L : pj_Loc} {st : List Value} {M : pj_Mem}  : pj_step 24 (62, L, st, M) = some (2, L, st, M) := st_goto q24_62
theorem x24_62 {L : pj_Loc} {st : List Value} {M : pj_Mem}  {o9 : Option Value × pj_Mem} : pj_Ends 24 (62, L, st, M) o9 = pj_Ends 24 (2, L, st, M) o9 := pj_xs (s24_62)
theorem q24_65 : pj_row 24 65 = some (.return_, 1, 0, 0, 0) := by decide +kernel
theorem t24_65 {L : pj_Loc} {M : pj_Mem} : pj_Ends 24 (65, L, [], M) (none, M) := pj_Ends.ret q24_65 (pj_rtn_v rt24)
