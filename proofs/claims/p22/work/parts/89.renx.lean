/-! TWO OBJECTS: one row, calls, returns; whole runs -/
/-- a static array is one of the first four cells -/
theorem rn_gs_all : (pj_tab.all fun m => m.2.2.2.2.2.2.2.all fun q => match q.2.1 with
    | .getstatic _ => decide (q.2.2.2.1 < 4)
    | _ => true) = true := by decide +kernel
theorem rn_gs {k pc : Nat} {r : pj_Row} (h : pj_row k pc = some r) : ∀ i, r.1 = .getstatic i → r.2.2.1 < 4 := by
  intro i hi
  have hm : pj_mt k ∈ pj_tab := by
    unfold pj_mt
    rw [List.getD_eq_getElem?_getD]
    cases e : pj_tab[k]? with
    | none => exact List.mem_of_getElem? (show pj_tab[61]? = some pj_m61 from rfl)
    | some m => exact List.mem_of_getElem? e
  have h1 := List.all_eq_true.mp (List.all_eq_true.mp rn_gs_all _ hm) (pc, r) (pj_lookup h)
  simp only [hi] at h1
  exact of_decide_eq_true h1
theorem rn_op {d : Nat} {r : pj_Row} {pc : Nat} {L : pj_Loc} {st : List Value} {M M2 : pj_Mem} {g : pj_Cfg} (hgs : ∀ i, r.1 = .getstatic i → r.2.2.1 < 4) (hM : rn_M d M M2) (hop : pj_op r pc L st M = some g) : ∃ M2', rn_M d g.2.2.2 M2' ∧ rn_F M2.2.2 M2'.2.2 ∧ pj_op r pc (L.map rn_o) (st.map rn_v) M2 = some (rn_g g M2') := by
  obtain ⟨ins, len, a, b, z⟩ := r
  cases ins with
  | iconst i => cases hop; exact ⟨M2, hM, rn_F_rf, rfl⟩
  | bipush i => cases hop; exact ⟨M2, hM, rn_F_rf, rfl⟩
  | sipush i => cases hop; exact ⟨M2, hM, rn_F_rf, rfl⟩
  | lconst i => cases hop; exact ⟨M2, hM, rn_F_rf, rfl⟩
  | ldc i => cases hop; exact ⟨M2, hM, rn_F_rf, rfl⟩
  | ldc_w i => cases hop; exact ⟨M2, hM, rn_F_rf, rfl⟩
  | ldc2_w i => cases hop; exact ⟨M2, hM, rn_F_rf, rfl⟩
  | iload i => exact rn_PQ (rn_iload _ _) L M M2 st g hM hop
  | iload_n i => exact rn_PQ (rn_iload _ _) L M M2 st g hM hop
  | lload i => exact rn_PQ (rn_lload _ _) L M M2 st g hM hop
  | lload_n i => exact rn_PQ (rn_lload _ _) L M M2 st g hM hop
  | aload i => exact rn_PQ (rn_aload _ _) L M M2 st g hM hop
  | aload_n i => exact rn_PQ (rn_aload _ _) L M M2 st g hM hop
  | istore i => exact rn_PQ (rn_istore _ _) L M M2 st g hM hop
  | istore_n i => exact rn_PQ (rn_istore _ _) L M M2 st g hM hop
  | lstore i => exact rn_PQ (rn_lstore _ _) L M M2 st g hM hop
  | lstore_n i => exact rn_PQ (rn_lstore _ _) L M M2 st g hM hop
  | astore i => exact rn_PQ (rn_astore _ _) L M M2 st g hM hop
  | astore_n i => exact rn_PQ (rn_astore _ _) L M M2 st g hM hop
  | iinc i dd =>
    have hop' : (match pj_ld L i with
      | some (.int x) => pj_to (pc + len) st M (pj_st L i (.int (x + Int32.ofInt dd)))
      | _ => none) = some g := hop
    split at hop'
    · rename_i x hx
      cases hs : pj_st L i (.int (x + Int32.ofInt dd)) with
      | none =>
        rw [hs] at hop'
        cases hop'
      | some L' =>
        rw [hs] at hop'
        cases hop'
        refine ⟨M2, hM, rn_F_rf, ?_⟩
        show (match pj_ld (L.map rn_o) i with
          | some (.int x) => pj_to (pc + len) (st.map rn_v) M2 (pj_st (L.map rn_o) i (rn_v (.int (x + Int32.ofInt dd))))
          | _ => none) = _
        rw [rn_ld, hx]
        show pj_to (pc + len) (st.map rn_v) M2 (pj_st (L.map rn_o) i (rn_v (.int (x + Int32.ofInt dd)))) = _
        rw [rn_st, hs]
        rfl
    · cases hop'
  | iadd => exact rn_PQ (rn_bin _ _) L M M2 st g hM hop
  | isub => exact rn_PQ (rn_bin _ _) L M M2 st g hM hop
  | imul => exact rn_PQ (rn_bin _ _) L M M2 st g hM hop
  | iand => exact rn_PQ (rn_bin _ _) L M M2 st g hM hop
  | ior => exact rn_PQ (rn_bin _ _) L M M2 st g hM hop
  | ixor => exact rn_PQ (rn_bin _ _) L M M2 st g hM hop
  | ishl => exact rn_PQ (rn_bin _ _) L M M2 st g hM hop
  | ishr => exact rn_PQ (rn_bin _ _) L M M2 st g hM hop
  | iushr => exact rn_PQ (rn_bin _ _) L M M2 st g hM hop
  | idiv =>
    simp only [pj_op] at hop
    split at hop
    · rename_i y x s
      by_cases c : y = 0
      · rw [if_pos c] at hop
        cases hop
      · rw [if_neg c] at hop
        cases hop
        refine ⟨M2, hM, rn_F_rf, ?_⟩
        show (if y = 0 then none else some _) = _
        rw [if_neg c]
        rfl
    · cases hop
  | irem =>
    simp only [pj_op] at hop
    split at hop
    · rename_i y x s
      by_cases c : y = 0
      · rw [if_pos c] at hop
        cases hop
      · rw [if_neg c] at hop
        cases hop
        refine ⟨M2, hM, rn_F_rf, ?_⟩
        show (if y = 0 then none else some _) = _
        rw [if_neg c]
        rfl
    · cases hop
  | ineg => exact rn_PQ (rn_un _ (fun _ => rfl) _) L M M2 st g hM hop
  | i2l => exact rn_PQ (rn_un _ (fun _ => rfl) _) L M M2 st g hM hop
  | i2c => exact rn_PQ (rn_un _ (fun _ => rfl) _) L M M2 st g hM hop
  | l2i => exact rn_PQ (rn_l2i _) L M M2 st g hM hop
  | land => exact rn_PQ (rn_binl _ _) L M M2 st g hM hop
  | lor => exact rn_PQ (rn_binl _ _) L M M2 st g hM hop
  | lsub => exact rn_PQ (rn_binl _ _) L M M2 st g hM hop
  | lushr => exact rn_PQ (rn_lsh _ _) L M M2 st g hM hop
  | lshl => exact rn_PQ (rn_lsh _ _) L M M2 st g hM hop
  | lcmp => exact rn_PQ (rn_lcmp _) L M M2 st g hM hop
  | dup => exact rn_PQ (rn_dup _) L M M2 st g hM hop
  | dup2 => exact rn_PQ (rn_dup2 _) L M M2 st g hM hop
  | pop => exact rn_PQ (rn_pop _) L M M2 st g hM hop
  | goto off => cases hop; exact ⟨M2, hM, rn_F_rf, rfl⟩
  | if_icmp cc off => exact rn_PQ (rn_br _ _ _) L M M2 st g hM hop
  | ifCond cc off => exact rn_PQ (rn_br0 _ _ _) L M M2 st g hM hop
  | tableswitch dd lo hi offs => exact rn_PQ (rn_tsw _ _ _ _ _) L M M2 st g hM hop
  | lookupswitch dd ps => exact rn_PQ (rn_lsw _ _ _) L M M2 st g hM hop
  | getfield i => exact rn_getf _ _ _ L M M2 st g hM hop
  | putfield i => exact rn_putf _ _ _ L M M2 st g hM hop
  | getstatic i =>
    have h4 : a < 4 := hgs i rfl
    cases hop
    refine ⟨M2, hM, rn_F_rf, ?_⟩
    show some (pc + len, L.map rn_o, .ref a :: st.map rn_v, M2) = some (pc + len, L.map rn_o, .ref (rn_s a) :: st.map rn_v, M2)
    rw [rn_s_lo h4]
  | iaload => exact rn_xald _ _ L M M2 st g hM hop
  | caload => exact rn_xald _ _ L M M2 st g hM hop
  | baload => exact rn_xald _ _ L M M2 st g hM hop
  | iastore => exact rn_xast _ _ _ L M M2 st g hM hop
  | castore => exact rn_xast _ _ _ L M M2 st g hM hop
  | bastore => exact rn_xast _ _ _ L M M2 st g hM hop
  | aaload => exact rn_aald _ L M M2 st g hM hop
  | aastore => exact rn_aast _ L M M2 st g hM hop
  | arraylength => exact rn_alen _ L M M2 st g hM hop
  | new i =>
    cases hop
    have hc : rn_c (.inl (a, pj_dfl a)) = .inl (a, pj_dfl a) := by
      show Sum.inl (a, (pj_dfl a).map rn_v) = _
      rw [rn_dfl]
    obtain ⟨h1, h2, h3⟩ := rn_made (n := (pj_dfl a).length) hM hc
    refine ⟨_, h1, h2, ?_⟩
    show some (pc + len, L.map rn_o, .ref M2.1 :: st.map rn_v, (M2.1 + 1, M2.2.1 + (pj_dfl a).length, pj_up M2.2.2 M2.1 (.inl (a, pj_dfl a)))) = some (pc + len, L.map rn_o, .ref (rn_s M.1) :: st.map rn_v, _)
    rw [← h3]
  | newarray t => exact rn_newa _ _ L M M2 st g hM hop
  | anewarray i => exact rn_newa _ _ L M M2 st g hM hop
  | invokestatic i => exact rn_one _ _ L M M2 st g hM hop
  | invokespecial i => exact rn_one _ _ L M M2 st g hM hop
  | _ => exact absurd (show (none : Option pj_Cfg) = some g from hop) (fun h => by cases h)
theorem rn_rtn (k : Nat) (i : Instr) (st : List Value) : pj_rtn k i (st.map rn_v) = (pj_rtn k i st).map rn_o := by
  cases i with
  | return_ =>
    cases st with
    | nil =>
      show (if pj_rt k = none then some none else none) = (if pj_rt k = none then some none else none : Option (Option Value)).map rn_o
      by_cases c : pj_rt k = none
      · rw [if_pos c]
        rfl
      · rw [if_neg c]
        rfl
    | cons v l => rfl
  | ireturn =>
    match st with
    | [] => rfl
    | [.int v] =>
      show (match pj_rt k with
        | some ty => if narrow ty (.int v) = .int v then some (some (.int v)) else none
        | none => none) = (match pj_rt k with
        | some ty => if narrow ty (.int v) = .int v then some (some (.int v)) else none
        | none => none : Option (Option Value)).map rn_o
      cases pj_rt k with
      | none => rfl
      | some ty =>
        show (if narrow ty (.int v) = .int v then some (some (.int v)) else none) = (if narrow ty (.int v) = .int v then some (some (.int v)) else none : Option (Option Value)).map rn_o
        by_cases c : narrow ty (.int v) = .int v
        · rw [if_pos c]
          rfl
        · rw [if_neg c]
          rfl
    | [.long _] => rfl
    | [.float _] => rfl
    | [.double _] => rfl
    | [.null] => rfl
    | [.ref _] => rfl
    | [.retAddr _] => rfl
    | v :: _ :: _ => cases v <;> rfl
  | areturn =>
    match st with
    | [] => rfl
    | [.ref a] =>
      show (match pj_rt k with
        | some (.array _) => some (some (.ref (rn_s a)))
        | some (.object _) => some (some (.ref (rn_s a)))
        | _ => none) = (match pj_rt k with
        | some (.array _) => some (some (.ref a))
        | some (.object _) => some (some (.ref a))
        | _ => none : Option (Option Value)).map rn_o
      cases pj_rt k with
      | none => rfl
      | some ty => cases ty <;> rfl
    | [.long _] => rfl
    | [.float _] => rfl
    | [.double _] => rfl
    | [.null] => rfl
    | [.int _] => rfl
    | [.retAddr _] => rfl
    | v :: _ :: _ => cases v <;> rfl
  | _ => rfl
theorem rn_cl (r : pj_Row) (st : List Value) {H K : pj_Heap} (hH : rn_H H K) : pj_cl r (st.map rn_v) K = (pj_cl r st H).map (fun q => (q.1, q.2.1.map rn_v, q.2.2.map rn_v)) := by
  obtain ⟨ins, len, a, b, z⟩ := r
  unfold pj_cl
  simp only [List.length_map, ← List.map_drop, ← List.map_take, ← List.map_reverse, rn_le4]
  by_cases c1 : z = 0 ∨ z = 1
  · rw [if_pos c1, if_pos c1]
    by_cases c2 : b ≤ st.length ∧ pj_le4 (st.drop b) = true
    · rw [if_pos c2, if_pos c2]
      cases ins with
      | invokestatic i => rfl
      | invokespecial i =>
        generalize (st.take b).reverse = w
        cases w with
        | nil => rfl
        | cons v l => cases v <;> rfl
      | invokevirtual i =>
        generalize (st.take b).reverse = w
        cases w with
        | nil => rfl
        | cons v l =>
          cases v with
          | ref o =>
            show (if pj_isU (pj_cn a) (K (rn_s o)) = true then some (a, .ref (rn_s o) :: l.map rn_v, (st.drop b).map rn_v) else none) = (if pj_isU (pj_cn a) (H o) = true then some (a, .ref o :: l, st.drop b) else none : Option (Nat × List Value × List Value)).map _
            rw [hH o, rn_isU]
            by_cases c3 : pj_isU (pj_cn a) (H o) = true
            · rw [if_pos c3, if_pos c3]
              rfl
            · rw [if_neg c3, if_neg c3]
              rfl
          | _ => rfl
      | _ => rfl
    · rw [if_neg c2, if_neg c2]
      rfl
  · rw [if_neg c1, if_neg c1]
    rfl
theorem rn_sl : ∀ as : List Value, pj_sl (as.map rn_v) = (pj_sl as).map rn_o
  | [] => rfl
  | v :: l => by
    have ih := rn_sl l
    cases v with
    | long x =>
      show some (.long x) :: none :: pj_sl (l.map rn_v) = some (.long x) :: none :: (pj_sl l).map rn_o
      rw [ih]
    | double x =>
      show some (.double x) :: none :: pj_sl (l.map rn_v) = some (.double x) :: none :: (pj_sl l).map rn_o
      rw [ih]
    | int x =>
      show some (.int x) :: pj_sl (l.map rn_v) = some (.int x) :: (pj_sl l).map rn_o
      rw [ih]
    | float x =>
      show some (.float x) :: pj_sl (l.map rn_v) = some (.float x) :: (pj_sl l).map rn_o
      rw [ih]
    | null =>
      show some .null :: pj_sl (l.map rn_v) = some .null :: (pj_sl l).map rn_o
      rw [ih]
    | ref x =>
      show some (.ref (rn_s x)) :: pj_sl (l.map rn_v) = some (.ref (rn_s x)) :: (pj_sl l).map rn_o
      rw [ih]
    | retAddr x =>
      show some (.retAddr x) :: pj_sl (l.map rn_v) = some (.retAddr x) :: (pj_sl l).map rn_o
      rw [ih]
theorem rn_ent (k : Nat) (as : List Value) : pj_ent k (as.map rn_v) = (pj_ent k as).map (List.map rn_o) := by
  unfold pj_ent
  rw [rn_sl, List.length_map]
  by_cases c : (pj_sl as).length ≤ pj_ml k
  · rw [if_pos c, if_pos c]
    show some _ = some (List.map rn_o (pj_sl as ++ List.replicate (pj_ml k - (pj_sl as).length) none))
    rw [List.map_append, List.map_replicate]
    rfl
  · rw [if_neg c, if_neg c]
    rfl
theorem rn_exec : ∀ (n k pc : Nat) (L : pj_Loc) (st : List Value) (M M2 : pj_Mem) (v : Option Value) (M' : pj_Mem) (d : Nat), pj_exec n k (pc, L, st, M) = some (v, M') → rn_M d M M2 → ∃ M2', rn_M d M' M2' ∧ rn_F M2.2.2 M2'.2.2 ∧ pj_exec n k (pc, L.map rn_o, st.map rn_v, M2) = some (rn_o v, M2')
  | 0, _, _, _, _, _, _, _, _, _, h, _ => by cases h
  | n + 1, k, pc, L, st, M, M2, v, M', d, h, hM => by
    unfold pj_exec at h
    cases hr : pj_row k pc with
    | none =>
      rw [hr] at h
      cases h
    | some r =>
      rw [hr] at h
      simp only at h
      cases hv : pj_rtn k r.1 st with
      | some v1 =>
        rw [hv] at h
        cases h
        refine ⟨M2, hM, rn_F_rf, ?_⟩
        unfold pj_exec
        rw [hr]
        simp only
        rw [rn_rtn, hv]
        rfl
      | none =>
        rw [hv] at h
        simp only at h
        have hc' := rn_cl r st hM.2.2.1
        cases hc : pj_cl r st M.2.2 with
        | some q =>
          obtain ⟨k', as, rest⟩ := q
          rw [hc] at h hc'
          simp only at h
          cases hL : pj_ent k' as with
          | none =>
            rw [hL] at h
            cases h
          | some L0 =>
            rw [hL] at h
            simp only at h
            cases he : pj_exec n k' (0, L0, [], M) with
            | none =>
              rw [he] at h
              cases h
            | some o =>
              obtain ⟨v1, M1⟩ := o
              rw [he] at h
              simp only at h
              obtain ⟨K1, a1, a2, a3⟩ := rn_exec n k' 0 L0 [] M M2 v1 M1 d he hM
              obtain ⟨K2, b1, b2, b3⟩ := rn_exec n k (pc + r.2.1) L (v1.toList ++ rest) M1 K1 v M' d h a1
              refine ⟨K2, b1, fun j x y => (b2 j x y).trans (a2 j x y), ?_⟩
              have hL' : pj_ent k' (as.map rn_v) = some (L0.map rn_o) := by
                rw [rn_ent, hL]
                rfl
              have e1 : List.map rn_v (v1.toList ++ rest) = (rn_o v1).toList ++ rest.map rn_v := by
                cases v1 <;> rfl
              have a3' : pj_exec n k' (0, L0.map rn_o, [], M2) = some (rn_o v1, K1) := a3
              rw [e1] at b3
              unfold pj_exec
              rw [hr]
              simp only
              rw [rn_rtn, hv]
              show (match pj_cl r (st.map rn_v) M2.2.2 with
                | some (k', as, rest) => (match pj_ent k' as with
                  | none => none
                  | some L0 => (match pj_exec n k' (0, L0, [], M2) with
                    | none => none
                    | some (v, M') => pj_exec n k (pc + r.2.1, L.map rn_o, v.toList ++ rest, M')))
                | none => (match pj_op r pc (L.map rn_o) (st.map rn_v) M2 with
                  | none => none
                  | some c => pj_exec n k c)) = _
              rw [hc']
              show (match pj_ent k' (as.map rn_v) with
                  | none => none
                  | some L0 => (match pj_exec n k' (0, L0, [], M2) with
                    | none => none
                    | some (v, M') => pj_exec n k (pc + r.2.1, L.map rn_o, v.toList ++ rest.map rn_v, M'))) = _
              rw [hL']
              show (match pj_exec n k' (0, L0.map rn_o, [], M2) with
                    | none => none
                    | some (v, M') => pj_exec n k (pc + r.2.1, L.map rn_o, v.toList ++ rest.map rn_v, M')) = _
              rw [a3']
              exact b3
        | none =>
          rw [hc] at h hc'
          simp only at h
          cases ho : pj_op r pc L st M with
          | none =>
            rw [ho] at h
            cases h
          | some g =>
            rw [ho] at h
            simp only at h
            obtain ⟨K1, a1, a2, a3⟩ := rn_op (rn_gs hr) hM ho
            obtain ⟨gpc, gL, gst, gM⟩ := g
            obtain ⟨K2, b1, b2, b3⟩ := rn_exec n k gpc gL gst gM K1 v M' d h a1
            refine ⟨K2, b1, fun j x y => (b2 j x y).trans (a2 j x y), ?_⟩
            unfold pj_exec
            rw [hr]
            simp only
            rw [rn_rtn, hv]
            show (match pj_cl r (st.map rn_v) M2.2.2 with
              | some (k', as, rest) => (match pj_ent k' as with
                | none => none
                | some L0 => (match pj_exec n k' (0, L0, [], M2) with
                  | none => none
                  | some (v, M') => pj_exec n k (pc + r.2.1, L.map rn_o, v.toList ++ rest, M')))
              | none => (match pj_op r pc (L.map rn_o) (st.map rn_v) M2 with
                | none => none
                | some c => pj_exec n k c)) = _
            rw [hc']
            show (match pj_op r pc (L.map rn_o) (st.map rn_v) M2 with
                | none => none
                | some c => pj_exec n k c) = _
            rw [a3]
            exact b3
theorem rn_Ends {k pc d : Nat} {L : pj_Loc} {st : List Value} {M M2 M' : pj_Mem} {v : Option Value} (h : pj_Ends k (pc, L, st, M) (v, M')) (hM : rn_M d M M2) : ∃ M2', rn_M d M' M2' ∧ rn_F M2.2.2 M2'.2.2 ∧ pj_Ends k (pc, L.map rn_o, st.map rn_v, M2) (rn_o v, M2') := by
  obtain ⟨n, hn⟩ := h
  obtain ⟨M2', h1, h2, h3⟩ := rn_exec n k pc L st M M2 v M' d hn hM
  exact ⟨M2', h1, h2, n, h3⟩
/-! the second object -/
def pj_D (K : pj_Heap) (x : pj_Sg) : Prop := ∃ H, pj_C H x ∧ rn_H H K
theorem pj_D.frame {K K' : pj_Heap} {x : pj_Sg} (h : pj_D K x) (hF : ∀ j, j < 4 ∨ 108 < j → K' j = K j) : pj_D K' x := by
  obtain ⟨H, h1, h2⟩ := h
  refine ⟨H, h1, fun a => ?_⟩
  have := rn_s_out a
  rw [hF _ (by omega)]
  exact h2 a
theorem pj_D.cl {K : pj_Heap} {x : pj_Sg} (h : pj_D K x) : pj_isU 5 (K 109) = true := by
  obtain ⟨H, h1, h2⟩ := h
  have e : K 109 = rn_c (H 4) := h2 4
  rw [e, rn_isU, h1.2.1]
  rfl
/-- a call of the class at the second object: what it answers, and the state behind it -/
def pj_Do (N S : Nat) (K : pj_Heap) (k : Nat) (L : pj_Loc) (q : pj_Sg × Int32) : Prop := ∃ K', pj_D K' q.1 ∧ (∀ j, j < 109 → K' j = K j) ∧ pj_Ends k (0, L, [], (N, S, K)) (some (.int q.2), (N, S, K'))
theorem pj_Co.moved {N S k : Nat} {K : pj_Heap} {L : pj_Loc} {x : pj_Sg} {q : pj_Sg × Int32} (hN : 109 ≤ N) (hD : pj_D K x) (h : ∀ (N S : Nat) (H : pj_Heap), pj_C H x → pj_Co N S H k L q) : pj_Do N S K k (L.map rn_o) q := by
  obtain ⟨H, h1, h2⟩ := hD
  obtain ⟨H', c1, c2, c3⟩ := h (N - 105) S H h1
  obtain ⟨M2', m1, m2, m3⟩ := rn_Ends (d := 0) (M2 := (N, S, K)) c3 ⟨by show N = N - 105 + 105; omega, rfl, h2, by show 4 ≤ N - 105; omega⟩
  obtain ⟨n2, s2, K'⟩ := M2'
  obtain ⟨e1, e2, e3, e4⟩ := m1
  have e1' : n2 = N - 105 + 105 := e1
  have e1'' : n2 = N := by omega
  have e2' : s2 = S := e2
  subst e1'' e2'
  refine ⟨K', ⟨H', c1, e3⟩, fun j hj => ?_, m3⟩
  by_cases c : 4 ≤ j
  · exact m2 j c hj
  · have q1 : K' (rn_s j) = rn_c (H' j) := e3 j
    have q2 : K (rn_s j) = rn_c (H j) := h2 j
    rw [rn_s_lo (by omega)] at q1 q2
    rw [q1, q2, c2 j (Or.inl (by omega))]
