/-! THE PURE MACHINE IS SOUND, 2: the dispatch, calls, returns, whole walks -/
theorem pj_cl_of {o i kd a b : Nat} {z : Int} (h : pj_clt.any (fun e => e.1 == o && e.2.1 == i && e.2.2.1 == kd && e.2.2.2.1 == a && e.2.2.2.2.1 == b && e.2.2.2.2.2.1 == z) = true) : ∃ p, pj_clB (o, i, kd, a, b, z, p) = true := by
  obtain ⟨e, he, h1⟩ := List.any_eq_true.mp h
  simp only [Bool.and_eq_true, beq_iff_eq] at h1
  obtain ⟨⟨⟨⟨⟨rfl, rfl⟩, rfl⟩, rfl⟩, rfl⟩, rfl⟩ := h1
  exact ⟨e.2.2.2.2.2.2, List.all_eq_true.mp pj_cl_ok e he⟩
section PJT
variable {G : pj_G} {k : Nat} {p : Program} {l : Launch} {e : Env} {R : Room} {s : State} {m : MethodId} {args : Array Value} {below : List Frame} {meth : Method} {c : Code} {H : Heap} {locs : List Loc} {Q : State → Prop} {pc : Nat} {ls : Array Slot} {N0 S0 : Nat} {L : pj_Loc} {M : pj_Mem}
theorem pj_o_obj {st : List Value} {g : pj_Cfg} (hX : pj_X G k p s m args meth c) (hL : pj_has G ls (pj_ml k) L) (hW : pj_W G M H) (hS : va_S (pj_A G) s.heap H locs) {i a b : Nat} (hd : decode (pj_by k) pc = .ok (.invokespecial i, 3)) (hr : pj_clt.any (fun e => e.1 == pj_cn k && e.2.1 == i && e.2.2.1 == 2 && e.2.2.2.1 == a && e.2.2.2.2.1 == b && e.2.2.2.2.2.1 == 2) = true) (hf : 1 ≤ R.frames) (hlo : 21 ≤ R.locals) (h9 : pj_one 2 (pc + 3) L M st = some g) (K : pj_K G k p l e R s m args below meth c Q N0 S0 g) : W p l e R s m args below meth c H locs (M.1 - N0) (M.2.1 - S0) Q (F0 m pc ls (st.map (pj_e G))) := by
  obtain ⟨pl, h1⟩ := pj_cl_of hr
  simp only [pj_clB, if_true, Bool.and_eq_true] at h1
  simp only [pj_one, if_true] at h9
  match st, h9 with
  | .ref o :: st, h9 =>
    simp only at h9
    split at h9
    · rename_i h4
      cases Option.some.inj h9
      have hsum := pj_le4_sum G h4
      exact W.objInit hX.1 hX.2.1 hX.2.2.2.2.1 (hX.2.2.2.2.2.1 _ (pj_good h1.2 rfl)) (hX.2.2.2.2.2.1 _ (List.mem_filter.mpr ⟨List.mem_of_getElem? (i := 31) (by decide +kernel), rfl⟩)) (hX.2.2.2.2.2.1 _ (List.mem_filter.mpr ⟨List.mem_of_getElem? (i := 32) (by decide +kernel), rfl⟩)) rfl (by rw [hX.2.2.1]; exact hL.1) rfl hd hf (by show 2 * 0 + _ + 12 ≤ _; omega) (K ls H locs hL hW hS)
    · cases h9
theorem pj_o_acp {st : List Value} {g : pj_Cfg} (hX : pj_X G k p s m args meth c) (hL : pj_has G ls (pj_ml k) L) (hW : pj_W G M H) (hS : va_S (pj_A G) s.heap H locs) {i a b : Nat} (hd : decode (pj_by k) pc = .ok (.invokestatic i, 3)) (hr : pj_clt.any (fun e => e.1 == pj_cn k && e.2.1 == i && e.2.2.1 == 0 && e.2.2.2.1 == a && e.2.2.2.2.1 == b && e.2.2.2.2.2.1 == 3) = true) (hf : 1 ≤ R.frames) (hlo : 40 ≤ R.locals) (hc : M.1 - N0 ≤ R.cells) (hs : M.2.1 - S0 ≤ R.slots) (h9 : pj_one 3 (pc + 3) L M st = some g) (K : pj_K G k p l e R s m args below meth c Q N0 S0 g) : W p l e R s m args below meth c H locs (M.1 - N0) (M.2.1 - S0) Q (F0 m pc ls (st.map (pj_e G))) := by
  obtain ⟨pl, h1⟩ := pj_cl_of hr
  simp only [pj_clB, if_neg (show ¬ ((3 : Int) = 2) by decide), if_true, Bool.and_eq_true] at h1
  simp only [pj_one, if_neg (show ¬ ((3 : Int) = 2) by decide), if_true] at h9
  match st, h9 with
  | .int n :: .int dp :: .ref d :: .int sp :: .ref o :: st, h9 =>
    simp only at h9
    split at h9
    · rename_i h4
      have hsum := pj_le4_sum G h4
      cases ho : M.2.2 o with
      | inl x => rw [ho] at h9; cases h9
      | inr x =>
        obtain ⟨t, n0, x⟩ := x
        cases x with
        | inr f => rw [ho] at h9; cases h9
        | inl f =>
          cases hdd : M.2.2 d with
          | inl y => rw [ho, hdd] at h9; cases h9
          | inr y =>
            obtain ⟨u, n1, y⟩ := y
            cases y with
            | inr f => rw [ho, hdd] at h9; cases h9
            | inl f2 =>
              rw [ho, hdd] at h9
              simp only [pj_cas] at h9
              split at h9
              · rename_i hcnd
                obtain ⟨rfl, rfl, c1, c2, c3, c4, c5⟩ := hcnd
                cases h9
                obtain ⟨m1, m2⟩ := pj_made_arr hW ho (by decide)
                obtain ⟨v1, v2⟩ := pj_made_arr hW hdd (by decide)
                have hg1 := pj_ws_get (G := G) (H := M.2.2) m1 m2
                have hg2 := pj_ws_get (G := G) (H := M.2.2) v1 v2
                rw [ho] at hg1
                rw [hdd] at hg2
                have hK := hX.2.2.2.2.2.2.2.2.1
                have hts := hX.2.2.2.2.2.1
                have nn : ∀ z : Int32, ¬ z < 0 → z.toInt = (z.toNatClampNeg : Int) := by
                  intro z hz
                  have hz0 : (0 : Int) ≤ z.toInt := by
                    have := Int32.not_lt.mp hz
                    simpa using Int32.le_iff_toInt_le.mp this
                  show z.toInt = ((z.toInt.toNat : Nat) : Int)
                  omega
                intro T hT X
                have hc0 : H[pj_ad G o]? = some (vp_cell (G.2.2.2.2 0) (n0, .inl f)) := hW.1 _ _ hg1
                have hc1 : H[pj_ad G d]? = some (vp_cell (G.2.2.2.2 0) (n1, .inl f2)) := hW.1 _ _ hg2
                obtain ⟨-, k0, hk0, cm0, hkk0⟩ := (hK.2 0 _ rfl).1 n0 (fun j => .int (f j))
                obtain ⟨-, k1, hk1, cm1, hkk1⟩ := (hK.2 0 _ rfl).1 n1 (fun j => .int (f2 j))
                obtain ⟨vm', X', step⟩ := X.arraycopy hX.1 hX.2.2.2.2.1 (hts _ (pj_good h1.2 rfl)) (hts _ (List.mem_filter.mpr ⟨List.mem_of_getElem? (i := 341) (by decide +kernel), rfl⟩)) (hts _ (List.mem_filter.mpr ⟨List.mem_of_getElem? (i := 340) (by decide +kernel), rfl⟩)) (hts _ (List.mem_filter.mpr ⟨List.mem_of_getElem? (i := 22) (by decide +kernel), rfl⟩)) (src := pj_ad G o) (dst := pj_ad G d) (cs := vp_cell (G.2.2.2.2 0) (n0, .inl f)) (cd := vp_cell (G.2.2.2.2 0) (n1, .inl f2)) (srcPos := sp) (destPos := dp) (n := n) (by rw [hT]; exact hc0) (by rw [hT]; exact hc1)
                  (fun _ h => by cases h) (fun _ h => by cases h) (fun h => by cases h) (fun h => by cases h) hk0 hk1 hkk0 hkk1 (by simp [refKind]) c1 c2 c3
                  (by rw [nn sp c1, nn n c3]; show ¬ _ > ((arrV (G.2.2.2.2 0) n0 (fun j => .int (f j))).slots.size : Int); rw [arrV_size]; omega)
                  (by rw [nn dp c2, nn n c3]; show ¬ _ > ((arrV (G.2.2.2.2 0) n1 (fun j => .int (f2 j))).slots.size : Int); rw [arrV_size]; omega)
                  (fun vm₁ _ i hi => by
                    have e : (vp_cell (G.2.2.2.2 0) (n0, .inl f)).slots.getD (sp.toNatClampNeg + i) .null = .int (f (sp.toNatClampNeg + i)) := by
                      show (arrV (G.2.2.2.2 0) n0 (fun j => .int (f j))).slots.getD _ _ = _
                      rw [Array.getD_eq_getD_getElem?, arrV_read _ _ (by omega)]
                      rfl
                    refine ⟨?_, ?_⟩
                    · rw [e]; rfl
                    · rw [e]; exact trivial)
                  (g := F0 m pc ls (.int n :: .int dp :: .ref (pj_ad G d) :: .int sp :: .ref (pj_ad G o) :: st.map (pj_e G))) rfl (by rw [hX.2.2.1]; exact hL.1) (rest := st.map (pj_e G)) rfl (by rw [hX.2.1]; exact hd) hf (by
                    have e7 : nativeFrameWords "java/lang/System" "arraycopy" 5 = 7 := by decide +kernel
                    rw [e7]
                    show 2 * 0 + _ + _ ≤ _; omega)
                have e1 : copied (vp_cell (G.2.2.2.2 0) (n0, .inl f)) (vp_cell (G.2.2.2.2 0) (n1, .inl f2)) sp dp n = vp_cell (G.2.2.2.2 0) (n1, .inl (va_cpy f f2 sp.toNatClampNeg dp.toNatClampNeg n.toNatClampNeg)) := va_copied (fun z => .int z) (G.2.2.2.2 0) (G.2.2.2.2 0) f f2 c4
                rw [e1] at X' step
                have hl : pj_ad G d < H.size := (Array.getElem?_eq_some_iff.mp hc1).1
                generalize hcell : vp_cell (G.2.2.2.2 0) (n1, .inl (va_cpy f f2 sp.toNatClampNeg dp.toNatClampNeg n.toNatClampNeg)) = cellN at X' step
                have hheap : ((T.setVm vm').setCell (pj_ad G d) cellN).heap = H.setIfInBounds (pj_ad G d) cellN := by rw [← hT]; rfl
                have oq : ∀ q : Nat, q ≠ pj_ad G d → (H.setIfInBounds (pj_ad G d) cellN)[q]? = H[q]? := fun q hq => by simp [Array.getElem?_setIfInBounds, Ne.symm hq]
                have hself : (H.setIfInBounds (pj_ad G d) cellN)[pj_ad G d]? = some cellN := by simp [Array.getElem?_setIfInBounds, hl]
                have hW2 := pj_W_set (c0 := .inr (0, n1, .inl (va_cpy f f2 sp.toNatClampNeg dp.toNatClampNeg n.toNatClampNeg))) hW v1 v2 (by
                  show (H.setIfInBounds (pj_ad G d) cellN)[pj_ad G d]? = some (vp_cell (G.2.2.2.2 0) (n1, .inl (va_cpy f f2 sp.toNatClampNeg dp.toNatClampNeg n.toNatClampNeg)))
                  rw [hself, hcell]) (by simp) oq (fun _ _ _ z => by cases z; decide)
                obtain ⟨t, a1, b1⟩ := K ls _ (locs ++ ((vp_cell (G.2.2.2.2 0) (n0, .inl f)).stretch sp.toNatClampNeg n.toNatClampNeg).zipIdx.map fun q => ⟨pj_ad G d, dp.toNatClampNeg + q.2⟩) hL hW2 ⟨by simp; exact hS.1, fun q g1 g2 => by
                    rw [oq q (fun e => g2 (by rw [e, pj_ad_hi v1]; show G.1 ≤ _; omega))]
                    exact hS.2.1 q g1 g2, fun q hq => by
                    rcases List.mem_append.mp hq with h | h
                    · exact hS.2.2 q h
                    · obtain ⟨z, -, hz⟩ := List.mem_map.mp h
                      rw [← hz]
                      show G.1 ≤ pj_ad G d
                      rw [pj_ad_hi v1]
                      omega⟩ _ hheap X'
                exact ⟨t, step t a1, b1⟩
              · cases h9
    · cases h9
theorem pj_o_mmax {st : List Value} {g : pj_Cfg} (hX : pj_X G k p s m args meth c) (hL : pj_has G ls (pj_ml k) L) (hW : pj_W G M H) (hS : va_S (pj_A G) s.heap H locs) {i a b : Nat} (hd : decode (pj_by k) pc = .ok (.invokestatic i, 3)) (hr : pj_clt.any (fun e => e.1 == pj_cn k && e.2.1 == i && e.2.2.1 == 0 && e.2.2.2.1 == a && e.2.2.2.2.1 == b && e.2.2.2.2.2.1 == 4) = true) (hf : 1 ≤ R.frames) (hlo : 21 ≤ R.locals) (hc : M.1 - N0 ≤ R.cells) (hs : M.2.1 - S0 ≤ R.slots) (h9 : pj_one 4 (pc + 3) L M st = some g) (K : pj_K G k p l e R s m args below meth c Q N0 S0 g) : W p l e R s m args below meth c H locs (M.1 - N0) (M.2.1 - S0) Q (F0 m pc ls (st.map (pj_e G))) := by
  obtain ⟨pl, h1⟩ := pj_cl_of hr
  simp only [pj_clB, if_neg (show ¬ ((4 : Int) = 2) by decide), if_neg (show ¬ ((4 : Int) = 3) by decide), if_true, Bool.and_eq_true] at h1
  simp only [pj_one, if_neg (show ¬ ((4 : Int) = 2) by decide), if_neg (show ¬ ((4 : Int) = 3) by decide), if_true] at h9
  match st, h9 with
  | .int y :: .int x :: st, h9 =>
    simp only at h9
    split at h9
    · rename_i h4
      cases Option.some.inj h9
      have hsum := pj_le4_sum G h4
      exact va_mmax hX.1 hX.2.1 (by rw [hX.2.2.1]; exact hL.1.symm) hX.2.2.2.2.1 (hX.2.2.2.2.2.1 _ (pj_good h1.2 rfl)) (hX.2.2.2.2.2.1 _ (List.mem_filter.mpr ⟨List.mem_of_getElem? (i := 305) (by decide +kernel), rfl⟩)) (hX.2.2.2.2.2.1 _ (List.mem_filter.mpr ⟨List.mem_of_getElem? (i := 24) (by decide +kernel), rfl⟩)) (hX.2.2.2.2.2.1 _ (List.mem_filter.mpr ⟨List.mem_of_getElem? (i := 306) (by decide +kernel), rfl⟩)) hf (by omega) hc hs hd (K ls H locs hL hW hS)
    · cases h9
theorem pj_o_mmin {st : List Value} {g : pj_Cfg} (hX : pj_X G k p s m args meth c) (hL : pj_has G ls (pj_ml k) L) (hW : pj_W G M H) (hS : va_S (pj_A G) s.heap H locs) {i a b : Nat} (hd : decode (pj_by k) pc = .ok (.invokestatic i, 3)) (hr : pj_clt.any (fun e => e.1 == pj_cn k && e.2.1 == i && e.2.2.1 == 0 && e.2.2.2.1 == a && e.2.2.2.2.1 == b && e.2.2.2.2.2.1 == 5) = true) (hf : 1 ≤ R.frames) (hlo : 21 ≤ R.locals) (hc : M.1 - N0 ≤ R.cells) (hs : M.2.1 - S0 ≤ R.slots) (h9 : pj_one 5 (pc + 3) L M st = some g) (K : pj_K G k p l e R s m args below meth c Q N0 S0 g) : W p l e R s m args below meth c H locs (M.1 - N0) (M.2.1 - S0) Q (F0 m pc ls (st.map (pj_e G))) := by
  obtain ⟨pl, h1⟩ := pj_cl_of hr
  simp only [pj_clB, if_neg (show ¬ ((5 : Int) = 2) by decide), if_neg (show ¬ ((5 : Int) = 3) by decide), if_neg (show ¬ ((5 : Int) = 4) by decide), if_true, Bool.and_eq_true] at h1
  simp only [pj_one, if_neg (show ¬ ((5 : Int) = 2) by decide), if_neg (show ¬ ((5 : Int) = 3) by decide), if_neg (show ¬ ((5 : Int) = 4) by decide), if_true] at h9
  match st, h9 with
  | .int y :: .int x :: st, h9 =>
    simp only at h9
    split at h9
    · rename_i h4
      cases Option.some.inj h9
      have hsum := pj_le4_sum G h4
      exact va_mmin hX.1 hX.2.1 (by rw [hX.2.2.1]; exact hL.1.symm) hX.2.2.2.2.1 (hX.2.2.2.2.2.1 _ (pj_good h1.2 rfl)) (hX.2.2.2.2.2.1 _ (List.mem_filter.mpr ⟨List.mem_of_getElem? (i := 302) (by decide +kernel), rfl⟩)) (hX.2.2.2.2.2.1 _ (List.mem_filter.mpr ⟨List.mem_of_getElem? (i := 24) (by decide +kernel), rfl⟩)) (hX.2.2.2.2.2.1 _ (List.mem_filter.mpr ⟨List.mem_of_getElem? (i := 303) (by decide +kernel), rfl⟩)) hf (by omega) hc hs hd (K ls H locs hL hW hS)
    · cases h9
theorem pj_o_mabs {st : List Value} {g : pj_Cfg} (hX : pj_X G k p s m args meth c) (hL : pj_has G ls (pj_ml k) L) (hW : pj_W G M H) (hS : va_S (pj_A G) s.heap H locs) {i a b : Nat} (hd : decode (pj_by k) pc = .ok (.invokestatic i, 3)) (hr : pj_clt.any (fun e => e.1 == pj_cn k && e.2.1 == i && e.2.2.1 == 0 && e.2.2.2.1 == a && e.2.2.2.2.1 == b && e.2.2.2.2.2.1 == 6) = true) (hf : 1 ≤ R.frames) (hlo : 21 ≤ R.locals) (hc : M.1 - N0 ≤ R.cells) (hs : M.2.1 - S0 ≤ R.slots) (h9 : pj_one 6 (pc + 3) L M st = some g) (K : pj_K G k p l e R s m args below meth c Q N0 S0 g) : W p l e R s m args below meth c H locs (M.1 - N0) (M.2.1 - S0) Q (F0 m pc ls (st.map (pj_e G))) := by
  obtain ⟨pl, h1⟩ := pj_cl_of hr
  simp only [pj_clB, if_neg (show ¬ ((6 : Int) = 2) by decide), if_neg (show ¬ ((6 : Int) = 3) by decide), if_neg (show ¬ ((6 : Int) = 4) by decide), if_neg (show ¬ ((6 : Int) = 5) by decide), if_true, Bool.and_eq_true] at h1
  simp only [pj_one, if_neg (show ¬ ((6 : Int) = 2) by decide), if_neg (show ¬ ((6 : Int) = 3) by decide), if_neg (show ¬ ((6 : Int) = 4) by decide), if_neg (show ¬ ((6 : Int) = 5) by decide), if_true] at h9
  match st, h9 with
  | .int x :: st, h9 =>
    simp only at h9
    split at h9
    · rename_i h4
      cases Option.some.inj h9
      have hsum := pj_le4_sum G h4
      exact va_mabs hX.1 hX.2.1 (by rw [hX.2.2.1]; exact hL.1.symm) hX.2.2.2.2.1 (hX.2.2.2.2.2.1 _ (pj_good h1.2 rfl)) (hX.2.2.2.2.2.1 _ (List.mem_filter.mpr ⟨List.mem_of_getElem? (i := 317) (by decide +kernel), rfl⟩)) (hX.2.2.2.2.2.1 _ (List.mem_filter.mpr ⟨List.mem_of_getElem? (i := 24) (by decide +kernel), rfl⟩)) (hX.2.2.2.2.2.1 _ (List.mem_filter.mpr ⟨List.mem_of_getElem? (i := 318) (by decide +kernel), rfl⟩)) hf (by omega) hc hs hd (K ls H locs hL hW hS)
    · cases h9
/-- memory only grows -/
def pj_gr (M : pj_Mem) (g : pj_Cfg) : Prop := M.1 ≤ g.2.2.2.1 ∧ M.2.1 ≤ g.2.2.2.2.1
theorem pj_gr_rf {M : pj_Mem} {pc : Nat} {L : pj_Loc} {st : List Value} {g : pj_Cfg} (h : g = (pc, L, st, M)) : pj_gr M g := by subst h; exact ⟨Nat.le_refl _, Nat.le_refl _⟩
theorem pj_gr_set {M : pj_Mem} {pc o : Nat} {L : pj_Loc} {st : List Value} {x : Option pj_Cell} {g : pj_Cfg} (h : pj_set pc L st M o x = some g) : pj_gr M g := by
  cases x with
  | none => cases h
  | some c => cases h; exact ⟨Nat.le_refl _, Nat.le_refl _⟩
theorem pj_gr_to {M : pj_Mem} {pc : Nat} {st : List Value} {x : Option pj_Loc} {g : pj_Cfg} (h : pj_to pc st M x = some g) : pj_gr M g := by
  cases x with
  | none => cases h
  | some c => cases h; exact ⟨Nat.le_refl _, Nat.le_refl _⟩
theorem pj_gr_jmp {M : pj_Mem} {pc : Nat} {L : pj_Loc} {st : List Value} {off : Int} {g : pj_Cfg} (h : pj_jmp pc L M st off = some g) : pj_gr M g := by
  unfold pj_jmp at h
  split at h
  · exact pj_gr_rf (Option.some.inj h).symm
  · cases h
theorem pj_gr_bin {f : Int32 → Int32 → Int32} {pc : Nat} {L : pj_Loc} {M : pj_Mem} {st : List Value} {g : pj_Cfg} (h : pj_bin f pc L M st = some g) : pj_gr M g := by
  unfold pj_bin at h
  split at h
  · exact pj_gr_rf (Option.some.inj h).symm
  · cases h
theorem pj_gr_binl {f : Int64 → Int64 → Int64} {pc : Nat} {L : pj_Loc} {M : pj_Mem} {st : List Value} {g : pj_Cfg} (h : pj_binl f pc L M st = some g) : pj_gr M g := by
  unfold pj_binl at h
  split at h
  · exact pj_gr_rf (Option.some.inj h).symm
  · cases h
theorem pj_gr_un {f : Int32 → Value} {pc : Nat} {L : pj_Loc} {M : pj_Mem} {st : List Value} {g : pj_Cfg} (h : pj_un f pc L M st = some g) : pj_gr M g := by
  unfold pj_un at h
  split at h
  · exact pj_gr_rf (Option.some.inj h).symm
  · cases h
theorem pj_gr_iload {i : Nat} {pc : Nat} {L : pj_Loc} {M : pj_Mem} {st : List Value} {g : pj_Cfg} (h : pj_iload i pc L M st = some g) : pj_gr M g := by
  unfold pj_iload at h
  split at h
  · exact pj_gr_rf (Option.some.inj h).symm
  · cases h
theorem pj_gr_istore {i : Nat} {pc : Nat} {L : pj_Loc} {M : pj_Mem} {st : List Value} {g : pj_Cfg} (h : pj_istore i pc L M st = some g) : pj_gr M g := by
  unfold pj_istore at h
  split at h
  · exact pj_gr_to h
  · cases h
theorem pj_gr_lload {i : Nat} {pc : Nat} {L : pj_Loc} {M : pj_Mem} {st : List Value} {g : pj_Cfg} (h : pj_lload i pc L M st = some g) : pj_gr M g := by
  unfold pj_lload at h
  split at h
  · exact pj_gr_rf (Option.some.inj h).symm
  · cases h
theorem pj_gr_lstore {i : Nat} {pc : Nat} {L : pj_Loc} {M : pj_Mem} {st : List Value} {g : pj_Cfg} (h : pj_lstore i pc L M st = some g) : pj_gr M g := by
  unfold pj_lstore at h
  split at h
  · exact pj_gr_to h
  · cases h
theorem pj_gr_aload {i : Nat} {pc : Nat} {L : pj_Loc} {M : pj_Mem} {st : List Value} {g : pj_Cfg} (h : pj_aload i pc L M st = some g) : pj_gr M g := by
  unfold pj_aload at h
  split at h
  · exact pj_gr_rf (Option.some.inj h).symm
  · cases h
theorem pj_gr_astore {i : Nat} {pc : Nat} {L : pj_Loc} {M : pj_Mem} {st : List Value} {g : pj_Cfg} (h : pj_astore i pc L M st = some g) : pj_gr M g := by
  unfold pj_astore at h
  split at h
  · exact pj_gr_to h
  · cases h
theorem pj_gr_getf {a b : Nat} {pc : Nat} {L : pj_Loc} {M : pj_Mem} {st : List Value} {g : pj_Cfg} (h : pj_getf a b pc L M st = some g) : pj_gr M g := by
  unfold pj_getf at h
  split at h
  · split at h
    · exact pj_gr_rf (Option.some.inj h).symm
    · cases h
  · cases h
theorem pj_gr_putf {a b : Nat} {pc : Nat} {L : pj_Loc} {M : pj_Mem} {st : List Value} {g : pj_Cfg} (h : pj_putf a b pc L M st = some g) : pj_gr M g := by
  unfold pj_putf at h
  split at h
  · exact pj_gr_set h
  · cases h
theorem pj_gr_xald {u : Nat} {pc : Nat} {L : pj_Loc} {M : pj_Mem} {st : List Value} {g : pj_Cfg} (h : pj_xald u pc L M st = some g) : pj_gr M g := by
  unfold pj_xald at h
  split at h
  · split at h
    · exact pj_gr_rf (Option.some.inj h).symm
    · cases h
  · cases h
theorem pj_gr_aald  {pc : Nat} {L : pj_Loc} {M : pj_Mem} {st : List Value} {g : pj_Cfg} (h : pj_aald pc L M st = some g) : pj_gr M g := by
  unfold pj_aald at h
  split at h
  · split at h
    · exact pj_gr_rf (Option.some.inj h).symm
    · cases h
  · cases h
theorem pj_gr_alen  {pc : Nat} {L : pj_Loc} {M : pj_Mem} {st : List Value} {g : pj_Cfg} (h : pj_alen pc L M st = some g) : pj_gr M g := by
  unfold pj_alen at h
  split at h
  · split at h
    · exact pj_gr_rf (Option.some.inj h).symm
    · cases h
  · cases h
theorem pj_gr_xast {u : Nat} {f : Int32 → Int32} {pc : Nat} {L : pj_Loc} {M : pj_Mem} {st : List Value} {g : pj_Cfg} (h : pj_xast u f pc L M st = some g) : pj_gr M g := by
  unfold pj_xast at h
  split at h
  · exact pj_gr_set h
  · cases h
theorem pj_gr_aast  {pc : Nat} {L : pj_Loc} {M : pj_Mem} {st : List Value} {g : pj_Cfg} (h : pj_aast pc L M st = some g) : pj_gr M g := by
  unfold pj_aast at h
  split at h
  · split at h
    · exact pj_gr_set h
    · cases h
  · cases h
theorem pj_gr_newa {t : Nat} {pc : Nat} {L : pj_Loc} {M : pj_Mem} {st : List Value} {g : pj_Cfg} (h : pj_newa t pc L M st = some g) : pj_gr M g := by
  unfold pj_newa at h
  split at h
  · split at h
    · cases h
      exact ⟨Nat.le_succ _, Nat.le_add_right _ _⟩
    · cases h
  · cases h
theorem pj_gr_br {cc : ClassFile.Cond} {t f : Nat} {L : pj_Loc} {M : pj_Mem} {st : List Value} {g : pj_Cfg} (h : pj_br cc t f L M st = some g) : pj_gr M g := by
  unfold pj_br at h
  split at h
  · exact pj_gr_rf (Option.some.inj h).symm
  · cases h
theorem pj_gr_br0 {cc : ClassFile.Cond} {t f : Nat} {L : pj_Loc} {M : pj_Mem} {st : List Value} {g : pj_Cfg} (h : pj_br0 cc t f L M st = some g) : pj_gr M g := by
  unfold pj_br0 at h
  split at h
  · exact pj_gr_rf (Option.some.inj h).symm
  · cases h
theorem pj_gr_tsw {d lo hi : Int} {offs : Array Int} {pc : Nat} {L : pj_Loc} {M : pj_Mem} {st : List Value} {g : pj_Cfg} (h : pj_tsw pc L M d lo hi offs st = some g) : pj_gr M g := by
  unfold pj_tsw at h
  split at h
  · split at h
    · exact pj_gr_jmp h
    · split at h
      · exact pj_gr_jmp h
      · cases h
  · cases h
theorem pj_gr_lsw {d : Int} {ps : Array (Int × Int)} {pc : Nat} {L : pj_Loc} {M : pj_Mem} {st : List Value} {g : pj_Cfg} (h : pj_lsw pc L M d ps st = some g) : pj_gr M g := by
  unfold pj_lsw at h
  split at h
  · exact pj_gr_jmp h
  · cases h
theorem pj_gr_l2i  {pc : Nat} {L : pj_Loc} {M : pj_Mem} {st : List Value} {g : pj_Cfg} (h : pj_l2i pc L M st = some g) : pj_gr M g := by
  unfold pj_l2i at h
  split at h
  · exact pj_gr_rf (Option.some.inj h).symm
  · cases h
theorem pj_gr_lsh {f : Int64 → Int32 → Int64} {pc : Nat} {L : pj_Loc} {M : pj_Mem} {st : List Value} {g : pj_Cfg} (h : pj_lsh f pc L M st = some g) : pj_gr M g := by
  unfold pj_lsh at h
  split at h
  · exact pj_gr_rf (Option.some.inj h).symm
  · cases h
theorem pj_gr_lcmp  {pc : Nat} {L : pj_Loc} {M : pj_Mem} {st : List Value} {g : pj_Cfg} (h : pj_lcmp pc L M st = some g) : pj_gr M g := by
  unfold pj_lcmp at h
  split at h
  · exact pj_gr_rf (Option.some.inj h).symm
  · cases h
theorem pj_gr_dup  {pc : Nat} {L : pj_Loc} {M : pj_Mem} {st : List Value} {g : pj_Cfg} (h : pj_dup pc L M st = some g) : pj_gr M g := by
  unfold pj_dup at h
  split at h
  · split at h
    · exact pj_gr_rf (Option.some.inj h).symm
    · cases h
  · cases h
theorem pj_gr_dup2  {pc : Nat} {L : pj_Loc} {M : pj_Mem} {st : List Value} {g : pj_Cfg} (h : pj_dup2 pc L M st = some g) : pj_gr M g := by
  unfold pj_dup2 at h
  split at h
  · split at h
    · exact pj_gr_rf (Option.some.inj h).symm
    · cases h
  · cases h
theorem pj_gr_pop  {pc : Nat} {L : pj_Loc} {M : pj_Mem} {st : List Value} {g : pj_Cfg} (h : pj_pop pc L M st = some g) : pj_gr M g := by
  unfold pj_pop at h
  split at h
  · split at h
    · exact pj_gr_rf (Option.some.inj h).symm
    · cases h
  · cases h
theorem pj_gr_one {z : Int} {pc : Nat} {L : pj_Loc} {M : pj_Mem} {st : List Value} {g : pj_Cfg} (h : pj_one z pc L M st = some g) : pj_gr M g := by
  unfold pj_one at h
  split at h
  · split at h
    · split at h
      · exact pj_gr_rf (Option.some.inj h).symm
      · cases h
    · cases h
  · split at h
    · split at h
      · split at h
        · exact pj_gr_set h
        · cases h
      · cases h
    · split at h
      · split at h
        · split at h
          · exact pj_gr_rf (Option.some.inj h).symm
          · cases h
        · cases h
      · split at h
        · split at h
          · split at h
            · exact pj_gr_rf (Option.some.inj h).symm
            · cases h
          · cases h
        · split at h
          · split at h
            · split at h
              · exact pj_gr_rf (Option.some.inj h).symm
              · cases h
            · cases h
          · cases h
theorem pj_op_gr {r : pj_Row} {pc : Nat} {L : pj_Loc} {st : List Value} {M : pj_Mem} {g : pj_Cfg} (hop : pj_op r pc L st M = some g) : pj_gr M g := by
  obtain ⟨ins, len, a, b, z⟩ := r
  cases ins with
  | iadd => exact pj_gr_bin hop
  | isub => exact pj_gr_bin hop
  | imul => exact pj_gr_bin hop
  | iand => exact pj_gr_bin hop
  | ior => exact pj_gr_bin hop
  | ixor => exact pj_gr_bin hop
  | ishl => exact pj_gr_bin hop
  | ishr => exact pj_gr_bin hop
  | iushr => exact pj_gr_bin hop
  | land => exact pj_gr_binl hop
  | lor => exact pj_gr_binl hop
  | lsub => exact pj_gr_binl hop
  | lushr => exact pj_gr_lsh hop
  | lshl => exact pj_gr_lsh hop
  | lcmp => exact pj_gr_lcmp hop
  | ineg => exact pj_gr_un hop
  | i2l => exact pj_gr_un hop
  | i2c => exact pj_gr_un hop
  | l2i => exact pj_gr_l2i hop
  | iload i => exact pj_gr_iload hop
  | iload_n i => exact pj_gr_iload hop
  | istore i => exact pj_gr_istore hop
  | istore_n i => exact pj_gr_istore hop
  | lload i => exact pj_gr_lload hop
  | lload_n i => exact pj_gr_lload hop
  | lstore i => exact pj_gr_lstore hop
  | lstore_n i => exact pj_gr_lstore hop
  | aload i => exact pj_gr_aload hop
  | aload_n i => exact pj_gr_aload hop
  | astore i => exact pj_gr_astore hop
  | astore_n i => exact pj_gr_astore hop
  | iconst i => exact pj_gr_rf (Option.some.inj hop).symm
  | bipush i => exact pj_gr_rf (Option.some.inj hop).symm
  | sipush i => exact pj_gr_rf (Option.some.inj hop).symm
  | lconst i => exact pj_gr_rf (Option.some.inj hop).symm
  | ldc i => exact pj_gr_rf (Option.some.inj hop).symm
  | ldc_w i => exact pj_gr_rf (Option.some.inj hop).symm
  | ldc2_w i => exact pj_gr_rf (Option.some.inj hop).symm
  | dup => exact pj_gr_dup hop
  | dup2 => exact pj_gr_dup2 hop
  | pop => exact pj_gr_pop hop
  | goto off => exact pj_gr_rf (Option.some.inj hop).symm
  | if_icmp cc off => exact pj_gr_br hop
  | ifCond cc off => exact pj_gr_br0 hop
  | getfield i => exact pj_gr_getf hop
  | putfield i => exact pj_gr_putf hop
  | getstatic i => exact pj_gr_rf (Option.some.inj hop).symm
  | iaload => exact pj_gr_xald hop
  | caload => exact pj_gr_xald hop
  | baload => exact pj_gr_xald hop
  | iastore => exact pj_gr_xast hop
  | castore => exact pj_gr_xast hop
  | bastore => exact pj_gr_xast hop
  | aaload => exact pj_gr_aald hop
  | aastore => exact pj_gr_aast hop
  | arraylength => exact pj_gr_alen hop
  | new i => exact (by cases Option.some.inj hop; exact ⟨Nat.le_succ _, Nat.le_add_right _ _⟩)
  | newarray t => exact pj_gr_newa hop
  | anewarray i => exact pj_gr_newa hop
  | iinc i d =>
    simp only [pj_op] at hop
    split at hop
    · exact pj_gr_to hop
    · cases hop
  | idiv =>
    simp only [pj_op] at hop
    split at hop
    · split at hop
      · cases hop
      · exact pj_gr_rf (Option.some.inj hop).symm
    · cases hop
  | irem =>
    simp only [pj_op] at hop
    split at hop
    · split at hop
      · cases hop
      · exact pj_gr_rf (Option.some.inj hop).symm
    · cases hop
  | tableswitch d lo hi offs => exact pj_gr_tsw hop
  | lookupswitch d ps => exact pj_gr_lsw hop
  | invokestatic i => exact pj_gr_one hop
  | invokespecial i => exact pj_gr_one hop
  | _ => exact absurd (show (none : Option pj_Cfg) = some g from hop) (fun h => by cases h)
theorem pj_one_z {z : Int} {pc : Nat} {L : pj_Loc} {M : pj_Mem} {st : List Value} {g : pj_Cfg} (h : pj_one z pc L M st = some g) : z = 2 ∨ z = 3 ∨ z = 4 ∨ z = 5 ∨ z = 6 := by
  unfold pj_one at h
  by_cases h2 : z = 2
  · exact Or.inl h2
  · rw [if_neg h2] at h
    by_cases h3 : z = 3
    · exact Or.inr (Or.inl h3)
    · rw [if_neg h3] at h
      by_cases h4 : z = 4
      · exact Or.inr (Or.inr (Or.inl h4))
      · rw [if_neg h4] at h
        by_cases h5 : z = 5
        · exact Or.inr (Or.inr (Or.inr (Or.inl h5)))
        · rw [if_neg h5] at h
          by_cases h6 : z = 6
          · exact Or.inr (Or.inr (Or.inr (Or.inr h6)))
          · rw [if_neg h6] at h; cases h
theorem pj_op_sim {r : pj_Row} {st : List Value} {g : pj_Cfg} (hX : pj_X G k p s m args meth c) (hL : pj_has G ls (pj_ml k) L) (hW : pj_W G M H) (hS : va_S (pj_A G) s.heap H locs) (hd : decode (pj_by k) pc = .ok (r.1, r.2.1)) (hr : pj_rk k pc r = true) (hN : N0 ≤ M.1) (hS0 : S0 ≤ M.2.1) (hop : pj_op r pc L st M = some g) (hc : g.2.2.2.1 - N0 ≤ R.cells) (hs : g.2.2.2.2.1 - S0 ≤ R.slots) (hf : pj_fr k ≤ R.frames) (hlo : pj_lo k ≤ R.locals) (K : pj_K G k p l e R s m args below meth c Q N0 S0 g) : W p l e R s m args below meth c H locs (M.1 - N0) (M.2.1 - S0) Q (F0 m pc ls (st.map (pj_e G))) := by
  have hgr := pj_op_gr hop
  obtain ⟨hgr1, hgr2⟩ := hgr
  obtain ⟨ins, len, a, b, z⟩ := r
  unfold pj_rk at hr
  dsimp only at hr hd
  rw [Bool.and_eq_true] at hr
  obtain ⟨hl, hrr⟩ := hr
  cases ins with
  | iadd =>
    obtain rfl : len = 1 := by simpa [pj_iln] using hl
    exact pj_o_iadd hX hL hW hS hd hop K
  | isub =>
    obtain rfl : len = 1 := by simpa [pj_iln] using hl
    exact pj_o_isub hX hL hW hS hd hop K
  | imul =>
    obtain rfl : len = 1 := by simpa [pj_iln] using hl
    exact pj_o_imul hX hL hW hS hd hop K
  | iand =>
    obtain rfl : len = 1 := by simpa [pj_iln] using hl
    exact pj_o_iand hX hL hW hS hd hop K
  | ior =>
    obtain rfl : len = 1 := by simpa [pj_iln] using hl
    exact pj_o_ior hX hL hW hS hd hop K
  | ixor =>
    obtain rfl : len = 1 := by simpa [pj_iln] using hl
    exact pj_o_ixor hX hL hW hS hd hop K
  | ishl =>
    obtain rfl : len = 1 := by simpa [pj_iln] using hl
    exact pj_o_ishl hX hL hW hS hd hop K
  | ishr =>
    obtain rfl : len = 1 := by simpa [pj_iln] using hl
    exact pj_o_ishr hX hL hW hS hd hop K
  | iushr =>
    obtain rfl : len = 1 := by simpa [pj_iln] using hl
    exact pj_o_iushr hX hL hW hS hd hop K
  | land =>
    obtain rfl : len = 1 := by simpa [pj_iln] using hl
    exact pj_o_land hX hL hW hS hd hop K
  | lor =>
    obtain rfl : len = 1 := by simpa [pj_iln] using hl
    exact pj_o_lor hX hL hW hS hd hop K
  | lsub =>
    obtain rfl : len = 1 := by simpa [pj_iln] using hl
    exact pj_o_lsub hX hL hW hS hd hop K
  | lushr =>
    obtain rfl : len = 1 := by simpa [pj_iln] using hl
    exact pj_o_lushr hX hL hW hS hd hop K
  | lshl =>
    obtain rfl : len = 1 := by simpa [pj_iln] using hl
    exact pj_o_lshl hX hL hW hS hd hop K
  | lcmp =>
    obtain rfl : len = 1 := by simpa [pj_iln] using hl
    exact pj_o_lcmp hX hL hW hS hd hop K
  | ineg =>
    obtain rfl : len = 1 := by simpa [pj_iln] using hl
    exact pj_o_ineg hX hL hW hS hd hop K
  | i2l =>
    obtain rfl : len = 1 := by simpa [pj_iln] using hl
    exact pj_o_i2l hX hL hW hS hd hop K
  | i2c =>
    obtain rfl : len = 1 := by simpa [pj_iln] using hl
    exact pj_o_i2c hX hL hW hS hd hop K
  | l2i =>
    obtain rfl : len = 1 := by simpa [pj_iln] using hl
    exact pj_o_l2i hX hL hW hS hd hop K
  | iload i =>
    obtain rfl : len = 2 := by simpa [pj_iln] using hl
    exact pj_o_iload hX hL hW hS hd hop K
  | iload_n i =>
    obtain rfl : len = 1 := by simpa [pj_iln] using hl
    exact pj_o_iload_n hX hL hW hS hd hop K
  | istore i =>
    obtain rfl : len = 2 := by simpa [pj_iln] using hl
    exact pj_o_istore hX hL hW hS hd hop K
  | istore_n i =>
    obtain rfl : len = 1 := by simpa [pj_iln] using hl
    exact pj_o_istore_n hX hL hW hS hd hop K
  | lload i =>
    obtain rfl : len = 2 := by simpa [pj_iln] using hl
    exact pj_o_lload hX hL hW hS hd hop K
  | lload_n i =>
    obtain rfl : len = 1 := by simpa [pj_iln] using hl
    exact pj_o_lload_n hX hL hW hS hd hop K
  | lstore i =>
    obtain rfl : len = 2 := by simpa [pj_iln] using hl
    exact pj_o_lstore hX hL hW hS hd hop K
  | lstore_n i =>
    obtain rfl : len = 1 := by simpa [pj_iln] using hl
    exact pj_o_lstore_n hX hL hW hS hd hop K
  | aload i =>
    obtain rfl : len = 2 := by simpa [pj_iln] using hl
    exact pj_o_aload hX hL hW hS hd hop K
  | aload_n i =>
    obtain rfl : len = 1 := by simpa [pj_iln] using hl
    exact pj_o_aload_n hX hL hW hS hd hop K
  | astore i =>
    obtain rfl : len = 2 := by simpa [pj_iln] using hl
    exact pj_o_astore hX hL hW hS hd hop K
  | astore_n i =>
    obtain rfl : len = 1 := by simpa [pj_iln] using hl
    exact pj_o_astore_n hX hL hW hS hd hop K
  | iconst i =>
    obtain rfl : len = 1 := by simpa [pj_iln] using hl
    exact pj_o_iconst hX hL hW hS hd (Option.some.inj hop).symm K
  | bipush i =>
    obtain rfl : len = 2 := by simpa [pj_iln] using hl
    exact pj_o_bipush hX hL hW hS hd (Option.some.inj hop).symm K
  | sipush i =>
    obtain rfl : len = 3 := by simpa [pj_iln] using hl
    exact pj_o_sipush hX hL hW hS hd (Option.some.inj hop).symm K
  | lconst i =>
    obtain rfl : len = 1 := by simpa [pj_iln] using hl
    exact pj_o_lconst hX hL hW hS hd (Option.some.inj hop).symm K
  | ldc i =>
    obtain rfl : len = 2 := by simpa [pj_iln] using hl
    exact pj_o_ldc hX hL hW hS hd hrr (Option.some.inj hop).symm K
  | ldc_w i =>
    obtain rfl : len = 3 := by simpa [pj_iln] using hl
    exact pj_o_ldcw hX hL hW hS hd hrr (Option.some.inj hop).symm K
  | ldc2_w i =>
    obtain rfl : len = 3 := by simpa [pj_iln] using hl
    exact pj_o_ldc2 hX hL hW hS hd hrr (Option.some.inj hop).symm K
  | dup =>
    obtain rfl : len = 1 := by simpa [pj_iln] using hl
    exact pj_o_dup hX hL hW hS hd hop K
  | dup2 =>
    obtain rfl : len = 1 := by simpa [pj_iln] using hl
    exact pj_o_dup2 hX hL hW hS hd hop K
  | pop =>
    obtain rfl : len = 1 := by simpa [pj_iln] using hl
    exact pj_o_pop hX hL hW hS hd hop K
  | goto off =>
    obtain rfl : len = 3 := by simpa [pj_iln] using hl
    exact pj_o_goto hX hL hW hS hd (of_decide_eq_true hrr) (Option.some.inj hop).symm K
  | if_icmp cc off =>
    obtain rfl : len = 3 := by simpa [pj_iln] using hl
    exact pj_o_br hX hL hW hS hd (of_decide_eq_true hrr) hop K
  | ifCond cc off =>
    obtain rfl : len = 3 := by simpa [pj_iln] using hl
    exact pj_o_br0 hX hL hW hS hd (of_decide_eq_true hrr) hop K
  | getfield i =>
    obtain rfl : len = 3 := by simpa [pj_iln] using hl
    exact pj_o_getf hX hL hW hS hd hrr hop K
  | putfield i =>
    obtain rfl : len = 3 := by simpa [pj_iln] using hl
    exact (by rw [Bool.and_eq_true] at hrr; exact pj_o_putf hX hL hW hS hd hrr.1 hrr.2 hop K)
  | getstatic i =>
    obtain rfl : len = 3 := by simpa [pj_iln] using hl
    exact pj_o_gets hX hL hW hS hd hrr (Option.some.inj hop).symm K
  | iaload =>
    obtain rfl : len = 1 := by simpa [pj_iln] using hl
    exact pj_o_iald hX hL hW hS hd hop K
  | caload =>
    obtain rfl : len = 1 := by simpa [pj_iln] using hl
    exact pj_o_cald hX hL hW hS hd hop K
  | baload =>
    obtain rfl : len = 1 := by simpa [pj_iln] using hl
    exact pj_o_zald hX hL hW hS hd hop K
  | iastore =>
    obtain rfl : len = 1 := by simpa [pj_iln] using hl
    exact pj_o_iast hX hL hW hS hd hop K
  | castore =>
    obtain rfl : len = 1 := by simpa [pj_iln] using hl
    exact pj_o_cast hX hL hW hS hd hop K
  | bastore =>
    obtain rfl : len = 1 := by simpa [pj_iln] using hl
    exact pj_o_zast hX hL hW hS hd hop K
  | aaload =>
    obtain rfl : len = 1 := by simpa [pj_iln] using hl
    exact pj_o_aald hX hL hW hS hd hop K
  | aastore =>
    obtain rfl : len = 1 := by simpa [pj_iln] using hl
    exact pj_o_aast hX hL hW hS hd hop K
  | arraylength =>
    obtain rfl : len = 1 := by simpa [pj_iln] using hl
    exact pj_o_alen hX hL hW hS hd hop K
  | new i =>
    obtain rfl : len = 3 := by simpa [pj_iln] using hl
    exact pj_o_new hX hL hW hS hd hrr hN hS0 (Option.some.inj hop).symm hc hs K
  | newarray t =>
    obtain rfl : len = 2 := by simpa [pj_iln] using hl
    exact pj_o_newa hX hL hW hS hd hrr hN hS0 hop hc hs K
  | anewarray i =>
    obtain rfl : len = 3 := by simpa [pj_iln] using hl
    exact pj_o_anew hX hL hW hS hd hrr hN hS0 hop hc hs K
  | iinc i d =>
    obtain rfl : len = 3 := by simpa [pj_iln] using hl
    simp only [pj_op] at hop
    split at hop
    · rename_i x hx
      exact pj_o_iinc hX hL hW hS hd hx hop K
    · cases hop
  | idiv =>
    obtain rfl : len = 1 := by simpa [pj_iln] using hl
    simp only [pj_op] at hop
    split at hop
    · split at hop
      · cases hop
      · rename_i hy
        exact pj_o_idiv hX hL hW hS hd hy (Option.some.inj hop).symm K
    · cases hop
  | irem =>
    obtain rfl : len = 1 := by simpa [pj_iln] using hl
    simp only [pj_op] at hop
    split at hop
    · split at hop
      · cases hop
      · rename_i hy
        exact pj_o_irem hX hL hW hS hd hy (Option.some.inj hop).symm K
    · cases hop
  | tableswitch d lo hi offs => exact pj_o_tsw hX hL hW hS hd hop K
  | lookupswitch d ps => exact pj_o_lsw hX hL hW hS hd hrr hop K
  | invokestatic i =>
    obtain rfl : len = 3 := by simpa [pj_iln] using hl
    have hop' : pj_one z (pc + 3) L M st = some g := hop
    dsimp only at hrr
    rw [Bool.and_eq_true] at hrr
    obtain ⟨hres, hany⟩ := hrr
    rcases pj_one_z hop' with rfl | rfl | rfl | rfl | rfl
    · obtain ⟨pl, h1⟩ := pj_cl_of hany
      simp [pj_clB] at h1
    · rw [if_neg (show ¬ ((3 : Int) = 2 ∨ (3 : Int) = 4 ∨ (3 : Int) = 5 ∨ (3 : Int) = 6) by decide), if_pos rfl, Bool.and_eq_true, decide_eq_true_eq, decide_eq_true_eq] at hres
      exact pj_o_acp hX hL hW hS hd hany (by omega) (by omega) (by omega) (by omega) hop' K
    · rw [if_pos (show (4 : Int) = 2 ∨ (4 : Int) = 4 ∨ (4 : Int) = 5 ∨ (4 : Int) = 6 by decide), Bool.and_eq_true, decide_eq_true_eq, decide_eq_true_eq] at hres
      exact pj_o_mmax hX hL hW hS hd hany (by omega) (by omega) (by omega) (by omega) hop' K
    · rw [if_pos (show (5 : Int) = 2 ∨ (5 : Int) = 4 ∨ (5 : Int) = 5 ∨ (5 : Int) = 6 by decide), Bool.and_eq_true, decide_eq_true_eq, decide_eq_true_eq] at hres
      exact pj_o_mmin hX hL hW hS hd hany (by omega) (by omega) (by omega) (by omega) hop' K
    · rw [if_pos (show (6 : Int) = 2 ∨ (6 : Int) = 4 ∨ (6 : Int) = 5 ∨ (6 : Int) = 6 by decide), Bool.and_eq_true, decide_eq_true_eq, decide_eq_true_eq] at hres
      exact pj_o_mabs hX hL hW hS hd hany (by omega) (by omega) (by omega) (by omega) hop' K
  | invokespecial i =>
    obtain rfl : len = 3 := by simpa [pj_iln] using hl
    have hop' : pj_one z (pc + 3) L M st = some g := hop
    dsimp only at hrr
    rw [Bool.and_eq_true] at hrr
    obtain ⟨hres, hany⟩ := hrr
    rcases pj_one_z hop' with rfl | rfl | rfl | rfl | rfl
    · rw [if_pos (show (2 : Int) = 2 ∨ (2 : Int) = 4 ∨ (2 : Int) = 5 ∨ (2 : Int) = 6 by decide), Bool.and_eq_true, decide_eq_true_eq, decide_eq_true_eq] at hres
      exact pj_o_obj hX hL hW hS hd hany (by omega) (by omega) hop' K
    all_goals
      obtain ⟨pl, h1⟩ := pj_cl_of hany
      simp [pj_clB] at h1
  | _ => exact absurd (show (none : Option pj_Cfg) = some g from hop) (fun h => by cases h)
end PJT
