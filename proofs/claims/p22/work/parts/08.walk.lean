/-! THE PURE MACHINE IS SOUND, 3: calls, returns, walks, contracts -/
def pj_nstB : Jvm.Cond → Bool
  | .methodLinkNest _ _ _ _ => true
  | .fieldLinkNest _ _ _ _ _ _ => true
  | _ => false
theorem pj_nst_all : pj_nst.all pj_nstB = true := by decide +kernel
theorem pj_nst_warm {s U : State} (hWm : s.WarmedH U.vm) {w : Jvm.Cond} (hw : w ∈ pj_nst) (h : va_Nw w s) : va_Nw w U := by
  have h1 := List.all_eq_true.mp pj_nst_all w hw
  cases w with
  | methodLinkNest a i x h => exact va_Nw.warmM hWm (by assumption)
  | fieldLinkNest a i b n d h => exact va_Nw.warmF hWm (by assumption)
  | _ => cases h1
theorem pj_nst_same {s U : State} (he : s.vm = U.vm) {w : Jvm.Cond} (hw : w ∈ pj_nst) (h : va_Nw w s) : va_Nw w U := by
  have h1 := List.all_eq_true.mp pj_nst_all w hw
  cases w with
  | methodLinkNest a i x h => exact va_Nw.same rfl he (by assumption)
  | fieldLinkNest a i b n d h => exact va_Nw.same rfl he (by assumption)
  | _ => cases h1
theorem pj_F_warm {G : pj_G} {s U : State} {H : Heap} {locs : List Loc} (h : pj_F G s s.heap) (hWm : s.WarmedH U.vm) (hS : va_S (pj_A G) s.heap H locs) : pj_F G U H := by
  obtain ⟨h1, h2, h3, h4, h5, h6⟩ := h
  exact ⟨va_K.moved hWm.alike h1, fun w hw => pj_nst_warm hWm hw (h2 w hw), va_AO.moved hWm.alike h3, fun j a b => ((h4 j a b).moved hWm.alike).kept (fun q x y => hS.2.1 q x y), fun j a => ((h5 j a).moved hWm.alike).kept (fun q x y => hS.2.1 q x y), Nat.le_trans h6 hS.1⟩
theorem pj_F_call {G : pj_G} {U : State} {g : JFrame} {mk : MethodId} {a : Array Value} (h : pj_F G U U.heap) : pj_F G (U.calling g mk a) (U.calling g mk a).heap := by
  obtain ⟨h1, h2, h3, h4, h5, h6⟩ := h
  exact ⟨va_K.moved (u := U) (U := U.calling g mk a) (Vm.Alike.refl U.vm) h1, fun w hw => pj_nst_same (s := U) (U := U.calling g mk a) rfl hw (h2 w hw), va_AO.moved (u := U) (U := U.calling g mk a) (Vm.Alike.refl U.vm) h3, fun j x y => va_Z.moved (u := U) (U := U.calling g mk a) (Vm.Alike.refl U.vm) (h4 j x y), fun j x => va_T.moved (u := U) (U := U.calling g mk a) (Vm.Alike.refl U.vm) (h5 j x), h6⟩
def pj_Pc (G : pj_G) (as : List Value) (M : pj_Mem) : Array Value → State → Prop := va_Pc (as.map (pj_e G)) (fun U => pj_F G U U.heap ∧ pj_W G M U.heap)
def pj_Qc (G : pj_G) (v : Option Value) (M' : pj_Mem) : Array Value → State → Outcome → State → Prop := fun _ st o t => o = .returned (v.map (pj_e G)) ∧ pj_W G M' t.heap ∧ va_F (pj_A G) st t
def pj_wsk (k : Nat) : List Jvm.Cond := Jvm.Cond.code (pj_yy k) (pj_by k) (pj_ml k) (pj_rt k) :: pj_tbl
def pj_rm (k mc ms : Nat) : Room := { frames := pj_fr k, cells := mc, slots := ms, locals := pj_lo k }
theorem pj_Pc_blind (G : pj_G) (as : List Value) (M : pj_Mem) : FrameBlind (pj_Pc G as M) := fun _ _ _ _ q => ⟨q.1, pj_F_call q.2.1, q.2.2⟩
theorem pj_m_of {k : Nat} (hk : k < 61) : Jvm.Cond.initialized (pj_yy k).cls ∈ pj_tbl ∧ plainName (pj_yy k).cls = true ∧ ((pj_yy k).cls ≠ "java/lang/invoke/MethodHandle" ∧ (pj_yy k).cls ≠ "java/lang/invoke/VarHandle") ∧ pj_on (pj_cn k) = (pj_yy k).cls := by
  have h := List.all_eq_true.mp pj_m_ok k (List.mem_range.mpr hk)
  unfold pj_mB at h
  simp only [Bool.and_eq_true, decide_eq_true_eq] at h
  obtain ⟨⟨⟨⟨h1, h2⟩, h3⟩, h4⟩, h5⟩ := h
  exact ⟨pj_good h1 rfl, h2, ⟨h3, h4⟩, h5⟩
theorem pj_wsk_good {k : Nat} (hk : k < 61) : GoodIn pj_tbl (pj_wsk k) := by
  intro w hw
  have hin : w ∈ pj_tbl := by
    rcases List.mem_cons.mp hw with rfl | h
    · exact pj_good (pj_w_ok k hk) rfl
    · exact h
  exact ⟨hin, good_of_word (List.mem_filter.mp hin).2⟩
section PJC
variable {G : pj_G} {k : Nat} {p : Program} {l : Launch} {e : Env} {R : Room} {s : State} {m : MethodId} {args : Array Value} {below : List Frame} {meth : Method} {c : Code} {H : Heap} {locs : List Loc} {Q : State → Prop} {pc : Nat} {ls : Array Slot} {N0 S0 : Nat} {L : pj_Loc} {M : pj_Mem}
theorem pj_after {v : Option Value} {M' : pj_Mem} {mc ms : Nat} {aa : Array Value} {st0 rest : List Value} (hL : pj_has G ls (pj_ml k) L) (hS : va_S (pj_A G) s.heap H locs) (hN : N0 ≤ M.1) (hS0 : S0 ≤ M.2.1) (h1 : M.1 ≤ M'.1) (h2 : M.2.1 ≤ M'.2.1) (hmc : mc = M'.1 - M.1) (hms : ms = M'.2.1 - M.2.1)
    (hr : va_Run p l e R s m args below meth c H locs (M.1 - N0) (M.2.1 - S0) mc ms (F0 m pc ls st0) (rest.map (pj_e G)) (pj_Qc G v M' aa) (pj_A G))
    (K : pj_K G k p l e R s m args below meth c Q N0 S0 (pc + 3, L, v.toList ++ rest, M')) : W p l e R s m args below meth c H locs (M.1 - N0) (M.2.1 - S0) Q (F0 m pc ls st0) := by
  intro T hT X
  obtain ⟨v', st₀, t, T', L', h0, X', hLo, e1, e2, ⟨hv, hW', hF⟩, st⟩ := hr T hT X
  have hv' : v' = v.map (pj_e G) := by injection hv
  subst hv'
  have hF1 := hF.1
  have hF2 := hF.2
  rw [h0] at hF1 hF2
  have K1 := K ls T'.heap (locs ++ L') hL (by rw [e1]; exact hW') ⟨Nat.le_trans hS.1 (by rw [e1]; exact hF1), fun q g1 g2 => by
      rw [e1, hF2 q (Nat.lt_of_lt_of_le g1 hS.1) g2]
      exact hS.2.1 q g1 g2, fun q hq => by
      rcases List.mem_append.mp hq with h | h
      · exact hS.2.2 q h
      · exact hLo q h⟩
  simp only at K1
  rw [show M'.1 - N0 = M.1 - N0 + mc by omega, show M'.2.1 - S0 = M.2.1 - S0 + ms by omega] at K1
  obtain ⟨t2, a1, b1⟩ := K1 T' rfl X'
  refine ⟨t2, st t2 ?_, b1⟩
  have ev : (v.map (pj_e G)).toList ++ rest.map (pj_e G) = (v.toList ++ rest).map (pj_e G) := by cases v <;> simp
  show Steps p.tables e below (T'.setTop (F0 m (pc + 3) ls ((v.map (pj_e G)).toList ++ rest.map (pj_e G)))) t2
  rw [ev]
  exact a1
theorem pj_call {r : pj_Row} {st as rest : List Value} {k' : Nat} {v : Option Value} {M' : pj_Mem} (hk : k < 62) (hX : pj_X G k p s m args meth c) (hL : pj_has G ls (pj_ml k) L) (hW : pj_W G M H) (hS : va_S (pj_A G) s.heap H locs) (hd : decode (pj_by k) pc = .ok (r.1, r.2.1)) (hr : pj_rk k pc r = true) (hN : N0 ≤ M.1) (hS0 : S0 ≤ M.2.1) (h1 : M.1 ≤ M'.1) (h2 : M.2.1 ≤ M'.2.1) (hc : M'.1 - N0 ≤ R.cells) (hs : M'.2.1 - S0 ≤ R.slots) (hf : pj_fr k ≤ R.frames) (hlo : pj_lo k ≤ R.locals)
    (hcl : pj_cl r st M.2.2 = some (k', as, rest)) (hM : k' < 61 → Met l (pj_yy k') (pj_wsk k') (pj_rm k' (M'.1 - M.1) (M'.2.1 - M.2.1)) (pj_Pc G as M) (pj_Qc G v M') (M'.1 - M.1) (M'.2.1 - M.2.1) (pj_A G))
    (K : pj_K G k p l e R s m args below meth c Q N0 S0 (pc + r.2.1, L, v.toList ++ rest, M')) : W p l e R s m args below meth c H locs (M.1 - N0) (M.2.1 - S0) Q (F0 m pc ls (st.map (pj_e G))) := by
  obtain ⟨ins, len, a, b, z⟩ := r
  unfold pj_rk at hr
  dsimp only at hr hd K
  rw [Bool.and_eq_true] at hr
  obtain ⟨hl, hrr⟩ := hr
  unfold pj_cl at hcl
  dsimp only at hcl
  split at hcl
  · rename_i hz
    split at hcl
    · rename_i hb
      obtain ⟨hb1, hb2⟩ := hb
      have hsum := pj_le4_sum G hb2
      have hsplit : ∀ {bs : List Value}, (st.take b).reverse = bs → st.map (pj_e G) = (bs.map (pj_e G)).reverse ++ (st.drop b).map (pj_e G) := by
        intro bs e1
        rw [← List.map_reverse, ← e1, List.reverse_reverse, ← List.map_append, List.take_append_drop]
      have hlen : ∀ {bs : List Value}, (st.take b).reverse = bs → bs.length = b := by
        intro bs e1
        rw [← e1, List.length_reverse, List.length_take]
        omega
      have hz2 : ¬ (z = 2 ∨ z = 4 ∨ z = 5 ∨ z = 6) := by omega
      have hz3 : ¬ z = 3 := by omega
      have hPre : ∀ (hk' : k' < 61) (U : State), U.heap = H → s.WarmedH U.vm → pj_Pc G as M (as.map (pj_e G)).toArray U := by
        intro _ U hU hWm
        exact ⟨rfl, by rw [hU]; exact pj_F_warm hX.2.2.2.2.2.2.2.2 hWm hS, by rw [hU]; exact hW⟩
      have FX : ∀ {own : String}, own = pj_on (pj_cn k) → CallFix p m c (pj_by k) (pj_ml k) s args pj_tbl own := fun h => ⟨hX.1, hX.2.1, hX.2.2.1, by rw [h]; exact hX.2.2.2.2.1, hX.2.2.2.2.2.1⟩
      have CB : ∀ (hk' : k' < 61) (i n : Nat) (ret : Option FieldType), pj_rt k' = ret → pj_fr k' + 1 ≤ pj_fr k → 8 + (pj_ml k' + 11) + pj_lo k' ≤ pj_lo k → pj_npar k' n = true → (Cond.methodLink (pj_on (pj_cn k)) i (pj_yy k')).before args s = true → CallB R s args (pj_on (pj_cn k)) i (pj_yy k') (pj_by k') (pj_ml k') ret (pj_wsk k') (pj_rm k' (M'.1 - M.1) (M'.2.1 - M.2.1)) (M'.1 - M.1) (M'.2.1 - M.2.1) n := by
        intro hk' i n ret hret r1 r2 hn hlk
        subst hret
        obtain ⟨w1, w2, w3, w4⟩ := pj_m_of hk'
        exact callB_of n hX.2.2.2.2.2.1 (pj_wsk_good hk') rfl rfl rfl (hX.2.2.2.2.2.1 _ w1) hlk ⟨w3.1, w3.2, of_decide_eq_true hn⟩ ⟨Nat.le_trans r1 hf, Nat.le_trans r2 hlo⟩
      have CN : ∀ (hk' : k' < 61) (i n : Nat) (host : String) (ret : Option FieldType), pj_rt k' = ret → pj_fr k' + 1 ≤ pj_fr k → 8 + (pj_ml k' + 11) + pj_lo k' ≤ pj_lo k → pj_npar k' n = true → va_Nw (.methodLinkNest (pj_on (pj_cn k)) i (pj_yy k') host) s → va_CN R s args (pj_on (pj_cn k)) i (pj_yy k') host (pj_by k') (pj_ml k') ret (pj_wsk k') (pj_rm k' (M'.1 - M.1) (M'.2.1 - M.2.1)) (M'.1 - M.1) (M'.2.1 - M.2.1) n := by
        intro hk' i n host ret hret r1 r2 hn hlk
        subst hret
        obtain ⟨w1, w2, w3, w4⟩ := pj_m_of hk'
        exact va_cnB n hX.2.2.2.2.2.1 (pj_wsk_good hk') rfl rfl rfl hlk (hX.2.2.2.2.2.1 _ w1) ⟨w3.1, w3.2, of_decide_eq_true hn⟩ ⟨Nat.le_trans r1 hf, Nat.le_trans r2 hlo⟩
      have fin : ∀ (aa : Array Value), len = 3 → va_Run p l e R s m args below meth c H locs (M.1 - N0) (M.2.1 - S0) (M'.1 - M.1) (M'.2.1 - M.2.1) (F0 m pc ls (st.map (pj_e G))) (rest.map (pj_e G)) (pj_Qc G v M' aa) (pj_A G) → W p l e R s m args below meth c H locs (M.1 - N0) (M.2.1 - S0) Q (F0 m pc ls (st.map (pj_e G))) := by
        intro aa h3 hrun
        subst h3
        exact pj_after hL hS hN hS0 h1 h2 rfl rfl hrun K
      have hroom : M.1 - N0 + (M'.1 - M.1) ≤ R.cells ∧ M.2.1 - S0 + (M'.2.1 - M.2.1) ≤ R.slots := ⟨by omega, by omega⟩
      have nest : ∀ {i pl : Nat}, pj_nestB (pj_nst[pl]?) (pj_on (pj_cn k)) i (pj_yy k') = true → ∃ host, va_Nw (.methodLinkNest (pj_on (pj_cn k)) i (pj_yy k') host) s := by
        intro i pl hnb
        cases hw : pj_nst[pl]? with
        | none => rw [hw] at hnb; cases hnb
        | some w =>
          rw [hw] at hnb
          have hmem := List.mem_of_getElem? hw
          cases w with
          | methodLinkNest c2 i2 y2 h2 =>
            simp only [pj_nestB, Bool.and_eq_true, decide_eq_true_eq, beq_iff_eq] at hnb
            obtain ⟨⟨rfl, rfl⟩, rfl⟩ := hnb
            exact ⟨h2, hX.2.2.2.2.2.2.2.2.2.1 _ hmem⟩
          | _ => cases hnb
      cases ins with
      | invokestatic i =>
        obtain rfl : len = 3 := by simpa [pj_iln] using hl
        simp only [Option.some.injEq, Prod.mk.injEq] at hcl
        obtain ⟨rfl, e2, rfl⟩ := hcl
        rw [Bool.and_eq_true] at hrr
        obtain ⟨hres, hany⟩ := hrr
        rw [if_neg hz2, if_neg hz3, Bool.and_eq_true, decide_eq_true_eq, decide_eq_true_eq] at hres
        obtain ⟨pl, hB⟩ := pj_cl_of hany
        simp only [pj_clB] at hB
        rw [if_neg (by omega), if_neg (by omega), if_neg (by omega), if_neg (by omega), if_neg (by omega)] at hB
        simp only [if_true, Bool.and_eq_true, decide_eq_true_eq] at hB
        obtain ⟨⟨hB1, hB2, hB3⟩, hk'⟩ := hB
        have hS1 := hX.2.2.2.2.2.1 _ (pj_good hB2 rfl)
        refine fin (as.map (pj_e G)).toArray rfl ?_
        by_cases hz0 : z = 0
        · rw [if_pos hz0] at hB1
          exact va_runS (FX rfl) (hM hk') ⟨CB hk' i b _ rfl hres.1 hres.2 hB3 (hX.2.2.2.2.2.1 _ (pj_good hB1 rfl)), hS1⟩ ⟨pj_Pc_blind G as M, hPre hk'⟩ rfl (by rw [List.length_map]; exact hlen e2) hL.1 (hsplit e2) (lv_room hsum) hd hroom
        · rw [if_neg hz0] at hB1
          obtain ⟨host, hn⟩ := nest hB1
          exact va_runSN (FX rfl) (hM hk') ⟨CN hk' i b host _ rfl hres.1 hres.2 hB3 hn, hS1, trivial⟩ ⟨pj_Pc_blind G as M, hPre hk'⟩ rfl (by rw [List.length_map]; exact hlen e2) hL.1 (hsplit e2) (lv_room hsum) hd hroom
      | invokespecial i =>
        obtain rfl : len = 3 := by simpa [pj_iln] using hl
        simp only at hcl
        split at hcl
        · rename_i o la e2
          simp only [Option.some.injEq, Prod.mk.injEq] at hcl
          obtain ⟨rfl, rfl, rfl⟩ := hcl
          rw [Bool.and_eq_true] at hrr
          obtain ⟨hres, hany⟩ := hrr
          rw [if_neg hz2, if_neg hz3, Bool.and_eq_true, decide_eq_true_eq, decide_eq_true_eq] at hres
          obtain ⟨pl, hB⟩ := pj_cl_of hany
          simp only [pj_clB] at hB
          rw [if_neg (by omega), if_neg (by omega), if_neg (by omega), if_neg (by omega), if_neg (by omega)] at hB
          simp only [show ((2 : Nat) = 0) = False from eq_false (by decide), show ((2 : Nat) = 1) = False from eq_false (by decide), if_false, Bool.and_eq_true, decide_eq_true_eq] at hB
          obtain ⟨⟨hB1, ⟨⟨hB2, hB0⟩, hB3⟩, hB4, hB5⟩, hk'⟩ := hB
          have hS1 := hX.2.2.2.2.2.1 _ (pj_good hB2 rfl)
          have hst : st.map (pj_e G) = (la.map (pj_e G)).reverse ++ .ref (pj_ad G o) :: (st.drop b).map (pj_e G) := by
            rw [hsplit e2, List.map_cons, List.reverse_cons, List.append_assoc]
            rfl
          have hll : (la.map (pj_e G)).length = b - 1 := by
            have := hlen e2
            rw [List.length_cons] at this
            rw [List.length_map]; omega
          refine fin ((Value.ref o :: la).map (pj_e G)).toArray rfl ?_
          by_cases hz0 : z = 0
          · rw [if_pos hz0] at hB1
            exact va_runI (FX rfl) (hM hk') ⟨CB hk' i (b - 1) _ hB5 hres.1 hres.2 hB3 (hX.2.2.2.2.2.1 _ (pj_good hB1 rfl)), hB4, hS1⟩ ⟨pj_Pc_blind G _ M, hPre hk'⟩ rfl hll hL.1 hst (lv_room hsum) hd hroom
          · rw [if_neg hz0] at hB1
            obtain ⟨host, hn⟩ := nest hB1
            exact va_runIN (FX rfl) (hM hk') ⟨CN hk' i (b - 1) host _ hB5 hres.1 hres.2 hB3 hn, hB4, hS1⟩ ⟨pj_Pc_blind G _ M, hPre hk'⟩ rfl hll hL.1 hst (lv_room hsum) hd hroom
        · cases hcl
      | invokevirtual i =>
        obtain rfl : len = 3 := by simpa [pj_iln] using hl
        simp only at hcl
        split at hcl
        · rename_i o la e2
          split at hcl
          · rename_i hisU
            simp only [Option.some.injEq, Prod.mk.injEq] at hcl
            obtain ⟨rfl, rfl, rfl⟩ := hcl
            rw [Bool.and_eq_true] at hrr
            obtain ⟨hres, hany⟩ := hrr
            rw [if_neg hz2, if_neg hz3, Bool.and_eq_true, decide_eq_true_eq, decide_eq_true_eq] at hres
            obtain ⟨pl, hB⟩ := pj_cl_of hany
            simp only [pj_clB] at hB
            rw [if_neg (by omega), if_neg (by omega), if_neg (by omega), if_neg (by omega), if_neg (by omega)] at hB
            simp only [show ((1 : Nat) = 0) = False from eq_false (by decide), if_false, if_true, Bool.and_eq_true, decide_eq_true_eq] at hB
            obtain ⟨⟨hB1, ⟨⟨hB2, hB0⟩, hB3⟩, hB4, hB5⟩, hk'⟩ := hB
            have hS1 := hX.2.2.2.2.2.1 _ (pj_good hB2 rfl)
            have hS2 := hX.2.2.2.2.2.1 _ (pj_good hB4 rfl)
            have hst : st.map (pj_e G) = (la.map (pj_e G)).reverse ++ .ref (pj_ad G o) :: (st.drop b).map (pj_e G) := by
              rw [hsplit e2, List.map_cons, List.reverse_cons, List.append_assoc]
              rfl
            have hll : (la.map (pj_e G)).length = b - 1 := by
              have := hlen e2
              rw [List.length_cons] at this
              rw [List.length_map]; omega
            have hrecv : ∃ cellB : Cell, H[pj_ad G o]? = some cellB ∧ cellB.vm.isStatics = false ∧ s.vm.findClass (pj_yy a).cls = some cellB.cls := by
              cases ho : M.2.2 o with
              | inr x => rw [ho] at hisU; cases hisU
              | inl x =>
                obtain ⟨ci, fs⟩ := x
                rw [ho] at hisU
                have hci : ci = pj_cn a := by simpa [pj_isU] using hisU
                subst hci
                cases hq : vwCl[pj_cn a]? with
                | none => rw [hq] at hB5; cases hB5
                | some q =>
                  rw [hq] at hB5
                  have hq1 : q.1 = (pj_yy a).cls := by simpa using hB5
                  obtain ⟨m1, m2⟩ := pj_made_obj hW ho (by have := pj_cls_lt hq; omega)
                  have hg1 := pj_ws_get (G := G) (H := M.2.2) m1 m2
                  rw [ho] at hg1
                  have := va_recv hX.2.2.2.2.2.2.2.2.1 hW.1 hq hg1
                  rw [hq1] at this
                  exact this
            refine fin ((Value.ref o :: la).map (pj_e G)).toArray rfl ?_
            by_cases hz0 : z = 0
            · rw [if_pos hz0] at hB1
              exact va_runV (FX rfl) (hM hk') ⟨CB hk' i (b - 1) _ rfl hres.1 hres.2 hB3 (hX.2.2.2.2.2.1 _ (pj_good hB1 rfl)), hS1, hS2⟩ ⟨pj_Pc_blind G _ M, hrecv, hPre hk'⟩ rfl hll hL.1 hst (lv_room hsum) hd hroom
            · rw [if_neg hz0] at hB1
              obtain ⟨host, hn⟩ := nest hB1
              exact va_runVN (FX rfl) (hM hk') ⟨CN hk' i (b - 1) host _ rfl hres.1 hres.2 hB3 hn, hS1, hS2⟩ ⟨pj_Pc_blind G _ M, hrecv, hPre hk'⟩ rfl hll hL.1 hst (lv_room hsum) hd hroom
          · cases hcl
        · cases hcl
      | _ => cases hcl
    · cases hcl
  · cases hcl
end PJC
theorem pj_mono : ∀ (n k : Nat) (g : pj_Cfg) (o : Option Value × pj_Mem), pj_exec n k g = some o → g.2.2.2.1 ≤ o.2.1 ∧ g.2.2.2.2.1 ≤ o.2.2.1
  | 0, _, _, _, h => by cases h
  | n + 1, k, (pc, L, st, M), o, h => by
    unfold pj_exec at h
    split at h
    · cases h
    · split at h
      · cases h; exact ⟨Nat.le_refl _, Nat.le_refl _⟩
      · split at h
        · split at h
          · cases h
          · split at h
            · cases h
            · rename_i v M' h1
              have a1 := pj_mono n _ _ _ h1
              have a2 := pj_mono n _ _ _ h
              exact ⟨Nat.le_trans a1.1 a2.1, Nat.le_trans a1.2 a2.2⟩
        · split at h
          · cases h
          · rename_i c hop
            have a1 := pj_op_gr hop
            have a2 := pj_mono n _ _ _ h
            exact ⟨Nat.le_trans a1.1 a2.1, Nat.le_trans a1.2 a2.2⟩
/-- THE WALK: what the pure machine does, the machine does -/
def pj_Walk (G : pj_G) (l : Launch) (n : Nat) : Prop := ∀ (k pc : Nat) (L : pj_Loc) (st : List Value) (M : pj_Mem) (v : Option Value) (M' : pj_Mem), pj_exec n k (pc, L, st, M) = some (v, M') → k < 62 →
  ∀ {p : Program} {e : Env} {R : Room} {s : State} {m : MethodId} {args : Array Value} {below : List Frame} {meth : Method} {c : Code} {H : Heap} {locs : List Loc} {ls : Array Slot} {N0 S0 : Nat} {Q : State → Prop},
  pj_X G k p s m args meth c → pj_has G ls (pj_ml k) L → pj_W G M H → va_S (pj_A G) s.heap H locs → N0 ≤ M.1 → S0 ≤ M.2.1 → M'.1 - N0 ≤ R.cells → M'.2.1 - S0 ≤ R.slots → pj_fr k ≤ R.frames → pj_lo k ≤ R.locals →
  (∀ (H' : Heap) (locs' : List Loc) (ls' : Array Slot) (pc' : Nat) (i : Instr) (st' : List Value), pj_rtn k i st' = some v → decode (pj_by k) pc' = .ok (i, 1) → pj_W G M' H' → va_S (pj_A G) s.heap H' locs' → W p l e R s m args below meth c H' locs' (M'.1 - N0) (M'.2.1 - S0) Q (F0 m pc' ls' (st'.map (pj_e G)))) →
  W p l e R s m args below meth c H locs (M.1 - N0) (M.2.1 - S0) Q (F0 m pc ls (st.map (pj_e G)))
theorem pj_met {G : pj_G} {l : Launch} {n : Nat} (hWk : pj_Walk G l n) {k : Nat} {as : List Value} {L0 : pj_Loc} {M M' : pj_Mem} {v : Option Value} (hk : k < 61) (he : pj_ent k as = some L0) (hex : pj_exec n k (0, L0, [], M) = some (v, M')) :
    Met l (pj_yy k) (pj_wsk k) (pj_rm k (M'.1 - M.1) (M'.2.1 - M.2.1)) (pj_Pc G as M) (pj_Qc G v M') (M'.1 - M.1) (M'.2.1 - M.2.1) (pj_A G) := by
  obtain ⟨w1, w2, w3, w4⟩ := pj_m_of hk
  refine Met.ofW (cc := pj_by k) (maxL := pj_ml k) (ret := pj_rt k) w2 rfl ?_
  intro p e s m args below meth c s₁ B hml hv
  obtain ⟨rfl, hF, hWd⟩ := hv
  have hts := atoms_spec (ws := pj_wsk k) B.pre
  unfold pj_ent at he
  split at he
  · rename_i hlen
    cases he
    rw [lg_entry_eq]
    have hl := pj_has_entry (G := G) hlen
    generalize (lg_sl (as.map (pj_e G)) ++ List.replicate (pj_ml k - (lg_sl (as.map (pj_e G))).length) Slot.unset).toArray = ls at hl ⊢
    have hX : pj_X G k p s m (as.map (pj_e G)).toArray meth c := ⟨B.exec, B.bytes, hml, B.returns, by rw [w4]; exact findClass_of_methodNamed B.named, fun w hw => hts w (List.mem_cons_of_mem _ hw), B.notSynchronized, fun h => (name_of_methodNamed B.named B.method).1.trans h, hF⟩
    have hgo := hWk k 0 _ [] M v M' hex (by omega) (R := (headSpec (pj_wsk k) (pj_rm k (M'.1 - M.1) (M'.2.1 - M.2.1))).room) (N0 := M.1) (S0 := M.2.1) (Q := MQ below (pj_Qc G v M') (as.map (pj_e G)).toArray s (M'.1 - M.1) (M'.2.1 - M.2.1) (pj_A G)) (p := p) (e := e) (below := below) hX hl hWd va_S.rf (Nat.le_refl _) (Nat.le_refl _) (Nat.le_refl _) (Nat.le_refl _) (Nat.le_refl _) (Nat.le_refl _) (by
      intro H' locs' ls' pc' i st' hret hdc hW' hS'
      have hlocks := B.notSynchronized
      cases i with
      | ireturn =>
        match st', hret with
        | [.int x], hret =>
          unfold pj_rtn at hret
          try simp only at hret
          cases hrt : pj_rt k with
          | none => rw [hrt] at hret; cases hret
          | some ty =>
            rw [hrt] at hret
            try simp only at hret
            split at hret
            · rename_i hn
              cases hret
              exact W.zret B.exec B.bytes (B.returns.trans hrt) hn (fun t ht hWm => ⟨rfl, by rw [ht]; exact hW', hS'.F ht⟩) hS'.2.2 hdc
            · cases hret
      | return_ =>
        match st', hret with
        | [], hret =>
          unfold pj_rtn at hret
          try simp only at hret
          split at hret
          · rename_i hrt
            cases hret
            exact W.vret B.exec B.bytes (B.returns.trans hrt) (fun t ht hWm => ⟨rfl, by rw [ht]; exact hW', hS'.F ht⟩) hS'.2.2 hdc
          · cases hret
      | areturn =>
        match st', hret with
        | [.ref x], hret =>
          unfold pj_rtn at hret
          try simp only at hret
          cases hrt : pj_rt k with
          | none => rw [hrt] at hret; cases hret
          | some ty =>
            rw [hrt] at hret
            try simp only at hret
            cases ty with
            | array t =>
              cases hret
              exact W.aret B.exec B.bytes (B.returns.trans hrt) (Or.inr ⟨_, rfl⟩) (Or.inr ⟨_, rfl⟩) (fun t ht hWm => ⟨rfl, by rw [ht]; exact hW', hS'.F ht⟩) hS'.2.2 hdc
            | object t =>
              cases hret
              exact W.aret B.exec B.bytes (B.returns.trans hrt) (Or.inl ⟨_, rfl⟩) (Or.inr ⟨_, rfl⟩) (fun t ht hWm => ⟨rfl, by rw [ht]; exact hW', hS'.F ht⟩) hS'.2.2 hdc
            | _ => cases hret
      | _ => cases hret)
    rw [Nat.sub_self, Nat.sub_self] at hgo
    exact hgo
  · cases he
theorem pj_rtn_len {k pc : Nat} {r : pj_Row} {st : List Value} {v : Option Value} (h : pj_rtn k r.1 st = some v) (hr : pj_rk k pc r = true) : r.2.1 = 1 := by
  unfold pj_rk at hr
  obtain ⟨ins, len, a, b, z⟩ := r
  dsimp only at hr h
  rw [Bool.and_eq_true] at hr
  have hl := hr.1
  cases ins with
  | ireturn => simpa [pj_iln] using hl
  | return_ => simpa [pj_iln] using hl
  | areturn => simpa [pj_iln] using hl
  | _ => cases h
theorem pj_walk (G : pj_G) (l : Launch) : ∀ n, pj_Walk G l n := by
  intro n
  induction n with
  | zero => intro k pc L st M v M' h; cases h
  | succ n ih =>
    intro k pc L st M v M' h hk p e R s m args below meth c H locs ls N0 S0 Q hX hL hW hS hN hS0 hc hs hf hlo hfin
    unfold pj_exec at h
    split at h
    · cases h
    · rename_i r hrow
      obtain ⟨hd, hrk⟩ := pj_row_ok hk hrow
      split at h
      · rename_i v1 hret
        cases h
        rw [pj_rtn_len hret hrk] at hd
        exact hfin H locs ls pc r.1 st hret hd hW hS
      · split at h
        · rename_i k' as rest hcl
          split at h
          · cases h
          · rename_i L0 hent
            split at h
            · cases h
            · rename_i v1 M1 hex
              have a1 := pj_mono n _ _ _ hex
              have a2 := pj_mono n _ _ _ h
              simp only at a1 a2
              refine pj_call hk hX hL hW hS hd hrk hN hS0 a1.1 a1.2 (by omega) (by omega) hf hlo hcl (fun hk' => pj_met ih hk' hent hex) ?_
              intro ls' H' locs' hL' hW' hS'
              exact ih k _ L _ M1 v M' h hk hX hL' hW' hS' (by omega) (by omega) hc hs hf hlo hfin
        · split at h
          · cases h
          · rename_i g hop
            obtain ⟨pc2, L2, st2, M2⟩ := g
            have a1 := pj_op_gr hop
            have a2 := pj_mono n _ _ _ h
            obtain ⟨b1, b2⟩ := a1
            simp only at a2 b1 b2
            refine pj_op_sim hX hL hW hS hd hrk hN hS0 hop (by show M2.1 - N0 ≤ _; omega) (by show M2.2.1 - S0 ≤ _; omega) hf hlo ?_
            intro ls' H' locs' hL' hW' hS'
            exact ih k _ L2 _ M2 v M' h hk hX hL' hW' hS' (by show N0 ≤ M2.1; omega) (by show S0 ≤ M2.2.1; omega) hc hs hf hlo hfin

