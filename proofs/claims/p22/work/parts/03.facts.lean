/-! what the tables say of the rows, links and methods: decided by program once -/
def pj_is (p : Nat) (w : Jvm.Cond) : Bool := decide (lw_tbl[p]? = some w)
theorem pj_is_mem {p : Nat} {w : Jvm.Cond} (h : pj_is p w = true) : w ∈ lw_tbl := List.mem_of_getElem? (of_decide_eq_true h)
def pj_yy (k : Nat) : MethodName := (pj_mt k).1
def pj_by (k : Nat) : ByteArray := (pj_mt k).2.1
def pj_ml (k : Nat) : Nat := (pj_mt k).2.2.1
def pj_rt (k : Nat) : Option FieldType := (pj_mt k).2.2.2.1
def pj_cn (k : Nat) : Nat := (pj_mt k).2.2.2.2.1
def pj_fr (k : Nat) : Nat := (pj_mt k).2.2.2.2.2.1
def pj_lo (k : Nat) : Nat := (pj_mt k).2.2.2.2.2.2.1
def pj_cd (k : Nat) : List (Nat × pj_Row) := (pj_mt k).2.2.2.2.2.2.2
def pj_flB (e : Nat × Nat × Nat × Nat × Nat) : Bool := match vwCl[e.2.2.1]? with
  | some q => decide (e.2.2.2.1 < q.2.2) && pj_is e.2.2.2.2 (.fieldLink (pj_on e.1) e.2.1 (q.2.1 e.2.2.2.1).1 (q.2.1 e.2.2.2.1).2.1 (q.2.1 e.2.2.2.1).2.2.1)
  | none => false
set_option maxRecDepth 100000 in
theorem pj_fl_ok : pj_flt.all pj_flB = true := by decide +kernel
def pj_mp (k : Nat) : Nat × Nat × Nat × Nat × Nat := pj_mpl.getD k (0, 0, 0, 0, 0)
def pj_nestB (w : Option Jvm.Cond) (c : String) (i : Nat) (y : MethodName) : Bool := match w with
  | some (.methodLinkNest c2 i2 y2 _) => decide (c2 = c) && (i2 == i) && decide (y2 = y)
  | _ => false
def pj_npar (k : Nat) (n : Nat) : Bool := decide ((parseMethodDescriptor (pj_yy k).desc).map (fun d => d.parameters.length) = some n)
def pj_clB (e : Nat × Nat × Nat × Nat × Nat × Int × Nat) : Bool :=
  let o := e.1; let i := e.2.1; let kd := e.2.2.1; let a := e.2.2.2.1; let b := e.2.2.2.2.1; let z := e.2.2.2.2.2.1; let p := e.2.2.2.2.2.2
  if z = 2 then kd == 2 && pj_is p (.methodLink (pj_on o) i Lib.objectInit)
  else if z = 3 then kd == 0 && pj_is p (.methodLink (pj_on o) i arraycopyName)
  else if z = 4 then kd == 0 && pj_is p (.methodLink (pj_on o) i Lib.Math.max.name)
  else if z = 5 then kd == 0 && pj_is p (.methodLink (pj_on o) i Lib.Math.min.name)
  else if z = 6 then kd == 0 && pj_is p (.methodLink (pj_on o) i Lib.Math.abs.name)
  else (if z = 0 then pj_is p (.methodLink (pj_on o) i (pj_yy a)) else pj_nestB (pj_nst[p]?) (pj_on o) i (pj_yy a)) &&
    (if kd = 0 then pj_is (pj_mp a).2.2.1 (.static (pj_yy a)) && pj_npar a b
     else pj_is (pj_mp a).2.2.2.1 (.instanceMethod (pj_yy a)) && decide (0 < b) && pj_npar a (b - 1) &&
      (if kd = 1 then pj_is (pj_mp a).2.2.2.2 (.selects (pj_yy a).cls (pj_yy a) (pj_yy a)) && decide ((vwCl[pj_cn a]?).map (fun q => q.1) = some (pj_yy a).cls)
       else decide ((pj_yy a).name = "<init>") && decide (pj_rt a = none))) && decide (a < 61)
set_option maxRecDepth 100000 in
theorem pj_cl_ok : pj_clt.all pj_clB = true := by decide +kernel
def pj_mB (k : Nat) : Bool := pj_is (pj_mp k).2.1 (.initialized (pj_yy k).cls) && plainName (pj_yy k).cls && decide ((pj_yy k).cls ≠ "java/lang/invoke/MethodHandle") && decide ((pj_yy k).cls ≠ "java/lang/invoke/VarHandle") && decide (pj_on (pj_cn k) = (pj_yy k).cls)
set_option maxRecDepth 100000 in
theorem pj_m_ok : (List.range 61).all pj_mB = true := by decide +kernel
def pj_stB (e : Nat × Nat × Nat × Int × Nat) : Bool :=
  if e.2.2.2.1 = 0 then pj_is e.2.2.2.2 (.fieldLink (pj_on e.1) e.2.1 "VotedCharge" (pj_sn e.2.2.1) "[I")
  else (match pj_nst[e.2.2.2.2]? with
    | some (.fieldLinkNest c i r n d _) => decide (c = pj_on e.1) && (i == e.2.1) && decide (r = "VotedCharge") && decide (n = pj_sn e.2.2.1) && decide (d = "[I")
    | _ => false)
theorem pj_st_ok : pj_stt.all pj_stB = true := by decide +kernel
theorem pj_st_lt : pj_stt.all (fun e => decide (1 ≤ e.2.2.1) && decide (e.2.2.1 ≤ 3)) = true := by decide +kernel
theorem pj_ic_ok : pj_ict.all (fun e => pj_is e.2.2.2 (.constant (pj_on e.1) e.2.1 (Int32.ofInt e.2.2.1))) = true := by decide +kernel
theorem pj_lc_ok : pj_lct.all (fun e => pj_is e.2.2.2 (.constantLong (pj_on e.1) e.2.1 (Int64.ofInt e.2.2.1))) = true := by decide +kernel
def pj_nwB (e : Nat × Nat × Nat × Nat) : Bool := match vwCl[e.2.2.1]? with
  | some q => pj_is e.2.2.2 (.classLink (pj_on e.1) e.2.1 q.1)
  | none => false
theorem pj_nw_ok : pj_nwt.all pj_nwB = true := by decide +kernel
theorem pj_ns_ok : ((List.range pj_nst.length).all fun j => match pj_nst[j]? with | some w => pj_is (pj_nspl.getD j 0) w | none => false) = true := by decide +kernel
def pj_cpB (a : Nat) : Bool := match vwCl[a]? with
  | some q => pj_is (pj_cpl.getD a (0, 0)).1 (.instantiable q.1 q.2.2) && pj_is (pj_cpl.getD a (0, 0)).2 (.initialized q.1)
  | none => false
theorem pj_cp_ok : (List.range 6).all pj_cpB = true := by decide +kernel
def pj_iln : Instr → Nat
  | .bipush _ => 2 | .sipush _ => 3 | .ldc _ => 2 | .ldc_w _ => 3 | .ldc2_w _ => 3 | .iload _ => 2 | .lload _ => 2 | .aload _ => 2 | .istore _ => 2 | .lstore _ => 2 | .astore _ => 2 | .iinc _ _ => 3
  | .goto _ => 3 | .if_icmp _ _ => 3 | .ifCond _ _ => 3 | .tableswitch _ _ _ _ => 0 | .lookupswitch _ _ => 0 | .getfield _ => 3 | .putfield _ => 3 | .getstatic _ => 3 | .invokestatic _ => 3 | .invokespecial _ => 3 | .invokevirtual _ => 3
  | .new _ => 3 | .newarray _ => 2 | .anewarray _ => 3 | _ => 1
/-- a row is as its method's tables say -/
def pj_rk (k : Nat) (pc : Nat) (r : pj_Row) : Bool :=
  let a := r.2.2.1; let b := r.2.2.2.1; let z := r.2.2.2.2
  let o := pj_cn k
  let res : Bool := if z = 2 ∨ z = 4 ∨ z = 5 ∨ z = 6 then decide (1 ≤ pj_fr k) && decide (21 ≤ pj_lo k) else if z = 3 then decide (1 ≤ pj_fr k) && decide (40 ≤ pj_lo k)
    else decide (pj_fr a + 1 ≤ pj_fr k) && decide (8 + (pj_ml a + 11) + pj_lo a ≤ pj_lo k)
  (pj_iln r.1 == 0 || r.2.1 == pj_iln r.1) &&
  match r.1 with
  | .getfield i => pj_flt.any (fun e => e.1 == o && e.2.1 == i && e.2.2.1 == a && e.2.2.2.1 == b)
  | .putfield i => pj_flt.any (fun e => e.1 == o && e.2.1 == i && e.2.2.1 == a && e.2.2.2.1 == b) && (match vwCl[a]? with | some q => !(q.2.1 b).2.2.2 || (decide ((pj_yy k).name = "<init>") && decide ((q.2.1 b).1 = pj_on o)) | none => false)
  | .getstatic i => pj_stt.any (fun e => e.1 == o && e.2.1 == i && e.2.2.1 == a && e.2.2.2.1 == z)
  | .invokestatic i => res && pj_clt.any (fun e => e.1 == o && e.2.1 == i && e.2.2.1 == 0 && e.2.2.2.1 == a && e.2.2.2.2.1 == b && e.2.2.2.2.2.1 == z)
  | .invokevirtual i => res && pj_clt.any (fun e => e.1 == o && e.2.1 == i && e.2.2.1 == 1 && e.2.2.2.1 == a && e.2.2.2.2.1 == b && e.2.2.2.2.2.1 == z)
  | .invokespecial i => res && pj_clt.any (fun e => e.1 == o && e.2.1 == i && e.2.2.1 == 2 && e.2.2.2.1 == a && e.2.2.2.2.1 == b && e.2.2.2.2.2.1 == z)
  | .ldc i => pj_ict.any (fun e => e.1 == o && e.2.1 == i && e.2.2.1 == z)
  | .ldc_w i => pj_ict.any (fun e => e.1 == o && e.2.1 == i && e.2.2.1 == z)
  | .ldc2_w i => pj_lct.any (fun e => e.1 == o && e.2.1 == i && e.2.2.1 == z)
  | .new i => pj_nwt.any (fun e => e.1 == o && e.2.1 == i && e.2.2.1 == a)
  | .newarray t => (match t with | .int => a == 0 | .char => a == 1 | .boolean => a == 2 | _ => false)
  | .anewarray i => a == 3 && pj_is 33 (.classLink (pj_on o) i "VotedCharge$Unit")
  | .goto off => decide ((pc : Int) + off = (a : Int))
  | .if_icmp _ off => decide ((pc : Int) + off = (a : Int))
  | .ifCond _ off => decide ((pc : Int) + off = (a : Int))
  | .lookupswitch _ ps => (ps.toList.zip (ps.toList.drop 1)).all (fun (a, next) => a.1 < next.1)
  | _ => true

set_option maxRecDepth 100000 in
theorem pj_d0 : pj_c0.all (fun q => decide (decode (pj_by 0) q.1 = .ok (q.2.1, q.2.2.1)) && pj_rk 0 q.1 q.2) = true := by decide +kernel
set_option maxRecDepth 100000 in
theorem pj_d1 : pj_c1.all (fun q => decide (decode (pj_by 1) q.1 = .ok (q.2.1, q.2.2.1)) && pj_rk 1 q.1 q.2) = true := by decide +kernel
set_option maxRecDepth 100000 in
theorem pj_d2 : pj_c2.all (fun q => decide (decode (pj_by 2) q.1 = .ok (q.2.1, q.2.2.1)) && pj_rk 2 q.1 q.2) = true := by decide +kernel
set_option maxRecDepth 100000 in
theorem pj_d3 : pj_c3.all (fun q => decide (decode (pj_by 3) q.1 = .ok (q.2.1, q.2.2.1)) && pj_rk 3 q.1 q.2) = true := by decide +kernel
set_option maxRecDepth 100000 in
theorem pj_d4 : pj_c4.all (fun q => decide (decode (pj_by 4) q.1 = .ok (q.2.1, q.2.2.1)) && pj_rk 4 q.1 q.2) = true := by decide +kernel
set_option maxRecDepth 100000 in
theorem pj_d5 : pj_c5.all (fun q => decide (decode (pj_by 5) q.1 = .ok (q.2.1, q.2.2.1)) && pj_rk 5 q.1 q.2) = true := by decide +kernel
set_option maxRecDepth 100000 in
theorem pj_d6 : pj_c6.all (fun q => decide (decode (pj_by 6) q.1 = .ok (q.2.1, q.2.2.1)) && pj_rk 6 q.1 q.2) = true := by decide +kernel
set_option maxRecDepth 100000 in
theorem pj_d7 : pj_c7.all (fun q => decide (decode (pj_by 7) q.1 = .ok (q.2.1, q.2.2.1)) && pj_rk 7 q.1 q.2) = true := by decide +kernel
set_option maxRecDepth 100000 in
theorem pj_d8 : pj_c8.all (fun q => decide (decode (pj_by 8) q.1 = .ok (q.2.1, q.2.2.1)) && pj_rk 8 q.1 q.2) = true := by decide +kernel
set_option maxRecDepth 100000 in
theorem pj_d9 : pj_c9.all (fun q => decide (decode (pj_by 9) q.1 = .ok (q.2.1, q.2.2.1)) && pj_rk 9 q.1 q.2) = true := by decide +kernel
set_option maxRecDepth 100000 in
theorem pj_d10 : pj_c10.all (fun q => decide (decode (pj_by 10) q.1 = .ok (q.2.1, q.2.2.1)) && pj_rk 10 q.1 q.2) = true := by decide +kernel
set_option maxRecDepth 100000 in
theorem pj_d11 : pj_c11.all (fun q => decide (decode (pj_by 11) q.1 = .ok (q.2.1, q.2.2.1)) && pj_rk 11 q.1 q.2) = true := by decide +kernel
set_option maxRecDepth 100000 in
theorem pj_d12 : pj_c12.all (fun q => decide (decode (pj_by 12) q.1 = .ok (q.2.1, q.2.2.1)) && pj_rk 12 q.1 q.2) = true := by decide +kernel
set_option maxRecDepth 100000 in
theorem pj_d13 : pj_c13.all (fun q => decide (decode (pj_by 13) q.1 = .ok (q.2.1, q.2.2.1)) && pj_rk 13 q.1 q.2) = true := by decide +kernel
set_option maxRecDepth 100000 in
theorem pj_d14 : pj_c14.all (fun q => decide (decode (pj_by 14) q.1 = .ok (q.2.1, q.2.2.1)) && pj_rk 14 q.1 q.2) = true := by decide +kernel
set_option maxRecDepth 100000 in
theorem pj_d15 : pj_c15.all (fun q => decide (decode (pj_by 15) q.1 = .ok (q.2.1, q.2.2.1)) && pj_rk 15 q.1 q.2) = true := by decide +kernel
set_option maxRecDepth 100000 in
theorem pj_d16 : pj_c16.all (fun q => decide (decode (pj_by 16) q.1 = .ok (q.2.1, q.2.2.1)) && pj_rk 16 q.1 q.2) = true := by decide +kernel
set_option maxRecDepth 100000 in
theorem pj_d17 : pj_c17.all (fun q => decide (decode (pj_by 17) q.1 = .ok (q.2.1, q.2.2.1)) && pj_rk 17 q.1 q.2) = true := by decide +kernel
set_option maxRecDepth 100000 in
theorem pj_d18 : pj_c18.all (fun q => decide (decode (pj_by 18) q.1 = .ok (q.2.1, q.2.2.1)) && pj_rk 18 q.1 q.2) = true := by decide +kernel
set_option maxRecDepth 100000 in
theorem pj_d19 : pj_c19.all (fun q => decide (decode (pj_by 19) q.1 = .ok (q.2.1, q.2.2.1)) && pj_rk 19 q.1 q.2) = true := by decide +kernel
set_option maxRecDepth 100000 in
theorem pj_d20 : pj_c20.all (fun q => decide (decode (pj_by 20) q.1 = .ok (q.2.1, q.2.2.1)) && pj_rk 20 q.1 q.2) = true := by decide +kernel
set_option maxRecDepth 100000 in
theorem pj_d21 : pj_c21.all (fun q => decide (decode (pj_by 21) q.1 = .ok (q.2.1, q.2.2.1)) && pj_rk 21 q.1 q.2) = true := by decide +kernel
set_option maxRecDepth 100000 in
theorem pj_d22 : pj_c22.all (fun q => decide (decode (pj_by 22) q.1 = .ok (q.2.1, q.2.2.1)) && pj_rk 22 q.1 q.2) = true := by decide +kernel
set_option maxRecDepth 100000 in
theorem pj_d23 : pj_c23.all (fun q => decide (decode (pj_by 23) q.1 = .ok (q.2.1, q.2.2.1)) && pj_rk 23 q.1 q.2) = true := by decide +kernel
set_option maxRecDepth 100000 in
theorem pj_d24 : pj_c24.all (fun q => decide (decode (pj_by 24) q.1 = .ok (q.2.1, q.2.2.1)) && pj_rk 24 q.1 q.2) = true := by decide +kernel
set_option maxRecDepth 100000 in
theorem pj_d25 : pj_c25.all (fun q => decide (decode (pj_by 25) q.1 = .ok (q.2.1, q.2.2.1)) && pj_rk 25 q.1 q.2) = true := by decide +kernel
set_option maxRecDepth 100000 in
theorem pj_d26 : pj_c26.all (fun q => decide (decode (pj_by 26) q.1 = .ok (q.2.1, q.2.2.1)) && pj_rk 26 q.1 q.2) = true := by decide +kernel
set_option maxRecDepth 100000 in
theorem pj_d27 : pj_c27.all (fun q => decide (decode (pj_by 27) q.1 = .ok (q.2.1, q.2.2.1)) && pj_rk 27 q.1 q.2) = true := by decide +kernel
set_option maxRecDepth 100000 in
theorem pj_d28 : pj_c28.all (fun q => decide (decode (pj_by 28) q.1 = .ok (q.2.1, q.2.2.1)) && pj_rk 28 q.1 q.2) = true := by decide +kernel
set_option maxRecDepth 100000 in
theorem pj_d29 : pj_c29.all (fun q => decide (decode (pj_by 29) q.1 = .ok (q.2.1, q.2.2.1)) && pj_rk 29 q.1 q.2) = true := by decide +kernel
set_option maxRecDepth 100000 in
theorem pj_d30 : pj_c30.all (fun q => decide (decode (pj_by 30) q.1 = .ok (q.2.1, q.2.2.1)) && pj_rk 30 q.1 q.2) = true := by decide +kernel
set_option maxRecDepth 100000 in
theorem pj_d31 : pj_c31.all (fun q => decide (decode (pj_by 31) q.1 = .ok (q.2.1, q.2.2.1)) && pj_rk 31 q.1 q.2) = true := by decide +kernel
set_option maxRecDepth 100000 in
theorem pj_d32 : pj_c32.all (fun q => decide (decode (pj_by 32) q.1 = .ok (q.2.1, q.2.2.1)) && pj_rk 32 q.1 q.2) = true := by decide +kernel
set_option maxRecDepth 100000 in
theorem pj_d33 : pj_c33.all (fun q => decide (decode (pj_by 33) q.1 = .ok (q.2.1, q.2.2.1)) && pj_rk 33 q.1 q.2) = true := by decide +kernel
set_option maxRecDepth 100000 in
theorem pj_d34 : pj_c34.all (fun q => decide (decode (pj_by 34) q.1 = .ok (q.2.1, q.2.2.1)) && pj_rk 34 q.1 q.2) = true := by decide +kernel
set_option maxRecDepth 100000 in
theorem pj_d35 : pj_c35.all (fun q => decide (decode (pj_by 35) q.1 = .ok (q.2.1, q.2.2.1)) && pj_rk 35 q.1 q.2) = true := by decide +kernel
set_option maxRecDepth 100000 in
theorem pj_d36 : pj_c36.all (fun q => decide (decode (pj_by 36) q.1 = .ok (q.2.1, q.2.2.1)) && pj_rk 36 q.1 q.2) = true := by decide +kernel
set_option maxRecDepth 100000 in
theorem pj_d37 : pj_c37.all (fun q => decide (decode (pj_by 37) q.1 = .ok (q.2.1, q.2.2.1)) && pj_rk 37 q.1 q.2) = true := by decide +kernel
set_option maxRecDepth 100000 in
theorem pj_d38 : pj_c38.all (fun q => decide (decode (pj_by 38) q.1 = .ok (q.2.1, q.2.2.1)) && pj_rk 38 q.1 q.2) = true := by decide +kernel
set_option maxRecDepth 100000 in
theorem pj_d39 : pj_c39.all (fun q => decide (decode (pj_by 39) q.1 = .ok (q.2.1, q.2.2.1)) && pj_rk 39 q.1 q.2) = true := by decide +kernel
set_option maxRecDepth 100000 in
theorem pj_d40 : pj_c40.all (fun q => decide (decode (pj_by 40) q.1 = .ok (q.2.1, q.2.2.1)) && pj_rk 40 q.1 q.2) = true := by decide +kernel
set_option maxRecDepth 100000 in
theorem pj_d41 : pj_c41.all (fun q => decide (decode (pj_by 41) q.1 = .ok (q.2.1, q.2.2.1)) && pj_rk 41 q.1 q.2) = true := by decide +kernel
set_option maxRecDepth 100000 in
theorem pj_d42 : pj_c42.all (fun q => decide (decode (pj_by 42) q.1 = .ok (q.2.1, q.2.2.1)) && pj_rk 42 q.1 q.2) = true := by decide +kernel
set_option maxRecDepth 100000 in
theorem pj_d43 : pj_c43.all (fun q => decide (decode (pj_by 43) q.1 = .ok (q.2.1, q.2.2.1)) && pj_rk 43 q.1 q.2) = true := by decide +kernel
set_option maxRecDepth 100000 in
theorem pj_d44 : pj_c44.all (fun q => decide (decode (pj_by 44) q.1 = .ok (q.2.1, q.2.2.1)) && pj_rk 44 q.1 q.2) = true := by decide +kernel
set_option maxRecDepth 100000 in
theorem pj_d45 : pj_c45.all (fun q => decide (decode (pj_by 45) q.1 = .ok (q.2.1, q.2.2.1)) && pj_rk 45 q.1 q.2) = true := by decide +kernel
set_option maxRecDepth 100000 in
theorem pj_d46 : pj_c46.all (fun q => decide (decode (pj_by 46) q.1 = .ok (q.2.1, q.2.2.1)) && pj_rk 46 q.1 q.2) = true := by decide +kernel
set_option maxRecDepth 100000 in
theorem pj_d47 : pj_c47.all (fun q => decide (decode (pj_by 47) q.1 = .ok (q.2.1, q.2.2.1)) && pj_rk 47 q.1 q.2) = true := by decide +kernel
set_option maxRecDepth 100000 in
theorem pj_d48 : pj_c48.all (fun q => decide (decode (pj_by 48) q.1 = .ok (q.2.1, q.2.2.1)) && pj_rk 48 q.1 q.2) = true := by decide +kernel
set_option maxRecDepth 100000 in
theorem pj_d49 : pj_c49.all (fun q => decide (decode (pj_by 49) q.1 = .ok (q.2.1, q.2.2.1)) && pj_rk 49 q.1 q.2) = true := by decide +kernel
set_option maxRecDepth 100000 in
theorem pj_d50 : pj_c50.all (fun q => decide (decode (pj_by 50) q.1 = .ok (q.2.1, q.2.2.1)) && pj_rk 50 q.1 q.2) = true := by decide +kernel
set_option maxRecDepth 100000 in
theorem pj_d51 : pj_c51.all (fun q => decide (decode (pj_by 51) q.1 = .ok (q.2.1, q.2.2.1)) && pj_rk 51 q.1 q.2) = true := by decide +kernel
set_option maxRecDepth 100000 in
theorem pj_d52 : pj_c52.all (fun q => decide (decode (pj_by 52) q.1 = .ok (q.2.1, q.2.2.1)) && pj_rk 52 q.1 q.2) = true := by decide +kernel
set_option maxRecDepth 100000 in
theorem pj_d53 : pj_c53.all (fun q => decide (decode (pj_by 53) q.1 = .ok (q.2.1, q.2.2.1)) && pj_rk 53 q.1 q.2) = true := by decide +kernel
set_option maxRecDepth 100000 in
theorem pj_d54 : pj_c54.all (fun q => decide (decode (pj_by 54) q.1 = .ok (q.2.1, q.2.2.1)) && pj_rk 54 q.1 q.2) = true := by decide +kernel
set_option maxRecDepth 100000 in
theorem pj_d55 : pj_c55.all (fun q => decide (decode (pj_by 55) q.1 = .ok (q.2.1, q.2.2.1)) && pj_rk 55 q.1 q.2) = true := by decide +kernel
set_option maxRecDepth 100000 in
theorem pj_d56 : pj_c56.all (fun q => decide (decode (pj_by 56) q.1 = .ok (q.2.1, q.2.2.1)) && pj_rk 56 q.1 q.2) = true := by decide +kernel
set_option maxRecDepth 100000 in
theorem pj_d57 : pj_c57.all (fun q => decide (decode (pj_by 57) q.1 = .ok (q.2.1, q.2.2.1)) && pj_rk 57 q.1 q.2) = true := by decide +kernel
set_option maxRecDepth 100000 in
theorem pj_d58 : pj_c58.all (fun q => decide (decode (pj_by 58) q.1 = .ok (q.2.1, q.2.2.1)) && pj_rk 58 q.1 q.2) = true := by decide +kernel
set_option maxRecDepth 100000 in
theorem pj_d59 : pj_c59.all (fun q => decide (decode (pj_by 59) q.1 = .ok (q.2.1, q.2.2.1)) && pj_rk 59 q.1 q.2) = true := by decide +kernel
set_option maxRecDepth 100000 in
theorem pj_d60 : pj_c60.all (fun q => decide (decode (pj_by 60) q.1 = .ok (q.2.1, q.2.2.1)) && pj_rk 60 q.1 q.2) = true := by decide +kernel
set_option maxRecDepth 100000 in
theorem pj_d61 : pj_c61.all (fun q => decide (decode (pj_by 61) q.1 = .ok (q.2.1, q.2.2.1)) && pj_rk 61 q.1 q.2) = true := by decide +kernel
set_option maxRecDepth 100000 in
theorem pj_w0 : pj_is (pj_mp 0).1 (.code (pj_yy 0) (pj_by 0) (pj_ml 0) (pj_rt 0)) = true := by decide +kernel
set_option maxRecDepth 100000 in
theorem pj_w1 : pj_is (pj_mp 1).1 (.code (pj_yy 1) (pj_by 1) (pj_ml 1) (pj_rt 1)) = true := by decide +kernel
set_option maxRecDepth 100000 in
theorem pj_w2 : pj_is (pj_mp 2).1 (.code (pj_yy 2) (pj_by 2) (pj_ml 2) (pj_rt 2)) = true := by decide +kernel
set_option maxRecDepth 100000 in
theorem pj_w3 : pj_is (pj_mp 3).1 (.code (pj_yy 3) (pj_by 3) (pj_ml 3) (pj_rt 3)) = true := by decide +kernel
set_option maxRecDepth 100000 in
theorem pj_w4 : pj_is (pj_mp 4).1 (.code (pj_yy 4) (pj_by 4) (pj_ml 4) (pj_rt 4)) = true := by decide +kernel
set_option maxRecDepth 100000 in
theorem pj_w5 : pj_is (pj_mp 5).1 (.code (pj_yy 5) (pj_by 5) (pj_ml 5) (pj_rt 5)) = true := by decide +kernel
set_option maxRecDepth 100000 in
theorem pj_w6 : pj_is (pj_mp 6).1 (.code (pj_yy 6) (pj_by 6) (pj_ml 6) (pj_rt 6)) = true := by decide +kernel
set_option maxRecDepth 100000 in
theorem pj_w7 : pj_is (pj_mp 7).1 (.code (pj_yy 7) (pj_by 7) (pj_ml 7) (pj_rt 7)) = true := by decide +kernel
set_option maxRecDepth 100000 in
theorem pj_w8 : pj_is (pj_mp 8).1 (.code (pj_yy 8) (pj_by 8) (pj_ml 8) (pj_rt 8)) = true := by decide +kernel
set_option maxRecDepth 100000 in
theorem pj_w9 : pj_is (pj_mp 9).1 (.code (pj_yy 9) (pj_by 9) (pj_ml 9) (pj_rt 9)) = true := by decide +kernel
set_option maxRecDepth 100000 in
theorem pj_w10 : pj_is (pj_mp 10).1 (.code (pj_yy 10) (pj_by 10) (pj_ml 10) (pj_rt 10)) = true := by decide +kernel
set_option maxRecDepth 100000 in
theorem pj_w11 : pj_is (pj_mp 11).1 (.code (pj_yy 11) (pj_by 11) (pj_ml 11) (pj_rt 11)) = true := by decide +kernel
set_option maxRecDepth 100000 in
theorem pj_w12 : pj_is (pj_mp 12).1 (.code (pj_yy 12) (pj_by 12) (pj_ml 12) (pj_rt 12)) = true := by decide +kernel
set_option maxRecDepth 100000 in
theorem pj_w13 : pj_is (pj_mp 13).1 (.code (pj_yy 13) (pj_by 13) (pj_ml 13) (pj_rt 13)) = true := by decide +kernel
set_option maxRecDepth 100000 in
theorem pj_w14 : pj_is (pj_mp 14).1 (.code (pj_yy 14) (pj_by 14) (pj_ml 14) (pj_rt 14)) = true := by decide +kernel
set_option maxRecDepth 100000 in
theorem pj_w15 : pj_is (pj_mp 15).1 (.code (pj_yy 15) (pj_by 15) (pj_ml 15) (pj_rt 15)) = true := by decide +kernel
set_option maxRecDepth 100000 in
theorem pj_w16 : pj_is (pj_mp 16).1 (.code (pj_yy 16) (pj_by 16) (pj_ml 16) (pj_rt 16)) = true := by decide +kernel
set_option maxRecDepth 100000 in
theorem pj_w17 : pj_is (pj_mp 17).1 (.code (pj_yy 17) (pj_by 17) (pj_ml 17) (pj_rt 17)) = true := by decide +kernel
set_option maxRecDepth 100000 in
theorem pj_w18 : pj_is (pj_mp 18).1 (.code (pj_yy 18) (pj_by 18) (pj_ml 18) (pj_rt 18)) = true := by decide +kernel
set_option maxRecDepth 100000 in
theorem pj_w19 : pj_is (pj_mp 19).1 (.code (pj_yy 19) (pj_by 19) (pj_ml 19) (pj_rt 19)) = true := by decide +kernel
set_option maxRecDepth 100000 in
theorem pj_w20 : pj_is (pj_mp 20).1 (.code (pj_yy 20) (pj_by 20) (pj_ml 20) (pj_rt 20)) = true := by decide +kernel
set_option maxRecDepth 100000 in
theorem pj_w21 : pj_is (pj_mp 21).1 (.code (pj_yy 21) (pj_by 21) (pj_ml 21) (pj_rt 21)) = true := by decide +kernel
set_option maxRecDepth 100000 in
theorem pj_w22 : pj_is (pj_mp 22).1 (.code (pj_yy 22) (pj_by 22) (pj_ml 22) (pj_rt 22)) = true := by decide +kernel
set_option maxRecDepth 100000 in
theorem pj_w23 : pj_is (pj_mp 23).1 (.code (pj_yy 23) (pj_by 23) (pj_ml 23) (pj_rt 23)) = true := by decide +kernel
set_option maxRecDepth 100000 in
theorem pj_w24 : pj_is (pj_mp 24).1 (.code (pj_yy 24) (pj_by 24) (pj_ml 24) (pj_rt 24)) = true := by decide +kernel
set_option maxRecDepth 100000 in
theorem pj_w25 : pj_is (pj_mp 25).1 (.code (pj_yy 25) (pj_by 25) (pj_ml 25) (pj_rt 25)) = true := by decide +kernel
set_option maxRecDepth 100000 in
theorem pj_w26 : pj_is (pj_mp 26).1 (.code (pj_yy 26) (pj_by 26) (pj_ml 26) (pj_rt 26)) = true := by decide +kernel
set_option maxRecDepth 100000 in
theorem pj_w27 : pj_is (pj_mp 27).1 (.code (pj_yy 27) (pj_by 27) (pj_ml 27) (pj_rt 27)) = true := by decide +kernel
set_option maxRecDepth 100000 in
theorem pj_w28 : pj_is (pj_mp 28).1 (.code (pj_yy 28) (pj_by 28) (pj_ml 28) (pj_rt 28)) = true := by decide +kernel
set_option maxRecDepth 100000 in
theorem pj_w29 : pj_is (pj_mp 29).1 (.code (pj_yy 29) (pj_by 29) (pj_ml 29) (pj_rt 29)) = true := by decide +kernel
set_option maxRecDepth 100000 in
theorem pj_w30 : pj_is (pj_mp 30).1 (.code (pj_yy 30) (pj_by 30) (pj_ml 30) (pj_rt 30)) = true := by decide +kernel
set_option maxRecDepth 100000 in
theorem pj_w31 : pj_is (pj_mp 31).1 (.code (pj_yy 31) (pj_by 31) (pj_ml 31) (pj_rt 31)) = true := by decide +kernel
set_option maxRecDepth 100000 in
theorem pj_w32 : pj_is (pj_mp 32).1 (.code (pj_yy 32) (pj_by 32) (pj_ml 32) (pj_rt 32)) = true := by decide +kernel
set_option maxRecDepth 100000 in
theorem pj_w33 : pj_is (pj_mp 33).1 (.code (pj_yy 33) (pj_by 33) (pj_ml 33) (pj_rt 33)) = true := by decide +kernel
set_option maxRecDepth 100000 in
theorem pj_w34 : pj_is (pj_mp 34).1 (.code (pj_yy 34) (pj_by 34) (pj_ml 34) (pj_rt 34)) = true := by decide +kernel
set_option maxRecDepth 100000 in
theorem pj_w35 : pj_is (pj_mp 35).1 (.code (pj_yy 35) (pj_by 35) (pj_ml 35) (pj_rt 35)) = true := by decide +kernel
set_option maxRecDepth 100000 in
theorem pj_w36 : pj_is (pj_mp 36).1 (.code (pj_yy 36) (pj_by 36) (pj_ml 36) (pj_rt 36)) = true := by decide +kernel
set_option maxRecDepth 100000 in
theorem pj_w37 : pj_is (pj_mp 37).1 (.code (pj_yy 37) (pj_by 37) (pj_ml 37) (pj_rt 37)) = true := by decide +kernel
set_option maxRecDepth 100000 in
theorem pj_w38 : pj_is (pj_mp 38).1 (.code (pj_yy 38) (pj_by 38) (pj_ml 38) (pj_rt 38)) = true := by decide +kernel
set_option maxRecDepth 100000 in
theorem pj_w39 : pj_is (pj_mp 39).1 (.code (pj_yy 39) (pj_by 39) (pj_ml 39) (pj_rt 39)) = true := by decide +kernel
set_option maxRecDepth 100000 in
theorem pj_w40 : pj_is (pj_mp 40).1 (.code (pj_yy 40) (pj_by 40) (pj_ml 40) (pj_rt 40)) = true := by decide +kernel
set_option maxRecDepth 100000 in
theorem pj_w41 : pj_is (pj_mp 41).1 (.code (pj_yy 41) (pj_by 41) (pj_ml 41) (pj_rt 41)) = true := by decide +kernel
set_option maxRecDepth 100000 in
theorem pj_w42 : pj_is (pj_mp 42).1 (.code (pj_yy 42) (pj_by 42) (pj_ml 42) (pj_rt 42)) = true := by decide +kernel
set_option maxRecDepth 100000 in
theorem pj_w43 : pj_is (pj_mp 43).1 (.code (pj_yy 43) (pj_by 43) (pj_ml 43) (pj_rt 43)) = true := by decide +kernel
set_option maxRecDepth 100000 in
theorem pj_w44 : pj_is (pj_mp 44).1 (.code (pj_yy 44) (pj_by 44) (pj_ml 44) (pj_rt 44)) = true := by decide +kernel
set_option maxRecDepth 100000 in
theorem pj_w45 : pj_is (pj_mp 45).1 (.code (pj_yy 45) (pj_by 45) (pj_ml 45) (pj_rt 45)) = true := by decide +kernel
set_option maxRecDepth 100000 in
theorem pj_w46 : pj_is (pj_mp 46).1 (.code (pj_yy 46) (pj_by 46) (pj_ml 46) (pj_rt 46)) = true := by decide +kernel
set_option maxRecDepth 100000 in
theorem pj_w47 : pj_is (pj_mp 47).1 (.code (pj_yy 47) (pj_by 47) (pj_ml 47) (pj_rt 47)) = true := by decide +kernel
set_option maxRecDepth 100000 in
theorem pj_w48 : pj_is (pj_mp 48).1 (.code (pj_yy 48) (pj_by 48) (pj_ml 48) (pj_rt 48)) = true := by decide +kernel
set_option maxRecDepth 100000 in
theorem pj_w49 : pj_is (pj_mp 49).1 (.code (pj_yy 49) (pj_by 49) (pj_ml 49) (pj_rt 49)) = true := by decide +kernel
set_option maxRecDepth 100000 in
theorem pj_w50 : pj_is (pj_mp 50).1 (.code (pj_yy 50) (pj_by 50) (pj_ml 50) (pj_rt 50)) = true := by decide +kernel
set_option maxRecDepth 100000 in
theorem pj_w51 : pj_is (pj_mp 51).1 (.code (pj_yy 51) (pj_by 51) (pj_ml 51) (pj_rt 51)) = true := by decide +kernel
set_option maxRecDepth 100000 in
theorem pj_w52 : pj_is (pj_mp 52).1 (.code (pj_yy 52) (pj_by 52) (pj_ml 52) (pj_rt 52)) = true := by decide +kernel
set_option maxRecDepth 100000 in
theorem pj_w53 : pj_is (pj_mp 53).1 (.code (pj_yy 53) (pj_by 53) (pj_ml 53) (pj_rt 53)) = true := by decide +kernel
set_option maxRecDepth 100000 in
theorem pj_w54 : pj_is (pj_mp 54).1 (.code (pj_yy 54) (pj_by 54) (pj_ml 54) (pj_rt 54)) = true := by decide +kernel
set_option maxRecDepth 100000 in
theorem pj_w55 : pj_is (pj_mp 55).1 (.code (pj_yy 55) (pj_by 55) (pj_ml 55) (pj_rt 55)) = true := by decide +kernel
set_option maxRecDepth 100000 in
theorem pj_w56 : pj_is (pj_mp 56).1 (.code (pj_yy 56) (pj_by 56) (pj_ml 56) (pj_rt 56)) = true := by decide +kernel
set_option maxRecDepth 100000 in
theorem pj_w57 : pj_is (pj_mp 57).1 (.code (pj_yy 57) (pj_by 57) (pj_ml 57) (pj_rt 57)) = true := by decide +kernel
set_option maxRecDepth 100000 in
theorem pj_w58 : pj_is (pj_mp 58).1 (.code (pj_yy 58) (pj_by 58) (pj_ml 58) (pj_rt 58)) = true := by decide +kernel
set_option maxRecDepth 100000 in
theorem pj_w59 : pj_is (pj_mp 59).1 (.code (pj_yy 59) (pj_by 59) (pj_ml 59) (pj_rt 59)) = true := by decide +kernel
set_option maxRecDepth 100000 in
theorem pj_w60 : pj_is (pj_mp 60).1 (.code (pj_yy 60) (pj_by 60) (pj_ml 60) (pj_rt 60)) = true := by decide +kernel
def pj_allF (P : Nat → pj_Mt → Prop) : Nat → List pj_Mt → Prop
  | _, [] => True
  | k, c :: r => P k c ∧ pj_allF P (k + 1) r
theorem pj_allF_at {P : Nat → pj_Mt → Prop} : ∀ (l : List pj_Mt) (i : Nat), pj_allF P i l → ∀ (j : Nat) (c : pj_Mt), l[j]? = some c → P (i + j) c
  | [], _, _, j, c, h => by simp at h
  | d :: r, i, ⟨h1, h2⟩, j, c, h => by
    cases j with
    | zero => rw [List.getElem?_cons_zero] at h; cases h; exact h1
    | succ j =>
      rw [List.getElem?_cons_succ] at h
      have := pj_allF_at r (i + 1) h2 j c h
      rw [show i + (j + 1) = i + 1 + j by omega]
      exact this
def pj_wP (k : Nat) (_ : pj_Mt) : Prop := k < 61 → pj_is (pj_mp k).1 (.code (pj_yy k) (pj_by k) (pj_ml k) (pj_rt k)) = true
theorem pj_wA : pj_allF pj_wP 0 pj_tab := ⟨fun _ => pj_w0, fun _ => pj_w1, fun _ => pj_w2, fun _ => pj_w3, fun _ => pj_w4, fun _ => pj_w5, fun _ => pj_w6, fun _ => pj_w7, fun _ => pj_w8, fun _ => pj_w9, fun _ => pj_w10, fun _ => pj_w11, fun _ => pj_w12, fun _ => pj_w13, fun _ => pj_w14, fun _ => pj_w15, fun _ => pj_w16, fun _ => pj_w17, fun _ => pj_w18, fun _ => pj_w19, fun _ => pj_w20, fun _ => pj_w21, fun _ => pj_w22, fun _ => pj_w23, fun _ => pj_w24, fun _ => pj_w25, fun _ => pj_w26, fun _ => pj_w27, fun _ => pj_w28, fun _ => pj_w29, fun _ => pj_w30, fun _ => pj_w31, fun _ => pj_w32, fun _ => pj_w33, fun _ => pj_w34, fun _ => pj_w35, fun _ => pj_w36, fun _ => pj_w37, fun _ => pj_w38, fun _ => pj_w39, fun _ => pj_w40, fun _ => pj_w41, fun _ => pj_w42, fun _ => pj_w43, fun _ => pj_w44, fun _ => pj_w45, fun _ => pj_w46, fun _ => pj_w47, fun _ => pj_w48, fun _ => pj_w49, fun _ => pj_w50, fun _ => pj_w51, fun _ => pj_w52, fun _ => pj_w53, fun _ => pj_w54, fun _ => pj_w55, fun _ => pj_w56, fun _ => pj_w57, fun _ => pj_w58, fun _ => pj_w59, fun _ => pj_w60, fun h => absurd h (by decide), trivial⟩
theorem pj_w_ok (k : Nat) (hk : k < 61) : pj_is (pj_mp k).1 (.code (pj_yy k) (pj_by k) (pj_ml k) (pj_rt k)) = true := by
  have hl : pj_tab.length = 62 := rfl
  have hg : pj_tab[k]? = some (pj_tab[k]'(by omega)) := List.getElem?_eq_getElem (by omega)
  have h := pj_allF_at pj_tab 0 pj_wA k _ hg
  rw [Nat.zero_add] at h
  exact h hk
def pj_dP (k : Nat) (c : pj_Mt) : Prop := c.2.2.2.2.2.2.2.all (fun q => decide (decode (pj_by k) q.1 = .ok (q.2.1, q.2.2.1)) && pj_rk k q.1 q.2) = true
theorem pj_dA : pj_allF pj_dP 0 pj_tab := ⟨pj_d0, pj_d1, pj_d2, pj_d3, pj_d4, pj_d5, pj_d6, pj_d7, pj_d8, pj_d9, pj_d10, pj_d11, pj_d12, pj_d13, pj_d14, pj_d15, pj_d16, pj_d17, pj_d18, pj_d19, pj_d20, pj_d21, pj_d22, pj_d23, pj_d24, pj_d25, pj_d26, pj_d27, pj_d28, pj_d29, pj_d30, pj_d31, pj_d32, pj_d33, pj_d34, pj_d35, pj_d36, pj_d37, pj_d38, pj_d39, pj_d40, pj_d41, pj_d42, pj_d43, pj_d44, pj_d45, pj_d46, pj_d47, pj_d48, pj_d49, pj_d50, pj_d51, pj_d52, pj_d53, pj_d54, pj_d55, pj_d56, pj_d57, pj_d58, pj_d59, pj_d60, pj_d61, trivial⟩
theorem pj_rows_ok (k : Nat) (hk : k < 62) : ∀ q ∈ pj_cd k, decode (pj_by k) q.1 = .ok (q.2.1, q.2.2.1) ∧ pj_rk k q.1 q.2 = true := by
  have hl : pj_tab.length = 62 := rfl
  have hg : pj_tab[k]? = some (pj_mt k) := by
    unfold pj_mt
    rw [List.getD_eq_getElem?_getD, List.getElem?_eq_getElem (by omega)]
    rfl
  have h := pj_allF_at pj_tab 0 pj_dA k _ hg
  rw [Nat.zero_add] at h
  intro q hq
  have h2 := List.all_eq_true.mp h q hq
  rw [Bool.and_eq_true] at h2
  exact ⟨of_decide_eq_true h2.1, h2.2⟩
