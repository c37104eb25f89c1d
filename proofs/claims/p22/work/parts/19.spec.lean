/-! WHAT A TICK IS, over the reference's row of numbers -/
theorem pj_up_up {H : pj_Heap} {a : Nat} {c d : pj_Cell} : pj_up (pj_up H a c) a d = pj_up H a d := by
  funext j
  unfold pj_up
  by_cases h : j = a
  · rw [if_pos h, if_pos h]
  · rw [if_neg h, if_neg h, if_neg h]
theorem pj_up_sort {H : pj_Heap} {a b : Nat} {c d : pj_Cell} (h : b < a) : pj_up (pj_up H a c) b d = pj_up (pj_up H b d) a c := by
  funext j
  unfold pj_up
  by_cases h1 : j = a
  · rw [if_pos h1, if_neg (by omega), if_pos h1]
  · rw [if_neg h1, if_neg h1]
theorem pj_upd_ap {f : Nat → Int32} {k j : Nat} {x : Int32} : upd f k x j = if j = k then x else f j := rfl
def pj_a3 (x y z : Int32) : Nat → Int32 := fun i => if i = 0 then x else if i = 1 then y else if i = 2 then z else 0
theorem pj_a3_0 {x y z : Int32} : pj_a3 x y z 0 = x := rfl
theorem pj_a3_1 {x y z : Int32} : pj_a3 x y z 1 = y := rfl
theorem pj_a3_2 {x y z : Int32} : pj_a3 x y z 2 = z := rfl
theorem pj_a3_u0 {x y z w : Int32} : upd (pj_a3 x y z) 0 w = pj_a3 w y z := by
  funext j
  unfold upd pj_a3
  by_cases h : j = 0
  · rw [if_pos h, if_pos h]
  · rw [if_neg h, if_neg h, if_neg h]
theorem pj_a3_u1 {x y z w : Int32} : upd (pj_a3 x y z) 1 w = pj_a3 x w z := by
  funext j
  unfold upd pj_a3
  by_cases h : j = 1
  · subst h; rfl
  · rw [if_neg h]
    simp only [h, if_false]
theorem pj_a3_u2 {x y z w : Int32} : upd (pj_a3 x y z) 2 w = pj_a3 x y w := by
  funext j
  unfold upd pj_a3
  by_cases h : j = 2
  · subst h; rfl
  · rw [if_neg h]
    simp only [h, if_false]
theorem pj_a3_z : (fun _ => 0 : Nat → Int32) = pj_a3 0 0 0 := by
  funext j
  unfold pj_a3
  split <;> (try rfl)
  split <;> (try rfl)
  split <;> rfl
/-- the reference's object -/
def pj_mo (hl mid lo hi fi pl sp nu ic td : Int32) : pj_Cell := .inl (6, [.ref 110, .ref 111, .ref 112, .int hl, .ref 113, .ref 114, .ref 115, .ref 116, .int mid, .int lo, .int hi, .int fi, .ref 117, .int pl, .int sp, .int nu, .int ic, .int td])
def sp_same (s r x : Int32) : Int32 := if s ≤ 0 then 1 else if r = x then s + 1 else 1
def sp_t1 (f g : Nat → Int32) (k : Nat) : Nat → Int32 := upd (upd (upd f (17 + k) (sp_same (f (17 + k)) (f (20 + k)) (g k))) (20 + k) (g k)) (14 + k) (if sp_same (f (17 + k)) (f (20 + k)) (g k) < f 3 then f (14 + k) else 0)
def sp_T1 (f g : Nat → Int32) : Nat → Int32 := sp_t1 (sp_t1 (sp_t1 f g 0) g 1) g 2

