/-! CHARACTERS IN A NUMBER, AND THE REFERENCE'S PUT -/
/-- the machine's shift to the right by so many places -/
def sp_sr (x : Int64) (y : Int32) : Int64 := (x.toUInt64 >>> (y.toInt64.toUInt64 &&& Int64.toUInt64 63)).toInt64
def sp_by (c : Int64) (k : Nat) : Nat := (c.toUInt64.toNat >>> (8 * k)) % 256
theorem sp_sr_n {x : Int64} {k : Nat} (hk : k < 8) : (sp_sr x (nI (8 * k))).toUInt64.toNat = x.toUInt64.toNat >>> (8 * k) := by
  unfold sp_sr
  rw [UInt64.toUInt64_toInt64, UInt64.toNat_shiftRight]
  have e : ((nI (8 * k)).toInt64.toUInt64 &&& Int64.toUInt64 63).toNat % 64 = 8 * k := by
    have : k = 0 ∨ k = 1 ∨ k = 2 ∨ k = 3 ∨ k = 4 ∨ k = 5 ∨ k = 6 ∨ k = 7 := by omega
    rcases this with q | q | q | q | q | q | q | q <;> (subst q; decide)
  rw [e]
theorem sp_sr_8 {x : Int64} : (sp_sr x 8).toUInt64.toNat = x.toUInt64.toNat >>> 8 := sp_sr_n (k := 1) (by decide)
theorem sp_u_inj {x y : Int64} (h : x.toUInt64.toNat = y.toUInt64.toNat) : x = y := Int64.toUInt64_inj.mp (UInt64.toNat_inj.mp h)
/-- what is left behind so many characters -/
def sp_rr (c : Int64) : Nat → Int64
  | 0 => c
  | k + 1 => sp_sr (sp_rr c k) 8
theorem sp_rr_n (c : Int64) : ∀ k, (sp_rr c k).toUInt64.toNat = c.toUInt64.toNat >>> (8 * k)
  | 0 => by rw [Nat.mul_zero, Nat.shiftRight_zero]; rfl
  | k + 1 => by
    unfold sp_rr
    rw [sp_sr_8, sp_rr_n c k, ← Nat.shiftRight_add]
    congr 1
theorem sp_rr_sr {c : Int64} {k : Nat} (hk : k < 8) : sp_rr c k = sp_sr c (nI (8 * k)) := sp_u_inj (by rw [sp_rr_n, sp_sr_n hk])
theorem sp_rr_8 {c : Int64} : sp_rr c 8 = 0 := sp_u_inj (by
  rw [sp_rr_n, Nat.shiftRight_eq_div_pow]
  have h := UInt64.toNat_lt c.toUInt64
  have e : (0 : Int64).toUInt64.toNat = 0 := rfl
  rw [e]
  exact Nat.div_eq_of_lt h)
theorem sp_and (x : Int64) : x &&& 255 = lN (x.toUInt64.toNat % 256) := sp_u_inj (by
  have e1 : (x &&& 255).toUInt64 = x.toUInt64 &&& 255 := rfl
  rw [e1, UInt64.toNat_and]
  have e2 : (255 : UInt64).toNat = 2 ^ 8 - 1 := rfl
  rw [e2, Nat.and_two_pow_sub_one_eq_mod]
  have e3 : ∀ b, b < 256 → (lN b).toUInt64.toNat = b := by
    intro b hb
    have : (lN b).toUInt64 = UInt64.ofNat b := rfl
    rw [this, UInt64.toNat_ofNat_of_lt (by omega)]
  rw [e3 _ (by omega)])
theorem sp_rr_b (c : Int64) (k : Nat) : sp_rr c k &&& 255 = lN (sp_by c k) := by rw [sp_and, sp_rr_n]; rfl
theorem sp_sr_b (c : Int64) {k : Nat} (hk : k < 8) : sp_sr c (nI (8 * k)) &&& 255 = lN (sp_by c k) := by rw [← sp_rr_sr hk, sp_rr_b]
theorem sp_by_lt (c : Int64) (k : Nat) : sp_by c k < 256 := Nat.mod_lt _ (by decide)
theorem sp_lcmp0 {b : Nat} (hb : b < 256) : lg_cmp (lN b) 0 = 0 ↔ b = 0 := by
  unfold lg_cmp
  have e0 : (0 : Int64) = lN 0 := rfl
  by_cases h : b = 0
  · subst h; decide
  · have h1 : lN b > 0 := (lN_lt (a := 0) (b := b) (by decide) (by omega)).mpr (by omega)
    rw [if_pos h1]
    exact ⟨fun q => absurd q (by decide), fun q => absurd q h⟩
theorem lg_eq0 {x : Int64} : lg_cmp x 0 = 0 ↔ x = 0 := by
  unfold lg_cmp
  by_cases h : x > 0
  · rw [if_pos h]
    exact ⟨fun q => absurd q (by decide), fun q => absurd h (by rw [q]; exact Int64.lt_irrefl)⟩
  · rw [if_neg h]
    by_cases h2 : x = 0
    · rw [if_pos h2]
      exact ⟨fun _ => h2, fun _ => rfl⟩
    · rw [if_neg h2]
      exact ⟨fun q => absurd q (by decide), fun q => absurd q h2⟩
theorem sp_in_b {b : Nat} (hb : b < 256) : sp_in (lN b) 33 126 = if 33 ≤ b ∧ b ≤ 126 then 1 else 0 := by
  unfold sp_in
  have e1 : ((33 : Int64) ≤ lN b) ↔ 33 ≤ b := lN_le (a := 33) (b := b) (by decide) (by omega)
  have e2 : (lN b ≤ (126 : Int64)) ↔ b ≤ 126 := lN_le (a := b) (b := 126) (by omega) (by decide)
  simp only [e1, e2]
/-- how many characters there are, of so many that are left to look at -/
def sp_cn (c : Int64) : Nat → Nat → Nat
  | 0, k => k
  | m + 1, k => if sp_by c k = 0 then k else sp_cn c m (k + 1)
/-- and whether they are all good -/
def sp_gd (c : Int64) : Nat → Nat → Bool
  | 0, _ => true
  | m + 1, k => if sp_by c k = 0 then true else if 33 ≤ sp_by c k ∧ sp_by c k ≤ 126 then sp_gd c m (k + 1) else false
theorem sp_cn_le (c : Int64) : ∀ m k, k ≤ sp_cn c m k ∧ sp_cn c m k ≤ k + m
  | 0, k => ⟨Nat.le_refl _, Nat.le_refl _⟩
  | m + 1, k => by
    unfold sp_cn
    have := sp_cn_le c m (k + 1)
    split <;> omega
/-- the characters are put behind the pad's, the last one of the number last -/
def sp_wr (c : Int64) : Nat → (Nat → Int32) → Nat → (Nat → Int32)
  | 0, pd, _ => pd
  | m + 1, pd, pl => sp_wr c m (upd pd pl (nI (sp_by c m))) (pl + 1)
def op_put (x : pj_Sg) (c : Int64) : pj_Sg × Int32 :=
  if sp_cn c 8 0 = 0 ∨ ¬ sp_rr c (sp_cn c 8 0) = 0 ∨ sp_gd c 8 0 = false then (x, -2)
  else if 80 < x.2.2.2.2.2.1 + sp_cn c 8 0 then (x, -4)
  else ((x.1, x.2.1, x.2.2.1, x.2.2.2.1, x.2.2.2.2.1, x.2.2.2.2.2.1 + sp_cn c 8 0, sp_wr c (sp_cn c 8 0) x.2.2.2.2.2.2 x.2.2.2.2.2.1), nI (x.2.2.2.2.2.1 + sp_cn c 8 0))
def sp_gb (b : Bool) : Int32 := if b = true then 1 else 0
theorem m_put_a {c : Int64} {x7 : Option Value} {N S : Nat} {H : pj_Heap} {o : Option Value × pj_Mem} : ∀ (m k : Nat) (g : Int32), k + m = 8 →
    pj_Ends 113 (68, [some (.ref 109), some (.long c), none, some (.int (nI (sp_cn c m k))), some (.int (if g = 0 then 0 else sp_gb (sp_gd c m k))), some (.long (sp_rr c (sp_cn c m k))), none, x7], [], (N, S, H)) o →
    pj_Ends 113 (8, [some (.ref 109), some (.long c), none, some (.int (nI k)), some (.int g), some (.long (sp_rr c k)), none, x7], [], (N, S, H)) o := by
  sorry
