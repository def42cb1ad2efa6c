/-! PURE: a FLOAT's parts, on numbers -/
def dx_neg (e s X : Nat) : Bool := decide (2 ^ (e + s - 1) ≤ X)
def dx_mag (e s X : Nat) : Nat := X % 2 ^ (e + s - 1)
def dx_fld (e s X : Nat) : Nat := dx_mag e s X / 2 ^ (s - 1)
def dx_frac (s X : Nat) : Nat := X % 2 ^ (s - 1)
def dx_nan (e s X : Nat) : Bool := decide (sp_inf e s < dx_mag e s X)
def dx_inf (e s X : Nat) : Bool := decide (dx_mag e s X = sp_inf e s)
def dx_m (e s X : Nat) : Nat := if dx_fld e s X = 0 then dx_frac s X else dx_frac s X + 2 ^ (s - 1)
def dx_p (e s X : Nat) : Int := sp_least e s + (if dx_fld e s X = 0 then 0 else (dx_fld e s X : Int) - 1)
theorem dx_mag_lt {e s X : Nat} : dx_mag e s X < 2 ^ (e + s - 1) := Nat.mod_lt _ (Nat.pow_pos (by decide))
theorem dx_split {e s X : Nat} (ok : fw_ok e s) (hX : X < 2 ^ (e + s)) : X = (dx_neg e s X).toNat * 2 ^ (e + s - 1) + dx_mag e s X := by
  have hb := (b_ok ok).2.1
  unfold dx_neg dx_mag
  by_cases h : 2 ^ (e + s - 1) ≤ X
  · rw [Nat.mod_eq_sub_mod h, Nat.mod_eq_of_lt (by omega)]
    simp [h]
  · rw [Nat.mod_eq_of_lt (by omega)]
    simp [h]
theorem dx_div {e s X : Nat} (ok : fw_ok e s) (hX : X < 2 ^ (e + s)) : X / 2 ^ (e + s - 1) = (dx_neg e s X).toNat := by
  have h := dx_split ok hX
  have h2 := dx_mag_lt (e := e) (s := s) (X := X)
  have hp := Nat.pow_pos (n := e + s - 1) (show 0 < 2 by decide)
  conv => lhs; rw [h]
  rw [Nat.mul_comm, Nat.mul_add_div hp, Nat.div_eq_of_lt h2]
  omega
theorem dx_frac_mag {e s X : Nat} (ok : fw_ok e s) : dx_mag e s X % 2 ^ (s - 1) = dx_frac s X := by
  unfold dx_mag dx_frac
  rw [(b_ok ok).2.2.2.2.2.2.2.2.2, Nat.mul_comm, Nat.mod_mul_right_mod]
theorem dx_mag_split {e s X : Nat} (ok : fw_ok e s) : dx_mag e s X = dx_fld e s X * 2 ^ (s - 1) + dx_frac s X := by
  rw [← dx_frac_mag (e := e) ok]
  unfold dx_fld
  rw [Nat.mul_comm]
  exact (Nat.div_add_mod _ _).symm
theorem dx_frac_lt {s X : Nat} : dx_frac s X < 2 ^ (s - 1) := Nat.mod_lt _ (Nat.pow_pos (by decide))
theorem dx_fld_lt {e s X : Nat} (ok : fw_ok e s) : dx_fld e s X < 2 ^ e := by
  unfold dx_fld
  rw [Nat.div_lt_iff_lt_mul (Nat.pow_pos (by decide)), ← (b_ok ok).2.2.2.2.2.2.2.2.2]
  exact dx_mag_lt
/-- the field is full: infinite or NaN -/
theorem dx_full {e s X : Nat} (ok : fw_ok e s) : (dx_fld e s X = 2 ^ e - 1) ↔ sp_inf e s ≤ dx_mag e s X := by
  have h1 := dx_mag_split (X := X) ok
  have h2 := dx_frac_lt (s := s) (X := X)
  have h3 := dx_fld_lt (X := X) ok
  have hi : sp_inf e s = (2 ^ e - 1) * 2 ^ (s - 1) := rfl
  have h4 := (b_ok ok).2.2.2.2.2.2.2.1
  constructor
  · intro h
    rw [h1, h, hi]
    omega
  · intro h
    have h5 : ¬ dx_fld e s X ≤ 2 ^ e - 2 := by
      intro h6
      have h7 : dx_fld e s X * 2 ^ (s - 1) ≤ (2 ^ e - 2) * 2 ^ (s - 1) := Nat.mul_le_mul_right _ h6
      have h8 : (2 ^ e - 1) * 2 ^ (s - 1) = (2 ^ e - 2) * 2 ^ (s - 1) + 2 ^ (s - 1) := by
        rw [show 2 ^ e - 1 = (2 ^ e - 2) + 1 by omega, Nat.add_mul, Nat.one_mul]
      omega
    omega
theorem dx_nan_iff {e s X : Nat} (ok : fw_ok e s) : dx_nan e s X = true ↔ dx_fld e s X = 2 ^ e - 1 ∧ dx_frac s X ≠ 0 := by
  have h1 := dx_mag_split (X := X) ok
  have hi : sp_inf e s = (2 ^ e - 1) * 2 ^ (s - 1) := rfl
  unfold dx_nan
  rw [decide_eq_true_iff]
  constructor
  · intro h
    have h2 := (dx_full ok).mpr (Nat.le_of_lt h)
    rw [h1, h2, hi] at h
    exact ⟨h2, by omega⟩
  · rintro ⟨h2, h3⟩
    rw [h1, h2, hi]
    omega
theorem dx_inf_iff {e s X : Nat} (ok : fw_ok e s) : dx_inf e s X = true ↔ dx_fld e s X = 2 ^ e - 1 ∧ dx_frac s X = 0 := by
  have h1 := dx_mag_split (X := X) ok
  have hi : sp_inf e s = (2 ^ e - 1) * 2 ^ (s - 1) := rfl
  unfold dx_inf
  rw [decide_eq_true_iff]
  constructor
  · intro h
    have h2 := (dx_full ok).mpr (Nat.le_of_eq h.symm)
    rw [h1, h2, hi] at h
    exact ⟨h2, by omega⟩
  · rintro ⟨h2, h3⟩
    rw [h1, h2, hi, h3]
    rfl
theorem dx_m_lt {e s X : Nat} (ok : fw_ok e s) : dx_m e s X < 2048 := by
  have h2 := dx_frac_lt (s := s) (X := X)
  have h3 := (b_ok ok).2.2.2.2.1
  unfold dx_m
  split <;> omega
theorem dx_p_b {e s X : Nat} (ok : fw_ok e s) : -24 ≤ dx_p e s X ∧ dx_p e s X ≤ 30 := by
  have h2 := l_ok ok
  have h3 := dx_fld_lt (X := X) ok
  have h4 := (b_ok ok).2.2.2.2.2.2.1
  unfold dx_p
  split <;> omega
/-- what stands for zero -/
theorem dx_m0 {e s X : Nat} (ok : fw_ok e s) : dx_m e s X = 0 ↔ dx_mag e s X = 0 := by
  have h1 := dx_mag_split (X := X) ok
  have h2 := (b_ok ok).2.2.2.2.2.1
  have h3 := (b_ok ok).2.2.2.1
  unfold dx_m
  constructor
  · intro h
    split at h
    · rename_i h0
      rw [h1, h0, h]; omega
    · omega
  · intro h
    have h5 : dx_fld e s X = 0 := by unfold dx_fld; rw [h]; exact Nat.zero_div _
    have h6 : dx_frac s X = 0 := by rw [← dx_frac_mag (e := e) ok, h]; exact Nat.zero_mod _
    rw [if_pos h5, h6]
