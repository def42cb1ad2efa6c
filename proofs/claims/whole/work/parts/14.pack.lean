/-! PURE: the packing, on numbers -/
/-- what the reference does behind its cut (one place more where v is the next power of two; beyond the greatest: A) is the packed number, or A -/
theorem sp_pack_cases (P B k v A : Nat) (hP : 0 < P) (hv : v ≤ 2 * P) (hk : v < P → k = 0) (hB : 1 ≤ B) :
    (if P ≤ (if v = 2 * P then P else v) ∧ B ≤ (if v = 2 * P then k + 1 else k) then A else if (if v = 2 * P then P else v) < P then (if v = 2 * P then P else v) else ((if v = 2 * P then k + 1 else k) + 1) * P + (if v = 2 * P then P else v) % P) = if k * P + v < B * P + P then k * P + v else A := by
  by_cases h2 : v = 2 * P
  · rw [if_pos h2, if_pos h2]
    by_cases hb : B ≤ k + 1
    · have h1 : B * P ≤ (k + 1) * P := Nat.mul_le_mul_right _ hb
      rw [Nat.add_mul, Nat.one_mul] at h1
      rw [if_pos ⟨Nat.le_refl _, hb⟩, if_neg (by omega)]
    · have h1 : (k + 1 + 1) * P ≤ B * P := Nat.mul_le_mul_right _ (by omega)
      rw [Nat.add_mul, Nat.add_mul, Nat.one_mul] at h1
      rw [if_neg (fun h => hb h.2), if_neg (by omega), if_pos (by omega), Nat.mod_self, Nat.add_mul, Nat.add_mul, Nat.one_mul]
      omega
  · rw [if_neg h2, if_neg h2]
    by_cases hlo : v < P
    · have h0 := hk hlo
      subst h0
      have h1 : 1 * P ≤ B * P := Nat.mul_le_mul_right _ hB
      rw [Nat.one_mul] at h1
      rw [if_neg (fun h => by omega), if_pos hlo, if_pos (by omega)]
      omega
    · by_cases hb : B ≤ k
      · have h1 : B * P ≤ k * P := Nat.mul_le_mul_right _ hb
        rw [if_pos ⟨by omega, hb⟩, if_neg (by omega)]
      · have h1 : (k + 1) * P ≤ B * P := Nat.mul_le_mul_right _ (by omega)
        rw [Nat.add_mul, Nat.one_mul] at h1
        have hm : v % P = v - P := by
          rw [Nat.mod_eq_sub_mod (by omega), Nat.mod_eq_of_lt (by omega)]
        rw [if_neg (fun h => hb h.2), if_neg hlo, if_pos (by omega), hm, Nat.add_mul, Nat.one_mul]
        omega
theorem sp_cut_le (mode : Nat) (neg : Bool) (m n : Nat) (more : Bool) : sp_cut mode neg m n more ≤ m / 2 ^ n + 1 := by
  unfold sp_cut
  split
  · rename_i h; subst h; rw [Nat.pow_zero, Nat.div_one]; omega
  · have := Bool.toNat_le (sp_up mode neg (decide (m / 2 ^ n % 2 = 1)) (decide (m / 2 ^ (n - 1) % 2 = 1)) (decide (m % 2 ^ (n - 1) ≠ 0) || more))
    omega
theorem sp_cut_ge (mode : Nat) (neg : Bool) (m n : Nat) (more : Bool) : m / 2 ^ n ≤ sp_cut mode neg m n more := by
  unfold sp_cut
  split
  · rename_i h; subst h; rw [Nat.pow_zero, Nat.div_one]; omega
  · omega
theorem sp_at_hi (e s mode : Nat) (neg : Bool) {m : Nat} (hm : m ≠ 0) (p : Int) (more : Bool) (hs : 1 ≤ s) : sp_at mode neg m p (sp_unit e s m p) more ≤ 2 * 2 ^ (s - 1) := by
  obtain ⟨h1, h2⟩ := (Nat.log2_eq_iff hm).mp rfl
  have hu : p + m.log2 - (s - 1 : Nat) ≤ sp_unit e s m p := by
    unfold sp_unit
    split <;> omega
  generalize sp_unit e s m p = u at hu
  have e2 : 2 * 2 ^ (s - 1) = 2 ^ s := by rw [Nat.mul_comm, ← Nat.pow_succ, show (s - 1).succ = s by omega]
  rw [e2]
  unfold sp_at
  split
  · refine Nat.le_trans (sp_cut_le _ _ _ _ _) ?_
    have : m / 2 ^ (u - p).toNat < 2 ^ s := by
      rw [Nat.div_lt_iff_lt_mul (Nat.pow_pos (by decide)), ← Nat.pow_add]
      exact Nat.lt_of_lt_of_le h2 (Nat.pow_le_pow_right (by decide) (by omega))
    omega
  · have h3 : m * 2 ^ (p - u).toNat ≤ 2 ^ (m.log2 + 1) * 2 ^ (p - u).toNat := Nat.mul_le_mul_right _ (by omega)
    rw [← Nat.pow_add] at h3
    exact Nat.le_trans h3 (Nat.pow_le_pow_right (by decide) (by omega))
theorem sp_at_lo (e s mode : Nat) (neg : Bool) {m : Nat} (hm : m ≠ 0) (p : Int) (more : Bool) (h : sp_at mode neg m p (sp_unit e s m p) more < 2 ^ (s - 1)) : sp_unit e s m p = sp_least e s := by
  obtain ⟨h1, h2⟩ := (Nat.log2_eq_iff hm).mp rfl
  refine Classical.byContradiction fun hn => ?_
  have hu : sp_unit e s m p = p + m.log2 - (s - 1 : Nat) := by
    unfold sp_unit at hn ⊢
    split
    · rename_i hq; rw [if_pos hq] at hn; exact absurd rfl hn
    · rfl
  rw [hu] at h
  unfold sp_at at h
  split at h
  · have h3 := sp_cut_ge mode neg m (p + m.log2 - (s - 1 : Nat) - p).toNat more
    have h4 : 2 ^ (s - 1) ≤ m / 2 ^ (p + m.log2 - (s - 1 : Nat) - p).toNat := by
      rw [Nat.le_div_iff_mul_le (Nat.pow_pos (by decide)), ← Nat.pow_add]
      exact Nat.le_trans (Nat.pow_le_pow_right (by decide) (by omega)) h1
    omega
  · have h3 : 2 ^ m.log2 * 2 ^ (p - (p + m.log2 - (s - 1 : Nat))).toNat ≤ m * 2 ^ (p - (p + m.log2 - (s - 1 : Nat))).toNat := Nat.mul_le_mul_right _ h1
    rw [← Nat.pow_add] at h3
    have h4 : 2 ^ (s - 1) ≤ 2 ^ (m.log2 + (p - (p + m.log2 - (s - 1 : Nat))).toNat) := Nat.pow_le_pow_right (by decide) (by omega)
    omega
