/-! PURE: rounding, on numbers -/
def sp_up (mode : Nat) (neg odd half rest : Bool) : Bool := match mode with
  | 0 => half && (rest || odd)
  | 1 => half
  | 2 => (half || rest) && !neg
  | 3 => (half || rest) && neg
  | _ => false
def sp_cut (mode : Nat) (neg : Bool) (m n : Nat) (more : Bool) : Nat :=
  if n = 0 then m else m / 2 ^ n + (sp_up mode neg (decide (m / 2 ^ n % 2 = 1)) (decide (m / 2 ^ (n - 1) % 2 = 1)) (decide (m % 2 ^ (n - 1) ≠ 0) || more)).toNat
/-- the magnitude m * 2^p (and a little more) counted in 2^unit -/
def sp_at (mode : Nat) (neg : Bool) (m : Nat) (p unit : Int) (more : Bool) : Nat :=
  if p ≤ unit then sp_cut mode neg m (unit - p).toNat more else m * 2 ^ (p - unit).toNat
def sp_least (e s : Nat) : Int := 2 - 2 ^ (e - 1) - (s - 1 : Nat)
def sp_unit (e s m : Nat) (p : Int) : Int := if p + m.log2 - (s - 1 : Nat) < sp_least e s then sp_least e s else p + m.log2 - (s - 1 : Nat)
def sp_inf (e s : Nat) : Nat := (2 ^ e - 1) * 2 ^ (s - 1)
def sp_pk (e s mode : Nat) (neg : Bool) (m : Nat) (p : Int) (more : Bool) : Nat := (sp_unit e s m p - sp_least e s).toNat * 2 ^ (s - 1) + sp_at mode neg m p (sp_unit e s m p) more
/-- is what lies beyond the greatest infinite? -/
def sp_end (mode : Nat) (neg : Bool) : Bool := match mode with
  | 0 => true
  | 1 => true
  | 2 => !neg
  | 3 => neg
  | _ => false
def sp_round (e s mode : Nat) (neg : Bool) (m : Nat) (p : Int) (more : Bool) : Nat :=
  if sp_pk e s mode neg m p more < sp_inf e s then sp_pk e s mode neg m p more else if sp_end mode neg then sp_inf e s else sp_inf e s - 1
/-- the mark of a shift keeps all that a rounding asks -/
theorem sp_mark (m : Nat) {n : Nat} (hn : 1 ≤ n) : fc_sr (4 * m) n / 4 = m / 2 ^ n ∧ fc_sr (4 * m) n / 2 % 2 = m / 2 ^ (n - 1) % 2 ∧ fc_sr (4 * m) n % 2 = if m % 2 ^ (n - 1) = 0 then 0 else 1 := by
  rcases Nat.lt_or_ge n 2 with h | h
  · have : n = 1 := by omega
    subst this
    have e : fc_sr (4 * m) 1 = 2 * m := by
      unfold fc_sr
      rw [Nat.pow_one, if_pos (by omega), Nat.or_zero]
      omega
    rw [e, Nat.pow_one, show (1 - 1 : Nat) = 0 from rfl, Nat.pow_zero, Nat.mod_one, Nat.div_one]
    refine ⟨by omega, by omega, ?_⟩
    rw [if_pos rfl]
    omega
  · obtain ⟨j, rfl⟩ : ∃ j, n = j + 2 := ⟨n - 2, by omega⟩
    have hp : 0 < 2 ^ j := Nat.pow_pos (by decide)
    have e2 : 2 ^ (j + 2) = 4 * 2 ^ j := by rw [Nat.pow_add]; omega
    have e1 : 2 ^ (j + 2 - 1) = 2 ^ j * 2 := by rw [show j + 2 - 1 = j + 1 by omega, Nat.pow_succ]
    have d1 : 4 * m / 2 ^ (j + 2) = m / 2 ^ j := by rw [e2, Nat.mul_div_mul_left _ _ (by decide)]
    have d2 : 4 * m % 2 ^ (j + 2) = 4 * (m % 2 ^ j) := by rw [e2, Nat.mul_mod_mul_left]
    have q4 : m / 2 ^ (j + 2) = m / 2 ^ j / 4 := by rw [e2, Nat.mul_comm, Nat.div_div_eq_div_mul]
    have q2 : m / 2 ^ (j + 2 - 1) = m / 2 ^ j / 2 := by rw [e1, Nat.div_div_eq_div_mul]
    have m2 : m % 2 ^ (j + 2 - 1) = m % 2 ^ j + 2 ^ j * (m / 2 ^ j % 2) := by rw [e1, Nat.mod_mul]
    rw [q4, q2, m2]
    unfold fc_sr
    rw [d1, d2]
    generalize m / 2 ^ j = x
    generalize m % 2 ^ j = y
    have z : (y + 2 ^ j * (x % 2) = 0) ↔ (y = 0 ∧ x % 2 = 0) := by
      constructor
      · intro h0
        refine ⟨by omega, ?_⟩
        rcases Nat.mod_two_eq_zero_or_one x with h1 | h1
        · exact h1
        · rw [h1] at h0; omega
      · rintro ⟨rfl, h1⟩
        rw [h1, Nat.mul_zero]
    by_cases hy : y = 0
    · subst hy
      rw [if_pos rfl, Nat.or_zero]
      refine ⟨rfl, rfl, ?_⟩
      by_cases hx : x % 2 = 0
      · rw [if_pos (z.mpr ⟨rfl, hx⟩)]; exact hx
      · rw [if_neg (fun h0 => hx (z.mp h0).2)]; omega
    · have o2 := fc_or1_div x (b := 2) (by decide)
      have o1 := fc_or1_div x (b := 1) (by decide)
      have o0 := fc_or1_mod x (b := 1) (by decide)
      rw [show (2 : Nat) ^ 2 = 4 from rfl] at o2
      rw [Nat.pow_one] at o1 o0
      rw [if_neg (by omega), if_neg (fun h0 => hy (z.mp h0).1), o2, o1]
      exact ⟨rfl, rfl, by omega⟩
/-- fewer places, the rest in the mark -/
theorem sp_cut_less (mode : Nat) (neg : Bool) (Q : Nat) {n : Nat} (hn : 1 ≤ n) (j : Nat) (more : Bool) : sp_cut mode neg Q (n + j) more = sp_cut mode neg (Q / 2 ^ j) n (more || decide (Q % 2 ^ j ≠ 0)) := by
  have hp : 0 < 2 ^ j := Nat.pow_pos (by decide)
  unfold sp_cut
  rw [if_neg (by omega), if_neg (by omega), Nat.add_comm n j, Nat.div_div_eq_div_mul, Nat.div_div_eq_div_mul, ← Nat.pow_add, ← Nat.pow_add, show j + n - 1 = j + (n - 1) by omega]
  have e : (decide (Q % 2 ^ (j + (n - 1)) ≠ 0) || more) = (decide (Q / 2 ^ j % 2 ^ (n - 1) ≠ 0) || (more || decide (Q % 2 ^ j ≠ 0))) := by
    rw [Nat.pow_add, Nat.mod_mul]
    by_cases h1 : Q % 2 ^ j = 0
    · by_cases h2 : Q / 2 ^ j % 2 ^ (n - 1) = 0
      · simp [h1, h2]
      · have : 2 ^ j * (Q / 2 ^ j % 2 ^ (n - 1)) ≠ 0 := Nat.mul_ne_zero (by omega) h2
        simp [h1, h2, this]
    · have : Q % 2 ^ j + 2 ^ j * (Q / 2 ^ j % 2 ^ (n - 1)) ≠ 0 := by omega
      simp [h1, this]
  rw [e]
theorem sp_round_less (e s mode : Nat) (neg : Bool) (Q : Nat) (p : Int) (more : Bool) (j : Nat) (hq : s ≤ (Q / 2 ^ j).log2) (hs : 1 ≤ s) : sp_round e s mode neg Q p more = sp_round e s mode neg (Q / 2 ^ j) (p + j) (more || decide (Q % 2 ^ j ≠ 0)) := by
  have h0 : Q / 2 ^ j ≠ 0 := by
    intro h
    rw [h, Nat.log2_zero] at hq
    omega
  have hl := fc_log2_div h0
  have hu : sp_unit e s Q p = sp_unit e s (Q / 2 ^ j) (p + j) := by
    unfold sp_unit
    rw [hl, show p + ((Q / 2 ^ j).log2 + j : Nat) - ((s - 1 : Nat) : Int) = p + j + (Q / 2 ^ j).log2 - (s - 1 : Nat) by omega]
  have hg : p + j + (Q / 2 ^ j).log2 - (s - 1 : Nat) ≤ sp_unit e s (Q / 2 ^ j) (p + j) := by
    unfold sp_unit
    split <;> omega
  have hpk : sp_pk e s mode neg Q p more = sp_pk e s mode neg (Q / 2 ^ j) (p + j) (more || decide (Q % 2 ^ j ≠ 0)) := by
    unfold sp_pk
    rw [hu]
    generalize sp_unit e s (Q / 2 ^ j) (p + j) = u at hg
    unfold sp_at
    rw [if_pos (by omega), if_pos (by omega), show (u - p).toNat = (u - (p + j)).toNat + j by omega, sp_cut_less mode neg Q (by omega)]
  unfold sp_round
  rw [hpk]
/-- the quotient with 24 places more and a mark, and the quotient with 40 -/
theorem sp_quo (a : Nat) {b : Nat} (hb : 0 < b) : a * 2 ^ 40 / b / 2 ^ 16 = a * 2 ^ 24 / b ∧ ((decide (a * 2 ^ 40 % b ≠ 0) || decide (a * 2 ^ 40 / b % 2 ^ 16 ≠ 0)) = decide (a * 2 ^ 24 % b ≠ 0)) := by
  have e : a * 2 ^ 40 = a * 2 ^ 24 * 2 ^ 16 := by rw [Nat.mul_assoc, ← Nat.pow_add]
  have h1 : a * 2 ^ 40 / b / 2 ^ 16 = a * 2 ^ 24 / b := by
    rw [e, Nat.div_div_eq_div_mul, Nat.mul_div_mul_right _ _ (by decide)]
  refine ⟨h1, ?_⟩
  have hA := Nat.div_add_mod (a * 2 ^ 40) b
  have hB := Nat.div_add_mod (a * 2 ^ 24) b
  have hC := Nat.div_add_mod (a * 2 ^ 40 / b) (2 ^ 16)
  rw [h1] at hC
  have key : a * 2 ^ 24 % b = 0 ↔ (a * 2 ^ 40 % b = 0 ∧ a * 2 ^ 40 / b % 2 ^ 16 = 0) := by
    constructor
    · intro h
      have h2 : a * 2 ^ 40 = b * (a * 2 ^ 24 / b * 2 ^ 16) := by rw [← Nat.mul_assoc, e]; rw [h, Nat.add_zero] at hB; rw [hB]
      have h3 : a * 2 ^ 40 % b = 0 := by rw [h2]; exact Nat.mul_mod_right _ _
      refine ⟨h3, ?_⟩
      rw [h2, Nat.mul_div_cancel_left _ hb]
      exact Nat.mul_mod_left _ _
    · rintro ⟨h2, h3⟩
      rw [h3, Nat.add_zero] at hC
      rw [h2, Nat.add_zero, ← hC, e] at hA
      have h4 : b * (a * 2 ^ 24 / b) * 2 ^ 16 = a * 2 ^ 24 * 2 ^ 16 := by
        rw [← hA, Nat.mul_assoc, Nat.mul_comm (2 ^ 16)]
      have h5 : b * (a * 2 ^ 24 / b) = a * 2 ^ 24 := Nat.eq_of_mul_eq_mul_right (by decide) h4
      rw [h5] at hB
      exact Nat.add_left_cancel (hB.trans (Nat.add_zero _).symm)
  by_cases h : a * 2 ^ 24 % b = 0
  · obtain ⟨h2, h3⟩ := key.mp h
    simp [h, h2, h3]
  · by_cases h2 : a * 2 ^ 40 % b = 0
    · have h3 : a * 2 ^ 40 / b % 2 ^ 16 ≠ 0 := fun q => h (key.mpr ⟨h2, q⟩)
      simp [h, h3]
    · simp [h, h2]
theorem sp_sqrt_le {a b : Nat} (h : a * a ≤ b * b) : a ≤ b := by
  refine Classical.byContradiction fun hn => ?_
  have : (b + 1) * (b + 1) ≤ a * a := Nat.mul_le_mul (by omega) (by omega)
  rw [Nat.add_mul, Nat.mul_add] at this
  omega
theorem sp_sqrt_lt {a b : Nat} (h : a * a < b * b) : a < b := by
  refine Classical.byContradiction fun hn => ?_
  have : b * b ≤ a * a := Nat.mul_le_mul (by omega) (by omega)
  omega
/-- the root with 24 places more and a mark, and the root with 40 -/
theorem sp_root {x r s : Nat} (h1 : s * s ≤ x) (h2 : x < (s + 1) * (s + 1)) (h3 : r * r ≤ x * 2 ^ 16) (h4 : x * 2 ^ 16 < (r + 1) * (r + 1)) : r / 2 ^ 8 = s ∧ ((decide (r * r ≠ x * 2 ^ 16) || decide (r % 2 ^ 8 ≠ 0)) = decide (s * s ≠ x)) := by
  have hR := Nat.div_add_mod r (2 ^ 8)
  have hm : r % 2 ^ 8 < 2 ^ 8 := Nat.mod_lt _ (by decide)
  have sq : ∀ z : Nat, 2 ^ 8 * z * (2 ^ 8 * z) = z * z * 2 ^ 16 := by
    intro z
    rw [Nat.mul_mul_mul_comm, Nat.mul_comm (2 ^ 8 * 2 ^ 8)]
  have l1 : 2 ^ 8 * s ≤ r := by
    have : 2 ^ 8 * s * (2 ^ 8 * s) < (r + 1) * (r + 1) := by
      rw [sq]
      exact Nat.lt_of_le_of_lt (Nat.mul_le_mul_right _ h1) h4
    have := sp_sqrt_lt this
    omega
  have l2 : r < 2 ^ 8 * (s + 1) := by
    apply sp_sqrt_lt
    rw [sq]
    exact Nat.lt_of_le_of_lt h3 (Nat.mul_lt_mul_of_pos_right h2 (by decide))
  have hd : r / 2 ^ 8 = s := by omega
  refine ⟨hd, ?_⟩
  rw [hd] at hR
  have key : s * s = x ↔ (r * r = x * 2 ^ 16 ∧ r % 2 ^ 8 = 0) := by
    constructor
    · intro h
      have l3 : r ≤ 2 ^ 8 * s := by
        apply sp_sqrt_le
        rw [sq, h]; exact h3
      have er : r = 2 ^ 8 * s := by omega
      exact ⟨by rw [er, sq, h], by omega⟩
    · rintro ⟨h5, h6⟩
      have er : r = 2 ^ 8 * s := by omega
      rw [er, sq] at h5
      exact Nat.eq_of_mul_eq_mul_right (by decide) h5
  by_cases h : s * s = x
  · obtain ⟨h5, h6⟩ := key.mp h
    simp [h, h5, h6]
  · by_cases h5 : r * r = x * 2 ^ 16
    · have h6 : r % 2 ^ 8 ≠ 0 := fun q => h (key.mpr ⟨h5, q⟩)
      simp [h, h6]
    · simp [h, h5]
